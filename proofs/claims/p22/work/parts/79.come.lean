set_option maxHeartbeats 4000000 in
set_option maxRecDepth 100000 in
theorem k_X5_come (l : Launch) (dC : Nat → ClassId) (dI : Nat → Nat → Nat) (K : Nat → ClassId) (L : List Nat) (f : Nat → va_E) {np nc ns lk lc tp cp gp : Nat} {G J mk st : Nat → Int32} {ap : Nat → Int64} {kd sn : Nat → Nat} {tk : Nat} (hI : cI K np nc ns lk lc tp cp gp G J mk st ap kd sn L f) (h0 : Nat) (hm_h0 : h0 ∈ L) (hk_h0 : kd h0 = 1) (x : Int32) (y : Int32) (hg7 : G 7 = nI np) (hg8 : G 8 = nI nc) (hg9 : G 9 = nI ns) (hg12 : G 12 = nI tk) (hnp : np ≤ 8) (hnc : nc ≤ 40) (hns : ns ≤ 1000) (hLn : gN L) (sz : Nat) : gAi l yX5_come cX5_come 6 14 4 48 (dC, dI) K L f sz (fun _ => True) [.ref h0, .int x, .int y] (fun r L' f' => ∃ (G2 : Nat → Int32) (J2 : Nat → Int32) (tp2 : Nat) (cp2 : Nat) (gp2 : Nat) (lk2 : Nat) (ns2 : Nat) (kd2 : Nat → Nat) (sn2 : Nat → Nat), cI K np nc ns2 lk2 lc tp2 cp2 gp2 G2 J2 mk st ap kd2 sn2 L' f' ∧ cE L L' kd kd2 sn sn2 ∧ gN L' ∧ (∀ a ∈ L', a ∈ L ∨ sz ≤ a) ∧ (gS [9, 11, 16] G G2) ∧ (G2 9 = nI ns2) ∧ (ns2 ≤ 1000)) := by
  refine Met.ofW (cc := cX5_come) (maxL := 6) (ret := (some .int)) (by decide) rfl ?_
  intro p e s m args below meth c s₁ B hml hv
  obtain ⟨rfl, hsz, hP, hK, hex⟩ := hv
  subst hsz
  have hD : va_D (fun q : Nat => q ∈ L ∨ s.heap.size ≤ q) (va_pl L f) := g_D hLn (fun a h => Or.inl h) f
  generalize hAe : (fun q : Nat => q ∈ L ∨ s.heap.size ≤ q) = A at hD ⊢
  have hA : ∀ q : Nat, s.heap.size ≤ q → A q := fun q h => by rw [← hAe]; exact Or.inr h
  have hLA : ∀ a ∈ L, A a := fun a h => by rw [← hAe]; exact Or.inl h
  have hCE : cE L L kd kd sn sn := cE.rf
  have hx := B.exec
  have hb := B.bytes
  have hr := B.returns
  have hlocks := B.notSynchronized
  have hts0 := atoms_spec (ws := Cond.code yX5_come cX5_come 6 (some .int) :: lw_B) B.pre
  have hts : ∀ w ∈ lw_B, w.before _ s = true := fun w h => hts0 w (List.mem_cons_of_mem _ h)
  have hown : s.vm.findClass RX5 = some m.cls := findClass_of_methodNamed B.named
  have hS : va_S A s.heap s.heap [] := va_S.rf
  have hGS : gS [9, 11, 16] G G := gS.rf
  have hl := lv_entry ([.ref h0, .int x, .int y]) (n := 6) (Nat.le_of_ble_eq_true rfl)
  rw [lg_entry_eq]
  generalize (lg_sl ([.ref h0, .int x, .int y]) ++ List.replicate (6 - (lg_sl ([.ref h0, .int x, .int y])).length) Slot.unset).toArray = ls at hl ⊢
  have hl : lv_has ls 6 [(0, .ref h0), (1, .int x), (2, .int y)] := hl
  refine lv_iload_n hx hb dX5_come_0 rfl (lv_at hl 1 rfl) ?_
  refine k_S ⟨hx, hb, hml, hown, hts⟩ (c_isReader l x) 1 wm_85 wm_86 wm_67 wm_87 (by decide +kernel) ⟨Nat.le_of_ble_eq_true rfl, Nat.le_of_ble_eq_true rfl⟩ rfl hl.1 rfl (Nat.le_of_ble_eq_true rfl) dX5_come_1 ⟨Nat.le_of_ble_eq_true rfl, Nat.le_of_ble_eq_true rfl⟩ hS hP (fun r_1 H locs hpr_1 hP hS => ?_)
  refine lv_if_eq (tgt := 15) hx hb dX5_come_4 (by decide) (fun c_2 => ?_) (fun c_2 => ?_)
  · skip
    have g_2 := k_ff hpr_1 c_2
    refine lv_iconst (v := (-1)) hx hb dX5_come_15 (by decide) ?_
    refine W.widen (k := 4) (n := 48) (Nat.le_of_ble_eq_true rfl) (Nat.le_of_ble_eq_true rfl) ?_
    exact W.iret (v := (-1)) hx hb hr (fun t ht hW => ⟨⟨(-1), (L, f), rfl, ⟨G, J, tp, cp, gp, lk, ns, kd, sn, hI, hCE, hLn, (fun a h => by have h9 := hLA a h; rw [← hAe] at h9; exact h9), hGS, hg9, by omega⟩, by show va_P (dC, dI) vwCl (va_pl L f) t.heap; rw [ht]; exact hP⟩, hS.F ht⟩) hS.2.2 dX5_come_16
  · skip
    have g_2 := k_ft hpr_1 c_2
    have gc_rd := g_2
    obtain ⟨rd, hrd, rfl⟩ := k_ix (n := 100) (x := x) g_2 (by omega)
    refine lv_aload_n hx hb dX5_come_7 rfl (lv_at hl 0 rfl) ?_
    refine lv_iload_n hx hb dX5_come_8 rfl (lv_at hl 2 rfl) ?_
    obtain ⟨fs3, hF3, -, -⟩ := hI.o hm_h0 hk_h0 rfl (ci := 5) rfl rfl
    refine gc_R (ci := 5) ⟨hx, hb, hml, hown, hts⟩ (k_X5_isPage l dC dI K L f hI h0 hm_h0 hk_h0 y hg7 hnp) 1 wm_88 wm_89 wm_90 wm_67 wm_91 (by decide +kernel) ⟨Nat.le_of_ble_eq_true rfl, Nat.le_of_ble_eq_true rfl⟩ hK rfl hm_h0 hF3 rfl hl.1 rfl (Nat.le_of_ble_eq_true rfl) dX5_come_9 ⟨Nat.le_of_ble_eq_true rfl, Nat.le_of_ble_eq_true rfl⟩ hS hP (fun r_4 H locs hpr_4 hP hS => ?_)
    refine lv_if_ne (tgt := 17) hx hb dX5_come_12 (by decide) (fun c_5 => ?_) (fun c_5 => ?_)
    · skip
      have g_5 := k_ft hpr_4 c_5
      have gc_pg := g_5
      obtain ⟨pg, hpg, rfl⟩ := k_ix (n := np) (x := y) g_5 (by omega)
      refine lv_aload_n hx hb dX5_come_17 rfl (lv_at hl 0 rfl) ?_
      obtain ⟨fs6, b_7, hF6, hv6, hm_b_7, hk_b_7⟩ := hI.gR hm_h0 hk_h0 0 (ci := 5) (t := 2) ⟨rfl, rfl, by decide, rfl⟩
      refine g_get (ci := 5) (v := .ref b_7) (C := RX5) (T := TX5) (N := 17) hx hb hts uB5 hown hK hP hm_h0 hF6 rfl 0 (by decide) wm_292 hv6 dX5_come_18 ?_
      refine lv_iload_n hx hb dX5_come_21 rfl (lv_at hl 2 rfl) ?_
      obtain ⟨g8, hF8, hgz8⟩ := hI.a2 hm_b_7 hk_b_7
      obtain ⟨b_9, hm_b_9, hk_b_9, hv8⟩ := hgz8 pg (by omega)
      refine g_aldR (t := 3) hx hb hK hP hm_b_7 hF8 rfl (vp_in_nI (by omega) (by decide)) (by rw [nI_clamp (by omega)]; exact hv8) dX5_come_22 ?_
      obtain ⟨pk0, hs_b_9⟩ : ∃ z9, sn b_9 = z9 := ⟨_, rfl⟩
      obtain ⟨-, -, -, hpk1, hpk4⟩ := hI.g5 hm_b_9 hk_b_9 1 (ci := 2) ⟨rfl, rfl, by decide, rfl⟩
      rw [hs_b_9] at hpk1 hpk4
      refine lv_astore_n (lv' := [(3, .ref b_9), (0, .ref h0), (1, .int (nI rd)), (2, .int (nI pg))]) hx hb dX5_come_23 rfl hl (by decide) rfl (fun ls hl => ?_)
      refine lv_aload_n hx hb dX5_come_24 rfl (lv_at hl 1 rfl) ?_
      obtain ⟨fs10, hF10, hv10⟩ := hI.gG hm_h0 hk_h0 9 (ci := 5) ⟨rfl, rfl, by decide, rfl⟩
      rw [hg9] at hv10
      refine g_get (ci := 5) (v := .int (nI ns)) (C := RX5) (T := TX5) (N := 17) hx hb hts uB5 hown hK hP hm_h0 hF10 rfl 9 (by decide) wm_74 hv10 dX5_come_25 ?_
      refine lv_sipush (v := 1000) hx hb dX5_come_28 (by decide) ?_
      refine lv_aload_n hx hb dX5_come_31 rfl (lv_at hl 0 rfl) ?_
      obtain ⟨fs11, hF11, hv11, hq1_11, hq4_11⟩ := hI.g5 hm_b_9 hk_b_9 1 (ci := 2) ⟨rfl, rfl, by decide, rfl⟩
      rw [hs_b_9] at hv11 hq1_11 hq4_11
      refine g_get (ci := 2) (v := .int (nI pk0)) (C := RX2) (T := TX2) (N := 4) hx hb hts uB2 hown hK hP hm_b_9 hF11 rfl 1 (by decide) wm_397 hv11 dX5_come_32 ?_
      refine lv_isub hx hb dX5_come_35 ?_
      refine lv_topi (fun x_12 ex_12 => ?_)
      obtain rfl : x_12 = nI (1000 - pk0) := ex_12.trans (pk_sub (a := 1000) (b := pk0) (by omega))
      refine lv_icmp_le (tgt := 42) hx hb dX5_come_36 (by decide) (fun c_13 => ?_) (fun c_13 => ?_)
      · skip
        have nc_13 : ns ≤ (1000 - pk0) := (bn_le (a := ns) (b := (1000 - pk0)) (by omega) (by omega)).mp (show nI ns ≤ nI (1000 - pk0) from c_13)
        refine lv_aload_n hx hb dX5_come_42 rfl (lv_at hl 1 rfl) ?_
        refine lv_iload_n hx hb dX5_come_43 rfl (lv_at hl 2 rfl) ?_
        refine lv_aload_n hx hb dX5_come_44 rfl (lv_at hl 0 rfl) ?_
        obtain ⟨fs14, hF14, -, -⟩ := hI.o hm_h0 hk_h0 rfl (ci := 5) rfl rfl
        refine gc_Ml (ci := 5) ⟨hx, hb, hml, hown, hts⟩ (k_X5_seekBest l dC dI K L f hI h0 hm_h0 hk_h0 rd b_9 hm_b_9 hk_b_9 hrd hg8 hg12 hnc hLn) 2 wm_419 wm_420 wm_421 wm_67 wm_422 (by decide +kernel) ⟨Nat.le_of_ble_eq_true rfl, Nat.le_of_ble_eq_true rfl⟩ hK rfl hm_h0 hF14 rfl hl.1 rfl (Nat.le_of_ble_eq_true rfl) dX5_come_45 ⟨Nat.le_of_ble_eq_true rfl, Nat.le_of_ble_eq_true rfl⟩ hLA hS hP (fun r_15 fw_16 H locs hpw hP hS => ?_)
        obtain ⟨J_17, hI, hjx⟩ := hpw
        have hD : va_D A (va_pl L fw_16) := g_D hLn hLA fw_16
        obtain ⟨pk, of, hj5, hpk, hj6, hof⟩ := hjx
        refine lv_pop2_2 hx hb dX5_come_48 rfl ?_
        refine lv_aload_n hx hb dX5_come_49 rfl (lv_at hl 1 rfl) ?_
        refine lv_aload_n hx hb dX5_come_50 rfl (lv_at hl 0 rfl) ?_
        obtain ⟨fs18, hF18, -, -⟩ := hI.o hm_h0 hk_h0 rfl (ci := 5) rfl rfl
        refine gc_Mv (ci := 5) ⟨hx, hb, hml, hown, hts⟩ (k_X5_keepGivenAndPrices l dC dI K L fw_16 hI h0 hm_h0 hk_h0 b_9 hm_b_9 hk_b_9 hj5 hpk hj6 hof hnc (Nat.le_refl _) (by rw [hs_b_9]; omega) (by rw [hs_b_9]; omega) hLn) 1 wm_518 wm_519 wm_520 wm_67 wm_521 (by decide +kernel) ⟨Nat.le_of_ble_eq_true rfl, Nat.le_of_ble_eq_true rfl⟩ hK rfl hm_h0 hF18 rfl hl.1 rfl (Nat.le_of_ble_eq_true rfl) dX5_come_51 ⟨Nat.le_of_ble_eq_true rfl, Nat.le_of_ble_eq_true rfl⟩ hLA hS hP (fun fw_19 H locs hpw hP hS => ?_)
        obtain ⟨tp_20, cp_21, hI⟩ := hpw
        have hD : va_D A (va_pl L fw_19) := g_D hLn hLA fw_19
        rw [hs_b_9] at hI
        refine lv_aload_n hx hb dX5_come_54 rfl (lv_at hl 1 rfl) ?_
        obtain ⟨fs22, hF22, hv22⟩ := hI.gG hm_h0 hk_h0 9 (ci := 5) ⟨rfl, rfl, by decide, rfl⟩
        rw [hg9] at hv22
        refine g_get (ci := 5) (v := .int (nI ns)) (C := RX5) (T := TX5) (N := 17) hx hb hts uB5 hown hK hP hm_h0 hF22 rfl 9 (by decide) wm_74 hv22 dX5_come_55 ?_
        refine lv_istore (lv' := [(4, .int (nI ns)), (3, .ref b_9), (0, .ref h0), (1, .int (nI rd)), (2, .int (nI pg))]) hx hb dX5_come_58 hl (by decide) rfl (fun ls hl => ?_)
        refine lv_iconst (v := 0) hx hb dX5_come_60 (by decide) ?_
        refine lv_istore (lv' := [(5, .int 0), (4, .int (nI ns)), (3, .ref b_9), (0, .ref h0), (1, .int (nI rd)), (2, .int (nI pg))]) hx hb dX5_come_61 hl (by decide) rfl (fun ls hl => ?_)
        have hCE0 := hCE
        have hGS0 := hGS
        refine W.widen (k := 4 - pk0) (n := 12 * (4 - pk0)) (Nat.zero_le _) (Nat.zero_le _) ?_
        refine k_lxc (pcx := 97) (cx := 4) (sx := 48) (fun n => 4 - n) (fun n => 12 * (4 - n)) (fun n H locs ls => ∃ (fv : Nat → va_E) (Lv : List Nat) (kdv snv : Nat → Nat) (lkv nsv j : Nat) (Gv : Nat → Int32) (bf9 : Int32), pk0 - j = n ∧ cI K np nc nsv lkv lc tp_20 cp_21 pk0 Gv J_17 mk st ap kdv snv Lv fv ∧ cE L Lv kd kdv sn snv ∧ gN Lv ∧ (∀ a ∈ Lv, A a) ∧ gS [9, 11, 16] G Gv ∧ Gv 9 = nI nsv ∧ j ≤ pk0 ∧ nsv + pk0 ≤ 1000 + j ∧ snv b_9 = pk0 ∧ va_P (dC, dI) vwCl (va_pl Lv fv) H ∧ va_S A s.heap H locs ∧ lv_has ls 6 [(0, .ref h0), (1, .int (nI rd)), (2, .int (nI pg)), (3, .ref b_9), (4, .int bf9), (5, .int (nI j))]) (fun H locs ls => ∃ (fv : Nat → va_E) (Lv : List Nat) (kdv snv : Nat → Nat) (lkv nsv j : Nat) (Gv : Nat → Int32) (bf9 : Int32), cI K np nc nsv lkv lc tp_20 cp_21 pk0 Gv J_17 mk st ap kdv snv Lv fv ∧ cE L Lv kd kdv sn snv ∧ gN Lv ∧ (∀ a ∈ Lv, A a) ∧ gS [9, 11, 16] G Gv ∧ Gv 9 = nI nsv ∧ j ≤ pk0 ∧ nsv + pk0 ≤ 1000 + j ∧ snv b_9 = pk0 ∧ va_P (dC, dI) vwCl (va_pl Lv fv) H ∧ va_S A s.heap H locs ∧ lv_has ls 6 [(0, .ref h0), (1, .int (nI rd)), (2, .int (nI pg)), (3, .ref b_9), (4, .int bf9), (5, .int (nI j))]) (fun H locs ls hI_ => ?_) (fun n H locs ls hI_ hE ih => ?_) pk0 _ _ _ ⟨fw_19, L, kd, sn, lk, ns, 0, G, _, by omega, hI, cE.rf, hLn, hLA, gS.rf, hg9, Nat.zero_le _, by omega, hs_b_9, hP, hS, lv_sub hl [3, 4, 5, 2, 1, 0] rfl⟩
        · skip
          obtain ⟨fv, Lv, kdv, snv, lkv, nsv, j, Gv, bf9, hI, hCE9, hLn, hLA, hGSL, hg9, hj, hnsj, hsb9, hP, hS, hl⟩ := hI_
          have hx_h0 := (hCE9 h0 hm_h0).2 (by rw [hk_h0]; decide)
          have hk_h0 := hx_h0.1.trans hk_h0
          have hm_h0 := (hCE9 h0 hm_h0).1
          have hx_b_9 := (hCE9 b_9 hm_b_9).2 (by rw [hk_b_9]; decide)
          have hk_b_9 := hx_b_9.1.trans hk_b_9
          have hm_b_9 := (hCE9 b_9 hm_b_9).1
          have hs_b_9 := hsb9
          have hCE := hCE0.tr hCE9
          have hg7 := (hGSL 7 (by decide)).trans hg7
          have hg8 := (hGSL 8 (by decide)).trans hg8
          have hg12 := (hGSL 12 (by decide)).trans hg12
          have hGS : gS [9, 11, 16] G Gv := hGS0.tr hGSL (by decide) (by decide)
          have hD : va_D A (va_pl Lv fv) := g_D hLn hLA fv
          refine lv_aload_n hx hb dX5_come_97 rfl (lv_at hl 0 rfl) ?_
          obtain ⟨fs23, hF23, hv23⟩ := hI.gG hm_h0 hk_h0 9 (ci := 5) ⟨rfl, rfl, by decide, rfl⟩
          rw [hg9] at hv23
          refine g_get (ci := 5) (v := .int (nI nsv)) (C := RX5) (T := TX5) (N := 17) hx hb hts uB5 hown hK hP hm_h0 hF23 rfl 9 (by decide) wm_74 hv23 dX5_come_98 ?_
          refine lv_iload hx hb dX5_come_101 (lv_at hl 4 rfl) ?_
          refine lv_isub hx hb dX5_come_103 ?_
          refine lv_topi (fun x_24 ex_24 => ?_)
          refine W.widen (k := 4) (n := 48) (Nat.le_of_ble_eq_true rfl) (Nat.le_of_ble_eq_true rfl) ?_
          exact W.iret (v := x_24) hx hb hr (fun t ht hW => ⟨⟨x_24, (Lv, fv), rfl, ⟨Gv, J_17, tp_20, cp_21, pk0, lkv, nsv, kdv, snv, hI, hCE, hLn, (fun a h => by have h9 := hLA a h; rw [← hAe] at h9; exact h9), hGS, hg9, by omega⟩, by show va_P (dC, dI) vwCl (va_pl Lv fv) t.heap; rw [ht]; exact hP⟩, hS.F ht⟩) hS.2.2 dX5_come_104
        · skip
          obtain ⟨fv, Lv, kdv, snv, lkv, nsv, j, Gv, bf9, hmu, hI, hCE9, hLn, hLA, hGSL, hg9, hj, hnsj, hsb9, hP, hS, hl⟩ := hI_
          have hx_h0 := (hCE9 h0 hm_h0).2 (by rw [hk_h0]; decide)
          have hk_h0 := hx_h0.1.trans hk_h0
          have hm_h0 := (hCE9 h0 hm_h0).1
          have hx_b_9 := (hCE9 b_9 hm_b_9).2 (by rw [hk_b_9]; decide)
          have hk_b_9 := hx_b_9.1.trans hk_b_9
          have hm_b_9 := (hCE9 b_9 hm_b_9).1
          have hs_b_9 := hsb9
          have hCE := hCE0.tr hCE9
          have hg7 := (hGSL 7 (by decide)).trans hg7
          have hg8 := (hGSL 8 (by decide)).trans hg8
          have hg12 := (hGSL 12 (by decide)).trans hg12
          have hGS : gS [9, 11, 16] G Gv := hGS0.tr hGSL (by decide) (by decide)
          have hD : va_D A (va_pl Lv fv) := g_D hLn hLA fv
          have hCL := hCE9
          have hGL := hGSL
          refine lv_iload hx hb dX5_come_63 (lv_at hl 5 rfl) ?_
          refine lv_aload_n hx hb dX5_come_65 rfl (lv_at hl 3 rfl) ?_
          obtain ⟨fs25, hF25, hv25, hq1_25, hq4_25⟩ := hI.g5 hm_b_9 hk_b_9 1 (ci := 2) ⟨rfl, rfl, by decide, rfl⟩
          rw [hs_b_9] at hv25 hq1_25 hq4_25
          refine g_get (ci := 2) (v := .int (nI pk0)) (C := RX2) (T := TX2) (N := 4) hx hb hts uB2 hown hK hP hm_b_9 hF25 rfl 1 (by decide) wm_397 hv25 dX5_come_66 ?_
          refine lv_icmp_ge (tgt := 97) hx hb dX5_come_69 (by decide) (fun c_26 => ?_) (fun c_26 => ?_)
          · skip
            have nc_26 : pk0 ≤ j := (bn_le (a := pk0) (b := j) (by omega) (by omega)).mp (show nI pk0 ≤ nI j from c_26)
            exact W.widen (k := 4) (n := 48) (by show 4 - n ≤ 4; omega) (by show 12 * (4 - n) ≤ 48; omega) (hE _ _ _ ⟨fv, Lv, kdv, snv, lkv, nsv, j, Gv, _, hI, hCL, hLn, hLA, hGL, hg9, hj, hnsj, hs_b_9, hP, hS, lv_sub hl [0, 1, 2, 3, 4, 5] rfl⟩)
          · skip
            have nc_26 : ¬ (pk0 ≤ j) := fun q => c_26 (show nI pk0 ≤ nI j from (bn_le (a := pk0) (b := j) (by omega) (by omega)).mpr q)
            refine lv_aload_n hx hb dX5_come_72 rfl (lv_at hl 0 rfl) ?_
            obtain ⟨fs27, b_28, hF27, hv27, hm_b_28, hk_b_28⟩ := hI.gR hm_h0 hk_h0 5 (ci := 5) (t := 7) ⟨rfl, rfl, by decide, rfl⟩
            refine g_get (ci := 5) (v := .ref b_28) (C := RX5) (T := TX5) (N := 17) hx hb hts uB5 hown hK hP hm_h0 hF27 rfl 5 (by decide) wm_424 hv27 dX5_come_73 ?_
            refine lv_iload hx hb dX5_come_76 (lv_at hl 5 rfl) ?_
            obtain ⟨g29, hF29, hgz29⟩ := hI.a7 hm_b_28 hk_b_28
            refine g_iald hx hb hK hP hm_b_28 hF29 (vp_in_nI (by omega) (by decide)) dX5_come_78 ?_
            refine lv_topi (fun x_30 ex_30 => ?_)
            rw [nI_clamp (by omega)] at ex_30
            have hVx_30 : vld nc x_30 := by rw [ex_30]; exact hgz29 j (by omega)
            refine lv_iconst (v := (-1)) hx hb dX5_come_79 (by decide) ?_
            refine lv_icmp_eq (tgt := 91) hx hb dX5_come_80 (by decide) (fun c_31 => ?_) (fun c_31 => ?_)
            · skip
              refine lv_iinc (v := nI (j + 1)) (lv' := [(5, .int (nI (j + 1))), (0, .ref h0), (1, .int (nI rd)), (2, .int (nI pg)), (3, .ref b_9), (4, .int bf9)]) hx hb dX5_come_91 hl (k := 5) rfl (by exact nI_1 _) (by decide) rfl (fun ls hl => ?_)
              refine lv_goto (tgt := 63) hx hb dX5_come_94 (by decide) ?_
              exact W.widen (k := 4 - (n - 1)) (n := 12 * (4 - (n - 1))) (by show 4 - n ≤ 4 - (n - 1); omega) (by show 12 * (4 - n) ≤ 12 * (4 - (n - 1)); omega) (ih (n - 1) (by omega) _ _ _ ⟨fv, Lv, kdv, snv, lkv, nsv, (j + 1), Gv, _, by omega, hI, hCL, hLn, hLA, hGL, hg9, by omega, by omega, hs_b_9, hP, hS, lv_sub hl [1, 2, 3, 4, 5, 0] rfl⟩)
            · skip
              refine lv_aload_n hx hb dX5_come_83 rfl (lv_at hl 0 rfl) ?_
              refine lv_iload_n hx hb dX5_come_84 rfl (lv_at hl 1 rfl) ?_
              refine lv_iload_n hx hb dX5_come_85 rfl (lv_at hl 2 rfl) ?_
              refine lv_iload hx hb dX5_come_86 (lv_at hl 5 rfl) ?_
              have hSz := hS.1
              obtain ⟨fs32, hF32, -, -⟩ := hI.o hm_h0 hk_h0 rfl (ci := 5) rfl rfl
              obtain ⟨cn, hcn, hce⟩ := hVx_30.resolve_left c_31
              have hgg : g29 j = nI cn := ex_30.symm.trans hce
              refine gc_Av (ci := 5) ⟨hx, hb, hml, hown, hts⟩ (k_X5_sell l dC dI K Lv fv hI h0 hm_h0 hk_h0 (nI rd) pg j hg9 hg12 hnp hnc (by omega) hpg (by omega) b_28 hm_b_28 hk_b_28 g29 hF29 cn hgg hcn hLn H.size) exT 3 wm_522 wm_523 wm_524 wm_67 wm_525 (by decide +kernel) ⟨Nat.le_of_ble_eq_true rfl, Nat.le_of_ble_eq_true rfl⟩ hK rfl hm_h0 hF32 rfl hl.1 rfl (Nat.le_of_ble_eq_true rfl) dX5_come_88 ⟨by show 4 - n + 1 ≤ 4; omega, by show 12 * (4 - n) + 12 ≤ 48; omega⟩ hLA hA hS hP (fun L9 f9 H locs hpw hP hS => ?_)
              obtain ⟨G9, lk9, kd9, sn9, hI, hCE9, hLn9, hLB9, hGSC, hg9⟩ := hpw
              have hx_h0 := (hCE9 h0 hm_h0).2 (by rw [hk_h0]; decide)
              have hk_h0 : kd9 h0 = 1 := hx_h0.1.trans hk_h0
              have hx_b_9 := (hCE9 b_9 hm_b_9).2 (by rw [hk_b_9]; decide)
              have hk_b_9 : kd9 b_9 = 16 := hx_b_9.1.trans hk_b_9
              have hs_b_9 : sn9 b_9 = pk0 := hx_b_9.2.trans hs_b_9
              have hx_b_28 := (hCE9 b_28 hm_b_28).2 (by rw [hk_b_28]; decide)
              have hk_b_28 : kd9 b_28 = 7 := hx_b_28.1.trans hk_b_28
              have hm_h0 := (hCE9 h0 hm_h0).1
              have hm_b_9 := (hCE9 b_9 hm_b_9).1
              have hm_b_28 := (hCE9 b_28 hm_b_28).1
              have hCE := hCE.tr hCE9
              have hLA : ∀ a ∈ L9, A a := fun a h => (hLB9 a h).elim (hLA a) (fun h => hA a (Nat.le_trans hSz h))
              have hLn := hLn9
              have hD : va_D A (va_pl L9 f9) := g_D hLn hLA f9
              have hg7 := (hGSC 7 (by decide)).trans hg7
              have hg8 := (hGSC 8 (by decide)).trans hg8
              have hg12 := (hGSC 12 (by decide)).trans hg12
              refine lv_iinc (v := nI (j + 1)) (lv' := [(5, .int (nI (j + 1))), (0, .ref h0), (1, .int (nI rd)), (2, .int (nI pg)), (3, .ref b_9), (4, .int bf9)]) hx hb dX5_come_91 hl (k := 5) rfl (by exact nI_1 _) (by decide) rfl (fun ls hl => ?_)
              refine lv_goto (tgt := 63) hx hb dX5_come_94 (by decide) ?_
              exact W.widen (k := 4 - (n - 1)) (n := 12 * (4 - (n - 1))) (by show 4 - n + 1 ≤ 4 - (n - 1); omega) (by show 12 * (4 - n) + 12 ≤ 12 * (4 - (n - 1)); omega) (ih (n - 1) (by omega) _ _ _ ⟨f9, L9, kd9, sn9, lk9, (nsv + 1), (j + 1), G9, _, by omega, hI, hCL.tr hCE9, hLn, hLA, hGL.tr hGSC (by decide) (by decide), hg9, by omega, by omega, hs_b_9, hP, hS, lv_sub hl [1, 2, 3, 4, 5, 0] rfl⟩)
      · skip
        have nc_13 : ¬ (ns ≤ (1000 - pk0)) := fun q => c_13 (show nI ns ≤ nI (1000 - pk0) from (bn_le (a := ns) (b := (1000 - pk0)) (by omega) (by omega)).mpr q)
        refine lv_bipush (v := (-3)) hx hb dX5_come_39 (by decide) ?_
        refine W.widen (k := 4) (n := 48) (Nat.le_of_ble_eq_true rfl) (Nat.le_of_ble_eq_true rfl) ?_
        exact W.iret (v := (-3)) hx hb hr (fun t ht hW => ⟨⟨(-3), (L, f), rfl, ⟨G, J, tp, cp, gp, lk, ns, kd, sn, hI, hCE, hLn, (fun a h => by have h9 := hLA a h; rw [← hAe] at h9; exact h9), hGS, hg9, by omega⟩, by show va_P (dC, dI) vwCl (va_pl L f) t.heap; rw [ht]; exact hP⟩, hS.F ht⟩) hS.2.2 dX5_come_41
    · skip
      have g_5 := k_ff hpr_4 c_5
      refine lv_iconst (v := (-1)) hx hb dX5_come_15 (by decide) ?_
      refine W.widen (k := 4) (n := 48) (Nat.le_of_ble_eq_true rfl) (Nat.le_of_ble_eq_true rfl) ?_
      exact W.iret (v := (-1)) hx hb hr (fun t ht hW => ⟨⟨(-1), (L, f), rfl, ⟨G, J, tp, cp, gp, lk, ns, kd, sn, hI, hCE, hLn, (fun a h => by have h9 := hLA a h; rw [← hAe] at h9; exact h9), hGS, hg9, by omega⟩, by show va_P (dC, dI) vwCl (va_pl L f) t.heap; rw [ht]; exact hP⟩, hS.F ht⟩) hS.2.2 dX5_come_16
