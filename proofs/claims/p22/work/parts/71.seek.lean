set_option maxHeartbeats 4000000 in
set_option maxRecDepth 100000 in
theorem k_X1_seek (l : Launch) (dC : Nat → ClassId) (dI : Nat → Nat → Nat) (K : Nat → ClassId) (L : List Nat) (f : Nat → va_E) {np nc ns lk lc tp cp gp : Nat} {G J mk st : Nat → Int32} {ap : Nat → Int64} {kd sn : Nat → Nat} {pk : Nat} {of : Nat} (hI : cI K np nc ns lk lc tp cp gp G J mk st ap kd sn L f) (h0 : Nat) (hm_h0 : h0 ∈ L) (hk_h0 : kd h0 = 6) (x : Int32) (hj5 : J 5 = nI pk) (hpk : pk ≤ 4) (hj6 : J 6 = nI of) (hof : of ≤ nc) (hnc : nc ≤ 40) (hLn : gN L) : gMl l yX1_seek cX1_seek 4 11 (dC, dI) K L f [.ref h0, .int x] (fun r f' => cI K np nc ns lk lc 0 4 gp G J mk st ap kd sn L f') := by
  refine Met.ofW (cc := cX1_seek) (maxL := 4) (ret := (some .long)) (by decide) rfl ?_
  intro p e s m args below meth c s₁ B hml hv
  obtain ⟨rfl, hP, hK⟩ := hv
  have hD : va_D (fun q : Nat => q ∈ L) (va_pl L f) := g_D hLn (fun a h => h) f
  generalize hAe : (fun q : Nat => q ∈ L) = A at hD ⊢
  have hx := B.exec
  have hb := B.bytes
  have hr := B.returns
  have hlocks := B.notSynchronized
  have hts0 := atoms_spec (ws := Cond.code yX1_seek cX1_seek 4 (some .long) :: lw_B) B.pre
  have hts : ∀ w ∈ lw_B, w.before _ s = true := fun w h => hts0 w (List.mem_cons_of_mem _ h)
  have hown : s.vm.findClass RX1 = some m.cls := findClass_of_methodNamed B.named
  have hS : va_S A s.heap s.heap [] := va_S.rf
  have hl := lv_entry ([.ref h0, .int x]) (n := 4) (Nat.le_of_ble_eq_true rfl)
  rw [lg_entry_eq]
  generalize (lg_sl ([.ref h0, .int x]) ++ List.replicate (4 - (lg_sl ([.ref h0, .int x])).length) Slot.unset).toArray = ls at hl ⊢
  have hl : lv_has ls 4 [(0, .ref h0), (1, .int x)] := hl
  have hI := hI.le (cp' := 0) (Nat.le_refl _) (Nat.le_refl _) (Nat.le_refl _) (Nat.zero_le _) (Nat.le_refl _)
  refine lv_aload_n hx hb dX1_seek_0 rfl (lv_at hl 0 rfl) ?_
  refine lv_lconst (v := 0) hx hb dX1_seek_1 rfl ?_
  obtain ⟨fs1, hF1, hn1, -⟩ := hI.o hm_h0 hk_h0 rfl (ci := 1) rfl (n := 9) rfl
  refine g_put (ci := 1) (v := .long 0) (ty := .long) (C := RX1) (T := TX1) (N := 9) hx hb hts uB1 tyX1 tyX1_ok nmX1 hown hK hP hD hS hm_h0 hF1 rfl 8 (by decide) wm_233 rfl (by decide +kernel) rfl rfl (by rw [hn1]; decide) dX1_seek_2 (fun H locs hP hD hS => ?_)
  obtain ⟨f_2, ef_2⟩ : ∃ z9, z9 = va_up f h0 (.inr (1, List.set fs1 8 (.long 0))) := ⟨_, rfl⟩
  have hI := hI.p hm_h0 hk_h0 8 (ci := 1) (t := 2) (v := .long 0) ⟨rfl, rfl, by decide, rfl⟩ hF1 fv2
  rw [← ef_2] at hP hD hI
  refine lv_iconst (v := 0) hx hb dX1_seek_5 (by decide) ?_
  refine lv_istore_n (lv' := [(2, .int 0), (0, .ref h0), (1, .int x)]) hx hb dX1_seek_6 rfl hl (by decide) rfl (fun ls hl => ?_)
  refine k_lx (pcx := 25) (fun n H locs ls => ∃ (fva : Nat → va_E) (cpv : Nat) (j : Nat), 4 - j = n ∧ cI K np nc ns lk lc tp cpv gp G J mk st ap kd sn L fva ∧ (j ≤ 4) ∧ (j = cpv) ∧ va_P (dC, dI) vwCl (va_pl L fva) H ∧ va_S A s.heap H locs ∧ lv_has ls 4 [(0, .ref h0), (1, .int x), (2, .int (nI j))]) (fun H locs ls => ∃ (fva : Nat → va_E) (cpv : Nat) (j : Nat), cI K np nc ns lk lc tp cpv gp G J mk st ap kd sn L fva ∧ (4 = cpv) ∧ va_P (dC, dI) vwCl (va_pl L fva) H ∧ va_S A s.heap H locs ∧ lv_has ls 4 [(0, .ref h0), (1, .int x), (2, .int (nI j))]) (fun H locs ls hI_ => ?_) (fun n H locs ls hI_ hEa iha => ?_) _ _ _ _ ⟨f_2, 0, 0, rfl, hI, by omega, rfl, hP, hS, lv_sub hl [1, 2, 0] rfl⟩
  · skip
    obtain ⟨fva, cpv, j, hI, hcj, hP, hS, hl⟩ := hI_
    have hD : va_D A (va_pl L fva) := g_D hLn (fun a h => by rw [← hAe]; exact h) fva
    subst hcj
    refine lv_iload_n hx hb dX1_seek_25 rfl (lv_at hl 1 rfl) ?_
    refine lv_iconst (v := (-1)) hx hb dX1_seek_26 (by decide) ?_
    refine lv_icmp_ne (tgt := 37) hx hb dX1_seek_27 (by decide) (fun c_3 => ?_) (fun c_3 => ?_)
    · skip
      refine lv_aload_n hx hb dX1_seek_37 rfl (lv_at hl 0 rfl) ?_
      obtain ⟨fs4, x_4, hF4, hv4⟩ := hI.gL hm_h0 hk_h0 7 (ci := 1) ⟨rfl, rfl, by decide, rfl⟩
      refine g_get (ci := 1) (v := .long x_4) (C := RX1) (T := TX1) (N := 9) hx hb hts uB1 hown hK hP hm_h0 hF4 rfl 7 (by decide) wm_229 hv4 dX1_seek_38 ?_
      refine lv_lconst (v := 1) hx hb dX1_seek_41 rfl ?_
      refine lv_iload_n hx hb dX1_seek_42 rfl (lv_at hl 1 rfl) ?_
      refine lv_lshl hx hb dX1_seek_43 rfl ?_
      refine lv_topl (fun x_5 ex_5 => ?_)
      refine lv_ldc2 (v := (-1)) hx hb hown (hts _ wm_260) dX1_seek_44 ?_
      refine lv_lxor hx hb dX1_seek_47 ?_
      refine lv_topl (fun x_6 ex_6 => ?_)
      refine lv_land hx hb dX1_seek_48 ?_
      refine lv_topl (fun x_7 ex_7 => ?_)
      refine lv_lstore_n (lv' := [(2, .long x_7), (0, .ref h0), (1, .int x)]) hx hb dX1_seek_49 rfl hl (by decide) rfl (fun ls hl => ?_)
      refine lv_aload_n hx hb dX1_seek_50 rfl (lv_at hl 1 rfl) ?_
      refine lv_iconst (v := 0) hx hb dX1_seek_51 (by decide) ?_
      refine lv_lload_n hx hb dX1_seek_52 rfl (lv_at hl 0 rfl) ?_
      refine lv_lconst (v := 0) hx hb dX1_seek_53 rfl ?_
      obtain ⟨fs8, hF8, -, -⟩ := hI.o hm_h0 hk_h0 rfl (ci := 1) rfl rfl
      refine gc_Mv (ci := 1) ⟨hx, hb, hml, hown, hts⟩ (k_fill0 l dC dI K L fva hI h0 hm_h0 hk_h0 x_7 0 hj5 hpk hj6 hof hnc (Nat.zero_le _) hLn) 3 wm_248 wm_249 wm_250 wm_238 wm_251 (by decide +kernel) ⟨Nat.le_of_ble_eq_true rfl, Nat.le_of_ble_eq_true rfl⟩ hK rfl hm_h0 hF8 rfl hl.1 rfl (Nat.le_of_ble_eq_true rfl) dX1_seek_54 ⟨Nat.le_of_ble_eq_true rfl, Nat.le_of_ble_eq_true rfl⟩ (fun a h => by rw [← hAe]; exact h) hS hP (fun fw_9 H locs hpw hP hS => ?_)
      have hI := hpw
      have hD : va_D A (va_pl L fw_9) := g_D hLn (fun a h => by rw [← hAe]; exact h) fw_9
      refine lv_aload_n hx hb dX1_seek_57 rfl (lv_at hl 1 rfl) ?_
      obtain ⟨fs10, hF10, -, -⟩ := hI.o hm_h0 hk_h0 rfl (ci := 1) rfl rfl
      refine gc_Rl (ci := 1) ⟨hx, hb, hml, hown, hts⟩ (k_X1_bestSum l dC dI K L fw_9 hI h0 hm_h0 hk_h0) 0 wm_261 wm_262 wm_263 wm_238 wm_264 (by decide +kernel) ⟨Nat.le_of_ble_eq_true rfl, Nat.le_of_ble_eq_true rfl⟩ hK rfl hm_h0 hF10 rfl hl.1 rfl (Nat.le_of_ble_eq_true rfl) dX1_seek_58 ⟨Nat.le_of_ble_eq_true rfl, Nat.le_of_ble_eq_true rfl⟩ hS hP (fun r_11 H locs hpr_11 hP hS => ?_)
      exact W.lret (v := r_11) hx hb hr (fun t ht hW => ⟨⟨r_11, fw_9, rfl, hI, by show va_P (dC, dI) vwCl (va_pl L fw_9) t.heap; rw [ht]; exact hP⟩, hS.F ht⟩) hS.2.2 dX1_seek_61
    · skip
      refine lv_aload_n hx hb dX1_seek_30 rfl (lv_at hl 0 rfl) ?_
      obtain ⟨fs12, x_12, hF12, hv12⟩ := hI.gL hm_h0 hk_h0 7 (ci := 1) ⟨rfl, rfl, by decide, rfl⟩
      refine g_get (ci := 1) (v := .long x_12) (C := RX1) (T := TX1) (N := 9) hx hb hts uB1 hown hK hP hm_h0 hF12 rfl 7 (by decide) wm_229 hv12 dX1_seek_31 ?_
      refine lv_goto (tgt := 49) hx hb dX1_seek_34 (by decide) ?_
      refine lv_lstore_n (lv' := [(2, .long x_12), (0, .ref h0), (1, .int x)]) hx hb dX1_seek_49 rfl hl (by decide) rfl (fun ls hl => ?_)
      refine lv_aload_n hx hb dX1_seek_50 rfl (lv_at hl 1 rfl) ?_
      refine lv_iconst (v := 0) hx hb dX1_seek_51 (by decide) ?_
      refine lv_lload_n hx hb dX1_seek_52 rfl (lv_at hl 0 rfl) ?_
      refine lv_lconst (v := 0) hx hb dX1_seek_53 rfl ?_
      obtain ⟨fs13, hF13, -, -⟩ := hI.o hm_h0 hk_h0 rfl (ci := 1) rfl rfl
      refine gc_Mv (ci := 1) ⟨hx, hb, hml, hown, hts⟩ (k_fill0 l dC dI K L fva hI h0 hm_h0 hk_h0 x_12 0 hj5 hpk hj6 hof hnc (Nat.zero_le _) hLn) 3 wm_248 wm_249 wm_250 wm_238 wm_251 (by decide +kernel) ⟨Nat.le_of_ble_eq_true rfl, Nat.le_of_ble_eq_true rfl⟩ hK rfl hm_h0 hF13 rfl hl.1 rfl (Nat.le_of_ble_eq_true rfl) dX1_seek_54 ⟨Nat.le_of_ble_eq_true rfl, Nat.le_of_ble_eq_true rfl⟩ (fun a h => by rw [← hAe]; exact h) hS hP (fun fw_14 H locs hpw hP hS => ?_)
      have hI := hpw
      have hD : va_D A (va_pl L fw_14) := g_D hLn (fun a h => by rw [← hAe]; exact h) fw_14
      refine lv_aload_n hx hb dX1_seek_57 rfl (lv_at hl 1 rfl) ?_
      obtain ⟨fs15, hF15, -, -⟩ := hI.o hm_h0 hk_h0 rfl (ci := 1) rfl rfl
      refine gc_Rl (ci := 1) ⟨hx, hb, hml, hown, hts⟩ (k_X1_bestSum l dC dI K L fw_14 hI h0 hm_h0 hk_h0) 0 wm_261 wm_262 wm_263 wm_238 wm_264 (by decide +kernel) ⟨Nat.le_of_ble_eq_true rfl, Nat.le_of_ble_eq_true rfl⟩ hK rfl hm_h0 hF15 rfl hl.1 rfl (Nat.le_of_ble_eq_true rfl) dX1_seek_58 ⟨Nat.le_of_ble_eq_true rfl, Nat.le_of_ble_eq_true rfl⟩ hS hP (fun r_16 H locs hpr_16 hP hS => ?_)
      exact W.lret (v := r_16) hx hb hr (fun t ht hW => ⟨⟨r_16, fw_14, rfl, hI, by show va_P (dC, dI) vwCl (va_pl L fw_14) t.heap; rw [ht]; exact hP⟩, hS.F ht⟩) hS.2.2 dX1_seek_61
  · skip
    obtain ⟨fva, cpv, j, hmua, hI, hj, hcj, hP, hS, hl⟩ := hI_
    have hD : va_D A (va_pl L fva) := g_D hLn (fun a h => by rw [← hAe]; exact h) fva
    subst hcj
    refine lv_iload_n hx hb dX1_seek_7 rfl (lv_at hl 2 rfl) ?_
    refine lv_iconst (v := 4) hx hb dX1_seek_8 (by decide) ?_
    refine lv_icmp_ge (tgt := 25) hx hb dX1_seek_9 (by decide) (fun c_17 => ?_) (fun c_17 => ?_)
    · skip
      have nc_17 : 4 ≤ j := (bn_le (a := 4) (b := j) (by omega) (by omega)).mp (show nI 4 ≤ nI j from c_17)
      exact hEa _ _ _ ⟨fva, j, j, hI, by omega, hP, hS, lv_sub hl [0, 1, 2] rfl⟩
    · skip
      have nc_17 : ¬ (4 ≤ j) := fun q => c_17 (show nI 4 ≤ nI j from (bn_le (a := 4) (b := j) (by omega) (by omega)).mpr q)
      refine lv_aload_n hx hb dX1_seek_12 rfl (lv_at hl 0 rfl) ?_
      obtain ⟨fs18, b_19, hF18, hv18, hm_b_19, hk_b_19⟩ := hI.gR hm_h0 hk_h0 0 (ci := 1) (t := 9) ⟨rfl, rfl, by decide, rfl⟩
      refine g_get (ci := 1) (v := .ref b_19) (C := RX1) (T := TX1) (N := 9) hx hb hts uB1 hown hK hP hm_h0 hF18 rfl 0 (by decide) wm_242 hv18 dX1_seek_13 ?_
      refine lv_iload_n hx hb dX1_seek_16 rfl (lv_at hl 2 rfl) ?_
      refine lv_iconst (v := (-1)) hx hb dX1_seek_17 (by decide) ?_
      obtain ⟨g20, hF20, hgz20⟩ := hI.a9 hm_b_19 hk_b_19
      refine g_iast hx hb hK hP hD hS hm_b_19 hF20 (vp_in_nI (by omega) (by decide)) dX1_seek_18 (fun H locs hP hD hS => ?_)
      obtain ⟨g_21, eg_21⟩ : ∃ z9, z9 = upd g20 (Int32.toNatClampNeg (nI j)) (-1) := ⟨_, rfl⟩
      rw [← eg_21] at hP hD
      rw [nI_clamp (by omega)] at eg_21
      obtain ⟨f_22, ef_22⟩ : ∃ z9, z9 = va_up fva b_19 (.inl (K 0, 4, .inl g_21)) := ⟨_, rfl⟩
      have hI := hI.s9 hm_b_19 hk_b_19 (cp' := j + 1) (vldSt hgz20 (Or.inl rfl) eg_21 (fun i hi => by omega))
      rw [← ef_22] at hP hD hI
      refine lv_iinc (v := nI (j + 1)) (lv' := [(2, .int (nI (j + 1))), (0, .ref h0), (1, .int x)]) hx hb dX1_seek_19 hl (k := 2) rfl (by exact nI_1 _) (by decide) rfl (fun ls hl => ?_)
      refine lv_goto (tgt := 7) hx hb dX1_seek_22 (by decide) ?_
      exact iha _ (by omega) _ _ _ ⟨f_22, (j + 1), (j + 1), rfl, hI, by omega, rfl, hP, hS, lv_sub hl [1, 2, 0] rfl⟩
