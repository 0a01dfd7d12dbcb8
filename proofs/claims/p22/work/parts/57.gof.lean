set_option maxHeartbeats 4000000 in
set_option maxRecDepth 100000 in
theorem um_goF (l : Launch) (dC : Nat → ClassId) (dI : Nat → Nat → Nat) (K : Nat → ClassId) (L : List Nat) (f : Nat → va_E) (rt : Nat → Nat) {fm : List Value} (hC : mC rt L f fm) {g_next : Nat → Int32} (F_next : f (rt 48) = .inl (K 0, 5, .inl g_next)) {g_upTo : Nat → Int64} (F_upTo : f (rt 41) = .inl (K 1, 5, .inr (.inl g_upTo))) {g_filledTo : Nat → Int32} (F_filledTo : f (rt 42) = .inl (K 0, 5, .inl g_filledTo)) {g_at : Nat → Int32} (F_at : f (rt 40) = .inl (K 0, 5, .inl g_at)) {g_order : Nat → Int32} (F_order : f (rt 47) = .inl (K 0, 40, .inl g_order)) {g_worth : Nat → Int64} (F_worth : f (rt 37) = .inl (K 1, 160, .inr (.inl g_worth))) {g_mostAt : Nat → Int64} (F_mostAt : f (rt 38) = .inl (K 1, 5, .inr (.inl g_mostAt))) {g_mayBe : Nat → Int32} (F_mayBe : f (rt 36) = .inl (K 0, 40, .inl g_mayBe)) {g_apart : Nat → Int32} (F_apart : f (rt 21) = .inl (K 2, 1600, .inl g_apart)) {mm sp : Nat} {wn : Nat → Nat → Nat} {ma : Nat → Nat} {b0 : Int64} {b1 : Int32} (I_may : fm[35]? = some (.int (nI mm))) (I_spots : fm[39]? = some (.int (nI sp))) (I_hasBest : fm[45]? = some (.int 0)) (I_bestSum : fm[43]? = some (.long b0)) (I_bestFilled : fm[44]? = some (.int b1)) (wo : Int32) (hmm : mm ≤ 40) (hsp1 : 1 ≤ sp) (hsp : sp ≤ 4) (hw : ∀ i k, i < mm → k < sp → g_worth (4 * i + k) = lN (wn i k) ∧ wn i k ≤ 1272270000000) (hma : ∀ k, k ≤ sp → g_mostAt k = lN (ma k) ∧ ma k ≤ 4 * 1272270000000) (hor : ∀ t, t < mm → ∃ q : Nat, q < mm ∧ g_order t = nI q) (hmb : ∀ k, k < mm → vp_in (g_mayBe k) 40) (hLn : gN L) : gMv l yX6_go cX6_go 13 1 (dC, dI) K L f [.ref (rt 51), .int 0, .int wo] (fun f' => ∃ (fm' : List Value) (gn ga gf : Nat → Int32) (gu : Nat → Int64) (tg : Nat → Nat), gSm rt [40, 41, 42, 48, 51] f f' ∧ fmS [43, 44, 45] fm fm' ∧ mC rt L f' fm' ∧ f' (rt 48) = .inl (K 0, 5, .inl gn) ∧ f' (rt 40) = .inl (K 0, 5, .inl ga) ∧ f' (rt 42) = .inl (K 0, 5, .inl gf) ∧ f' (rt 41) = .inl (K 1, 5, .inr (.inl gu)) ∧ fm'[45]? = some (.int 1) ∧ fm'[43]? = some (.long (lN (sG wn mm tg sp))) ∧ fm'[44]? = some (.int (nI (cG mm tg sp))) ∧ gvOk g_mayBe g_apart mm wo tg sp) := by
  refine Met.ofW (cc := cX6_go) (maxL := 13) (ret := none) (by decide) rfl ?_
  intro p e s m args below meth c s₁ B hml hv
  obtain ⟨rfl, hP, hK⟩ := hv
  have F_m := hC.2.1
  have hD : va_D (fun q : Nat => q ∈ L) (va_pl L f) := g_D hLn (fun a h => h) f
  generalize hAe : (fun q : Nat => q ∈ L) = A at hD ⊢
  have hx := B.exec
  have hb := B.bytes
  have hr := B.returns
  have hlocks := B.notSynchronized
  have hts0 := atoms_spec (ws := Cond.code yX6_go cX6_go 13 none :: lw_B) B.pre
  have hts : ∀ w ∈ lw_B, w.before _ s = true := fun w h => hts0 w (List.mem_cons_of_mem _ h)
  have hown : s.vm.findClass RX6 = some m.cls := findClass_of_methodNamed B.named
  have hS : va_S A s.heap s.heap [] := va_S.rf
  have hl := lv_entry ([.ref (rt 51), .int 0, .int wo]) (n := 13) (Nat.le_of_ble_eq_true rfl)
  rw [lg_entry_eq]
  generalize (lg_sl ([.ref (rt 51), .int 0, .int wo]) ++ List.replicate (13 - (lg_sl ([.ref (rt 51), .int 0, .int wo])).length) Slot.unset).toArray = ls at hl ⊢
  have hl : lv_has ls 13 [(0, .ref (rt 51)), (1, .int 0), (2, .int wo)] := hl
  have hSm : gSm rt [40, 41, 42, 48, 51] f f := gSm.rf
  have hFs : fmS [43, 44, 45] fm fm := fmS.rf
  have hwB : ∀ i k, i < mm → k < sp → wn i k ≤ 1272270000000 := fun i k h1 h2 => (hw i k h1 h2).2
  refine lv_iconst (v := 0) hx hb dX6_go_0 (by decide) ?_
  refine lv_istore_n (lv' := [(3, .int 0), (0, .ref (rt 51)), (1, .int 0), (2, .int wo)]) hx hb dX6_go_1 rfl hl (by decide) rfl (fun ls hl => ?_)
  refine lv_aload_n hx hb dX6_go_2 rfl (lv_at hl 1 rfl) ?_
  refine g_get (ci := 6) (v := .ref (rt 48)) (C := RX6) (T := TX6) (N := 51) hx hb hts uB6 hown hK hP (hC.1.1 51 (by decide)) F_m rfl 48 (by decide) wm_140 (hC.2.2.2 48 (by decide)) dX6_go_3 ?_
  refine lv_iconst (v := 0) hx hb dX6_go_6 (by decide) ?_
  refine lv_iconst (v := 0) hx hb dX6_go_7 (by decide) ?_
  refine g_iast hx hb hK hP hD hS (hC.1.1 48 (by decide)) F_next (vp_in_iff.mpr (by decide)) dX6_go_8 (fun H locs hP hD hS => ?_)
  obtain ⟨g_1, eg_1⟩ : ∃ z9, z9 = upd g_next (Int32.toNatClampNeg 0) 0 := ⟨_, rfl⟩
  rw [← eg_1] at hP hD
  obtain ⟨f_2, ef_2⟩ : ∃ z9, z9 = va_up f (rt 48) (.inl (K 0, 5, .inl g_1)) := ⟨_, rfl⟩
  rw [← ef_2] at hP hD
  have F_m : f_2 (rt 51) = .inr (6, fm) := by rw [ef_2, va_up_ne _ _ (fun q => absurd (hC.1.2 51 (by decide) 48 (by decide) q) (by decide))]; exact F_m
  have F_upTo : f_2 (rt 41) = .inl (K 1, 5, .inr (.inl g_upTo)) := by rw [ef_2, va_up_ne _ _ (fun q => absurd (hC.1.2 41 (by decide) 48 (by decide) q) (by decide))]; exact F_upTo
  have F_filledTo : f_2 (rt 42) = .inl (K 0, 5, .inl g_filledTo) := by rw [ef_2, va_up_ne _ _ (fun q => absurd (hC.1.2 42 (by decide) 48 (by decide) q) (by decide))]; exact F_filledTo
  have F_at : f_2 (rt 40) = .inl (K 0, 5, .inl g_at) := by rw [ef_2, va_up_ne _ _ (fun q => absurd (hC.1.2 40 (by decide) 48 (by decide) q) (by decide))]; exact F_at
  have F_next : f_2 (rt 48) = .inl (K 0, 5, .inl g_1) := by rw [ef_2, va_up_self]
  have hC : mC rt L f_2 fm := ⟨hC.1, F_m, hC.2.2.1, hC.2.2.2⟩
  have hSm : gSm rt [40, 41, 42, 48, 51] f f_2 := by rw [ef_2]; exact hSm.up (by decide) _
  rw [show Int32.toNatClampNeg 0 = 0 from rfl] at eg_1
  refine lv_aload_n hx hb dX6_go_9 rfl (lv_at hl 1 rfl) ?_
  refine g_get (ci := 6) (v := .ref (rt 41)) (C := RX6) (T := TX6) (N := 51) hx hb hts uB6 hown hK hP (hC.1.1 51 (by decide)) F_m rfl 41 (by decide) wm_141 (hC.2.2.2 41 (by decide)) dX6_go_10 ?_
  refine lv_iconst (v := 0) hx hb dX6_go_13 (by decide) ?_
  refine lv_lconst (v := 0) hx hb dX6_go_14 rfl ?_
  refine g_last hx hb hK hP hD hS (hC.1.1 41 (by decide)) F_upTo (vp_in_iff.mpr (by decide)) dX6_go_15 (fun H locs hP hD hS => ?_)
  obtain ⟨g_3, eg_3⟩ : ∃ z9, z9 = vp_updL g_upTo (Int32.toNatClampNeg 0) 0 := ⟨_, rfl⟩
  rw [← eg_3] at hP hD
  obtain ⟨f_4, ef_4⟩ : ∃ z9, z9 = va_up f_2 (rt 41) (.inl (K 1, 5, .inr (.inl g_3))) := ⟨_, rfl⟩
  rw [← ef_4] at hP hD
  have F_m : f_4 (rt 51) = .inr (6, fm) := by rw [ef_4, va_up_ne _ _ (fun q => absurd (hC.1.2 51 (by decide) 41 (by decide) q) (by decide))]; exact F_m
  have F_next : f_4 (rt 48) = .inl (K 0, 5, .inl g_1) := by rw [ef_4, va_up_ne _ _ (fun q => absurd (hC.1.2 48 (by decide) 41 (by decide) q) (by decide))]; exact F_next
  have F_filledTo : f_4 (rt 42) = .inl (K 0, 5, .inl g_filledTo) := by rw [ef_4, va_up_ne _ _ (fun q => absurd (hC.1.2 42 (by decide) 41 (by decide) q) (by decide))]; exact F_filledTo
  have F_at : f_4 (rt 40) = .inl (K 0, 5, .inl g_at) := by rw [ef_4, va_up_ne _ _ (fun q => absurd (hC.1.2 40 (by decide) 41 (by decide) q) (by decide))]; exact F_at
  have F_upTo : f_4 (rt 41) = .inl (K 1, 5, .inr (.inl g_3)) := by rw [ef_4, va_up_self]
  have hC : mC rt L f_4 fm := ⟨hC.1, F_m, hC.2.2.1, hC.2.2.2⟩
  have hSm : gSm rt [40, 41, 42, 48, 51] f f_4 := by rw [ef_4]; exact hSm.up (by decide) _
  rw [show Int32.toNatClampNeg 0 = 0 from rfl] at eg_3
  refine lv_aload_n hx hb dX6_go_16 rfl (lv_at hl 1 rfl) ?_
  refine g_get (ci := 6) (v := .ref (rt 42)) (C := RX6) (T := TX6) (N := 51) hx hb hts uB6 hown hK hP (hC.1.1 51 (by decide)) F_m rfl 42 (by decide) wm_142 (hC.2.2.2 42 (by decide)) dX6_go_17 ?_
  refine lv_iconst (v := 0) hx hb dX6_go_20 (by decide) ?_
  refine lv_iconst (v := 0) hx hb dX6_go_21 (by decide) ?_
  refine g_iast hx hb hK hP hD hS (hC.1.1 42 (by decide)) F_filledTo (vp_in_iff.mpr (by decide)) dX6_go_22 (fun H locs hP hD hS => ?_)
  obtain ⟨g_5, eg_5⟩ : ∃ z9, z9 = upd g_filledTo (Int32.toNatClampNeg 0) 0 := ⟨_, rfl⟩
  rw [← eg_5] at hP hD
  obtain ⟨f_6, ef_6⟩ : ∃ z9, z9 = va_up f_4 (rt 42) (.inl (K 0, 5, .inl g_5)) := ⟨_, rfl⟩
  rw [← ef_6] at hP hD
  have F_m : f_6 (rt 51) = .inr (6, fm) := by rw [ef_6, va_up_ne _ _ (fun q => absurd (hC.1.2 51 (by decide) 42 (by decide) q) (by decide))]; exact F_m
  have F_next : f_6 (rt 48) = .inl (K 0, 5, .inl g_1) := by rw [ef_6, va_up_ne _ _ (fun q => absurd (hC.1.2 48 (by decide) 42 (by decide) q) (by decide))]; exact F_next
  have F_upTo : f_6 (rt 41) = .inl (K 1, 5, .inr (.inl g_3)) := by rw [ef_6, va_up_ne _ _ (fun q => absurd (hC.1.2 41 (by decide) 42 (by decide) q) (by decide))]; exact F_upTo
  have F_at : f_6 (rt 40) = .inl (K 0, 5, .inl g_at) := by rw [ef_6, va_up_ne _ _ (fun q => absurd (hC.1.2 40 (by decide) 42 (by decide) q) (by decide))]; exact F_at
  have F_filledTo : f_6 (rt 42) = .inl (K 0, 5, .inl g_5) := by rw [ef_6, va_up_self]
  have hC : mC rt L f_6 fm := ⟨hC.1, F_m, hC.2.2.1, hC.2.2.2⟩
  have hSm : gSm rt [40, 41, 42, 48, 51] f f_6 := by rw [ef_6]; exact hSm.up (by decide) _
  rw [show Int32.toNatClampNeg 0 = 0 from rfl] at eg_5
  have hp0 : pth wn g_mayBe g_apart mm wo g_at g_1 g_5 g_3 (fun _ => 0) (fun _ => 0) 0 := by
    refine ⟨fun k hk => absurd hk (Nat.not_lt_zero k), fun k hk => absurd hk (Nat.not_lt_zero k), fun k hk => ?_, fun k hk => ?_, fun k hk => ?_⟩
    · rw [show k = 0 by omega, eg_3, pk_uLs]; rfl
    · rw [show k = 0 by omega, eg_5, pk_us]; rfl
    · rw [show k = 0 by omega, eg_1, pk_us]; exact ⟨rfl, Nat.zero_le _⟩
  have hSma := hSm
  have hFsa := hFs
  refine k_lx (pcx := 494) (fun n H locs ls => ∃ (fva : Nat → va_E) (fmva : List Value) (gn : Nat → Int32) (ga : Nat → Int32) (gf : Nat → Int32) (gu : Nat → Int64) (dp : Nat) (av : Nat → Nat) (nx : Nat → Nat) (hb : Int32) (bv : Int64) (bw : Int32), muG mm nx dp = n ∧ gSm rt [40, 41, 42, 48, 51] f_6 fva ∧ fmS [43, 44, 45] fm fmva ∧ mC rt L fva fmva ∧ fva (rt 48) = .inl (K 0, 5, .inl gn) ∧ fva (rt 40) = .inl (K 0, 5, .inl ga) ∧ fva (rt 42) = .inl (K 0, 5, .inl gf) ∧ fva (rt 41) = .inl (K 1, 5, .inr (.inl gu)) ∧ fmva[45]? = some (.int hb) ∧ fmva[43]? = some (.long bv) ∧ fmva[44]? = some (.int bw) ∧ (dp ≤ sp) ∧ (pth wn g_mayBe g_apart mm wo ga gn gf gu av nx dp) ∧ ((hb = 0 ∧ (dp < sp → nx dp ≤ mm)) ∨ (hb = 1 ∧ ∃ tg : Nat → Nat, bv = lN (sG wn mm tg sp) ∧ bw = nI (cG mm tg sp) ∧ gvOk g_mayBe g_apart mm wo tg sp)) ∧ va_P (dC, dI) vwCl (va_pl L fva) H ∧ va_S A s.heap H locs ∧ lv_has ls 13 [(0, .ref (rt 51)), (1, .int 0), (2, .int wo), (3, .int (nI dp))]) (fun H locs ls => ∃ (fva : Nat → va_E) (fmva : List Value) (gn : Nat → Int32) (ga : Nat → Int32) (gf : Nat → Int32) (gu : Nat → Int64) (dp : Nat) (av : Nat → Nat) (nx : Nat → Nat) (hb : Int32) (bv : Int64) (bw : Int32), gSm rt [40, 41, 42, 48, 51] f_6 fva ∧ fmS [43, 44, 45] fm fmva ∧ mC rt L fva fmva ∧ fva (rt 48) = .inl (K 0, 5, .inl gn) ∧ fva (rt 40) = .inl (K 0, 5, .inl ga) ∧ fva (rt 42) = .inl (K 0, 5, .inl gf) ∧ fva (rt 41) = .inl (K 1, 5, .inr (.inl gu)) ∧ fmva[45]? = some (.int hb) ∧ fmva[43]? = some (.long bv) ∧ fmva[44]? = some (.int bw) ∧ (hb = 1 ∧ ∃ tg : Nat → Nat, bv = lN (sG wn mm tg sp) ∧ bw = nI (cG mm tg sp) ∧ gvOk g_mayBe g_apart mm wo tg sp) ∧ va_P (dC, dI) vwCl (va_pl L fva) H ∧ va_S A s.heap H locs ∧ lv_has ls 13 [(0, .ref (rt 51))]) (fun H locs ls hI => ?_) (fun n H locs ls hI hEa iha => ?_) _ _ _ _ ⟨f_6, fm, _, _, _, _, 0, (fun _ => 0), (fun _ => 0), _, _, _, rfl, gSm.rf, fmS.rf, hC, F_next, F_at, F_filledTo, F_upTo, I_hasBest, I_bestSum, I_bestFilled, Nat.zero_le _, hp0, Or.inl ⟨rfl, fun _ => Nat.zero_le _⟩, hP, hS, lv_sub hl [1, 2, 3, 0] rfl⟩
  · skip
    obtain ⟨fva, fmva, gn, ga, gf, gu, dp, av, nx, hb, bv, bw, hSm, hFs, hC, NF_next, NF_at, NF_filledTo, NF_upTo, NI_hasBest, NI_bestSum, NI_bestFilled, hbx, hP, hS, hl⟩ := hI
    have F_next := NF_next
    have F_at := NF_at
    have F_filledTo := NF_filledTo
    have F_upTo := NF_upTo
    have F_m : fva (rt 51) = .inr (6, fmva) := hC.2.1
    have I_may : fmva[35]? = some (.int (nI mm)) := (hFs.2 35 (by decide)).trans I_may
    have I_spots : fmva[39]? = some (.int (nI sp)) := (hFs.2 39 (by decide)).trans I_spots
    have I_hasBest := NI_hasBest
    have I_bestSum := NI_bestSum
    have I_bestFilled := NI_bestFilled
    have hD : va_D A (va_pl L fva) := g_D hLn (fun a h => by rw [← hAe]; exact h) fva
    have hSmLa := hSm
    have hSm : gSm rt [40, 41, 42, 48, 51] f fva := hSma.tr hSm (by decide) (by decide)
    have hFs : fmS [43, 44, 45] fm fmva := hFsa.tr hFs (by decide) (by decide)
    obtain ⟨rfl, tg, rfl, rfl, htg⟩ := hbx
    exact W.vret hx hb hr (fun t ht hW => ⟨⟨fva, rfl, ⟨fmva, _, _, _, _, tg, hSm, hFs, hC, F_next, F_at, F_filledTo, F_upTo, I_hasBest, I_bestSum, I_bestFilled, htg⟩, by show va_P (dC, dI) vwCl (va_pl L fva) t.heap; rw [ht]; exact hP⟩, hS.F ht⟩) hS.2.2 dX6_go_494
  · skip
    obtain ⟨fva, fmva, gn, ga, gf, gu, dp, av, nx, hb, bv, bw, hmua, hSm, hFs, hC, NF_next, NF_at, NF_filledTo, NF_upTo, NI_hasBest, NI_bestSum, NI_bestFilled, hdp, hpt, hbest, hP, hS, hl⟩ := hI
    have F_next := NF_next
    have F_at := NF_at
    have F_filledTo := NF_filledTo
    have F_upTo := NF_upTo
    have F_m : fva (rt 51) = .inr (6, fmva) := hC.2.1
    have I_may : fmva[35]? = some (.int (nI mm)) := (hFs.2 35 (by decide)).trans I_may
    have I_spots : fmva[39]? = some (.int (nI sp)) := (hFs.2 39 (by decide)).trans I_spots
    have I_hasBest := NI_hasBest
    have I_bestSum := NI_bestSum
    have I_bestFilled := NI_bestFilled
    have hD : va_D A (va_pl L fva) := g_D hLn (fun a h => by rw [← hAe]; exact h) fva
    have hsB : ∀ d, d ≤ sp → sG wn mm av d ≤ d * 1272270000000 := fun d hd => sG_le hwB d hd
    have hcB : cG mm av dp ≤ dp := cG_le dp
    have hsD := hsB dp hdp
    have hsD4 : sG wn mm av dp ≤ 4 * 1272270000000 := Nat.le_trans hsD (Nat.mul_le_mul_right _ (by omega))
    clear hsD
    rcases hbest with ⟨rfl, hnb⟩ | ⟨rfl, tg, rfl, rfl, htg⟩
    · skip
      refine lv_iload_n hx hb dX6_go_23 rfl (lv_at hl 3 rfl) ?_
      refine lv_if_lt (tgt := 494) hx hb dX6_go_24 (by decide) (fun c_7 => ?_) (fun c_7 => ?_)
      · skip
        have nc_7 : dp < 0 := (bn_lt (a := dp) (b := 0) (by omega) (by omega)).mp (show nI dp < nI 0 from c_7)
        exact (show False by omega).elim
      · skip
        have nc_7 : ¬ (dp < 0) := fun q => c_7 (show nI dp < nI 0 from (bn_lt (a := dp) (b := 0) (by omega) (by omega)).mpr q)
        refine lv_iload_n hx hb dX6_go_27 rfl (lv_at hl 3 rfl) ?_
        refine lv_aload_n hx hb dX6_go_28 rfl (lv_at hl 0 rfl) ?_
        refine g_get (ci := 6) (v := .int (nI sp)) (C := RX6) (T := TX6) (N := 51) hx hb hts uB6 hown hK hP (hC.1.1 51 (by decide)) F_m rfl 39 (by decide) wm_131 I_spots dX6_go_29 ?_
        refine lv_icmp_ne (tgt := 218) hx hb dX6_go_32 (by decide) (fun c_8 => ?_) (fun c_8 => ?_)
        · skip
          have nc_8 : ¬ (dp = sp) := fun q => c_8 (show nI dp = nI sp from (bn_eq (a := dp) (b := sp) (by omega) (by omega)).mpr q)
          have hds : dp < sp := by omega
          refine lv_aload_n hx hb dX6_go_218 rfl (lv_at hl 0 rfl) ?_
          refine g_get (ci := 6) (v := .ref (rt 48)) (C := RX6) (T := TX6) (N := 51) hx hb hts uB6 hown hK hP (hC.1.1 51 (by decide)) F_m rfl 48 (by decide) wm_140 (hC.2.2.2 48 (by decide)) dX6_go_219 ?_
          refine lv_iload_n hx hb dX6_go_222 rfl (lv_at hl 3 rfl) ?_
          refine g_iald hx hb hK hP (hC.1.1 48 (by decide)) F_next (vp_in_nI (by omega) (by decide)) dX6_go_223 ?_
          refine lv_topi (fun x_9 ex_9 => ?_)
          rw [nI_clamp (by omega)] at ex_9
          obtain rfl : x_9 = nI (nx dp) := ex_9.trans (hpt.2.2.2.2 dp (Nat.le_refl _)).1
          have hnxm := (hpt.2.2.2.2 dp (Nat.le_refl _)).2
          refine lv_istore (lv' := [(4, .int (nI (nx dp))), (0, .ref (rt 51)), (1, .int 0), (2, .int wo), (3, .int (nI dp))]) hx hb dX6_go_224 hl (by decide) rfl (fun ls hl => ?_)
          refine lv_iload hx hb dX6_go_226 (lv_at hl 0 rfl) ?_
          refine lv_aload_n hx hb dX6_go_228 rfl (lv_at hl 1 rfl) ?_
          refine g_get (ci := 6) (v := .int (nI mm)) (C := RX6) (T := TX6) (N := 51) hx hb hts uB6 hown hK hP (hC.1.1 51 (by decide)) F_m rfl 35 (by decide) wm_63 I_may dX6_go_229 ?_
          refine lv_icmp_le (tgt := 241) hx hb dX6_go_232 (by decide) (fun c_10 => ?_) (fun c_10 => ?_)
          · skip
            have nc_10 : (nx dp) ≤ mm := (bn_le (a := (nx dp)) (b := mm) (by omega) (by omega)).mp (show nI (nx dp) ≤ nI mm from c_10)
            refine lv_aload_n hx hb dX6_go_241 rfl (lv_at hl 1 rfl) ?_
            refine g_get (ci := 6) (v := .ref (rt 48)) (C := RX6) (T := TX6) (N := 51) hx hb hts uB6 hown hK hP (hC.1.1 51 (by decide)) F_m rfl 48 (by decide) wm_140 (hC.2.2.2 48 (by decide)) dX6_go_242 ?_
            refine lv_iload_n hx hb dX6_go_245 rfl (lv_at hl 4 rfl) ?_
            refine lv_dup2_11 hx hb dX6_go_246 rfl rfl ?_
            refine g_iald hx hb hK hP (hC.1.1 48 (by decide)) F_next (vp_in_nI (by omega) (by decide)) dX6_go_247 ?_
            refine lv_topi (fun x_11 ex_11 => ?_)
            rw [nI_clamp (by omega)] at ex_11
            obtain rfl : x_11 = nI (nx dp) := ex_11.trans (hpt.2.2.2.2 dp (Nat.le_refl _)).1
            refine lv_iconst (v := 1) hx hb dX6_go_248 (by decide) ?_
            refine lv_iadd hx hb dX6_go_249 ?_
            refine lv_topi (fun x_12 ex_12 => ?_)
            obtain rfl : x_12 = nI ((nx dp) + 1) := ex_12.trans (nI_add (nx dp) 1)
            refine g_iast hx hb hK hP hD hS (hC.1.1 48 (by decide)) F_next (vp_in_nI (by omega) (by decide)) dX6_go_250 (fun H locs hP hD hS => ?_)
            obtain ⟨g_13, eg_13⟩ : ∃ z9, z9 = upd gn (Int32.toNatClampNeg (nI dp)) (nI ((nx dp) + 1)) := ⟨_, rfl⟩
            rw [← eg_13] at hP hD
            obtain ⟨f_14, ef_14⟩ : ∃ z9, z9 = va_up fva (rt 48) (.inl (K 0, 5, .inl g_13)) := ⟨_, rfl⟩
            rw [← ef_14] at hP hD
            have F_at : f_14 (rt 40) = .inl (K 0, 5, .inl ga) := by rw [ef_14, va_up_ne _ _ (fun q => absurd (hC.1.2 40 (by decide) 48 (by decide) q) (by decide))]; exact F_at
            have F_filledTo : f_14 (rt 42) = .inl (K 0, 5, .inl gf) := by rw [ef_14, va_up_ne _ _ (fun q => absurd (hC.1.2 42 (by decide) 48 (by decide) q) (by decide))]; exact F_filledTo
            have F_upTo : f_14 (rt 41) = .inl (K 1, 5, .inr (.inl gu)) := by rw [ef_14, va_up_ne _ _ (fun q => absurd (hC.1.2 41 (by decide) 48 (by decide) q) (by decide))]; exact F_upTo
            have F_m : f_14 (rt 51) = .inr (6, fmva) := by rw [ef_14, va_up_ne _ _ (fun q => absurd (hC.1.2 51 (by decide) 48 (by decide) q) (by decide))]; exact F_m
            have F_next : f_14 (rt 48) = .inl (K 0, 5, .inl g_13) := by rw [ef_14, va_up_self]
            have hC : mC rt L f_14 fmva := ⟨hC.1, F_m, hC.2.2.1, hC.2.2.2⟩
            have hSm : gSm rt [40, 41, 42, 48, 51] f_6 f_14 := by rw [ef_14]; exact hSm.up (by decide) _
            rw [nI_clamp (by omega)] at eg_13
            refine lv_iload hx hb dX6_go_251 (lv_at hl 0 rfl) ?_
            refine lv_aload_n hx hb dX6_go_253 rfl (lv_at hl 1 rfl) ?_
            refine g_get (ci := 6) (v := .int (nI mm)) (C := RX6) (T := TX6) (N := 51) hx hb hts uB6 hown hK hP (hC.1.1 51 (by decide)) F_m rfl 35 (by decide) wm_63 I_may dX6_go_254 ?_
            refine lv_icmp_ne (tgt := 267) hx hb dX6_go_257 (by decide) (fun c_15 => ?_) (fun c_15 => ?_)
            · skip
              have nc_15 : ¬ ((nx dp) = mm) := fun q => c_15 (show nI (nx dp) = nI mm from (bn_eq (a := (nx dp)) (b := mm) (by omega) (by omega)).mpr q)
              have hnm : nx dp < mm := by omega
              refine lv_iload_n hx hb dX6_go_267 rfl (lv_at hl 2 rfl) ?_
              refine lv_if_eq (tgt := 276) hx hb dX6_go_268 (by decide) (fun _ => ?_) (fun h9 => absurd (by decide) h9)
              refine lv_aload_n hx hb dX6_go_276 rfl (lv_at hl 1 rfl) ?_
              refine g_get (ci := 6) (v := .ref (rt 47)) (C := RX6) (T := TX6) (N := 51) hx hb hts uB6 hown hK hP (hC.1.1 51 (by decide)) F_m rfl 47 (by decide) wm_132 (hC.2.2.2 47 (by decide)) dX6_go_277 ?_
              refine lv_iload hx hb dX6_go_280 (lv_at hl 0 rfl) ?_
              refine g_iald hx hb hK hP (hC.1.1 47 (by decide)) ((hSm.at hC.1 (by decide) (by decide)).trans ((hSma.at hC.1 (by decide) (by decide)).trans F_order)) (vp_in_nI (by omega) (by decide)) dX6_go_282 ?_
              refine lv_topi (fun x_16 ex_16 => ?_)
              rw [nI_clamp (by omega)] at ex_16
              obtain ⟨q9, hq9, hqe⟩ := hor (nx dp) (by omega)
              obtain rfl : x_16 = nI (q9) := ex_16.trans hqe
              refine lv_istore (lv' := [(5, .int (nI q9)), (4, .int (nI (nx dp))), (0, .ref (rt 51)), (1, .int 0), (2, .int wo), (3, .int (nI dp))]) hx hb dX6_go_283 hl (by decide) rfl (fun ls hl => ?_)
              refine lv_iload hx hb dX6_go_285 (lv_at hl 0 rfl) ?_
              refine lv_aload_n hx hb dX6_go_287 rfl (lv_at hl 2 rfl) ?_
              refine g_get (ci := 6) (v := .int (nI mm)) (C := RX6) (T := TX6) (N := 51) hx hb hts uB6 hown hK hP (hC.1.1 51 (by decide)) F_m rfl 35 (by decide) wm_63 I_may dX6_go_288 ?_
              refine lv_icmp_ge (tgt := 308) hx hb dX6_go_291 (by decide) (fun c_17 => ?_) (fun c_17 => ?_)
              · skip
                have nc_17 : mm ≤ q9 := (bn_le (a := mm) (b := q9) (by omega) (by omega)).mp (show nI mm ≤ nI q9 from c_17)
                exact (show False by omega).elim
              · skip
                have nc_17 : ¬ (mm ≤ q9) := fun q => c_17 (show nI mm ≤ nI q9 from (bn_le (a := mm) (b := q9) (by omega) (by omega)).mpr q)
                refine lv_aload_n hx hb dX6_go_294 rfl (lv_at hl 2 rfl) ?_
                refine lv_iload hx hb dX6_go_295 (lv_at hl 0 rfl) ?_
                refine lv_iload_n hx hb dX6_go_297 rfl (lv_at hl 5 rfl) ?_
                refine lv_iload_n hx hb dX6_go_298 rfl (lv_at hl 4 rfl) ?_
                refine gc_R (ci := 6) ⟨hx, hb, hml, hown, hts⟩ (m_fits l dC dI K L f_14 rt hC F_at ((hSm.at hC.1 (by decide) (by decide)).trans ((hSma.at hC.1 (by decide) (by decide)).trans F_mayBe)) ((hSm.at hC.1 (by decide) (by decide)).trans ((hSma.at hC.1 (by decide) (by decide)).trans F_apart)) I_may q9 dp wo hmm (by omega) (by omega) (fun k hk => ⟨av k, (hpt.2.1 k hk).1, hpt.1 k hk⟩) hmb) 3 wm_143 wm_144 wm_145 wm_8 wm_146 (by decide +kernel) ⟨Nat.le_of_ble_eq_true rfl, Nat.le_of_ble_eq_true rfl⟩ hK rfl (hC.1.1 51 (by decide)) F_m rfl hl.1 rfl (Nat.le_of_ble_eq_true rfl) dX6_go_299 ⟨Nat.le_of_ble_eq_true rfl, Nat.le_of_ble_eq_true rfl⟩ hS hP (fun r_18 H locs hpr_18 hP hS => ?_)
                refine lv_if_ne (tgt := 308) hx hb dX6_go_302 (by decide) (fun c_19 => ?_) (fun c_19 => ?_)
                · skip
                  have hft := (hpr_18.resolve_right (fun q => c_19 q.1)).2
                  refine lv_aload_n hx hb dX6_go_308 rfl (lv_at hl 2 rfl) ?_
                  refine g_get (ci := 6) (v := .ref (rt 41)) (C := RX6) (T := TX6) (N := 51) hx hb hts uB6 hown hK hP (hC.1.1 51 (by decide)) F_m rfl 41 (by decide) wm_141 (hC.2.2.2 41 (by decide)) dX6_go_309 ?_
                  refine lv_iload_n hx hb dX6_go_312 rfl (lv_at hl 5 rfl) ?_
                  refine g_lald hx hb hK hP (hC.1.1 41 (by decide)) F_upTo (vp_in_nI (by omega) (by decide)) dX6_go_313 ?_
                  refine lv_topl (fun x_20 ex_20 => ?_)
                  rw [nI_clamp (by omega)] at ex_20
                  obtain rfl : x_20 = lN (sG wn mm av dp) := ex_20.trans (hpt.2.2.1 dp (Nat.le_refl _))
                  refine lv_iload hx hb dX6_go_314 (lv_at hl 0 rfl) ?_
                  refine lv_aload_n hx hb dX6_go_316 rfl (lv_at hl 2 rfl) ?_
                  refine g_get (ci := 6) (v := .int (nI mm)) (C := RX6) (T := TX6) (N := 51) hx hb hts uB6 hown hK hP (hC.1.1 51 (by decide)) F_m rfl 35 (by decide) wm_63 I_may dX6_go_317 ?_
                  refine lv_icmp_ge (tgt := 337) hx hb dX6_go_320 (by decide) (fun c_21 => ?_) (fun c_21 => ?_)
                  · skip
                    have nc_21 : mm ≤ q9 := (bn_le (a := mm) (b := q9) (by omega) (by omega)).mp (show nI mm ≤ nI q9 from c_21)
                    exact (show False by omega).elim
                  · skip
                    have nc_21 : ¬ (mm ≤ q9) := fun q => c_21 (show nI mm ≤ nI q9 from (bn_le (a := mm) (b := q9) (by omega) (by omega)).mpr q)
                    refine lv_aload_n hx hb dX6_go_323 rfl (lv_at hl 2 rfl) ?_
                    refine g_get (ci := 6) (v := .ref (rt 37)) (C := RX6) (T := TX6) (N := 51) hx hb hts uB6 hown hK hP (hC.1.1 51 (by decide)) F_m rfl 37 (by decide) wm_133 (hC.2.2.2 37 (by decide)) dX6_go_324 ?_
                    refine lv_iconst (v := 4) hx hb dX6_go_327 (by decide) ?_
                    refine lv_iload hx hb dX6_go_328 (lv_at hl 0 rfl) ?_
                    refine lv_imul hx hb dX6_go_330 ?_
                    refine lv_topi (fun x_22 ex_22 => ?_)
                    obtain rfl : x_22 = nI (4 * q9) := ex_22.trans (pk_mul 4 q9)
                    refine lv_iload_n hx hb dX6_go_331 rfl (lv_at hl 5 rfl) ?_
                    refine lv_iadd hx hb dX6_go_332 ?_
                    refine lv_topi (fun x_23 ex_23 => ?_)
                    obtain rfl : x_23 = nI ((4 * q9) + dp) := ex_23.trans (nI_add (4 * q9) dp)
                    refine g_lald hx hb hK hP (hC.1.1 37 (by decide)) ((hSm.at hC.1 (by decide) (by decide)).trans ((hSma.at hC.1 (by decide) (by decide)).trans F_worth)) (vp_in_nI (by omega) (by decide)) dX6_go_333 ?_
                    refine lv_topl (fun x_24 ex_24 => ?_)
                    rw [nI_clamp (by omega)] at ex_24
                    obtain ⟨hwe, hwb⟩ := hw q9 dp (by omega) (by omega)
                    obtain rfl : x_24 = lN (wn q9 dp) := ex_24.trans hwe
                    refine lv_goto (tgt := 338) hx hb dX6_go_334 (by decide) ?_
                    refine lv_ladd hx hb dX6_go_338 ?_
                    refine lv_topl (fun x_25 ex_25 => ?_)
                    obtain rfl : x_25 = lN ((sG wn mm av dp) + (wn q9 dp)) := ex_25.trans (lN_add (sG wn mm av dp) (wn q9 dp))
                    refine lv_lstore (lv' := [(6, .long (lN ((sG wn mm av dp) + (wn q9 dp)))), (5, .int (nI q9)), (4, .int (nI (nx dp))), (0, .ref (rt 51)), (1, .int 0), (2, .int wo), (3, .int (nI dp))]) hx hb dX6_go_339 hl (by decide) rfl (fun ls hl => ?_)
                    refine lv_aload_n hx hb dX6_go_341 rfl (lv_at hl 3 rfl) ?_
                    refine g_get (ci := 6) (v := .ref (rt 42)) (C := RX6) (T := TX6) (N := 51) hx hb hts uB6 hown hK hP (hC.1.1 51 (by decide)) F_m rfl 42 (by decide) wm_142 (hC.2.2.2 42 (by decide)) dX6_go_342 ?_
                    refine lv_iload_n hx hb dX6_go_345 rfl (lv_at hl 6 rfl) ?_
                    refine g_iald hx hb hK hP (hC.1.1 42 (by decide)) F_filledTo (vp_in_nI (by omega) (by decide)) dX6_go_346 ?_
                    refine lv_topi (fun x_26 ex_26 => ?_)
                    rw [nI_clamp (by omega)] at ex_26
                    obtain rfl : x_26 = nI (cG mm av dp) := ex_26.trans (hpt.2.2.2.1 dp (Nat.le_refl _))
                    refine lv_iload hx hb dX6_go_347 (lv_at hl 1 rfl) ?_
                    refine lv_aload_n hx hb dX6_go_349 rfl (lv_at hl 3 rfl) ?_
                    refine g_get (ci := 6) (v := .int (nI mm)) (C := RX6) (T := TX6) (N := 51) hx hb hts uB6 hown hK hP (hC.1.1 51 (by decide)) F_m rfl 35 (by decide) wm_63 I_may dX6_go_350 ?_
                    refine lv_icmp_ge (tgt := 360) hx hb dX6_go_353 (by decide) (fun c_27 => ?_) (fun c_27 => ?_)
                    · skip
                      have nc_27 : mm ≤ q9 := (bn_le (a := mm) (b := q9) (by omega) (by omega)).mp (show nI mm ≤ nI q9 from c_27)
                      exact (show False by omega).elim
                    · skip
                      have nc_27 : ¬ (mm ≤ q9) := fun q => c_27 (show nI mm ≤ nI q9 from (bn_le (a := mm) (b := q9) (by omega) (by omega)).mpr q)
                      refine lv_iconst (v := 1) hx hb dX6_go_356 (by decide) ?_
                      refine lv_goto (tgt := 361) hx hb dX6_go_357 (by decide) ?_
                      refine lv_iadd hx hb dX6_go_361 ?_
                      refine lv_topi (fun x_28 ex_28 => ?_)
                      obtain rfl : x_28 = nI ((cG mm av dp) + 1) := ex_28.trans (nI_add (cG mm av dp) 1)
                      refine lv_istore (lv' := [(8, .int (nI ((cG mm av dp) + 1))), (6, .long (lN ((sG wn mm av dp) + (wn q9 dp)))), (5, .int (nI q9)), (4, .int (nI (nx dp))), (0, .ref (rt 51)), (1, .int 0), (2, .int wo), (3, .int (nI dp))]) hx hb dX6_go_362 hl (by decide) rfl (fun ls hl => ?_)
                      refine lv_lload hx hb dX6_go_364 (lv_at hl 1 rfl) ?_
                      refine lv_aload_n hx hb dX6_go_366 rfl (lv_at hl 4 rfl) ?_
                      refine g_get (ci := 6) (v := .ref (rt 38)) (C := RX6) (T := TX6) (N := 51) hx hb hts uB6 hown hK hP (hC.1.1 51 (by decide)) F_m rfl 38 (by decide) wm_130 (hC.2.2.2 38 (by decide)) dX6_go_367 ?_
                      refine lv_iload_n hx hb dX6_go_370 rfl (lv_at hl 7 rfl) ?_
                      refine lv_iconst (v := 1) hx hb dX6_go_371 (by decide) ?_
                      refine lv_iadd hx hb dX6_go_372 ?_
                      refine lv_topi (fun x_29 ex_29 => ?_)
                      obtain rfl : x_29 = nI (dp + 1) := ex_29.trans (nI_add dp 1)
                      refine g_lald hx hb hK hP (hC.1.1 38 (by decide)) ((hSm.at hC.1 (by decide) (by decide)).trans ((hSma.at hC.1 (by decide) (by decide)).trans F_mostAt)) (vp_in_nI (by omega) (by decide)) dX6_go_373 ?_
                      refine lv_topl (fun x_30 ex_30 => ?_)
                      rw [nI_clamp (by omega)] at ex_30
                      obtain ⟨hme, hmb9⟩ := hma (dp + 1) (by omega)
                      obtain rfl : x_30 = lN (ma (dp + 1)) := ex_30.trans hme
                      refine lv_ladd hx hb dX6_go_374 ?_
                      refine lv_topl (fun x_31 ex_31 => ?_)
                      obtain rfl : x_31 = lN (((sG wn mm av dp) + (wn q9 dp)) + (ma (dp + 1))) := ex_31.trans (lN_add ((sG wn mm av dp) + (wn q9 dp)) (ma (dp + 1)))
                      refine lv_lstore (lv' := [(9, .long (lN (((sG wn mm av dp) + (wn q9 dp)) + (ma (dp + 1))))), (8, .int (nI ((cG mm av dp) + 1))), (6, .long (lN ((sG wn mm av dp) + (wn q9 dp)))), (5, .int (nI q9)), (4, .int (nI (nx dp))), (0, .ref (rt 51)), (1, .int 0), (2, .int wo), (3, .int (nI dp))]) hx hb dX6_go_375 hl (by decide) rfl (fun ls hl => ?_)
                      refine lv_iload hx hb dX6_go_377 (lv_at hl 1 rfl) ?_
                      refine lv_aload_n hx hb dX6_go_379 rfl (lv_at hl 5 rfl) ?_
                      refine g_get (ci := 6) (v := .int (nI sp)) (C := RX6) (T := TX6) (N := 51) hx hb hts uB6 hown hK hP (hC.1.1 51 (by decide)) F_m rfl 39 (by decide) wm_131 I_spots dX6_go_380 ?_
                      refine lv_iadd hx hb dX6_go_383 ?_
                      refine lv_topi (fun x_32 ex_32 => ?_)
                      obtain rfl : x_32 = nI (((cG mm av dp) + 1) + sp) := ex_32.trans (nI_add ((cG mm av dp) + 1) sp)
                      refine lv_iload_n hx hb dX6_go_384 rfl (lv_at hl 8 rfl) ?_
                      refine lv_isub hx hb dX6_go_385 ?_
                      refine lv_topi (fun x_33 ex_33 => ?_)
                      obtain rfl : x_33 = nI ((((cG mm av dp) + 1) + sp) - dp) := ex_33.trans (pk_sub (a := (((cG mm av dp) + 1) + sp)) (b := dp) (by omega))
                      refine lv_iconst (v := 1) hx hb dX6_go_386 (by decide) ?_
                      refine lv_isub hx hb dX6_go_387 ?_
                      refine lv_topi (fun x_34 ex_34 => ?_)
                      obtain rfl : x_34 = nI (((((cG mm av dp) + 1) + sp) - dp) - 1) := ex_34.trans (pk_sub (a := ((((cG mm av dp) + 1) + sp) - dp)) (b := 1) (by omega))
                      refine lv_istore (lv' := [(11, .int (nI (((((cG mm av dp) + 1) + sp) - dp) - 1))), (9, .long (lN (((sG wn mm av dp) + (wn q9 dp)) + (ma (dp + 1))))), (8, .int (nI ((cG mm av dp) + 1))), (6, .long (lN ((sG wn mm av dp) + (wn q9 dp)))), (5, .int (nI q9)), (4, .int (nI (nx dp))), (0, .ref (rt 51)), (1, .int 0), (2, .int wo), (3, .int (nI dp))]) hx hb dX6_go_388 hl (by decide) rfl (fun ls hl => ?_)
                      refine lv_aload_n hx hb dX6_go_390 rfl (lv_at hl 6 rfl) ?_
                      refine g_get (ci := 6) (v := .int 0) (C := RX6) (T := TX6) (N := 51) hx hb hts uB6 hown hK hP (hC.1.1 51 (by decide)) F_m rfl 45 (by decide) wm_147 I_hasBest dX6_go_391 ?_
                      refine lv_if_eq (tgt := 446) hx hb dX6_go_394 (by decide) (fun _ => ?_) (fun h9 => absurd (by decide) h9)
                      refine lv_iconst (v := 0) hx hb dX6_go_446 (by decide) ?_
                      refine lv_istore (lv' := [(12, .int 0), (11, .int (nI (((((cG mm av dp) + 1) + sp) - dp) - 1))), (9, .long (lN (((sG wn mm av dp) + (wn q9 dp)) + (ma (dp + 1))))), (8, .int (nI ((cG mm av dp) + 1))), (6, .long (lN ((sG wn mm av dp) + (wn q9 dp)))), (5, .int (nI q9)), (4, .int (nI (nx dp))), (0, .ref (rt 51)), (1, .int 0), (2, .int wo), (3, .int (nI dp))]) hx hb dX6_go_447 hl (by decide) rfl (fun ls hl => ?_)
                      refine lv_iload hx hb dX6_go_449 (lv_at hl 0 rfl) ?_
                      refine lv_if_eq (tgt := 457) hx hb dX6_go_451 (by decide) (fun _ => ?_) (fun h9 => absurd (by decide) h9)
                      refine lv_aload_n hx hb dX6_go_457 rfl (lv_at hl 7 rfl) ?_
                      refine g_get (ci := 6) (v := .ref (rt 40)) (C := RX6) (T := TX6) (N := 51) hx hb hts uB6 hown hK hP (hC.1.1 51 (by decide)) F_m rfl 40 (by decide) wm_62 (hC.2.2.2 40 (by decide)) dX6_go_458 ?_
                      refine lv_iload_n hx hb dX6_go_461 rfl (lv_at hl 10 rfl) ?_
                      refine lv_iload hx hb dX6_go_462 (lv_at hl 5 rfl) ?_
                      refine g_iast hx hb hK hP hD hS (hC.1.1 40 (by decide)) F_at (vp_in_nI (by omega) (by decide)) dX6_go_464 (fun H locs hP hD hS => ?_)
                      obtain ⟨g_35, eg_35⟩ : ∃ z9, z9 = upd ga (Int32.toNatClampNeg (nI dp)) (nI q9) := ⟨_, rfl⟩
                      rw [← eg_35] at hP hD
                      obtain ⟨f_36, ef_36⟩ : ∃ z9, z9 = va_up f_14 (rt 40) (.inl (K 0, 5, .inl g_35)) := ⟨_, rfl⟩
                      rw [← ef_36] at hP hD
                      have F_next : f_36 (rt 48) = .inl (K 0, 5, .inl g_13) := by rw [ef_36, va_up_ne _ _ (fun q => absurd (hC.1.2 48 (by decide) 40 (by decide) q) (by decide))]; exact F_next
                      have F_filledTo : f_36 (rt 42) = .inl (K 0, 5, .inl gf) := by rw [ef_36, va_up_ne _ _ (fun q => absurd (hC.1.2 42 (by decide) 40 (by decide) q) (by decide))]; exact F_filledTo
                      have F_upTo : f_36 (rt 41) = .inl (K 1, 5, .inr (.inl gu)) := by rw [ef_36, va_up_ne _ _ (fun q => absurd (hC.1.2 41 (by decide) 40 (by decide) q) (by decide))]; exact F_upTo
                      have F_m : f_36 (rt 51) = .inr (6, fmva) := by rw [ef_36, va_up_ne _ _ (fun q => absurd (hC.1.2 51 (by decide) 40 (by decide) q) (by decide))]; exact F_m
                      have F_at : f_36 (rt 40) = .inl (K 0, 5, .inl g_35) := by rw [ef_36, va_up_self]
                      have hC : mC rt L f_36 fmva := ⟨hC.1, F_m, hC.2.2.1, hC.2.2.2⟩
                      have hSm : gSm rt [40, 41, 42, 48, 51] f_6 f_36 := by rw [ef_36]; exact hSm.up (by decide) _
                      rw [nI_clamp (by omega)] at eg_35
                      refine lv_iinc (v := nI (dp + 1)) (lv' := [(3, .int (nI (dp + 1))), (12, .int 0), (11, .int (nI (((((cG mm av dp) + 1) + sp) - dp) - 1))), (9, .long (lN (((sG wn mm av dp) + (wn q9 dp)) + (ma (dp + 1))))), (8, .int (nI ((cG mm av dp) + 1))), (6, .long (lN ((sG wn mm av dp) + (wn q9 dp)))), (5, .int (nI q9)), (4, .int (nI (nx dp))), (0, .ref (rt 51)), (1, .int 0), (2, .int wo)]) hx hb dX6_go_465 hl (k := 10) rfl (by exact nI_1 _) (by decide) rfl (fun ls hl => ?_)
                      refine lv_aload_n hx hb dX6_go_468 rfl (lv_at hl 8 rfl) ?_
                      refine g_get (ci := 6) (v := .ref (rt 48)) (C := RX6) (T := TX6) (N := 51) hx hb hts uB6 hown hK hP (hC.1.1 51 (by decide)) F_m rfl 48 (by decide) wm_140 (hC.2.2.2 48 (by decide)) dX6_go_469 ?_
                      refine lv_iload_n hx hb dX6_go_472 rfl (lv_at hl 0 rfl) ?_
                      refine lv_iconst (v := 0) hx hb dX6_go_473 (by decide) ?_
                      refine g_iast hx hb hK hP hD hS (hC.1.1 48 (by decide)) F_next (vp_in_nI (by omega) (by decide)) dX6_go_474 (fun H locs hP hD hS => ?_)
                      obtain ⟨g_37, eg_37⟩ : ∃ z9, z9 = upd g_13 (Int32.toNatClampNeg (nI (dp + 1))) 0 := ⟨_, rfl⟩
                      rw [← eg_37] at hP hD
                      obtain ⟨f_38, ef_38⟩ : ∃ z9, z9 = va_up f_36 (rt 48) (.inl (K 0, 5, .inl g_37)) := ⟨_, rfl⟩
                      rw [← ef_38] at hP hD
                      have F_at : f_38 (rt 40) = .inl (K 0, 5, .inl g_35) := by rw [ef_38, va_up_ne _ _ (fun q => absurd (hC.1.2 40 (by decide) 48 (by decide) q) (by decide))]; exact F_at
                      have F_filledTo : f_38 (rt 42) = .inl (K 0, 5, .inl gf) := by rw [ef_38, va_up_ne _ _ (fun q => absurd (hC.1.2 42 (by decide) 48 (by decide) q) (by decide))]; exact F_filledTo
                      have F_upTo : f_38 (rt 41) = .inl (K 1, 5, .inr (.inl gu)) := by rw [ef_38, va_up_ne _ _ (fun q => absurd (hC.1.2 41 (by decide) 48 (by decide) q) (by decide))]; exact F_upTo
                      have F_m : f_38 (rt 51) = .inr (6, fmva) := by rw [ef_38, va_up_ne _ _ (fun q => absurd (hC.1.2 51 (by decide) 48 (by decide) q) (by decide))]; exact F_m
                      have F_next : f_38 (rt 48) = .inl (K 0, 5, .inl g_37) := by rw [ef_38, va_up_self]
                      have hC : mC rt L f_38 fmva := ⟨hC.1, F_m, hC.2.2.1, hC.2.2.2⟩
                      have hSm : gSm rt [40, 41, 42, 48, 51] f_6 f_38 := by rw [ef_38]; exact hSm.up (by decide) _
                      rw [nI_clamp (by omega)] at eg_37
                      refine lv_aload_n hx hb dX6_go_475 rfl (lv_at hl 8 rfl) ?_
                      refine g_get (ci := 6) (v := .ref (rt 41)) (C := RX6) (T := TX6) (N := 51) hx hb hts uB6 hown hK hP (hC.1.1 51 (by decide)) F_m rfl 41 (by decide) wm_141 (hC.2.2.2 41 (by decide)) dX6_go_476 ?_
                      refine lv_iload_n hx hb dX6_go_479 rfl (lv_at hl 0 rfl) ?_
                      refine lv_lload hx hb dX6_go_480 (lv_at hl 5 rfl) ?_
                      refine g_last hx hb hK hP hD hS (hC.1.1 41 (by decide)) F_upTo (vp_in_nI (by omega) (by decide)) dX6_go_482 (fun H locs hP hD hS => ?_)
                      obtain ⟨g_39, eg_39⟩ : ∃ z9, z9 = vp_updL gu (Int32.toNatClampNeg (nI (dp + 1))) (lN ((sG wn mm av dp) + (wn q9 dp))) := ⟨_, rfl⟩
                      rw [← eg_39] at hP hD
                      obtain ⟨f_40, ef_40⟩ : ∃ z9, z9 = va_up f_38 (rt 41) (.inl (K 1, 5, .inr (.inl g_39))) := ⟨_, rfl⟩
                      rw [← ef_40] at hP hD
                      have F_next : f_40 (rt 48) = .inl (K 0, 5, .inl g_37) := by rw [ef_40, va_up_ne _ _ (fun q => absurd (hC.1.2 48 (by decide) 41 (by decide) q) (by decide))]; exact F_next
                      have F_at : f_40 (rt 40) = .inl (K 0, 5, .inl g_35) := by rw [ef_40, va_up_ne _ _ (fun q => absurd (hC.1.2 40 (by decide) 41 (by decide) q) (by decide))]; exact F_at
                      have F_filledTo : f_40 (rt 42) = .inl (K 0, 5, .inl gf) := by rw [ef_40, va_up_ne _ _ (fun q => absurd (hC.1.2 42 (by decide) 41 (by decide) q) (by decide))]; exact F_filledTo
                      have F_m : f_40 (rt 51) = .inr (6, fmva) := by rw [ef_40, va_up_ne _ _ (fun q => absurd (hC.1.2 51 (by decide) 41 (by decide) q) (by decide))]; exact F_m
                      have F_upTo : f_40 (rt 41) = .inl (K 1, 5, .inr (.inl g_39)) := by rw [ef_40, va_up_self]
                      have hC : mC rt L f_40 fmva := ⟨hC.1, F_m, hC.2.2.1, hC.2.2.2⟩
                      have hSm : gSm rt [40, 41, 42, 48, 51] f_6 f_40 := by rw [ef_40]; exact hSm.up (by decide) _
                      rw [nI_clamp (by omega)] at eg_39
                      refine lv_aload_n hx hb dX6_go_483 rfl (lv_at hl 8 rfl) ?_
                      refine g_get (ci := 6) (v := .ref (rt 42)) (C := RX6) (T := TX6) (N := 51) hx hb hts uB6 hown hK hP (hC.1.1 51 (by decide)) F_m rfl 42 (by decide) wm_142 (hC.2.2.2 42 (by decide)) dX6_go_484 ?_
                      refine lv_iload_n hx hb dX6_go_487 rfl (lv_at hl 0 rfl) ?_
                      refine lv_iload hx hb dX6_go_488 (lv_at hl 4 rfl) ?_
                      refine g_iast hx hb hK hP hD hS (hC.1.1 42 (by decide)) F_filledTo (vp_in_nI (by omega) (by decide)) dX6_go_490 (fun H locs hP hD hS => ?_)
                      obtain ⟨g_41, eg_41⟩ : ∃ z9, z9 = upd gf (Int32.toNatClampNeg (nI (dp + 1))) (nI ((cG mm av dp) + 1)) := ⟨_, rfl⟩
                      rw [← eg_41] at hP hD
                      obtain ⟨f_42, ef_42⟩ : ∃ z9, z9 = va_up f_40 (rt 42) (.inl (K 0, 5, .inl g_41)) := ⟨_, rfl⟩
                      rw [← ef_42] at hP hD
                      have F_next : f_42 (rt 48) = .inl (K 0, 5, .inl g_37) := by rw [ef_42, va_up_ne _ _ (fun q => absurd (hC.1.2 48 (by decide) 42 (by decide) q) (by decide))]; exact F_next
                      have F_at : f_42 (rt 40) = .inl (K 0, 5, .inl g_35) := by rw [ef_42, va_up_ne _ _ (fun q => absurd (hC.1.2 40 (by decide) 42 (by decide) q) (by decide))]; exact F_at
                      have F_upTo : f_42 (rt 41) = .inl (K 1, 5, .inr (.inl g_39)) := by rw [ef_42, va_up_ne _ _ (fun q => absurd (hC.1.2 41 (by decide) 42 (by decide) q) (by decide))]; exact F_upTo
                      have F_m : f_42 (rt 51) = .inr (6, fmva) := by rw [ef_42, va_up_ne _ _ (fun q => absurd (hC.1.2 51 (by decide) 42 (by decide) q) (by decide))]; exact F_m
                      have F_filledTo : f_42 (rt 42) = .inl (K 0, 5, .inl g_41) := by rw [ef_42, va_up_self]
                      have hC : mC rt L f_42 fmva := ⟨hC.1, F_m, hC.2.2.1, hC.2.2.2⟩
                      have hSm : gSm rt [40, 41, 42, 48, 51] f_6 f_42 := by rw [ef_42]; exact hSm.up (by decide) _
                      rw [nI_clamp (by omega)] at eg_41
                      refine lv_goto (tgt := 23) hx hb dX6_go_491 (by decide) ?_
                      exact iha _ (by rw [← hmua]; exact muG_des (by omega) hmm (by omega)) _ _ _ ⟨f_42, fmva, _, _, _, _, (dp + 1), (va_up av dp q9), (va_up (va_up nx dp (nx dp + 1)) (dp + 1) 0), _, _, _, rfl, hSm, hFs, hC, F_next, F_at, F_filledTo, F_upTo, I_hasBest, I_bestSum, I_bestFilled, by omega, (by rw [eg_35, eg_37, eg_13, eg_41, eg_39]; exact (hpt.inc (by omega)).des (i := q9) (by omega) (fun _ => hft) (by first | rfl | exact congrArg lN (by rw [if_pos (by omega)])) (by first | rfl | exact congrArg nI (by rw [if_pos (by omega)]))), (Or.inl ⟨rfl, fun _ => by rw [va_up_self]; omega⟩), hP, hS, lv_sub hl [8, 9, 10, 0] rfl⟩
                · skip
                  have hnf := (hpr_18.resolve_left (fun q => by rw [c_19] at q; exact absurd q.1 (by decide))).2
                  refine lv_goto (tgt := 23) hx hb dX6_go_305 (by decide) ?_
                  exact iha _ (by rw [← hmua]; exact muG_dec (by omega)) _ _ _ ⟨f_14, fmva, _, _, _, _, dp, av, (va_up nx dp (nx dp + 1)), _, _, _, rfl, hSm, hFs, hC, F_next, F_at, F_filledTo, F_upTo, I_hasBest, I_bestSum, I_bestFilled, by omega, (by rw [eg_13]; exact hpt.inc (by omega)), (Or.inl ⟨rfl, fun _ => by rw [va_up_self]; omega⟩), hP, hS, lv_sub hl [2, 3, 4, 5] rfl⟩
            · skip
              have nc_15 : (nx dp) = mm := (bn_eq (a := (nx dp)) (b := mm) (by omega) (by omega)).mp (show nI (nx dp) = nI mm from c_15)
              have hnm : nx dp = mm := by omega
              refine lv_aload_n hx hb dX6_go_260 rfl (lv_at hl 1 rfl) ?_
              refine g_get (ci := 6) (v := .int (nI mm)) (C := RX6) (T := TX6) (N := 51) hx hb hts uB6 hown hK hP (hC.1.1 51 (by decide)) F_m rfl 35 (by decide) wm_63 I_may dX6_go_261 ?_
              refine lv_goto (tgt := 283) hx hb dX6_go_264 (by decide) ?_
              refine lv_istore (lv' := [(5, .int (nI mm)), (4, .int (nI (nx dp))), (0, .ref (rt 51)), (1, .int 0), (2, .int wo), (3, .int (nI dp))]) hx hb dX6_go_283 hl (by decide) rfl (fun ls hl => ?_)
              refine lv_iload hx hb dX6_go_285 (lv_at hl 0 rfl) ?_
              refine lv_aload_n hx hb dX6_go_287 rfl (lv_at hl 2 rfl) ?_
              refine g_get (ci := 6) (v := .int (nI mm)) (C := RX6) (T := TX6) (N := 51) hx hb hts uB6 hown hK hP (hC.1.1 51 (by decide)) F_m rfl 35 (by decide) wm_63 I_may dX6_go_288 ?_
              refine lv_icmp_ge (tgt := 308) hx hb dX6_go_291 (by decide) (fun c_43 => ?_) (fun c_43 => ?_)
              · skip
                have nc_43 : mm ≤ mm := (bn_le (a := mm) (b := mm) (by omega) (by omega)).mp (show nI mm ≤ nI mm from c_43)
                refine lv_aload_n hx hb dX6_go_308 rfl (lv_at hl 2 rfl) ?_
                refine g_get (ci := 6) (v := .ref (rt 41)) (C := RX6) (T := TX6) (N := 51) hx hb hts uB6 hown hK hP (hC.1.1 51 (by decide)) F_m rfl 41 (by decide) wm_141 (hC.2.2.2 41 (by decide)) dX6_go_309 ?_
                refine lv_iload_n hx hb dX6_go_312 rfl (lv_at hl 5 rfl) ?_
                refine g_lald hx hb hK hP (hC.1.1 41 (by decide)) F_upTo (vp_in_nI (by omega) (by decide)) dX6_go_313 ?_
                refine lv_topl (fun x_44 ex_44 => ?_)
                rw [nI_clamp (by omega)] at ex_44
                obtain rfl : x_44 = lN (sG wn mm av dp) := ex_44.trans (hpt.2.2.1 dp (Nat.le_refl _))
                refine lv_iload hx hb dX6_go_314 (lv_at hl 0 rfl) ?_
                refine lv_aload_n hx hb dX6_go_316 rfl (lv_at hl 2 rfl) ?_
                refine g_get (ci := 6) (v := .int (nI mm)) (C := RX6) (T := TX6) (N := 51) hx hb hts uB6 hown hK hP (hC.1.1 51 (by decide)) F_m rfl 35 (by decide) wm_63 I_may dX6_go_317 ?_
                refine lv_icmp_ge (tgt := 337) hx hb dX6_go_320 (by decide) (fun c_45 => ?_) (fun c_45 => ?_)
                · skip
                  have nc_45 : mm ≤ mm := (bn_le (a := mm) (b := mm) (by omega) (by omega)).mp (show nI mm ≤ nI mm from c_45)
                  refine lv_lconst (v := 0) hx hb dX6_go_337 rfl ?_
                  refine lv_ladd hx hb dX6_go_338 ?_
                  refine lv_topl (fun x_46 ex_46 => ?_)
                  obtain rfl : x_46 = lN ((sG wn mm av dp) + 0) := ex_46.trans (lN_add (sG wn mm av dp) 0)
                  refine lv_lstore (lv' := [(6, .long (lN ((sG wn mm av dp) + 0))), (5, .int (nI mm)), (4, .int (nI (nx dp))), (0, .ref (rt 51)), (1, .int 0), (2, .int wo), (3, .int (nI dp))]) hx hb dX6_go_339 hl (by decide) rfl (fun ls hl => ?_)
                  refine lv_aload_n hx hb dX6_go_341 rfl (lv_at hl 3 rfl) ?_
                  refine g_get (ci := 6) (v := .ref (rt 42)) (C := RX6) (T := TX6) (N := 51) hx hb hts uB6 hown hK hP (hC.1.1 51 (by decide)) F_m rfl 42 (by decide) wm_142 (hC.2.2.2 42 (by decide)) dX6_go_342 ?_
                  refine lv_iload_n hx hb dX6_go_345 rfl (lv_at hl 6 rfl) ?_
                  refine g_iald hx hb hK hP (hC.1.1 42 (by decide)) F_filledTo (vp_in_nI (by omega) (by decide)) dX6_go_346 ?_
                  refine lv_topi (fun x_47 ex_47 => ?_)
                  rw [nI_clamp (by omega)] at ex_47
                  obtain rfl : x_47 = nI (cG mm av dp) := ex_47.trans (hpt.2.2.2.1 dp (Nat.le_refl _))
                  refine lv_iload hx hb dX6_go_347 (lv_at hl 1 rfl) ?_
                  refine lv_aload_n hx hb dX6_go_349 rfl (lv_at hl 3 rfl) ?_
                  refine g_get (ci := 6) (v := .int (nI mm)) (C := RX6) (T := TX6) (N := 51) hx hb hts uB6 hown hK hP (hC.1.1 51 (by decide)) F_m rfl 35 (by decide) wm_63 I_may dX6_go_350 ?_
                  refine lv_icmp_ge (tgt := 360) hx hb dX6_go_353 (by decide) (fun c_48 => ?_) (fun c_48 => ?_)
                  · skip
                    have nc_48 : mm ≤ mm := (bn_le (a := mm) (b := mm) (by omega) (by omega)).mp (show nI mm ≤ nI mm from c_48)
                    refine lv_iconst (v := 0) hx hb dX6_go_360 (by decide) ?_
                    refine lv_iadd hx hb dX6_go_361 ?_
                    refine lv_topi (fun x_49 ex_49 => ?_)
                    obtain rfl : x_49 = nI ((cG mm av dp) + 0) := ex_49.trans (nI_add (cG mm av dp) 0)
                    refine lv_istore (lv' := [(8, .int (nI ((cG mm av dp) + 0))), (6, .long (lN ((sG wn mm av dp) + 0))), (5, .int (nI mm)), (4, .int (nI (nx dp))), (0, .ref (rt 51)), (1, .int 0), (2, .int wo), (3, .int (nI dp))]) hx hb dX6_go_362 hl (by decide) rfl (fun ls hl => ?_)
                    refine lv_lload hx hb dX6_go_364 (lv_at hl 1 rfl) ?_
                    refine lv_aload_n hx hb dX6_go_366 rfl (lv_at hl 4 rfl) ?_
                    refine g_get (ci := 6) (v := .ref (rt 38)) (C := RX6) (T := TX6) (N := 51) hx hb hts uB6 hown hK hP (hC.1.1 51 (by decide)) F_m rfl 38 (by decide) wm_130 (hC.2.2.2 38 (by decide)) dX6_go_367 ?_
                    refine lv_iload_n hx hb dX6_go_370 rfl (lv_at hl 7 rfl) ?_
                    refine lv_iconst (v := 1) hx hb dX6_go_371 (by decide) ?_
                    refine lv_iadd hx hb dX6_go_372 ?_
                    refine lv_topi (fun x_50 ex_50 => ?_)
                    obtain rfl : x_50 = nI (dp + 1) := ex_50.trans (nI_add dp 1)
                    refine g_lald hx hb hK hP (hC.1.1 38 (by decide)) ((hSm.at hC.1 (by decide) (by decide)).trans ((hSma.at hC.1 (by decide) (by decide)).trans F_mostAt)) (vp_in_nI (by omega) (by decide)) dX6_go_373 ?_
                    refine lv_topl (fun x_51 ex_51 => ?_)
                    rw [nI_clamp (by omega)] at ex_51
                    obtain ⟨hme, hmb9⟩ := hma (dp + 1) (by omega)
                    obtain rfl : x_51 = lN (ma (dp + 1)) := ex_51.trans hme
                    refine lv_ladd hx hb dX6_go_374 ?_
                    refine lv_topl (fun x_52 ex_52 => ?_)
                    obtain rfl : x_52 = lN (((sG wn mm av dp) + 0) + (ma (dp + 1))) := ex_52.trans (lN_add ((sG wn mm av dp) + 0) (ma (dp + 1)))
                    refine lv_lstore (lv' := [(9, .long (lN (((sG wn mm av dp) + 0) + (ma (dp + 1))))), (8, .int (nI ((cG mm av dp) + 0))), (6, .long (lN ((sG wn mm av dp) + 0))), (5, .int (nI mm)), (4, .int (nI (nx dp))), (0, .ref (rt 51)), (1, .int 0), (2, .int wo), (3, .int (nI dp))]) hx hb dX6_go_375 hl (by decide) rfl (fun ls hl => ?_)
                    refine lv_iload hx hb dX6_go_377 (lv_at hl 1 rfl) ?_
                    refine lv_aload_n hx hb dX6_go_379 rfl (lv_at hl 5 rfl) ?_
                    refine g_get (ci := 6) (v := .int (nI sp)) (C := RX6) (T := TX6) (N := 51) hx hb hts uB6 hown hK hP (hC.1.1 51 (by decide)) F_m rfl 39 (by decide) wm_131 I_spots dX6_go_380 ?_
                    refine lv_iadd hx hb dX6_go_383 ?_
                    refine lv_topi (fun x_53 ex_53 => ?_)
                    obtain rfl : x_53 = nI (((cG mm av dp) + 0) + sp) := ex_53.trans (nI_add ((cG mm av dp) + 0) sp)
                    refine lv_iload_n hx hb dX6_go_384 rfl (lv_at hl 8 rfl) ?_
                    refine lv_isub hx hb dX6_go_385 ?_
                    refine lv_topi (fun x_54 ex_54 => ?_)
                    obtain rfl : x_54 = nI ((((cG mm av dp) + 0) + sp) - dp) := ex_54.trans (pk_sub (a := (((cG mm av dp) + 0) + sp)) (b := dp) (by omega))
                    refine lv_iconst (v := 1) hx hb dX6_go_386 (by decide) ?_
                    refine lv_isub hx hb dX6_go_387 ?_
                    refine lv_topi (fun x_55 ex_55 => ?_)
                    obtain rfl : x_55 = nI (((((cG mm av dp) + 0) + sp) - dp) - 1) := ex_55.trans (pk_sub (a := ((((cG mm av dp) + 0) + sp) - dp)) (b := 1) (by omega))
                    refine lv_istore (lv' := [(11, .int (nI (((((cG mm av dp) + 0) + sp) - dp) - 1))), (9, .long (lN (((sG wn mm av dp) + 0) + (ma (dp + 1))))), (8, .int (nI ((cG mm av dp) + 0))), (6, .long (lN ((sG wn mm av dp) + 0))), (5, .int (nI mm)), (4, .int (nI (nx dp))), (0, .ref (rt 51)), (1, .int 0), (2, .int wo), (3, .int (nI dp))]) hx hb dX6_go_388 hl (by decide) rfl (fun ls hl => ?_)
                    refine lv_aload_n hx hb dX6_go_390 rfl (lv_at hl 6 rfl) ?_
                    refine g_get (ci := 6) (v := .int 0) (C := RX6) (T := TX6) (N := 51) hx hb hts uB6 hown hK hP (hC.1.1 51 (by decide)) F_m rfl 45 (by decide) wm_147 I_hasBest dX6_go_391 ?_
                    refine lv_if_eq (tgt := 446) hx hb dX6_go_394 (by decide) (fun _ => ?_) (fun h9 => absurd (by decide) h9)
                    refine lv_iconst (v := 0) hx hb dX6_go_446 (by decide) ?_
                    refine lv_istore (lv' := [(12, .int 0), (11, .int (nI (((((cG mm av dp) + 0) + sp) - dp) - 1))), (9, .long (lN (((sG wn mm av dp) + 0) + (ma (dp + 1))))), (8, .int (nI ((cG mm av dp) + 0))), (6, .long (lN ((sG wn mm av dp) + 0))), (5, .int (nI mm)), (4, .int (nI (nx dp))), (0, .ref (rt 51)), (1, .int 0), (2, .int wo), (3, .int (nI dp))]) hx hb dX6_go_447 hl (by decide) rfl (fun ls hl => ?_)
                    refine lv_iload hx hb dX6_go_449 (lv_at hl 0 rfl) ?_
                    refine lv_if_eq (tgt := 457) hx hb dX6_go_451 (by decide) (fun _ => ?_) (fun h9 => absurd (by decide) h9)
                    refine lv_aload_n hx hb dX6_go_457 rfl (lv_at hl 7 rfl) ?_
                    refine g_get (ci := 6) (v := .ref (rt 40)) (C := RX6) (T := TX6) (N := 51) hx hb hts uB6 hown hK hP (hC.1.1 51 (by decide)) F_m rfl 40 (by decide) wm_62 (hC.2.2.2 40 (by decide)) dX6_go_458 ?_
                    refine lv_iload_n hx hb dX6_go_461 rfl (lv_at hl 10 rfl) ?_
                    refine lv_iload hx hb dX6_go_462 (lv_at hl 5 rfl) ?_
                    refine g_iast hx hb hK hP hD hS (hC.1.1 40 (by decide)) F_at (vp_in_nI (by omega) (by decide)) dX6_go_464 (fun H locs hP hD hS => ?_)
                    obtain ⟨g_56, eg_56⟩ : ∃ z9, z9 = upd ga (Int32.toNatClampNeg (nI dp)) (nI mm) := ⟨_, rfl⟩
                    rw [← eg_56] at hP hD
                    obtain ⟨f_57, ef_57⟩ : ∃ z9, z9 = va_up f_14 (rt 40) (.inl (K 0, 5, .inl g_56)) := ⟨_, rfl⟩
                    rw [← ef_57] at hP hD
                    have F_next : f_57 (rt 48) = .inl (K 0, 5, .inl g_13) := by rw [ef_57, va_up_ne _ _ (fun q => absurd (hC.1.2 48 (by decide) 40 (by decide) q) (by decide))]; exact F_next
                    have F_filledTo : f_57 (rt 42) = .inl (K 0, 5, .inl gf) := by rw [ef_57, va_up_ne _ _ (fun q => absurd (hC.1.2 42 (by decide) 40 (by decide) q) (by decide))]; exact F_filledTo
                    have F_upTo : f_57 (rt 41) = .inl (K 1, 5, .inr (.inl gu)) := by rw [ef_57, va_up_ne _ _ (fun q => absurd (hC.1.2 41 (by decide) 40 (by decide) q) (by decide))]; exact F_upTo
                    have F_m : f_57 (rt 51) = .inr (6, fmva) := by rw [ef_57, va_up_ne _ _ (fun q => absurd (hC.1.2 51 (by decide) 40 (by decide) q) (by decide))]; exact F_m
                    have F_at : f_57 (rt 40) = .inl (K 0, 5, .inl g_56) := by rw [ef_57, va_up_self]
                    have hC : mC rt L f_57 fmva := ⟨hC.1, F_m, hC.2.2.1, hC.2.2.2⟩
                    have hSm : gSm rt [40, 41, 42, 48, 51] f_6 f_57 := by rw [ef_57]; exact hSm.up (by decide) _
                    rw [nI_clamp (by omega)] at eg_56
                    refine lv_iinc (v := nI (dp + 1)) (lv' := [(3, .int (nI (dp + 1))), (12, .int 0), (11, .int (nI (((((cG mm av dp) + 0) + sp) - dp) - 1))), (9, .long (lN (((sG wn mm av dp) + 0) + (ma (dp + 1))))), (8, .int (nI ((cG mm av dp) + 0))), (6, .long (lN ((sG wn mm av dp) + 0))), (5, .int (nI mm)), (4, .int (nI (nx dp))), (0, .ref (rt 51)), (1, .int 0), (2, .int wo)]) hx hb dX6_go_465 hl (k := 10) rfl (by exact nI_1 _) (by decide) rfl (fun ls hl => ?_)
                    refine lv_aload_n hx hb dX6_go_468 rfl (lv_at hl 8 rfl) ?_
                    refine g_get (ci := 6) (v := .ref (rt 48)) (C := RX6) (T := TX6) (N := 51) hx hb hts uB6 hown hK hP (hC.1.1 51 (by decide)) F_m rfl 48 (by decide) wm_140 (hC.2.2.2 48 (by decide)) dX6_go_469 ?_
                    refine lv_iload_n hx hb dX6_go_472 rfl (lv_at hl 0 rfl) ?_
                    refine lv_iconst (v := 0) hx hb dX6_go_473 (by decide) ?_
                    refine g_iast hx hb hK hP hD hS (hC.1.1 48 (by decide)) F_next (vp_in_nI (by omega) (by decide)) dX6_go_474 (fun H locs hP hD hS => ?_)
                    obtain ⟨g_58, eg_58⟩ : ∃ z9, z9 = upd g_13 (Int32.toNatClampNeg (nI (dp + 1))) 0 := ⟨_, rfl⟩
                    rw [← eg_58] at hP hD
                    obtain ⟨f_59, ef_59⟩ : ∃ z9, z9 = va_up f_57 (rt 48) (.inl (K 0, 5, .inl g_58)) := ⟨_, rfl⟩
                    rw [← ef_59] at hP hD
                    have F_at : f_59 (rt 40) = .inl (K 0, 5, .inl g_56) := by rw [ef_59, va_up_ne _ _ (fun q => absurd (hC.1.2 40 (by decide) 48 (by decide) q) (by decide))]; exact F_at
                    have F_filledTo : f_59 (rt 42) = .inl (K 0, 5, .inl gf) := by rw [ef_59, va_up_ne _ _ (fun q => absurd (hC.1.2 42 (by decide) 48 (by decide) q) (by decide))]; exact F_filledTo
                    have F_upTo : f_59 (rt 41) = .inl (K 1, 5, .inr (.inl gu)) := by rw [ef_59, va_up_ne _ _ (fun q => absurd (hC.1.2 41 (by decide) 48 (by decide) q) (by decide))]; exact F_upTo
                    have F_m : f_59 (rt 51) = .inr (6, fmva) := by rw [ef_59, va_up_ne _ _ (fun q => absurd (hC.1.2 51 (by decide) 48 (by decide) q) (by decide))]; exact F_m
                    have F_next : f_59 (rt 48) = .inl (K 0, 5, .inl g_58) := by rw [ef_59, va_up_self]
                    have hC : mC rt L f_59 fmva := ⟨hC.1, F_m, hC.2.2.1, hC.2.2.2⟩
                    have hSm : gSm rt [40, 41, 42, 48, 51] f_6 f_59 := by rw [ef_59]; exact hSm.up (by decide) _
                    rw [nI_clamp (by omega)] at eg_58
                    refine lv_aload_n hx hb dX6_go_475 rfl (lv_at hl 8 rfl) ?_
                    refine g_get (ci := 6) (v := .ref (rt 41)) (C := RX6) (T := TX6) (N := 51) hx hb hts uB6 hown hK hP (hC.1.1 51 (by decide)) F_m rfl 41 (by decide) wm_141 (hC.2.2.2 41 (by decide)) dX6_go_476 ?_
                    refine lv_iload_n hx hb dX6_go_479 rfl (lv_at hl 0 rfl) ?_
                    refine lv_lload hx hb dX6_go_480 (lv_at hl 5 rfl) ?_
                    refine g_last hx hb hK hP hD hS (hC.1.1 41 (by decide)) F_upTo (vp_in_nI (by omega) (by decide)) dX6_go_482 (fun H locs hP hD hS => ?_)
                    obtain ⟨g_60, eg_60⟩ : ∃ z9, z9 = vp_updL gu (Int32.toNatClampNeg (nI (dp + 1))) (lN ((sG wn mm av dp) + 0)) := ⟨_, rfl⟩
                    rw [← eg_60] at hP hD
                    obtain ⟨f_61, ef_61⟩ : ∃ z9, z9 = va_up f_59 (rt 41) (.inl (K 1, 5, .inr (.inl g_60))) := ⟨_, rfl⟩
                    rw [← ef_61] at hP hD
                    have F_next : f_61 (rt 48) = .inl (K 0, 5, .inl g_58) := by rw [ef_61, va_up_ne _ _ (fun q => absurd (hC.1.2 48 (by decide) 41 (by decide) q) (by decide))]; exact F_next
                    have F_at : f_61 (rt 40) = .inl (K 0, 5, .inl g_56) := by rw [ef_61, va_up_ne _ _ (fun q => absurd (hC.1.2 40 (by decide) 41 (by decide) q) (by decide))]; exact F_at
                    have F_filledTo : f_61 (rt 42) = .inl (K 0, 5, .inl gf) := by rw [ef_61, va_up_ne _ _ (fun q => absurd (hC.1.2 42 (by decide) 41 (by decide) q) (by decide))]; exact F_filledTo
                    have F_m : f_61 (rt 51) = .inr (6, fmva) := by rw [ef_61, va_up_ne _ _ (fun q => absurd (hC.1.2 51 (by decide) 41 (by decide) q) (by decide))]; exact F_m
                    have F_upTo : f_61 (rt 41) = .inl (K 1, 5, .inr (.inl g_60)) := by rw [ef_61, va_up_self]
                    have hC : mC rt L f_61 fmva := ⟨hC.1, F_m, hC.2.2.1, hC.2.2.2⟩
                    have hSm : gSm rt [40, 41, 42, 48, 51] f_6 f_61 := by rw [ef_61]; exact hSm.up (by decide) _
                    rw [nI_clamp (by omega)] at eg_60
                    refine lv_aload_n hx hb dX6_go_483 rfl (lv_at hl 8 rfl) ?_
                    refine g_get (ci := 6) (v := .ref (rt 42)) (C := RX6) (T := TX6) (N := 51) hx hb hts uB6 hown hK hP (hC.1.1 51 (by decide)) F_m rfl 42 (by decide) wm_142 (hC.2.2.2 42 (by decide)) dX6_go_484 ?_
                    refine lv_iload_n hx hb dX6_go_487 rfl (lv_at hl 0 rfl) ?_
                    refine lv_iload hx hb dX6_go_488 (lv_at hl 4 rfl) ?_
                    refine g_iast hx hb hK hP hD hS (hC.1.1 42 (by decide)) F_filledTo (vp_in_nI (by omega) (by decide)) dX6_go_490 (fun H locs hP hD hS => ?_)
                    obtain ⟨g_62, eg_62⟩ : ∃ z9, z9 = upd gf (Int32.toNatClampNeg (nI (dp + 1))) (nI ((cG mm av dp) + 0)) := ⟨_, rfl⟩
                    rw [← eg_62] at hP hD
                    obtain ⟨f_63, ef_63⟩ : ∃ z9, z9 = va_up f_61 (rt 42) (.inl (K 0, 5, .inl g_62)) := ⟨_, rfl⟩
                    rw [← ef_63] at hP hD
                    have F_next : f_63 (rt 48) = .inl (K 0, 5, .inl g_58) := by rw [ef_63, va_up_ne _ _ (fun q => absurd (hC.1.2 48 (by decide) 42 (by decide) q) (by decide))]; exact F_next
                    have F_at : f_63 (rt 40) = .inl (K 0, 5, .inl g_56) := by rw [ef_63, va_up_ne _ _ (fun q => absurd (hC.1.2 40 (by decide) 42 (by decide) q) (by decide))]; exact F_at
                    have F_upTo : f_63 (rt 41) = .inl (K 1, 5, .inr (.inl g_60)) := by rw [ef_63, va_up_ne _ _ (fun q => absurd (hC.1.2 41 (by decide) 42 (by decide) q) (by decide))]; exact F_upTo
                    have F_m : f_63 (rt 51) = .inr (6, fmva) := by rw [ef_63, va_up_ne _ _ (fun q => absurd (hC.1.2 51 (by decide) 42 (by decide) q) (by decide))]; exact F_m
                    have F_filledTo : f_63 (rt 42) = .inl (K 0, 5, .inl g_62) := by rw [ef_63, va_up_self]
                    have hC : mC rt L f_63 fmva := ⟨hC.1, F_m, hC.2.2.1, hC.2.2.2⟩
                    have hSm : gSm rt [40, 41, 42, 48, 51] f_6 f_63 := by rw [ef_63]; exact hSm.up (by decide) _
                    rw [nI_clamp (by omega)] at eg_62
                    refine lv_goto (tgt := 23) hx hb dX6_go_491 (by decide) ?_
                    exact iha _ (by rw [← hmua]; exact muG_des (by omega) hmm (by omega)) _ _ _ ⟨f_63, fmva, _, _, _, _, (dp + 1), (va_up av dp mm), (va_up (va_up nx dp (nx dp + 1)) (dp + 1) 0), _, _, _, rfl, hSm, hFs, hC, F_next, F_at, F_filledTo, F_upTo, I_hasBest, I_bestSum, I_bestFilled, by omega, (by rw [eg_56, eg_58, eg_13, eg_62, eg_60]; exact (hpt.inc (by omega)).des (i := mm) (by omega) (fun h => by omega) (by first | rfl | exact congrArg lN (by rw [if_neg (by omega)])) (by first | rfl | exact congrArg nI (by rw [if_neg (by omega)]))), (Or.inl ⟨rfl, fun _ => by rw [va_up_self]; omega⟩), hP, hS, lv_sub hl [8, 9, 10, 0] rfl⟩
                  · skip
                    have nc_48 : ¬ (mm ≤ mm) := fun q => c_48 (show nI mm ≤ nI mm from (bn_le (a := mm) (b := mm) (by omega) (by omega)).mpr q)
                    exact (show False by omega).elim
                · skip
                  have nc_45 : ¬ (mm ≤ mm) := fun q => c_45 (show nI mm ≤ nI mm from (bn_le (a := mm) (b := mm) (by omega) (by omega)).mpr q)
                  exact (show False by omega).elim
              · skip
                have nc_43 : ¬ (mm ≤ mm) := fun q => c_43 (show nI mm ≤ nI mm from (bn_le (a := mm) (b := mm) (by omega) (by omega)).mpr q)
                exact (show False by omega).elim
          · skip
            have nc_10 : ¬ ((nx dp) ≤ mm) := fun q => c_10 (show nI (nx dp) ≤ nI mm from (bn_le (a := (nx dp)) (b := mm) (by omega) (by omega)).mpr q)
            exact absurd (hnb hds) (by omega)
        · skip
          have nc_8 : dp = sp := (bn_eq (a := dp) (b := sp) (by omega) (by omega)).mp (show nI dp = nI sp from c_8)
          have hds : dp = sp := by omega
          refine lv_aload_n hx hb dX6_go_35 rfl (lv_at hl 0 rfl) ?_
          refine g_get (ci := 6) (v := .int 0) (C := RX6) (T := TX6) (N := 51) hx hb hts uB6 hown hK hP (hC.1.1 51 (by decide)) F_m rfl 45 (by decide) wm_147 I_hasBest dX6_go_36 ?_
          refine lv_if_eq (tgt := 83) hx hb dX6_go_39 (by decide) (fun _ => ?_) (fun h9 => absurd (by decide) h9)
          refine lv_iconst (v := 1) hx hb dX6_go_83 (by decide) ?_
          refine lv_goto (tgt := 88) hx hb dX6_go_84 (by decide) ?_
          refine lv_istore (lv' := [(4, .int 1), (0, .ref (rt 51)), (1, .int 0), (2, .int wo), (3, .int (nI dp))]) hx hb dX6_go_88 hl (by decide) rfl (fun ls hl => ?_)
          refine lv_iload_n hx hb dX6_go_90 rfl (lv_at hl 2 rfl) ?_
          refine lv_if_eq (tgt := 178) hx hb dX6_go_91 (by decide) (fun _ => ?_) (fun h9 => absurd (by decide) h9)
          refine lv_iload hx hb dX6_go_178 (lv_at hl 0 rfl) ?_
          refine lv_if_eq (tgt := 212) hx hb dX6_go_180 (by decide) (fun h9 => absurd h9 (by decide)) (fun _ => ?_)
          refine lv_iload_n hx hb dX6_go_183 rfl (lv_at hl 2 rfl) ?_
          refine lv_if_ne (tgt := 212) hx hb dX6_go_184 (by decide) (fun h9 => absurd (by decide) h9) (fun _ => ?_)
          refine lv_aload_n hx hb dX6_go_187 rfl (lv_at hl 1 rfl) ?_
          refine lv_iconst (v := 1) hx hb dX6_go_188 (by decide) ?_
          refine g_put (ci := 6) (v := .int 1) (ty := .boolean) (C := RX6) (T := TX6) (N := 51) hx hb hts uB6 tyX6 tyX6_ok nmX6 hown hK hP hD hS (hC.1.1 51 (by decide)) F_m rfl 45 (by decide) wm_147 rfl (by decide +kernel) rfl rfl (by rw [hC.2.2.1]; decide) dX6_go_189 (fun H locs hP hD hS => ?_)
          obtain ⟨fs_64, efs_64⟩ : ∃ z9, z9 = List.set fmva 45 (.int 1) := ⟨_, rfl⟩
          rw [← efs_64] at hP hD
          have hlen_ : fs_64.length = 51 := by rw [efs_64, List.length_set]; exact hC.2.2.1
          have I_may : fs_64[35]? = some (.int (nI mm)) := by rw [efs_64, List.getElem?_set_ne (by decide)]; exact I_may
          have I_spots : fs_64[39]? = some (.int (nI sp)) := by rw [efs_64, List.getElem?_set_ne (by decide)]; exact I_spots
          have I_bestSum : fs_64[43]? = some (.long bv) := by rw [efs_64, List.getElem?_set_ne (by decide)]; exact I_bestSum
          have I_bestFilled : fs_64[44]? = some (.int bw) := by rw [efs_64, List.getElem?_set_ne (by decide)]; exact I_bestFilled
          have I_hasBest : fs_64[45]? = some (.int 1) := by rw [efs_64]; exact List.getElem?_set_self (by rw [hC.2.2.1]; decide)
          have hmr_ : ∀ k ∈ mArr, fs_64[k]? = some (.ref (rt k)) := fun k h => by rw [efs_64, List.getElem?_set_ne (fun q => by rw [← q] at h; exact absurd h (by decide))]; exact hC.2.2.2 k h
          obtain ⟨f_65, ef_65⟩ : ∃ z9, z9 = va_up fva (rt 51) (.inr (6, fs_64)) := ⟨_, rfl⟩
          rw [← ef_65] at hP hD
          have F_next : f_65 (rt 48) = .inl (K 0, 5, .inl gn) := by rw [ef_65, va_up_ne _ _ (fun q => absurd (hC.1.2 48 (by decide) 51 (by decide) q) (by decide))]; exact F_next
          have F_at : f_65 (rt 40) = .inl (K 0, 5, .inl ga) := by rw [ef_65, va_up_ne _ _ (fun q => absurd (hC.1.2 40 (by decide) 51 (by decide) q) (by decide))]; exact F_at
          have F_filledTo : f_65 (rt 42) = .inl (K 0, 5, .inl gf) := by rw [ef_65, va_up_ne _ _ (fun q => absurd (hC.1.2 42 (by decide) 51 (by decide) q) (by decide))]; exact F_filledTo
          have F_upTo : f_65 (rt 41) = .inl (K 1, 5, .inr (.inl gu)) := by rw [ef_65, va_up_ne _ _ (fun q => absurd (hC.1.2 41 (by decide) 51 (by decide) q) (by decide))]; exact F_upTo
          have F_m : f_65 (rt 51) = .inr (6, fs_64) := by rw [ef_65, va_up_self]
          have hSm : gSm rt [40, 41, 42, 48, 51] f_6 f_65 := by rw [ef_65]; exact hSm.up (by decide) _
          have hC : mC rt L f_65 fs_64 := ⟨hC.1, F_m, hlen_, hmr_⟩
          have hFs : fmS [43, 44, 45] fm fs_64 := by rw [efs_64]; exact hFs.st (by decide) _
          refine lv_aload_n hx hb dX6_go_192 rfl (lv_at hl 1 rfl) ?_
          refine lv_aload_n hx hb dX6_go_193 rfl (lv_at hl 1 rfl) ?_
          refine g_get (ci := 6) (v := .ref (rt 41)) (C := RX6) (T := TX6) (N := 51) hx hb hts uB6 hown hK hP (hC.1.1 51 (by decide)) F_m rfl 41 (by decide) wm_141 (hC.2.2.2 41 (by decide)) dX6_go_194 ?_
          refine lv_iload_n hx hb dX6_go_197 rfl (lv_at hl 4 rfl) ?_
          refine g_lald hx hb hK hP (hC.1.1 41 (by decide)) F_upTo (vp_in_nI (by omega) (by decide)) dX6_go_198 ?_
          refine lv_topl (fun x_66 ex_66 => ?_)
          rw [nI_clamp (by omega)] at ex_66
          obtain rfl : x_66 = lN (sG wn mm av dp) := ex_66.trans (hpt.2.2.1 dp (Nat.le_refl _))
          refine g_put (ci := 6) (v := .long (lN (sG wn mm av dp))) (ty := .long) (C := RX6) (T := TX6) (N := 51) hx hb hts uB6 tyX6 tyX6_ok nmX6 hown hK hP hD hS (hC.1.1 51 (by decide)) F_m rfl 43 (by decide) wm_148 rfl (by decide +kernel) rfl rfl (by rw [hC.2.2.1]; decide) dX6_go_199 (fun H locs hP hD hS => ?_)
          obtain ⟨fs_67, efs_67⟩ : ∃ z9, z9 = List.set fs_64 43 (.long (lN (sG wn mm av dp))) := ⟨_, rfl⟩
          rw [← efs_67] at hP hD
          have hlen_ : fs_67.length = 51 := by rw [efs_67, List.length_set]; exact hC.2.2.1
          have I_may : fs_67[35]? = some (.int (nI mm)) := by rw [efs_67, List.getElem?_set_ne (by decide)]; exact I_may
          have I_spots : fs_67[39]? = some (.int (nI sp)) := by rw [efs_67, List.getElem?_set_ne (by decide)]; exact I_spots
          have I_hasBest : fs_67[45]? = some (.int 1) := by rw [efs_67, List.getElem?_set_ne (by decide)]; exact I_hasBest
          have I_bestFilled : fs_67[44]? = some (.int bw) := by rw [efs_67, List.getElem?_set_ne (by decide)]; exact I_bestFilled
          have I_bestSum : fs_67[43]? = some (.long (lN (sG wn mm av dp))) := by rw [efs_67]; exact List.getElem?_set_self (by rw [hC.2.2.1]; decide)
          have hmr_ : ∀ k ∈ mArr, fs_67[k]? = some (.ref (rt k)) := fun k h => by rw [efs_67, List.getElem?_set_ne (fun q => by rw [← q] at h; exact absurd h (by decide))]; exact hC.2.2.2 k h
          obtain ⟨f_68, ef_68⟩ : ∃ z9, z9 = va_up f_65 (rt 51) (.inr (6, fs_67)) := ⟨_, rfl⟩
          rw [← ef_68] at hP hD
          have F_next : f_68 (rt 48) = .inl (K 0, 5, .inl gn) := by rw [ef_68, va_up_ne _ _ (fun q => absurd (hC.1.2 48 (by decide) 51 (by decide) q) (by decide))]; exact F_next
          have F_at : f_68 (rt 40) = .inl (K 0, 5, .inl ga) := by rw [ef_68, va_up_ne _ _ (fun q => absurd (hC.1.2 40 (by decide) 51 (by decide) q) (by decide))]; exact F_at
          have F_filledTo : f_68 (rt 42) = .inl (K 0, 5, .inl gf) := by rw [ef_68, va_up_ne _ _ (fun q => absurd (hC.1.2 42 (by decide) 51 (by decide) q) (by decide))]; exact F_filledTo
          have F_upTo : f_68 (rt 41) = .inl (K 1, 5, .inr (.inl gu)) := by rw [ef_68, va_up_ne _ _ (fun q => absurd (hC.1.2 41 (by decide) 51 (by decide) q) (by decide))]; exact F_upTo
          have F_m : f_68 (rt 51) = .inr (6, fs_67) := by rw [ef_68, va_up_self]
          have hSm : gSm rt [40, 41, 42, 48, 51] f_6 f_68 := by rw [ef_68]; exact hSm.up (by decide) _
          have hC : mC rt L f_68 fs_67 := ⟨hC.1, F_m, hlen_, hmr_⟩
          have hFs : fmS [43, 44, 45] fm fs_67 := by rw [efs_67]; exact hFs.st (by decide) _
          refine lv_aload_n hx hb dX6_go_202 rfl (lv_at hl 1 rfl) ?_
          refine lv_aload_n hx hb dX6_go_203 rfl (lv_at hl 1 rfl) ?_
          refine g_get (ci := 6) (v := .ref (rt 42)) (C := RX6) (T := TX6) (N := 51) hx hb hts uB6 hown hK hP (hC.1.1 51 (by decide)) F_m rfl 42 (by decide) wm_142 (hC.2.2.2 42 (by decide)) dX6_go_204 ?_
          refine lv_iload_n hx hb dX6_go_207 rfl (lv_at hl 4 rfl) ?_
          refine g_iald hx hb hK hP (hC.1.1 42 (by decide)) F_filledTo (vp_in_nI (by omega) (by decide)) dX6_go_208 ?_
          refine lv_topi (fun x_69 ex_69 => ?_)
          rw [nI_clamp (by omega)] at ex_69
          obtain rfl : x_69 = nI (cG mm av dp) := ex_69.trans (hpt.2.2.2.1 dp (Nat.le_refl _))
          refine g_put (ci := 6) (v := .int (nI (cG mm av dp))) (ty := .int) (C := RX6) (T := TX6) (N := 51) hx hb hts uB6 tyX6 tyX6_ok nmX6 hown hK hP hD hS (hC.1.1 51 (by decide)) F_m rfl 44 (by decide) wm_149 rfl (by decide +kernel) rfl rfl (by rw [hC.2.2.1]; decide) dX6_go_209 (fun H locs hP hD hS => ?_)
          obtain ⟨fs_70, efs_70⟩ : ∃ z9, z9 = List.set fs_67 44 (.int (nI (cG mm av dp))) := ⟨_, rfl⟩
          rw [← efs_70] at hP hD
          have hlen_ : fs_70.length = 51 := by rw [efs_70, List.length_set]; exact hC.2.2.1
          have I_may : fs_70[35]? = some (.int (nI mm)) := by rw [efs_70, List.getElem?_set_ne (by decide)]; exact I_may
          have I_spots : fs_70[39]? = some (.int (nI sp)) := by rw [efs_70, List.getElem?_set_ne (by decide)]; exact I_spots
          have I_hasBest : fs_70[45]? = some (.int 1) := by rw [efs_70, List.getElem?_set_ne (by decide)]; exact I_hasBest
          have I_bestSum : fs_70[43]? = some (.long (lN (sG wn mm av dp))) := by rw [efs_70, List.getElem?_set_ne (by decide)]; exact I_bestSum
          have I_bestFilled : fs_70[44]? = some (.int (nI (cG mm av dp))) := by rw [efs_70]; exact List.getElem?_set_self (by rw [hC.2.2.1]; decide)
          have hmr_ : ∀ k ∈ mArr, fs_70[k]? = some (.ref (rt k)) := fun k h => by rw [efs_70, List.getElem?_set_ne (fun q => by rw [← q] at h; exact absurd h (by decide))]; exact hC.2.2.2 k h
          obtain ⟨f_71, ef_71⟩ : ∃ z9, z9 = va_up f_68 (rt 51) (.inr (6, fs_70)) := ⟨_, rfl⟩
          rw [← ef_71] at hP hD
          have F_next : f_71 (rt 48) = .inl (K 0, 5, .inl gn) := by rw [ef_71, va_up_ne _ _ (fun q => absurd (hC.1.2 48 (by decide) 51 (by decide) q) (by decide))]; exact F_next
          have F_at : f_71 (rt 40) = .inl (K 0, 5, .inl ga) := by rw [ef_71, va_up_ne _ _ (fun q => absurd (hC.1.2 40 (by decide) 51 (by decide) q) (by decide))]; exact F_at
          have F_filledTo : f_71 (rt 42) = .inl (K 0, 5, .inl gf) := by rw [ef_71, va_up_ne _ _ (fun q => absurd (hC.1.2 42 (by decide) 51 (by decide) q) (by decide))]; exact F_filledTo
          have F_upTo : f_71 (rt 41) = .inl (K 1, 5, .inr (.inl gu)) := by rw [ef_71, va_up_ne _ _ (fun q => absurd (hC.1.2 41 (by decide) 51 (by decide) q) (by decide))]; exact F_upTo
          have F_m : f_71 (rt 51) = .inr (6, fs_70) := by rw [ef_71, va_up_self]
          have hSm : gSm rt [40, 41, 42, 48, 51] f_6 f_71 := by rw [ef_71]; exact hSm.up (by decide) _
          have hC : mC rt L f_71 fs_70 := ⟨hC.1, F_m, hlen_, hmr_⟩
          have hFs : fmS [43, 44, 45] fm fs_70 := by rw [efs_70]; exact hFs.st (by decide) _
          have hd1 : 1 ≤ dp := by omega
          obtain ⟨x_72, ex_72⟩ : ∃ y : Int32, y = (nI dp) + (-1) := ⟨_, rfl⟩
          refine lv_iinc (v := x_72) (lv' := [(3, .int x_72), (4, .int 1), (0, .ref (rt 51)), (1, .int 0), (2, .int wo)]) hx hb dX6_go_212 hl (k := 4) rfl (by rw [ex_72]; rfl) (by decide) rfl (fun ls hl => ?_)
          obtain rfl : x_72 = nI (dp - 1) := ex_72.trans (by rw [← Int32.sub_eq_add_neg]; exact pk_sub (a := dp) (b := 1) hd1)
          refine lv_goto (tgt := 23) hx hb dX6_go_215 (by decide) ?_
          exact iha _ (by rw [← hmua]; exact muG_pop (by omega)) _ _ _ ⟨f_71, fs_70, _, _, _, _, (dp - 1), av, nx, _, _, _, rfl, hSm, hFs, hC, F_next, F_at, F_filledTo, F_upTo, I_hasBest, I_bestSum, I_bestFilled, by omega, hpt.pop (by omega), (Or.inr ⟨rfl, av, by rw [hds], by rw [hds], gvOk_cg (fun k hk => rfl) (show gvOk g_mayBe g_apart mm wo av sp by have h9 := hpt.2.1; rw [show dp = sp by omega] at h9; exact h9)⟩), hP, hS, lv_sub hl [2, 3, 4, 0] rfl⟩
    · skip
      have htB : sG wn mm tg sp ≤ 4 * 1272270000000 := Nat.le_trans (sG_le hwB sp (Nat.le_refl _)) (Nat.mul_le_mul_right _ hsp)
      have htC : cG mm tg sp ≤ sp := cG_le sp
      refine lv_iload_n hx hb dX6_go_23 rfl (lv_at hl 3 rfl) ?_
      refine lv_if_lt (tgt := 494) hx hb dX6_go_24 (by decide) (fun c_73 => ?_) (fun c_73 => ?_)
      · skip
        have nc_73 : dp < 0 := (bn_lt (a := dp) (b := 0) (by omega) (by omega)).mp (show nI dp < nI 0 from c_73)
        exact (show False by omega).elim
      · skip
        have nc_73 : ¬ (dp < 0) := fun q => c_73 (show nI dp < nI 0 from (bn_lt (a := dp) (b := 0) (by omega) (by omega)).mpr q)
        refine lv_iload_n hx hb dX6_go_27 rfl (lv_at hl 3 rfl) ?_
        refine lv_aload_n hx hb dX6_go_28 rfl (lv_at hl 0 rfl) ?_
        refine g_get (ci := 6) (v := .int (nI sp)) (C := RX6) (T := TX6) (N := 51) hx hb hts uB6 hown hK hP (hC.1.1 51 (by decide)) F_m rfl 39 (by decide) wm_131 I_spots dX6_go_29 ?_
        refine lv_icmp_ne (tgt := 218) hx hb dX6_go_32 (by decide) (fun c_74 => ?_) (fun c_74 => ?_)
        · skip
          have nc_74 : ¬ (dp = sp) := fun q => c_74 (show nI dp = nI sp from (bn_eq (a := dp) (b := sp) (by omega) (by omega)).mpr q)
          have hds : dp < sp := by omega
          refine lv_aload_n hx hb dX6_go_218 rfl (lv_at hl 0 rfl) ?_
          refine g_get (ci := 6) (v := .ref (rt 48)) (C := RX6) (T := TX6) (N := 51) hx hb hts uB6 hown hK hP (hC.1.1 51 (by decide)) F_m rfl 48 (by decide) wm_140 (hC.2.2.2 48 (by decide)) dX6_go_219 ?_
          refine lv_iload_n hx hb dX6_go_222 rfl (lv_at hl 3 rfl) ?_
          refine g_iald hx hb hK hP (hC.1.1 48 (by decide)) F_next (vp_in_nI (by omega) (by decide)) dX6_go_223 ?_
          refine lv_topi (fun x_75 ex_75 => ?_)
          rw [nI_clamp (by omega)] at ex_75
          obtain rfl : x_75 = nI (nx dp) := ex_75.trans (hpt.2.2.2.2 dp (Nat.le_refl _)).1
          have hnxm := (hpt.2.2.2.2 dp (Nat.le_refl _)).2
          refine lv_istore (lv' := [(4, .int (nI (nx dp))), (0, .ref (rt 51)), (1, .int 0), (2, .int wo), (3, .int (nI dp))]) hx hb dX6_go_224 hl (by decide) rfl (fun ls hl => ?_)
          refine lv_iload hx hb dX6_go_226 (lv_at hl 0 rfl) ?_
          refine lv_aload_n hx hb dX6_go_228 rfl (lv_at hl 1 rfl) ?_
          refine g_get (ci := 6) (v := .int (nI mm)) (C := RX6) (T := TX6) (N := 51) hx hb hts uB6 hown hK hP (hC.1.1 51 (by decide)) F_m rfl 35 (by decide) wm_63 I_may dX6_go_229 ?_
          refine lv_icmp_le (tgt := 241) hx hb dX6_go_232 (by decide) (fun c_76 => ?_) (fun c_76 => ?_)
          · skip
            have nc_76 : (nx dp) ≤ mm := (bn_le (a := (nx dp)) (b := mm) (by omega) (by omega)).mp (show nI (nx dp) ≤ nI mm from c_76)
            refine lv_aload_n hx hb dX6_go_241 rfl (lv_at hl 1 rfl) ?_
            refine g_get (ci := 6) (v := .ref (rt 48)) (C := RX6) (T := TX6) (N := 51) hx hb hts uB6 hown hK hP (hC.1.1 51 (by decide)) F_m rfl 48 (by decide) wm_140 (hC.2.2.2 48 (by decide)) dX6_go_242 ?_
            refine lv_iload_n hx hb dX6_go_245 rfl (lv_at hl 4 rfl) ?_
            refine lv_dup2_11 hx hb dX6_go_246 rfl rfl ?_
            refine g_iald hx hb hK hP (hC.1.1 48 (by decide)) F_next (vp_in_nI (by omega) (by decide)) dX6_go_247 ?_
            refine lv_topi (fun x_77 ex_77 => ?_)
            rw [nI_clamp (by omega)] at ex_77
            obtain rfl : x_77 = nI (nx dp) := ex_77.trans (hpt.2.2.2.2 dp (Nat.le_refl _)).1
            refine lv_iconst (v := 1) hx hb dX6_go_248 (by decide) ?_
            refine lv_iadd hx hb dX6_go_249 ?_
            refine lv_topi (fun x_78 ex_78 => ?_)
            obtain rfl : x_78 = nI ((nx dp) + 1) := ex_78.trans (nI_add (nx dp) 1)
            refine g_iast hx hb hK hP hD hS (hC.1.1 48 (by decide)) F_next (vp_in_nI (by omega) (by decide)) dX6_go_250 (fun H locs hP hD hS => ?_)
            obtain ⟨g_79, eg_79⟩ : ∃ z9, z9 = upd gn (Int32.toNatClampNeg (nI dp)) (nI ((nx dp) + 1)) := ⟨_, rfl⟩
            rw [← eg_79] at hP hD
            obtain ⟨f_80, ef_80⟩ : ∃ z9, z9 = va_up fva (rt 48) (.inl (K 0, 5, .inl g_79)) := ⟨_, rfl⟩
            rw [← ef_80] at hP hD
            have F_at : f_80 (rt 40) = .inl (K 0, 5, .inl ga) := by rw [ef_80, va_up_ne _ _ (fun q => absurd (hC.1.2 40 (by decide) 48 (by decide) q) (by decide))]; exact F_at
            have F_filledTo : f_80 (rt 42) = .inl (K 0, 5, .inl gf) := by rw [ef_80, va_up_ne _ _ (fun q => absurd (hC.1.2 42 (by decide) 48 (by decide) q) (by decide))]; exact F_filledTo
            have F_upTo : f_80 (rt 41) = .inl (K 1, 5, .inr (.inl gu)) := by rw [ef_80, va_up_ne _ _ (fun q => absurd (hC.1.2 41 (by decide) 48 (by decide) q) (by decide))]; exact F_upTo
            have F_m : f_80 (rt 51) = .inr (6, fmva) := by rw [ef_80, va_up_ne _ _ (fun q => absurd (hC.1.2 51 (by decide) 48 (by decide) q) (by decide))]; exact F_m
            have F_next : f_80 (rt 48) = .inl (K 0, 5, .inl g_79) := by rw [ef_80, va_up_self]
            have hC : mC rt L f_80 fmva := ⟨hC.1, F_m, hC.2.2.1, hC.2.2.2⟩
            have hSm : gSm rt [40, 41, 42, 48, 51] f_6 f_80 := by rw [ef_80]; exact hSm.up (by decide) _
            rw [nI_clamp (by omega)] at eg_79
            refine lv_iload hx hb dX6_go_251 (lv_at hl 0 rfl) ?_
            refine lv_aload_n hx hb dX6_go_253 rfl (lv_at hl 1 rfl) ?_
            refine g_get (ci := 6) (v := .int (nI mm)) (C := RX6) (T := TX6) (N := 51) hx hb hts uB6 hown hK hP (hC.1.1 51 (by decide)) F_m rfl 35 (by decide) wm_63 I_may dX6_go_254 ?_
            refine lv_icmp_ne (tgt := 267) hx hb dX6_go_257 (by decide) (fun c_81 => ?_) (fun c_81 => ?_)
            · skip
              have nc_81 : ¬ ((nx dp) = mm) := fun q => c_81 (show nI (nx dp) = nI mm from (bn_eq (a := (nx dp)) (b := mm) (by omega) (by omega)).mpr q)
              have hnm : nx dp < mm := by omega
              refine lv_iload_n hx hb dX6_go_267 rfl (lv_at hl 2 rfl) ?_
              refine lv_if_eq (tgt := 276) hx hb dX6_go_268 (by decide) (fun _ => ?_) (fun h9 => absurd (by decide) h9)
              refine lv_aload_n hx hb dX6_go_276 rfl (lv_at hl 1 rfl) ?_
              refine g_get (ci := 6) (v := .ref (rt 47)) (C := RX6) (T := TX6) (N := 51) hx hb hts uB6 hown hK hP (hC.1.1 51 (by decide)) F_m rfl 47 (by decide) wm_132 (hC.2.2.2 47 (by decide)) dX6_go_277 ?_
              refine lv_iload hx hb dX6_go_280 (lv_at hl 0 rfl) ?_
              refine g_iald hx hb hK hP (hC.1.1 47 (by decide)) ((hSm.at hC.1 (by decide) (by decide)).trans ((hSma.at hC.1 (by decide) (by decide)).trans F_order)) (vp_in_nI (by omega) (by decide)) dX6_go_282 ?_
              refine lv_topi (fun x_82 ex_82 => ?_)
              rw [nI_clamp (by omega)] at ex_82
              obtain ⟨q9, hq9, hqe⟩ := hor (nx dp) (by omega)
              obtain rfl : x_82 = nI (q9) := ex_82.trans hqe
              refine lv_istore (lv' := [(5, .int (nI q9)), (4, .int (nI (nx dp))), (0, .ref (rt 51)), (1, .int 0), (2, .int wo), (3, .int (nI dp))]) hx hb dX6_go_283 hl (by decide) rfl (fun ls hl => ?_)
              refine lv_iload hx hb dX6_go_285 (lv_at hl 0 rfl) ?_
              refine lv_aload_n hx hb dX6_go_287 rfl (lv_at hl 2 rfl) ?_
              refine g_get (ci := 6) (v := .int (nI mm)) (C := RX6) (T := TX6) (N := 51) hx hb hts uB6 hown hK hP (hC.1.1 51 (by decide)) F_m rfl 35 (by decide) wm_63 I_may dX6_go_288 ?_
              refine lv_icmp_ge (tgt := 308) hx hb dX6_go_291 (by decide) (fun c_83 => ?_) (fun c_83 => ?_)
              · skip
                have nc_83 : mm ≤ q9 := (bn_le (a := mm) (b := q9) (by omega) (by omega)).mp (show nI mm ≤ nI q9 from c_83)
                exact (show False by omega).elim
              · skip
                have nc_83 : ¬ (mm ≤ q9) := fun q => c_83 (show nI mm ≤ nI q9 from (bn_le (a := mm) (b := q9) (by omega) (by omega)).mpr q)
                refine lv_aload_n hx hb dX6_go_294 rfl (lv_at hl 2 rfl) ?_
                refine lv_iload hx hb dX6_go_295 (lv_at hl 0 rfl) ?_
                refine lv_iload_n hx hb dX6_go_297 rfl (lv_at hl 5 rfl) ?_
                refine lv_iload_n hx hb dX6_go_298 rfl (lv_at hl 4 rfl) ?_
                refine gc_R (ci := 6) ⟨hx, hb, hml, hown, hts⟩ (m_fits l dC dI K L f_80 rt hC F_at ((hSm.at hC.1 (by decide) (by decide)).trans ((hSma.at hC.1 (by decide) (by decide)).trans F_mayBe)) ((hSm.at hC.1 (by decide) (by decide)).trans ((hSma.at hC.1 (by decide) (by decide)).trans F_apart)) I_may q9 dp wo hmm (by omega) (by omega) (fun k hk => ⟨av k, (hpt.2.1 k hk).1, hpt.1 k hk⟩) hmb) 3 wm_143 wm_144 wm_145 wm_8 wm_146 (by decide +kernel) ⟨Nat.le_of_ble_eq_true rfl, Nat.le_of_ble_eq_true rfl⟩ hK rfl (hC.1.1 51 (by decide)) F_m rfl hl.1 rfl (Nat.le_of_ble_eq_true rfl) dX6_go_299 ⟨Nat.le_of_ble_eq_true rfl, Nat.le_of_ble_eq_true rfl⟩ hS hP (fun r_84 H locs hpr_84 hP hS => ?_)
                refine lv_if_ne (tgt := 308) hx hb dX6_go_302 (by decide) (fun c_85 => ?_) (fun c_85 => ?_)
                · skip
                  have hft := (hpr_84.resolve_right (fun q => c_85 q.1)).2
                  refine lv_aload_n hx hb dX6_go_308 rfl (lv_at hl 2 rfl) ?_
                  refine g_get (ci := 6) (v := .ref (rt 41)) (C := RX6) (T := TX6) (N := 51) hx hb hts uB6 hown hK hP (hC.1.1 51 (by decide)) F_m rfl 41 (by decide) wm_141 (hC.2.2.2 41 (by decide)) dX6_go_309 ?_
                  refine lv_iload_n hx hb dX6_go_312 rfl (lv_at hl 5 rfl) ?_
                  refine g_lald hx hb hK hP (hC.1.1 41 (by decide)) F_upTo (vp_in_nI (by omega) (by decide)) dX6_go_313 ?_
                  refine lv_topl (fun x_86 ex_86 => ?_)
                  rw [nI_clamp (by omega)] at ex_86
                  obtain rfl : x_86 = lN (sG wn mm av dp) := ex_86.trans (hpt.2.2.1 dp (Nat.le_refl _))
                  refine lv_iload hx hb dX6_go_314 (lv_at hl 0 rfl) ?_
                  refine lv_aload_n hx hb dX6_go_316 rfl (lv_at hl 2 rfl) ?_
                  refine g_get (ci := 6) (v := .int (nI mm)) (C := RX6) (T := TX6) (N := 51) hx hb hts uB6 hown hK hP (hC.1.1 51 (by decide)) F_m rfl 35 (by decide) wm_63 I_may dX6_go_317 ?_
                  refine lv_icmp_ge (tgt := 337) hx hb dX6_go_320 (by decide) (fun c_87 => ?_) (fun c_87 => ?_)
                  · skip
                    have nc_87 : mm ≤ q9 := (bn_le (a := mm) (b := q9) (by omega) (by omega)).mp (show nI mm ≤ nI q9 from c_87)
                    exact (show False by omega).elim
                  · skip
                    have nc_87 : ¬ (mm ≤ q9) := fun q => c_87 (show nI mm ≤ nI q9 from (bn_le (a := mm) (b := q9) (by omega) (by omega)).mpr q)
                    refine lv_aload_n hx hb dX6_go_323 rfl (lv_at hl 2 rfl) ?_
                    refine g_get (ci := 6) (v := .ref (rt 37)) (C := RX6) (T := TX6) (N := 51) hx hb hts uB6 hown hK hP (hC.1.1 51 (by decide)) F_m rfl 37 (by decide) wm_133 (hC.2.2.2 37 (by decide)) dX6_go_324 ?_
                    refine lv_iconst (v := 4) hx hb dX6_go_327 (by decide) ?_
                    refine lv_iload hx hb dX6_go_328 (lv_at hl 0 rfl) ?_
                    refine lv_imul hx hb dX6_go_330 ?_
                    refine lv_topi (fun x_88 ex_88 => ?_)
                    obtain rfl : x_88 = nI (4 * q9) := ex_88.trans (pk_mul 4 q9)
                    refine lv_iload_n hx hb dX6_go_331 rfl (lv_at hl 5 rfl) ?_
                    refine lv_iadd hx hb dX6_go_332 ?_
                    refine lv_topi (fun x_89 ex_89 => ?_)
                    obtain rfl : x_89 = nI ((4 * q9) + dp) := ex_89.trans (nI_add (4 * q9) dp)
                    refine g_lald hx hb hK hP (hC.1.1 37 (by decide)) ((hSm.at hC.1 (by decide) (by decide)).trans ((hSma.at hC.1 (by decide) (by decide)).trans F_worth)) (vp_in_nI (by omega) (by decide)) dX6_go_333 ?_
                    refine lv_topl (fun x_90 ex_90 => ?_)
                    rw [nI_clamp (by omega)] at ex_90
                    obtain ⟨hwe, hwb⟩ := hw q9 dp (by omega) (by omega)
                    obtain rfl : x_90 = lN (wn q9 dp) := ex_90.trans hwe
                    refine lv_goto (tgt := 338) hx hb dX6_go_334 (by decide) ?_
                    refine lv_ladd hx hb dX6_go_338 ?_
                    refine lv_topl (fun x_91 ex_91 => ?_)
                    obtain rfl : x_91 = lN ((sG wn mm av dp) + (wn q9 dp)) := ex_91.trans (lN_add (sG wn mm av dp) (wn q9 dp))
                    refine lv_lstore (lv' := [(6, .long (lN ((sG wn mm av dp) + (wn q9 dp)))), (5, .int (nI q9)), (4, .int (nI (nx dp))), (0, .ref (rt 51)), (1, .int 0), (2, .int wo), (3, .int (nI dp))]) hx hb dX6_go_339 hl (by decide) rfl (fun ls hl => ?_)
                    refine lv_aload_n hx hb dX6_go_341 rfl (lv_at hl 3 rfl) ?_
                    refine g_get (ci := 6) (v := .ref (rt 42)) (C := RX6) (T := TX6) (N := 51) hx hb hts uB6 hown hK hP (hC.1.1 51 (by decide)) F_m rfl 42 (by decide) wm_142 (hC.2.2.2 42 (by decide)) dX6_go_342 ?_
                    refine lv_iload_n hx hb dX6_go_345 rfl (lv_at hl 6 rfl) ?_
                    refine g_iald hx hb hK hP (hC.1.1 42 (by decide)) F_filledTo (vp_in_nI (by omega) (by decide)) dX6_go_346 ?_
                    refine lv_topi (fun x_92 ex_92 => ?_)
                    rw [nI_clamp (by omega)] at ex_92
                    obtain rfl : x_92 = nI (cG mm av dp) := ex_92.trans (hpt.2.2.2.1 dp (Nat.le_refl _))
                    refine lv_iload hx hb dX6_go_347 (lv_at hl 1 rfl) ?_
                    refine lv_aload_n hx hb dX6_go_349 rfl (lv_at hl 3 rfl) ?_
                    refine g_get (ci := 6) (v := .int (nI mm)) (C := RX6) (T := TX6) (N := 51) hx hb hts uB6 hown hK hP (hC.1.1 51 (by decide)) F_m rfl 35 (by decide) wm_63 I_may dX6_go_350 ?_
                    refine lv_icmp_ge (tgt := 360) hx hb dX6_go_353 (by decide) (fun c_93 => ?_) (fun c_93 => ?_)
                    · skip
                      have nc_93 : mm ≤ q9 := (bn_le (a := mm) (b := q9) (by omega) (by omega)).mp (show nI mm ≤ nI q9 from c_93)
                      exact (show False by omega).elim
                    · skip
                      have nc_93 : ¬ (mm ≤ q9) := fun q => c_93 (show nI mm ≤ nI q9 from (bn_le (a := mm) (b := q9) (by omega) (by omega)).mpr q)
                      refine lv_iconst (v := 1) hx hb dX6_go_356 (by decide) ?_
                      refine lv_goto (tgt := 361) hx hb dX6_go_357 (by decide) ?_
                      refine lv_iadd hx hb dX6_go_361 ?_
                      refine lv_topi (fun x_94 ex_94 => ?_)
                      obtain rfl : x_94 = nI ((cG mm av dp) + 1) := ex_94.trans (nI_add (cG mm av dp) 1)
                      refine lv_istore (lv' := [(8, .int (nI ((cG mm av dp) + 1))), (6, .long (lN ((sG wn mm av dp) + (wn q9 dp)))), (5, .int (nI q9)), (4, .int (nI (nx dp))), (0, .ref (rt 51)), (1, .int 0), (2, .int wo), (3, .int (nI dp))]) hx hb dX6_go_362 hl (by decide) rfl (fun ls hl => ?_)
                      refine lv_lload hx hb dX6_go_364 (lv_at hl 1 rfl) ?_
                      refine lv_aload_n hx hb dX6_go_366 rfl (lv_at hl 4 rfl) ?_
                      refine g_get (ci := 6) (v := .ref (rt 38)) (C := RX6) (T := TX6) (N := 51) hx hb hts uB6 hown hK hP (hC.1.1 51 (by decide)) F_m rfl 38 (by decide) wm_130 (hC.2.2.2 38 (by decide)) dX6_go_367 ?_
                      refine lv_iload_n hx hb dX6_go_370 rfl (lv_at hl 7 rfl) ?_
                      refine lv_iconst (v := 1) hx hb dX6_go_371 (by decide) ?_
                      refine lv_iadd hx hb dX6_go_372 ?_
                      refine lv_topi (fun x_95 ex_95 => ?_)
                      obtain rfl : x_95 = nI (dp + 1) := ex_95.trans (nI_add dp 1)
                      refine g_lald hx hb hK hP (hC.1.1 38 (by decide)) ((hSm.at hC.1 (by decide) (by decide)).trans ((hSma.at hC.1 (by decide) (by decide)).trans F_mostAt)) (vp_in_nI (by omega) (by decide)) dX6_go_373 ?_
                      refine lv_topl (fun x_96 ex_96 => ?_)
                      rw [nI_clamp (by omega)] at ex_96
                      obtain ⟨hme, hmb9⟩ := hma (dp + 1) (by omega)
                      obtain rfl : x_96 = lN (ma (dp + 1)) := ex_96.trans hme
                      refine lv_ladd hx hb dX6_go_374 ?_
                      refine lv_topl (fun x_97 ex_97 => ?_)
                      obtain rfl : x_97 = lN (((sG wn mm av dp) + (wn q9 dp)) + (ma (dp + 1))) := ex_97.trans (lN_add ((sG wn mm av dp) + (wn q9 dp)) (ma (dp + 1)))
                      refine lv_lstore (lv' := [(9, .long (lN (((sG wn mm av dp) + (wn q9 dp)) + (ma (dp + 1))))), (8, .int (nI ((cG mm av dp) + 1))), (6, .long (lN ((sG wn mm av dp) + (wn q9 dp)))), (5, .int (nI q9)), (4, .int (nI (nx dp))), (0, .ref (rt 51)), (1, .int 0), (2, .int wo), (3, .int (nI dp))]) hx hb dX6_go_375 hl (by decide) rfl (fun ls hl => ?_)
                      refine lv_iload hx hb dX6_go_377 (lv_at hl 1 rfl) ?_
                      refine lv_aload_n hx hb dX6_go_379 rfl (lv_at hl 5 rfl) ?_
                      refine g_get (ci := 6) (v := .int (nI sp)) (C := RX6) (T := TX6) (N := 51) hx hb hts uB6 hown hK hP (hC.1.1 51 (by decide)) F_m rfl 39 (by decide) wm_131 I_spots dX6_go_380 ?_
                      refine lv_iadd hx hb dX6_go_383 ?_
                      refine lv_topi (fun x_98 ex_98 => ?_)
                      obtain rfl : x_98 = nI (((cG mm av dp) + 1) + sp) := ex_98.trans (nI_add ((cG mm av dp) + 1) sp)
                      refine lv_iload_n hx hb dX6_go_384 rfl (lv_at hl 8 rfl) ?_
                      refine lv_isub hx hb dX6_go_385 ?_
                      refine lv_topi (fun x_99 ex_99 => ?_)
                      obtain rfl : x_99 = nI ((((cG mm av dp) + 1) + sp) - dp) := ex_99.trans (pk_sub (a := (((cG mm av dp) + 1) + sp)) (b := dp) (by omega))
                      refine lv_iconst (v := 1) hx hb dX6_go_386 (by decide) ?_
                      refine lv_isub hx hb dX6_go_387 ?_
                      refine lv_topi (fun x_100 ex_100 => ?_)
                      obtain rfl : x_100 = nI (((((cG mm av dp) + 1) + sp) - dp) - 1) := ex_100.trans (pk_sub (a := ((((cG mm av dp) + 1) + sp) - dp)) (b := 1) (by omega))
                      refine lv_istore (lv' := [(11, .int (nI (((((cG mm av dp) + 1) + sp) - dp) - 1))), (9, .long (lN (((sG wn mm av dp) + (wn q9 dp)) + (ma (dp + 1))))), (8, .int (nI ((cG mm av dp) + 1))), (6, .long (lN ((sG wn mm av dp) + (wn q9 dp)))), (5, .int (nI q9)), (4, .int (nI (nx dp))), (0, .ref (rt 51)), (1, .int 0), (2, .int wo), (3, .int (nI dp))]) hx hb dX6_go_388 hl (by decide) rfl (fun ls hl => ?_)
                      refine lv_aload_n hx hb dX6_go_390 rfl (lv_at hl 6 rfl) ?_
                      refine g_get (ci := 6) (v := .int 1) (C := RX6) (T := TX6) (N := 51) hx hb hts uB6 hown hK hP (hC.1.1 51 (by decide)) F_m rfl 45 (by decide) wm_147 I_hasBest dX6_go_391 ?_
                      refine lv_if_eq (tgt := 446) hx hb dX6_go_394 (by decide) (fun h9 => absurd h9 (by decide)) (fun _ => ?_)
                      refine lv_lload hx hb dX6_go_397 (lv_at hl 1 rfl) ?_
                      refine lv_aload_n hx hb dX6_go_399 rfl (lv_at hl 6 rfl) ?_
                      refine g_get (ci := 6) (v := .long (lN (sG wn mm tg sp))) (C := RX6) (T := TX6) (N := 51) hx hb hts uB6 hown hK hP (hC.1.1 51 (by decide)) F_m rfl 43 (by decide) wm_148 I_bestSum dX6_go_400 ?_
                      refine W.lcmp hx hb dX6_go_403 ?_
                      refine lv_topi (fun x_101 ex_101 => ?_)
                      refine lv_if_lt (tgt := 442) hx hb dX6_go_404 (by decide) (fun c_102 => ?_) (fun c_102 => ?_)
                      · skip
                        have nc_102 : (((sG wn mm av dp) + (wn q9 dp)) + (ma (dp + 1))) < (sG wn mm tg sp) := (bl_lt (a := (((sG wn mm av dp) + (wn q9 dp)) + (ma (dp + 1)))) (b := (sG wn mm tg sp)) (by omega) (by omega) ex_101).mp c_102
                        refine lv_iconst (v := 1) hx hb dX6_go_442 (by decide) ?_
                        refine lv_goto (tgt := 447) hx hb dX6_go_443 (by decide) ?_
                        refine lv_istore (lv' := [(12, .int 1), (11, .int (nI (((((cG mm av dp) + 1) + sp) - dp) - 1))), (9, .long (lN (((sG wn mm av dp) + (wn q9 dp)) + (ma (dp + 1))))), (8, .int (nI ((cG mm av dp) + 1))), (6, .long (lN ((sG wn mm av dp) + (wn q9 dp)))), (5, .int (nI q9)), (4, .int (nI (nx dp))), (0, .ref (rt 51)), (1, .int 0), (2, .int wo), (3, .int (nI dp))]) hx hb dX6_go_447 hl (by decide) rfl (fun ls hl => ?_)
                        refine lv_iload hx hb dX6_go_449 (lv_at hl 0 rfl) ?_
                        refine lv_if_eq (tgt := 457) hx hb dX6_go_451 (by decide) (fun h9 => absurd h9 (by decide)) (fun _ => ?_)
                        refine lv_goto (tgt := 23) hx hb dX6_go_454 (by decide) ?_
                        exact iha _ (by rw [← hmua]; exact muG_dec (by omega)) _ _ _ ⟨f_80, fmva, _, _, _, _, dp, av, (va_up nx dp (nx dp + 1)), _, _, _, rfl, hSm, hFs, hC, F_next, F_at, F_filledTo, F_upTo, I_hasBest, I_bestSum, I_bestFilled, by omega, (by rw [eg_79]; exact hpt.inc (by omega)), (Or.inr ⟨rfl, tg, rfl, rfl, htg⟩), hP, hS, lv_sub hl [7, 8, 9, 10] rfl⟩
                      · skip
                        have nc_102 : ¬ ((((sG wn mm av dp) + (wn q9 dp)) + (ma (dp + 1))) < (sG wn mm tg sp)) := fun q => c_102 ((bl_lt (a := (((sG wn mm av dp) + (wn q9 dp)) + (ma (dp + 1)))) (b := (sG wn mm tg sp)) (by omega) (by omega) ex_101).mpr q)
                        refine lv_lload hx hb dX6_go_407 (lv_at hl 1 rfl) ?_
                        refine lv_aload_n hx hb dX6_go_409 rfl (lv_at hl 6 rfl) ?_
                        refine g_get (ci := 6) (v := .long (lN (sG wn mm tg sp))) (C := RX6) (T := TX6) (N := 51) hx hb hts uB6 hown hK hP (hC.1.1 51 (by decide)) F_m rfl 43 (by decide) wm_148 I_bestSum dX6_go_410 ?_
                        refine W.lcmp hx hb dX6_go_413 ?_
                        refine lv_topi (fun x_103 ex_103 => ?_)
                        refine lv_if_ne (tgt := 446) hx hb dX6_go_414 (by decide) (fun c_104 => ?_) (fun c_104 => ?_)
                        · skip
                          have nc_104 : ¬ ((((sG wn mm av dp) + (wn q9 dp)) + (ma (dp + 1))) = (sG wn mm tg sp)) := fun q => c_104 ((bl_eq (a := (((sG wn mm av dp) + (wn q9 dp)) + (ma (dp + 1)))) (b := (sG wn mm tg sp)) (by omega) (by omega) ex_103).mpr q)
                          refine lv_iconst (v := 0) hx hb dX6_go_446 (by decide) ?_
                          refine lv_istore (lv' := [(12, .int 0), (11, .int (nI (((((cG mm av dp) + 1) + sp) - dp) - 1))), (9, .long (lN (((sG wn mm av dp) + (wn q9 dp)) + (ma (dp + 1))))), (8, .int (nI ((cG mm av dp) + 1))), (6, .long (lN ((sG wn mm av dp) + (wn q9 dp)))), (5, .int (nI q9)), (4, .int (nI (nx dp))), (0, .ref (rt 51)), (1, .int 0), (2, .int wo), (3, .int (nI dp))]) hx hb dX6_go_447 hl (by decide) rfl (fun ls hl => ?_)
                          refine lv_iload hx hb dX6_go_449 (lv_at hl 0 rfl) ?_
                          refine lv_if_eq (tgt := 457) hx hb dX6_go_451 (by decide) (fun _ => ?_) (fun h9 => absurd (by decide) h9)
                          refine lv_aload_n hx hb dX6_go_457 rfl (lv_at hl 7 rfl) ?_
                          refine g_get (ci := 6) (v := .ref (rt 40)) (C := RX6) (T := TX6) (N := 51) hx hb hts uB6 hown hK hP (hC.1.1 51 (by decide)) F_m rfl 40 (by decide) wm_62 (hC.2.2.2 40 (by decide)) dX6_go_458 ?_
                          refine lv_iload_n hx hb dX6_go_461 rfl (lv_at hl 10 rfl) ?_
                          refine lv_iload hx hb dX6_go_462 (lv_at hl 5 rfl) ?_
                          refine g_iast hx hb hK hP hD hS (hC.1.1 40 (by decide)) F_at (vp_in_nI (by omega) (by decide)) dX6_go_464 (fun H locs hP hD hS => ?_)
                          obtain ⟨g_105, eg_105⟩ : ∃ z9, z9 = upd ga (Int32.toNatClampNeg (nI dp)) (nI q9) := ⟨_, rfl⟩
                          rw [← eg_105] at hP hD
                          obtain ⟨f_106, ef_106⟩ : ∃ z9, z9 = va_up f_80 (rt 40) (.inl (K 0, 5, .inl g_105)) := ⟨_, rfl⟩
                          rw [← ef_106] at hP hD
                          have F_next : f_106 (rt 48) = .inl (K 0, 5, .inl g_79) := by rw [ef_106, va_up_ne _ _ (fun q => absurd (hC.1.2 48 (by decide) 40 (by decide) q) (by decide))]; exact F_next
                          have F_filledTo : f_106 (rt 42) = .inl (K 0, 5, .inl gf) := by rw [ef_106, va_up_ne _ _ (fun q => absurd (hC.1.2 42 (by decide) 40 (by decide) q) (by decide))]; exact F_filledTo
                          have F_upTo : f_106 (rt 41) = .inl (K 1, 5, .inr (.inl gu)) := by rw [ef_106, va_up_ne _ _ (fun q => absurd (hC.1.2 41 (by decide) 40 (by decide) q) (by decide))]; exact F_upTo
                          have F_m : f_106 (rt 51) = .inr (6, fmva) := by rw [ef_106, va_up_ne _ _ (fun q => absurd (hC.1.2 51 (by decide) 40 (by decide) q) (by decide))]; exact F_m
                          have F_at : f_106 (rt 40) = .inl (K 0, 5, .inl g_105) := by rw [ef_106, va_up_self]
                          have hC : mC rt L f_106 fmva := ⟨hC.1, F_m, hC.2.2.1, hC.2.2.2⟩
                          have hSm : gSm rt [40, 41, 42, 48, 51] f_6 f_106 := by rw [ef_106]; exact hSm.up (by decide) _
                          rw [nI_clamp (by omega)] at eg_105
                          refine lv_iinc (v := nI (dp + 1)) (lv' := [(3, .int (nI (dp + 1))), (12, .int 0), (11, .int (nI (((((cG mm av dp) + 1) + sp) - dp) - 1))), (9, .long (lN (((sG wn mm av dp) + (wn q9 dp)) + (ma (dp + 1))))), (8, .int (nI ((cG mm av dp) + 1))), (6, .long (lN ((sG wn mm av dp) + (wn q9 dp)))), (5, .int (nI q9)), (4, .int (nI (nx dp))), (0, .ref (rt 51)), (1, .int 0), (2, .int wo)]) hx hb dX6_go_465 hl (k := 10) rfl (by exact nI_1 _) (by decide) rfl (fun ls hl => ?_)
                          refine lv_aload_n hx hb dX6_go_468 rfl (lv_at hl 8 rfl) ?_
                          refine g_get (ci := 6) (v := .ref (rt 48)) (C := RX6) (T := TX6) (N := 51) hx hb hts uB6 hown hK hP (hC.1.1 51 (by decide)) F_m rfl 48 (by decide) wm_140 (hC.2.2.2 48 (by decide)) dX6_go_469 ?_
                          refine lv_iload_n hx hb dX6_go_472 rfl (lv_at hl 0 rfl) ?_
                          refine lv_iconst (v := 0) hx hb dX6_go_473 (by decide) ?_
                          refine g_iast hx hb hK hP hD hS (hC.1.1 48 (by decide)) F_next (vp_in_nI (by omega) (by decide)) dX6_go_474 (fun H locs hP hD hS => ?_)
                          obtain ⟨g_107, eg_107⟩ : ∃ z9, z9 = upd g_79 (Int32.toNatClampNeg (nI (dp + 1))) 0 := ⟨_, rfl⟩
                          rw [← eg_107] at hP hD
                          obtain ⟨f_108, ef_108⟩ : ∃ z9, z9 = va_up f_106 (rt 48) (.inl (K 0, 5, .inl g_107)) := ⟨_, rfl⟩
                          rw [← ef_108] at hP hD
                          have F_at : f_108 (rt 40) = .inl (K 0, 5, .inl g_105) := by rw [ef_108, va_up_ne _ _ (fun q => absurd (hC.1.2 40 (by decide) 48 (by decide) q) (by decide))]; exact F_at
                          have F_filledTo : f_108 (rt 42) = .inl (K 0, 5, .inl gf) := by rw [ef_108, va_up_ne _ _ (fun q => absurd (hC.1.2 42 (by decide) 48 (by decide) q) (by decide))]; exact F_filledTo
                          have F_upTo : f_108 (rt 41) = .inl (K 1, 5, .inr (.inl gu)) := by rw [ef_108, va_up_ne _ _ (fun q => absurd (hC.1.2 41 (by decide) 48 (by decide) q) (by decide))]; exact F_upTo
                          have F_m : f_108 (rt 51) = .inr (6, fmva) := by rw [ef_108, va_up_ne _ _ (fun q => absurd (hC.1.2 51 (by decide) 48 (by decide) q) (by decide))]; exact F_m
                          have F_next : f_108 (rt 48) = .inl (K 0, 5, .inl g_107) := by rw [ef_108, va_up_self]
                          have hC : mC rt L f_108 fmva := ⟨hC.1, F_m, hC.2.2.1, hC.2.2.2⟩
                          have hSm : gSm rt [40, 41, 42, 48, 51] f_6 f_108 := by rw [ef_108]; exact hSm.up (by decide) _
                          rw [nI_clamp (by omega)] at eg_107
                          refine lv_aload_n hx hb dX6_go_475 rfl (lv_at hl 8 rfl) ?_
                          refine g_get (ci := 6) (v := .ref (rt 41)) (C := RX6) (T := TX6) (N := 51) hx hb hts uB6 hown hK hP (hC.1.1 51 (by decide)) F_m rfl 41 (by decide) wm_141 (hC.2.2.2 41 (by decide)) dX6_go_476 ?_
                          refine lv_iload_n hx hb dX6_go_479 rfl (lv_at hl 0 rfl) ?_
                          refine lv_lload hx hb dX6_go_480 (lv_at hl 5 rfl) ?_
                          refine g_last hx hb hK hP hD hS (hC.1.1 41 (by decide)) F_upTo (vp_in_nI (by omega) (by decide)) dX6_go_482 (fun H locs hP hD hS => ?_)
                          obtain ⟨g_109, eg_109⟩ : ∃ z9, z9 = vp_updL gu (Int32.toNatClampNeg (nI (dp + 1))) (lN ((sG wn mm av dp) + (wn q9 dp))) := ⟨_, rfl⟩
                          rw [← eg_109] at hP hD
                          obtain ⟨f_110, ef_110⟩ : ∃ z9, z9 = va_up f_108 (rt 41) (.inl (K 1, 5, .inr (.inl g_109))) := ⟨_, rfl⟩
                          rw [← ef_110] at hP hD
                          have F_next : f_110 (rt 48) = .inl (K 0, 5, .inl g_107) := by rw [ef_110, va_up_ne _ _ (fun q => absurd (hC.1.2 48 (by decide) 41 (by decide) q) (by decide))]; exact F_next
                          have F_at : f_110 (rt 40) = .inl (K 0, 5, .inl g_105) := by rw [ef_110, va_up_ne _ _ (fun q => absurd (hC.1.2 40 (by decide) 41 (by decide) q) (by decide))]; exact F_at
                          have F_filledTo : f_110 (rt 42) = .inl (K 0, 5, .inl gf) := by rw [ef_110, va_up_ne _ _ (fun q => absurd (hC.1.2 42 (by decide) 41 (by decide) q) (by decide))]; exact F_filledTo
                          have F_m : f_110 (rt 51) = .inr (6, fmva) := by rw [ef_110, va_up_ne _ _ (fun q => absurd (hC.1.2 51 (by decide) 41 (by decide) q) (by decide))]; exact F_m
                          have F_upTo : f_110 (rt 41) = .inl (K 1, 5, .inr (.inl g_109)) := by rw [ef_110, va_up_self]
                          have hC : mC rt L f_110 fmva := ⟨hC.1, F_m, hC.2.2.1, hC.2.2.2⟩
                          have hSm : gSm rt [40, 41, 42, 48, 51] f_6 f_110 := by rw [ef_110]; exact hSm.up (by decide) _
                          rw [nI_clamp (by omega)] at eg_109
                          refine lv_aload_n hx hb dX6_go_483 rfl (lv_at hl 8 rfl) ?_
                          refine g_get (ci := 6) (v := .ref (rt 42)) (C := RX6) (T := TX6) (N := 51) hx hb hts uB6 hown hK hP (hC.1.1 51 (by decide)) F_m rfl 42 (by decide) wm_142 (hC.2.2.2 42 (by decide)) dX6_go_484 ?_
                          refine lv_iload_n hx hb dX6_go_487 rfl (lv_at hl 0 rfl) ?_
                          refine lv_iload hx hb dX6_go_488 (lv_at hl 4 rfl) ?_
                          refine g_iast hx hb hK hP hD hS (hC.1.1 42 (by decide)) F_filledTo (vp_in_nI (by omega) (by decide)) dX6_go_490 (fun H locs hP hD hS => ?_)
                          obtain ⟨g_111, eg_111⟩ : ∃ z9, z9 = upd gf (Int32.toNatClampNeg (nI (dp + 1))) (nI ((cG mm av dp) + 1)) := ⟨_, rfl⟩
                          rw [← eg_111] at hP hD
                          obtain ⟨f_112, ef_112⟩ : ∃ z9, z9 = va_up f_110 (rt 42) (.inl (K 0, 5, .inl g_111)) := ⟨_, rfl⟩
                          rw [← ef_112] at hP hD
                          have F_next : f_112 (rt 48) = .inl (K 0, 5, .inl g_107) := by rw [ef_112, va_up_ne _ _ (fun q => absurd (hC.1.2 48 (by decide) 42 (by decide) q) (by decide))]; exact F_next
                          have F_at : f_112 (rt 40) = .inl (K 0, 5, .inl g_105) := by rw [ef_112, va_up_ne _ _ (fun q => absurd (hC.1.2 40 (by decide) 42 (by decide) q) (by decide))]; exact F_at
                          have F_upTo : f_112 (rt 41) = .inl (K 1, 5, .inr (.inl g_109)) := by rw [ef_112, va_up_ne _ _ (fun q => absurd (hC.1.2 41 (by decide) 42 (by decide) q) (by decide))]; exact F_upTo
                          have F_m : f_112 (rt 51) = .inr (6, fmva) := by rw [ef_112, va_up_ne _ _ (fun q => absurd (hC.1.2 51 (by decide) 42 (by decide) q) (by decide))]; exact F_m
                          have F_filledTo : f_112 (rt 42) = .inl (K 0, 5, .inl g_111) := by rw [ef_112, va_up_self]
                          have hC : mC rt L f_112 fmva := ⟨hC.1, F_m, hC.2.2.1, hC.2.2.2⟩
                          have hSm : gSm rt [40, 41, 42, 48, 51] f_6 f_112 := by rw [ef_112]; exact hSm.up (by decide) _
                          rw [nI_clamp (by omega)] at eg_111
                          refine lv_goto (tgt := 23) hx hb dX6_go_491 (by decide) ?_
                          exact iha _ (by rw [← hmua]; exact muG_des (by omega) hmm (by omega)) _ _ _ ⟨f_112, fmva, _, _, _, _, (dp + 1), (va_up av dp q9), (va_up (va_up nx dp (nx dp + 1)) (dp + 1) 0), _, _, _, rfl, hSm, hFs, hC, F_next, F_at, F_filledTo, F_upTo, I_hasBest, I_bestSum, I_bestFilled, by omega, (by rw [eg_105, eg_107, eg_79, eg_111, eg_109]; exact (hpt.inc (by omega)).des (i := q9) (by omega) (fun _ => hft) (by first | rfl | exact congrArg lN (by rw [if_pos (by omega)])) (by first | rfl | exact congrArg nI (by rw [if_pos (by omega)]))), (Or.inr ⟨rfl, tg, rfl, rfl, htg⟩), hP, hS, lv_sub hl [8, 9, 10, 0] rfl⟩
                        · skip
                          have nc_104 : (((sG wn mm av dp) + (wn q9 dp)) + (ma (dp + 1))) = (sG wn mm tg sp) := (bl_eq (a := (((sG wn mm av dp) + (wn q9 dp)) + (ma (dp + 1)))) (b := (sG wn mm tg sp)) (by omega) (by omega) ex_103).mp c_104
                          refine lv_iload_n hx hb dX6_go_417 rfl (lv_at hl 7 rfl) ?_
                          refine lv_if_eq (tgt := 433) hx hb dX6_go_418 (by decide) (fun _ => ?_) (fun h9 => absurd (by decide) h9)
                          refine lv_iload hx hb dX6_go_433 (lv_at hl 0 rfl) ?_
                          refine lv_aload_n hx hb dX6_go_435 rfl (lv_at hl 6 rfl) ?_
                          refine g_get (ci := 6) (v := .int (nI (cG mm tg sp))) (C := RX6) (T := TX6) (N := 51) hx hb hts uB6 hown hK hP (hC.1.1 51 (by decide)) F_m rfl 44 (by decide) wm_149 I_bestFilled dX6_go_436 ?_
                          refine lv_icmp_gt (tgt := 446) hx hb dX6_go_439 (by decide) (fun c_113 => ?_) (fun c_113 => ?_)
                          · skip
                            have nc_113 : (cG mm tg sp) < (((((cG mm av dp) + 1) + sp) - dp) - 1) := (bn_lt (a := (cG mm tg sp)) (b := (((((cG mm av dp) + 1) + sp) - dp) - 1)) (by omega) (by omega)).mp (show nI (cG mm tg sp) < nI (((((cG mm av dp) + 1) + sp) - dp) - 1) from c_113)
                            refine lv_iconst (v := 0) hx hb dX6_go_446 (by decide) ?_
                            refine lv_istore (lv' := [(12, .int 0), (11, .int (nI (((((cG mm av dp) + 1) + sp) - dp) - 1))), (9, .long (lN (((sG wn mm av dp) + (wn q9 dp)) + (ma (dp + 1))))), (8, .int (nI ((cG mm av dp) + 1))), (6, .long (lN ((sG wn mm av dp) + (wn q9 dp)))), (5, .int (nI q9)), (4, .int (nI (nx dp))), (0, .ref (rt 51)), (1, .int 0), (2, .int wo), (3, .int (nI dp))]) hx hb dX6_go_447 hl (by decide) rfl (fun ls hl => ?_)
                            refine lv_iload hx hb dX6_go_449 (lv_at hl 0 rfl) ?_
                            refine lv_if_eq (tgt := 457) hx hb dX6_go_451 (by decide) (fun _ => ?_) (fun h9 => absurd (by decide) h9)
                            refine lv_aload_n hx hb dX6_go_457 rfl (lv_at hl 7 rfl) ?_
                            refine g_get (ci := 6) (v := .ref (rt 40)) (C := RX6) (T := TX6) (N := 51) hx hb hts uB6 hown hK hP (hC.1.1 51 (by decide)) F_m rfl 40 (by decide) wm_62 (hC.2.2.2 40 (by decide)) dX6_go_458 ?_
                            refine lv_iload_n hx hb dX6_go_461 rfl (lv_at hl 10 rfl) ?_
                            refine lv_iload hx hb dX6_go_462 (lv_at hl 5 rfl) ?_
                            refine g_iast hx hb hK hP hD hS (hC.1.1 40 (by decide)) F_at (vp_in_nI (by omega) (by decide)) dX6_go_464 (fun H locs hP hD hS => ?_)
                            obtain ⟨g_114, eg_114⟩ : ∃ z9, z9 = upd ga (Int32.toNatClampNeg (nI dp)) (nI q9) := ⟨_, rfl⟩
                            rw [← eg_114] at hP hD
                            obtain ⟨f_115, ef_115⟩ : ∃ z9, z9 = va_up f_80 (rt 40) (.inl (K 0, 5, .inl g_114)) := ⟨_, rfl⟩
                            rw [← ef_115] at hP hD
                            have F_next : f_115 (rt 48) = .inl (K 0, 5, .inl g_79) := by rw [ef_115, va_up_ne _ _ (fun q => absurd (hC.1.2 48 (by decide) 40 (by decide) q) (by decide))]; exact F_next
                            have F_filledTo : f_115 (rt 42) = .inl (K 0, 5, .inl gf) := by rw [ef_115, va_up_ne _ _ (fun q => absurd (hC.1.2 42 (by decide) 40 (by decide) q) (by decide))]; exact F_filledTo
                            have F_upTo : f_115 (rt 41) = .inl (K 1, 5, .inr (.inl gu)) := by rw [ef_115, va_up_ne _ _ (fun q => absurd (hC.1.2 41 (by decide) 40 (by decide) q) (by decide))]; exact F_upTo
                            have F_m : f_115 (rt 51) = .inr (6, fmva) := by rw [ef_115, va_up_ne _ _ (fun q => absurd (hC.1.2 51 (by decide) 40 (by decide) q) (by decide))]; exact F_m
                            have F_at : f_115 (rt 40) = .inl (K 0, 5, .inl g_114) := by rw [ef_115, va_up_self]
                            have hC : mC rt L f_115 fmva := ⟨hC.1, F_m, hC.2.2.1, hC.2.2.2⟩
                            have hSm : gSm rt [40, 41, 42, 48, 51] f_6 f_115 := by rw [ef_115]; exact hSm.up (by decide) _
                            rw [nI_clamp (by omega)] at eg_114
                            refine lv_iinc (v := nI (dp + 1)) (lv' := [(3, .int (nI (dp + 1))), (12, .int 0), (11, .int (nI (((((cG mm av dp) + 1) + sp) - dp) - 1))), (9, .long (lN (((sG wn mm av dp) + (wn q9 dp)) + (ma (dp + 1))))), (8, .int (nI ((cG mm av dp) + 1))), (6, .long (lN ((sG wn mm av dp) + (wn q9 dp)))), (5, .int (nI q9)), (4, .int (nI (nx dp))), (0, .ref (rt 51)), (1, .int 0), (2, .int wo)]) hx hb dX6_go_465 hl (k := 10) rfl (by exact nI_1 _) (by decide) rfl (fun ls hl => ?_)
                            refine lv_aload_n hx hb dX6_go_468 rfl (lv_at hl 8 rfl) ?_
                            refine g_get (ci := 6) (v := .ref (rt 48)) (C := RX6) (T := TX6) (N := 51) hx hb hts uB6 hown hK hP (hC.1.1 51 (by decide)) F_m rfl 48 (by decide) wm_140 (hC.2.2.2 48 (by decide)) dX6_go_469 ?_
                            refine lv_iload_n hx hb dX6_go_472 rfl (lv_at hl 0 rfl) ?_
                            refine lv_iconst (v := 0) hx hb dX6_go_473 (by decide) ?_
                            refine g_iast hx hb hK hP hD hS (hC.1.1 48 (by decide)) F_next (vp_in_nI (by omega) (by decide)) dX6_go_474 (fun H locs hP hD hS => ?_)
                            obtain ⟨g_116, eg_116⟩ : ∃ z9, z9 = upd g_79 (Int32.toNatClampNeg (nI (dp + 1))) 0 := ⟨_, rfl⟩
                            rw [← eg_116] at hP hD
                            obtain ⟨f_117, ef_117⟩ : ∃ z9, z9 = va_up f_115 (rt 48) (.inl (K 0, 5, .inl g_116)) := ⟨_, rfl⟩
                            rw [← ef_117] at hP hD
                            have F_at : f_117 (rt 40) = .inl (K 0, 5, .inl g_114) := by rw [ef_117, va_up_ne _ _ (fun q => absurd (hC.1.2 40 (by decide) 48 (by decide) q) (by decide))]; exact F_at
                            have F_filledTo : f_117 (rt 42) = .inl (K 0, 5, .inl gf) := by rw [ef_117, va_up_ne _ _ (fun q => absurd (hC.1.2 42 (by decide) 48 (by decide) q) (by decide))]; exact F_filledTo
                            have F_upTo : f_117 (rt 41) = .inl (K 1, 5, .inr (.inl gu)) := by rw [ef_117, va_up_ne _ _ (fun q => absurd (hC.1.2 41 (by decide) 48 (by decide) q) (by decide))]; exact F_upTo
                            have F_m : f_117 (rt 51) = .inr (6, fmva) := by rw [ef_117, va_up_ne _ _ (fun q => absurd (hC.1.2 51 (by decide) 48 (by decide) q) (by decide))]; exact F_m
                            have F_next : f_117 (rt 48) = .inl (K 0, 5, .inl g_116) := by rw [ef_117, va_up_self]
                            have hC : mC rt L f_117 fmva := ⟨hC.1, F_m, hC.2.2.1, hC.2.2.2⟩
                            have hSm : gSm rt [40, 41, 42, 48, 51] f_6 f_117 := by rw [ef_117]; exact hSm.up (by decide) _
                            rw [nI_clamp (by omega)] at eg_116
                            refine lv_aload_n hx hb dX6_go_475 rfl (lv_at hl 8 rfl) ?_
                            refine g_get (ci := 6) (v := .ref (rt 41)) (C := RX6) (T := TX6) (N := 51) hx hb hts uB6 hown hK hP (hC.1.1 51 (by decide)) F_m rfl 41 (by decide) wm_141 (hC.2.2.2 41 (by decide)) dX6_go_476 ?_
                            refine lv_iload_n hx hb dX6_go_479 rfl (lv_at hl 0 rfl) ?_
                            refine lv_lload hx hb dX6_go_480 (lv_at hl 5 rfl) ?_
                            refine g_last hx hb hK hP hD hS (hC.1.1 41 (by decide)) F_upTo (vp_in_nI (by omega) (by decide)) dX6_go_482 (fun H locs hP hD hS => ?_)
                            obtain ⟨g_118, eg_118⟩ : ∃ z9, z9 = vp_updL gu (Int32.toNatClampNeg (nI (dp + 1))) (lN ((sG wn mm av dp) + (wn q9 dp))) := ⟨_, rfl⟩
                            rw [← eg_118] at hP hD
                            obtain ⟨f_119, ef_119⟩ : ∃ z9, z9 = va_up f_117 (rt 41) (.inl (K 1, 5, .inr (.inl g_118))) := ⟨_, rfl⟩
                            rw [← ef_119] at hP hD
                            have F_next : f_119 (rt 48) = .inl (K 0, 5, .inl g_116) := by rw [ef_119, va_up_ne _ _ (fun q => absurd (hC.1.2 48 (by decide) 41 (by decide) q) (by decide))]; exact F_next
                            have F_at : f_119 (rt 40) = .inl (K 0, 5, .inl g_114) := by rw [ef_119, va_up_ne _ _ (fun q => absurd (hC.1.2 40 (by decide) 41 (by decide) q) (by decide))]; exact F_at
                            have F_filledTo : f_119 (rt 42) = .inl (K 0, 5, .inl gf) := by rw [ef_119, va_up_ne _ _ (fun q => absurd (hC.1.2 42 (by decide) 41 (by decide) q) (by decide))]; exact F_filledTo
                            have F_m : f_119 (rt 51) = .inr (6, fmva) := by rw [ef_119, va_up_ne _ _ (fun q => absurd (hC.1.2 51 (by decide) 41 (by decide) q) (by decide))]; exact F_m
                            have F_upTo : f_119 (rt 41) = .inl (K 1, 5, .inr (.inl g_118)) := by rw [ef_119, va_up_self]
                            have hC : mC rt L f_119 fmva := ⟨hC.1, F_m, hC.2.2.1, hC.2.2.2⟩
                            have hSm : gSm rt [40, 41, 42, 48, 51] f_6 f_119 := by rw [ef_119]; exact hSm.up (by decide) _
                            rw [nI_clamp (by omega)] at eg_118
                            refine lv_aload_n hx hb dX6_go_483 rfl (lv_at hl 8 rfl) ?_
                            refine g_get (ci := 6) (v := .ref (rt 42)) (C := RX6) (T := TX6) (N := 51) hx hb hts uB6 hown hK hP (hC.1.1 51 (by decide)) F_m rfl 42 (by decide) wm_142 (hC.2.2.2 42 (by decide)) dX6_go_484 ?_
                            refine lv_iload_n hx hb dX6_go_487 rfl (lv_at hl 0 rfl) ?_
                            refine lv_iload hx hb dX6_go_488 (lv_at hl 4 rfl) ?_
                            refine g_iast hx hb hK hP hD hS (hC.1.1 42 (by decide)) F_filledTo (vp_in_nI (by omega) (by decide)) dX6_go_490 (fun H locs hP hD hS => ?_)
                            obtain ⟨g_120, eg_120⟩ : ∃ z9, z9 = upd gf (Int32.toNatClampNeg (nI (dp + 1))) (nI ((cG mm av dp) + 1)) := ⟨_, rfl⟩
                            rw [← eg_120] at hP hD
                            obtain ⟨f_121, ef_121⟩ : ∃ z9, z9 = va_up f_119 (rt 42) (.inl (K 0, 5, .inl g_120)) := ⟨_, rfl⟩
                            rw [← ef_121] at hP hD
                            have F_next : f_121 (rt 48) = .inl (K 0, 5, .inl g_116) := by rw [ef_121, va_up_ne _ _ (fun q => absurd (hC.1.2 48 (by decide) 42 (by decide) q) (by decide))]; exact F_next
                            have F_at : f_121 (rt 40) = .inl (K 0, 5, .inl g_114) := by rw [ef_121, va_up_ne _ _ (fun q => absurd (hC.1.2 40 (by decide) 42 (by decide) q) (by decide))]; exact F_at
                            have F_upTo : f_121 (rt 41) = .inl (K 1, 5, .inr (.inl g_118)) := by rw [ef_121, va_up_ne _ _ (fun q => absurd (hC.1.2 41 (by decide) 42 (by decide) q) (by decide))]; exact F_upTo
                            have F_m : f_121 (rt 51) = .inr (6, fmva) := by rw [ef_121, va_up_ne _ _ (fun q => absurd (hC.1.2 51 (by decide) 42 (by decide) q) (by decide))]; exact F_m
                            have F_filledTo : f_121 (rt 42) = .inl (K 0, 5, .inl g_120) := by rw [ef_121, va_up_self]
                            have hC : mC rt L f_121 fmva := ⟨hC.1, F_m, hC.2.2.1, hC.2.2.2⟩
                            have hSm : gSm rt [40, 41, 42, 48, 51] f_6 f_121 := by rw [ef_121]; exact hSm.up (by decide) _
                            rw [nI_clamp (by omega)] at eg_120
                            refine lv_goto (tgt := 23) hx hb dX6_go_491 (by decide) ?_
                            exact iha _ (by rw [← hmua]; exact muG_des (by omega) hmm (by omega)) _ _ _ ⟨f_121, fmva, _, _, _, _, (dp + 1), (va_up av dp q9), (va_up (va_up nx dp (nx dp + 1)) (dp + 1) 0), _, _, _, rfl, hSm, hFs, hC, F_next, F_at, F_filledTo, F_upTo, I_hasBest, I_bestSum, I_bestFilled, by omega, (by rw [eg_114, eg_116, eg_79, eg_120, eg_118]; exact (hpt.inc (by omega)).des (i := q9) (by omega) (fun _ => hft) (by first | rfl | exact congrArg lN (by rw [if_pos (by omega)])) (by first | rfl | exact congrArg nI (by rw [if_pos (by omega)]))), (Or.inr ⟨rfl, tg, rfl, rfl, htg⟩), hP, hS, lv_sub hl [8, 9, 10, 0] rfl⟩
                          · skip
                            have nc_113 : ¬ ((cG mm tg sp) < (((((cG mm av dp) + 1) + sp) - dp) - 1)) := fun q => c_113 (show nI (cG mm tg sp) < nI (((((cG mm av dp) + 1) + sp) - dp) - 1) from (bn_lt (a := (cG mm tg sp)) (b := (((((cG mm av dp) + 1) + sp) - dp) - 1)) (by omega) (by omega)).mpr q)
                            refine lv_iconst (v := 1) hx hb dX6_go_442 (by decide) ?_
                            refine lv_goto (tgt := 447) hx hb dX6_go_443 (by decide) ?_
                            refine lv_istore (lv' := [(12, .int 1), (11, .int (nI (((((cG mm av dp) + 1) + sp) - dp) - 1))), (9, .long (lN (((sG wn mm av dp) + (wn q9 dp)) + (ma (dp + 1))))), (8, .int (nI ((cG mm av dp) + 1))), (6, .long (lN ((sG wn mm av dp) + (wn q9 dp)))), (5, .int (nI q9)), (4, .int (nI (nx dp))), (0, .ref (rt 51)), (1, .int 0), (2, .int wo), (3, .int (nI dp))]) hx hb dX6_go_447 hl (by decide) rfl (fun ls hl => ?_)
                            refine lv_iload hx hb dX6_go_449 (lv_at hl 0 rfl) ?_
                            refine lv_if_eq (tgt := 457) hx hb dX6_go_451 (by decide) (fun h9 => absurd h9 (by decide)) (fun _ => ?_)
                            refine lv_goto (tgt := 23) hx hb dX6_go_454 (by decide) ?_
                            exact iha _ (by rw [← hmua]; exact muG_dec (by omega)) _ _ _ ⟨f_80, fmva, _, _, _, _, dp, av, (va_up nx dp (nx dp + 1)), _, _, _, rfl, hSm, hFs, hC, F_next, F_at, F_filledTo, F_upTo, I_hasBest, I_bestSum, I_bestFilled, by omega, (by rw [eg_79]; exact hpt.inc (by omega)), (Or.inr ⟨rfl, tg, rfl, rfl, htg⟩), hP, hS, lv_sub hl [7, 8, 9, 10] rfl⟩
                · skip
                  have hnf := (hpr_84.resolve_left (fun q => by rw [c_85] at q; exact absurd q.1 (by decide))).2
                  refine lv_goto (tgt := 23) hx hb dX6_go_305 (by decide) ?_
                  exact iha _ (by rw [← hmua]; exact muG_dec (by omega)) _ _ _ ⟨f_80, fmva, _, _, _, _, dp, av, (va_up nx dp (nx dp + 1)), _, _, _, rfl, hSm, hFs, hC, F_next, F_at, F_filledTo, F_upTo, I_hasBest, I_bestSum, I_bestFilled, by omega, (by rw [eg_79]; exact hpt.inc (by omega)), (Or.inr ⟨rfl, tg, rfl, rfl, htg⟩), hP, hS, lv_sub hl [2, 3, 4, 5] rfl⟩
            · skip
              have nc_81 : (nx dp) = mm := (bn_eq (a := (nx dp)) (b := mm) (by omega) (by omega)).mp (show nI (nx dp) = nI mm from c_81)
              have hnm : nx dp = mm := by omega
              refine lv_aload_n hx hb dX6_go_260 rfl (lv_at hl 1 rfl) ?_
              refine g_get (ci := 6) (v := .int (nI mm)) (C := RX6) (T := TX6) (N := 51) hx hb hts uB6 hown hK hP (hC.1.1 51 (by decide)) F_m rfl 35 (by decide) wm_63 I_may dX6_go_261 ?_
              refine lv_goto (tgt := 283) hx hb dX6_go_264 (by decide) ?_
              refine lv_istore (lv' := [(5, .int (nI mm)), (4, .int (nI (nx dp))), (0, .ref (rt 51)), (1, .int 0), (2, .int wo), (3, .int (nI dp))]) hx hb dX6_go_283 hl (by decide) rfl (fun ls hl => ?_)
              refine lv_iload hx hb dX6_go_285 (lv_at hl 0 rfl) ?_
              refine lv_aload_n hx hb dX6_go_287 rfl (lv_at hl 2 rfl) ?_
              refine g_get (ci := 6) (v := .int (nI mm)) (C := RX6) (T := TX6) (N := 51) hx hb hts uB6 hown hK hP (hC.1.1 51 (by decide)) F_m rfl 35 (by decide) wm_63 I_may dX6_go_288 ?_
              refine lv_icmp_ge (tgt := 308) hx hb dX6_go_291 (by decide) (fun c_122 => ?_) (fun c_122 => ?_)
              · skip
                have nc_122 : mm ≤ mm := (bn_le (a := mm) (b := mm) (by omega) (by omega)).mp (show nI mm ≤ nI mm from c_122)
                refine lv_aload_n hx hb dX6_go_308 rfl (lv_at hl 2 rfl) ?_
                refine g_get (ci := 6) (v := .ref (rt 41)) (C := RX6) (T := TX6) (N := 51) hx hb hts uB6 hown hK hP (hC.1.1 51 (by decide)) F_m rfl 41 (by decide) wm_141 (hC.2.2.2 41 (by decide)) dX6_go_309 ?_
                refine lv_iload_n hx hb dX6_go_312 rfl (lv_at hl 5 rfl) ?_
                refine g_lald hx hb hK hP (hC.1.1 41 (by decide)) F_upTo (vp_in_nI (by omega) (by decide)) dX6_go_313 ?_
                refine lv_topl (fun x_123 ex_123 => ?_)
                rw [nI_clamp (by omega)] at ex_123
                obtain rfl : x_123 = lN (sG wn mm av dp) := ex_123.trans (hpt.2.2.1 dp (Nat.le_refl _))
                refine lv_iload hx hb dX6_go_314 (lv_at hl 0 rfl) ?_
                refine lv_aload_n hx hb dX6_go_316 rfl (lv_at hl 2 rfl) ?_
                refine g_get (ci := 6) (v := .int (nI mm)) (C := RX6) (T := TX6) (N := 51) hx hb hts uB6 hown hK hP (hC.1.1 51 (by decide)) F_m rfl 35 (by decide) wm_63 I_may dX6_go_317 ?_
                refine lv_icmp_ge (tgt := 337) hx hb dX6_go_320 (by decide) (fun c_124 => ?_) (fun c_124 => ?_)
                · skip
                  have nc_124 : mm ≤ mm := (bn_le (a := mm) (b := mm) (by omega) (by omega)).mp (show nI mm ≤ nI mm from c_124)
                  refine lv_lconst (v := 0) hx hb dX6_go_337 rfl ?_
                  refine lv_ladd hx hb dX6_go_338 ?_
                  refine lv_topl (fun x_125 ex_125 => ?_)
                  obtain rfl : x_125 = lN ((sG wn mm av dp) + 0) := ex_125.trans (lN_add (sG wn mm av dp) 0)
                  refine lv_lstore (lv' := [(6, .long (lN ((sG wn mm av dp) + 0))), (5, .int (nI mm)), (4, .int (nI (nx dp))), (0, .ref (rt 51)), (1, .int 0), (2, .int wo), (3, .int (nI dp))]) hx hb dX6_go_339 hl (by decide) rfl (fun ls hl => ?_)
                  refine lv_aload_n hx hb dX6_go_341 rfl (lv_at hl 3 rfl) ?_
                  refine g_get (ci := 6) (v := .ref (rt 42)) (C := RX6) (T := TX6) (N := 51) hx hb hts uB6 hown hK hP (hC.1.1 51 (by decide)) F_m rfl 42 (by decide) wm_142 (hC.2.2.2 42 (by decide)) dX6_go_342 ?_
                  refine lv_iload_n hx hb dX6_go_345 rfl (lv_at hl 6 rfl) ?_
                  refine g_iald hx hb hK hP (hC.1.1 42 (by decide)) F_filledTo (vp_in_nI (by omega) (by decide)) dX6_go_346 ?_
                  refine lv_topi (fun x_126 ex_126 => ?_)
                  rw [nI_clamp (by omega)] at ex_126
                  obtain rfl : x_126 = nI (cG mm av dp) := ex_126.trans (hpt.2.2.2.1 dp (Nat.le_refl _))
                  refine lv_iload hx hb dX6_go_347 (lv_at hl 1 rfl) ?_
                  refine lv_aload_n hx hb dX6_go_349 rfl (lv_at hl 3 rfl) ?_
                  refine g_get (ci := 6) (v := .int (nI mm)) (C := RX6) (T := TX6) (N := 51) hx hb hts uB6 hown hK hP (hC.1.1 51 (by decide)) F_m rfl 35 (by decide) wm_63 I_may dX6_go_350 ?_
                  refine lv_icmp_ge (tgt := 360) hx hb dX6_go_353 (by decide) (fun c_127 => ?_) (fun c_127 => ?_)
                  · skip
                    have nc_127 : mm ≤ mm := (bn_le (a := mm) (b := mm) (by omega) (by omega)).mp (show nI mm ≤ nI mm from c_127)
                    refine lv_iconst (v := 0) hx hb dX6_go_360 (by decide) ?_
                    refine lv_iadd hx hb dX6_go_361 ?_
                    refine lv_topi (fun x_128 ex_128 => ?_)
                    obtain rfl : x_128 = nI ((cG mm av dp) + 0) := ex_128.trans (nI_add (cG mm av dp) 0)
                    refine lv_istore (lv' := [(8, .int (nI ((cG mm av dp) + 0))), (6, .long (lN ((sG wn mm av dp) + 0))), (5, .int (nI mm)), (4, .int (nI (nx dp))), (0, .ref (rt 51)), (1, .int 0), (2, .int wo), (3, .int (nI dp))]) hx hb dX6_go_362 hl (by decide) rfl (fun ls hl => ?_)
                    refine lv_lload hx hb dX6_go_364 (lv_at hl 1 rfl) ?_
                    refine lv_aload_n hx hb dX6_go_366 rfl (lv_at hl 4 rfl) ?_
                    refine g_get (ci := 6) (v := .ref (rt 38)) (C := RX6) (T := TX6) (N := 51) hx hb hts uB6 hown hK hP (hC.1.1 51 (by decide)) F_m rfl 38 (by decide) wm_130 (hC.2.2.2 38 (by decide)) dX6_go_367 ?_
                    refine lv_iload_n hx hb dX6_go_370 rfl (lv_at hl 7 rfl) ?_
                    refine lv_iconst (v := 1) hx hb dX6_go_371 (by decide) ?_
                    refine lv_iadd hx hb dX6_go_372 ?_
                    refine lv_topi (fun x_129 ex_129 => ?_)
                    obtain rfl : x_129 = nI (dp + 1) := ex_129.trans (nI_add dp 1)
                    refine g_lald hx hb hK hP (hC.1.1 38 (by decide)) ((hSm.at hC.1 (by decide) (by decide)).trans ((hSma.at hC.1 (by decide) (by decide)).trans F_mostAt)) (vp_in_nI (by omega) (by decide)) dX6_go_373 ?_
                    refine lv_topl (fun x_130 ex_130 => ?_)
                    rw [nI_clamp (by omega)] at ex_130
                    obtain ⟨hme, hmb9⟩ := hma (dp + 1) (by omega)
                    obtain rfl : x_130 = lN (ma (dp + 1)) := ex_130.trans hme
                    refine lv_ladd hx hb dX6_go_374 ?_
                    refine lv_topl (fun x_131 ex_131 => ?_)
                    obtain rfl : x_131 = lN (((sG wn mm av dp) + 0) + (ma (dp + 1))) := ex_131.trans (lN_add ((sG wn mm av dp) + 0) (ma (dp + 1)))
                    refine lv_lstore (lv' := [(9, .long (lN (((sG wn mm av dp) + 0) + (ma (dp + 1))))), (8, .int (nI ((cG mm av dp) + 0))), (6, .long (lN ((sG wn mm av dp) + 0))), (5, .int (nI mm)), (4, .int (nI (nx dp))), (0, .ref (rt 51)), (1, .int 0), (2, .int wo), (3, .int (nI dp))]) hx hb dX6_go_375 hl (by decide) rfl (fun ls hl => ?_)
                    refine lv_iload hx hb dX6_go_377 (lv_at hl 1 rfl) ?_
                    refine lv_aload_n hx hb dX6_go_379 rfl (lv_at hl 5 rfl) ?_
                    refine g_get (ci := 6) (v := .int (nI sp)) (C := RX6) (T := TX6) (N := 51) hx hb hts uB6 hown hK hP (hC.1.1 51 (by decide)) F_m rfl 39 (by decide) wm_131 I_spots dX6_go_380 ?_
                    refine lv_iadd hx hb dX6_go_383 ?_
                    refine lv_topi (fun x_132 ex_132 => ?_)
                    obtain rfl : x_132 = nI (((cG mm av dp) + 0) + sp) := ex_132.trans (nI_add ((cG mm av dp) + 0) sp)
                    refine lv_iload_n hx hb dX6_go_384 rfl (lv_at hl 8 rfl) ?_
                    refine lv_isub hx hb dX6_go_385 ?_
                    refine lv_topi (fun x_133 ex_133 => ?_)
                    obtain rfl : x_133 = nI ((((cG mm av dp) + 0) + sp) - dp) := ex_133.trans (pk_sub (a := (((cG mm av dp) + 0) + sp)) (b := dp) (by omega))
                    refine lv_iconst (v := 1) hx hb dX6_go_386 (by decide) ?_
                    refine lv_isub hx hb dX6_go_387 ?_
                    refine lv_topi (fun x_134 ex_134 => ?_)
                    obtain rfl : x_134 = nI (((((cG mm av dp) + 0) + sp) - dp) - 1) := ex_134.trans (pk_sub (a := ((((cG mm av dp) + 0) + sp) - dp)) (b := 1) (by omega))
                    refine lv_istore (lv' := [(11, .int (nI (((((cG mm av dp) + 0) + sp) - dp) - 1))), (9, .long (lN (((sG wn mm av dp) + 0) + (ma (dp + 1))))), (8, .int (nI ((cG mm av dp) + 0))), (6, .long (lN ((sG wn mm av dp) + 0))), (5, .int (nI mm)), (4, .int (nI (nx dp))), (0, .ref (rt 51)), (1, .int 0), (2, .int wo), (3, .int (nI dp))]) hx hb dX6_go_388 hl (by decide) rfl (fun ls hl => ?_)
                    refine lv_aload_n hx hb dX6_go_390 rfl (lv_at hl 6 rfl) ?_
                    refine g_get (ci := 6) (v := .int 1) (C := RX6) (T := TX6) (N := 51) hx hb hts uB6 hown hK hP (hC.1.1 51 (by decide)) F_m rfl 45 (by decide) wm_147 I_hasBest dX6_go_391 ?_
                    refine lv_if_eq (tgt := 446) hx hb dX6_go_394 (by decide) (fun h9 => absurd h9 (by decide)) (fun _ => ?_)
                    refine lv_lload hx hb dX6_go_397 (lv_at hl 1 rfl) ?_
                    refine lv_aload_n hx hb dX6_go_399 rfl (lv_at hl 6 rfl) ?_
                    refine g_get (ci := 6) (v := .long (lN (sG wn mm tg sp))) (C := RX6) (T := TX6) (N := 51) hx hb hts uB6 hown hK hP (hC.1.1 51 (by decide)) F_m rfl 43 (by decide) wm_148 I_bestSum dX6_go_400 ?_
                    refine W.lcmp hx hb dX6_go_403 ?_
                    refine lv_topi (fun x_135 ex_135 => ?_)
                    refine lv_if_lt (tgt := 442) hx hb dX6_go_404 (by decide) (fun c_136 => ?_) (fun c_136 => ?_)
                    · skip
                      have nc_136 : (((sG wn mm av dp) + 0) + (ma (dp + 1))) < (sG wn mm tg sp) := (bl_lt (a := (((sG wn mm av dp) + 0) + (ma (dp + 1)))) (b := (sG wn mm tg sp)) (by omega) (by omega) ex_135).mp c_136
                      refine lv_iconst (v := 1) hx hb dX6_go_442 (by decide) ?_
                      refine lv_goto (tgt := 447) hx hb dX6_go_443 (by decide) ?_
                      refine lv_istore (lv' := [(12, .int 1), (11, .int (nI (((((cG mm av dp) + 0) + sp) - dp) - 1))), (9, .long (lN (((sG wn mm av dp) + 0) + (ma (dp + 1))))), (8, .int (nI ((cG mm av dp) + 0))), (6, .long (lN ((sG wn mm av dp) + 0))), (5, .int (nI mm)), (4, .int (nI (nx dp))), (0, .ref (rt 51)), (1, .int 0), (2, .int wo), (3, .int (nI dp))]) hx hb dX6_go_447 hl (by decide) rfl (fun ls hl => ?_)
                      refine lv_iload hx hb dX6_go_449 (lv_at hl 0 rfl) ?_
                      refine lv_if_eq (tgt := 457) hx hb dX6_go_451 (by decide) (fun h9 => absurd h9 (by decide)) (fun _ => ?_)
                      refine lv_goto (tgt := 23) hx hb dX6_go_454 (by decide) ?_
                      exact iha _ (by rw [← hmua]; exact muG_dec (by omega)) _ _ _ ⟨f_80, fmva, _, _, _, _, dp, av, (va_up nx dp (nx dp + 1)), _, _, _, rfl, hSm, hFs, hC, F_next, F_at, F_filledTo, F_upTo, I_hasBest, I_bestSum, I_bestFilled, by omega, (by rw [eg_79]; exact hpt.inc (by omega)), (Or.inr ⟨rfl, tg, rfl, rfl, htg⟩), hP, hS, lv_sub hl [7, 8, 9, 10] rfl⟩
                    · skip
                      have nc_136 : ¬ ((((sG wn mm av dp) + 0) + (ma (dp + 1))) < (sG wn mm tg sp)) := fun q => c_136 ((bl_lt (a := (((sG wn mm av dp) + 0) + (ma (dp + 1)))) (b := (sG wn mm tg sp)) (by omega) (by omega) ex_135).mpr q)
                      refine lv_lload hx hb dX6_go_407 (lv_at hl 1 rfl) ?_
                      refine lv_aload_n hx hb dX6_go_409 rfl (lv_at hl 6 rfl) ?_
                      refine g_get (ci := 6) (v := .long (lN (sG wn mm tg sp))) (C := RX6) (T := TX6) (N := 51) hx hb hts uB6 hown hK hP (hC.1.1 51 (by decide)) F_m rfl 43 (by decide) wm_148 I_bestSum dX6_go_410 ?_
                      refine W.lcmp hx hb dX6_go_413 ?_
                      refine lv_topi (fun x_137 ex_137 => ?_)
                      refine lv_if_ne (tgt := 446) hx hb dX6_go_414 (by decide) (fun c_138 => ?_) (fun c_138 => ?_)
                      · skip
                        have nc_138 : ¬ ((((sG wn mm av dp) + 0) + (ma (dp + 1))) = (sG wn mm tg sp)) := fun q => c_138 ((bl_eq (a := (((sG wn mm av dp) + 0) + (ma (dp + 1)))) (b := (sG wn mm tg sp)) (by omega) (by omega) ex_137).mpr q)
                        refine lv_iconst (v := 0) hx hb dX6_go_446 (by decide) ?_
                        refine lv_istore (lv' := [(12, .int 0), (11, .int (nI (((((cG mm av dp) + 0) + sp) - dp) - 1))), (9, .long (lN (((sG wn mm av dp) + 0) + (ma (dp + 1))))), (8, .int (nI ((cG mm av dp) + 0))), (6, .long (lN ((sG wn mm av dp) + 0))), (5, .int (nI mm)), (4, .int (nI (nx dp))), (0, .ref (rt 51)), (1, .int 0), (2, .int wo), (3, .int (nI dp))]) hx hb dX6_go_447 hl (by decide) rfl (fun ls hl => ?_)
                        refine lv_iload hx hb dX6_go_449 (lv_at hl 0 rfl) ?_
                        refine lv_if_eq (tgt := 457) hx hb dX6_go_451 (by decide) (fun _ => ?_) (fun h9 => absurd (by decide) h9)
                        refine lv_aload_n hx hb dX6_go_457 rfl (lv_at hl 7 rfl) ?_
                        refine g_get (ci := 6) (v := .ref (rt 40)) (C := RX6) (T := TX6) (N := 51) hx hb hts uB6 hown hK hP (hC.1.1 51 (by decide)) F_m rfl 40 (by decide) wm_62 (hC.2.2.2 40 (by decide)) dX6_go_458 ?_
                        refine lv_iload_n hx hb dX6_go_461 rfl (lv_at hl 10 rfl) ?_
                        refine lv_iload hx hb dX6_go_462 (lv_at hl 5 rfl) ?_
                        refine g_iast hx hb hK hP hD hS (hC.1.1 40 (by decide)) F_at (vp_in_nI (by omega) (by decide)) dX6_go_464 (fun H locs hP hD hS => ?_)
                        obtain ⟨g_139, eg_139⟩ : ∃ z9, z9 = upd ga (Int32.toNatClampNeg (nI dp)) (nI mm) := ⟨_, rfl⟩
                        rw [← eg_139] at hP hD
                        obtain ⟨f_140, ef_140⟩ : ∃ z9, z9 = va_up f_80 (rt 40) (.inl (K 0, 5, .inl g_139)) := ⟨_, rfl⟩
                        rw [← ef_140] at hP hD
                        have F_next : f_140 (rt 48) = .inl (K 0, 5, .inl g_79) := by rw [ef_140, va_up_ne _ _ (fun q => absurd (hC.1.2 48 (by decide) 40 (by decide) q) (by decide))]; exact F_next
                        have F_filledTo : f_140 (rt 42) = .inl (K 0, 5, .inl gf) := by rw [ef_140, va_up_ne _ _ (fun q => absurd (hC.1.2 42 (by decide) 40 (by decide) q) (by decide))]; exact F_filledTo
                        have F_upTo : f_140 (rt 41) = .inl (K 1, 5, .inr (.inl gu)) := by rw [ef_140, va_up_ne _ _ (fun q => absurd (hC.1.2 41 (by decide) 40 (by decide) q) (by decide))]; exact F_upTo
                        have F_m : f_140 (rt 51) = .inr (6, fmva) := by rw [ef_140, va_up_ne _ _ (fun q => absurd (hC.1.2 51 (by decide) 40 (by decide) q) (by decide))]; exact F_m
                        have F_at : f_140 (rt 40) = .inl (K 0, 5, .inl g_139) := by rw [ef_140, va_up_self]
                        have hC : mC rt L f_140 fmva := ⟨hC.1, F_m, hC.2.2.1, hC.2.2.2⟩
                        have hSm : gSm rt [40, 41, 42, 48, 51] f_6 f_140 := by rw [ef_140]; exact hSm.up (by decide) _
                        rw [nI_clamp (by omega)] at eg_139
                        refine lv_iinc (v := nI (dp + 1)) (lv' := [(3, .int (nI (dp + 1))), (12, .int 0), (11, .int (nI (((((cG mm av dp) + 0) + sp) - dp) - 1))), (9, .long (lN (((sG wn mm av dp) + 0) + (ma (dp + 1))))), (8, .int (nI ((cG mm av dp) + 0))), (6, .long (lN ((sG wn mm av dp) + 0))), (5, .int (nI mm)), (4, .int (nI (nx dp))), (0, .ref (rt 51)), (1, .int 0), (2, .int wo)]) hx hb dX6_go_465 hl (k := 10) rfl (by exact nI_1 _) (by decide) rfl (fun ls hl => ?_)
                        refine lv_aload_n hx hb dX6_go_468 rfl (lv_at hl 8 rfl) ?_
                        refine g_get (ci := 6) (v := .ref (rt 48)) (C := RX6) (T := TX6) (N := 51) hx hb hts uB6 hown hK hP (hC.1.1 51 (by decide)) F_m rfl 48 (by decide) wm_140 (hC.2.2.2 48 (by decide)) dX6_go_469 ?_
                        refine lv_iload_n hx hb dX6_go_472 rfl (lv_at hl 0 rfl) ?_
                        refine lv_iconst (v := 0) hx hb dX6_go_473 (by decide) ?_
                        refine g_iast hx hb hK hP hD hS (hC.1.1 48 (by decide)) F_next (vp_in_nI (by omega) (by decide)) dX6_go_474 (fun H locs hP hD hS => ?_)
                        obtain ⟨g_141, eg_141⟩ : ∃ z9, z9 = upd g_79 (Int32.toNatClampNeg (nI (dp + 1))) 0 := ⟨_, rfl⟩
                        rw [← eg_141] at hP hD
                        obtain ⟨f_142, ef_142⟩ : ∃ z9, z9 = va_up f_140 (rt 48) (.inl (K 0, 5, .inl g_141)) := ⟨_, rfl⟩
                        rw [← ef_142] at hP hD
                        have F_at : f_142 (rt 40) = .inl (K 0, 5, .inl g_139) := by rw [ef_142, va_up_ne _ _ (fun q => absurd (hC.1.2 40 (by decide) 48 (by decide) q) (by decide))]; exact F_at
                        have F_filledTo : f_142 (rt 42) = .inl (K 0, 5, .inl gf) := by rw [ef_142, va_up_ne _ _ (fun q => absurd (hC.1.2 42 (by decide) 48 (by decide) q) (by decide))]; exact F_filledTo
                        have F_upTo : f_142 (rt 41) = .inl (K 1, 5, .inr (.inl gu)) := by rw [ef_142, va_up_ne _ _ (fun q => absurd (hC.1.2 41 (by decide) 48 (by decide) q) (by decide))]; exact F_upTo
                        have F_m : f_142 (rt 51) = .inr (6, fmva) := by rw [ef_142, va_up_ne _ _ (fun q => absurd (hC.1.2 51 (by decide) 48 (by decide) q) (by decide))]; exact F_m
                        have F_next : f_142 (rt 48) = .inl (K 0, 5, .inl g_141) := by rw [ef_142, va_up_self]
                        have hC : mC rt L f_142 fmva := ⟨hC.1, F_m, hC.2.2.1, hC.2.2.2⟩
                        have hSm : gSm rt [40, 41, 42, 48, 51] f_6 f_142 := by rw [ef_142]; exact hSm.up (by decide) _
                        rw [nI_clamp (by omega)] at eg_141
                        refine lv_aload_n hx hb dX6_go_475 rfl (lv_at hl 8 rfl) ?_
                        refine g_get (ci := 6) (v := .ref (rt 41)) (C := RX6) (T := TX6) (N := 51) hx hb hts uB6 hown hK hP (hC.1.1 51 (by decide)) F_m rfl 41 (by decide) wm_141 (hC.2.2.2 41 (by decide)) dX6_go_476 ?_
                        refine lv_iload_n hx hb dX6_go_479 rfl (lv_at hl 0 rfl) ?_
                        refine lv_lload hx hb dX6_go_480 (lv_at hl 5 rfl) ?_
                        refine g_last hx hb hK hP hD hS (hC.1.1 41 (by decide)) F_upTo (vp_in_nI (by omega) (by decide)) dX6_go_482 (fun H locs hP hD hS => ?_)
                        obtain ⟨g_143, eg_143⟩ : ∃ z9, z9 = vp_updL gu (Int32.toNatClampNeg (nI (dp + 1))) (lN ((sG wn mm av dp) + 0)) := ⟨_, rfl⟩
                        rw [← eg_143] at hP hD
                        obtain ⟨f_144, ef_144⟩ : ∃ z9, z9 = va_up f_142 (rt 41) (.inl (K 1, 5, .inr (.inl g_143))) := ⟨_, rfl⟩
                        rw [← ef_144] at hP hD
                        have F_next : f_144 (rt 48) = .inl (K 0, 5, .inl g_141) := by rw [ef_144, va_up_ne _ _ (fun q => absurd (hC.1.2 48 (by decide) 41 (by decide) q) (by decide))]; exact F_next
                        have F_at : f_144 (rt 40) = .inl (K 0, 5, .inl g_139) := by rw [ef_144, va_up_ne _ _ (fun q => absurd (hC.1.2 40 (by decide) 41 (by decide) q) (by decide))]; exact F_at
                        have F_filledTo : f_144 (rt 42) = .inl (K 0, 5, .inl gf) := by rw [ef_144, va_up_ne _ _ (fun q => absurd (hC.1.2 42 (by decide) 41 (by decide) q) (by decide))]; exact F_filledTo
                        have F_m : f_144 (rt 51) = .inr (6, fmva) := by rw [ef_144, va_up_ne _ _ (fun q => absurd (hC.1.2 51 (by decide) 41 (by decide) q) (by decide))]; exact F_m
                        have F_upTo : f_144 (rt 41) = .inl (K 1, 5, .inr (.inl g_143)) := by rw [ef_144, va_up_self]
                        have hC : mC rt L f_144 fmva := ⟨hC.1, F_m, hC.2.2.1, hC.2.2.2⟩
                        have hSm : gSm rt [40, 41, 42, 48, 51] f_6 f_144 := by rw [ef_144]; exact hSm.up (by decide) _
                        rw [nI_clamp (by omega)] at eg_143
                        refine lv_aload_n hx hb dX6_go_483 rfl (lv_at hl 8 rfl) ?_
                        refine g_get (ci := 6) (v := .ref (rt 42)) (C := RX6) (T := TX6) (N := 51) hx hb hts uB6 hown hK hP (hC.1.1 51 (by decide)) F_m rfl 42 (by decide) wm_142 (hC.2.2.2 42 (by decide)) dX6_go_484 ?_
                        refine lv_iload_n hx hb dX6_go_487 rfl (lv_at hl 0 rfl) ?_
                        refine lv_iload hx hb dX6_go_488 (lv_at hl 4 rfl) ?_
                        refine g_iast hx hb hK hP hD hS (hC.1.1 42 (by decide)) F_filledTo (vp_in_nI (by omega) (by decide)) dX6_go_490 (fun H locs hP hD hS => ?_)
                        obtain ⟨g_145, eg_145⟩ : ∃ z9, z9 = upd gf (Int32.toNatClampNeg (nI (dp + 1))) (nI ((cG mm av dp) + 0)) := ⟨_, rfl⟩
                        rw [← eg_145] at hP hD
                        obtain ⟨f_146, ef_146⟩ : ∃ z9, z9 = va_up f_144 (rt 42) (.inl (K 0, 5, .inl g_145)) := ⟨_, rfl⟩
                        rw [← ef_146] at hP hD
                        have F_next : f_146 (rt 48) = .inl (K 0, 5, .inl g_141) := by rw [ef_146, va_up_ne _ _ (fun q => absurd (hC.1.2 48 (by decide) 42 (by decide) q) (by decide))]; exact F_next
                        have F_at : f_146 (rt 40) = .inl (K 0, 5, .inl g_139) := by rw [ef_146, va_up_ne _ _ (fun q => absurd (hC.1.2 40 (by decide) 42 (by decide) q) (by decide))]; exact F_at
                        have F_upTo : f_146 (rt 41) = .inl (K 1, 5, .inr (.inl g_143)) := by rw [ef_146, va_up_ne _ _ (fun q => absurd (hC.1.2 41 (by decide) 42 (by decide) q) (by decide))]; exact F_upTo
                        have F_m : f_146 (rt 51) = .inr (6, fmva) := by rw [ef_146, va_up_ne _ _ (fun q => absurd (hC.1.2 51 (by decide) 42 (by decide) q) (by decide))]; exact F_m
                        have F_filledTo : f_146 (rt 42) = .inl (K 0, 5, .inl g_145) := by rw [ef_146, va_up_self]
                        have hC : mC rt L f_146 fmva := ⟨hC.1, F_m, hC.2.2.1, hC.2.2.2⟩
                        have hSm : gSm rt [40, 41, 42, 48, 51] f_6 f_146 := by rw [ef_146]; exact hSm.up (by decide) _
                        rw [nI_clamp (by omega)] at eg_145
                        refine lv_goto (tgt := 23) hx hb dX6_go_491 (by decide) ?_
                        exact iha _ (by rw [← hmua]; exact muG_des (by omega) hmm (by omega)) _ _ _ ⟨f_146, fmva, _, _, _, _, (dp + 1), (va_up av dp mm), (va_up (va_up nx dp (nx dp + 1)) (dp + 1) 0), _, _, _, rfl, hSm, hFs, hC, F_next, F_at, F_filledTo, F_upTo, I_hasBest, I_bestSum, I_bestFilled, by omega, (by rw [eg_139, eg_141, eg_79, eg_145, eg_143]; exact (hpt.inc (by omega)).des (i := mm) (by omega) (fun h => by omega) (by first | rfl | exact congrArg lN (by rw [if_neg (by omega)])) (by first | rfl | exact congrArg nI (by rw [if_neg (by omega)]))), (Or.inr ⟨rfl, tg, rfl, rfl, htg⟩), hP, hS, lv_sub hl [8, 9, 10, 0] rfl⟩
                      · skip
                        have nc_138 : (((sG wn mm av dp) + 0) + (ma (dp + 1))) = (sG wn mm tg sp) := (bl_eq (a := (((sG wn mm av dp) + 0) + (ma (dp + 1)))) (b := (sG wn mm tg sp)) (by omega) (by omega) ex_137).mp c_138
                        refine lv_iload_n hx hb dX6_go_417 rfl (lv_at hl 7 rfl) ?_
                        refine lv_if_eq (tgt := 433) hx hb dX6_go_418 (by decide) (fun _ => ?_) (fun h9 => absurd (by decide) h9)
                        refine lv_iload hx hb dX6_go_433 (lv_at hl 0 rfl) ?_
                        refine lv_aload_n hx hb dX6_go_435 rfl (lv_at hl 6 rfl) ?_
                        refine g_get (ci := 6) (v := .int (nI (cG mm tg sp))) (C := RX6) (T := TX6) (N := 51) hx hb hts uB6 hown hK hP (hC.1.1 51 (by decide)) F_m rfl 44 (by decide) wm_149 I_bestFilled dX6_go_436 ?_
                        refine lv_icmp_gt (tgt := 446) hx hb dX6_go_439 (by decide) (fun c_147 => ?_) (fun c_147 => ?_)
                        · skip
                          have nc_147 : (cG mm tg sp) < (((((cG mm av dp) + 0) + sp) - dp) - 1) := (bn_lt (a := (cG mm tg sp)) (b := (((((cG mm av dp) + 0) + sp) - dp) - 1)) (by omega) (by omega)).mp (show nI (cG mm tg sp) < nI (((((cG mm av dp) + 0) + sp) - dp) - 1) from c_147)
                          refine lv_iconst (v := 0) hx hb dX6_go_446 (by decide) ?_
                          refine lv_istore (lv' := [(12, .int 0), (11, .int (nI (((((cG mm av dp) + 0) + sp) - dp) - 1))), (9, .long (lN (((sG wn mm av dp) + 0) + (ma (dp + 1))))), (8, .int (nI ((cG mm av dp) + 0))), (6, .long (lN ((sG wn mm av dp) + 0))), (5, .int (nI mm)), (4, .int (nI (nx dp))), (0, .ref (rt 51)), (1, .int 0), (2, .int wo), (3, .int (nI dp))]) hx hb dX6_go_447 hl (by decide) rfl (fun ls hl => ?_)
                          refine lv_iload hx hb dX6_go_449 (lv_at hl 0 rfl) ?_
                          refine lv_if_eq (tgt := 457) hx hb dX6_go_451 (by decide) (fun _ => ?_) (fun h9 => absurd (by decide) h9)
                          refine lv_aload_n hx hb dX6_go_457 rfl (lv_at hl 7 rfl) ?_
                          refine g_get (ci := 6) (v := .ref (rt 40)) (C := RX6) (T := TX6) (N := 51) hx hb hts uB6 hown hK hP (hC.1.1 51 (by decide)) F_m rfl 40 (by decide) wm_62 (hC.2.2.2 40 (by decide)) dX6_go_458 ?_
                          refine lv_iload_n hx hb dX6_go_461 rfl (lv_at hl 10 rfl) ?_
                          refine lv_iload hx hb dX6_go_462 (lv_at hl 5 rfl) ?_
                          refine g_iast hx hb hK hP hD hS (hC.1.1 40 (by decide)) F_at (vp_in_nI (by omega) (by decide)) dX6_go_464 (fun H locs hP hD hS => ?_)
                          obtain ⟨g_148, eg_148⟩ : ∃ z9, z9 = upd ga (Int32.toNatClampNeg (nI dp)) (nI mm) := ⟨_, rfl⟩
                          rw [← eg_148] at hP hD
                          obtain ⟨f_149, ef_149⟩ : ∃ z9, z9 = va_up f_80 (rt 40) (.inl (K 0, 5, .inl g_148)) := ⟨_, rfl⟩
                          rw [← ef_149] at hP hD
                          have F_next : f_149 (rt 48) = .inl (K 0, 5, .inl g_79) := by rw [ef_149, va_up_ne _ _ (fun q => absurd (hC.1.2 48 (by decide) 40 (by decide) q) (by decide))]; exact F_next
                          have F_filledTo : f_149 (rt 42) = .inl (K 0, 5, .inl gf) := by rw [ef_149, va_up_ne _ _ (fun q => absurd (hC.1.2 42 (by decide) 40 (by decide) q) (by decide))]; exact F_filledTo
                          have F_upTo : f_149 (rt 41) = .inl (K 1, 5, .inr (.inl gu)) := by rw [ef_149, va_up_ne _ _ (fun q => absurd (hC.1.2 41 (by decide) 40 (by decide) q) (by decide))]; exact F_upTo
                          have F_m : f_149 (rt 51) = .inr (6, fmva) := by rw [ef_149, va_up_ne _ _ (fun q => absurd (hC.1.2 51 (by decide) 40 (by decide) q) (by decide))]; exact F_m
                          have F_at : f_149 (rt 40) = .inl (K 0, 5, .inl g_148) := by rw [ef_149, va_up_self]
                          have hC : mC rt L f_149 fmva := ⟨hC.1, F_m, hC.2.2.1, hC.2.2.2⟩
                          have hSm : gSm rt [40, 41, 42, 48, 51] f_6 f_149 := by rw [ef_149]; exact hSm.up (by decide) _
                          rw [nI_clamp (by omega)] at eg_148
                          refine lv_iinc (v := nI (dp + 1)) (lv' := [(3, .int (nI (dp + 1))), (12, .int 0), (11, .int (nI (((((cG mm av dp) + 0) + sp) - dp) - 1))), (9, .long (lN (((sG wn mm av dp) + 0) + (ma (dp + 1))))), (8, .int (nI ((cG mm av dp) + 0))), (6, .long (lN ((sG wn mm av dp) + 0))), (5, .int (nI mm)), (4, .int (nI (nx dp))), (0, .ref (rt 51)), (1, .int 0), (2, .int wo)]) hx hb dX6_go_465 hl (k := 10) rfl (by exact nI_1 _) (by decide) rfl (fun ls hl => ?_)
                          refine lv_aload_n hx hb dX6_go_468 rfl (lv_at hl 8 rfl) ?_
                          refine g_get (ci := 6) (v := .ref (rt 48)) (C := RX6) (T := TX6) (N := 51) hx hb hts uB6 hown hK hP (hC.1.1 51 (by decide)) F_m rfl 48 (by decide) wm_140 (hC.2.2.2 48 (by decide)) dX6_go_469 ?_
                          refine lv_iload_n hx hb dX6_go_472 rfl (lv_at hl 0 rfl) ?_
                          refine lv_iconst (v := 0) hx hb dX6_go_473 (by decide) ?_
                          refine g_iast hx hb hK hP hD hS (hC.1.1 48 (by decide)) F_next (vp_in_nI (by omega) (by decide)) dX6_go_474 (fun H locs hP hD hS => ?_)
                          obtain ⟨g_150, eg_150⟩ : ∃ z9, z9 = upd g_79 (Int32.toNatClampNeg (nI (dp + 1))) 0 := ⟨_, rfl⟩
                          rw [← eg_150] at hP hD
                          obtain ⟨f_151, ef_151⟩ : ∃ z9, z9 = va_up f_149 (rt 48) (.inl (K 0, 5, .inl g_150)) := ⟨_, rfl⟩
                          rw [← ef_151] at hP hD
                          have F_at : f_151 (rt 40) = .inl (K 0, 5, .inl g_148) := by rw [ef_151, va_up_ne _ _ (fun q => absurd (hC.1.2 40 (by decide) 48 (by decide) q) (by decide))]; exact F_at
                          have F_filledTo : f_151 (rt 42) = .inl (K 0, 5, .inl gf) := by rw [ef_151, va_up_ne _ _ (fun q => absurd (hC.1.2 42 (by decide) 48 (by decide) q) (by decide))]; exact F_filledTo
                          have F_upTo : f_151 (rt 41) = .inl (K 1, 5, .inr (.inl gu)) := by rw [ef_151, va_up_ne _ _ (fun q => absurd (hC.1.2 41 (by decide) 48 (by decide) q) (by decide))]; exact F_upTo
                          have F_m : f_151 (rt 51) = .inr (6, fmva) := by rw [ef_151, va_up_ne _ _ (fun q => absurd (hC.1.2 51 (by decide) 48 (by decide) q) (by decide))]; exact F_m
                          have F_next : f_151 (rt 48) = .inl (K 0, 5, .inl g_150) := by rw [ef_151, va_up_self]
                          have hC : mC rt L f_151 fmva := ⟨hC.1, F_m, hC.2.2.1, hC.2.2.2⟩
                          have hSm : gSm rt [40, 41, 42, 48, 51] f_6 f_151 := by rw [ef_151]; exact hSm.up (by decide) _
                          rw [nI_clamp (by omega)] at eg_150
                          refine lv_aload_n hx hb dX6_go_475 rfl (lv_at hl 8 rfl) ?_
                          refine g_get (ci := 6) (v := .ref (rt 41)) (C := RX6) (T := TX6) (N := 51) hx hb hts uB6 hown hK hP (hC.1.1 51 (by decide)) F_m rfl 41 (by decide) wm_141 (hC.2.2.2 41 (by decide)) dX6_go_476 ?_
                          refine lv_iload_n hx hb dX6_go_479 rfl (lv_at hl 0 rfl) ?_
                          refine lv_lload hx hb dX6_go_480 (lv_at hl 5 rfl) ?_
                          refine g_last hx hb hK hP hD hS (hC.1.1 41 (by decide)) F_upTo (vp_in_nI (by omega) (by decide)) dX6_go_482 (fun H locs hP hD hS => ?_)
                          obtain ⟨g_152, eg_152⟩ : ∃ z9, z9 = vp_updL gu (Int32.toNatClampNeg (nI (dp + 1))) (lN ((sG wn mm av dp) + 0)) := ⟨_, rfl⟩
                          rw [← eg_152] at hP hD
                          obtain ⟨f_153, ef_153⟩ : ∃ z9, z9 = va_up f_151 (rt 41) (.inl (K 1, 5, .inr (.inl g_152))) := ⟨_, rfl⟩
                          rw [← ef_153] at hP hD
                          have F_next : f_153 (rt 48) = .inl (K 0, 5, .inl g_150) := by rw [ef_153, va_up_ne _ _ (fun q => absurd (hC.1.2 48 (by decide) 41 (by decide) q) (by decide))]; exact F_next
                          have F_at : f_153 (rt 40) = .inl (K 0, 5, .inl g_148) := by rw [ef_153, va_up_ne _ _ (fun q => absurd (hC.1.2 40 (by decide) 41 (by decide) q) (by decide))]; exact F_at
                          have F_filledTo : f_153 (rt 42) = .inl (K 0, 5, .inl gf) := by rw [ef_153, va_up_ne _ _ (fun q => absurd (hC.1.2 42 (by decide) 41 (by decide) q) (by decide))]; exact F_filledTo
                          have F_m : f_153 (rt 51) = .inr (6, fmva) := by rw [ef_153, va_up_ne _ _ (fun q => absurd (hC.1.2 51 (by decide) 41 (by decide) q) (by decide))]; exact F_m
                          have F_upTo : f_153 (rt 41) = .inl (K 1, 5, .inr (.inl g_152)) := by rw [ef_153, va_up_self]
                          have hC : mC rt L f_153 fmva := ⟨hC.1, F_m, hC.2.2.1, hC.2.2.2⟩
                          have hSm : gSm rt [40, 41, 42, 48, 51] f_6 f_153 := by rw [ef_153]; exact hSm.up (by decide) _
                          rw [nI_clamp (by omega)] at eg_152
                          refine lv_aload_n hx hb dX6_go_483 rfl (lv_at hl 8 rfl) ?_
                          refine g_get (ci := 6) (v := .ref (rt 42)) (C := RX6) (T := TX6) (N := 51) hx hb hts uB6 hown hK hP (hC.1.1 51 (by decide)) F_m rfl 42 (by decide) wm_142 (hC.2.2.2 42 (by decide)) dX6_go_484 ?_
                          refine lv_iload_n hx hb dX6_go_487 rfl (lv_at hl 0 rfl) ?_
                          refine lv_iload hx hb dX6_go_488 (lv_at hl 4 rfl) ?_
                          refine g_iast hx hb hK hP hD hS (hC.1.1 42 (by decide)) F_filledTo (vp_in_nI (by omega) (by decide)) dX6_go_490 (fun H locs hP hD hS => ?_)
                          obtain ⟨g_154, eg_154⟩ : ∃ z9, z9 = upd gf (Int32.toNatClampNeg (nI (dp + 1))) (nI ((cG mm av dp) + 0)) := ⟨_, rfl⟩
                          rw [← eg_154] at hP hD
                          obtain ⟨f_155, ef_155⟩ : ∃ z9, z9 = va_up f_153 (rt 42) (.inl (K 0, 5, .inl g_154)) := ⟨_, rfl⟩
                          rw [← ef_155] at hP hD
                          have F_next : f_155 (rt 48) = .inl (K 0, 5, .inl g_150) := by rw [ef_155, va_up_ne _ _ (fun q => absurd (hC.1.2 48 (by decide) 42 (by decide) q) (by decide))]; exact F_next
                          have F_at : f_155 (rt 40) = .inl (K 0, 5, .inl g_148) := by rw [ef_155, va_up_ne _ _ (fun q => absurd (hC.1.2 40 (by decide) 42 (by decide) q) (by decide))]; exact F_at
                          have F_upTo : f_155 (rt 41) = .inl (K 1, 5, .inr (.inl g_152)) := by rw [ef_155, va_up_ne _ _ (fun q => absurd (hC.1.2 41 (by decide) 42 (by decide) q) (by decide))]; exact F_upTo
                          have F_m : f_155 (rt 51) = .inr (6, fmva) := by rw [ef_155, va_up_ne _ _ (fun q => absurd (hC.1.2 51 (by decide) 42 (by decide) q) (by decide))]; exact F_m
                          have F_filledTo : f_155 (rt 42) = .inl (K 0, 5, .inl g_154) := by rw [ef_155, va_up_self]
                          have hC : mC rt L f_155 fmva := ⟨hC.1, F_m, hC.2.2.1, hC.2.2.2⟩
                          have hSm : gSm rt [40, 41, 42, 48, 51] f_6 f_155 := by rw [ef_155]; exact hSm.up (by decide) _
                          rw [nI_clamp (by omega)] at eg_154
                          refine lv_goto (tgt := 23) hx hb dX6_go_491 (by decide) ?_
                          exact iha _ (by rw [← hmua]; exact muG_des (by omega) hmm (by omega)) _ _ _ ⟨f_155, fmva, _, _, _, _, (dp + 1), (va_up av dp mm), (va_up (va_up nx dp (nx dp + 1)) (dp + 1) 0), _, _, _, rfl, hSm, hFs, hC, F_next, F_at, F_filledTo, F_upTo, I_hasBest, I_bestSum, I_bestFilled, by omega, (by rw [eg_148, eg_150, eg_79, eg_154, eg_152]; exact (hpt.inc (by omega)).des (i := mm) (by omega) (fun h => by omega) (by first | rfl | exact congrArg lN (by rw [if_neg (by omega)])) (by first | rfl | exact congrArg nI (by rw [if_neg (by omega)]))), (Or.inr ⟨rfl, tg, rfl, rfl, htg⟩), hP, hS, lv_sub hl [8, 9, 10, 0] rfl⟩
                        · skip
                          have nc_147 : ¬ ((cG mm tg sp) < (((((cG mm av dp) + 0) + sp) - dp) - 1)) := fun q => c_147 (show nI (cG mm tg sp) < nI (((((cG mm av dp) + 0) + sp) - dp) - 1) from (bn_lt (a := (cG mm tg sp)) (b := (((((cG mm av dp) + 0) + sp) - dp) - 1)) (by omega) (by omega)).mpr q)
                          refine lv_iconst (v := 1) hx hb dX6_go_442 (by decide) ?_
                          refine lv_goto (tgt := 447) hx hb dX6_go_443 (by decide) ?_
                          refine lv_istore (lv' := [(12, .int 1), (11, .int (nI (((((cG mm av dp) + 0) + sp) - dp) - 1))), (9, .long (lN (((sG wn mm av dp) + 0) + (ma (dp + 1))))), (8, .int (nI ((cG mm av dp) + 0))), (6, .long (lN ((sG wn mm av dp) + 0))), (5, .int (nI mm)), (4, .int (nI (nx dp))), (0, .ref (rt 51)), (1, .int 0), (2, .int wo), (3, .int (nI dp))]) hx hb dX6_go_447 hl (by decide) rfl (fun ls hl => ?_)
                          refine lv_iload hx hb dX6_go_449 (lv_at hl 0 rfl) ?_
                          refine lv_if_eq (tgt := 457) hx hb dX6_go_451 (by decide) (fun h9 => absurd h9 (by decide)) (fun _ => ?_)
                          refine lv_goto (tgt := 23) hx hb dX6_go_454 (by decide) ?_
                          exact iha _ (by rw [← hmua]; exact muG_dec (by omega)) _ _ _ ⟨f_80, fmva, _, _, _, _, dp, av, (va_up nx dp (nx dp + 1)), _, _, _, rfl, hSm, hFs, hC, F_next, F_at, F_filledTo, F_upTo, I_hasBest, I_bestSum, I_bestFilled, by omega, (by rw [eg_79]; exact hpt.inc (by omega)), (Or.inr ⟨rfl, tg, rfl, rfl, htg⟩), hP, hS, lv_sub hl [7, 8, 9, 10] rfl⟩
                  · skip
                    have nc_127 : ¬ (mm ≤ mm) := fun q => c_127 (show nI mm ≤ nI mm from (bn_le (a := mm) (b := mm) (by omega) (by omega)).mpr q)
                    exact (show False by omega).elim
                · skip
                  have nc_124 : ¬ (mm ≤ mm) := fun q => c_124 (show nI mm ≤ nI mm from (bn_le (a := mm) (b := mm) (by omega) (by omega)).mpr q)
                  exact (show False by omega).elim
              · skip
                have nc_122 : ¬ (mm ≤ mm) := fun q => c_122 (show nI mm ≤ nI mm from (bn_le (a := mm) (b := mm) (by omega) (by omega)).mpr q)
                exact (show False by omega).elim
          · skip
            have nc_76 : ¬ ((nx dp) ≤ mm) := fun q => c_76 (show nI (nx dp) ≤ nI mm from (bn_le (a := (nx dp)) (b := mm) (by omega) (by omega)).mpr q)
            rcases Nat.eq_zero_or_pos dp with hz | hz
            · skip
              rw [show nI dp = 0 by rw [hz]; rfl] at hl
              refine lv_iinc (v := (-1)) (lv' := [(3, .int (-1)), (4, .int (nI (nx dp))), (0, .ref (rt 51)), (1, .int 0), (2, .int wo)]) hx hb dX6_go_235 hl (k := 4) rfl (by decide) (by decide) rfl (fun ls hl => ?_)
              refine lv_goto (tgt := 23) hx hb dX6_go_238 (by decide) ?_
              refine lv_iload_n hx hb dX6_go_23 rfl (lv_at hl 0 rfl) ?_
              refine lv_if_lt (tgt := 494) hx hb dX6_go_24 (by decide) (fun _ => ?_) (fun h9 => absurd (by decide) h9)
              exact hEa _ _ _ ⟨fva, fmva, _, _, _, _, 0, av, nx, _, _, _, hSm, hFs, hC, F_next, F_at, F_filledTo, F_upTo, I_hasBest, I_bestSum, I_bestFilled, ⟨rfl, tg, rfl, rfl, htg⟩, hP, hS, lv_sub hl [2] rfl⟩
            · skip
              have hd1 : 1 ≤ dp := hz
              obtain ⟨x_156, ex_156⟩ : ∃ y : Int32, y = (nI dp) + (-1) := ⟨_, rfl⟩
              refine lv_iinc (v := x_156) (lv' := [(3, .int x_156), (4, .int (nI (nx dp))), (0, .ref (rt 51)), (1, .int 0), (2, .int wo)]) hx hb dX6_go_235 hl (k := 4) rfl (by rw [ex_156]; rfl) (by decide) rfl (fun ls hl => ?_)
              obtain rfl : x_156 = nI (dp - 1) := ex_156.trans (by rw [← Int32.sub_eq_add_neg]; exact pk_sub (a := dp) (b := 1) hd1)
              refine lv_goto (tgt := 23) hx hb dX6_go_238 (by decide) ?_
              exact iha _ (by rw [← hmua]; exact muG_pop (by omega)) _ _ _ ⟨fva, fmva, _, _, _, _, (dp - 1), av, nx, _, _, _, rfl, hSm, hFs, hC, F_next, F_at, F_filledTo, F_upTo, I_hasBest, I_bestSum, I_bestFilled, by omega, hpt.pop (by omega), (Or.inr ⟨rfl, tg, rfl, rfl, htg⟩), hP, hS, lv_sub hl [2, 3, 4, 0] rfl⟩
        · skip
          have nc_74 : dp = sp := (bn_eq (a := dp) (b := sp) (by omega) (by omega)).mp (show nI dp = nI sp from c_74)
          have hds : dp = sp := by omega
          refine lv_aload_n hx hb dX6_go_35 rfl (lv_at hl 0 rfl) ?_
          refine g_get (ci := 6) (v := .int 1) (C := RX6) (T := TX6) (N := 51) hx hb hts uB6 hown hK hP (hC.1.1 51 (by decide)) F_m rfl 45 (by decide) wm_147 I_hasBest dX6_go_36 ?_
          refine lv_if_eq (tgt := 83) hx hb dX6_go_39 (by decide) (fun h9 => absurd h9 (by decide)) (fun _ => ?_)
          refine lv_aload_n hx hb dX6_go_42 rfl (lv_at hl 0 rfl) ?_
          refine g_get (ci := 6) (v := .ref (rt 41)) (C := RX6) (T := TX6) (N := 51) hx hb hts uB6 hown hK hP (hC.1.1 51 (by decide)) F_m rfl 41 (by decide) wm_141 (hC.2.2.2 41 (by decide)) dX6_go_43 ?_
          refine lv_iload_n hx hb dX6_go_46 rfl (lv_at hl 3 rfl) ?_
          refine g_lald hx hb hK hP (hC.1.1 41 (by decide)) F_upTo (vp_in_nI (by omega) (by decide)) dX6_go_47 ?_
          refine lv_topl (fun x_157 ex_157 => ?_)
          rw [nI_clamp (by omega)] at ex_157
          obtain rfl : x_157 = lN (sG wn mm av dp) := ex_157.trans (hpt.2.2.1 dp (Nat.le_refl _))
          refine lv_aload_n hx hb dX6_go_48 rfl (lv_at hl 0 rfl) ?_
          refine g_get (ci := 6) (v := .long (lN (sG wn mm tg sp))) (C := RX6) (T := TX6) (N := 51) hx hb hts uB6 hown hK hP (hC.1.1 51 (by decide)) F_m rfl 43 (by decide) wm_148 I_bestSum dX6_go_49 ?_
          refine W.lcmp hx hb dX6_go_52 ?_
          refine lv_topi (fun x_158 ex_158 => ?_)
          refine lv_if_gt (tgt := 83) hx hb dX6_go_53 (by decide) (fun c_159 => ?_) (fun c_159 => ?_)
          · skip
            have nc_159 : (sG wn mm tg sp) < (sG wn mm av dp) := (bl_gt (a := (sG wn mm av dp)) (b := (sG wn mm tg sp)) (by omega) (by omega) ex_158).mp c_159
            refine lv_iconst (v := 1) hx hb dX6_go_83 (by decide) ?_
            refine lv_goto (tgt := 88) hx hb dX6_go_84 (by decide) ?_
            refine lv_istore (lv' := [(4, .int 1), (0, .ref (rt 51)), (1, .int 0), (2, .int wo), (3, .int (nI dp))]) hx hb dX6_go_88 hl (by decide) rfl (fun ls hl => ?_)
            refine lv_iload_n hx hb dX6_go_90 rfl (lv_at hl 2 rfl) ?_
            refine lv_if_eq (tgt := 178) hx hb dX6_go_91 (by decide) (fun _ => ?_) (fun h9 => absurd (by decide) h9)
            refine lv_iload hx hb dX6_go_178 (lv_at hl 0 rfl) ?_
            refine lv_if_eq (tgt := 212) hx hb dX6_go_180 (by decide) (fun h9 => absurd h9 (by decide)) (fun _ => ?_)
            refine lv_iload_n hx hb dX6_go_183 rfl (lv_at hl 2 rfl) ?_
            refine lv_if_ne (tgt := 212) hx hb dX6_go_184 (by decide) (fun h9 => absurd (by decide) h9) (fun _ => ?_)
            refine lv_aload_n hx hb dX6_go_187 rfl (lv_at hl 1 rfl) ?_
            refine lv_iconst (v := 1) hx hb dX6_go_188 (by decide) ?_
            refine g_put (ci := 6) (v := .int 1) (ty := .boolean) (C := RX6) (T := TX6) (N := 51) hx hb hts uB6 tyX6 tyX6_ok nmX6 hown hK hP hD hS (hC.1.1 51 (by decide)) F_m rfl 45 (by decide) wm_147 rfl (by decide +kernel) rfl rfl (by rw [hC.2.2.1]; decide) dX6_go_189 (fun H locs hP hD hS => ?_)
            obtain ⟨fs_160, efs_160⟩ : ∃ z9, z9 = List.set fmva 45 (.int 1) := ⟨_, rfl⟩
            rw [← efs_160] at hP hD
            have hlen_ : fs_160.length = 51 := by rw [efs_160, List.length_set]; exact hC.2.2.1
            have I_may : fs_160[35]? = some (.int (nI mm)) := by rw [efs_160, List.getElem?_set_ne (by decide)]; exact I_may
            have I_spots : fs_160[39]? = some (.int (nI sp)) := by rw [efs_160, List.getElem?_set_ne (by decide)]; exact I_spots
            have I_bestSum : fs_160[43]? = some (.long (lN (sG wn mm tg sp))) := by rw [efs_160, List.getElem?_set_ne (by decide)]; exact I_bestSum
            have I_bestFilled : fs_160[44]? = some (.int (nI (cG mm tg sp))) := by rw [efs_160, List.getElem?_set_ne (by decide)]; exact I_bestFilled
            have I_hasBest : fs_160[45]? = some (.int 1) := by rw [efs_160]; exact List.getElem?_set_self (by rw [hC.2.2.1]; decide)
            have hmr_ : ∀ k ∈ mArr, fs_160[k]? = some (.ref (rt k)) := fun k h => by rw [efs_160, List.getElem?_set_ne (fun q => by rw [← q] at h; exact absurd h (by decide))]; exact hC.2.2.2 k h
            obtain ⟨f_161, ef_161⟩ : ∃ z9, z9 = va_up fva (rt 51) (.inr (6, fs_160)) := ⟨_, rfl⟩
            rw [← ef_161] at hP hD
            have F_next : f_161 (rt 48) = .inl (K 0, 5, .inl gn) := by rw [ef_161, va_up_ne _ _ (fun q => absurd (hC.1.2 48 (by decide) 51 (by decide) q) (by decide))]; exact F_next
            have F_at : f_161 (rt 40) = .inl (K 0, 5, .inl ga) := by rw [ef_161, va_up_ne _ _ (fun q => absurd (hC.1.2 40 (by decide) 51 (by decide) q) (by decide))]; exact F_at
            have F_filledTo : f_161 (rt 42) = .inl (K 0, 5, .inl gf) := by rw [ef_161, va_up_ne _ _ (fun q => absurd (hC.1.2 42 (by decide) 51 (by decide) q) (by decide))]; exact F_filledTo
            have F_upTo : f_161 (rt 41) = .inl (K 1, 5, .inr (.inl gu)) := by rw [ef_161, va_up_ne _ _ (fun q => absurd (hC.1.2 41 (by decide) 51 (by decide) q) (by decide))]; exact F_upTo
            have F_m : f_161 (rt 51) = .inr (6, fs_160) := by rw [ef_161, va_up_self]
            have hSm : gSm rt [40, 41, 42, 48, 51] f_6 f_161 := by rw [ef_161]; exact hSm.up (by decide) _
            have hC : mC rt L f_161 fs_160 := ⟨hC.1, F_m, hlen_, hmr_⟩
            have hFs : fmS [43, 44, 45] fm fs_160 := by rw [efs_160]; exact hFs.st (by decide) _
            refine lv_aload_n hx hb dX6_go_192 rfl (lv_at hl 1 rfl) ?_
            refine lv_aload_n hx hb dX6_go_193 rfl (lv_at hl 1 rfl) ?_
            refine g_get (ci := 6) (v := .ref (rt 41)) (C := RX6) (T := TX6) (N := 51) hx hb hts uB6 hown hK hP (hC.1.1 51 (by decide)) F_m rfl 41 (by decide) wm_141 (hC.2.2.2 41 (by decide)) dX6_go_194 ?_
            refine lv_iload_n hx hb dX6_go_197 rfl (lv_at hl 4 rfl) ?_
            refine g_lald hx hb hK hP (hC.1.1 41 (by decide)) F_upTo (vp_in_nI (by omega) (by decide)) dX6_go_198 ?_
            refine lv_topl (fun x_162 ex_162 => ?_)
            rw [nI_clamp (by omega)] at ex_162
            obtain rfl : x_162 = lN (sG wn mm av dp) := ex_162.trans (hpt.2.2.1 dp (Nat.le_refl _))
            refine g_put (ci := 6) (v := .long (lN (sG wn mm av dp))) (ty := .long) (C := RX6) (T := TX6) (N := 51) hx hb hts uB6 tyX6 tyX6_ok nmX6 hown hK hP hD hS (hC.1.1 51 (by decide)) F_m rfl 43 (by decide) wm_148 rfl (by decide +kernel) rfl rfl (by rw [hC.2.2.1]; decide) dX6_go_199 (fun H locs hP hD hS => ?_)
            obtain ⟨fs_163, efs_163⟩ : ∃ z9, z9 = List.set fs_160 43 (.long (lN (sG wn mm av dp))) := ⟨_, rfl⟩
            rw [← efs_163] at hP hD
            have hlen_ : fs_163.length = 51 := by rw [efs_163, List.length_set]; exact hC.2.2.1
            have I_may : fs_163[35]? = some (.int (nI mm)) := by rw [efs_163, List.getElem?_set_ne (by decide)]; exact I_may
            have I_spots : fs_163[39]? = some (.int (nI sp)) := by rw [efs_163, List.getElem?_set_ne (by decide)]; exact I_spots
            have I_hasBest : fs_163[45]? = some (.int 1) := by rw [efs_163, List.getElem?_set_ne (by decide)]; exact I_hasBest
            have I_bestFilled : fs_163[44]? = some (.int (nI (cG mm tg sp))) := by rw [efs_163, List.getElem?_set_ne (by decide)]; exact I_bestFilled
            have I_bestSum : fs_163[43]? = some (.long (lN (sG wn mm av dp))) := by rw [efs_163]; exact List.getElem?_set_self (by rw [hC.2.2.1]; decide)
            have hmr_ : ∀ k ∈ mArr, fs_163[k]? = some (.ref (rt k)) := fun k h => by rw [efs_163, List.getElem?_set_ne (fun q => by rw [← q] at h; exact absurd h (by decide))]; exact hC.2.2.2 k h
            obtain ⟨f_164, ef_164⟩ : ∃ z9, z9 = va_up f_161 (rt 51) (.inr (6, fs_163)) := ⟨_, rfl⟩
            rw [← ef_164] at hP hD
            have F_next : f_164 (rt 48) = .inl (K 0, 5, .inl gn) := by rw [ef_164, va_up_ne _ _ (fun q => absurd (hC.1.2 48 (by decide) 51 (by decide) q) (by decide))]; exact F_next
            have F_at : f_164 (rt 40) = .inl (K 0, 5, .inl ga) := by rw [ef_164, va_up_ne _ _ (fun q => absurd (hC.1.2 40 (by decide) 51 (by decide) q) (by decide))]; exact F_at
            have F_filledTo : f_164 (rt 42) = .inl (K 0, 5, .inl gf) := by rw [ef_164, va_up_ne _ _ (fun q => absurd (hC.1.2 42 (by decide) 51 (by decide) q) (by decide))]; exact F_filledTo
            have F_upTo : f_164 (rt 41) = .inl (K 1, 5, .inr (.inl gu)) := by rw [ef_164, va_up_ne _ _ (fun q => absurd (hC.1.2 41 (by decide) 51 (by decide) q) (by decide))]; exact F_upTo
            have F_m : f_164 (rt 51) = .inr (6, fs_163) := by rw [ef_164, va_up_self]
            have hSm : gSm rt [40, 41, 42, 48, 51] f_6 f_164 := by rw [ef_164]; exact hSm.up (by decide) _
            have hC : mC rt L f_164 fs_163 := ⟨hC.1, F_m, hlen_, hmr_⟩
            have hFs : fmS [43, 44, 45] fm fs_163 := by rw [efs_163]; exact hFs.st (by decide) _
            refine lv_aload_n hx hb dX6_go_202 rfl (lv_at hl 1 rfl) ?_
            refine lv_aload_n hx hb dX6_go_203 rfl (lv_at hl 1 rfl) ?_
            refine g_get (ci := 6) (v := .ref (rt 42)) (C := RX6) (T := TX6) (N := 51) hx hb hts uB6 hown hK hP (hC.1.1 51 (by decide)) F_m rfl 42 (by decide) wm_142 (hC.2.2.2 42 (by decide)) dX6_go_204 ?_
            refine lv_iload_n hx hb dX6_go_207 rfl (lv_at hl 4 rfl) ?_
            refine g_iald hx hb hK hP (hC.1.1 42 (by decide)) F_filledTo (vp_in_nI (by omega) (by decide)) dX6_go_208 ?_
            refine lv_topi (fun x_165 ex_165 => ?_)
            rw [nI_clamp (by omega)] at ex_165
            obtain rfl : x_165 = nI (cG mm av dp) := ex_165.trans (hpt.2.2.2.1 dp (Nat.le_refl _))
            refine g_put (ci := 6) (v := .int (nI (cG mm av dp))) (ty := .int) (C := RX6) (T := TX6) (N := 51) hx hb hts uB6 tyX6 tyX6_ok nmX6 hown hK hP hD hS (hC.1.1 51 (by decide)) F_m rfl 44 (by decide) wm_149 rfl (by decide +kernel) rfl rfl (by rw [hC.2.2.1]; decide) dX6_go_209 (fun H locs hP hD hS => ?_)
            obtain ⟨fs_166, efs_166⟩ : ∃ z9, z9 = List.set fs_163 44 (.int (nI (cG mm av dp))) := ⟨_, rfl⟩
            rw [← efs_166] at hP hD
            have hlen_ : fs_166.length = 51 := by rw [efs_166, List.length_set]; exact hC.2.2.1
            have I_may : fs_166[35]? = some (.int (nI mm)) := by rw [efs_166, List.getElem?_set_ne (by decide)]; exact I_may
            have I_spots : fs_166[39]? = some (.int (nI sp)) := by rw [efs_166, List.getElem?_set_ne (by decide)]; exact I_spots
            have I_hasBest : fs_166[45]? = some (.int 1) := by rw [efs_166, List.getElem?_set_ne (by decide)]; exact I_hasBest
            have I_bestSum : fs_166[43]? = some (.long (lN (sG wn mm av dp))) := by rw [efs_166, List.getElem?_set_ne (by decide)]; exact I_bestSum
            have I_bestFilled : fs_166[44]? = some (.int (nI (cG mm av dp))) := by rw [efs_166]; exact List.getElem?_set_self (by rw [hC.2.2.1]; decide)
            have hmr_ : ∀ k ∈ mArr, fs_166[k]? = some (.ref (rt k)) := fun k h => by rw [efs_166, List.getElem?_set_ne (fun q => by rw [← q] at h; exact absurd h (by decide))]; exact hC.2.2.2 k h
            obtain ⟨f_167, ef_167⟩ : ∃ z9, z9 = va_up f_164 (rt 51) (.inr (6, fs_166)) := ⟨_, rfl⟩
            rw [← ef_167] at hP hD
            have F_next : f_167 (rt 48) = .inl (K 0, 5, .inl gn) := by rw [ef_167, va_up_ne _ _ (fun q => absurd (hC.1.2 48 (by decide) 51 (by decide) q) (by decide))]; exact F_next
            have F_at : f_167 (rt 40) = .inl (K 0, 5, .inl ga) := by rw [ef_167, va_up_ne _ _ (fun q => absurd (hC.1.2 40 (by decide) 51 (by decide) q) (by decide))]; exact F_at
            have F_filledTo : f_167 (rt 42) = .inl (K 0, 5, .inl gf) := by rw [ef_167, va_up_ne _ _ (fun q => absurd (hC.1.2 42 (by decide) 51 (by decide) q) (by decide))]; exact F_filledTo
            have F_upTo : f_167 (rt 41) = .inl (K 1, 5, .inr (.inl gu)) := by rw [ef_167, va_up_ne _ _ (fun q => absurd (hC.1.2 41 (by decide) 51 (by decide) q) (by decide))]; exact F_upTo
            have F_m : f_167 (rt 51) = .inr (6, fs_166) := by rw [ef_167, va_up_self]
            have hSm : gSm rt [40, 41, 42, 48, 51] f_6 f_167 := by rw [ef_167]; exact hSm.up (by decide) _
            have hC : mC rt L f_167 fs_166 := ⟨hC.1, F_m, hlen_, hmr_⟩
            have hFs : fmS [43, 44, 45] fm fs_166 := by rw [efs_166]; exact hFs.st (by decide) _
            have hd1 : 1 ≤ dp := by omega
            obtain ⟨x_168, ex_168⟩ : ∃ y : Int32, y = (nI dp) + (-1) := ⟨_, rfl⟩
            refine lv_iinc (v := x_168) (lv' := [(3, .int x_168), (4, .int 1), (0, .ref (rt 51)), (1, .int 0), (2, .int wo)]) hx hb dX6_go_212 hl (k := 4) rfl (by rw [ex_168]; rfl) (by decide) rfl (fun ls hl => ?_)
            obtain rfl : x_168 = nI (dp - 1) := ex_168.trans (by rw [← Int32.sub_eq_add_neg]; exact pk_sub (a := dp) (b := 1) hd1)
            refine lv_goto (tgt := 23) hx hb dX6_go_215 (by decide) ?_
            exact iha _ (by rw [← hmua]; exact muG_pop (by omega)) _ _ _ ⟨f_167, fs_166, _, _, _, _, (dp - 1), av, nx, _, _, _, rfl, hSm, hFs, hC, F_next, F_at, F_filledTo, F_upTo, I_hasBest, I_bestSum, I_bestFilled, by omega, hpt.pop (by omega), (Or.inr ⟨rfl, av, by rw [hds], by rw [hds], gvOk_cg (fun k hk => rfl) (show gvOk g_mayBe g_apart mm wo av sp by have h9 := hpt.2.1; rw [show dp = sp by omega] at h9; exact h9)⟩), hP, hS, lv_sub hl [2, 3, 4, 0] rfl⟩
          · skip
            have nc_159 : ¬ ((sG wn mm tg sp) < (sG wn mm av dp)) := fun q => c_159 ((bl_gt (a := (sG wn mm av dp)) (b := (sG wn mm tg sp)) (by omega) (by omega) ex_158).mpr q)
            refine lv_aload_n hx hb dX6_go_56 rfl (lv_at hl 0 rfl) ?_
            refine g_get (ci := 6) (v := .ref (rt 41)) (C := RX6) (T := TX6) (N := 51) hx hb hts uB6 hown hK hP (hC.1.1 51 (by decide)) F_m rfl 41 (by decide) wm_141 (hC.2.2.2 41 (by decide)) dX6_go_57 ?_
            refine lv_iload_n hx hb dX6_go_60 rfl (lv_at hl 3 rfl) ?_
            refine g_lald hx hb hK hP (hC.1.1 41 (by decide)) F_upTo (vp_in_nI (by omega) (by decide)) dX6_go_61 ?_
            refine lv_topl (fun x_169 ex_169 => ?_)
            rw [nI_clamp (by omega)] at ex_169
            obtain rfl : x_169 = lN (sG wn mm av dp) := ex_169.trans (hpt.2.2.1 dp (Nat.le_refl _))
            refine lv_aload_n hx hb dX6_go_62 rfl (lv_at hl 0 rfl) ?_
            refine g_get (ci := 6) (v := .long (lN (sG wn mm tg sp))) (C := RX6) (T := TX6) (N := 51) hx hb hts uB6 hown hK hP (hC.1.1 51 (by decide)) F_m rfl 43 (by decide) wm_148 I_bestSum dX6_go_63 ?_
            refine W.lcmp hx hb dX6_go_66 ?_
            refine lv_topi (fun x_170 ex_170 => ?_)
            refine lv_if_ne (tgt := 87) hx hb dX6_go_67 (by decide) (fun c_171 => ?_) (fun c_171 => ?_)
            · skip
              have nc_171 : ¬ ((sG wn mm av dp) = (sG wn mm tg sp)) := fun q => c_171 ((bl_eq (a := (sG wn mm av dp)) (b := (sG wn mm tg sp)) (by omega) (by omega) ex_170).mpr q)
              refine lv_iconst (v := 0) hx hb dX6_go_87 (by decide) ?_
              refine lv_istore (lv' := [(4, .int 0), (0, .ref (rt 51)), (1, .int 0), (2, .int wo), (3, .int (nI dp))]) hx hb dX6_go_88 hl (by decide) rfl (fun ls hl => ?_)
              refine lv_iload_n hx hb dX6_go_90 rfl (lv_at hl 2 rfl) ?_
              refine lv_if_eq (tgt := 178) hx hb dX6_go_91 (by decide) (fun _ => ?_) (fun h9 => absurd (by decide) h9)
              refine lv_iload hx hb dX6_go_178 (lv_at hl 0 rfl) ?_
              refine lv_if_eq (tgt := 212) hx hb dX6_go_180 (by decide) (fun _ => ?_) (fun h9 => absurd (by decide) h9)
              have hd1 : 1 ≤ dp := by omega
              obtain ⟨x_172, ex_172⟩ : ∃ y : Int32, y = (nI dp) + (-1) := ⟨_, rfl⟩
              refine lv_iinc (v := x_172) (lv' := [(3, .int x_172), (4, .int 0), (0, .ref (rt 51)), (1, .int 0), (2, .int wo)]) hx hb dX6_go_212 hl (k := 4) rfl (by rw [ex_172]; rfl) (by decide) rfl (fun ls hl => ?_)
              obtain rfl : x_172 = nI (dp - 1) := ex_172.trans (by rw [← Int32.sub_eq_add_neg]; exact pk_sub (a := dp) (b := 1) hd1)
              refine lv_goto (tgt := 23) hx hb dX6_go_215 (by decide) ?_
              exact iha _ (by rw [← hmua]; exact muG_pop (by omega)) _ _ _ ⟨fva, fmva, _, _, _, _, (dp - 1), av, nx, _, _, _, rfl, hSm, hFs, hC, F_next, F_at, F_filledTo, F_upTo, I_hasBest, I_bestSum, I_bestFilled, by omega, hpt.pop (by omega), (Or.inr ⟨rfl, tg, rfl, rfl, htg⟩), hP, hS, lv_sub hl [2, 3, 4, 0] rfl⟩
            · skip
              have nc_171 : (sG wn mm av dp) = (sG wn mm tg sp) := (bl_eq (a := (sG wn mm av dp)) (b := (sG wn mm tg sp)) (by omega) (by omega) ex_170).mp c_171
              refine lv_aload_n hx hb dX6_go_70 rfl (lv_at hl 0 rfl) ?_
              refine g_get (ci := 6) (v := .ref (rt 42)) (C := RX6) (T := TX6) (N := 51) hx hb hts uB6 hown hK hP (hC.1.1 51 (by decide)) F_m rfl 42 (by decide) wm_142 (hC.2.2.2 42 (by decide)) dX6_go_71 ?_
              refine lv_iload_n hx hb dX6_go_74 rfl (lv_at hl 3 rfl) ?_
              refine g_iald hx hb hK hP (hC.1.1 42 (by decide)) F_filledTo (vp_in_nI (by omega) (by decide)) dX6_go_75 ?_
              refine lv_topi (fun x_173 ex_173 => ?_)
              rw [nI_clamp (by omega)] at ex_173
              obtain rfl : x_173 = nI (cG mm av dp) := ex_173.trans (hpt.2.2.2.1 dp (Nat.le_refl _))
              refine lv_aload_n hx hb dX6_go_76 rfl (lv_at hl 0 rfl) ?_
              refine g_get (ci := 6) (v := .int (nI (cG mm tg sp))) (C := RX6) (T := TX6) (N := 51) hx hb hts uB6 hown hK hP (hC.1.1 51 (by decide)) F_m rfl 44 (by decide) wm_149 I_bestFilled dX6_go_77 ?_
              refine lv_icmp_le (tgt := 87) hx hb dX6_go_80 (by decide) (fun c_174 => ?_) (fun c_174 => ?_)
              · skip
                have nc_174 : (cG mm av dp) ≤ (cG mm tg sp) := (bn_le (a := (cG mm av dp)) (b := (cG mm tg sp)) (by omega) (by omega)).mp (show nI (cG mm av dp) ≤ nI (cG mm tg sp) from c_174)
                refine lv_iconst (v := 0) hx hb dX6_go_87 (by decide) ?_
                refine lv_istore (lv' := [(4, .int 0), (0, .ref (rt 51)), (1, .int 0), (2, .int wo), (3, .int (nI dp))]) hx hb dX6_go_88 hl (by decide) rfl (fun ls hl => ?_)
                refine lv_iload_n hx hb dX6_go_90 rfl (lv_at hl 2 rfl) ?_
                refine lv_if_eq (tgt := 178) hx hb dX6_go_91 (by decide) (fun _ => ?_) (fun h9 => absurd (by decide) h9)
                refine lv_iload hx hb dX6_go_178 (lv_at hl 0 rfl) ?_
                refine lv_if_eq (tgt := 212) hx hb dX6_go_180 (by decide) (fun _ => ?_) (fun h9 => absurd (by decide) h9)
                have hd1 : 1 ≤ dp := by omega
                obtain ⟨x_175, ex_175⟩ : ∃ y : Int32, y = (nI dp) + (-1) := ⟨_, rfl⟩
                refine lv_iinc (v := x_175) (lv' := [(3, .int x_175), (4, .int 0), (0, .ref (rt 51)), (1, .int 0), (2, .int wo)]) hx hb dX6_go_212 hl (k := 4) rfl (by rw [ex_175]; rfl) (by decide) rfl (fun ls hl => ?_)
                obtain rfl : x_175 = nI (dp - 1) := ex_175.trans (by rw [← Int32.sub_eq_add_neg]; exact pk_sub (a := dp) (b := 1) hd1)
                refine lv_goto (tgt := 23) hx hb dX6_go_215 (by decide) ?_
                exact iha _ (by rw [← hmua]; exact muG_pop (by omega)) _ _ _ ⟨fva, fmva, _, _, _, _, (dp - 1), av, nx, _, _, _, rfl, hSm, hFs, hC, F_next, F_at, F_filledTo, F_upTo, I_hasBest, I_bestSum, I_bestFilled, by omega, hpt.pop (by omega), (Or.inr ⟨rfl, tg, rfl, rfl, htg⟩), hP, hS, lv_sub hl [2, 3, 4, 0] rfl⟩
              · skip
                have nc_174 : ¬ ((cG mm av dp) ≤ (cG mm tg sp)) := fun q => c_174 (show nI (cG mm av dp) ≤ nI (cG mm tg sp) from (bn_le (a := (cG mm av dp)) (b := (cG mm tg sp)) (by omega) (by omega)).mpr q)
                refine lv_iconst (v := 1) hx hb dX6_go_83 (by decide) ?_
                refine lv_goto (tgt := 88) hx hb dX6_go_84 (by decide) ?_
                refine lv_istore (lv' := [(4, .int 1), (0, .ref (rt 51)), (1, .int 0), (2, .int wo), (3, .int (nI dp))]) hx hb dX6_go_88 hl (by decide) rfl (fun ls hl => ?_)
                refine lv_iload_n hx hb dX6_go_90 rfl (lv_at hl 2 rfl) ?_
                refine lv_if_eq (tgt := 178) hx hb dX6_go_91 (by decide) (fun _ => ?_) (fun h9 => absurd (by decide) h9)
                refine lv_iload hx hb dX6_go_178 (lv_at hl 0 rfl) ?_
                refine lv_if_eq (tgt := 212) hx hb dX6_go_180 (by decide) (fun h9 => absurd h9 (by decide)) (fun _ => ?_)
                refine lv_iload_n hx hb dX6_go_183 rfl (lv_at hl 2 rfl) ?_
                refine lv_if_ne (tgt := 212) hx hb dX6_go_184 (by decide) (fun h9 => absurd (by decide) h9) (fun _ => ?_)
                refine lv_aload_n hx hb dX6_go_187 rfl (lv_at hl 1 rfl) ?_
                refine lv_iconst (v := 1) hx hb dX6_go_188 (by decide) ?_
                refine g_put (ci := 6) (v := .int 1) (ty := .boolean) (C := RX6) (T := TX6) (N := 51) hx hb hts uB6 tyX6 tyX6_ok nmX6 hown hK hP hD hS (hC.1.1 51 (by decide)) F_m rfl 45 (by decide) wm_147 rfl (by decide +kernel) rfl rfl (by rw [hC.2.2.1]; decide) dX6_go_189 (fun H locs hP hD hS => ?_)
                obtain ⟨fs_176, efs_176⟩ : ∃ z9, z9 = List.set fmva 45 (.int 1) := ⟨_, rfl⟩
                rw [← efs_176] at hP hD
                have hlen_ : fs_176.length = 51 := by rw [efs_176, List.length_set]; exact hC.2.2.1
                have I_may : fs_176[35]? = some (.int (nI mm)) := by rw [efs_176, List.getElem?_set_ne (by decide)]; exact I_may
                have I_spots : fs_176[39]? = some (.int (nI sp)) := by rw [efs_176, List.getElem?_set_ne (by decide)]; exact I_spots
                have I_bestSum : fs_176[43]? = some (.long (lN (sG wn mm tg sp))) := by rw [efs_176, List.getElem?_set_ne (by decide)]; exact I_bestSum
                have I_bestFilled : fs_176[44]? = some (.int (nI (cG mm tg sp))) := by rw [efs_176, List.getElem?_set_ne (by decide)]; exact I_bestFilled
                have I_hasBest : fs_176[45]? = some (.int 1) := by rw [efs_176]; exact List.getElem?_set_self (by rw [hC.2.2.1]; decide)
                have hmr_ : ∀ k ∈ mArr, fs_176[k]? = some (.ref (rt k)) := fun k h => by rw [efs_176, List.getElem?_set_ne (fun q => by rw [← q] at h; exact absurd h (by decide))]; exact hC.2.2.2 k h
                obtain ⟨f_177, ef_177⟩ : ∃ z9, z9 = va_up fva (rt 51) (.inr (6, fs_176)) := ⟨_, rfl⟩
                rw [← ef_177] at hP hD
                have F_next : f_177 (rt 48) = .inl (K 0, 5, .inl gn) := by rw [ef_177, va_up_ne _ _ (fun q => absurd (hC.1.2 48 (by decide) 51 (by decide) q) (by decide))]; exact F_next
                have F_at : f_177 (rt 40) = .inl (K 0, 5, .inl ga) := by rw [ef_177, va_up_ne _ _ (fun q => absurd (hC.1.2 40 (by decide) 51 (by decide) q) (by decide))]; exact F_at
                have F_filledTo : f_177 (rt 42) = .inl (K 0, 5, .inl gf) := by rw [ef_177, va_up_ne _ _ (fun q => absurd (hC.1.2 42 (by decide) 51 (by decide) q) (by decide))]; exact F_filledTo
                have F_upTo : f_177 (rt 41) = .inl (K 1, 5, .inr (.inl gu)) := by rw [ef_177, va_up_ne _ _ (fun q => absurd (hC.1.2 41 (by decide) 51 (by decide) q) (by decide))]; exact F_upTo
                have F_m : f_177 (rt 51) = .inr (6, fs_176) := by rw [ef_177, va_up_self]
                have hSm : gSm rt [40, 41, 42, 48, 51] f_6 f_177 := by rw [ef_177]; exact hSm.up (by decide) _
                have hC : mC rt L f_177 fs_176 := ⟨hC.1, F_m, hlen_, hmr_⟩
                have hFs : fmS [43, 44, 45] fm fs_176 := by rw [efs_176]; exact hFs.st (by decide) _
                refine lv_aload_n hx hb dX6_go_192 rfl (lv_at hl 1 rfl) ?_
                refine lv_aload_n hx hb dX6_go_193 rfl (lv_at hl 1 rfl) ?_
                refine g_get (ci := 6) (v := .ref (rt 41)) (C := RX6) (T := TX6) (N := 51) hx hb hts uB6 hown hK hP (hC.1.1 51 (by decide)) F_m rfl 41 (by decide) wm_141 (hC.2.2.2 41 (by decide)) dX6_go_194 ?_
                refine lv_iload_n hx hb dX6_go_197 rfl (lv_at hl 4 rfl) ?_
                refine g_lald hx hb hK hP (hC.1.1 41 (by decide)) F_upTo (vp_in_nI (by omega) (by decide)) dX6_go_198 ?_
                refine lv_topl (fun x_178 ex_178 => ?_)
                rw [nI_clamp (by omega)] at ex_178
                obtain rfl : x_178 = lN (sG wn mm av dp) := ex_178.trans (hpt.2.2.1 dp (Nat.le_refl _))
                refine g_put (ci := 6) (v := .long (lN (sG wn mm av dp))) (ty := .long) (C := RX6) (T := TX6) (N := 51) hx hb hts uB6 tyX6 tyX6_ok nmX6 hown hK hP hD hS (hC.1.1 51 (by decide)) F_m rfl 43 (by decide) wm_148 rfl (by decide +kernel) rfl rfl (by rw [hC.2.2.1]; decide) dX6_go_199 (fun H locs hP hD hS => ?_)
                obtain ⟨fs_179, efs_179⟩ : ∃ z9, z9 = List.set fs_176 43 (.long (lN (sG wn mm av dp))) := ⟨_, rfl⟩
                rw [← efs_179] at hP hD
                have hlen_ : fs_179.length = 51 := by rw [efs_179, List.length_set]; exact hC.2.2.1
                have I_may : fs_179[35]? = some (.int (nI mm)) := by rw [efs_179, List.getElem?_set_ne (by decide)]; exact I_may
                have I_spots : fs_179[39]? = some (.int (nI sp)) := by rw [efs_179, List.getElem?_set_ne (by decide)]; exact I_spots
                have I_hasBest : fs_179[45]? = some (.int 1) := by rw [efs_179, List.getElem?_set_ne (by decide)]; exact I_hasBest
                have I_bestFilled : fs_179[44]? = some (.int (nI (cG mm tg sp))) := by rw [efs_179, List.getElem?_set_ne (by decide)]; exact I_bestFilled
                have I_bestSum : fs_179[43]? = some (.long (lN (sG wn mm av dp))) := by rw [efs_179]; exact List.getElem?_set_self (by rw [hC.2.2.1]; decide)
                have hmr_ : ∀ k ∈ mArr, fs_179[k]? = some (.ref (rt k)) := fun k h => by rw [efs_179, List.getElem?_set_ne (fun q => by rw [← q] at h; exact absurd h (by decide))]; exact hC.2.2.2 k h
                obtain ⟨f_180, ef_180⟩ : ∃ z9, z9 = va_up f_177 (rt 51) (.inr (6, fs_179)) := ⟨_, rfl⟩
                rw [← ef_180] at hP hD
                have F_next : f_180 (rt 48) = .inl (K 0, 5, .inl gn) := by rw [ef_180, va_up_ne _ _ (fun q => absurd (hC.1.2 48 (by decide) 51 (by decide) q) (by decide))]; exact F_next
                have F_at : f_180 (rt 40) = .inl (K 0, 5, .inl ga) := by rw [ef_180, va_up_ne _ _ (fun q => absurd (hC.1.2 40 (by decide) 51 (by decide) q) (by decide))]; exact F_at
                have F_filledTo : f_180 (rt 42) = .inl (K 0, 5, .inl gf) := by rw [ef_180, va_up_ne _ _ (fun q => absurd (hC.1.2 42 (by decide) 51 (by decide) q) (by decide))]; exact F_filledTo
                have F_upTo : f_180 (rt 41) = .inl (K 1, 5, .inr (.inl gu)) := by rw [ef_180, va_up_ne _ _ (fun q => absurd (hC.1.2 41 (by decide) 51 (by decide) q) (by decide))]; exact F_upTo
                have F_m : f_180 (rt 51) = .inr (6, fs_179) := by rw [ef_180, va_up_self]
                have hSm : gSm rt [40, 41, 42, 48, 51] f_6 f_180 := by rw [ef_180]; exact hSm.up (by decide) _
                have hC : mC rt L f_180 fs_179 := ⟨hC.1, F_m, hlen_, hmr_⟩
                have hFs : fmS [43, 44, 45] fm fs_179 := by rw [efs_179]; exact hFs.st (by decide) _
                refine lv_aload_n hx hb dX6_go_202 rfl (lv_at hl 1 rfl) ?_
                refine lv_aload_n hx hb dX6_go_203 rfl (lv_at hl 1 rfl) ?_
                refine g_get (ci := 6) (v := .ref (rt 42)) (C := RX6) (T := TX6) (N := 51) hx hb hts uB6 hown hK hP (hC.1.1 51 (by decide)) F_m rfl 42 (by decide) wm_142 (hC.2.2.2 42 (by decide)) dX6_go_204 ?_
                refine lv_iload_n hx hb dX6_go_207 rfl (lv_at hl 4 rfl) ?_
                refine g_iald hx hb hK hP (hC.1.1 42 (by decide)) F_filledTo (vp_in_nI (by omega) (by decide)) dX6_go_208 ?_
                refine lv_topi (fun x_181 ex_181 => ?_)
                rw [nI_clamp (by omega)] at ex_181
                obtain rfl : x_181 = nI (cG mm av dp) := ex_181.trans (hpt.2.2.2.1 dp (Nat.le_refl _))
                refine g_put (ci := 6) (v := .int (nI (cG mm av dp))) (ty := .int) (C := RX6) (T := TX6) (N := 51) hx hb hts uB6 tyX6 tyX6_ok nmX6 hown hK hP hD hS (hC.1.1 51 (by decide)) F_m rfl 44 (by decide) wm_149 rfl (by decide +kernel) rfl rfl (by rw [hC.2.2.1]; decide) dX6_go_209 (fun H locs hP hD hS => ?_)
                obtain ⟨fs_182, efs_182⟩ : ∃ z9, z9 = List.set fs_179 44 (.int (nI (cG mm av dp))) := ⟨_, rfl⟩
                rw [← efs_182] at hP hD
                have hlen_ : fs_182.length = 51 := by rw [efs_182, List.length_set]; exact hC.2.2.1
                have I_may : fs_182[35]? = some (.int (nI mm)) := by rw [efs_182, List.getElem?_set_ne (by decide)]; exact I_may
                have I_spots : fs_182[39]? = some (.int (nI sp)) := by rw [efs_182, List.getElem?_set_ne (by decide)]; exact I_spots
                have I_hasBest : fs_182[45]? = some (.int 1) := by rw [efs_182, List.getElem?_set_ne (by decide)]; exact I_hasBest
                have I_bestSum : fs_182[43]? = some (.long (lN (sG wn mm av dp))) := by rw [efs_182, List.getElem?_set_ne (by decide)]; exact I_bestSum
                have I_bestFilled : fs_182[44]? = some (.int (nI (cG mm av dp))) := by rw [efs_182]; exact List.getElem?_set_self (by rw [hC.2.2.1]; decide)
                have hmr_ : ∀ k ∈ mArr, fs_182[k]? = some (.ref (rt k)) := fun k h => by rw [efs_182, List.getElem?_set_ne (fun q => by rw [← q] at h; exact absurd h (by decide))]; exact hC.2.2.2 k h
                obtain ⟨f_183, ef_183⟩ : ∃ z9, z9 = va_up f_180 (rt 51) (.inr (6, fs_182)) := ⟨_, rfl⟩
                rw [← ef_183] at hP hD
                have F_next : f_183 (rt 48) = .inl (K 0, 5, .inl gn) := by rw [ef_183, va_up_ne _ _ (fun q => absurd (hC.1.2 48 (by decide) 51 (by decide) q) (by decide))]; exact F_next
                have F_at : f_183 (rt 40) = .inl (K 0, 5, .inl ga) := by rw [ef_183, va_up_ne _ _ (fun q => absurd (hC.1.2 40 (by decide) 51 (by decide) q) (by decide))]; exact F_at
                have F_filledTo : f_183 (rt 42) = .inl (K 0, 5, .inl gf) := by rw [ef_183, va_up_ne _ _ (fun q => absurd (hC.1.2 42 (by decide) 51 (by decide) q) (by decide))]; exact F_filledTo
                have F_upTo : f_183 (rt 41) = .inl (K 1, 5, .inr (.inl gu)) := by rw [ef_183, va_up_ne _ _ (fun q => absurd (hC.1.2 41 (by decide) 51 (by decide) q) (by decide))]; exact F_upTo
                have F_m : f_183 (rt 51) = .inr (6, fs_182) := by rw [ef_183, va_up_self]
                have hSm : gSm rt [40, 41, 42, 48, 51] f_6 f_183 := by rw [ef_183]; exact hSm.up (by decide) _
                have hC : mC rt L f_183 fs_182 := ⟨hC.1, F_m, hlen_, hmr_⟩
                have hFs : fmS [43, 44, 45] fm fs_182 := by rw [efs_182]; exact hFs.st (by decide) _
                have hd1 : 1 ≤ dp := by omega
                obtain ⟨x_184, ex_184⟩ : ∃ y : Int32, y = (nI dp) + (-1) := ⟨_, rfl⟩
                refine lv_iinc (v := x_184) (lv' := [(3, .int x_184), (4, .int 1), (0, .ref (rt 51)), (1, .int 0), (2, .int wo)]) hx hb dX6_go_212 hl (k := 4) rfl (by rw [ex_184]; rfl) (by decide) rfl (fun ls hl => ?_)
                obtain rfl : x_184 = nI (dp - 1) := ex_184.trans (by rw [← Int32.sub_eq_add_neg]; exact pk_sub (a := dp) (b := 1) hd1)
                refine lv_goto (tgt := 23) hx hb dX6_go_215 (by decide) ?_
                exact iha _ (by rw [← hmua]; exact muG_pop (by omega)) _ _ _ ⟨f_183, fs_182, _, _, _, _, (dp - 1), av, nx, _, _, _, rfl, hSm, hFs, hC, F_next, F_at, F_filledTo, F_upTo, I_hasBest, I_bestSum, I_bestFilled, by omega, hpt.pop (by omega), (Or.inr ⟨rfl, av, by rw [hds], by rw [hds], gvOk_cg (fun k hk => rfl) (show gvOk g_mayBe g_apart mm wo av sp by have h9 := hpt.2.1; rw [show dp = sp by omega] at h9; exact h9)⟩), hP, hS, lv_sub hl [2, 3, 4, 0] rfl⟩
