set_option maxHeartbeats 4000000 in
set_option maxRecDepth 100000 in
theorem um_goT (l : Launch) (dC : Nat → ClassId) (dI : Nat → Nat → Nat) (K : Nat → ClassId) (L : List Nat) (f : Nat → va_E) (rt : Nat → Nat) {fm : List Value} (hC : mC rt L f fm) {g_next : Nat → Int32} (F_next : f (rt 48) = .inl (K 0, 5, .inl g_next)) {g_upTo : Nat → Int64} (F_upTo : f (rt 41) = .inl (K 1, 5, .inr (.inl g_upTo))) {g_filledTo : Nat → Int32} (F_filledTo : f (rt 42) = .inl (K 0, 5, .inl g_filledTo)) {g_at : Nat → Int32} (F_at : f (rt 40) = .inl (K 0, 5, .inl g_at)) {g_worth : Nat → Int64} (F_worth : f (rt 37) = .inl (K 1, 160, .inr (.inl g_worth))) {g_mostAt : Nat → Int64} (F_mostAt : f (rt 38) = .inl (K 1, 5, .inr (.inl g_mostAt))) {g_mayBe : Nat → Int32} (F_mayBe : f (rt 36) = .inl (K 0, 40, .inl g_mayBe)) {g_apart : Nat → Int32} (F_apart : f (rt 21) = .inl (K 2, 1600, .inl g_apart)) {g_given : Nat → Int32} (F_given : f (rt 46) = .inl (K 0, 4, .inl g_given)) {mm sp bs bf : Nat} {wn : Nat → Nat → Nat} {ma tg : Nat → Nat} (I_may : fm[35]? = some (.int (nI mm))) (I_spots : fm[39]? = some (.int (nI sp))) (I_hasBest : fm[45]? = some (.int 1)) (I_bestSum : fm[43]? = some (.long (lN bs))) (I_bestFilled : fm[44]? = some (.int (nI bf))) (wo : Int32) (hmm : mm ≤ 40) (hsp1 : 1 ≤ sp) (hsp : sp ≤ 4) (hw : ∀ i k, i < mm → k < sp → g_worth (4 * i + k) = lN (wn i k) ∧ wn i k ≤ 1272270000000) (hma : ∀ k, k ≤ sp → g_mostAt k = lN (ma k) ∧ ma k ≤ 4 * 1272270000000) (hmb : ∀ k, k < mm → vp_in (g_mayBe k) 40) (hmd : ∀ k, k < sp → ma (k + 1) ≤ ma k ∧ ∀ i, i < mm → ma (k + 1) + wn i k ≤ ma k) (htg : gvOk g_mayBe g_apart mm wo tg sp) (hbs : bs = sG wn mm tg sp) (hbf : bf = cG mm tg sp) (hLn : gN L) : gMv l yX6_go cX6_go 13 1 (dC, dI) K L f [.ref (rt 51), .int 1, .int wo] (fun f' => ∃ (gn ga gf gg : Nat → Int32) (gu : Nat → Int64), gSm rt [40, 41, 42, 46, 48] f f' ∧ f' (rt 48) = .inl (K 0, 5, .inl gn) ∧ f' (rt 40) = .inl (K 0, 5, .inl ga) ∧ f' (rt 42) = .inl (K 0, 5, .inl gf) ∧ f' (rt 46) = .inl (K 0, 4, .inl gg) ∧ f' (rt 41) = .inl (K 1, 5, .inr (.inl gu)) ∧ (∀ k, k < sp → gg k = (-2) ∨ ∃ i : Nat, i < mm ∧ gg k = g_mayBe i)) := by
  refine Met.ofW (cc := cX6_go) (maxL := 13) (ret := none) (by decide) rfl ?_
  intro p e s m args below meth c s₁ B hml hv
  obtain ⟨rfl, hP, hK⟩ := hv
  have F_m := hC.2.1
  have hD : va_D (fun q : Nat => q ∈ L) (va_pl L f) := g_D hLn (fun a h => h) f
  generalize hAe : (fun q : Nat => q ∈ L) = A at hD ⊢
  have hx := B.exec
  have hb := B.bytes
  have hr := B.returns
  have hlocks := B.notSynchronized
  have hts0 := atoms_spec (ws := Cond.code yX6_go cX6_go 13 none :: lw_B) B.pre
  have hts : ∀ w ∈ lw_B, w.before _ s = true := fun w h => hts0 w (List.mem_cons_of_mem _ h)
  have hown : s.vm.findClass RX6 = some m.cls := findClass_of_methodNamed B.named
  have hS : va_S A s.heap s.heap [] := va_S.rf
  have hl := lv_entry ([.ref (rt 51), .int 1, .int wo]) (n := 13) (Nat.le_of_ble_eq_true rfl)
  rw [lg_entry_eq]
  generalize (lg_sl ([.ref (rt 51), .int 1, .int wo]) ++ List.replicate (13 - (lg_sl ([.ref (rt 51), .int 1, .int wo])).length) Slot.unset).toArray = ls at hl ⊢
  have hl : lv_has ls 13 [(0, .ref (rt 51)), (1, .int 1), (2, .int wo)] := hl
  have hSm : gSm rt [40, 41, 42, 46, 48] f f := gSm.rf
  have hFs : fmS [] fm fm := fmS.rf
  have hwB : ∀ i k, i < mm → k < sp → wn i k ≤ 1272270000000 := fun i k h1 h2 => (hw i k h1 h2).2
  refine lv_iconst (v := 0) hx hb dX6_go_0 (by decide) ?_
  refine lv_istore_n (lv' := [(3, .int 0), (0, .ref (rt 51)), (1, .int 1), (2, .int wo)]) hx hb dX6_go_1 rfl hl (by decide) rfl (fun ls hl => ?_)
  refine lv_aload_n hx hb dX6_go_2 rfl (lv_at hl 1 rfl) ?_
  refine g_get (ci := 6) (v := .ref (rt 48)) (C := RX6) (T := TX6) (N := 51) hx hb hts uB6 hown hK hP (hC.1.1 51 (by decide)) F_m rfl 48 (by decide) wm_140 (hC.2.2.2 48 (by decide)) dX6_go_3 ?_
  refine lv_iconst (v := 0) hx hb dX6_go_6 (by decide) ?_
  refine lv_iconst (v := 0) hx hb dX6_go_7 (by decide) ?_
  refine g_iast hx hb hK hP hD hS (hC.1.1 48 (by decide)) F_next (vp_in_iff.mpr (by decide)) dX6_go_8 (fun H locs hP hD hS => ?_)
  obtain ⟨g_1, eg_1⟩ : ∃ z9, z9 = upd g_next (Int32.toNatClampNeg 0) 0 := ⟨_, rfl⟩
  rw [← eg_1] at hP hD
  obtain ⟨f_2, ef_2⟩ : ∃ z9, z9 = va_up f (rt 48) (.inl (K 0, 5, .inl g_1)) := ⟨_, rfl⟩
  rw [← ef_2] at hP hD
  have F_m : f_2 (rt 51) = .inr (6, fm) := by rw [ef_2, va_up_ne _ _ (fun q => absurd (hC.1.2 51 (by decide) 48 (by decide) q) (by decide))]; exact F_m
  have F_upTo : f_2 (rt 41) = .inl (K 1, 5, .inr (.inl g_upTo)) := by rw [ef_2, va_up_ne _ _ (fun q => absurd (hC.1.2 41 (by decide) 48 (by decide) q) (by decide))]; exact F_upTo
  have F_filledTo : f_2 (rt 42) = .inl (K 0, 5, .inl g_filledTo) := by rw [ef_2, va_up_ne _ _ (fun q => absurd (hC.1.2 42 (by decide) 48 (by decide) q) (by decide))]; exact F_filledTo
  have F_at : f_2 (rt 40) = .inl (K 0, 5, .inl g_at) := by rw [ef_2, va_up_ne _ _ (fun q => absurd (hC.1.2 40 (by decide) 48 (by decide) q) (by decide))]; exact F_at
  have F_given : f_2 (rt 46) = .inl (K 0, 4, .inl g_given) := by rw [ef_2, va_up_ne _ _ (fun q => absurd (hC.1.2 46 (by decide) 48 (by decide) q) (by decide))]; exact F_given
  have F_next : f_2 (rt 48) = .inl (K 0, 5, .inl g_1) := by rw [ef_2, va_up_self]
  have hC : mC rt L f_2 fm := ⟨hC.1, F_m, hC.2.2.1, hC.2.2.2⟩
  have hSm : gSm rt [40, 41, 42, 46, 48] f f_2 := by rw [ef_2]; exact hSm.up (by decide) _
  rw [show Int32.toNatClampNeg 0 = 0 from rfl] at eg_1
  refine lv_aload_n hx hb dX6_go_9 rfl (lv_at hl 1 rfl) ?_
  refine g_get (ci := 6) (v := .ref (rt 41)) (C := RX6) (T := TX6) (N := 51) hx hb hts uB6 hown hK hP (hC.1.1 51 (by decide)) F_m rfl 41 (by decide) wm_141 (hC.2.2.2 41 (by decide)) dX6_go_10 ?_
  refine lv_iconst (v := 0) hx hb dX6_go_13 (by decide) ?_
  refine lv_lconst (v := 0) hx hb dX6_go_14 rfl ?_
  refine g_last hx hb hK hP hD hS (hC.1.1 41 (by decide)) F_upTo (vp_in_iff.mpr (by decide)) dX6_go_15 (fun H locs hP hD hS => ?_)
  obtain ⟨g_3, eg_3⟩ : ∃ z9, z9 = vp_updL g_upTo (Int32.toNatClampNeg 0) 0 := ⟨_, rfl⟩
  rw [← eg_3] at hP hD
  obtain ⟨f_4, ef_4⟩ : ∃ z9, z9 = va_up f_2 (rt 41) (.inl (K 1, 5, .inr (.inl g_3))) := ⟨_, rfl⟩
  rw [← ef_4] at hP hD
  have F_m : f_4 (rt 51) = .inr (6, fm) := by rw [ef_4, va_up_ne _ _ (fun q => absurd (hC.1.2 51 (by decide) 41 (by decide) q) (by decide))]; exact F_m
  have F_next : f_4 (rt 48) = .inl (K 0, 5, .inl g_1) := by rw [ef_4, va_up_ne _ _ (fun q => absurd (hC.1.2 48 (by decide) 41 (by decide) q) (by decide))]; exact F_next
  have F_filledTo : f_4 (rt 42) = .inl (K 0, 5, .inl g_filledTo) := by rw [ef_4, va_up_ne _ _ (fun q => absurd (hC.1.2 42 (by decide) 41 (by decide) q) (by decide))]; exact F_filledTo
  have F_at : f_4 (rt 40) = .inl (K 0, 5, .inl g_at) := by rw [ef_4, va_up_ne _ _ (fun q => absurd (hC.1.2 40 (by decide) 41 (by decide) q) (by decide))]; exact F_at
  have F_given : f_4 (rt 46) = .inl (K 0, 4, .inl g_given) := by rw [ef_4, va_up_ne _ _ (fun q => absurd (hC.1.2 46 (by decide) 41 (by decide) q) (by decide))]; exact F_given
  have F_upTo : f_4 (rt 41) = .inl (K 1, 5, .inr (.inl g_3)) := by rw [ef_4, va_up_self]
  have hC : mC rt L f_4 fm := ⟨hC.1, F_m, hC.2.2.1, hC.2.2.2⟩
  have hSm : gSm rt [40, 41, 42, 46, 48] f f_4 := by rw [ef_4]; exact hSm.up (by decide) _
  rw [show Int32.toNatClampNeg 0 = 0 from rfl] at eg_3
  refine lv_aload_n hx hb dX6_go_16 rfl (lv_at hl 1 rfl) ?_
  refine g_get (ci := 6) (v := .ref (rt 42)) (C := RX6) (T := TX6) (N := 51) hx hb hts uB6 hown hK hP (hC.1.1 51 (by decide)) F_m rfl 42 (by decide) wm_142 (hC.2.2.2 42 (by decide)) dX6_go_17 ?_
  refine lv_iconst (v := 0) hx hb dX6_go_20 (by decide) ?_
  refine lv_iconst (v := 0) hx hb dX6_go_21 (by decide) ?_
  refine g_iast hx hb hK hP hD hS (hC.1.1 42 (by decide)) F_filledTo (vp_in_iff.mpr (by decide)) dX6_go_22 (fun H locs hP hD hS => ?_)
  obtain ⟨g_5, eg_5⟩ : ∃ z9, z9 = upd g_filledTo (Int32.toNatClampNeg 0) 0 := ⟨_, rfl⟩
  rw [← eg_5] at hP hD
  obtain ⟨f_6, ef_6⟩ : ∃ z9, z9 = va_up f_4 (rt 42) (.inl (K 0, 5, .inl g_5)) := ⟨_, rfl⟩
  rw [← ef_6] at hP hD
  have F_m : f_6 (rt 51) = .inr (6, fm) := by rw [ef_6, va_up_ne _ _ (fun q => absurd (hC.1.2 51 (by decide) 42 (by decide) q) (by decide))]; exact F_m
  have F_next : f_6 (rt 48) = .inl (K 0, 5, .inl g_1) := by rw [ef_6, va_up_ne _ _ (fun q => absurd (hC.1.2 48 (by decide) 42 (by decide) q) (by decide))]; exact F_next
  have F_upTo : f_6 (rt 41) = .inl (K 1, 5, .inr (.inl g_3)) := by rw [ef_6, va_up_ne _ _ (fun q => absurd (hC.1.2 41 (by decide) 42 (by decide) q) (by decide))]; exact F_upTo
  have F_at : f_6 (rt 40) = .inl (K 0, 5, .inl g_at) := by rw [ef_6, va_up_ne _ _ (fun q => absurd (hC.1.2 40 (by decide) 42 (by decide) q) (by decide))]; exact F_at
  have F_given : f_6 (rt 46) = .inl (K 0, 4, .inl g_given) := by rw [ef_6, va_up_ne _ _ (fun q => absurd (hC.1.2 46 (by decide) 42 (by decide) q) (by decide))]; exact F_given
  have F_filledTo : f_6 (rt 42) = .inl (K 0, 5, .inl g_5) := by rw [ef_6, va_up_self]
  have hC : mC rt L f_6 fm := ⟨hC.1, F_m, hC.2.2.1, hC.2.2.2⟩
  have hSm : gSm rt [40, 41, 42, 46, 48] f f_6 := by rw [ef_6]; exact hSm.up (by decide) _
  rw [show Int32.toNatClampNeg 0 = 0 from rfl] at eg_5
  have hp0 : pth wn g_mayBe g_apart mm wo g_at g_1 g_5 g_3 (fun _ => 0) (fun _ => 0) 0 := by
    refine ⟨fun k hk => absurd hk (Nat.not_lt_zero k), fun k hk => absurd hk (Nat.not_lt_zero k), fun k hk => ?_, fun k hk => ?_, fun k hk => ?_⟩
    · rw [show k = 0 by omega, eg_3, pk_uLs]; rfl
    · rw [show k = 0 by omega, eg_5, pk_us]; rfl
    · rw [show k = 0 by omega, eg_1, pk_us]; exact ⟨rfl, Nat.zero_le _⟩
  have hSma := hSm
  have hFsa := hFs
  refine k_lx (pcx := 494) (fun n H locs ls => ∃ (fva : Nat → va_E) (fmva : List Value) (gn : Nat → Int32) (ga : Nat → Int32) (gf : Nat → Int32) (gu : Nat → Int64) (gg0 : Nat → Int32) (dp : Nat) (av : Nat → Nat) (nx : Nat → Nat), muG mm nx dp = n ∧ gSm rt [40, 41, 42, 46, 48] f_6 fva ∧ fmS [] fm fmva ∧ mC rt L fva fmva ∧ fva (rt 48) = .inl (K 0, 5, .inl gn) ∧ fva (rt 40) = .inl (K 0, 5, .inl ga) ∧ fva (rt 42) = .inl (K 0, 5, .inl gf) ∧ fva (rt 41) = .inl (K 1, 5, .inr (.inl gu)) ∧ fva (rt 46) = .inl (K 0, 4, .inl gg0) ∧ (dp ≤ sp) ∧ (pth wn g_mayBe g_apart mm wo ga gn gf gu av nx dp) ∧ (ahd sp tg av nx dp) ∧ va_P (dC, dI) vwCl (va_pl L fva) H ∧ va_S A s.heap H locs ∧ lv_has ls 13 [(0, .ref (rt 51)), (1, .int 1), (2, .int wo), (3, .int (nI dp))]) (fun H locs ls => ∃ (fva : Nat → va_E) (fmva : List Value) (gn : Nat → Int32) (ga : Nat → Int32) (gf : Nat → Int32) (gu : Nat → Int64) (gg0 : Nat → Int32) (dp : Nat) (av : Nat → Nat) (nx : Nat → Nat), gSm rt [40, 41, 42, 46, 48] f_6 fva ∧ fmS [] fm fmva ∧ mC rt L fva fmva ∧ fva (rt 48) = .inl (K 0, 5, .inl gn) ∧ fva (rt 40) = .inl (K 0, 5, .inl ga) ∧ fva (rt 42) = .inl (K 0, 5, .inl gf) ∧ fva (rt 41) = .inl (K 1, 5, .inr (.inl gu)) ∧ fva (rt 46) = .inl (K 0, 4, .inl gg0) ∧ (False) ∧ va_P (dC, dI) vwCl (va_pl L fva) H ∧ va_S A s.heap H locs ∧ lv_has ls 13 [(0, .ref (rt 51)), (1, .int 1), (2, .int wo), (3, .int (nI dp))]) (fun H locs ls hI => ?_) (fun n H locs ls hI hEa iha => ?_) _ _ _ _ ⟨f_6, fm, _, _, _, _, _, 0, (fun _ => 0), (fun _ => 0), rfl, gSm.rf, fmS.rf, hC, F_next, F_at, F_filledTo, F_upTo, F_given, Nat.zero_le _, hp0, ⟨0, Nat.le_refl _, fun k hk => absurd hk (Nat.not_lt_zero k), fun _ => Nat.zero_le _⟩, hP, hS, lv_sub hl [1, 2, 3, 0] rfl⟩
  · skip
    obtain ⟨fva, fmva, gn, ga, gf, gu, gg0, dp, av, nx, hSm, hFs, hC, NF_next, NF_at, NF_filledTo, NF_upTo, NF_given, hfalse, hP, hS, hl⟩ := hI
    have F_next := NF_next
    have F_at := NF_at
    have F_filledTo := NF_filledTo
    have F_upTo := NF_upTo
    have F_given := NF_given
    have F_m : fva (rt 51) = .inr (6, fmva) := hC.2.1
    have I_may : fmva[35]? = some (.int (nI mm)) := (hFs.2 35 (by decide)).trans I_may
    have I_spots : fmva[39]? = some (.int (nI sp)) := (hFs.2 39 (by decide)).trans I_spots
    have I_hasBest : fmva[45]? = some (.int 1) := (hFs.2 45 (by decide)).trans I_hasBest
    have I_bestSum : fmva[43]? = some (.long (lN bs)) := (hFs.2 43 (by decide)).trans I_bestSum
    have I_bestFilled : fmva[44]? = some (.int (nI bf)) := (hFs.2 44 (by decide)).trans I_bestFilled
    have hD : va_D A (va_pl L fva) := g_D hLn (fun a h => by rw [← hAe]; exact h) fva
    have hSmLa := hSm
    have hSm : gSm rt [40, 41, 42, 46, 48] f fva := hSma.tr hSm (by decide) (by decide)
    have hFs : fmS [] fm fmva := hFsa.tr hFs (by decide) (by decide)
    exact hfalse.elim
  · skip
    obtain ⟨fva, fmva, gn, ga, gf, gu, gg0, dp, av, nx, hmua, hSm, hFs, hC, NF_next, NF_at, NF_filledTo, NF_upTo, NF_given, hdp, hpt, hah, hP, hS, hl⟩ := hI
    have F_next := NF_next
    have F_at := NF_at
    have F_filledTo := NF_filledTo
    have F_upTo := NF_upTo
    have F_given := NF_given
    have F_m : fva (rt 51) = .inr (6, fmva) := hC.2.1
    have I_may : fmva[35]? = some (.int (nI mm)) := (hFs.2 35 (by decide)).trans I_may
    have I_spots : fmva[39]? = some (.int (nI sp)) := (hFs.2 39 (by decide)).trans I_spots
    have I_hasBest : fmva[45]? = some (.int 1) := (hFs.2 45 (by decide)).trans I_hasBest
    have I_bestSum : fmva[43]? = some (.long (lN bs)) := (hFs.2 43 (by decide)).trans I_bestSum
    have I_bestFilled : fmva[44]? = some (.int (nI bf)) := (hFs.2 44 (by decide)).trans I_bestFilled
    have hD : va_D A (va_pl L fva) := g_D hLn (fun a h => by rw [← hAe]; exact h) fva
    have hsB : ∀ d, d ≤ sp → sG wn mm av d ≤ d * 1272270000000 := fun d hd => sG_le hwB d hd
    have hcB : cG mm av dp ≤ dp := cG_le dp
    have hsD := hsB dp hdp
    have hsD4 : sG wn mm av dp ≤ 4 * 1272270000000 := Nat.le_trans hsD (Nat.mul_le_mul_right _ (by omega))
    clear hsD
    have htB : sG wn mm tg sp ≤ 4 * 1272270000000 := Nat.le_trans (sG_le hwB sp (Nat.le_refl _)) (Nat.mul_le_mul_right _ hsp)
    have htC : cG mm tg sp ≤ sp := cG_le sp
    refine lv_iload_n hx hb dX6_go_23 rfl (lv_at hl 3 rfl) ?_
    refine lv_if_lt (tgt := 494) hx hb dX6_go_24 (by decide) (fun c_7 => ?_) (fun c_7 => ?_)
    · skip
      have nc_7 : dp < 0 := (bn_lt (a := dp) (b := 0) (by omega) (by omega)).mp (show nI dp < nI 0 from c_7)
      exact (show False by omega).elim
    · skip
      have nc_7 : ¬ (dp < 0) := fun q => c_7 (show nI dp < nI 0 from (bn_lt (a := dp) (b := 0) (by omega) (by omega)).mpr q)
      refine lv_iload_n hx hb dX6_go_27 rfl (lv_at hl 3 rfl) ?_
      refine lv_aload_n hx hb dX6_go_28 rfl (lv_at hl 0 rfl) ?_
      refine g_get (ci := 6) (v := .int (nI sp)) (C := RX6) (T := TX6) (N := 51) hx hb hts uB6 hown hK hP (hC.1.1 51 (by decide)) F_m rfl 39 (by decide) wm_131 I_spots dX6_go_29 ?_
      refine lv_icmp_ne (tgt := 218) hx hb dX6_go_32 (by decide) (fun c_8 => ?_) (fun c_8 => ?_)
      · skip
        have nc_8 : ¬ (dp = sp) := fun q => c_8 (show nI dp = nI sp from (bn_eq (a := dp) (b := sp) (by omega) (by omega)).mpr q)
        have hds : dp < sp := by omega
        refine lv_aload_n hx hb dX6_go_218 rfl (lv_at hl 0 rfl) ?_
        refine g_get (ci := 6) (v := .ref (rt 48)) (C := RX6) (T := TX6) (N := 51) hx hb hts uB6 hown hK hP (hC.1.1 51 (by decide)) F_m rfl 48 (by decide) wm_140 (hC.2.2.2 48 (by decide)) dX6_go_219 ?_
        refine lv_iload_n hx hb dX6_go_222 rfl (lv_at hl 3 rfl) ?_
        refine g_iald hx hb hK hP (hC.1.1 48 (by decide)) F_next (vp_in_nI (by omega) (by decide)) dX6_go_223 ?_
        refine lv_topi (fun x_9 ex_9 => ?_)
        rw [nI_clamp (by omega)] at ex_9
        obtain rfl : x_9 = nI (nx dp) := ex_9.trans (hpt.2.2.2.2 dp (Nat.le_refl _)).1
        have hnxm := (hpt.2.2.2.2 dp (Nat.le_refl _)).2
        refine lv_istore (lv' := [(4, .int (nI (nx dp))), (0, .ref (rt 51)), (1, .int 1), (2, .int wo), (3, .int (nI dp))]) hx hb dX6_go_224 hl (by decide) rfl (fun ls hl => ?_)
        refine lv_iload hx hb dX6_go_226 (lv_at hl 0 rfl) ?_
        refine lv_aload_n hx hb dX6_go_228 rfl (lv_at hl 1 rfl) ?_
        refine g_get (ci := 6) (v := .int (nI mm)) (C := RX6) (T := TX6) (N := 51) hx hb hts uB6 hown hK hP (hC.1.1 51 (by decide)) F_m rfl 35 (by decide) wm_63 I_may dX6_go_229 ?_
        refine lv_icmp_le (tgt := 241) hx hb dX6_go_232 (by decide) (fun c_10 => ?_) (fun c_10 => ?_)
        · skip
          have nc_10 : (nx dp) ≤ mm := (bn_le (a := (nx dp)) (b := mm) (by omega) (by omega)).mp (show nI (nx dp) ≤ nI mm from c_10)
          refine lv_aload_n hx hb dX6_go_241 rfl (lv_at hl 1 rfl) ?_
          refine g_get (ci := 6) (v := .ref (rt 48)) (C := RX6) (T := TX6) (N := 51) hx hb hts uB6 hown hK hP (hC.1.1 51 (by decide)) F_m rfl 48 (by decide) wm_140 (hC.2.2.2 48 (by decide)) dX6_go_242 ?_
          refine lv_iload_n hx hb dX6_go_245 rfl (lv_at hl 4 rfl) ?_
          refine lv_dup2_11 hx hb dX6_go_246 rfl rfl ?_
          refine g_iald hx hb hK hP (hC.1.1 48 (by decide)) F_next (vp_in_nI (by omega) (by decide)) dX6_go_247 ?_
          refine lv_topi (fun x_11 ex_11 => ?_)
          rw [nI_clamp (by omega)] at ex_11
          obtain rfl : x_11 = nI (nx dp) := ex_11.trans (hpt.2.2.2.2 dp (Nat.le_refl _)).1
          refine lv_iconst (v := 1) hx hb dX6_go_248 (by decide) ?_
          refine lv_iadd hx hb dX6_go_249 ?_
          refine lv_topi (fun x_12 ex_12 => ?_)
          obtain rfl : x_12 = nI ((nx dp) + 1) := ex_12.trans (nI_add (nx dp) 1)
          refine g_iast hx hb hK hP hD hS (hC.1.1 48 (by decide)) F_next (vp_in_nI (by omega) (by decide)) dX6_go_250 (fun H locs hP hD hS => ?_)
          obtain ⟨g_13, eg_13⟩ : ∃ z9, z9 = upd gn (Int32.toNatClampNeg (nI dp)) (nI ((nx dp) + 1)) := ⟨_, rfl⟩
          rw [← eg_13] at hP hD
          obtain ⟨f_14, ef_14⟩ : ∃ z9, z9 = va_up fva (rt 48) (.inl (K 0, 5, .inl g_13)) := ⟨_, rfl⟩
          rw [← ef_14] at hP hD
          have F_at : f_14 (rt 40) = .inl (K 0, 5, .inl ga) := by rw [ef_14, va_up_ne _ _ (fun q => absurd (hC.1.2 40 (by decide) 48 (by decide) q) (by decide))]; exact F_at
          have F_filledTo : f_14 (rt 42) = .inl (K 0, 5, .inl gf) := by rw [ef_14, va_up_ne _ _ (fun q => absurd (hC.1.2 42 (by decide) 48 (by decide) q) (by decide))]; exact F_filledTo
          have F_upTo : f_14 (rt 41) = .inl (K 1, 5, .inr (.inl gu)) := by rw [ef_14, va_up_ne _ _ (fun q => absurd (hC.1.2 41 (by decide) 48 (by decide) q) (by decide))]; exact F_upTo
          have F_given : f_14 (rt 46) = .inl (K 0, 4, .inl gg0) := by rw [ef_14, va_up_ne _ _ (fun q => absurd (hC.1.2 46 (by decide) 48 (by decide) q) (by decide))]; exact F_given
          have F_m : f_14 (rt 51) = .inr (6, fmva) := by rw [ef_14, va_up_ne _ _ (fun q => absurd (hC.1.2 51 (by decide) 48 (by decide) q) (by decide))]; exact F_m
          have F_next : f_14 (rt 48) = .inl (K 0, 5, .inl g_13) := by rw [ef_14, va_up_self]
          have hC : mC rt L f_14 fmva := ⟨hC.1, F_m, hC.2.2.1, hC.2.2.2⟩
          have hSm : gSm rt [40, 41, 42, 46, 48] f_6 f_14 := by rw [ef_14]; exact hSm.up (by decide) _
          rw [nI_clamp (by omega)] at eg_13
          refine lv_iload hx hb dX6_go_251 (lv_at hl 0 rfl) ?_
          refine lv_aload_n hx hb dX6_go_253 rfl (lv_at hl 1 rfl) ?_
          refine g_get (ci := 6) (v := .int (nI mm)) (C := RX6) (T := TX6) (N := 51) hx hb hts uB6 hown hK hP (hC.1.1 51 (by decide)) F_m rfl 35 (by decide) wm_63 I_may dX6_go_254 ?_
          refine lv_icmp_ne (tgt := 267) hx hb dX6_go_257 (by decide) (fun c_15 => ?_) (fun c_15 => ?_)
          · skip
            have nc_15 : ¬ ((nx dp) = mm) := fun q => c_15 (show nI (nx dp) = nI mm from (bn_eq (a := (nx dp)) (b := mm) (by omega) (by omega)).mpr q)
            have hnm : nx dp < mm := by omega
            refine lv_iload_n hx hb dX6_go_267 rfl (lv_at hl 2 rfl) ?_
            refine lv_if_eq (tgt := 276) hx hb dX6_go_268 (by decide) (fun h9 => absurd h9 (by decide)) (fun _ => ?_)
            refine lv_iload hx hb dX6_go_271 (lv_at hl 0 rfl) ?_
            refine lv_goto (tgt := 283) hx hb dX6_go_273 (by decide) ?_
            refine lv_istore (lv' := [(5, .int (nI (nx dp))), (4, .int (nI (nx dp))), (0, .ref (rt 51)), (1, .int 1), (2, .int wo), (3, .int (nI dp))]) hx hb dX6_go_283 hl (by decide) rfl (fun ls hl => ?_)
            refine lv_iload hx hb dX6_go_285 (lv_at hl 0 rfl) ?_
            refine lv_aload_n hx hb dX6_go_287 rfl (lv_at hl 2 rfl) ?_
            refine g_get (ci := 6) (v := .int (nI mm)) (C := RX6) (T := TX6) (N := 51) hx hb hts uB6 hown hK hP (hC.1.1 51 (by decide)) F_m rfl 35 (by decide) wm_63 I_may dX6_go_288 ?_
            refine lv_icmp_ge (tgt := 308) hx hb dX6_go_291 (by decide) (fun c_16 => ?_) (fun c_16 => ?_)
            · skip
              have nc_16 : mm ≤ (nx dp) := (bn_le (a := mm) (b := (nx dp)) (by omega) (by omega)).mp (show nI mm ≤ nI (nx dp) from c_16)
              exact (show False by omega).elim
            · skip
              have nc_16 : ¬ (mm ≤ (nx dp)) := fun q => c_16 (show nI mm ≤ nI (nx dp) from (bn_le (a := mm) (b := (nx dp)) (by omega) (by omega)).mpr q)
              refine lv_aload_n hx hb dX6_go_294 rfl (lv_at hl 2 rfl) ?_
              refine lv_iload hx hb dX6_go_295 (lv_at hl 0 rfl) ?_
              refine lv_iload_n hx hb dX6_go_297 rfl (lv_at hl 5 rfl) ?_
              refine lv_iload_n hx hb dX6_go_298 rfl (lv_at hl 4 rfl) ?_
              refine gc_R (ci := 6) ⟨hx, hb, hml, hown, hts⟩ (m_fits l dC dI K L f_14 rt hC F_at ((hSm.at hC.1 (by decide) (by decide)).trans ((hSma.at hC.1 (by decide) (by decide)).trans F_mayBe)) ((hSm.at hC.1 (by decide) (by decide)).trans ((hSma.at hC.1 (by decide) (by decide)).trans F_apart)) I_may (nx dp) dp wo hmm (by omega) (by omega) (fun k hk => ⟨av k, (hpt.2.1 k hk).1, hpt.1 k hk⟩) hmb) 3 wm_143 wm_144 wm_145 wm_8 wm_146 (by decide +kernel) ⟨Nat.le_of_ble_eq_true rfl, Nat.le_of_ble_eq_true rfl⟩ hK rfl (hC.1.1 51 (by decide)) F_m rfl hl.1 rfl (Nat.le_of_ble_eq_true rfl) dX6_go_299 ⟨Nat.le_of_ble_eq_true rfl, Nat.le_of_ble_eq_true rfl⟩ hS hP (fun r_17 H locs hpr_17 hP hS => ?_)
              refine lv_if_ne (tgt := 308) hx hb dX6_go_302 (by decide) (fun c_18 => ?_) (fun c_18 => ?_)
              · skip
                have hft := (hpr_17.resolve_right (fun q => c_18 q.1)).2
                refine lv_aload_n hx hb dX6_go_308 rfl (lv_at hl 2 rfl) ?_
                refine g_get (ci := 6) (v := .ref (rt 41)) (C := RX6) (T := TX6) (N := 51) hx hb hts uB6 hown hK hP (hC.1.1 51 (by decide)) F_m rfl 41 (by decide) wm_141 (hC.2.2.2 41 (by decide)) dX6_go_309 ?_
                refine lv_iload_n hx hb dX6_go_312 rfl (lv_at hl 5 rfl) ?_
                refine g_lald hx hb hK hP (hC.1.1 41 (by decide)) F_upTo (vp_in_nI (by omega) (by decide)) dX6_go_313 ?_
                refine lv_topl (fun x_19 ex_19 => ?_)
                rw [nI_clamp (by omega)] at ex_19
                obtain rfl : x_19 = lN (sG wn mm av dp) := ex_19.trans (hpt.2.2.1 dp (Nat.le_refl _))
                refine lv_iload hx hb dX6_go_314 (lv_at hl 0 rfl) ?_
                refine lv_aload_n hx hb dX6_go_316 rfl (lv_at hl 2 rfl) ?_
                refine g_get (ci := 6) (v := .int (nI mm)) (C := RX6) (T := TX6) (N := 51) hx hb hts uB6 hown hK hP (hC.1.1 51 (by decide)) F_m rfl 35 (by decide) wm_63 I_may dX6_go_317 ?_
                refine lv_icmp_ge (tgt := 337) hx hb dX6_go_320 (by decide) (fun c_20 => ?_) (fun c_20 => ?_)
                · skip
                  have nc_20 : mm ≤ (nx dp) := (bn_le (a := mm) (b := (nx dp)) (by omega) (by omega)).mp (show nI mm ≤ nI (nx dp) from c_20)
                  exact (show False by omega).elim
                · skip
                  have nc_20 : ¬ (mm ≤ (nx dp)) := fun q => c_20 (show nI mm ≤ nI (nx dp) from (bn_le (a := mm) (b := (nx dp)) (by omega) (by omega)).mpr q)
                  refine lv_aload_n hx hb dX6_go_323 rfl (lv_at hl 2 rfl) ?_
                  refine g_get (ci := 6) (v := .ref (rt 37)) (C := RX6) (T := TX6) (N := 51) hx hb hts uB6 hown hK hP (hC.1.1 51 (by decide)) F_m rfl 37 (by decide) wm_133 (hC.2.2.2 37 (by decide)) dX6_go_324 ?_
                  refine lv_iconst (v := 4) hx hb dX6_go_327 (by decide) ?_
                  refine lv_iload hx hb dX6_go_328 (lv_at hl 0 rfl) ?_
                  refine lv_imul hx hb dX6_go_330 ?_
                  refine lv_topi (fun x_21 ex_21 => ?_)
                  obtain rfl : x_21 = nI (4 * (nx dp)) := ex_21.trans (pk_mul 4 (nx dp))
                  refine lv_iload_n hx hb dX6_go_331 rfl (lv_at hl 5 rfl) ?_
                  refine lv_iadd hx hb dX6_go_332 ?_
                  refine lv_topi (fun x_22 ex_22 => ?_)
                  obtain rfl : x_22 = nI ((4 * (nx dp)) + dp) := ex_22.trans (nI_add (4 * (nx dp)) dp)
                  refine g_lald hx hb hK hP (hC.1.1 37 (by decide)) ((hSm.at hC.1 (by decide) (by decide)).trans ((hSma.at hC.1 (by decide) (by decide)).trans F_worth)) (vp_in_nI (by omega) (by decide)) dX6_go_333 ?_
                  refine lv_topl (fun x_23 ex_23 => ?_)
                  rw [nI_clamp (by omega)] at ex_23
                  obtain ⟨hwe, hwb⟩ := hw (nx dp) dp (by omega) (by omega)
                  obtain rfl : x_23 = lN (wn (nx dp) dp) := ex_23.trans hwe
                  refine lv_goto (tgt := 338) hx hb dX6_go_334 (by decide) ?_
                  refine lv_ladd hx hb dX6_go_338 ?_
                  refine lv_topl (fun x_24 ex_24 => ?_)
                  obtain rfl : x_24 = lN ((sG wn mm av dp) + (wn (nx dp) dp)) := ex_24.trans (lN_add (sG wn mm av dp) (wn (nx dp) dp))
                  refine lv_lstore (lv' := [(6, .long (lN ((sG wn mm av dp) + (wn (nx dp) dp)))), (5, .int (nI (nx dp))), (4, .int (nI (nx dp))), (0, .ref (rt 51)), (1, .int 1), (2, .int wo), (3, .int (nI dp))]) hx hb dX6_go_339 hl (by decide) rfl (fun ls hl => ?_)
                  refine lv_aload_n hx hb dX6_go_341 rfl (lv_at hl 3 rfl) ?_
                  refine g_get (ci := 6) (v := .ref (rt 42)) (C := RX6) (T := TX6) (N := 51) hx hb hts uB6 hown hK hP (hC.1.1 51 (by decide)) F_m rfl 42 (by decide) wm_142 (hC.2.2.2 42 (by decide)) dX6_go_342 ?_
                  refine lv_iload_n hx hb dX6_go_345 rfl (lv_at hl 6 rfl) ?_
                  refine g_iald hx hb hK hP (hC.1.1 42 (by decide)) F_filledTo (vp_in_nI (by omega) (by decide)) dX6_go_346 ?_
                  refine lv_topi (fun x_25 ex_25 => ?_)
                  rw [nI_clamp (by omega)] at ex_25
                  obtain rfl : x_25 = nI (cG mm av dp) := ex_25.trans (hpt.2.2.2.1 dp (Nat.le_refl _))
                  refine lv_iload hx hb dX6_go_347 (lv_at hl 1 rfl) ?_
                  refine lv_aload_n hx hb dX6_go_349 rfl (lv_at hl 3 rfl) ?_
                  refine g_get (ci := 6) (v := .int (nI mm)) (C := RX6) (T := TX6) (N := 51) hx hb hts uB6 hown hK hP (hC.1.1 51 (by decide)) F_m rfl 35 (by decide) wm_63 I_may dX6_go_350 ?_
                  refine lv_icmp_ge (tgt := 360) hx hb dX6_go_353 (by decide) (fun c_26 => ?_) (fun c_26 => ?_)
                  · skip
                    have nc_26 : mm ≤ (nx dp) := (bn_le (a := mm) (b := (nx dp)) (by omega) (by omega)).mp (show nI mm ≤ nI (nx dp) from c_26)
                    exact (show False by omega).elim
                  · skip
                    have nc_26 : ¬ (mm ≤ (nx dp)) := fun q => c_26 (show nI mm ≤ nI (nx dp) from (bn_le (a := mm) (b := (nx dp)) (by omega) (by omega)).mpr q)
                    refine lv_iconst (v := 1) hx hb dX6_go_356 (by decide) ?_
                    refine lv_goto (tgt := 361) hx hb dX6_go_357 (by decide) ?_
                    refine lv_iadd hx hb dX6_go_361 ?_
                    refine lv_topi (fun x_27 ex_27 => ?_)
                    obtain rfl : x_27 = nI ((cG mm av dp) + 1) := ex_27.trans (nI_add (cG mm av dp) 1)
                    refine lv_istore (lv' := [(8, .int (nI ((cG mm av dp) + 1))), (6, .long (lN ((sG wn mm av dp) + (wn (nx dp) dp)))), (5, .int (nI (nx dp))), (4, .int (nI (nx dp))), (0, .ref (rt 51)), (1, .int 1), (2, .int wo), (3, .int (nI dp))]) hx hb dX6_go_362 hl (by decide) rfl (fun ls hl => ?_)
                    refine lv_lload hx hb dX6_go_364 (lv_at hl 1 rfl) ?_
                    refine lv_aload_n hx hb dX6_go_366 rfl (lv_at hl 4 rfl) ?_
                    refine g_get (ci := 6) (v := .ref (rt 38)) (C := RX6) (T := TX6) (N := 51) hx hb hts uB6 hown hK hP (hC.1.1 51 (by decide)) F_m rfl 38 (by decide) wm_130 (hC.2.2.2 38 (by decide)) dX6_go_367 ?_
                    refine lv_iload_n hx hb dX6_go_370 rfl (lv_at hl 7 rfl) ?_
                    refine lv_iconst (v := 1) hx hb dX6_go_371 (by decide) ?_
                    refine lv_iadd hx hb dX6_go_372 ?_
                    refine lv_topi (fun x_28 ex_28 => ?_)
                    obtain rfl : x_28 = nI (dp + 1) := ex_28.trans (nI_add dp 1)
                    refine g_lald hx hb hK hP (hC.1.1 38 (by decide)) ((hSm.at hC.1 (by decide) (by decide)).trans ((hSma.at hC.1 (by decide) (by decide)).trans F_mostAt)) (vp_in_nI (by omega) (by decide)) dX6_go_373 ?_
                    refine lv_topl (fun x_29 ex_29 => ?_)
                    rw [nI_clamp (by omega)] at ex_29
                    obtain ⟨hme, hmb9⟩ := hma (dp + 1) (by omega)
                    obtain rfl : x_29 = lN (ma (dp + 1)) := ex_29.trans hme
                    refine lv_ladd hx hb dX6_go_374 ?_
                    refine lv_topl (fun x_30 ex_30 => ?_)
                    obtain rfl : x_30 = lN (((sG wn mm av dp) + (wn (nx dp) dp)) + (ma (dp + 1))) := ex_30.trans (lN_add ((sG wn mm av dp) + (wn (nx dp) dp)) (ma (dp + 1)))
                    refine lv_lstore (lv' := [(9, .long (lN (((sG wn mm av dp) + (wn (nx dp) dp)) + (ma (dp + 1))))), (8, .int (nI ((cG mm av dp) + 1))), (6, .long (lN ((sG wn mm av dp) + (wn (nx dp) dp)))), (5, .int (nI (nx dp))), (4, .int (nI (nx dp))), (0, .ref (rt 51)), (1, .int 1), (2, .int wo), (3, .int (nI dp))]) hx hb dX6_go_375 hl (by decide) rfl (fun ls hl => ?_)
                    refine lv_iload hx hb dX6_go_377 (lv_at hl 1 rfl) ?_
                    refine lv_aload_n hx hb dX6_go_379 rfl (lv_at hl 5 rfl) ?_
                    refine g_get (ci := 6) (v := .int (nI sp)) (C := RX6) (T := TX6) (N := 51) hx hb hts uB6 hown hK hP (hC.1.1 51 (by decide)) F_m rfl 39 (by decide) wm_131 I_spots dX6_go_380 ?_
                    refine lv_iadd hx hb dX6_go_383 ?_
                    refine lv_topi (fun x_31 ex_31 => ?_)
                    obtain rfl : x_31 = nI (((cG mm av dp) + 1) + sp) := ex_31.trans (nI_add ((cG mm av dp) + 1) sp)
                    refine lv_iload_n hx hb dX6_go_384 rfl (lv_at hl 8 rfl) ?_
                    refine lv_isub hx hb dX6_go_385 ?_
                    refine lv_topi (fun x_32 ex_32 => ?_)
                    obtain rfl : x_32 = nI ((((cG mm av dp) + 1) + sp) - dp) := ex_32.trans (pk_sub (a := (((cG mm av dp) + 1) + sp)) (b := dp) (by omega))
                    refine lv_iconst (v := 1) hx hb dX6_go_386 (by decide) ?_
                    refine lv_isub hx hb dX6_go_387 ?_
                    refine lv_topi (fun x_33 ex_33 => ?_)
                    obtain rfl : x_33 = nI (((((cG mm av dp) + 1) + sp) - dp) - 1) := ex_33.trans (pk_sub (a := ((((cG mm av dp) + 1) + sp) - dp)) (b := 1) (by omega))
                    refine lv_istore (lv' := [(11, .int (nI (((((cG mm av dp) + 1) + sp) - dp) - 1))), (9, .long (lN (((sG wn mm av dp) + (wn (nx dp) dp)) + (ma (dp + 1))))), (8, .int (nI ((cG mm av dp) + 1))), (6, .long (lN ((sG wn mm av dp) + (wn (nx dp) dp)))), (5, .int (nI (nx dp))), (4, .int (nI (nx dp))), (0, .ref (rt 51)), (1, .int 1), (2, .int wo), (3, .int (nI dp))]) hx hb dX6_go_388 hl (by decide) rfl (fun ls hl => ?_)
                    refine lv_aload_n hx hb dX6_go_390 rfl (lv_at hl 6 rfl) ?_
                    refine g_get (ci := 6) (v := .int 1) (C := RX6) (T := TX6) (N := 51) hx hb hts uB6 hown hK hP (hC.1.1 51 (by decide)) F_m rfl 45 (by decide) wm_147 I_hasBest dX6_go_391 ?_
                    refine lv_if_eq (tgt := 446) hx hb dX6_go_394 (by decide) (fun h9 => absurd h9 (by decide)) (fun _ => ?_)
                    refine lv_lload hx hb dX6_go_397 (lv_at hl 1 rfl) ?_
                    refine lv_aload_n hx hb dX6_go_399 rfl (lv_at hl 6 rfl) ?_
                    refine g_get (ci := 6) (v := .long (lN bs)) (C := RX6) (T := TX6) (N := 51) hx hb hts uB6 hown hK hP (hC.1.1 51 (by decide)) F_m rfl 43 (by decide) wm_148 I_bestSum dX6_go_400 ?_
                    refine W.lcmp hx hb dX6_go_403 ?_
                    refine lv_topi (fun x_34 ex_34 => ?_)
                    refine lv_if_lt (tgt := 442) hx hb dX6_go_404 (by decide) (fun c_35 => ?_) (fun c_35 => ?_)
                    · skip
                      have nc_35 : (((sG wn mm av dp) + (wn (nx dp) dp)) + (ma (dp + 1))) < bs := (bl_lt (a := (((sG wn mm av dp) + (wn (nx dp) dp)) + (ma (dp + 1)))) (b := bs) (by omega) (by omega) ex_34).mp c_35
                      refine lv_iconst (v := 1) hx hb dX6_go_442 (by decide) ?_
                      refine lv_goto (tgt := 447) hx hb dX6_go_443 (by decide) ?_
                      refine lv_istore (lv' := [(12, .int 1), (11, .int (nI (((((cG mm av dp) + 1) + sp) - dp) - 1))), (9, .long (lN (((sG wn mm av dp) + (wn (nx dp) dp)) + (ma (dp + 1))))), (8, .int (nI ((cG mm av dp) + 1))), (6, .long (lN ((sG wn mm av dp) + (wn (nx dp) dp)))), (5, .int (nI (nx dp))), (4, .int (nI (nx dp))), (0, .ref (rt 51)), (1, .int 1), (2, .int wo), (3, .int (nI dp))]) hx hb dX6_go_447 hl (by decide) rfl (fun ls hl => ?_)
                      refine lv_iload hx hb dX6_go_449 (lv_at hl 0 rfl) ?_
                      refine lv_if_eq (tgt := 457) hx hb dX6_go_451 (by decide) (fun h9 => absurd h9 (by decide)) (fun _ => ?_)
                      refine lv_goto (tgt := 23) hx hb dX6_go_454 (by decide) ?_
                      exact iha _ (by rw [← hmua]; exact muG_dec (by omega)) _ _ _ ⟨f_14, fmva, _, _, _, _, _, dp, av, (va_up nx dp (nx dp + 1)), rfl, hSm, hFs, hC, F_next, F_at, F_filledTo, F_upTo, F_given, by omega, (by rw [eg_13]; exact hpt.inc (by omega)), (hah.skip hds (fun hk q => by have b1 := sG_bd (a := tg) hmd (sp - (dp + 1)) (dp + 1) (by omega); have b2 := @cG_bd mm sp tg (sp - (dp + 1)) (dp + 1) (by omega); have b3 := (show sG wn mm tg (dp + 1) = sG wn mm av dp + wn (nx dp) dp by rw [sG, ← q, if_pos (by omega), sG_cg dp hk]); have b4 := (show cG mm tg (dp + 1) = cG mm av dp + 1 by rw [cG, ← q, if_pos (by omega), cG_cg dp hk]); omega)), hP, hS, lv_sub hl [7, 8, 9, 10] rfl⟩
                    · skip
                      have nc_35 : ¬ ((((sG wn mm av dp) + (wn (nx dp) dp)) + (ma (dp + 1))) < bs) := fun q => c_35 ((bl_lt (a := (((sG wn mm av dp) + (wn (nx dp) dp)) + (ma (dp + 1)))) (b := bs) (by omega) (by omega) ex_34).mpr q)
                      refine lv_lload hx hb dX6_go_407 (lv_at hl 1 rfl) ?_
                      refine lv_aload_n hx hb dX6_go_409 rfl (lv_at hl 6 rfl) ?_
                      refine g_get (ci := 6) (v := .long (lN bs)) (C := RX6) (T := TX6) (N := 51) hx hb hts uB6 hown hK hP (hC.1.1 51 (by decide)) F_m rfl 43 (by decide) wm_148 I_bestSum dX6_go_410 ?_
                      refine W.lcmp hx hb dX6_go_413 ?_
                      refine lv_topi (fun x_36 ex_36 => ?_)
                      refine lv_if_ne (tgt := 446) hx hb dX6_go_414 (by decide) (fun c_37 => ?_) (fun c_37 => ?_)
                      · skip
                        have nc_37 : ¬ ((((sG wn mm av dp) + (wn (nx dp) dp)) + (ma (dp + 1))) = bs) := fun q => c_37 ((bl_eq (a := (((sG wn mm av dp) + (wn (nx dp) dp)) + (ma (dp + 1)))) (b := bs) (by omega) (by omega) ex_36).mpr q)
                        refine lv_iconst (v := 0) hx hb dX6_go_446 (by decide) ?_
                        refine lv_istore (lv' := [(12, .int 0), (11, .int (nI (((((cG mm av dp) + 1) + sp) - dp) - 1))), (9, .long (lN (((sG wn mm av dp) + (wn (nx dp) dp)) + (ma (dp + 1))))), (8, .int (nI ((cG mm av dp) + 1))), (6, .long (lN ((sG wn mm av dp) + (wn (nx dp) dp)))), (5, .int (nI (nx dp))), (4, .int (nI (nx dp))), (0, .ref (rt 51)), (1, .int 1), (2, .int wo), (3, .int (nI dp))]) hx hb dX6_go_447 hl (by decide) rfl (fun ls hl => ?_)
                        refine lv_iload hx hb dX6_go_449 (lv_at hl 0 rfl) ?_
                        refine lv_if_eq (tgt := 457) hx hb dX6_go_451 (by decide) (fun _ => ?_) (fun h9 => absurd (by decide) h9)
                        refine lv_aload_n hx hb dX6_go_457 rfl (lv_at hl 7 rfl) ?_
                        refine g_get (ci := 6) (v := .ref (rt 40)) (C := RX6) (T := TX6) (N := 51) hx hb hts uB6 hown hK hP (hC.1.1 51 (by decide)) F_m rfl 40 (by decide) wm_62 (hC.2.2.2 40 (by decide)) dX6_go_458 ?_
                        refine lv_iload_n hx hb dX6_go_461 rfl (lv_at hl 10 rfl) ?_
                        refine lv_iload hx hb dX6_go_462 (lv_at hl 5 rfl) ?_
                        refine g_iast hx hb hK hP hD hS (hC.1.1 40 (by decide)) F_at (vp_in_nI (by omega) (by decide)) dX6_go_464 (fun H locs hP hD hS => ?_)
                        obtain ⟨g_38, eg_38⟩ : ∃ z9, z9 = upd ga (Int32.toNatClampNeg (nI dp)) (nI (nx dp)) := ⟨_, rfl⟩
                        rw [← eg_38] at hP hD
                        obtain ⟨f_39, ef_39⟩ : ∃ z9, z9 = va_up f_14 (rt 40) (.inl (K 0, 5, .inl g_38)) := ⟨_, rfl⟩
                        rw [← ef_39] at hP hD
                        have F_next : f_39 (rt 48) = .inl (K 0, 5, .inl g_13) := by rw [ef_39, va_up_ne _ _ (fun q => absurd (hC.1.2 48 (by decide) 40 (by decide) q) (by decide))]; exact F_next
                        have F_filledTo : f_39 (rt 42) = .inl (K 0, 5, .inl gf) := by rw [ef_39, va_up_ne _ _ (fun q => absurd (hC.1.2 42 (by decide) 40 (by decide) q) (by decide))]; exact F_filledTo
                        have F_upTo : f_39 (rt 41) = .inl (K 1, 5, .inr (.inl gu)) := by rw [ef_39, va_up_ne _ _ (fun q => absurd (hC.1.2 41 (by decide) 40 (by decide) q) (by decide))]; exact F_upTo
                        have F_given : f_39 (rt 46) = .inl (K 0, 4, .inl gg0) := by rw [ef_39, va_up_ne _ _ (fun q => absurd (hC.1.2 46 (by decide) 40 (by decide) q) (by decide))]; exact F_given
                        have F_m : f_39 (rt 51) = .inr (6, fmva) := by rw [ef_39, va_up_ne _ _ (fun q => absurd (hC.1.2 51 (by decide) 40 (by decide) q) (by decide))]; exact F_m
                        have F_at : f_39 (rt 40) = .inl (K 0, 5, .inl g_38) := by rw [ef_39, va_up_self]
                        have hC : mC rt L f_39 fmva := ⟨hC.1, F_m, hC.2.2.1, hC.2.2.2⟩
                        have hSm : gSm rt [40, 41, 42, 46, 48] f_6 f_39 := by rw [ef_39]; exact hSm.up (by decide) _
                        rw [nI_clamp (by omega)] at eg_38
                        refine lv_iinc (v := nI (dp + 1)) (lv' := [(3, .int (nI (dp + 1))), (12, .int 0), (11, .int (nI (((((cG mm av dp) + 1) + sp) - dp) - 1))), (9, .long (lN (((sG wn mm av dp) + (wn (nx dp) dp)) + (ma (dp + 1))))), (8, .int (nI ((cG mm av dp) + 1))), (6, .long (lN ((sG wn mm av dp) + (wn (nx dp) dp)))), (5, .int (nI (nx dp))), (4, .int (nI (nx dp))), (0, .ref (rt 51)), (1, .int 1), (2, .int wo)]) hx hb dX6_go_465 hl (k := 10) rfl (by exact nI_1 _) (by decide) rfl (fun ls hl => ?_)
                        refine lv_aload_n hx hb dX6_go_468 rfl (lv_at hl 8 rfl) ?_
                        refine g_get (ci := 6) (v := .ref (rt 48)) (C := RX6) (T := TX6) (N := 51) hx hb hts uB6 hown hK hP (hC.1.1 51 (by decide)) F_m rfl 48 (by decide) wm_140 (hC.2.2.2 48 (by decide)) dX6_go_469 ?_
                        refine lv_iload_n hx hb dX6_go_472 rfl (lv_at hl 0 rfl) ?_
                        refine lv_iconst (v := 0) hx hb dX6_go_473 (by decide) ?_
                        refine g_iast hx hb hK hP hD hS (hC.1.1 48 (by decide)) F_next (vp_in_nI (by omega) (by decide)) dX6_go_474 (fun H locs hP hD hS => ?_)
                        obtain ⟨g_40, eg_40⟩ : ∃ z9, z9 = upd g_13 (Int32.toNatClampNeg (nI (dp + 1))) 0 := ⟨_, rfl⟩
                        rw [← eg_40] at hP hD
                        obtain ⟨f_41, ef_41⟩ : ∃ z9, z9 = va_up f_39 (rt 48) (.inl (K 0, 5, .inl g_40)) := ⟨_, rfl⟩
                        rw [← ef_41] at hP hD
                        have F_at : f_41 (rt 40) = .inl (K 0, 5, .inl g_38) := by rw [ef_41, va_up_ne _ _ (fun q => absurd (hC.1.2 40 (by decide) 48 (by decide) q) (by decide))]; exact F_at
                        have F_filledTo : f_41 (rt 42) = .inl (K 0, 5, .inl gf) := by rw [ef_41, va_up_ne _ _ (fun q => absurd (hC.1.2 42 (by decide) 48 (by decide) q) (by decide))]; exact F_filledTo
                        have F_upTo : f_41 (rt 41) = .inl (K 1, 5, .inr (.inl gu)) := by rw [ef_41, va_up_ne _ _ (fun q => absurd (hC.1.2 41 (by decide) 48 (by decide) q) (by decide))]; exact F_upTo
                        have F_given : f_41 (rt 46) = .inl (K 0, 4, .inl gg0) := by rw [ef_41, va_up_ne _ _ (fun q => absurd (hC.1.2 46 (by decide) 48 (by decide) q) (by decide))]; exact F_given
                        have F_m : f_41 (rt 51) = .inr (6, fmva) := by rw [ef_41, va_up_ne _ _ (fun q => absurd (hC.1.2 51 (by decide) 48 (by decide) q) (by decide))]; exact F_m
                        have F_next : f_41 (rt 48) = .inl (K 0, 5, .inl g_40) := by rw [ef_41, va_up_self]
                        have hC : mC rt L f_41 fmva := ⟨hC.1, F_m, hC.2.2.1, hC.2.2.2⟩
                        have hSm : gSm rt [40, 41, 42, 46, 48] f_6 f_41 := by rw [ef_41]; exact hSm.up (by decide) _
                        rw [nI_clamp (by omega)] at eg_40
                        refine lv_aload_n hx hb dX6_go_475 rfl (lv_at hl 8 rfl) ?_
                        refine g_get (ci := 6) (v := .ref (rt 41)) (C := RX6) (T := TX6) (N := 51) hx hb hts uB6 hown hK hP (hC.1.1 51 (by decide)) F_m rfl 41 (by decide) wm_141 (hC.2.2.2 41 (by decide)) dX6_go_476 ?_
                        refine lv_iload_n hx hb dX6_go_479 rfl (lv_at hl 0 rfl) ?_
                        refine lv_lload hx hb dX6_go_480 (lv_at hl 5 rfl) ?_
                        refine g_last hx hb hK hP hD hS (hC.1.1 41 (by decide)) F_upTo (vp_in_nI (by omega) (by decide)) dX6_go_482 (fun H locs hP hD hS => ?_)
                        obtain ⟨g_42, eg_42⟩ : ∃ z9, z9 = vp_updL gu (Int32.toNatClampNeg (nI (dp + 1))) (lN ((sG wn mm av dp) + (wn (nx dp) dp))) := ⟨_, rfl⟩
                        rw [← eg_42] at hP hD
                        obtain ⟨f_43, ef_43⟩ : ∃ z9, z9 = va_up f_41 (rt 41) (.inl (K 1, 5, .inr (.inl g_42))) := ⟨_, rfl⟩
                        rw [← ef_43] at hP hD
                        have F_next : f_43 (rt 48) = .inl (K 0, 5, .inl g_40) := by rw [ef_43, va_up_ne _ _ (fun q => absurd (hC.1.2 48 (by decide) 41 (by decide) q) (by decide))]; exact F_next
                        have F_at : f_43 (rt 40) = .inl (K 0, 5, .inl g_38) := by rw [ef_43, va_up_ne _ _ (fun q => absurd (hC.1.2 40 (by decide) 41 (by decide) q) (by decide))]; exact F_at
                        have F_filledTo : f_43 (rt 42) = .inl (K 0, 5, .inl gf) := by rw [ef_43, va_up_ne _ _ (fun q => absurd (hC.1.2 42 (by decide) 41 (by decide) q) (by decide))]; exact F_filledTo
                        have F_given : f_43 (rt 46) = .inl (K 0, 4, .inl gg0) := by rw [ef_43, va_up_ne _ _ (fun q => absurd (hC.1.2 46 (by decide) 41 (by decide) q) (by decide))]; exact F_given
                        have F_m : f_43 (rt 51) = .inr (6, fmva) := by rw [ef_43, va_up_ne _ _ (fun q => absurd (hC.1.2 51 (by decide) 41 (by decide) q) (by decide))]; exact F_m
                        have F_upTo : f_43 (rt 41) = .inl (K 1, 5, .inr (.inl g_42)) := by rw [ef_43, va_up_self]
                        have hC : mC rt L f_43 fmva := ⟨hC.1, F_m, hC.2.2.1, hC.2.2.2⟩
                        have hSm : gSm rt [40, 41, 42, 46, 48] f_6 f_43 := by rw [ef_43]; exact hSm.up (by decide) _
                        rw [nI_clamp (by omega)] at eg_42
                        refine lv_aload_n hx hb dX6_go_483 rfl (lv_at hl 8 rfl) ?_
                        refine g_get (ci := 6) (v := .ref (rt 42)) (C := RX6) (T := TX6) (N := 51) hx hb hts uB6 hown hK hP (hC.1.1 51 (by decide)) F_m rfl 42 (by decide) wm_142 (hC.2.2.2 42 (by decide)) dX6_go_484 ?_
                        refine lv_iload_n hx hb dX6_go_487 rfl (lv_at hl 0 rfl) ?_
                        refine lv_iload hx hb dX6_go_488 (lv_at hl 4 rfl) ?_
                        refine g_iast hx hb hK hP hD hS (hC.1.1 42 (by decide)) F_filledTo (vp_in_nI (by omega) (by decide)) dX6_go_490 (fun H locs hP hD hS => ?_)
                        obtain ⟨g_44, eg_44⟩ : ∃ z9, z9 = upd gf (Int32.toNatClampNeg (nI (dp + 1))) (nI ((cG mm av dp) + 1)) := ⟨_, rfl⟩
                        rw [← eg_44] at hP hD
                        obtain ⟨f_45, ef_45⟩ : ∃ z9, z9 = va_up f_43 (rt 42) (.inl (K 0, 5, .inl g_44)) := ⟨_, rfl⟩
                        rw [← ef_45] at hP hD
                        have F_next : f_45 (rt 48) = .inl (K 0, 5, .inl g_40) := by rw [ef_45, va_up_ne _ _ (fun q => absurd (hC.1.2 48 (by decide) 42 (by decide) q) (by decide))]; exact F_next
                        have F_at : f_45 (rt 40) = .inl (K 0, 5, .inl g_38) := by rw [ef_45, va_up_ne _ _ (fun q => absurd (hC.1.2 40 (by decide) 42 (by decide) q) (by decide))]; exact F_at
                        have F_upTo : f_45 (rt 41) = .inl (K 1, 5, .inr (.inl g_42)) := by rw [ef_45, va_up_ne _ _ (fun q => absurd (hC.1.2 41 (by decide) 42 (by decide) q) (by decide))]; exact F_upTo
                        have F_given : f_45 (rt 46) = .inl (K 0, 4, .inl gg0) := by rw [ef_45, va_up_ne _ _ (fun q => absurd (hC.1.2 46 (by decide) 42 (by decide) q) (by decide))]; exact F_given
                        have F_m : f_45 (rt 51) = .inr (6, fmva) := by rw [ef_45, va_up_ne _ _ (fun q => absurd (hC.1.2 51 (by decide) 42 (by decide) q) (by decide))]; exact F_m
                        have F_filledTo : f_45 (rt 42) = .inl (K 0, 5, .inl g_44) := by rw [ef_45, va_up_self]
                        have hC : mC rt L f_45 fmva := ⟨hC.1, F_m, hC.2.2.1, hC.2.2.2⟩
                        have hSm : gSm rt [40, 41, 42, 46, 48] f_6 f_45 := by rw [ef_45]; exact hSm.up (by decide) _
                        rw [nI_clamp (by omega)] at eg_44
                        refine lv_goto (tgt := 23) hx hb dX6_go_491 (by decide) ?_
                        exact iha _ (by rw [← hmua]; exact muG_des (by omega) hmm (by omega)) _ _ _ ⟨f_45, fmva, _, _, _, _, _, (dp + 1), (va_up av dp (nx dp)), (va_up (va_up nx dp (nx dp + 1)) (dp + 1) 0), rfl, hSm, hFs, hC, F_next, F_at, F_filledTo, F_upTo, F_given, by omega, (by rw [eg_38, eg_40, eg_13, eg_44, eg_42]; exact (hpt.inc (by omega)).des (i := (nx dp)) (by omega) (fun _ => hft) (by first | rfl | exact congrArg lN (by rw [if_pos (by omega)])) (by first | rfl | exact congrArg nI (by rw [if_pos (by omega)]))), (hah.desc hds), hP, hS, lv_sub hl [8, 9, 10, 0] rfl⟩
                      · skip
                        have nc_37 : (((sG wn mm av dp) + (wn (nx dp) dp)) + (ma (dp + 1))) = bs := (bl_eq (a := (((sG wn mm av dp) + (wn (nx dp) dp)) + (ma (dp + 1)))) (b := bs) (by omega) (by omega) ex_36).mp c_37
                        refine lv_iload_n hx hb dX6_go_417 rfl (lv_at hl 7 rfl) ?_
                        refine lv_if_eq (tgt := 433) hx hb dX6_go_418 (by decide) (fun h9 => absurd h9 (by decide)) (fun _ => ?_)
                        refine lv_iload hx hb dX6_go_421 (lv_at hl 0 rfl) ?_
                        refine lv_aload_n hx hb dX6_go_423 rfl (lv_at hl 6 rfl) ?_
                        refine g_get (ci := 6) (v := .int (nI bf)) (C := RX6) (T := TX6) (N := 51) hx hb hts uB6 hown hK hP (hC.1.1 51 (by decide)) F_m rfl 44 (by decide) wm_149 I_bestFilled dX6_go_424 ?_
                        refine lv_icmp_ge (tgt := 446) hx hb dX6_go_427 (by decide) (fun c_46 => ?_) (fun c_46 => ?_)
                        · skip
                          have nc_46 : bf ≤ (((((cG mm av dp) + 1) + sp) - dp) - 1) := (bn_le (a := bf) (b := (((((cG mm av dp) + 1) + sp) - dp) - 1)) (by omega) (by omega)).mp (show nI bf ≤ nI (((((cG mm av dp) + 1) + sp) - dp) - 1) from c_46)
                          refine lv_iconst (v := 0) hx hb dX6_go_446 (by decide) ?_
                          refine lv_istore (lv' := [(12, .int 0), (11, .int (nI (((((cG mm av dp) + 1) + sp) - dp) - 1))), (9, .long (lN (((sG wn mm av dp) + (wn (nx dp) dp)) + (ma (dp + 1))))), (8, .int (nI ((cG mm av dp) + 1))), (6, .long (lN ((sG wn mm av dp) + (wn (nx dp) dp)))), (5, .int (nI (nx dp))), (4, .int (nI (nx dp))), (0, .ref (rt 51)), (1, .int 1), (2, .int wo), (3, .int (nI dp))]) hx hb dX6_go_447 hl (by decide) rfl (fun ls hl => ?_)
                          refine lv_iload hx hb dX6_go_449 (lv_at hl 0 rfl) ?_
                          refine lv_if_eq (tgt := 457) hx hb dX6_go_451 (by decide) (fun _ => ?_) (fun h9 => absurd (by decide) h9)
                          refine lv_aload_n hx hb dX6_go_457 rfl (lv_at hl 7 rfl) ?_
                          refine g_get (ci := 6) (v := .ref (rt 40)) (C := RX6) (T := TX6) (N := 51) hx hb hts uB6 hown hK hP (hC.1.1 51 (by decide)) F_m rfl 40 (by decide) wm_62 (hC.2.2.2 40 (by decide)) dX6_go_458 ?_
                          refine lv_iload_n hx hb dX6_go_461 rfl (lv_at hl 10 rfl) ?_
                          refine lv_iload hx hb dX6_go_462 (lv_at hl 5 rfl) ?_
                          refine g_iast hx hb hK hP hD hS (hC.1.1 40 (by decide)) F_at (vp_in_nI (by omega) (by decide)) dX6_go_464 (fun H locs hP hD hS => ?_)
                          obtain ⟨g_47, eg_47⟩ : ∃ z9, z9 = upd ga (Int32.toNatClampNeg (nI dp)) (nI (nx dp)) := ⟨_, rfl⟩
                          rw [← eg_47] at hP hD
                          obtain ⟨f_48, ef_48⟩ : ∃ z9, z9 = va_up f_14 (rt 40) (.inl (K 0, 5, .inl g_47)) := ⟨_, rfl⟩
                          rw [← ef_48] at hP hD
                          have F_next : f_48 (rt 48) = .inl (K 0, 5, .inl g_13) := by rw [ef_48, va_up_ne _ _ (fun q => absurd (hC.1.2 48 (by decide) 40 (by decide) q) (by decide))]; exact F_next
                          have F_filledTo : f_48 (rt 42) = .inl (K 0, 5, .inl gf) := by rw [ef_48, va_up_ne _ _ (fun q => absurd (hC.1.2 42 (by decide) 40 (by decide) q) (by decide))]; exact F_filledTo
                          have F_upTo : f_48 (rt 41) = .inl (K 1, 5, .inr (.inl gu)) := by rw [ef_48, va_up_ne _ _ (fun q => absurd (hC.1.2 41 (by decide) 40 (by decide) q) (by decide))]; exact F_upTo
                          have F_given : f_48 (rt 46) = .inl (K 0, 4, .inl gg0) := by rw [ef_48, va_up_ne _ _ (fun q => absurd (hC.1.2 46 (by decide) 40 (by decide) q) (by decide))]; exact F_given
                          have F_m : f_48 (rt 51) = .inr (6, fmva) := by rw [ef_48, va_up_ne _ _ (fun q => absurd (hC.1.2 51 (by decide) 40 (by decide) q) (by decide))]; exact F_m
                          have F_at : f_48 (rt 40) = .inl (K 0, 5, .inl g_47) := by rw [ef_48, va_up_self]
                          have hC : mC rt L f_48 fmva := ⟨hC.1, F_m, hC.2.2.1, hC.2.2.2⟩
                          have hSm : gSm rt [40, 41, 42, 46, 48] f_6 f_48 := by rw [ef_48]; exact hSm.up (by decide) _
                          rw [nI_clamp (by omega)] at eg_47
                          refine lv_iinc (v := nI (dp + 1)) (lv' := [(3, .int (nI (dp + 1))), (12, .int 0), (11, .int (nI (((((cG mm av dp) + 1) + sp) - dp) - 1))), (9, .long (lN (((sG wn mm av dp) + (wn (nx dp) dp)) + (ma (dp + 1))))), (8, .int (nI ((cG mm av dp) + 1))), (6, .long (lN ((sG wn mm av dp) + (wn (nx dp) dp)))), (5, .int (nI (nx dp))), (4, .int (nI (nx dp))), (0, .ref (rt 51)), (1, .int 1), (2, .int wo)]) hx hb dX6_go_465 hl (k := 10) rfl (by exact nI_1 _) (by decide) rfl (fun ls hl => ?_)
                          refine lv_aload_n hx hb dX6_go_468 rfl (lv_at hl 8 rfl) ?_
                          refine g_get (ci := 6) (v := .ref (rt 48)) (C := RX6) (T := TX6) (N := 51) hx hb hts uB6 hown hK hP (hC.1.1 51 (by decide)) F_m rfl 48 (by decide) wm_140 (hC.2.2.2 48 (by decide)) dX6_go_469 ?_
                          refine lv_iload_n hx hb dX6_go_472 rfl (lv_at hl 0 rfl) ?_
                          refine lv_iconst (v := 0) hx hb dX6_go_473 (by decide) ?_
                          refine g_iast hx hb hK hP hD hS (hC.1.1 48 (by decide)) F_next (vp_in_nI (by omega) (by decide)) dX6_go_474 (fun H locs hP hD hS => ?_)
                          obtain ⟨g_49, eg_49⟩ : ∃ z9, z9 = upd g_13 (Int32.toNatClampNeg (nI (dp + 1))) 0 := ⟨_, rfl⟩
                          rw [← eg_49] at hP hD
                          obtain ⟨f_50, ef_50⟩ : ∃ z9, z9 = va_up f_48 (rt 48) (.inl (K 0, 5, .inl g_49)) := ⟨_, rfl⟩
                          rw [← ef_50] at hP hD
                          have F_at : f_50 (rt 40) = .inl (K 0, 5, .inl g_47) := by rw [ef_50, va_up_ne _ _ (fun q => absurd (hC.1.2 40 (by decide) 48 (by decide) q) (by decide))]; exact F_at
                          have F_filledTo : f_50 (rt 42) = .inl (K 0, 5, .inl gf) := by rw [ef_50, va_up_ne _ _ (fun q => absurd (hC.1.2 42 (by decide) 48 (by decide) q) (by decide))]; exact F_filledTo
                          have F_upTo : f_50 (rt 41) = .inl (K 1, 5, .inr (.inl gu)) := by rw [ef_50, va_up_ne _ _ (fun q => absurd (hC.1.2 41 (by decide) 48 (by decide) q) (by decide))]; exact F_upTo
                          have F_given : f_50 (rt 46) = .inl (K 0, 4, .inl gg0) := by rw [ef_50, va_up_ne _ _ (fun q => absurd (hC.1.2 46 (by decide) 48 (by decide) q) (by decide))]; exact F_given
                          have F_m : f_50 (rt 51) = .inr (6, fmva) := by rw [ef_50, va_up_ne _ _ (fun q => absurd (hC.1.2 51 (by decide) 48 (by decide) q) (by decide))]; exact F_m
                          have F_next : f_50 (rt 48) = .inl (K 0, 5, .inl g_49) := by rw [ef_50, va_up_self]
                          have hC : mC rt L f_50 fmva := ⟨hC.1, F_m, hC.2.2.1, hC.2.2.2⟩
                          have hSm : gSm rt [40, 41, 42, 46, 48] f_6 f_50 := by rw [ef_50]; exact hSm.up (by decide) _
                          rw [nI_clamp (by omega)] at eg_49
                          refine lv_aload_n hx hb dX6_go_475 rfl (lv_at hl 8 rfl) ?_
                          refine g_get (ci := 6) (v := .ref (rt 41)) (C := RX6) (T := TX6) (N := 51) hx hb hts uB6 hown hK hP (hC.1.1 51 (by decide)) F_m rfl 41 (by decide) wm_141 (hC.2.2.2 41 (by decide)) dX6_go_476 ?_
                          refine lv_iload_n hx hb dX6_go_479 rfl (lv_at hl 0 rfl) ?_
                          refine lv_lload hx hb dX6_go_480 (lv_at hl 5 rfl) ?_
                          refine g_last hx hb hK hP hD hS (hC.1.1 41 (by decide)) F_upTo (vp_in_nI (by omega) (by decide)) dX6_go_482 (fun H locs hP hD hS => ?_)
                          obtain ⟨g_51, eg_51⟩ : ∃ z9, z9 = vp_updL gu (Int32.toNatClampNeg (nI (dp + 1))) (lN ((sG wn mm av dp) + (wn (nx dp) dp))) := ⟨_, rfl⟩
                          rw [← eg_51] at hP hD
                          obtain ⟨f_52, ef_52⟩ : ∃ z9, z9 = va_up f_50 (rt 41) (.inl (K 1, 5, .inr (.inl g_51))) := ⟨_, rfl⟩
                          rw [← ef_52] at hP hD
                          have F_next : f_52 (rt 48) = .inl (K 0, 5, .inl g_49) := by rw [ef_52, va_up_ne _ _ (fun q => absurd (hC.1.2 48 (by decide) 41 (by decide) q) (by decide))]; exact F_next
                          have F_at : f_52 (rt 40) = .inl (K 0, 5, .inl g_47) := by rw [ef_52, va_up_ne _ _ (fun q => absurd (hC.1.2 40 (by decide) 41 (by decide) q) (by decide))]; exact F_at
                          have F_filledTo : f_52 (rt 42) = .inl (K 0, 5, .inl gf) := by rw [ef_52, va_up_ne _ _ (fun q => absurd (hC.1.2 42 (by decide) 41 (by decide) q) (by decide))]; exact F_filledTo
                          have F_given : f_52 (rt 46) = .inl (K 0, 4, .inl gg0) := by rw [ef_52, va_up_ne _ _ (fun q => absurd (hC.1.2 46 (by decide) 41 (by decide) q) (by decide))]; exact F_given
                          have F_m : f_52 (rt 51) = .inr (6, fmva) := by rw [ef_52, va_up_ne _ _ (fun q => absurd (hC.1.2 51 (by decide) 41 (by decide) q) (by decide))]; exact F_m
                          have F_upTo : f_52 (rt 41) = .inl (K 1, 5, .inr (.inl g_51)) := by rw [ef_52, va_up_self]
                          have hC : mC rt L f_52 fmva := ⟨hC.1, F_m, hC.2.2.1, hC.2.2.2⟩
                          have hSm : gSm rt [40, 41, 42, 46, 48] f_6 f_52 := by rw [ef_52]; exact hSm.up (by decide) _
                          rw [nI_clamp (by omega)] at eg_51
                          refine lv_aload_n hx hb dX6_go_483 rfl (lv_at hl 8 rfl) ?_
                          refine g_get (ci := 6) (v := .ref (rt 42)) (C := RX6) (T := TX6) (N := 51) hx hb hts uB6 hown hK hP (hC.1.1 51 (by decide)) F_m rfl 42 (by decide) wm_142 (hC.2.2.2 42 (by decide)) dX6_go_484 ?_
                          refine lv_iload_n hx hb dX6_go_487 rfl (lv_at hl 0 rfl) ?_
                          refine lv_iload hx hb dX6_go_488 (lv_at hl 4 rfl) ?_
                          refine g_iast hx hb hK hP hD hS (hC.1.1 42 (by decide)) F_filledTo (vp_in_nI (by omega) (by decide)) dX6_go_490 (fun H locs hP hD hS => ?_)
                          obtain ⟨g_53, eg_53⟩ : ∃ z9, z9 = upd gf (Int32.toNatClampNeg (nI (dp + 1))) (nI ((cG mm av dp) + 1)) := ⟨_, rfl⟩
                          rw [← eg_53] at hP hD
                          obtain ⟨f_54, ef_54⟩ : ∃ z9, z9 = va_up f_52 (rt 42) (.inl (K 0, 5, .inl g_53)) := ⟨_, rfl⟩
                          rw [← ef_54] at hP hD
                          have F_next : f_54 (rt 48) = .inl (K 0, 5, .inl g_49) := by rw [ef_54, va_up_ne _ _ (fun q => absurd (hC.1.2 48 (by decide) 42 (by decide) q) (by decide))]; exact F_next
                          have F_at : f_54 (rt 40) = .inl (K 0, 5, .inl g_47) := by rw [ef_54, va_up_ne _ _ (fun q => absurd (hC.1.2 40 (by decide) 42 (by decide) q) (by decide))]; exact F_at
                          have F_upTo : f_54 (rt 41) = .inl (K 1, 5, .inr (.inl g_51)) := by rw [ef_54, va_up_ne _ _ (fun q => absurd (hC.1.2 41 (by decide) 42 (by decide) q) (by decide))]; exact F_upTo
                          have F_given : f_54 (rt 46) = .inl (K 0, 4, .inl gg0) := by rw [ef_54, va_up_ne _ _ (fun q => absurd (hC.1.2 46 (by decide) 42 (by decide) q) (by decide))]; exact F_given
                          have F_m : f_54 (rt 51) = .inr (6, fmva) := by rw [ef_54, va_up_ne _ _ (fun q => absurd (hC.1.2 51 (by decide) 42 (by decide) q) (by decide))]; exact F_m
                          have F_filledTo : f_54 (rt 42) = .inl (K 0, 5, .inl g_53) := by rw [ef_54, va_up_self]
                          have hC : mC rt L f_54 fmva := ⟨hC.1, F_m, hC.2.2.1, hC.2.2.2⟩
                          have hSm : gSm rt [40, 41, 42, 46, 48] f_6 f_54 := by rw [ef_54]; exact hSm.up (by decide) _
                          rw [nI_clamp (by omega)] at eg_53
                          refine lv_goto (tgt := 23) hx hb dX6_go_491 (by decide) ?_
                          exact iha _ (by rw [← hmua]; exact muG_des (by omega) hmm (by omega)) _ _ _ ⟨f_54, fmva, _, _, _, _, _, (dp + 1), (va_up av dp (nx dp)), (va_up (va_up nx dp (nx dp + 1)) (dp + 1) 0), rfl, hSm, hFs, hC, F_next, F_at, F_filledTo, F_upTo, F_given, by omega, (by rw [eg_47, eg_49, eg_13, eg_53, eg_51]; exact (hpt.inc (by omega)).des (i := (nx dp)) (by omega) (fun _ => hft) (by first | rfl | exact congrArg lN (by rw [if_pos (by omega)])) (by first | rfl | exact congrArg nI (by rw [if_pos (by omega)]))), (hah.desc hds), hP, hS, lv_sub hl [8, 9, 10, 0] rfl⟩
                        · skip
                          have nc_46 : ¬ (bf ≤ (((((cG mm av dp) + 1) + sp) - dp) - 1)) := fun q => c_46 (show nI bf ≤ nI (((((cG mm av dp) + 1) + sp) - dp) - 1) from (bn_le (a := bf) (b := (((((cG mm av dp) + 1) + sp) - dp) - 1)) (by omega) (by omega)).mpr q)
                          refine lv_goto (tgt := 442) hx hb dX6_go_430 (by decide) ?_
                          refine lv_iconst (v := 1) hx hb dX6_go_442 (by decide) ?_
                          refine lv_goto (tgt := 447) hx hb dX6_go_443 (by decide) ?_
                          refine lv_istore (lv' := [(12, .int 1), (11, .int (nI (((((cG mm av dp) + 1) + sp) - dp) - 1))), (9, .long (lN (((sG wn mm av dp) + (wn (nx dp) dp)) + (ma (dp + 1))))), (8, .int (nI ((cG mm av dp) + 1))), (6, .long (lN ((sG wn mm av dp) + (wn (nx dp) dp)))), (5, .int (nI (nx dp))), (4, .int (nI (nx dp))), (0, .ref (rt 51)), (1, .int 1), (2, .int wo), (3, .int (nI dp))]) hx hb dX6_go_447 hl (by decide) rfl (fun ls hl => ?_)
                          refine lv_iload hx hb dX6_go_449 (lv_at hl 0 rfl) ?_
                          refine lv_if_eq (tgt := 457) hx hb dX6_go_451 (by decide) (fun h9 => absurd h9 (by decide)) (fun _ => ?_)
                          refine lv_goto (tgt := 23) hx hb dX6_go_454 (by decide) ?_
                          exact iha _ (by rw [← hmua]; exact muG_dec (by omega)) _ _ _ ⟨f_14, fmva, _, _, _, _, _, dp, av, (va_up nx dp (nx dp + 1)), rfl, hSm, hFs, hC, F_next, F_at, F_filledTo, F_upTo, F_given, by omega, (by rw [eg_13]; exact hpt.inc (by omega)), (hah.skip hds (fun hk q => by have b1 := sG_bd (a := tg) hmd (sp - (dp + 1)) (dp + 1) (by omega); have b2 := @cG_bd mm sp tg (sp - (dp + 1)) (dp + 1) (by omega); have b3 := (show sG wn mm tg (dp + 1) = sG wn mm av dp + wn (nx dp) dp by rw [sG, ← q, if_pos (by omega), sG_cg dp hk]); have b4 := (show cG mm tg (dp + 1) = cG mm av dp + 1 by rw [cG, ← q, if_pos (by omega), cG_cg dp hk]); omega)), hP, hS, lv_sub hl [7, 8, 9, 10] rfl⟩
              · skip
                have hnf := (hpr_17.resolve_left (fun q => by rw [c_18] at q; exact absurd q.1 (by decide))).2
                refine lv_goto (tgt := 23) hx hb dX6_go_305 (by decide) ?_
                exact iha _ (by rw [← hmua]; exact muG_dec (by omega)) _ _ _ ⟨f_14, fmva, _, _, _, _, _, dp, av, (va_up nx dp (nx dp + 1)), rfl, hSm, hFs, hC, F_next, F_at, F_filledTo, F_upTo, F_given, by omega, (by rw [eg_13]; exact hpt.inc (by omega)), (hah.skip hds (fun hk q => hnf ((fitP_cg (fun k hk9 => by show nI (tg k) = _; rw [hpt.1 k hk9, hk k hk9])).mp (by have h9 := (htg dp hds).2; rw [← q] at h9; exact h9 hnm)))), hP, hS, lv_sub hl [2, 3, 4, 5] rfl⟩
          · skip
            have nc_15 : (nx dp) = mm := (bn_eq (a := (nx dp)) (b := mm) (by omega) (by omega)).mp (show nI (nx dp) = nI mm from c_15)
            have hnm : nx dp = mm := by omega
            refine lv_aload_n hx hb dX6_go_260 rfl (lv_at hl 1 rfl) ?_
            refine g_get (ci := 6) (v := .int (nI mm)) (C := RX6) (T := TX6) (N := 51) hx hb hts uB6 hown hK hP (hC.1.1 51 (by decide)) F_m rfl 35 (by decide) wm_63 I_may dX6_go_261 ?_
            refine lv_goto (tgt := 283) hx hb dX6_go_264 (by decide) ?_
            refine lv_istore (lv' := [(5, .int (nI mm)), (4, .int (nI (nx dp))), (0, .ref (rt 51)), (1, .int 1), (2, .int wo), (3, .int (nI dp))]) hx hb dX6_go_283 hl (by decide) rfl (fun ls hl => ?_)
            refine lv_iload hx hb dX6_go_285 (lv_at hl 0 rfl) ?_
            refine lv_aload_n hx hb dX6_go_287 rfl (lv_at hl 2 rfl) ?_
            refine g_get (ci := 6) (v := .int (nI mm)) (C := RX6) (T := TX6) (N := 51) hx hb hts uB6 hown hK hP (hC.1.1 51 (by decide)) F_m rfl 35 (by decide) wm_63 I_may dX6_go_288 ?_
            refine lv_icmp_ge (tgt := 308) hx hb dX6_go_291 (by decide) (fun c_55 => ?_) (fun c_55 => ?_)
            · skip
              have nc_55 : mm ≤ mm := (bn_le (a := mm) (b := mm) (by omega) (by omega)).mp (show nI mm ≤ nI mm from c_55)
              refine lv_aload_n hx hb dX6_go_308 rfl (lv_at hl 2 rfl) ?_
              refine g_get (ci := 6) (v := .ref (rt 41)) (C := RX6) (T := TX6) (N := 51) hx hb hts uB6 hown hK hP (hC.1.1 51 (by decide)) F_m rfl 41 (by decide) wm_141 (hC.2.2.2 41 (by decide)) dX6_go_309 ?_
              refine lv_iload_n hx hb dX6_go_312 rfl (lv_at hl 5 rfl) ?_
              refine g_lald hx hb hK hP (hC.1.1 41 (by decide)) F_upTo (vp_in_nI (by omega) (by decide)) dX6_go_313 ?_
              refine lv_topl (fun x_56 ex_56 => ?_)
              rw [nI_clamp (by omega)] at ex_56
              obtain rfl : x_56 = lN (sG wn mm av dp) := ex_56.trans (hpt.2.2.1 dp (Nat.le_refl _))
              refine lv_iload hx hb dX6_go_314 (lv_at hl 0 rfl) ?_
              refine lv_aload_n hx hb dX6_go_316 rfl (lv_at hl 2 rfl) ?_
              refine g_get (ci := 6) (v := .int (nI mm)) (C := RX6) (T := TX6) (N := 51) hx hb hts uB6 hown hK hP (hC.1.1 51 (by decide)) F_m rfl 35 (by decide) wm_63 I_may dX6_go_317 ?_
              refine lv_icmp_ge (tgt := 337) hx hb dX6_go_320 (by decide) (fun c_57 => ?_) (fun c_57 => ?_)
              · skip
                have nc_57 : mm ≤ mm := (bn_le (a := mm) (b := mm) (by omega) (by omega)).mp (show nI mm ≤ nI mm from c_57)
                refine lv_lconst (v := 0) hx hb dX6_go_337 rfl ?_
                refine lv_ladd hx hb dX6_go_338 ?_
                refine lv_topl (fun x_58 ex_58 => ?_)
                obtain rfl : x_58 = lN ((sG wn mm av dp) + 0) := ex_58.trans (lN_add (sG wn mm av dp) 0)
                refine lv_lstore (lv' := [(6, .long (lN ((sG wn mm av dp) + 0))), (5, .int (nI mm)), (4, .int (nI (nx dp))), (0, .ref (rt 51)), (1, .int 1), (2, .int wo), (3, .int (nI dp))]) hx hb dX6_go_339 hl (by decide) rfl (fun ls hl => ?_)
                refine lv_aload_n hx hb dX6_go_341 rfl (lv_at hl 3 rfl) ?_
                refine g_get (ci := 6) (v := .ref (rt 42)) (C := RX6) (T := TX6) (N := 51) hx hb hts uB6 hown hK hP (hC.1.1 51 (by decide)) F_m rfl 42 (by decide) wm_142 (hC.2.2.2 42 (by decide)) dX6_go_342 ?_
                refine lv_iload_n hx hb dX6_go_345 rfl (lv_at hl 6 rfl) ?_
                refine g_iald hx hb hK hP (hC.1.1 42 (by decide)) F_filledTo (vp_in_nI (by omega) (by decide)) dX6_go_346 ?_
                refine lv_topi (fun x_59 ex_59 => ?_)
                rw [nI_clamp (by omega)] at ex_59
                obtain rfl : x_59 = nI (cG mm av dp) := ex_59.trans (hpt.2.2.2.1 dp (Nat.le_refl _))
                refine lv_iload hx hb dX6_go_347 (lv_at hl 1 rfl) ?_
                refine lv_aload_n hx hb dX6_go_349 rfl (lv_at hl 3 rfl) ?_
                refine g_get (ci := 6) (v := .int (nI mm)) (C := RX6) (T := TX6) (N := 51) hx hb hts uB6 hown hK hP (hC.1.1 51 (by decide)) F_m rfl 35 (by decide) wm_63 I_may dX6_go_350 ?_
                refine lv_icmp_ge (tgt := 360) hx hb dX6_go_353 (by decide) (fun c_60 => ?_) (fun c_60 => ?_)
                · skip
                  have nc_60 : mm ≤ mm := (bn_le (a := mm) (b := mm) (by omega) (by omega)).mp (show nI mm ≤ nI mm from c_60)
                  refine lv_iconst (v := 0) hx hb dX6_go_360 (by decide) ?_
                  refine lv_iadd hx hb dX6_go_361 ?_
                  refine lv_topi (fun x_61 ex_61 => ?_)
                  obtain rfl : x_61 = nI ((cG mm av dp) + 0) := ex_61.trans (nI_add (cG mm av dp) 0)
                  refine lv_istore (lv' := [(8, .int (nI ((cG mm av dp) + 0))), (6, .long (lN ((sG wn mm av dp) + 0))), (5, .int (nI mm)), (4, .int (nI (nx dp))), (0, .ref (rt 51)), (1, .int 1), (2, .int wo), (3, .int (nI dp))]) hx hb dX6_go_362 hl (by decide) rfl (fun ls hl => ?_)
                  refine lv_lload hx hb dX6_go_364 (lv_at hl 1 rfl) ?_
                  refine lv_aload_n hx hb dX6_go_366 rfl (lv_at hl 4 rfl) ?_
                  refine g_get (ci := 6) (v := .ref (rt 38)) (C := RX6) (T := TX6) (N := 51) hx hb hts uB6 hown hK hP (hC.1.1 51 (by decide)) F_m rfl 38 (by decide) wm_130 (hC.2.2.2 38 (by decide)) dX6_go_367 ?_
                  refine lv_iload_n hx hb dX6_go_370 rfl (lv_at hl 7 rfl) ?_
                  refine lv_iconst (v := 1) hx hb dX6_go_371 (by decide) ?_
                  refine lv_iadd hx hb dX6_go_372 ?_
                  refine lv_topi (fun x_62 ex_62 => ?_)
                  obtain rfl : x_62 = nI (dp + 1) := ex_62.trans (nI_add dp 1)
                  refine g_lald hx hb hK hP (hC.1.1 38 (by decide)) ((hSm.at hC.1 (by decide) (by decide)).trans ((hSma.at hC.1 (by decide) (by decide)).trans F_mostAt)) (vp_in_nI (by omega) (by decide)) dX6_go_373 ?_
                  refine lv_topl (fun x_63 ex_63 => ?_)
                  rw [nI_clamp (by omega)] at ex_63
                  obtain ⟨hme, hmb9⟩ := hma (dp + 1) (by omega)
                  obtain rfl : x_63 = lN (ma (dp + 1)) := ex_63.trans hme
                  refine lv_ladd hx hb dX6_go_374 ?_
                  refine lv_topl (fun x_64 ex_64 => ?_)
                  obtain rfl : x_64 = lN (((sG wn mm av dp) + 0) + (ma (dp + 1))) := ex_64.trans (lN_add ((sG wn mm av dp) + 0) (ma (dp + 1)))
                  refine lv_lstore (lv' := [(9, .long (lN (((sG wn mm av dp) + 0) + (ma (dp + 1))))), (8, .int (nI ((cG mm av dp) + 0))), (6, .long (lN ((sG wn mm av dp) + 0))), (5, .int (nI mm)), (4, .int (nI (nx dp))), (0, .ref (rt 51)), (1, .int 1), (2, .int wo), (3, .int (nI dp))]) hx hb dX6_go_375 hl (by decide) rfl (fun ls hl => ?_)
                  refine lv_iload hx hb dX6_go_377 (lv_at hl 1 rfl) ?_
                  refine lv_aload_n hx hb dX6_go_379 rfl (lv_at hl 5 rfl) ?_
                  refine g_get (ci := 6) (v := .int (nI sp)) (C := RX6) (T := TX6) (N := 51) hx hb hts uB6 hown hK hP (hC.1.1 51 (by decide)) F_m rfl 39 (by decide) wm_131 I_spots dX6_go_380 ?_
                  refine lv_iadd hx hb dX6_go_383 ?_
                  refine lv_topi (fun x_65 ex_65 => ?_)
                  obtain rfl : x_65 = nI (((cG mm av dp) + 0) + sp) := ex_65.trans (nI_add ((cG mm av dp) + 0) sp)
                  refine lv_iload_n hx hb dX6_go_384 rfl (lv_at hl 8 rfl) ?_
                  refine lv_isub hx hb dX6_go_385 ?_
                  refine lv_topi (fun x_66 ex_66 => ?_)
                  obtain rfl : x_66 = nI ((((cG mm av dp) + 0) + sp) - dp) := ex_66.trans (pk_sub (a := (((cG mm av dp) + 0) + sp)) (b := dp) (by omega))
                  refine lv_iconst (v := 1) hx hb dX6_go_386 (by decide) ?_
                  refine lv_isub hx hb dX6_go_387 ?_
                  refine lv_topi (fun x_67 ex_67 => ?_)
                  obtain rfl : x_67 = nI (((((cG mm av dp) + 0) + sp) - dp) - 1) := ex_67.trans (pk_sub (a := ((((cG mm av dp) + 0) + sp) - dp)) (b := 1) (by omega))
                  refine lv_istore (lv' := [(11, .int (nI (((((cG mm av dp) + 0) + sp) - dp) - 1))), (9, .long (lN (((sG wn mm av dp) + 0) + (ma (dp + 1))))), (8, .int (nI ((cG mm av dp) + 0))), (6, .long (lN ((sG wn mm av dp) + 0))), (5, .int (nI mm)), (4, .int (nI (nx dp))), (0, .ref (rt 51)), (1, .int 1), (2, .int wo), (3, .int (nI dp))]) hx hb dX6_go_388 hl (by decide) rfl (fun ls hl => ?_)
                  refine lv_aload_n hx hb dX6_go_390 rfl (lv_at hl 6 rfl) ?_
                  refine g_get (ci := 6) (v := .int 1) (C := RX6) (T := TX6) (N := 51) hx hb hts uB6 hown hK hP (hC.1.1 51 (by decide)) F_m rfl 45 (by decide) wm_147 I_hasBest dX6_go_391 ?_
                  refine lv_if_eq (tgt := 446) hx hb dX6_go_394 (by decide) (fun h9 => absurd h9 (by decide)) (fun _ => ?_)
                  refine lv_lload hx hb dX6_go_397 (lv_at hl 1 rfl) ?_
                  refine lv_aload_n hx hb dX6_go_399 rfl (lv_at hl 6 rfl) ?_
                  refine g_get (ci := 6) (v := .long (lN bs)) (C := RX6) (T := TX6) (N := 51) hx hb hts uB6 hown hK hP (hC.1.1 51 (by decide)) F_m rfl 43 (by decide) wm_148 I_bestSum dX6_go_400 ?_
                  refine W.lcmp hx hb dX6_go_403 ?_
                  refine lv_topi (fun x_68 ex_68 => ?_)
                  refine lv_if_lt (tgt := 442) hx hb dX6_go_404 (by decide) (fun c_69 => ?_) (fun c_69 => ?_)
                  · skip
                    have nc_69 : (((sG wn mm av dp) + 0) + (ma (dp + 1))) < bs := (bl_lt (a := (((sG wn mm av dp) + 0) + (ma (dp + 1)))) (b := bs) (by omega) (by omega) ex_68).mp c_69
                    refine lv_iconst (v := 1) hx hb dX6_go_442 (by decide) ?_
                    refine lv_goto (tgt := 447) hx hb dX6_go_443 (by decide) ?_
                    refine lv_istore (lv' := [(12, .int 1), (11, .int (nI (((((cG mm av dp) + 0) + sp) - dp) - 1))), (9, .long (lN (((sG wn mm av dp) + 0) + (ma (dp + 1))))), (8, .int (nI ((cG mm av dp) + 0))), (6, .long (lN ((sG wn mm av dp) + 0))), (5, .int (nI mm)), (4, .int (nI (nx dp))), (0, .ref (rt 51)), (1, .int 1), (2, .int wo), (3, .int (nI dp))]) hx hb dX6_go_447 hl (by decide) rfl (fun ls hl => ?_)
                    refine lv_iload hx hb dX6_go_449 (lv_at hl 0 rfl) ?_
                    refine lv_if_eq (tgt := 457) hx hb dX6_go_451 (by decide) (fun h9 => absurd h9 (by decide)) (fun _ => ?_)
                    refine lv_goto (tgt := 23) hx hb dX6_go_454 (by decide) ?_
                    exact iha _ (by rw [← hmua]; exact muG_dec (by omega)) _ _ _ ⟨f_14, fmva, _, _, _, _, _, dp, av, (va_up nx dp (nx dp + 1)), rfl, hSm, hFs, hC, F_next, F_at, F_filledTo, F_upTo, F_given, by omega, (by rw [eg_13]; exact hpt.inc (by omega)), (hah.skip hds (fun hk q => by have b1 := sG_bd (a := tg) hmd (sp - (dp + 1)) (dp + 1) (by omega); have b2 := @cG_bd mm sp tg (sp - (dp + 1)) (dp + 1) (by omega); have b3 := (show sG wn mm tg (dp + 1) = sG wn mm av dp + 0 by rw [sG, ← q, if_neg (by omega), sG_cg dp hk]); have b4 := (show cG mm tg (dp + 1) = cG mm av dp + 0 by rw [cG, ← q, if_neg (by omega), cG_cg dp hk]); omega)), hP, hS, lv_sub hl [7, 8, 9, 10] rfl⟩
                  · skip
                    have nc_69 : ¬ ((((sG wn mm av dp) + 0) + (ma (dp + 1))) < bs) := fun q => c_69 ((bl_lt (a := (((sG wn mm av dp) + 0) + (ma (dp + 1)))) (b := bs) (by omega) (by omega) ex_68).mpr q)
                    refine lv_lload hx hb dX6_go_407 (lv_at hl 1 rfl) ?_
                    refine lv_aload_n hx hb dX6_go_409 rfl (lv_at hl 6 rfl) ?_
                    refine g_get (ci := 6) (v := .long (lN bs)) (C := RX6) (T := TX6) (N := 51) hx hb hts uB6 hown hK hP (hC.1.1 51 (by decide)) F_m rfl 43 (by decide) wm_148 I_bestSum dX6_go_410 ?_
                    refine W.lcmp hx hb dX6_go_413 ?_
                    refine lv_topi (fun x_70 ex_70 => ?_)
                    refine lv_if_ne (tgt := 446) hx hb dX6_go_414 (by decide) (fun c_71 => ?_) (fun c_71 => ?_)
                    · skip
                      have nc_71 : ¬ ((((sG wn mm av dp) + 0) + (ma (dp + 1))) = bs) := fun q => c_71 ((bl_eq (a := (((sG wn mm av dp) + 0) + (ma (dp + 1)))) (b := bs) (by omega) (by omega) ex_70).mpr q)
                      refine lv_iconst (v := 0) hx hb dX6_go_446 (by decide) ?_
                      refine lv_istore (lv' := [(12, .int 0), (11, .int (nI (((((cG mm av dp) + 0) + sp) - dp) - 1))), (9, .long (lN (((sG wn mm av dp) + 0) + (ma (dp + 1))))), (8, .int (nI ((cG mm av dp) + 0))), (6, .long (lN ((sG wn mm av dp) + 0))), (5, .int (nI mm)), (4, .int (nI (nx dp))), (0, .ref (rt 51)), (1, .int 1), (2, .int wo), (3, .int (nI dp))]) hx hb dX6_go_447 hl (by decide) rfl (fun ls hl => ?_)
                      refine lv_iload hx hb dX6_go_449 (lv_at hl 0 rfl) ?_
                      refine lv_if_eq (tgt := 457) hx hb dX6_go_451 (by decide) (fun _ => ?_) (fun h9 => absurd (by decide) h9)
                      refine lv_aload_n hx hb dX6_go_457 rfl (lv_at hl 7 rfl) ?_
                      refine g_get (ci := 6) (v := .ref (rt 40)) (C := RX6) (T := TX6) (N := 51) hx hb hts uB6 hown hK hP (hC.1.1 51 (by decide)) F_m rfl 40 (by decide) wm_62 (hC.2.2.2 40 (by decide)) dX6_go_458 ?_
                      refine lv_iload_n hx hb dX6_go_461 rfl (lv_at hl 10 rfl) ?_
                      refine lv_iload hx hb dX6_go_462 (lv_at hl 5 rfl) ?_
                      refine g_iast hx hb hK hP hD hS (hC.1.1 40 (by decide)) F_at (vp_in_nI (by omega) (by decide)) dX6_go_464 (fun H locs hP hD hS => ?_)
                      obtain ⟨g_72, eg_72⟩ : ∃ z9, z9 = upd ga (Int32.toNatClampNeg (nI dp)) (nI mm) := ⟨_, rfl⟩
                      rw [← eg_72] at hP hD
                      obtain ⟨f_73, ef_73⟩ : ∃ z9, z9 = va_up f_14 (rt 40) (.inl (K 0, 5, .inl g_72)) := ⟨_, rfl⟩
                      rw [← ef_73] at hP hD
                      have F_next : f_73 (rt 48) = .inl (K 0, 5, .inl g_13) := by rw [ef_73, va_up_ne _ _ (fun q => absurd (hC.1.2 48 (by decide) 40 (by decide) q) (by decide))]; exact F_next
                      have F_filledTo : f_73 (rt 42) = .inl (K 0, 5, .inl gf) := by rw [ef_73, va_up_ne _ _ (fun q => absurd (hC.1.2 42 (by decide) 40 (by decide) q) (by decide))]; exact F_filledTo
                      have F_upTo : f_73 (rt 41) = .inl (K 1, 5, .inr (.inl gu)) := by rw [ef_73, va_up_ne _ _ (fun q => absurd (hC.1.2 41 (by decide) 40 (by decide) q) (by decide))]; exact F_upTo
                      have F_given : f_73 (rt 46) = .inl (K 0, 4, .inl gg0) := by rw [ef_73, va_up_ne _ _ (fun q => absurd (hC.1.2 46 (by decide) 40 (by decide) q) (by decide))]; exact F_given
                      have F_m : f_73 (rt 51) = .inr (6, fmva) := by rw [ef_73, va_up_ne _ _ (fun q => absurd (hC.1.2 51 (by decide) 40 (by decide) q) (by decide))]; exact F_m
                      have F_at : f_73 (rt 40) = .inl (K 0, 5, .inl g_72) := by rw [ef_73, va_up_self]
                      have hC : mC rt L f_73 fmva := ⟨hC.1, F_m, hC.2.2.1, hC.2.2.2⟩
                      have hSm : gSm rt [40, 41, 42, 46, 48] f_6 f_73 := by rw [ef_73]; exact hSm.up (by decide) _
                      rw [nI_clamp (by omega)] at eg_72
                      refine lv_iinc (v := nI (dp + 1)) (lv' := [(3, .int (nI (dp + 1))), (12, .int 0), (11, .int (nI (((((cG mm av dp) + 0) + sp) - dp) - 1))), (9, .long (lN (((sG wn mm av dp) + 0) + (ma (dp + 1))))), (8, .int (nI ((cG mm av dp) + 0))), (6, .long (lN ((sG wn mm av dp) + 0))), (5, .int (nI mm)), (4, .int (nI (nx dp))), (0, .ref (rt 51)), (1, .int 1), (2, .int wo)]) hx hb dX6_go_465 hl (k := 10) rfl (by exact nI_1 _) (by decide) rfl (fun ls hl => ?_)
                      refine lv_aload_n hx hb dX6_go_468 rfl (lv_at hl 8 rfl) ?_
                      refine g_get (ci := 6) (v := .ref (rt 48)) (C := RX6) (T := TX6) (N := 51) hx hb hts uB6 hown hK hP (hC.1.1 51 (by decide)) F_m rfl 48 (by decide) wm_140 (hC.2.2.2 48 (by decide)) dX6_go_469 ?_
                      refine lv_iload_n hx hb dX6_go_472 rfl (lv_at hl 0 rfl) ?_
                      refine lv_iconst (v := 0) hx hb dX6_go_473 (by decide) ?_
                      refine g_iast hx hb hK hP hD hS (hC.1.1 48 (by decide)) F_next (vp_in_nI (by omega) (by decide)) dX6_go_474 (fun H locs hP hD hS => ?_)
                      obtain ⟨g_74, eg_74⟩ : ∃ z9, z9 = upd g_13 (Int32.toNatClampNeg (nI (dp + 1))) 0 := ⟨_, rfl⟩
                      rw [← eg_74] at hP hD
                      obtain ⟨f_75, ef_75⟩ : ∃ z9, z9 = va_up f_73 (rt 48) (.inl (K 0, 5, .inl g_74)) := ⟨_, rfl⟩
                      rw [← ef_75] at hP hD
                      have F_at : f_75 (rt 40) = .inl (K 0, 5, .inl g_72) := by rw [ef_75, va_up_ne _ _ (fun q => absurd (hC.1.2 40 (by decide) 48 (by decide) q) (by decide))]; exact F_at
                      have F_filledTo : f_75 (rt 42) = .inl (K 0, 5, .inl gf) := by rw [ef_75, va_up_ne _ _ (fun q => absurd (hC.1.2 42 (by decide) 48 (by decide) q) (by decide))]; exact F_filledTo
                      have F_upTo : f_75 (rt 41) = .inl (K 1, 5, .inr (.inl gu)) := by rw [ef_75, va_up_ne _ _ (fun q => absurd (hC.1.2 41 (by decide) 48 (by decide) q) (by decide))]; exact F_upTo
                      have F_given : f_75 (rt 46) = .inl (K 0, 4, .inl gg0) := by rw [ef_75, va_up_ne _ _ (fun q => absurd (hC.1.2 46 (by decide) 48 (by decide) q) (by decide))]; exact F_given
                      have F_m : f_75 (rt 51) = .inr (6, fmva) := by rw [ef_75, va_up_ne _ _ (fun q => absurd (hC.1.2 51 (by decide) 48 (by decide) q) (by decide))]; exact F_m
                      have F_next : f_75 (rt 48) = .inl (K 0, 5, .inl g_74) := by rw [ef_75, va_up_self]
                      have hC : mC rt L f_75 fmva := ⟨hC.1, F_m, hC.2.2.1, hC.2.2.2⟩
                      have hSm : gSm rt [40, 41, 42, 46, 48] f_6 f_75 := by rw [ef_75]; exact hSm.up (by decide) _
                      rw [nI_clamp (by omega)] at eg_74
                      refine lv_aload_n hx hb dX6_go_475 rfl (lv_at hl 8 rfl) ?_
                      refine g_get (ci := 6) (v := .ref (rt 41)) (C := RX6) (T := TX6) (N := 51) hx hb hts uB6 hown hK hP (hC.1.1 51 (by decide)) F_m rfl 41 (by decide) wm_141 (hC.2.2.2 41 (by decide)) dX6_go_476 ?_
                      refine lv_iload_n hx hb dX6_go_479 rfl (lv_at hl 0 rfl) ?_
                      refine lv_lload hx hb dX6_go_480 (lv_at hl 5 rfl) ?_
                      refine g_last hx hb hK hP hD hS (hC.1.1 41 (by decide)) F_upTo (vp_in_nI (by omega) (by decide)) dX6_go_482 (fun H locs hP hD hS => ?_)
                      obtain ⟨g_76, eg_76⟩ : ∃ z9, z9 = vp_updL gu (Int32.toNatClampNeg (nI (dp + 1))) (lN ((sG wn mm av dp) + 0)) := ⟨_, rfl⟩
                      rw [← eg_76] at hP hD
                      obtain ⟨f_77, ef_77⟩ : ∃ z9, z9 = va_up f_75 (rt 41) (.inl (K 1, 5, .inr (.inl g_76))) := ⟨_, rfl⟩
                      rw [← ef_77] at hP hD
                      have F_next : f_77 (rt 48) = .inl (K 0, 5, .inl g_74) := by rw [ef_77, va_up_ne _ _ (fun q => absurd (hC.1.2 48 (by decide) 41 (by decide) q) (by decide))]; exact F_next
                      have F_at : f_77 (rt 40) = .inl (K 0, 5, .inl g_72) := by rw [ef_77, va_up_ne _ _ (fun q => absurd (hC.1.2 40 (by decide) 41 (by decide) q) (by decide))]; exact F_at
                      have F_filledTo : f_77 (rt 42) = .inl (K 0, 5, .inl gf) := by rw [ef_77, va_up_ne _ _ (fun q => absurd (hC.1.2 42 (by decide) 41 (by decide) q) (by decide))]; exact F_filledTo
                      have F_given : f_77 (rt 46) = .inl (K 0, 4, .inl gg0) := by rw [ef_77, va_up_ne _ _ (fun q => absurd (hC.1.2 46 (by decide) 41 (by decide) q) (by decide))]; exact F_given
                      have F_m : f_77 (rt 51) = .inr (6, fmva) := by rw [ef_77, va_up_ne _ _ (fun q => absurd (hC.1.2 51 (by decide) 41 (by decide) q) (by decide))]; exact F_m
                      have F_upTo : f_77 (rt 41) = .inl (K 1, 5, .inr (.inl g_76)) := by rw [ef_77, va_up_self]
                      have hC : mC rt L f_77 fmva := ⟨hC.1, F_m, hC.2.2.1, hC.2.2.2⟩
                      have hSm : gSm rt [40, 41, 42, 46, 48] f_6 f_77 := by rw [ef_77]; exact hSm.up (by decide) _
                      rw [nI_clamp (by omega)] at eg_76
                      refine lv_aload_n hx hb dX6_go_483 rfl (lv_at hl 8 rfl) ?_
                      refine g_get (ci := 6) (v := .ref (rt 42)) (C := RX6) (T := TX6) (N := 51) hx hb hts uB6 hown hK hP (hC.1.1 51 (by decide)) F_m rfl 42 (by decide) wm_142 (hC.2.2.2 42 (by decide)) dX6_go_484 ?_
                      refine lv_iload_n hx hb dX6_go_487 rfl (lv_at hl 0 rfl) ?_
                      refine lv_iload hx hb dX6_go_488 (lv_at hl 4 rfl) ?_
                      refine g_iast hx hb hK hP hD hS (hC.1.1 42 (by decide)) F_filledTo (vp_in_nI (by omega) (by decide)) dX6_go_490 (fun H locs hP hD hS => ?_)
                      obtain ⟨g_78, eg_78⟩ : ∃ z9, z9 = upd gf (Int32.toNatClampNeg (nI (dp + 1))) (nI ((cG mm av dp) + 0)) := ⟨_, rfl⟩
                      rw [← eg_78] at hP hD
                      obtain ⟨f_79, ef_79⟩ : ∃ z9, z9 = va_up f_77 (rt 42) (.inl (K 0, 5, .inl g_78)) := ⟨_, rfl⟩
                      rw [← ef_79] at hP hD
                      have F_next : f_79 (rt 48) = .inl (K 0, 5, .inl g_74) := by rw [ef_79, va_up_ne _ _ (fun q => absurd (hC.1.2 48 (by decide) 42 (by decide) q) (by decide))]; exact F_next
                      have F_at : f_79 (rt 40) = .inl (K 0, 5, .inl g_72) := by rw [ef_79, va_up_ne _ _ (fun q => absurd (hC.1.2 40 (by decide) 42 (by decide) q) (by decide))]; exact F_at
                      have F_upTo : f_79 (rt 41) = .inl (K 1, 5, .inr (.inl g_76)) := by rw [ef_79, va_up_ne _ _ (fun q => absurd (hC.1.2 41 (by decide) 42 (by decide) q) (by decide))]; exact F_upTo
                      have F_given : f_79 (rt 46) = .inl (K 0, 4, .inl gg0) := by rw [ef_79, va_up_ne _ _ (fun q => absurd (hC.1.2 46 (by decide) 42 (by decide) q) (by decide))]; exact F_given
                      have F_m : f_79 (rt 51) = .inr (6, fmva) := by rw [ef_79, va_up_ne _ _ (fun q => absurd (hC.1.2 51 (by decide) 42 (by decide) q) (by decide))]; exact F_m
                      have F_filledTo : f_79 (rt 42) = .inl (K 0, 5, .inl g_78) := by rw [ef_79, va_up_self]
                      have hC : mC rt L f_79 fmva := ⟨hC.1, F_m, hC.2.2.1, hC.2.2.2⟩
                      have hSm : gSm rt [40, 41, 42, 46, 48] f_6 f_79 := by rw [ef_79]; exact hSm.up (by decide) _
                      rw [nI_clamp (by omega)] at eg_78
                      refine lv_goto (tgt := 23) hx hb dX6_go_491 (by decide) ?_
                      exact iha _ (by rw [← hmua]; exact muG_des (by omega) hmm (by omega)) _ _ _ ⟨f_79, fmva, _, _, _, _, _, (dp + 1), (va_up av dp mm), (va_up (va_up nx dp (nx dp + 1)) (dp + 1) 0), rfl, hSm, hFs, hC, F_next, F_at, F_filledTo, F_upTo, F_given, by omega, (by rw [eg_72, eg_74, eg_13, eg_78, eg_76]; exact (hpt.inc (by omega)).des (i := mm) (by omega) (fun h => by omega) (by first | rfl | exact congrArg lN (by rw [if_neg (by omega)])) (by first | rfl | exact congrArg nI (by rw [if_neg (by omega)]))), (by rw [show va_up av dp mm = va_up av dp (nx dp) by rw [show mm = nx dp by omega]]; exact hah.desc hds), hP, hS, lv_sub hl [8, 9, 10, 0] rfl⟩
                    · skip
                      have nc_71 : (((sG wn mm av dp) + 0) + (ma (dp + 1))) = bs := (bl_eq (a := (((sG wn mm av dp) + 0) + (ma (dp + 1)))) (b := bs) (by omega) (by omega) ex_70).mp c_71
                      refine lv_iload_n hx hb dX6_go_417 rfl (lv_at hl 7 rfl) ?_
                      refine lv_if_eq (tgt := 433) hx hb dX6_go_418 (by decide) (fun h9 => absurd h9 (by decide)) (fun _ => ?_)
                      refine lv_iload hx hb dX6_go_421 (lv_at hl 0 rfl) ?_
                      refine lv_aload_n hx hb dX6_go_423 rfl (lv_at hl 6 rfl) ?_
                      refine g_get (ci := 6) (v := .int (nI bf)) (C := RX6) (T := TX6) (N := 51) hx hb hts uB6 hown hK hP (hC.1.1 51 (by decide)) F_m rfl 44 (by decide) wm_149 I_bestFilled dX6_go_424 ?_
                      refine lv_icmp_ge (tgt := 446) hx hb dX6_go_427 (by decide) (fun c_80 => ?_) (fun c_80 => ?_)
                      · skip
                        have nc_80 : bf ≤ (((((cG mm av dp) + 0) + sp) - dp) - 1) := (bn_le (a := bf) (b := (((((cG mm av dp) + 0) + sp) - dp) - 1)) (by omega) (by omega)).mp (show nI bf ≤ nI (((((cG mm av dp) + 0) + sp) - dp) - 1) from c_80)
                        refine lv_iconst (v := 0) hx hb dX6_go_446 (by decide) ?_
                        refine lv_istore (lv' := [(12, .int 0), (11, .int (nI (((((cG mm av dp) + 0) + sp) - dp) - 1))), (9, .long (lN (((sG wn mm av dp) + 0) + (ma (dp + 1))))), (8, .int (nI ((cG mm av dp) + 0))), (6, .long (lN ((sG wn mm av dp) + 0))), (5, .int (nI mm)), (4, .int (nI (nx dp))), (0, .ref (rt 51)), (1, .int 1), (2, .int wo), (3, .int (nI dp))]) hx hb dX6_go_447 hl (by decide) rfl (fun ls hl => ?_)
                        refine lv_iload hx hb dX6_go_449 (lv_at hl 0 rfl) ?_
                        refine lv_if_eq (tgt := 457) hx hb dX6_go_451 (by decide) (fun _ => ?_) (fun h9 => absurd (by decide) h9)
                        refine lv_aload_n hx hb dX6_go_457 rfl (lv_at hl 7 rfl) ?_
                        refine g_get (ci := 6) (v := .ref (rt 40)) (C := RX6) (T := TX6) (N := 51) hx hb hts uB6 hown hK hP (hC.1.1 51 (by decide)) F_m rfl 40 (by decide) wm_62 (hC.2.2.2 40 (by decide)) dX6_go_458 ?_
                        refine lv_iload_n hx hb dX6_go_461 rfl (lv_at hl 10 rfl) ?_
                        refine lv_iload hx hb dX6_go_462 (lv_at hl 5 rfl) ?_
                        refine g_iast hx hb hK hP hD hS (hC.1.1 40 (by decide)) F_at (vp_in_nI (by omega) (by decide)) dX6_go_464 (fun H locs hP hD hS => ?_)
                        obtain ⟨g_81, eg_81⟩ : ∃ z9, z9 = upd ga (Int32.toNatClampNeg (nI dp)) (nI mm) := ⟨_, rfl⟩
                        rw [← eg_81] at hP hD
                        obtain ⟨f_82, ef_82⟩ : ∃ z9, z9 = va_up f_14 (rt 40) (.inl (K 0, 5, .inl g_81)) := ⟨_, rfl⟩
                        rw [← ef_82] at hP hD
                        have F_next : f_82 (rt 48) = .inl (K 0, 5, .inl g_13) := by rw [ef_82, va_up_ne _ _ (fun q => absurd (hC.1.2 48 (by decide) 40 (by decide) q) (by decide))]; exact F_next
                        have F_filledTo : f_82 (rt 42) = .inl (K 0, 5, .inl gf) := by rw [ef_82, va_up_ne _ _ (fun q => absurd (hC.1.2 42 (by decide) 40 (by decide) q) (by decide))]; exact F_filledTo
                        have F_upTo : f_82 (rt 41) = .inl (K 1, 5, .inr (.inl gu)) := by rw [ef_82, va_up_ne _ _ (fun q => absurd (hC.1.2 41 (by decide) 40 (by decide) q) (by decide))]; exact F_upTo
                        have F_given : f_82 (rt 46) = .inl (K 0, 4, .inl gg0) := by rw [ef_82, va_up_ne _ _ (fun q => absurd (hC.1.2 46 (by decide) 40 (by decide) q) (by decide))]; exact F_given
                        have F_m : f_82 (rt 51) = .inr (6, fmva) := by rw [ef_82, va_up_ne _ _ (fun q => absurd (hC.1.2 51 (by decide) 40 (by decide) q) (by decide))]; exact F_m
                        have F_at : f_82 (rt 40) = .inl (K 0, 5, .inl g_81) := by rw [ef_82, va_up_self]
                        have hC : mC rt L f_82 fmva := ⟨hC.1, F_m, hC.2.2.1, hC.2.2.2⟩
                        have hSm : gSm rt [40, 41, 42, 46, 48] f_6 f_82 := by rw [ef_82]; exact hSm.up (by decide) _
                        rw [nI_clamp (by omega)] at eg_81
                        refine lv_iinc (v := nI (dp + 1)) (lv' := [(3, .int (nI (dp + 1))), (12, .int 0), (11, .int (nI (((((cG mm av dp) + 0) + sp) - dp) - 1))), (9, .long (lN (((sG wn mm av dp) + 0) + (ma (dp + 1))))), (8, .int (nI ((cG mm av dp) + 0))), (6, .long (lN ((sG wn mm av dp) + 0))), (5, .int (nI mm)), (4, .int (nI (nx dp))), (0, .ref (rt 51)), (1, .int 1), (2, .int wo)]) hx hb dX6_go_465 hl (k := 10) rfl (by exact nI_1 _) (by decide) rfl (fun ls hl => ?_)
                        refine lv_aload_n hx hb dX6_go_468 rfl (lv_at hl 8 rfl) ?_
                        refine g_get (ci := 6) (v := .ref (rt 48)) (C := RX6) (T := TX6) (N := 51) hx hb hts uB6 hown hK hP (hC.1.1 51 (by decide)) F_m rfl 48 (by decide) wm_140 (hC.2.2.2 48 (by decide)) dX6_go_469 ?_
                        refine lv_iload_n hx hb dX6_go_472 rfl (lv_at hl 0 rfl) ?_
                        refine lv_iconst (v := 0) hx hb dX6_go_473 (by decide) ?_
                        refine g_iast hx hb hK hP hD hS (hC.1.1 48 (by decide)) F_next (vp_in_nI (by omega) (by decide)) dX6_go_474 (fun H locs hP hD hS => ?_)
                        obtain ⟨g_83, eg_83⟩ : ∃ z9, z9 = upd g_13 (Int32.toNatClampNeg (nI (dp + 1))) 0 := ⟨_, rfl⟩
                        rw [← eg_83] at hP hD
                        obtain ⟨f_84, ef_84⟩ : ∃ z9, z9 = va_up f_82 (rt 48) (.inl (K 0, 5, .inl g_83)) := ⟨_, rfl⟩
                        rw [← ef_84] at hP hD
                        have F_at : f_84 (rt 40) = .inl (K 0, 5, .inl g_81) := by rw [ef_84, va_up_ne _ _ (fun q => absurd (hC.1.2 40 (by decide) 48 (by decide) q) (by decide))]; exact F_at
                        have F_filledTo : f_84 (rt 42) = .inl (K 0, 5, .inl gf) := by rw [ef_84, va_up_ne _ _ (fun q => absurd (hC.1.2 42 (by decide) 48 (by decide) q) (by decide))]; exact F_filledTo
                        have F_upTo : f_84 (rt 41) = .inl (K 1, 5, .inr (.inl gu)) := by rw [ef_84, va_up_ne _ _ (fun q => absurd (hC.1.2 41 (by decide) 48 (by decide) q) (by decide))]; exact F_upTo
                        have F_given : f_84 (rt 46) = .inl (K 0, 4, .inl gg0) := by rw [ef_84, va_up_ne _ _ (fun q => absurd (hC.1.2 46 (by decide) 48 (by decide) q) (by decide))]; exact F_given
                        have F_m : f_84 (rt 51) = .inr (6, fmva) := by rw [ef_84, va_up_ne _ _ (fun q => absurd (hC.1.2 51 (by decide) 48 (by decide) q) (by decide))]; exact F_m
                        have F_next : f_84 (rt 48) = .inl (K 0, 5, .inl g_83) := by rw [ef_84, va_up_self]
                        have hC : mC rt L f_84 fmva := ⟨hC.1, F_m, hC.2.2.1, hC.2.2.2⟩
                        have hSm : gSm rt [40, 41, 42, 46, 48] f_6 f_84 := by rw [ef_84]; exact hSm.up (by decide) _
                        rw [nI_clamp (by omega)] at eg_83
                        refine lv_aload_n hx hb dX6_go_475 rfl (lv_at hl 8 rfl) ?_
                        refine g_get (ci := 6) (v := .ref (rt 41)) (C := RX6) (T := TX6) (N := 51) hx hb hts uB6 hown hK hP (hC.1.1 51 (by decide)) F_m rfl 41 (by decide) wm_141 (hC.2.2.2 41 (by decide)) dX6_go_476 ?_
                        refine lv_iload_n hx hb dX6_go_479 rfl (lv_at hl 0 rfl) ?_
                        refine lv_lload hx hb dX6_go_480 (lv_at hl 5 rfl) ?_
                        refine g_last hx hb hK hP hD hS (hC.1.1 41 (by decide)) F_upTo (vp_in_nI (by omega) (by decide)) dX6_go_482 (fun H locs hP hD hS => ?_)
                        obtain ⟨g_85, eg_85⟩ : ∃ z9, z9 = vp_updL gu (Int32.toNatClampNeg (nI (dp + 1))) (lN ((sG wn mm av dp) + 0)) := ⟨_, rfl⟩
                        rw [← eg_85] at hP hD
                        obtain ⟨f_86, ef_86⟩ : ∃ z9, z9 = va_up f_84 (rt 41) (.inl (K 1, 5, .inr (.inl g_85))) := ⟨_, rfl⟩
                        rw [← ef_86] at hP hD
                        have F_next : f_86 (rt 48) = .inl (K 0, 5, .inl g_83) := by rw [ef_86, va_up_ne _ _ (fun q => absurd (hC.1.2 48 (by decide) 41 (by decide) q) (by decide))]; exact F_next
                        have F_at : f_86 (rt 40) = .inl (K 0, 5, .inl g_81) := by rw [ef_86, va_up_ne _ _ (fun q => absurd (hC.1.2 40 (by decide) 41 (by decide) q) (by decide))]; exact F_at
                        have F_filledTo : f_86 (rt 42) = .inl (K 0, 5, .inl gf) := by rw [ef_86, va_up_ne _ _ (fun q => absurd (hC.1.2 42 (by decide) 41 (by decide) q) (by decide))]; exact F_filledTo
                        have F_given : f_86 (rt 46) = .inl (K 0, 4, .inl gg0) := by rw [ef_86, va_up_ne _ _ (fun q => absurd (hC.1.2 46 (by decide) 41 (by decide) q) (by decide))]; exact F_given
                        have F_m : f_86 (rt 51) = .inr (6, fmva) := by rw [ef_86, va_up_ne _ _ (fun q => absurd (hC.1.2 51 (by decide) 41 (by decide) q) (by decide))]; exact F_m
                        have F_upTo : f_86 (rt 41) = .inl (K 1, 5, .inr (.inl g_85)) := by rw [ef_86, va_up_self]
                        have hC : mC rt L f_86 fmva := ⟨hC.1, F_m, hC.2.2.1, hC.2.2.2⟩
                        have hSm : gSm rt [40, 41, 42, 46, 48] f_6 f_86 := by rw [ef_86]; exact hSm.up (by decide) _
                        rw [nI_clamp (by omega)] at eg_85
                        refine lv_aload_n hx hb dX6_go_483 rfl (lv_at hl 8 rfl) ?_
                        refine g_get (ci := 6) (v := .ref (rt 42)) (C := RX6) (T := TX6) (N := 51) hx hb hts uB6 hown hK hP (hC.1.1 51 (by decide)) F_m rfl 42 (by decide) wm_142 (hC.2.2.2 42 (by decide)) dX6_go_484 ?_
                        refine lv_iload_n hx hb dX6_go_487 rfl (lv_at hl 0 rfl) ?_
                        refine lv_iload hx hb dX6_go_488 (lv_at hl 4 rfl) ?_
                        refine g_iast hx hb hK hP hD hS (hC.1.1 42 (by decide)) F_filledTo (vp_in_nI (by omega) (by decide)) dX6_go_490 (fun H locs hP hD hS => ?_)
                        obtain ⟨g_87, eg_87⟩ : ∃ z9, z9 = upd gf (Int32.toNatClampNeg (nI (dp + 1))) (nI ((cG mm av dp) + 0)) := ⟨_, rfl⟩
                        rw [← eg_87] at hP hD
                        obtain ⟨f_88, ef_88⟩ : ∃ z9, z9 = va_up f_86 (rt 42) (.inl (K 0, 5, .inl g_87)) := ⟨_, rfl⟩
                        rw [← ef_88] at hP hD
                        have F_next : f_88 (rt 48) = .inl (K 0, 5, .inl g_83) := by rw [ef_88, va_up_ne _ _ (fun q => absurd (hC.1.2 48 (by decide) 42 (by decide) q) (by decide))]; exact F_next
                        have F_at : f_88 (rt 40) = .inl (K 0, 5, .inl g_81) := by rw [ef_88, va_up_ne _ _ (fun q => absurd (hC.1.2 40 (by decide) 42 (by decide) q) (by decide))]; exact F_at
                        have F_upTo : f_88 (rt 41) = .inl (K 1, 5, .inr (.inl g_85)) := by rw [ef_88, va_up_ne _ _ (fun q => absurd (hC.1.2 41 (by decide) 42 (by decide) q) (by decide))]; exact F_upTo
                        have F_given : f_88 (rt 46) = .inl (K 0, 4, .inl gg0) := by rw [ef_88, va_up_ne _ _ (fun q => absurd (hC.1.2 46 (by decide) 42 (by decide) q) (by decide))]; exact F_given
                        have F_m : f_88 (rt 51) = .inr (6, fmva) := by rw [ef_88, va_up_ne _ _ (fun q => absurd (hC.1.2 51 (by decide) 42 (by decide) q) (by decide))]; exact F_m
                        have F_filledTo : f_88 (rt 42) = .inl (K 0, 5, .inl g_87) := by rw [ef_88, va_up_self]
                        have hC : mC rt L f_88 fmva := ⟨hC.1, F_m, hC.2.2.1, hC.2.2.2⟩
                        have hSm : gSm rt [40, 41, 42, 46, 48] f_6 f_88 := by rw [ef_88]; exact hSm.up (by decide) _
                        rw [nI_clamp (by omega)] at eg_87
                        refine lv_goto (tgt := 23) hx hb dX6_go_491 (by decide) ?_
                        exact iha _ (by rw [← hmua]; exact muG_des (by omega) hmm (by omega)) _ _ _ ⟨f_88, fmva, _, _, _, _, _, (dp + 1), (va_up av dp mm), (va_up (va_up nx dp (nx dp + 1)) (dp + 1) 0), rfl, hSm, hFs, hC, F_next, F_at, F_filledTo, F_upTo, F_given, by omega, (by rw [eg_81, eg_83, eg_13, eg_87, eg_85]; exact (hpt.inc (by omega)).des (i := mm) (by omega) (fun h => by omega) (by first | rfl | exact congrArg lN (by rw [if_neg (by omega)])) (by first | rfl | exact congrArg nI (by rw [if_neg (by omega)]))), (by rw [show va_up av dp mm = va_up av dp (nx dp) by rw [show mm = nx dp by omega]]; exact hah.desc hds), hP, hS, lv_sub hl [8, 9, 10, 0] rfl⟩
                      · skip
                        have nc_80 : ¬ (bf ≤ (((((cG mm av dp) + 0) + sp) - dp) - 1)) := fun q => c_80 (show nI bf ≤ nI (((((cG mm av dp) + 0) + sp) - dp) - 1) from (bn_le (a := bf) (b := (((((cG mm av dp) + 0) + sp) - dp) - 1)) (by omega) (by omega)).mpr q)
                        refine lv_goto (tgt := 442) hx hb dX6_go_430 (by decide) ?_
                        refine lv_iconst (v := 1) hx hb dX6_go_442 (by decide) ?_
                        refine lv_goto (tgt := 447) hx hb dX6_go_443 (by decide) ?_
                        refine lv_istore (lv' := [(12, .int 1), (11, .int (nI (((((cG mm av dp) + 0) + sp) - dp) - 1))), (9, .long (lN (((sG wn mm av dp) + 0) + (ma (dp + 1))))), (8, .int (nI ((cG mm av dp) + 0))), (6, .long (lN ((sG wn mm av dp) + 0))), (5, .int (nI mm)), (4, .int (nI (nx dp))), (0, .ref (rt 51)), (1, .int 1), (2, .int wo), (3, .int (nI dp))]) hx hb dX6_go_447 hl (by decide) rfl (fun ls hl => ?_)
                        refine lv_iload hx hb dX6_go_449 (lv_at hl 0 rfl) ?_
                        refine lv_if_eq (tgt := 457) hx hb dX6_go_451 (by decide) (fun h9 => absurd h9 (by decide)) (fun _ => ?_)
                        refine lv_goto (tgt := 23) hx hb dX6_go_454 (by decide) ?_
                        exact iha _ (by rw [← hmua]; exact muG_dec (by omega)) _ _ _ ⟨f_14, fmva, _, _, _, _, _, dp, av, (va_up nx dp (nx dp + 1)), rfl, hSm, hFs, hC, F_next, F_at, F_filledTo, F_upTo, F_given, by omega, (by rw [eg_13]; exact hpt.inc (by omega)), (hah.skip hds (fun hk q => by have b1 := sG_bd (a := tg) hmd (sp - (dp + 1)) (dp + 1) (by omega); have b2 := @cG_bd mm sp tg (sp - (dp + 1)) (dp + 1) (by omega); have b3 := (show sG wn mm tg (dp + 1) = sG wn mm av dp + 0 by rw [sG, ← q, if_neg (by omega), sG_cg dp hk]); have b4 := (show cG mm tg (dp + 1) = cG mm av dp + 0 by rw [cG, ← q, if_neg (by omega), cG_cg dp hk]); omega)), hP, hS, lv_sub hl [7, 8, 9, 10] rfl⟩
                · skip
                  have nc_60 : ¬ (mm ≤ mm) := fun q => c_60 (show nI mm ≤ nI mm from (bn_le (a := mm) (b := mm) (by omega) (by omega)).mpr q)
                  exact (show False by omega).elim
              · skip
                have nc_57 : ¬ (mm ≤ mm) := fun q => c_57 (show nI mm ≤ nI mm from (bn_le (a := mm) (b := mm) (by omega) (by omega)).mpr q)
                exact (show False by omega).elim
            · skip
              have nc_55 : ¬ (mm ≤ mm) := fun q => c_55 (show nI mm ≤ nI mm from (bn_le (a := mm) (b := mm) (by omega) (by omega)).mpr q)
              exact (show False by omega).elim
        · skip
          have nc_10 : ¬ ((nx dp) ≤ mm) := fun q => c_10 (show nI (nx dp) ≤ nI mm from (bn_le (a := (nx dp)) (b := mm) (by omega) (by omega)).mpr q)
          have hah2 := hah.pop (fun d hd q => by subst hd; have h8 := q.2 hds; have h9 := (htg d hds).1; omega)
          have hd1 := hah2.1
          obtain ⟨x_89, ex_89⟩ : ∃ y : Int32, y = (nI dp) + (-1) := ⟨_, rfl⟩
          refine lv_iinc (v := x_89) (lv' := [(3, .int x_89), (4, .int (nI (nx dp))), (0, .ref (rt 51)), (1, .int 1), (2, .int wo)]) hx hb dX6_go_235 hl (k := 4) rfl (by rw [ex_89]; rfl) (by decide) rfl (fun ls hl => ?_)
          obtain rfl : x_89 = nI (dp - 1) := ex_89.trans (by rw [← Int32.sub_eq_add_neg]; exact pk_sub (a := dp) (b := 1) hd1)
          refine lv_goto (tgt := 23) hx hb dX6_go_238 (by decide) ?_
          exact iha _ (by rw [← hmua]; exact muG_pop (by omega)) _ _ _ ⟨fva, fmva, _, _, _, _, _, (dp - 1), av, nx, rfl, hSm, hFs, hC, F_next, F_at, F_filledTo, F_upTo, F_given, by omega, hpt.pop (by omega), hah2.2, hP, hS, lv_sub hl [2, 3, 4, 0] rfl⟩
      · skip
        have nc_8 : dp = sp := (bn_eq (a := dp) (b := sp) (by omega) (by omega)).mp (show nI dp = nI sp from c_8)
        have hds : dp = sp := by omega
        refine lv_aload_n hx hb dX6_go_35 rfl (lv_at hl 0 rfl) ?_
        refine g_get (ci := 6) (v := .int 1) (C := RX6) (T := TX6) (N := 51) hx hb hts uB6 hown hK hP (hC.1.1 51 (by decide)) F_m rfl 45 (by decide) wm_147 I_hasBest dX6_go_36 ?_
        refine lv_if_eq (tgt := 83) hx hb dX6_go_39 (by decide) (fun h9 => absurd h9 (by decide)) (fun _ => ?_)
        refine lv_aload_n hx hb dX6_go_42 rfl (lv_at hl 0 rfl) ?_
        refine g_get (ci := 6) (v := .ref (rt 41)) (C := RX6) (T := TX6) (N := 51) hx hb hts uB6 hown hK hP (hC.1.1 51 (by decide)) F_m rfl 41 (by decide) wm_141 (hC.2.2.2 41 (by decide)) dX6_go_43 ?_
        refine lv_iload_n hx hb dX6_go_46 rfl (lv_at hl 3 rfl) ?_
        refine g_lald hx hb hK hP (hC.1.1 41 (by decide)) F_upTo (vp_in_nI (by omega) (by decide)) dX6_go_47 ?_
        refine lv_topl (fun x_90 ex_90 => ?_)
        rw [nI_clamp (by omega)] at ex_90
        obtain rfl : x_90 = lN (sG wn mm av dp) := ex_90.trans (hpt.2.2.1 dp (Nat.le_refl _))
        refine lv_aload_n hx hb dX6_go_48 rfl (lv_at hl 0 rfl) ?_
        refine g_get (ci := 6) (v := .long (lN bs)) (C := RX6) (T := TX6) (N := 51) hx hb hts uB6 hown hK hP (hC.1.1 51 (by decide)) F_m rfl 43 (by decide) wm_148 I_bestSum dX6_go_49 ?_
        refine W.lcmp hx hb dX6_go_52 ?_
        refine lv_topi (fun x_91 ex_91 => ?_)
        refine lv_if_gt (tgt := 83) hx hb dX6_go_53 (by decide) (fun c_92 => ?_) (fun c_92 => ?_)
        · skip
          have nc_92 : bs < (sG wn mm av dp) := (bl_gt (a := (sG wn mm av dp)) (b := bs) (by omega) (by omega) ex_91).mp c_92
          refine lv_iconst (v := 1) hx hb dX6_go_83 (by decide) ?_
          refine lv_goto (tgt := 88) hx hb dX6_go_84 (by decide) ?_
          refine lv_istore (lv' := [(4, .int 1), (0, .ref (rt 51)), (1, .int 1), (2, .int wo), (3, .int (nI dp))]) hx hb dX6_go_88 hl (by decide) rfl (fun ls hl => ?_)
          refine lv_iload_n hx hb dX6_go_90 rfl (lv_at hl 2 rfl) ?_
          refine lv_if_eq (tgt := 178) hx hb dX6_go_91 (by decide) (fun h9 => absurd h9 (by decide)) (fun _ => ?_)
          refine lv_aload_n hx hb dX6_go_94 rfl (lv_at hl 1 rfl) ?_
          refine g_get (ci := 6) (v := .ref (rt 41)) (C := RX6) (T := TX6) (N := 51) hx hb hts uB6 hown hK hP (hC.1.1 51 (by decide)) F_m rfl 41 (by decide) wm_141 (hC.2.2.2 41 (by decide)) dX6_go_95 ?_
          refine lv_iload_n hx hb dX6_go_98 rfl (lv_at hl 4 rfl) ?_
          refine g_lald hx hb hK hP (hC.1.1 41 (by decide)) F_upTo (vp_in_nI (by omega) (by decide)) dX6_go_99 ?_
          refine lv_topl (fun x_93 ex_93 => ?_)
          rw [nI_clamp (by omega)] at ex_93
          obtain rfl : x_93 = lN (sG wn mm av dp) := ex_93.trans (hpt.2.2.1 dp (Nat.le_refl _))
          refine lv_aload_n hx hb dX6_go_100 rfl (lv_at hl 1 rfl) ?_
          refine g_get (ci := 6) (v := .long (lN bs)) (C := RX6) (T := TX6) (N := 51) hx hb hts uB6 hown hK hP (hC.1.1 51 (by decide)) F_m rfl 43 (by decide) wm_148 I_bestSum dX6_go_101 ?_
          refine W.lcmp hx hb dX6_go_104 ?_
          refine lv_topi (fun x_94 ex_94 => ?_)
          refine lv_if_ne (tgt := 178) hx hb dX6_go_105 (by decide) (fun c_95 => ?_) (fun c_95 => ?_)
          · skip
            have nc_95 : ¬ ((sG wn mm av dp) = bs) := fun q => c_95 ((bl_eq (a := (sG wn mm av dp)) (b := bs) (by omega) (by omega) ex_94).mpr q)
            refine lv_iload hx hb dX6_go_178 (lv_at hl 0 rfl) ?_
            refine lv_if_eq (tgt := 212) hx hb dX6_go_180 (by decide) (fun h9 => absurd h9 (by decide)) (fun _ => ?_)
            refine lv_iload_n hx hb dX6_go_183 rfl (lv_at hl 2 rfl) ?_
            refine lv_if_ne (tgt := 212) hx hb dX6_go_184 (by decide) (fun _ => ?_) (fun h9 => absurd h9 (by decide))
            have hd1 : 1 ≤ dp := by omega
            have hah2 := hah.pop (fun d hd q => by subst hd; exact (absurd (show sG wn mm av d = bs by rw [hbs, ← hds]; exact sG_cg d q.1) nc_95))
            obtain ⟨x_96, ex_96⟩ : ∃ y : Int32, y = (nI dp) + (-1) := ⟨_, rfl⟩
            refine lv_iinc (v := x_96) (lv' := [(3, .int x_96), (4, .int 1), (0, .ref (rt 51)), (1, .int 1), (2, .int wo)]) hx hb dX6_go_212 hl (k := 4) rfl (by rw [ex_96]; rfl) (by decide) rfl (fun ls hl => ?_)
            obtain rfl : x_96 = nI (dp - 1) := ex_96.trans (by rw [← Int32.sub_eq_add_neg]; exact pk_sub (a := dp) (b := 1) hd1)
            refine lv_goto (tgt := 23) hx hb dX6_go_215 (by decide) ?_
            exact iha _ (by rw [← hmua]; exact muG_pop (by omega)) _ _ _ ⟨fva, fmva, _, _, _, _, _, (dp - 1), av, nx, rfl, hSm, hFs, hC, F_next, F_at, F_filledTo, F_upTo, F_given, by omega, hpt.pop (by omega), hah2.2, hP, hS, lv_sub hl [2, 3, 4, 0] rfl⟩
          · skip
            have nc_95 : (sG wn mm av dp) = bs := (bl_eq (a := (sG wn mm av dp)) (b := bs) (by omega) (by omega) ex_94).mp c_95
            refine lv_aload_n hx hb dX6_go_108 rfl (lv_at hl 1 rfl) ?_
            refine g_get (ci := 6) (v := .ref (rt 42)) (C := RX6) (T := TX6) (N := 51) hx hb hts uB6 hown hK hP (hC.1.1 51 (by decide)) F_m rfl 42 (by decide) wm_142 (hC.2.2.2 42 (by decide)) dX6_go_109 ?_
            refine lv_iload_n hx hb dX6_go_112 rfl (lv_at hl 4 rfl) ?_
            refine g_iald hx hb hK hP (hC.1.1 42 (by decide)) F_filledTo (vp_in_nI (by omega) (by decide)) dX6_go_113 ?_
            refine lv_topi (fun x_97 ex_97 => ?_)
            rw [nI_clamp (by omega)] at ex_97
            obtain rfl : x_97 = nI (cG mm av dp) := ex_97.trans (hpt.2.2.2.1 dp (Nat.le_refl _))
            refine lv_aload_n hx hb dX6_go_114 rfl (lv_at hl 1 rfl) ?_
            refine g_get (ci := 6) (v := .int (nI bf)) (C := RX6) (T := TX6) (N := 51) hx hb hts uB6 hown hK hP (hC.1.1 51 (by decide)) F_m rfl 44 (by decide) wm_149 I_bestFilled dX6_go_115 ?_
            refine lv_icmp_ne (tgt := 178) hx hb dX6_go_118 (by decide) (fun c_98 => ?_) (fun c_98 => ?_)
            · skip
              have nc_98 : ¬ ((cG mm av dp) = bf) := fun q => c_98 (show nI (cG mm av dp) = nI bf from (bn_eq (a := (cG mm av dp)) (b := bf) (by omega) (by omega)).mpr q)
              refine lv_iload hx hb dX6_go_178 (lv_at hl 0 rfl) ?_
              refine lv_if_eq (tgt := 212) hx hb dX6_go_180 (by decide) (fun h9 => absurd h9 (by decide)) (fun _ => ?_)
              refine lv_iload_n hx hb dX6_go_183 rfl (lv_at hl 2 rfl) ?_
              refine lv_if_ne (tgt := 212) hx hb dX6_go_184 (by decide) (fun _ => ?_) (fun h9 => absurd h9 (by decide))
              have hd1 : 1 ≤ dp := by omega
              have hah2 := hah.pop (fun d hd q => by subst hd; exact (absurd (show cG mm av d = bf by rw [hbf, ← hds]; exact cG_cg d q.1) nc_98))
              obtain ⟨x_99, ex_99⟩ : ∃ y : Int32, y = (nI dp) + (-1) := ⟨_, rfl⟩
              refine lv_iinc (v := x_99) (lv' := [(3, .int x_99), (4, .int 1), (0, .ref (rt 51)), (1, .int 1), (2, .int wo)]) hx hb dX6_go_212 hl (k := 4) rfl (by rw [ex_99]; rfl) (by decide) rfl (fun ls hl => ?_)
              obtain rfl : x_99 = nI (dp - 1) := ex_99.trans (by rw [← Int32.sub_eq_add_neg]; exact pk_sub (a := dp) (b := 1) hd1)
              refine lv_goto (tgt := 23) hx hb dX6_go_215 (by decide) ?_
              exact iha _ (by rw [← hmua]; exact muG_pop (by omega)) _ _ _ ⟨fva, fmva, _, _, _, _, _, (dp - 1), av, nx, rfl, hSm, hFs, hC, F_next, F_at, F_filledTo, F_upTo, F_given, by omega, hpt.pop (by omega), hah2.2, hP, hS, lv_sub hl [2, 3, 4, 0] rfl⟩
            · skip
              have nc_98 : (cG mm av dp) = bf := (bn_eq (a := (cG mm av dp)) (b := bf) (by omega) (by omega)).mp (show nI (cG mm av dp) = nI bf from c_98)
              refine lv_iconst (v := 0) hx hb dX6_go_121 (by decide) ?_
              refine lv_istore (lv' := [(5, .int 0), (4, .int 1), (0, .ref (rt 51)), (1, .int 1), (2, .int wo), (3, .int (nI dp))]) hx hb dX6_go_122 hl (by decide) rfl (fun ls hl => ?_)
              have hSmb := hSm
              have hFsb := hFs
              refine k_lx (pcx := 177) (fun n H locs ls => ∃ (fvb : Nat → va_E) (fmvb : List Value) (gg : Nat → Int32) (j : Nat), sp - j = n ∧ gSm rt [46] fva fvb ∧ fmS [] fmva fmvb ∧ mC rt L fvb fmvb ∧ fvb (rt 46) = .inl (K 0, 4, .inl gg) ∧ (j ≤ sp) ∧ (∀ k, k < j → gg k = (-2) ∨ ∃ i : Nat, i < mm ∧ gg k = g_mayBe i) ∧ va_P (dC, dI) vwCl (va_pl L fvb) H ∧ va_S A s.heap H locs ∧ lv_has ls 13 [(0, .ref (rt 51)), (5, .int (nI j))]) (fun H locs ls => ∃ (fvb : Nat → va_E) (fmvb : List Value) (gg : Nat → Int32) (j : Nat), gSm rt [46] fva fvb ∧ fmS [] fmva fmvb ∧ mC rt L fvb fmvb ∧ fvb (rt 46) = .inl (K 0, 4, .inl gg) ∧ (∀ k, k < sp → gg k = (-2) ∨ ∃ i : Nat, i < mm ∧ gg k = g_mayBe i) ∧ va_P (dC, dI) vwCl (va_pl L fvb) H ∧ va_S A s.heap H locs ∧ lv_has ls 13 [(0, .ref (rt 51)), (5, .int (nI j))]) (fun H locs ls hI => ?_) (fun n H locs ls hI hEb ihb => ?_) _ _ _ _ ⟨fva, fmva, _, 0, rfl, gSm.rf, fmS.rf, hC, F_given, Nat.zero_le _, fun k hk => absurd hk (Nat.not_lt_zero k), hP, hS, lv_sub hl [2, 0] rfl⟩
              · skip
                obtain ⟨fvb, fmvb, gg, j, hSm, hFs, hC, NF_given, hgg, hP, hS, hl⟩ := hI
                have F_next : fvb (rt 48) = .inl (K 0, 5, .inl gn) := (hSm.at hC.1 (by decide) (by decide)).trans F_next
                have F_at : fvb (rt 40) = .inl (K 0, 5, .inl ga) := (hSm.at hC.1 (by decide) (by decide)).trans F_at
                have F_filledTo : fvb (rt 42) = .inl (K 0, 5, .inl gf) := (hSm.at hC.1 (by decide) (by decide)).trans F_filledTo
                have F_upTo : fvb (rt 41) = .inl (K 1, 5, .inr (.inl gu)) := (hSm.at hC.1 (by decide) (by decide)).trans F_upTo
                have F_given := NF_given
                have F_m : fvb (rt 51) = .inr (6, fmvb) := hC.2.1
                have I_may : fmvb[35]? = some (.int (nI mm)) := (hFs.2 35 (by decide)).trans I_may
                have I_spots : fmvb[39]? = some (.int (nI sp)) := (hFs.2 39 (by decide)).trans I_spots
                have I_hasBest : fmvb[45]? = some (.int 1) := (hFs.2 45 (by decide)).trans I_hasBest
                have I_bestSum : fmvb[43]? = some (.long (lN bs)) := (hFs.2 43 (by decide)).trans I_bestSum
                have I_bestFilled : fmvb[44]? = some (.int (nI bf)) := (hFs.2 44 (by decide)).trans I_bestFilled
                have hD : va_D A (va_pl L fvb) := g_D hLn (fun a h => by rw [← hAe]; exact h) fvb
                have hSmLb := hSm
                have hSm : gSm rt [40, 41, 42, 46, 48] f_6 fvb := hSmb.tr hSm (by decide) (by decide)
                have hFs : fmS [] fm fmvb := hFsb.tr hFs (by decide) (by decide)
                exact W.vret hx hb hr (fun t ht hW => ⟨⟨fvb, rfl, ⟨_, _, _, _, _, hSma.tr hSm (by decide) (by decide), F_next, F_at, F_filledTo, F_given, F_upTo, hgg⟩, by show va_P (dC, dI) vwCl (va_pl L fvb) t.heap; rw [ht]; exact hP⟩, hS.F ht⟩) hS.2.2 dX6_go_177
              · skip
                obtain ⟨fvb, fmvb, gg, j, hmub, hSm, hFs, hC, NF_given, hj, hgg, hP, hS, hl⟩ := hI
                have F_given := NF_given
                have F_m : fvb (rt 51) = .inr (6, fmvb) := hC.2.1
                have I_may : fmvb[35]? = some (.int (nI mm)) := (hFs.2 35 (by decide)).trans I_may
                have I_spots : fmvb[39]? = some (.int (nI sp)) := (hFs.2 39 (by decide)).trans I_spots
                have I_hasBest : fmvb[45]? = some (.int 1) := (hFs.2 45 (by decide)).trans I_hasBest
                have I_bestSum : fmvb[43]? = some (.long (lN bs)) := (hFs.2 43 (by decide)).trans I_bestSum
                have I_bestFilled : fmvb[44]? = some (.int (nI bf)) := (hFs.2 44 (by decide)).trans I_bestFilled
                have hD : va_D A (va_pl L fvb) := g_D hLn (fun a h => by rw [← hAe]; exact h) fvb
                refine lv_iload hx hb dX6_go_124 (lv_at hl 1 rfl) ?_
                refine lv_aload_n hx hb dX6_go_126 rfl (lv_at hl 0 rfl) ?_
                refine g_get (ci := 6) (v := .int (nI sp)) (C := RX6) (T := TX6) (N := 51) hx hb hts uB6 hown hK hP (hC.1.1 51 (by decide)) F_m rfl 39 (by decide) wm_131 I_spots dX6_go_127 ?_
                refine lv_icmp_ge (tgt := 177) hx hb dX6_go_130 (by decide) (fun c_100 => ?_) (fun c_100 => ?_)
                · skip
                  have nc_100 : sp ≤ j := (bn_le (a := sp) (b := j) (by omega) (by omega)).mp (show nI sp ≤ nI j from c_100)
                  exact hEb _ _ _ ⟨fvb, fmvb, _, j, hSm, hFs, hC, F_given, (fun k hk => hgg k (by omega)), hP, hS, lv_sub hl [0, 1] rfl⟩
                · skip
                  have nc_100 : ¬ (sp ≤ j) := fun q => c_100 (show nI sp ≤ nI j from (bn_le (a := sp) (b := j) (by omega) (by omega)).mpr q)
                  refine lv_aload_n hx hb dX6_go_133 rfl (lv_at hl 0 rfl) ?_
                  refine g_get (ci := 6) (v := .ref (rt 46)) (C := RX6) (T := TX6) (N := 51) hx hb hts uB6 hown hK hP (hC.1.1 51 (by decide)) F_m rfl 46 (by decide) wm_150 (hC.2.2.2 46 (by decide)) dX6_go_134 ?_
                  refine lv_iload hx hb dX6_go_137 (lv_at hl 1 rfl) ?_
                  refine lv_aload_n hx hb dX6_go_139 rfl (lv_at hl 0 rfl) ?_
                  refine g_get (ci := 6) (v := .ref (rt 40)) (C := RX6) (T := TX6) (N := 51) hx hb hts uB6 hown hK hP (hC.1.1 51 (by decide)) F_m rfl 40 (by decide) wm_62 (hC.2.2.2 40 (by decide)) dX6_go_140 ?_
                  refine lv_iload hx hb dX6_go_143 (lv_at hl 1 rfl) ?_
                  refine g_iald hx hb hK hP (hC.1.1 40 (by decide)) ((hSm.at hC.1 (by decide) (by decide)).trans F_at) (vp_in_nI (by omega) (by decide)) dX6_go_145 ?_
                  refine lv_topi (fun x_101 ex_101 => ?_)
                  rw [nI_clamp (by omega)] at ex_101
                  obtain rfl : x_101 = nI (av j) := ex_101.trans (hpt.1 j (by omega))
                  have hav : av j ≤ mm := (hpt.2.1 j (by omega)).1
                  refine lv_aload_n hx hb dX6_go_146 rfl (lv_at hl 0 rfl) ?_
                  refine g_get (ci := 6) (v := .int (nI mm)) (C := RX6) (T := TX6) (N := 51) hx hb hts uB6 hown hK hP (hC.1.1 51 (by decide)) F_m rfl 35 (by decide) wm_63 I_may dX6_go_147 ?_
                  refine lv_icmp_ge (tgt := 168) hx hb dX6_go_150 (by decide) (fun c_102 => ?_) (fun c_102 => ?_)
                  · skip
                    have nc_102 : mm ≤ (av j) := (bn_le (a := mm) (b := (av j)) (by omega) (by omega)).mp (show nI mm ≤ nI (av j) from c_102)
                    refine lv_bipush (v := (-2)) hx hb dX6_go_168 (by decide) ?_
                    refine g_iast hx hb hK hP hD hS (hC.1.1 46 (by decide)) F_given (vp_in_nI (by omega) (by decide)) dX6_go_170 (fun H locs hP hD hS => ?_)
                    obtain ⟨g_103, eg_103⟩ : ∃ z9, z9 = upd gg (Int32.toNatClampNeg (nI j)) (-2) := ⟨_, rfl⟩
                    rw [← eg_103] at hP hD
                    obtain ⟨f_104, ef_104⟩ : ∃ z9, z9 = va_up fvb (rt 46) (.inl (K 0, 4, .inl g_103)) := ⟨_, rfl⟩
                    rw [← ef_104] at hP hD
                    have F_m : f_104 (rt 51) = .inr (6, fmvb) := by rw [ef_104, va_up_ne _ _ (fun q => absurd (hC.1.2 51 (by decide) 46 (by decide) q) (by decide))]; exact F_m
                    have F_given : f_104 (rt 46) = .inl (K 0, 4, .inl g_103) := by rw [ef_104, va_up_self]
                    have hC : mC rt L f_104 fmvb := ⟨hC.1, F_m, hC.2.2.1, hC.2.2.2⟩
                    have hSm : gSm rt [46] fva f_104 := by rw [ef_104]; exact hSm.up (by decide) _
                    rw [nI_clamp (by omega)] at eg_103
                    refine lv_iinc (v := nI (j + 1)) (lv' := [(5, .int (nI (j + 1))), (0, .ref (rt 51))]) hx hb dX6_go_171 hl (k := 1) rfl (by exact nI_1 _) (by decide) rfl (fun ls hl => ?_)
                    refine lv_goto (tgt := 124) hx hb dX6_go_174 (by decide) ?_
                    have hgg2 : ∀ k, k < j + 1 → g_103 k = (-2) ∨ ∃ i : Nat, i < mm ∧ g_103 k = g_mayBe i := fun k hk => by
                      by_cases q : k = j
                      · rw [q, eg_103, pk_us]; exact Or.inl rfl
                      · rw [eg_103, pk_un q]; exact hgg k (by omega)
                    exact ihb _ (by omega) _ _ _ ⟨f_104, fmvb, _, (j + 1), rfl, hSm, hFs, hC, F_given, by omega, hgg2, hP, hS, lv_sub hl [1, 0] rfl⟩
                  · skip
                    have nc_102 : ¬ (mm ≤ (av j)) := fun q => c_102 (show nI mm ≤ nI (av j) from (bn_le (a := mm) (b := (av j)) (by omega) (by omega)).mpr q)
                    refine lv_aload_n hx hb dX6_go_153 rfl (lv_at hl 0 rfl) ?_
                    refine g_get (ci := 6) (v := .ref (rt 36)) (C := RX6) (T := TX6) (N := 51) hx hb hts uB6 hown hK hP (hC.1.1 51 (by decide)) F_m rfl 36 (by decide) wm_64 (hC.2.2.2 36 (by decide)) dX6_go_154 ?_
                    refine lv_aload_n hx hb dX6_go_157 rfl (lv_at hl 0 rfl) ?_
                    refine g_get (ci := 6) (v := .ref (rt 40)) (C := RX6) (T := TX6) (N := 51) hx hb hts uB6 hown hK hP (hC.1.1 51 (by decide)) F_m rfl 40 (by decide) wm_62 (hC.2.2.2 40 (by decide)) dX6_go_158 ?_
                    refine lv_iload hx hb dX6_go_161 (lv_at hl 1 rfl) ?_
                    refine g_iald hx hb hK hP (hC.1.1 40 (by decide)) ((hSm.at hC.1 (by decide) (by decide)).trans F_at) (vp_in_nI (by omega) (by decide)) dX6_go_163 ?_
                    refine lv_topi (fun x_105 ex_105 => ?_)
                    rw [nI_clamp (by omega)] at ex_105
                    obtain rfl : x_105 = nI (av j) := ex_105.trans (hpt.1 j (by omega))
                    have hav : av j ≤ mm := (hpt.2.1 j (by omega)).1
                    refine g_iald hx hb hK hP (hC.1.1 36 (by decide)) ((hSm.at hC.1 (by decide) (by decide)).trans ((hSmb.at hC.1 (by decide) (by decide)).trans ((hSma.at hC.1 (by decide) (by decide)).trans F_mayBe))) (vp_in_nI (by omega) (by decide)) dX6_go_164 ?_
                    refine lv_topi (fun x_106 ex_106 => ?_)
                    rw [nI_clamp (by omega)] at ex_106
                    subst ex_106
                    refine lv_goto (tgt := 170) hx hb dX6_go_165 (by decide) ?_
                    refine g_iast hx hb hK hP hD hS (hC.1.1 46 (by decide)) F_given (vp_in_nI (by omega) (by decide)) dX6_go_170 (fun H locs hP hD hS => ?_)
                    obtain ⟨g_107, eg_107⟩ : ∃ z9, z9 = upd gg (Int32.toNatClampNeg (nI j)) (g_mayBe (av j)) := ⟨_, rfl⟩
                    rw [← eg_107] at hP hD
                    obtain ⟨f_108, ef_108⟩ : ∃ z9, z9 = va_up fvb (rt 46) (.inl (K 0, 4, .inl g_107)) := ⟨_, rfl⟩
                    rw [← ef_108] at hP hD
                    have F_m : f_108 (rt 51) = .inr (6, fmvb) := by rw [ef_108, va_up_ne _ _ (fun q => absurd (hC.1.2 51 (by decide) 46 (by decide) q) (by decide))]; exact F_m
                    have F_given : f_108 (rt 46) = .inl (K 0, 4, .inl g_107) := by rw [ef_108, va_up_self]
                    have hC : mC rt L f_108 fmvb := ⟨hC.1, F_m, hC.2.2.1, hC.2.2.2⟩
                    have hSm : gSm rt [46] fva f_108 := by rw [ef_108]; exact hSm.up (by decide) _
                    rw [nI_clamp (by omega)] at eg_107
                    refine lv_iinc (v := nI (j + 1)) (lv' := [(5, .int (nI (j + 1))), (0, .ref (rt 51))]) hx hb dX6_go_171 hl (k := 1) rfl (by exact nI_1 _) (by decide) rfl (fun ls hl => ?_)
                    refine lv_goto (tgt := 124) hx hb dX6_go_174 (by decide) ?_
                    have hgg2 : ∀ k, k < j + 1 → g_107 k = (-2) ∨ ∃ i : Nat, i < mm ∧ g_107 k = g_mayBe i := fun k hk => by
                      by_cases q : k = j
                      · rw [q, eg_107, pk_us]; exact Or.inr ⟨av j, by omega, rfl⟩
                      · rw [eg_107, pk_un q]; exact hgg k (by omega)
                    exact ihb _ (by omega) _ _ _ ⟨f_108, fmvb, _, (j + 1), rfl, hSm, hFs, hC, F_given, by omega, hgg2, hP, hS, lv_sub hl [1, 0] rfl⟩
        · skip
          have nc_92 : ¬ (bs < (sG wn mm av dp)) := fun q => c_92 ((bl_gt (a := (sG wn mm av dp)) (b := bs) (by omega) (by omega) ex_91).mpr q)
          refine lv_aload_n hx hb dX6_go_56 rfl (lv_at hl 0 rfl) ?_
          refine g_get (ci := 6) (v := .ref (rt 41)) (C := RX6) (T := TX6) (N := 51) hx hb hts uB6 hown hK hP (hC.1.1 51 (by decide)) F_m rfl 41 (by decide) wm_141 (hC.2.2.2 41 (by decide)) dX6_go_57 ?_
          refine lv_iload_n hx hb dX6_go_60 rfl (lv_at hl 3 rfl) ?_
          refine g_lald hx hb hK hP (hC.1.1 41 (by decide)) F_upTo (vp_in_nI (by omega) (by decide)) dX6_go_61 ?_
          refine lv_topl (fun x_109 ex_109 => ?_)
          rw [nI_clamp (by omega)] at ex_109
          obtain rfl : x_109 = lN (sG wn mm av dp) := ex_109.trans (hpt.2.2.1 dp (Nat.le_refl _))
          refine lv_aload_n hx hb dX6_go_62 rfl (lv_at hl 0 rfl) ?_
          refine g_get (ci := 6) (v := .long (lN bs)) (C := RX6) (T := TX6) (N := 51) hx hb hts uB6 hown hK hP (hC.1.1 51 (by decide)) F_m rfl 43 (by decide) wm_148 I_bestSum dX6_go_63 ?_
          refine W.lcmp hx hb dX6_go_66 ?_
          refine lv_topi (fun x_110 ex_110 => ?_)
          refine lv_if_ne (tgt := 87) hx hb dX6_go_67 (by decide) (fun c_111 => ?_) (fun c_111 => ?_)
          · skip
            have nc_111 : ¬ ((sG wn mm av dp) = bs) := fun q => c_111 ((bl_eq (a := (sG wn mm av dp)) (b := bs) (by omega) (by omega) ex_110).mpr q)
            refine lv_iconst (v := 0) hx hb dX6_go_87 (by decide) ?_
            refine lv_istore (lv' := [(4, .int 0), (0, .ref (rt 51)), (1, .int 1), (2, .int wo), (3, .int (nI dp))]) hx hb dX6_go_88 hl (by decide) rfl (fun ls hl => ?_)
            refine lv_iload_n hx hb dX6_go_90 rfl (lv_at hl 2 rfl) ?_
            refine lv_if_eq (tgt := 178) hx hb dX6_go_91 (by decide) (fun h9 => absurd h9 (by decide)) (fun _ => ?_)
            refine lv_aload_n hx hb dX6_go_94 rfl (lv_at hl 1 rfl) ?_
            refine g_get (ci := 6) (v := .ref (rt 41)) (C := RX6) (T := TX6) (N := 51) hx hb hts uB6 hown hK hP (hC.1.1 51 (by decide)) F_m rfl 41 (by decide) wm_141 (hC.2.2.2 41 (by decide)) dX6_go_95 ?_
            refine lv_iload_n hx hb dX6_go_98 rfl (lv_at hl 4 rfl) ?_
            refine g_lald hx hb hK hP (hC.1.1 41 (by decide)) F_upTo (vp_in_nI (by omega) (by decide)) dX6_go_99 ?_
            refine lv_topl (fun x_112 ex_112 => ?_)
            rw [nI_clamp (by omega)] at ex_112
            obtain rfl : x_112 = lN (sG wn mm av dp) := ex_112.trans (hpt.2.2.1 dp (Nat.le_refl _))
            refine lv_aload_n hx hb dX6_go_100 rfl (lv_at hl 1 rfl) ?_
            refine g_get (ci := 6) (v := .long (lN bs)) (C := RX6) (T := TX6) (N := 51) hx hb hts uB6 hown hK hP (hC.1.1 51 (by decide)) F_m rfl 43 (by decide) wm_148 I_bestSum dX6_go_101 ?_
            refine W.lcmp hx hb dX6_go_104 ?_
            refine lv_topi (fun x_113 ex_113 => ?_)
            refine lv_if_ne (tgt := 178) hx hb dX6_go_105 (by decide) (fun c_114 => ?_) (fun c_114 => ?_)
            · skip
              have nc_114 : ¬ ((sG wn mm av dp) = bs) := fun q => c_114 ((bl_eq (a := (sG wn mm av dp)) (b := bs) (by omega) (by omega) ex_113).mpr q)
              refine lv_iload hx hb dX6_go_178 (lv_at hl 0 rfl) ?_
              refine lv_if_eq (tgt := 212) hx hb dX6_go_180 (by decide) (fun _ => ?_) (fun h9 => absurd (by decide) h9)
              have hd1 : 1 ≤ dp := by omega
              have hah2 := hah.pop (fun d hd q => by subst hd; exact (absurd (show sG wn mm av d = bs by rw [hbs, ← hds]; exact sG_cg d q.1) nc_114))
              obtain ⟨x_115, ex_115⟩ : ∃ y : Int32, y = (nI dp) + (-1) := ⟨_, rfl⟩
              refine lv_iinc (v := x_115) (lv' := [(3, .int x_115), (4, .int 0), (0, .ref (rt 51)), (1, .int 1), (2, .int wo)]) hx hb dX6_go_212 hl (k := 4) rfl (by rw [ex_115]; rfl) (by decide) rfl (fun ls hl => ?_)
              obtain rfl : x_115 = nI (dp - 1) := ex_115.trans (by rw [← Int32.sub_eq_add_neg]; exact pk_sub (a := dp) (b := 1) hd1)
              refine lv_goto (tgt := 23) hx hb dX6_go_215 (by decide) ?_
              exact iha _ (by rw [← hmua]; exact muG_pop (by omega)) _ _ _ ⟨fva, fmva, _, _, _, _, _, (dp - 1), av, nx, rfl, hSm, hFs, hC, F_next, F_at, F_filledTo, F_upTo, F_given, by omega, hpt.pop (by omega), hah2.2, hP, hS, lv_sub hl [2, 3, 4, 0] rfl⟩
            · skip
              have nc_114 : (sG wn mm av dp) = bs := (bl_eq (a := (sG wn mm av dp)) (b := bs) (by omega) (by omega) ex_113).mp c_114
              refine lv_aload_n hx hb dX6_go_108 rfl (lv_at hl 1 rfl) ?_
              refine g_get (ci := 6) (v := .ref (rt 42)) (C := RX6) (T := TX6) (N := 51) hx hb hts uB6 hown hK hP (hC.1.1 51 (by decide)) F_m rfl 42 (by decide) wm_142 (hC.2.2.2 42 (by decide)) dX6_go_109 ?_
              refine lv_iload_n hx hb dX6_go_112 rfl (lv_at hl 4 rfl) ?_
              refine g_iald hx hb hK hP (hC.1.1 42 (by decide)) F_filledTo (vp_in_nI (by omega) (by decide)) dX6_go_113 ?_
              refine lv_topi (fun x_116 ex_116 => ?_)
              rw [nI_clamp (by omega)] at ex_116
              obtain rfl : x_116 = nI (cG mm av dp) := ex_116.trans (hpt.2.2.2.1 dp (Nat.le_refl _))
              refine lv_aload_n hx hb dX6_go_114 rfl (lv_at hl 1 rfl) ?_
              refine g_get (ci := 6) (v := .int (nI bf)) (C := RX6) (T := TX6) (N := 51) hx hb hts uB6 hown hK hP (hC.1.1 51 (by decide)) F_m rfl 44 (by decide) wm_149 I_bestFilled dX6_go_115 ?_
              refine lv_icmp_ne (tgt := 178) hx hb dX6_go_118 (by decide) (fun c_117 => ?_) (fun c_117 => ?_)
              · skip
                have nc_117 : ¬ ((cG mm av dp) = bf) := fun q => c_117 (show nI (cG mm av dp) = nI bf from (bn_eq (a := (cG mm av dp)) (b := bf) (by omega) (by omega)).mpr q)
                refine lv_iload hx hb dX6_go_178 (lv_at hl 0 rfl) ?_
                refine lv_if_eq (tgt := 212) hx hb dX6_go_180 (by decide) (fun _ => ?_) (fun h9 => absurd (by decide) h9)
                have hd1 : 1 ≤ dp := by omega
                have hah2 := hah.pop (fun d hd q => by subst hd; exact (absurd (show cG mm av d = bf by rw [hbf, ← hds]; exact cG_cg d q.1) nc_117))
                obtain ⟨x_118, ex_118⟩ : ∃ y : Int32, y = (nI dp) + (-1) := ⟨_, rfl⟩
                refine lv_iinc (v := x_118) (lv' := [(3, .int x_118), (4, .int 0), (0, .ref (rt 51)), (1, .int 1), (2, .int wo)]) hx hb dX6_go_212 hl (k := 4) rfl (by rw [ex_118]; rfl) (by decide) rfl (fun ls hl => ?_)
                obtain rfl : x_118 = nI (dp - 1) := ex_118.trans (by rw [← Int32.sub_eq_add_neg]; exact pk_sub (a := dp) (b := 1) hd1)
                refine lv_goto (tgt := 23) hx hb dX6_go_215 (by decide) ?_
                exact iha _ (by rw [← hmua]; exact muG_pop (by omega)) _ _ _ ⟨fva, fmva, _, _, _, _, _, (dp - 1), av, nx, rfl, hSm, hFs, hC, F_next, F_at, F_filledTo, F_upTo, F_given, by omega, hpt.pop (by omega), hah2.2, hP, hS, lv_sub hl [2, 3, 4, 0] rfl⟩
              · skip
                have nc_117 : (cG mm av dp) = bf := (bn_eq (a := (cG mm av dp)) (b := bf) (by omega) (by omega)).mp (show nI (cG mm av dp) = nI bf from c_117)
                refine lv_iconst (v := 0) hx hb dX6_go_121 (by decide) ?_
                refine lv_istore (lv' := [(5, .int 0), (4, .int 0), (0, .ref (rt 51)), (1, .int 1), (2, .int wo), (3, .int (nI dp))]) hx hb dX6_go_122 hl (by decide) rfl (fun ls hl => ?_)
                have hSmb := hSm
                have hFsb := hFs
                refine k_lx (pcx := 177) (fun n H locs ls => ∃ (fvb : Nat → va_E) (fmvb : List Value) (gg : Nat → Int32) (j : Nat), sp - j = n ∧ gSm rt [46] fva fvb ∧ fmS [] fmva fmvb ∧ mC rt L fvb fmvb ∧ fvb (rt 46) = .inl (K 0, 4, .inl gg) ∧ (j ≤ sp) ∧ (∀ k, k < j → gg k = (-2) ∨ ∃ i : Nat, i < mm ∧ gg k = g_mayBe i) ∧ va_P (dC, dI) vwCl (va_pl L fvb) H ∧ va_S A s.heap H locs ∧ lv_has ls 13 [(0, .ref (rt 51)), (5, .int (nI j))]) (fun H locs ls => ∃ (fvb : Nat → va_E) (fmvb : List Value) (gg : Nat → Int32) (j : Nat), gSm rt [46] fva fvb ∧ fmS [] fmva fmvb ∧ mC rt L fvb fmvb ∧ fvb (rt 46) = .inl (K 0, 4, .inl gg) ∧ (∀ k, k < sp → gg k = (-2) ∨ ∃ i : Nat, i < mm ∧ gg k = g_mayBe i) ∧ va_P (dC, dI) vwCl (va_pl L fvb) H ∧ va_S A s.heap H locs ∧ lv_has ls 13 [(0, .ref (rt 51)), (5, .int (nI j))]) (fun H locs ls hI => ?_) (fun n H locs ls hI hEb ihb => ?_) _ _ _ _ ⟨fva, fmva, _, 0, rfl, gSm.rf, fmS.rf, hC, F_given, Nat.zero_le _, fun k hk => absurd hk (Nat.not_lt_zero k), hP, hS, lv_sub hl [2, 0] rfl⟩
                · skip
                  obtain ⟨fvb, fmvb, gg, j, hSm, hFs, hC, NF_given, hgg, hP, hS, hl⟩ := hI
                  have F_next : fvb (rt 48) = .inl (K 0, 5, .inl gn) := (hSm.at hC.1 (by decide) (by decide)).trans F_next
                  have F_at : fvb (rt 40) = .inl (K 0, 5, .inl ga) := (hSm.at hC.1 (by decide) (by decide)).trans F_at
                  have F_filledTo : fvb (rt 42) = .inl (K 0, 5, .inl gf) := (hSm.at hC.1 (by decide) (by decide)).trans F_filledTo
                  have F_upTo : fvb (rt 41) = .inl (K 1, 5, .inr (.inl gu)) := (hSm.at hC.1 (by decide) (by decide)).trans F_upTo
                  have F_given := NF_given
                  have F_m : fvb (rt 51) = .inr (6, fmvb) := hC.2.1
                  have I_may : fmvb[35]? = some (.int (nI mm)) := (hFs.2 35 (by decide)).trans I_may
                  have I_spots : fmvb[39]? = some (.int (nI sp)) := (hFs.2 39 (by decide)).trans I_spots
                  have I_hasBest : fmvb[45]? = some (.int 1) := (hFs.2 45 (by decide)).trans I_hasBest
                  have I_bestSum : fmvb[43]? = some (.long (lN bs)) := (hFs.2 43 (by decide)).trans I_bestSum
                  have I_bestFilled : fmvb[44]? = some (.int (nI bf)) := (hFs.2 44 (by decide)).trans I_bestFilled
                  have hD : va_D A (va_pl L fvb) := g_D hLn (fun a h => by rw [← hAe]; exact h) fvb
                  have hSmLb := hSm
                  have hSm : gSm rt [40, 41, 42, 46, 48] f_6 fvb := hSmb.tr hSm (by decide) (by decide)
                  have hFs : fmS [] fm fmvb := hFsb.tr hFs (by decide) (by decide)
                  exact W.vret hx hb hr (fun t ht hW => ⟨⟨fvb, rfl, ⟨_, _, _, _, _, hSma.tr hSm (by decide) (by decide), F_next, F_at, F_filledTo, F_given, F_upTo, hgg⟩, by show va_P (dC, dI) vwCl (va_pl L fvb) t.heap; rw [ht]; exact hP⟩, hS.F ht⟩) hS.2.2 dX6_go_177
                · skip
                  obtain ⟨fvb, fmvb, gg, j, hmub, hSm, hFs, hC, NF_given, hj, hgg, hP, hS, hl⟩ := hI
                  have F_given := NF_given
                  have F_m : fvb (rt 51) = .inr (6, fmvb) := hC.2.1
                  have I_may : fmvb[35]? = some (.int (nI mm)) := (hFs.2 35 (by decide)).trans I_may
                  have I_spots : fmvb[39]? = some (.int (nI sp)) := (hFs.2 39 (by decide)).trans I_spots
                  have I_hasBest : fmvb[45]? = some (.int 1) := (hFs.2 45 (by decide)).trans I_hasBest
                  have I_bestSum : fmvb[43]? = some (.long (lN bs)) := (hFs.2 43 (by decide)).trans I_bestSum
                  have I_bestFilled : fmvb[44]? = some (.int (nI bf)) := (hFs.2 44 (by decide)).trans I_bestFilled
                  have hD : va_D A (va_pl L fvb) := g_D hLn (fun a h => by rw [← hAe]; exact h) fvb
                  refine lv_iload hx hb dX6_go_124 (lv_at hl 1 rfl) ?_
                  refine lv_aload_n hx hb dX6_go_126 rfl (lv_at hl 0 rfl) ?_
                  refine g_get (ci := 6) (v := .int (nI sp)) (C := RX6) (T := TX6) (N := 51) hx hb hts uB6 hown hK hP (hC.1.1 51 (by decide)) F_m rfl 39 (by decide) wm_131 I_spots dX6_go_127 ?_
                  refine lv_icmp_ge (tgt := 177) hx hb dX6_go_130 (by decide) (fun c_119 => ?_) (fun c_119 => ?_)
                  · skip
                    have nc_119 : sp ≤ j := (bn_le (a := sp) (b := j) (by omega) (by omega)).mp (show nI sp ≤ nI j from c_119)
                    exact hEb _ _ _ ⟨fvb, fmvb, _, j, hSm, hFs, hC, F_given, (fun k hk => hgg k (by omega)), hP, hS, lv_sub hl [0, 1] rfl⟩
                  · skip
                    have nc_119 : ¬ (sp ≤ j) := fun q => c_119 (show nI sp ≤ nI j from (bn_le (a := sp) (b := j) (by omega) (by omega)).mpr q)
                    refine lv_aload_n hx hb dX6_go_133 rfl (lv_at hl 0 rfl) ?_
                    refine g_get (ci := 6) (v := .ref (rt 46)) (C := RX6) (T := TX6) (N := 51) hx hb hts uB6 hown hK hP (hC.1.1 51 (by decide)) F_m rfl 46 (by decide) wm_150 (hC.2.2.2 46 (by decide)) dX6_go_134 ?_
                    refine lv_iload hx hb dX6_go_137 (lv_at hl 1 rfl) ?_
                    refine lv_aload_n hx hb dX6_go_139 rfl (lv_at hl 0 rfl) ?_
                    refine g_get (ci := 6) (v := .ref (rt 40)) (C := RX6) (T := TX6) (N := 51) hx hb hts uB6 hown hK hP (hC.1.1 51 (by decide)) F_m rfl 40 (by decide) wm_62 (hC.2.2.2 40 (by decide)) dX6_go_140 ?_
                    refine lv_iload hx hb dX6_go_143 (lv_at hl 1 rfl) ?_
                    refine g_iald hx hb hK hP (hC.1.1 40 (by decide)) ((hSm.at hC.1 (by decide) (by decide)).trans F_at) (vp_in_nI (by omega) (by decide)) dX6_go_145 ?_
                    refine lv_topi (fun x_120 ex_120 => ?_)
                    rw [nI_clamp (by omega)] at ex_120
                    obtain rfl : x_120 = nI (av j) := ex_120.trans (hpt.1 j (by omega))
                    have hav : av j ≤ mm := (hpt.2.1 j (by omega)).1
                    refine lv_aload_n hx hb dX6_go_146 rfl (lv_at hl 0 rfl) ?_
                    refine g_get (ci := 6) (v := .int (nI mm)) (C := RX6) (T := TX6) (N := 51) hx hb hts uB6 hown hK hP (hC.1.1 51 (by decide)) F_m rfl 35 (by decide) wm_63 I_may dX6_go_147 ?_
                    refine lv_icmp_ge (tgt := 168) hx hb dX6_go_150 (by decide) (fun c_121 => ?_) (fun c_121 => ?_)
                    · skip
                      have nc_121 : mm ≤ (av j) := (bn_le (a := mm) (b := (av j)) (by omega) (by omega)).mp (show nI mm ≤ nI (av j) from c_121)
                      refine lv_bipush (v := (-2)) hx hb dX6_go_168 (by decide) ?_
                      refine g_iast hx hb hK hP hD hS (hC.1.1 46 (by decide)) F_given (vp_in_nI (by omega) (by decide)) dX6_go_170 (fun H locs hP hD hS => ?_)
                      obtain ⟨g_122, eg_122⟩ : ∃ z9, z9 = upd gg (Int32.toNatClampNeg (nI j)) (-2) := ⟨_, rfl⟩
                      rw [← eg_122] at hP hD
                      obtain ⟨f_123, ef_123⟩ : ∃ z9, z9 = va_up fvb (rt 46) (.inl (K 0, 4, .inl g_122)) := ⟨_, rfl⟩
                      rw [← ef_123] at hP hD
                      have F_m : f_123 (rt 51) = .inr (6, fmvb) := by rw [ef_123, va_up_ne _ _ (fun q => absurd (hC.1.2 51 (by decide) 46 (by decide) q) (by decide))]; exact F_m
                      have F_given : f_123 (rt 46) = .inl (K 0, 4, .inl g_122) := by rw [ef_123, va_up_self]
                      have hC : mC rt L f_123 fmvb := ⟨hC.1, F_m, hC.2.2.1, hC.2.2.2⟩
                      have hSm : gSm rt [46] fva f_123 := by rw [ef_123]; exact hSm.up (by decide) _
                      rw [nI_clamp (by omega)] at eg_122
                      refine lv_iinc (v := nI (j + 1)) (lv' := [(5, .int (nI (j + 1))), (0, .ref (rt 51))]) hx hb dX6_go_171 hl (k := 1) rfl (by exact nI_1 _) (by decide) rfl (fun ls hl => ?_)
                      refine lv_goto (tgt := 124) hx hb dX6_go_174 (by decide) ?_
                      have hgg2 : ∀ k, k < j + 1 → g_122 k = (-2) ∨ ∃ i : Nat, i < mm ∧ g_122 k = g_mayBe i := fun k hk => by
                        by_cases q : k = j
                        · rw [q, eg_122, pk_us]; exact Or.inl rfl
                        · rw [eg_122, pk_un q]; exact hgg k (by omega)
                      exact ihb _ (by omega) _ _ _ ⟨f_123, fmvb, _, (j + 1), rfl, hSm, hFs, hC, F_given, by omega, hgg2, hP, hS, lv_sub hl [1, 0] rfl⟩
                    · skip
                      have nc_121 : ¬ (mm ≤ (av j)) := fun q => c_121 (show nI mm ≤ nI (av j) from (bn_le (a := mm) (b := (av j)) (by omega) (by omega)).mpr q)
                      refine lv_aload_n hx hb dX6_go_153 rfl (lv_at hl 0 rfl) ?_
                      refine g_get (ci := 6) (v := .ref (rt 36)) (C := RX6) (T := TX6) (N := 51) hx hb hts uB6 hown hK hP (hC.1.1 51 (by decide)) F_m rfl 36 (by decide) wm_64 (hC.2.2.2 36 (by decide)) dX6_go_154 ?_
                      refine lv_aload_n hx hb dX6_go_157 rfl (lv_at hl 0 rfl) ?_
                      refine g_get (ci := 6) (v := .ref (rt 40)) (C := RX6) (T := TX6) (N := 51) hx hb hts uB6 hown hK hP (hC.1.1 51 (by decide)) F_m rfl 40 (by decide) wm_62 (hC.2.2.2 40 (by decide)) dX6_go_158 ?_
                      refine lv_iload hx hb dX6_go_161 (lv_at hl 1 rfl) ?_
                      refine g_iald hx hb hK hP (hC.1.1 40 (by decide)) ((hSm.at hC.1 (by decide) (by decide)).trans F_at) (vp_in_nI (by omega) (by decide)) dX6_go_163 ?_
                      refine lv_topi (fun x_124 ex_124 => ?_)
                      rw [nI_clamp (by omega)] at ex_124
                      obtain rfl : x_124 = nI (av j) := ex_124.trans (hpt.1 j (by omega))
                      have hav : av j ≤ mm := (hpt.2.1 j (by omega)).1
                      refine g_iald hx hb hK hP (hC.1.1 36 (by decide)) ((hSm.at hC.1 (by decide) (by decide)).trans ((hSmb.at hC.1 (by decide) (by decide)).trans ((hSma.at hC.1 (by decide) (by decide)).trans F_mayBe))) (vp_in_nI (by omega) (by decide)) dX6_go_164 ?_
                      refine lv_topi (fun x_125 ex_125 => ?_)
                      rw [nI_clamp (by omega)] at ex_125
                      subst ex_125
                      refine lv_goto (tgt := 170) hx hb dX6_go_165 (by decide) ?_
                      refine g_iast hx hb hK hP hD hS (hC.1.1 46 (by decide)) F_given (vp_in_nI (by omega) (by decide)) dX6_go_170 (fun H locs hP hD hS => ?_)
                      obtain ⟨g_126, eg_126⟩ : ∃ z9, z9 = upd gg (Int32.toNatClampNeg (nI j)) (g_mayBe (av j)) := ⟨_, rfl⟩
                      rw [← eg_126] at hP hD
                      obtain ⟨f_127, ef_127⟩ : ∃ z9, z9 = va_up fvb (rt 46) (.inl (K 0, 4, .inl g_126)) := ⟨_, rfl⟩
                      rw [← ef_127] at hP hD
                      have F_m : f_127 (rt 51) = .inr (6, fmvb) := by rw [ef_127, va_up_ne _ _ (fun q => absurd (hC.1.2 51 (by decide) 46 (by decide) q) (by decide))]; exact F_m
                      have F_given : f_127 (rt 46) = .inl (K 0, 4, .inl g_126) := by rw [ef_127, va_up_self]
                      have hC : mC rt L f_127 fmvb := ⟨hC.1, F_m, hC.2.2.1, hC.2.2.2⟩
                      have hSm : gSm rt [46] fva f_127 := by rw [ef_127]; exact hSm.up (by decide) _
                      rw [nI_clamp (by omega)] at eg_126
                      refine lv_iinc (v := nI (j + 1)) (lv' := [(5, .int (nI (j + 1))), (0, .ref (rt 51))]) hx hb dX6_go_171 hl (k := 1) rfl (by exact nI_1 _) (by decide) rfl (fun ls hl => ?_)
                      refine lv_goto (tgt := 124) hx hb dX6_go_174 (by decide) ?_
                      have hgg2 : ∀ k, k < j + 1 → g_126 k = (-2) ∨ ∃ i : Nat, i < mm ∧ g_126 k = g_mayBe i := fun k hk => by
                        by_cases q : k = j
                        · rw [q, eg_126, pk_us]; exact Or.inr ⟨av j, by omega, rfl⟩
                        · rw [eg_126, pk_un q]; exact hgg k (by omega)
                      exact ihb _ (by omega) _ _ _ ⟨f_127, fmvb, _, (j + 1), rfl, hSm, hFs, hC, F_given, by omega, hgg2, hP, hS, lv_sub hl [1, 0] rfl⟩
          · skip
            have nc_111 : (sG wn mm av dp) = bs := (bl_eq (a := (sG wn mm av dp)) (b := bs) (by omega) (by omega) ex_110).mp c_111
            refine lv_aload_n hx hb dX6_go_70 rfl (lv_at hl 0 rfl) ?_
            refine g_get (ci := 6) (v := .ref (rt 42)) (C := RX6) (T := TX6) (N := 51) hx hb hts uB6 hown hK hP (hC.1.1 51 (by decide)) F_m rfl 42 (by decide) wm_142 (hC.2.2.2 42 (by decide)) dX6_go_71 ?_
            refine lv_iload_n hx hb dX6_go_74 rfl (lv_at hl 3 rfl) ?_
            refine g_iald hx hb hK hP (hC.1.1 42 (by decide)) F_filledTo (vp_in_nI (by omega) (by decide)) dX6_go_75 ?_
            refine lv_topi (fun x_128 ex_128 => ?_)
            rw [nI_clamp (by omega)] at ex_128
            obtain rfl : x_128 = nI (cG mm av dp) := ex_128.trans (hpt.2.2.2.1 dp (Nat.le_refl _))
            refine lv_aload_n hx hb dX6_go_76 rfl (lv_at hl 0 rfl) ?_
            refine g_get (ci := 6) (v := .int (nI bf)) (C := RX6) (T := TX6) (N := 51) hx hb hts uB6 hown hK hP (hC.1.1 51 (by decide)) F_m rfl 44 (by decide) wm_149 I_bestFilled dX6_go_77 ?_
            refine lv_icmp_le (tgt := 87) hx hb dX6_go_80 (by decide) (fun c_129 => ?_) (fun c_129 => ?_)
            · skip
              have nc_129 : (cG mm av dp) ≤ bf := (bn_le (a := (cG mm av dp)) (b := bf) (by omega) (by omega)).mp (show nI (cG mm av dp) ≤ nI bf from c_129)
              refine lv_iconst (v := 0) hx hb dX6_go_87 (by decide) ?_
              refine lv_istore (lv' := [(4, .int 0), (0, .ref (rt 51)), (1, .int 1), (2, .int wo), (3, .int (nI dp))]) hx hb dX6_go_88 hl (by decide) rfl (fun ls hl => ?_)
              refine lv_iload_n hx hb dX6_go_90 rfl (lv_at hl 2 rfl) ?_
              refine lv_if_eq (tgt := 178) hx hb dX6_go_91 (by decide) (fun h9 => absurd h9 (by decide)) (fun _ => ?_)
              refine lv_aload_n hx hb dX6_go_94 rfl (lv_at hl 1 rfl) ?_
              refine g_get (ci := 6) (v := .ref (rt 41)) (C := RX6) (T := TX6) (N := 51) hx hb hts uB6 hown hK hP (hC.1.1 51 (by decide)) F_m rfl 41 (by decide) wm_141 (hC.2.2.2 41 (by decide)) dX6_go_95 ?_
              refine lv_iload_n hx hb dX6_go_98 rfl (lv_at hl 4 rfl) ?_
              refine g_lald hx hb hK hP (hC.1.1 41 (by decide)) F_upTo (vp_in_nI (by omega) (by decide)) dX6_go_99 ?_
              refine lv_topl (fun x_130 ex_130 => ?_)
              rw [nI_clamp (by omega)] at ex_130
              obtain rfl : x_130 = lN (sG wn mm av dp) := ex_130.trans (hpt.2.2.1 dp (Nat.le_refl _))
              refine lv_aload_n hx hb dX6_go_100 rfl (lv_at hl 1 rfl) ?_
              refine g_get (ci := 6) (v := .long (lN bs)) (C := RX6) (T := TX6) (N := 51) hx hb hts uB6 hown hK hP (hC.1.1 51 (by decide)) F_m rfl 43 (by decide) wm_148 I_bestSum dX6_go_101 ?_
              refine W.lcmp hx hb dX6_go_104 ?_
              refine lv_topi (fun x_131 ex_131 => ?_)
              refine lv_if_ne (tgt := 178) hx hb dX6_go_105 (by decide) (fun c_132 => ?_) (fun c_132 => ?_)
              · skip
                have nc_132 : ¬ ((sG wn mm av dp) = bs) := fun q => c_132 ((bl_eq (a := (sG wn mm av dp)) (b := bs) (by omega) (by omega) ex_131).mpr q)
                refine lv_iload hx hb dX6_go_178 (lv_at hl 0 rfl) ?_
                refine lv_if_eq (tgt := 212) hx hb dX6_go_180 (by decide) (fun _ => ?_) (fun h9 => absurd (by decide) h9)
                have hd1 : 1 ≤ dp := by omega
                have hah2 := hah.pop (fun d hd q => by subst hd; exact (absurd (show sG wn mm av d = bs by rw [hbs, ← hds]; exact sG_cg d q.1) nc_132))
                obtain ⟨x_133, ex_133⟩ : ∃ y : Int32, y = (nI dp) + (-1) := ⟨_, rfl⟩
                refine lv_iinc (v := x_133) (lv' := [(3, .int x_133), (4, .int 0), (0, .ref (rt 51)), (1, .int 1), (2, .int wo)]) hx hb dX6_go_212 hl (k := 4) rfl (by rw [ex_133]; rfl) (by decide) rfl (fun ls hl => ?_)
                obtain rfl : x_133 = nI (dp - 1) := ex_133.trans (by rw [← Int32.sub_eq_add_neg]; exact pk_sub (a := dp) (b := 1) hd1)
                refine lv_goto (tgt := 23) hx hb dX6_go_215 (by decide) ?_
                exact iha _ (by rw [← hmua]; exact muG_pop (by omega)) _ _ _ ⟨fva, fmva, _, _, _, _, _, (dp - 1), av, nx, rfl, hSm, hFs, hC, F_next, F_at, F_filledTo, F_upTo, F_given, by omega, hpt.pop (by omega), hah2.2, hP, hS, lv_sub hl [2, 3, 4, 0] rfl⟩
              · skip
                have nc_132 : (sG wn mm av dp) = bs := (bl_eq (a := (sG wn mm av dp)) (b := bs) (by omega) (by omega) ex_131).mp c_132
                refine lv_aload_n hx hb dX6_go_108 rfl (lv_at hl 1 rfl) ?_
                refine g_get (ci := 6) (v := .ref (rt 42)) (C := RX6) (T := TX6) (N := 51) hx hb hts uB6 hown hK hP (hC.1.1 51 (by decide)) F_m rfl 42 (by decide) wm_142 (hC.2.2.2 42 (by decide)) dX6_go_109 ?_
                refine lv_iload_n hx hb dX6_go_112 rfl (lv_at hl 4 rfl) ?_
                refine g_iald hx hb hK hP (hC.1.1 42 (by decide)) F_filledTo (vp_in_nI (by omega) (by decide)) dX6_go_113 ?_
                refine lv_topi (fun x_134 ex_134 => ?_)
                rw [nI_clamp (by omega)] at ex_134
                obtain rfl : x_134 = nI (cG mm av dp) := ex_134.trans (hpt.2.2.2.1 dp (Nat.le_refl _))
                refine lv_aload_n hx hb dX6_go_114 rfl (lv_at hl 1 rfl) ?_
                refine g_get (ci := 6) (v := .int (nI bf)) (C := RX6) (T := TX6) (N := 51) hx hb hts uB6 hown hK hP (hC.1.1 51 (by decide)) F_m rfl 44 (by decide) wm_149 I_bestFilled dX6_go_115 ?_
                refine lv_icmp_ne (tgt := 178) hx hb dX6_go_118 (by decide) (fun c_135 => ?_) (fun c_135 => ?_)
                · skip
                  have nc_135 : ¬ ((cG mm av dp) = bf) := fun q => c_135 (show nI (cG mm av dp) = nI bf from (bn_eq (a := (cG mm av dp)) (b := bf) (by omega) (by omega)).mpr q)
                  refine lv_iload hx hb dX6_go_178 (lv_at hl 0 rfl) ?_
                  refine lv_if_eq (tgt := 212) hx hb dX6_go_180 (by decide) (fun _ => ?_) (fun h9 => absurd (by decide) h9)
                  have hd1 : 1 ≤ dp := by omega
                  have hah2 := hah.pop (fun d hd q => by subst hd; exact (absurd (show cG mm av d = bf by rw [hbf, ← hds]; exact cG_cg d q.1) nc_135))
                  obtain ⟨x_136, ex_136⟩ : ∃ y : Int32, y = (nI dp) + (-1) := ⟨_, rfl⟩
                  refine lv_iinc (v := x_136) (lv' := [(3, .int x_136), (4, .int 0), (0, .ref (rt 51)), (1, .int 1), (2, .int wo)]) hx hb dX6_go_212 hl (k := 4) rfl (by rw [ex_136]; rfl) (by decide) rfl (fun ls hl => ?_)
                  obtain rfl : x_136 = nI (dp - 1) := ex_136.trans (by rw [← Int32.sub_eq_add_neg]; exact pk_sub (a := dp) (b := 1) hd1)
                  refine lv_goto (tgt := 23) hx hb dX6_go_215 (by decide) ?_
                  exact iha _ (by rw [← hmua]; exact muG_pop (by omega)) _ _ _ ⟨fva, fmva, _, _, _, _, _, (dp - 1), av, nx, rfl, hSm, hFs, hC, F_next, F_at, F_filledTo, F_upTo, F_given, by omega, hpt.pop (by omega), hah2.2, hP, hS, lv_sub hl [2, 3, 4, 0] rfl⟩
                · skip
                  have nc_135 : (cG mm av dp) = bf := (bn_eq (a := (cG mm av dp)) (b := bf) (by omega) (by omega)).mp (show nI (cG mm av dp) = nI bf from c_135)
                  refine lv_iconst (v := 0) hx hb dX6_go_121 (by decide) ?_
                  refine lv_istore (lv' := [(5, .int 0), (4, .int 0), (0, .ref (rt 51)), (1, .int 1), (2, .int wo), (3, .int (nI dp))]) hx hb dX6_go_122 hl (by decide) rfl (fun ls hl => ?_)
                  have hSmb := hSm
                  have hFsb := hFs
                  refine k_lx (pcx := 177) (fun n H locs ls => ∃ (fvb : Nat → va_E) (fmvb : List Value) (gg : Nat → Int32) (j : Nat), sp - j = n ∧ gSm rt [46] fva fvb ∧ fmS [] fmva fmvb ∧ mC rt L fvb fmvb ∧ fvb (rt 46) = .inl (K 0, 4, .inl gg) ∧ (j ≤ sp) ∧ (∀ k, k < j → gg k = (-2) ∨ ∃ i : Nat, i < mm ∧ gg k = g_mayBe i) ∧ va_P (dC, dI) vwCl (va_pl L fvb) H ∧ va_S A s.heap H locs ∧ lv_has ls 13 [(0, .ref (rt 51)), (5, .int (nI j))]) (fun H locs ls => ∃ (fvb : Nat → va_E) (fmvb : List Value) (gg : Nat → Int32) (j : Nat), gSm rt [46] fva fvb ∧ fmS [] fmva fmvb ∧ mC rt L fvb fmvb ∧ fvb (rt 46) = .inl (K 0, 4, .inl gg) ∧ (∀ k, k < sp → gg k = (-2) ∨ ∃ i : Nat, i < mm ∧ gg k = g_mayBe i) ∧ va_P (dC, dI) vwCl (va_pl L fvb) H ∧ va_S A s.heap H locs ∧ lv_has ls 13 [(0, .ref (rt 51)), (5, .int (nI j))]) (fun H locs ls hI => ?_) (fun n H locs ls hI hEb ihb => ?_) _ _ _ _ ⟨fva, fmva, _, 0, rfl, gSm.rf, fmS.rf, hC, F_given, Nat.zero_le _, fun k hk => absurd hk (Nat.not_lt_zero k), hP, hS, lv_sub hl [2, 0] rfl⟩
                  · skip
                    obtain ⟨fvb, fmvb, gg, j, hSm, hFs, hC, NF_given, hgg, hP, hS, hl⟩ := hI
                    have F_next : fvb (rt 48) = .inl (K 0, 5, .inl gn) := (hSm.at hC.1 (by decide) (by decide)).trans F_next
                    have F_at : fvb (rt 40) = .inl (K 0, 5, .inl ga) := (hSm.at hC.1 (by decide) (by decide)).trans F_at
                    have F_filledTo : fvb (rt 42) = .inl (K 0, 5, .inl gf) := (hSm.at hC.1 (by decide) (by decide)).trans F_filledTo
                    have F_upTo : fvb (rt 41) = .inl (K 1, 5, .inr (.inl gu)) := (hSm.at hC.1 (by decide) (by decide)).trans F_upTo
                    have F_given := NF_given
                    have F_m : fvb (rt 51) = .inr (6, fmvb) := hC.2.1
                    have I_may : fmvb[35]? = some (.int (nI mm)) := (hFs.2 35 (by decide)).trans I_may
                    have I_spots : fmvb[39]? = some (.int (nI sp)) := (hFs.2 39 (by decide)).trans I_spots
                    have I_hasBest : fmvb[45]? = some (.int 1) := (hFs.2 45 (by decide)).trans I_hasBest
                    have I_bestSum : fmvb[43]? = some (.long (lN bs)) := (hFs.2 43 (by decide)).trans I_bestSum
                    have I_bestFilled : fmvb[44]? = some (.int (nI bf)) := (hFs.2 44 (by decide)).trans I_bestFilled
                    have hD : va_D A (va_pl L fvb) := g_D hLn (fun a h => by rw [← hAe]; exact h) fvb
                    have hSmLb := hSm
                    have hSm : gSm rt [40, 41, 42, 46, 48] f_6 fvb := hSmb.tr hSm (by decide) (by decide)
                    have hFs : fmS [] fm fmvb := hFsb.tr hFs (by decide) (by decide)
                    exact W.vret hx hb hr (fun t ht hW => ⟨⟨fvb, rfl, ⟨_, _, _, _, _, hSma.tr hSm (by decide) (by decide), F_next, F_at, F_filledTo, F_given, F_upTo, hgg⟩, by show va_P (dC, dI) vwCl (va_pl L fvb) t.heap; rw [ht]; exact hP⟩, hS.F ht⟩) hS.2.2 dX6_go_177
                  · skip
                    obtain ⟨fvb, fmvb, gg, j, hmub, hSm, hFs, hC, NF_given, hj, hgg, hP, hS, hl⟩ := hI
                    have F_given := NF_given
                    have F_m : fvb (rt 51) = .inr (6, fmvb) := hC.2.1
                    have I_may : fmvb[35]? = some (.int (nI mm)) := (hFs.2 35 (by decide)).trans I_may
                    have I_spots : fmvb[39]? = some (.int (nI sp)) := (hFs.2 39 (by decide)).trans I_spots
                    have I_hasBest : fmvb[45]? = some (.int 1) := (hFs.2 45 (by decide)).trans I_hasBest
                    have I_bestSum : fmvb[43]? = some (.long (lN bs)) := (hFs.2 43 (by decide)).trans I_bestSum
                    have I_bestFilled : fmvb[44]? = some (.int (nI bf)) := (hFs.2 44 (by decide)).trans I_bestFilled
                    have hD : va_D A (va_pl L fvb) := g_D hLn (fun a h => by rw [← hAe]; exact h) fvb
                    refine lv_iload hx hb dX6_go_124 (lv_at hl 1 rfl) ?_
                    refine lv_aload_n hx hb dX6_go_126 rfl (lv_at hl 0 rfl) ?_
                    refine g_get (ci := 6) (v := .int (nI sp)) (C := RX6) (T := TX6) (N := 51) hx hb hts uB6 hown hK hP (hC.1.1 51 (by decide)) F_m rfl 39 (by decide) wm_131 I_spots dX6_go_127 ?_
                    refine lv_icmp_ge (tgt := 177) hx hb dX6_go_130 (by decide) (fun c_137 => ?_) (fun c_137 => ?_)
                    · skip
                      have nc_137 : sp ≤ j := (bn_le (a := sp) (b := j) (by omega) (by omega)).mp (show nI sp ≤ nI j from c_137)
                      exact hEb _ _ _ ⟨fvb, fmvb, _, j, hSm, hFs, hC, F_given, (fun k hk => hgg k (by omega)), hP, hS, lv_sub hl [0, 1] rfl⟩
                    · skip
                      have nc_137 : ¬ (sp ≤ j) := fun q => c_137 (show nI sp ≤ nI j from (bn_le (a := sp) (b := j) (by omega) (by omega)).mpr q)
                      refine lv_aload_n hx hb dX6_go_133 rfl (lv_at hl 0 rfl) ?_
                      refine g_get (ci := 6) (v := .ref (rt 46)) (C := RX6) (T := TX6) (N := 51) hx hb hts uB6 hown hK hP (hC.1.1 51 (by decide)) F_m rfl 46 (by decide) wm_150 (hC.2.2.2 46 (by decide)) dX6_go_134 ?_
                      refine lv_iload hx hb dX6_go_137 (lv_at hl 1 rfl) ?_
                      refine lv_aload_n hx hb dX6_go_139 rfl (lv_at hl 0 rfl) ?_
                      refine g_get (ci := 6) (v := .ref (rt 40)) (C := RX6) (T := TX6) (N := 51) hx hb hts uB6 hown hK hP (hC.1.1 51 (by decide)) F_m rfl 40 (by decide) wm_62 (hC.2.2.2 40 (by decide)) dX6_go_140 ?_
                      refine lv_iload hx hb dX6_go_143 (lv_at hl 1 rfl) ?_
                      refine g_iald hx hb hK hP (hC.1.1 40 (by decide)) ((hSm.at hC.1 (by decide) (by decide)).trans F_at) (vp_in_nI (by omega) (by decide)) dX6_go_145 ?_
                      refine lv_topi (fun x_138 ex_138 => ?_)
                      rw [nI_clamp (by omega)] at ex_138
                      obtain rfl : x_138 = nI (av j) := ex_138.trans (hpt.1 j (by omega))
                      have hav : av j ≤ mm := (hpt.2.1 j (by omega)).1
                      refine lv_aload_n hx hb dX6_go_146 rfl (lv_at hl 0 rfl) ?_
                      refine g_get (ci := 6) (v := .int (nI mm)) (C := RX6) (T := TX6) (N := 51) hx hb hts uB6 hown hK hP (hC.1.1 51 (by decide)) F_m rfl 35 (by decide) wm_63 I_may dX6_go_147 ?_
                      refine lv_icmp_ge (tgt := 168) hx hb dX6_go_150 (by decide) (fun c_139 => ?_) (fun c_139 => ?_)
                      · skip
                        have nc_139 : mm ≤ (av j) := (bn_le (a := mm) (b := (av j)) (by omega) (by omega)).mp (show nI mm ≤ nI (av j) from c_139)
                        refine lv_bipush (v := (-2)) hx hb dX6_go_168 (by decide) ?_
                        refine g_iast hx hb hK hP hD hS (hC.1.1 46 (by decide)) F_given (vp_in_nI (by omega) (by decide)) dX6_go_170 (fun H locs hP hD hS => ?_)
                        obtain ⟨g_140, eg_140⟩ : ∃ z9, z9 = upd gg (Int32.toNatClampNeg (nI j)) (-2) := ⟨_, rfl⟩
                        rw [← eg_140] at hP hD
                        obtain ⟨f_141, ef_141⟩ : ∃ z9, z9 = va_up fvb (rt 46) (.inl (K 0, 4, .inl g_140)) := ⟨_, rfl⟩
                        rw [← ef_141] at hP hD
                        have F_m : f_141 (rt 51) = .inr (6, fmvb) := by rw [ef_141, va_up_ne _ _ (fun q => absurd (hC.1.2 51 (by decide) 46 (by decide) q) (by decide))]; exact F_m
                        have F_given : f_141 (rt 46) = .inl (K 0, 4, .inl g_140) := by rw [ef_141, va_up_self]
                        have hC : mC rt L f_141 fmvb := ⟨hC.1, F_m, hC.2.2.1, hC.2.2.2⟩
                        have hSm : gSm rt [46] fva f_141 := by rw [ef_141]; exact hSm.up (by decide) _
                        rw [nI_clamp (by omega)] at eg_140
                        refine lv_iinc (v := nI (j + 1)) (lv' := [(5, .int (nI (j + 1))), (0, .ref (rt 51))]) hx hb dX6_go_171 hl (k := 1) rfl (by exact nI_1 _) (by decide) rfl (fun ls hl => ?_)
                        refine lv_goto (tgt := 124) hx hb dX6_go_174 (by decide) ?_
                        have hgg2 : ∀ k, k < j + 1 → g_140 k = (-2) ∨ ∃ i : Nat, i < mm ∧ g_140 k = g_mayBe i := fun k hk => by
                          by_cases q : k = j
                          · rw [q, eg_140, pk_us]; exact Or.inl rfl
                          · rw [eg_140, pk_un q]; exact hgg k (by omega)
                        exact ihb _ (by omega) _ _ _ ⟨f_141, fmvb, _, (j + 1), rfl, hSm, hFs, hC, F_given, by omega, hgg2, hP, hS, lv_sub hl [1, 0] rfl⟩
                      · skip
                        have nc_139 : ¬ (mm ≤ (av j)) := fun q => c_139 (show nI mm ≤ nI (av j) from (bn_le (a := mm) (b := (av j)) (by omega) (by omega)).mpr q)
                        refine lv_aload_n hx hb dX6_go_153 rfl (lv_at hl 0 rfl) ?_
                        refine g_get (ci := 6) (v := .ref (rt 36)) (C := RX6) (T := TX6) (N := 51) hx hb hts uB6 hown hK hP (hC.1.1 51 (by decide)) F_m rfl 36 (by decide) wm_64 (hC.2.2.2 36 (by decide)) dX6_go_154 ?_
                        refine lv_aload_n hx hb dX6_go_157 rfl (lv_at hl 0 rfl) ?_
                        refine g_get (ci := 6) (v := .ref (rt 40)) (C := RX6) (T := TX6) (N := 51) hx hb hts uB6 hown hK hP (hC.1.1 51 (by decide)) F_m rfl 40 (by decide) wm_62 (hC.2.2.2 40 (by decide)) dX6_go_158 ?_
                        refine lv_iload hx hb dX6_go_161 (lv_at hl 1 rfl) ?_
                        refine g_iald hx hb hK hP (hC.1.1 40 (by decide)) ((hSm.at hC.1 (by decide) (by decide)).trans F_at) (vp_in_nI (by omega) (by decide)) dX6_go_163 ?_
                        refine lv_topi (fun x_142 ex_142 => ?_)
                        rw [nI_clamp (by omega)] at ex_142
                        obtain rfl : x_142 = nI (av j) := ex_142.trans (hpt.1 j (by omega))
                        have hav : av j ≤ mm := (hpt.2.1 j (by omega)).1
                        refine g_iald hx hb hK hP (hC.1.1 36 (by decide)) ((hSm.at hC.1 (by decide) (by decide)).trans ((hSmb.at hC.1 (by decide) (by decide)).trans ((hSma.at hC.1 (by decide) (by decide)).trans F_mayBe))) (vp_in_nI (by omega) (by decide)) dX6_go_164 ?_
                        refine lv_topi (fun x_143 ex_143 => ?_)
                        rw [nI_clamp (by omega)] at ex_143
                        subst ex_143
                        refine lv_goto (tgt := 170) hx hb dX6_go_165 (by decide) ?_
                        refine g_iast hx hb hK hP hD hS (hC.1.1 46 (by decide)) F_given (vp_in_nI (by omega) (by decide)) dX6_go_170 (fun H locs hP hD hS => ?_)
                        obtain ⟨g_144, eg_144⟩ : ∃ z9, z9 = upd gg (Int32.toNatClampNeg (nI j)) (g_mayBe (av j)) := ⟨_, rfl⟩
                        rw [← eg_144] at hP hD
                        obtain ⟨f_145, ef_145⟩ : ∃ z9, z9 = va_up fvb (rt 46) (.inl (K 0, 4, .inl g_144)) := ⟨_, rfl⟩
                        rw [← ef_145] at hP hD
                        have F_m : f_145 (rt 51) = .inr (6, fmvb) := by rw [ef_145, va_up_ne _ _ (fun q => absurd (hC.1.2 51 (by decide) 46 (by decide) q) (by decide))]; exact F_m
                        have F_given : f_145 (rt 46) = .inl (K 0, 4, .inl g_144) := by rw [ef_145, va_up_self]
                        have hC : mC rt L f_145 fmvb := ⟨hC.1, F_m, hC.2.2.1, hC.2.2.2⟩
                        have hSm : gSm rt [46] fva f_145 := by rw [ef_145]; exact hSm.up (by decide) _
                        rw [nI_clamp (by omega)] at eg_144
                        refine lv_iinc (v := nI (j + 1)) (lv' := [(5, .int (nI (j + 1))), (0, .ref (rt 51))]) hx hb dX6_go_171 hl (k := 1) rfl (by exact nI_1 _) (by decide) rfl (fun ls hl => ?_)
                        refine lv_goto (tgt := 124) hx hb dX6_go_174 (by decide) ?_
                        have hgg2 : ∀ k, k < j + 1 → g_144 k = (-2) ∨ ∃ i : Nat, i < mm ∧ g_144 k = g_mayBe i := fun k hk => by
                          by_cases q : k = j
                          · rw [q, eg_144, pk_us]; exact Or.inr ⟨av j, by omega, rfl⟩
                          · rw [eg_144, pk_un q]; exact hgg k (by omega)
                        exact ihb _ (by omega) _ _ _ ⟨f_145, fmvb, _, (j + 1), rfl, hSm, hFs, hC, F_given, by omega, hgg2, hP, hS, lv_sub hl [1, 0] rfl⟩
            · skip
              have nc_129 : ¬ ((cG mm av dp) ≤ bf) := fun q => c_129 (show nI (cG mm av dp) ≤ nI bf from (bn_le (a := (cG mm av dp)) (b := bf) (by omega) (by omega)).mpr q)
              refine lv_iconst (v := 1) hx hb dX6_go_83 (by decide) ?_
              refine lv_goto (tgt := 88) hx hb dX6_go_84 (by decide) ?_
              refine lv_istore (lv' := [(4, .int 1), (0, .ref (rt 51)), (1, .int 1), (2, .int wo), (3, .int (nI dp))]) hx hb dX6_go_88 hl (by decide) rfl (fun ls hl => ?_)
              refine lv_iload_n hx hb dX6_go_90 rfl (lv_at hl 2 rfl) ?_
              refine lv_if_eq (tgt := 178) hx hb dX6_go_91 (by decide) (fun h9 => absurd h9 (by decide)) (fun _ => ?_)
              refine lv_aload_n hx hb dX6_go_94 rfl (lv_at hl 1 rfl) ?_
              refine g_get (ci := 6) (v := .ref (rt 41)) (C := RX6) (T := TX6) (N := 51) hx hb hts uB6 hown hK hP (hC.1.1 51 (by decide)) F_m rfl 41 (by decide) wm_141 (hC.2.2.2 41 (by decide)) dX6_go_95 ?_
              refine lv_iload_n hx hb dX6_go_98 rfl (lv_at hl 4 rfl) ?_
              refine g_lald hx hb hK hP (hC.1.1 41 (by decide)) F_upTo (vp_in_nI (by omega) (by decide)) dX6_go_99 ?_
              refine lv_topl (fun x_146 ex_146 => ?_)
              rw [nI_clamp (by omega)] at ex_146
              obtain rfl : x_146 = lN (sG wn mm av dp) := ex_146.trans (hpt.2.2.1 dp (Nat.le_refl _))
              refine lv_aload_n hx hb dX6_go_100 rfl (lv_at hl 1 rfl) ?_
              refine g_get (ci := 6) (v := .long (lN bs)) (C := RX6) (T := TX6) (N := 51) hx hb hts uB6 hown hK hP (hC.1.1 51 (by decide)) F_m rfl 43 (by decide) wm_148 I_bestSum dX6_go_101 ?_
              refine W.lcmp hx hb dX6_go_104 ?_
              refine lv_topi (fun x_147 ex_147 => ?_)
              refine lv_if_ne (tgt := 178) hx hb dX6_go_105 (by decide) (fun c_148 => ?_) (fun c_148 => ?_)
              · skip
                have nc_148 : ¬ ((sG wn mm av dp) = bs) := fun q => c_148 ((bl_eq (a := (sG wn mm av dp)) (b := bs) (by omega) (by omega) ex_147).mpr q)
                refine lv_iload hx hb dX6_go_178 (lv_at hl 0 rfl) ?_
                refine lv_if_eq (tgt := 212) hx hb dX6_go_180 (by decide) (fun h9 => absurd h9 (by decide)) (fun _ => ?_)
                refine lv_iload_n hx hb dX6_go_183 rfl (lv_at hl 2 rfl) ?_
                refine lv_if_ne (tgt := 212) hx hb dX6_go_184 (by decide) (fun _ => ?_) (fun h9 => absurd h9 (by decide))
                have hd1 : 1 ≤ dp := by omega
                have hah2 := hah.pop (fun d hd q => by subst hd; exact (absurd (show sG wn mm av d = bs by rw [hbs, ← hds]; exact sG_cg d q.1) nc_148))
                obtain ⟨x_149, ex_149⟩ : ∃ y : Int32, y = (nI dp) + (-1) := ⟨_, rfl⟩
                refine lv_iinc (v := x_149) (lv' := [(3, .int x_149), (4, .int 1), (0, .ref (rt 51)), (1, .int 1), (2, .int wo)]) hx hb dX6_go_212 hl (k := 4) rfl (by rw [ex_149]; rfl) (by decide) rfl (fun ls hl => ?_)
                obtain rfl : x_149 = nI (dp - 1) := ex_149.trans (by rw [← Int32.sub_eq_add_neg]; exact pk_sub (a := dp) (b := 1) hd1)
                refine lv_goto (tgt := 23) hx hb dX6_go_215 (by decide) ?_
                exact iha _ (by rw [← hmua]; exact muG_pop (by omega)) _ _ _ ⟨fva, fmva, _, _, _, _, _, (dp - 1), av, nx, rfl, hSm, hFs, hC, F_next, F_at, F_filledTo, F_upTo, F_given, by omega, hpt.pop (by omega), hah2.2, hP, hS, lv_sub hl [2, 3, 4, 0] rfl⟩
              · skip
                have nc_148 : (sG wn mm av dp) = bs := (bl_eq (a := (sG wn mm av dp)) (b := bs) (by omega) (by omega) ex_147).mp c_148
                refine lv_aload_n hx hb dX6_go_108 rfl (lv_at hl 1 rfl) ?_
                refine g_get (ci := 6) (v := .ref (rt 42)) (C := RX6) (T := TX6) (N := 51) hx hb hts uB6 hown hK hP (hC.1.1 51 (by decide)) F_m rfl 42 (by decide) wm_142 (hC.2.2.2 42 (by decide)) dX6_go_109 ?_
                refine lv_iload_n hx hb dX6_go_112 rfl (lv_at hl 4 rfl) ?_
                refine g_iald hx hb hK hP (hC.1.1 42 (by decide)) F_filledTo (vp_in_nI (by omega) (by decide)) dX6_go_113 ?_
                refine lv_topi (fun x_150 ex_150 => ?_)
                rw [nI_clamp (by omega)] at ex_150
                obtain rfl : x_150 = nI (cG mm av dp) := ex_150.trans (hpt.2.2.2.1 dp (Nat.le_refl _))
                refine lv_aload_n hx hb dX6_go_114 rfl (lv_at hl 1 rfl) ?_
                refine g_get (ci := 6) (v := .int (nI bf)) (C := RX6) (T := TX6) (N := 51) hx hb hts uB6 hown hK hP (hC.1.1 51 (by decide)) F_m rfl 44 (by decide) wm_149 I_bestFilled dX6_go_115 ?_
                refine lv_icmp_ne (tgt := 178) hx hb dX6_go_118 (by decide) (fun c_151 => ?_) (fun c_151 => ?_)
                · skip
                  have nc_151 : ¬ ((cG mm av dp) = bf) := fun q => c_151 (show nI (cG mm av dp) = nI bf from (bn_eq (a := (cG mm av dp)) (b := bf) (by omega) (by omega)).mpr q)
                  refine lv_iload hx hb dX6_go_178 (lv_at hl 0 rfl) ?_
                  refine lv_if_eq (tgt := 212) hx hb dX6_go_180 (by decide) (fun h9 => absurd h9 (by decide)) (fun _ => ?_)
                  refine lv_iload_n hx hb dX6_go_183 rfl (lv_at hl 2 rfl) ?_
                  refine lv_if_ne (tgt := 212) hx hb dX6_go_184 (by decide) (fun _ => ?_) (fun h9 => absurd h9 (by decide))
                  have hd1 : 1 ≤ dp := by omega
                  have hah2 := hah.pop (fun d hd q => by subst hd; exact (absurd (show cG mm av d = bf by rw [hbf, ← hds]; exact cG_cg d q.1) nc_151))
                  obtain ⟨x_152, ex_152⟩ : ∃ y : Int32, y = (nI dp) + (-1) := ⟨_, rfl⟩
                  refine lv_iinc (v := x_152) (lv' := [(3, .int x_152), (4, .int 1), (0, .ref (rt 51)), (1, .int 1), (2, .int wo)]) hx hb dX6_go_212 hl (k := 4) rfl (by rw [ex_152]; rfl) (by decide) rfl (fun ls hl => ?_)
                  obtain rfl : x_152 = nI (dp - 1) := ex_152.trans (by rw [← Int32.sub_eq_add_neg]; exact pk_sub (a := dp) (b := 1) hd1)
                  refine lv_goto (tgt := 23) hx hb dX6_go_215 (by decide) ?_
                  exact iha _ (by rw [← hmua]; exact muG_pop (by omega)) _ _ _ ⟨fva, fmva, _, _, _, _, _, (dp - 1), av, nx, rfl, hSm, hFs, hC, F_next, F_at, F_filledTo, F_upTo, F_given, by omega, hpt.pop (by omega), hah2.2, hP, hS, lv_sub hl [2, 3, 4, 0] rfl⟩
                · skip
                  have nc_151 : (cG mm av dp) = bf := (bn_eq (a := (cG mm av dp)) (b := bf) (by omega) (by omega)).mp (show nI (cG mm av dp) = nI bf from c_151)
                  refine lv_iconst (v := 0) hx hb dX6_go_121 (by decide) ?_
                  refine lv_istore (lv' := [(5, .int 0), (4, .int 1), (0, .ref (rt 51)), (1, .int 1), (2, .int wo), (3, .int (nI dp))]) hx hb dX6_go_122 hl (by decide) rfl (fun ls hl => ?_)
                  have hSmb := hSm
                  have hFsb := hFs
                  refine k_lx (pcx := 177) (fun n H locs ls => ∃ (fvb : Nat → va_E) (fmvb : List Value) (gg : Nat → Int32) (j : Nat), sp - j = n ∧ gSm rt [46] fva fvb ∧ fmS [] fmva fmvb ∧ mC rt L fvb fmvb ∧ fvb (rt 46) = .inl (K 0, 4, .inl gg) ∧ (j ≤ sp) ∧ (∀ k, k < j → gg k = (-2) ∨ ∃ i : Nat, i < mm ∧ gg k = g_mayBe i) ∧ va_P (dC, dI) vwCl (va_pl L fvb) H ∧ va_S A s.heap H locs ∧ lv_has ls 13 [(0, .ref (rt 51)), (5, .int (nI j))]) (fun H locs ls => ∃ (fvb : Nat → va_E) (fmvb : List Value) (gg : Nat → Int32) (j : Nat), gSm rt [46] fva fvb ∧ fmS [] fmva fmvb ∧ mC rt L fvb fmvb ∧ fvb (rt 46) = .inl (K 0, 4, .inl gg) ∧ (∀ k, k < sp → gg k = (-2) ∨ ∃ i : Nat, i < mm ∧ gg k = g_mayBe i) ∧ va_P (dC, dI) vwCl (va_pl L fvb) H ∧ va_S A s.heap H locs ∧ lv_has ls 13 [(0, .ref (rt 51)), (5, .int (nI j))]) (fun H locs ls hI => ?_) (fun n H locs ls hI hEb ihb => ?_) _ _ _ _ ⟨fva, fmva, _, 0, rfl, gSm.rf, fmS.rf, hC, F_given, Nat.zero_le _, fun k hk => absurd hk (Nat.not_lt_zero k), hP, hS, lv_sub hl [2, 0] rfl⟩
                  · skip
                    obtain ⟨fvb, fmvb, gg, j, hSm, hFs, hC, NF_given, hgg, hP, hS, hl⟩ := hI
                    have F_next : fvb (rt 48) = .inl (K 0, 5, .inl gn) := (hSm.at hC.1 (by decide) (by decide)).trans F_next
                    have F_at : fvb (rt 40) = .inl (K 0, 5, .inl ga) := (hSm.at hC.1 (by decide) (by decide)).trans F_at
                    have F_filledTo : fvb (rt 42) = .inl (K 0, 5, .inl gf) := (hSm.at hC.1 (by decide) (by decide)).trans F_filledTo
                    have F_upTo : fvb (rt 41) = .inl (K 1, 5, .inr (.inl gu)) := (hSm.at hC.1 (by decide) (by decide)).trans F_upTo
                    have F_given := NF_given
                    have F_m : fvb (rt 51) = .inr (6, fmvb) := hC.2.1
                    have I_may : fmvb[35]? = some (.int (nI mm)) := (hFs.2 35 (by decide)).trans I_may
                    have I_spots : fmvb[39]? = some (.int (nI sp)) := (hFs.2 39 (by decide)).trans I_spots
                    have I_hasBest : fmvb[45]? = some (.int 1) := (hFs.2 45 (by decide)).trans I_hasBest
                    have I_bestSum : fmvb[43]? = some (.long (lN bs)) := (hFs.2 43 (by decide)).trans I_bestSum
                    have I_bestFilled : fmvb[44]? = some (.int (nI bf)) := (hFs.2 44 (by decide)).trans I_bestFilled
                    have hD : va_D A (va_pl L fvb) := g_D hLn (fun a h => by rw [← hAe]; exact h) fvb
                    have hSmLb := hSm
                    have hSm : gSm rt [40, 41, 42, 46, 48] f_6 fvb := hSmb.tr hSm (by decide) (by decide)
                    have hFs : fmS [] fm fmvb := hFsb.tr hFs (by decide) (by decide)
                    exact W.vret hx hb hr (fun t ht hW => ⟨⟨fvb, rfl, ⟨_, _, _, _, _, hSma.tr hSm (by decide) (by decide), F_next, F_at, F_filledTo, F_given, F_upTo, hgg⟩, by show va_P (dC, dI) vwCl (va_pl L fvb) t.heap; rw [ht]; exact hP⟩, hS.F ht⟩) hS.2.2 dX6_go_177
                  · skip
                    obtain ⟨fvb, fmvb, gg, j, hmub, hSm, hFs, hC, NF_given, hj, hgg, hP, hS, hl⟩ := hI
                    have F_given := NF_given
                    have F_m : fvb (rt 51) = .inr (6, fmvb) := hC.2.1
                    have I_may : fmvb[35]? = some (.int (nI mm)) := (hFs.2 35 (by decide)).trans I_may
                    have I_spots : fmvb[39]? = some (.int (nI sp)) := (hFs.2 39 (by decide)).trans I_spots
                    have I_hasBest : fmvb[45]? = some (.int 1) := (hFs.2 45 (by decide)).trans I_hasBest
                    have I_bestSum : fmvb[43]? = some (.long (lN bs)) := (hFs.2 43 (by decide)).trans I_bestSum
                    have I_bestFilled : fmvb[44]? = some (.int (nI bf)) := (hFs.2 44 (by decide)).trans I_bestFilled
                    have hD : va_D A (va_pl L fvb) := g_D hLn (fun a h => by rw [← hAe]; exact h) fvb
                    refine lv_iload hx hb dX6_go_124 (lv_at hl 1 rfl) ?_
                    refine lv_aload_n hx hb dX6_go_126 rfl (lv_at hl 0 rfl) ?_
                    refine g_get (ci := 6) (v := .int (nI sp)) (C := RX6) (T := TX6) (N := 51) hx hb hts uB6 hown hK hP (hC.1.1 51 (by decide)) F_m rfl 39 (by decide) wm_131 I_spots dX6_go_127 ?_
                    refine lv_icmp_ge (tgt := 177) hx hb dX6_go_130 (by decide) (fun c_153 => ?_) (fun c_153 => ?_)
                    · skip
                      have nc_153 : sp ≤ j := (bn_le (a := sp) (b := j) (by omega) (by omega)).mp (show nI sp ≤ nI j from c_153)
                      exact hEb _ _ _ ⟨fvb, fmvb, _, j, hSm, hFs, hC, F_given, (fun k hk => hgg k (by omega)), hP, hS, lv_sub hl [0, 1] rfl⟩
                    · skip
                      have nc_153 : ¬ (sp ≤ j) := fun q => c_153 (show nI sp ≤ nI j from (bn_le (a := sp) (b := j) (by omega) (by omega)).mpr q)
                      refine lv_aload_n hx hb dX6_go_133 rfl (lv_at hl 0 rfl) ?_
                      refine g_get (ci := 6) (v := .ref (rt 46)) (C := RX6) (T := TX6) (N := 51) hx hb hts uB6 hown hK hP (hC.1.1 51 (by decide)) F_m rfl 46 (by decide) wm_150 (hC.2.2.2 46 (by decide)) dX6_go_134 ?_
                      refine lv_iload hx hb dX6_go_137 (lv_at hl 1 rfl) ?_
                      refine lv_aload_n hx hb dX6_go_139 rfl (lv_at hl 0 rfl) ?_
                      refine g_get (ci := 6) (v := .ref (rt 40)) (C := RX6) (T := TX6) (N := 51) hx hb hts uB6 hown hK hP (hC.1.1 51 (by decide)) F_m rfl 40 (by decide) wm_62 (hC.2.2.2 40 (by decide)) dX6_go_140 ?_
                      refine lv_iload hx hb dX6_go_143 (lv_at hl 1 rfl) ?_
                      refine g_iald hx hb hK hP (hC.1.1 40 (by decide)) ((hSm.at hC.1 (by decide) (by decide)).trans F_at) (vp_in_nI (by omega) (by decide)) dX6_go_145 ?_
                      refine lv_topi (fun x_154 ex_154 => ?_)
                      rw [nI_clamp (by omega)] at ex_154
                      obtain rfl : x_154 = nI (av j) := ex_154.trans (hpt.1 j (by omega))
                      have hav : av j ≤ mm := (hpt.2.1 j (by omega)).1
                      refine lv_aload_n hx hb dX6_go_146 rfl (lv_at hl 0 rfl) ?_
                      refine g_get (ci := 6) (v := .int (nI mm)) (C := RX6) (T := TX6) (N := 51) hx hb hts uB6 hown hK hP (hC.1.1 51 (by decide)) F_m rfl 35 (by decide) wm_63 I_may dX6_go_147 ?_
                      refine lv_icmp_ge (tgt := 168) hx hb dX6_go_150 (by decide) (fun c_155 => ?_) (fun c_155 => ?_)
                      · skip
                        have nc_155 : mm ≤ (av j) := (bn_le (a := mm) (b := (av j)) (by omega) (by omega)).mp (show nI mm ≤ nI (av j) from c_155)
                        refine lv_bipush (v := (-2)) hx hb dX6_go_168 (by decide) ?_
                        refine g_iast hx hb hK hP hD hS (hC.1.1 46 (by decide)) F_given (vp_in_nI (by omega) (by decide)) dX6_go_170 (fun H locs hP hD hS => ?_)
                        obtain ⟨g_156, eg_156⟩ : ∃ z9, z9 = upd gg (Int32.toNatClampNeg (nI j)) (-2) := ⟨_, rfl⟩
                        rw [← eg_156] at hP hD
                        obtain ⟨f_157, ef_157⟩ : ∃ z9, z9 = va_up fvb (rt 46) (.inl (K 0, 4, .inl g_156)) := ⟨_, rfl⟩
                        rw [← ef_157] at hP hD
                        have F_m : f_157 (rt 51) = .inr (6, fmvb) := by rw [ef_157, va_up_ne _ _ (fun q => absurd (hC.1.2 51 (by decide) 46 (by decide) q) (by decide))]; exact F_m
                        have F_given : f_157 (rt 46) = .inl (K 0, 4, .inl g_156) := by rw [ef_157, va_up_self]
                        have hC : mC rt L f_157 fmvb := ⟨hC.1, F_m, hC.2.2.1, hC.2.2.2⟩
                        have hSm : gSm rt [46] fva f_157 := by rw [ef_157]; exact hSm.up (by decide) _
                        rw [nI_clamp (by omega)] at eg_156
                        refine lv_iinc (v := nI (j + 1)) (lv' := [(5, .int (nI (j + 1))), (0, .ref (rt 51))]) hx hb dX6_go_171 hl (k := 1) rfl (by exact nI_1 _) (by decide) rfl (fun ls hl => ?_)
                        refine lv_goto (tgt := 124) hx hb dX6_go_174 (by decide) ?_
                        have hgg2 : ∀ k, k < j + 1 → g_156 k = (-2) ∨ ∃ i : Nat, i < mm ∧ g_156 k = g_mayBe i := fun k hk => by
                          by_cases q : k = j
                          · rw [q, eg_156, pk_us]; exact Or.inl rfl
                          · rw [eg_156, pk_un q]; exact hgg k (by omega)
                        exact ihb _ (by omega) _ _ _ ⟨f_157, fmvb, _, (j + 1), rfl, hSm, hFs, hC, F_given, by omega, hgg2, hP, hS, lv_sub hl [1, 0] rfl⟩
                      · skip
                        have nc_155 : ¬ (mm ≤ (av j)) := fun q => c_155 (show nI mm ≤ nI (av j) from (bn_le (a := mm) (b := (av j)) (by omega) (by omega)).mpr q)
                        refine lv_aload_n hx hb dX6_go_153 rfl (lv_at hl 0 rfl) ?_
                        refine g_get (ci := 6) (v := .ref (rt 36)) (C := RX6) (T := TX6) (N := 51) hx hb hts uB6 hown hK hP (hC.1.1 51 (by decide)) F_m rfl 36 (by decide) wm_64 (hC.2.2.2 36 (by decide)) dX6_go_154 ?_
                        refine lv_aload_n hx hb dX6_go_157 rfl (lv_at hl 0 rfl) ?_
                        refine g_get (ci := 6) (v := .ref (rt 40)) (C := RX6) (T := TX6) (N := 51) hx hb hts uB6 hown hK hP (hC.1.1 51 (by decide)) F_m rfl 40 (by decide) wm_62 (hC.2.2.2 40 (by decide)) dX6_go_158 ?_
                        refine lv_iload hx hb dX6_go_161 (lv_at hl 1 rfl) ?_
                        refine g_iald hx hb hK hP (hC.1.1 40 (by decide)) ((hSm.at hC.1 (by decide) (by decide)).trans F_at) (vp_in_nI (by omega) (by decide)) dX6_go_163 ?_
                        refine lv_topi (fun x_158 ex_158 => ?_)
                        rw [nI_clamp (by omega)] at ex_158
                        obtain rfl : x_158 = nI (av j) := ex_158.trans (hpt.1 j (by omega))
                        have hav : av j ≤ mm := (hpt.2.1 j (by omega)).1
                        refine g_iald hx hb hK hP (hC.1.1 36 (by decide)) ((hSm.at hC.1 (by decide) (by decide)).trans ((hSmb.at hC.1 (by decide) (by decide)).trans ((hSma.at hC.1 (by decide) (by decide)).trans F_mayBe))) (vp_in_nI (by omega) (by decide)) dX6_go_164 ?_
                        refine lv_topi (fun x_159 ex_159 => ?_)
                        rw [nI_clamp (by omega)] at ex_159
                        subst ex_159
                        refine lv_goto (tgt := 170) hx hb dX6_go_165 (by decide) ?_
                        refine g_iast hx hb hK hP hD hS (hC.1.1 46 (by decide)) F_given (vp_in_nI (by omega) (by decide)) dX6_go_170 (fun H locs hP hD hS => ?_)
                        obtain ⟨g_160, eg_160⟩ : ∃ z9, z9 = upd gg (Int32.toNatClampNeg (nI j)) (g_mayBe (av j)) := ⟨_, rfl⟩
                        rw [← eg_160] at hP hD
                        obtain ⟨f_161, ef_161⟩ : ∃ z9, z9 = va_up fvb (rt 46) (.inl (K 0, 4, .inl g_160)) := ⟨_, rfl⟩
                        rw [← ef_161] at hP hD
                        have F_m : f_161 (rt 51) = .inr (6, fmvb) := by rw [ef_161, va_up_ne _ _ (fun q => absurd (hC.1.2 51 (by decide) 46 (by decide) q) (by decide))]; exact F_m
                        have F_given : f_161 (rt 46) = .inl (K 0, 4, .inl g_160) := by rw [ef_161, va_up_self]
                        have hC : mC rt L f_161 fmvb := ⟨hC.1, F_m, hC.2.2.1, hC.2.2.2⟩
                        have hSm : gSm rt [46] fva f_161 := by rw [ef_161]; exact hSm.up (by decide) _
                        rw [nI_clamp (by omega)] at eg_160
                        refine lv_iinc (v := nI (j + 1)) (lv' := [(5, .int (nI (j + 1))), (0, .ref (rt 51))]) hx hb dX6_go_171 hl (k := 1) rfl (by exact nI_1 _) (by decide) rfl (fun ls hl => ?_)
                        refine lv_goto (tgt := 124) hx hb dX6_go_174 (by decide) ?_
                        have hgg2 : ∀ k, k < j + 1 → g_160 k = (-2) ∨ ∃ i : Nat, i < mm ∧ g_160 k = g_mayBe i := fun k hk => by
                          by_cases q : k = j
                          · rw [q, eg_160, pk_us]; exact Or.inr ⟨av j, by omega, rfl⟩
                          · rw [eg_160, pk_un q]; exact hgg k (by omega)
                        exact ihb _ (by omega) _ _ _ ⟨f_161, fmvb, _, (j + 1), rfl, hSm, hFs, hC, F_given, by omega, hgg2, hP, hS, lv_sub hl [1, 0] rfl⟩
