set_option maxHeartbeats 4000000 in
set_option maxRecDepth 100000 in
theorem um_goesBy (l : Launch) (dC : Nat → ClassId) (dI : Nat → Nat → Nat) (K : Nat → ClassId) (L : List Nat) (f : Nat → va_E) (rt : Nat → Nat) {fm : List Value} (hC : mC rt L f fm) {g_state : Nat → Int32} (F_state : f (rt 32) = .inl (K 0, 1000, .inl g_state)) {g_saleTick : Nat → Int32} (F_saleTick : f (rt 26) = .inl (K 0, 1000, .inl g_saleTick)) {g_saleWait : Nat → Int32} (F_saleWait : f (rt 33) = .inl (K 0, 1000, .inl g_saleWait)) {g_sort : Nat → Int32} (F_sort : f (rt 10) = .inl (K 0, 40, .inl g_sort)) {g_dayBudget : Nat → Int32} (F_dayBudget : f (rt 15) = .inl (K 0, 40, .inl g_dayBudget)) {g_throttle : Nat → Int32} (F_throttle : f (rt 19) = .inl (K 0, 40, .inl g_throttle)) {g_saleOf : Nat → Int32} (F_saleOf : f (rt 30) = .inl (K 0, 1000, .inl g_saleOf)) {g_pays : Nat → Int32} (F_pays : f (rt 11) = .inl (K 0, 40, .inl g_pays)) {g_price : Nat → Int32} (F_price : f (rt 31) = .inl (K 0, 1000, .inl g_price)) {ns nc tk : Nat} {pc9 : Int32} (I_sales : fm[25]? = some (.int (nI ns))) (I_campaigns : fm[9]? = some (.int (nI nc))) (I_tick : fm[1]? = some (.int (nI tk))) (I_pace : fm[3]? = some (.int pc9)) (hns : ns ≤ 1000) (hso : ∀ j, j < ns → vp_in (g_saleOf j) 40) (hnc : nc ≤ 40) (hLn : gN L) : gMv l yX6_goesBy cX6_goesBy 6 2 (dC, dI) K L f [.ref (rt 51)] (fun f' => (∃ g1 : Nat → Int32, f' = va_up (va_up f (rt 51) (.inr (6, List.set fm 1 (.int (nI (tk + 1)))))) (rt 32) (.inl (K 0, 1000, .inl g1))) ∨ (∃ g1 g2 : Nat → Int32, f' = va_up (va_up (va_up f (rt 51) (.inr (6, List.set fm 1 (.int (nI (tk + 1)))))) (rt 32) (.inl (K 0, 1000, .inl g1))) (rt 19) (.inl (K 0, 40, .inl g2)))) := by
  refine Met.ofW (cc := cX6_goesBy) (maxL := 6) (ret := none) (by decide) rfl ?_
  intro p e s m args below meth c s₁ B hml hv
  obtain ⟨rfl, hP, hK⟩ := hv
  have F_m := hC.2.1
  have hD : va_D (fun q : Nat => q ∈ L) (va_pl L f) := g_D hLn (fun a h => h) f
  generalize hAe : (fun q : Nat => q ∈ L) = A at hD ⊢
  have hx := B.exec
  have hb := B.bytes
  have hr := B.returns
  have hlocks := B.notSynchronized
  have hts0 := atoms_spec (ws := Cond.code yX6_goesBy cX6_goesBy 6 none :: lw_B) B.pre
  have hts : ∀ w ∈ lw_B, w.before _ s = true := fun w h => hts0 w (List.mem_cons_of_mem _ h)
  have hown : s.vm.findClass RX6 = some m.cls := findClass_of_methodNamed B.named
  have hS : va_S A s.heap s.heap [] := va_S.rf
  have hl := lv_entry ([.ref (rt 51)]) (n := 6) (Nat.le_of_ble_eq_true rfl)
  rw [lg_entry_eq]
  generalize (lg_sl ([.ref (rt 51)]) ++ List.replicate (6 - (lg_sl ([.ref (rt 51)])).length) Slot.unset).toArray = ls at hl ⊢
  have hl : lv_has ls 6 [(0, .ref (rt 51))] := hl
  refine lv_aload_n hx hb dX6_goesBy_0 rfl (lv_at hl 0 rfl) ?_
  refine lv_dup hx hb dX6_goesBy_1 rfl ?_
  refine g_get (ci := 6) (v := .int (nI tk)) (C := RX6) (T := TX6) (N := 51) hx hb hts uB6 hown hK hP (hC.1.1 51 (by decide)) F_m rfl 1 (by decide) wm_13 I_tick dX6_goesBy_2 ?_
  refine lv_iconst (v := 1) hx hb dX6_goesBy_5 (by decide) ?_
  refine lv_iadd hx hb dX6_goesBy_6 ?_
  refine lv_topi (fun x_1 ex_1 => ?_)
  obtain rfl : x_1 = nI (tk + 1) := ex_1.trans (nI_1 tk)
  refine g_put (ci := 6) (v := .int (nI (tk + 1))) (ty := .int) (C := RX6) (T := TX6) (N := 51) hx hb hts uB6 tyX6 tyX6_ok nmX6 hown hK hP hD hS (hC.1.1 51 (by decide)) F_m rfl 1 (by decide) wm_13 rfl (by decide +kernel) rfl rfl (by rw [hC.2.2.1]; decide) dX6_goesBy_7 (fun H locs hP hD hS => ?_)
  obtain ⟨fs_2, efs_2⟩ : ∃ z9, z9 = List.set fm 1 (.int (nI (tk + 1))) := ⟨_, rfl⟩
  rw [← efs_2] at hP hD
  have hlen_ : fs_2.length = 51 := by rw [efs_2, List.length_set]; exact hC.2.2.1
  have I_sales : fs_2[25]? = some (.int (nI ns)) := by rw [efs_2, List.getElem?_set_ne (by decide)]; exact I_sales
  have I_campaigns : fs_2[9]? = some (.int (nI nc)) := by rw [efs_2, List.getElem?_set_ne (by decide)]; exact I_campaigns
  have I_pace : fs_2[3]? = some (.int pc9) := by rw [efs_2, List.getElem?_set_ne (by decide)]; exact I_pace
  have I_tick : fs_2[1]? = some (.int (nI (tk + 1))) := by rw [efs_2]; exact List.getElem?_set_self (by rw [hC.2.2.1]; decide)
  have hmr_ : ∀ k ∈ mArr, fs_2[k]? = some (.ref (rt k)) := fun k h => by rw [efs_2, List.getElem?_set_ne (fun q => by rw [← q] at h; exact absurd h (by decide))]; exact hC.2.2.2 k h
  obtain ⟨f_3, ef_3⟩ : ∃ z9, z9 = va_up f (rt 51) (.inr (6, fs_2)) := ⟨_, rfl⟩
  have hP : va_P (dC, dI) vwCl (va_pl L f_3) H := by rw [ef_3]; exact hP
  have hD : va_D A (va_pl L f_3) := by rw [ef_3]; exact hD
  have F_state_ : f_3 (rt 32) = .inl (K 0, 1000, .inl g_state) := by rw [ef_3, va_up_ne _ _ (fun q => absurd (hC.1.2 32 (by decide) 51 (by decide) q) (by decide))]; exact F_state
  have F_saleTick_ : f_3 (rt 26) = .inl (K 0, 1000, .inl g_saleTick) := by rw [ef_3, va_up_ne _ _ (fun q => absurd (hC.1.2 26 (by decide) 51 (by decide) q) (by decide))]; exact F_saleTick
  have F_saleWait_ : f_3 (rt 33) = .inl (K 0, 1000, .inl g_saleWait) := by rw [ef_3, va_up_ne _ _ (fun q => absurd (hC.1.2 33 (by decide) 51 (by decide) q) (by decide))]; exact F_saleWait
  have F_sort_ : f_3 (rt 10) = .inl (K 0, 40, .inl g_sort) := by rw [ef_3, va_up_ne _ _ (fun q => absurd (hC.1.2 10 (by decide) 51 (by decide) q) (by decide))]; exact F_sort
  have F_dayBudget_ : f_3 (rt 15) = .inl (K 0, 40, .inl g_dayBudget) := by rw [ef_3, va_up_ne _ _ (fun q => absurd (hC.1.2 15 (by decide) 51 (by decide) q) (by decide))]; exact F_dayBudget
  have F_throttle_ : f_3 (rt 19) = .inl (K 0, 40, .inl g_throttle) := by rw [ef_3, va_up_ne _ _ (fun q => absurd (hC.1.2 19 (by decide) 51 (by decide) q) (by decide))]; exact F_throttle
  have F_saleOf_ : f_3 (rt 30) = .inl (K 0, 1000, .inl g_saleOf) := by rw [ef_3, va_up_ne _ _ (fun q => absurd (hC.1.2 30 (by decide) 51 (by decide) q) (by decide))]; exact F_saleOf
  have F_pays_ : f_3 (rt 11) = .inl (K 0, 40, .inl g_pays) := by rw [ef_3, va_up_ne _ _ (fun q => absurd (hC.1.2 11 (by decide) 51 (by decide) q) (by decide))]; exact F_pays
  have F_price_ : f_3 (rt 31) = .inl (K 0, 1000, .inl g_price) := by rw [ef_3, va_up_ne _ _ (fun q => absurd (hC.1.2 31 (by decide) 51 (by decide) q) (by decide))]; exact F_price
  have F_state := F_state_
  have F_saleTick := F_saleTick_
  have F_saleWait := F_saleWait_
  have F_sort := F_sort_
  have F_dayBudget := F_dayBudget_
  have F_throttle := F_throttle_
  have F_saleOf := F_saleOf_
  have F_pays := F_pays_
  have F_price := F_price_
  have F_m : f_3 (rt 51) = .inr (6, fs_2) := by rw [ef_3, va_up_self]
  have hC : mC rt L f_3 fs_2 := ⟨hC.1, F_m, hlen_, hmr_⟩
  refine lv_iconst (v := 0) hx hb dX6_goesBy_10 (by decide) ?_
  refine lv_istore_n (lv' := [(1, .int 0), (0, .ref (rt 51))]) hx hb dX6_goesBy_11 rfl hl (by decide) rfl (fun ls hl => ?_)
  refine k_lx (pcx := 63) (fun n H locs ls => ∃ (j : Nat) (fv : Nat → va_E) (gv : Nat → Int32), j + n = ns ∧ fv = va_up f_3 (rt 32) (.inl (K 0, 1000, .inl gv)) ∧ va_P (dC, dI) vwCl (va_pl L fv) H ∧ va_D A (va_pl L fv) ∧ va_S A s.heap H locs ∧ lv_has ls 6 [(0, .ref (rt 51)), (1, .int (nI j))]) (fun H locs ls => ∃ (j : Nat) (fv : Nat → va_E) (gv : Nat → Int32), j = ns ∧ fv = va_up f_3 (rt 32) (.inl (K 0, 1000, .inl gv)) ∧ va_P (dC, dI) vwCl (va_pl L fv) H ∧ va_D A (va_pl L fv) ∧ va_S A s.heap H locs ∧ lv_has ls 6 [(0, .ref (rt 51)), (1, .int (nI j))]) (fun H locs ls hI => ?_) (fun n H locs ls hI hE ih => ?_) ns _ _ _ ⟨0, _, _, by omega, g_upself F_state, hP, hD, hS, lv_sub hl [1, 0] rfl⟩
  · skip
    obtain ⟨j, f_4, g_5, hj, ef_6, hP, hD, hS, hl⟩ := hI
    have F_m_ : f_4 (rt 51) = .inr (6, fs_2) := by rw [ef_6, va_up_ne _ _ (fun q => absurd (hC.1.2 51 (by decide) 32 (by decide) q) (by decide))]; exact F_m
    have F_saleTick_ : f_4 (rt 26) = .inl (K 0, 1000, .inl g_saleTick) := by rw [ef_6, va_up_ne _ _ (fun q => absurd (hC.1.2 26 (by decide) 32 (by decide) q) (by decide))]; exact F_saleTick
    have F_saleWait_ : f_4 (rt 33) = .inl (K 0, 1000, .inl g_saleWait) := by rw [ef_6, va_up_ne _ _ (fun q => absurd (hC.1.2 33 (by decide) 32 (by decide) q) (by decide))]; exact F_saleWait
    have F_sort_ : f_4 (rt 10) = .inl (K 0, 40, .inl g_sort) := by rw [ef_6, va_up_ne _ _ (fun q => absurd (hC.1.2 10 (by decide) 32 (by decide) q) (by decide))]; exact F_sort
    have F_dayBudget_ : f_4 (rt 15) = .inl (K 0, 40, .inl g_dayBudget) := by rw [ef_6, va_up_ne _ _ (fun q => absurd (hC.1.2 15 (by decide) 32 (by decide) q) (by decide))]; exact F_dayBudget
    have F_throttle_ : f_4 (rt 19) = .inl (K 0, 40, .inl g_throttle) := by rw [ef_6, va_up_ne _ _ (fun q => absurd (hC.1.2 19 (by decide) 32 (by decide) q) (by decide))]; exact F_throttle
    have F_saleOf_ : f_4 (rt 30) = .inl (K 0, 1000, .inl g_saleOf) := by rw [ef_6, va_up_ne _ _ (fun q => absurd (hC.1.2 30 (by decide) 32 (by decide) q) (by decide))]; exact F_saleOf
    have F_pays_ : f_4 (rt 11) = .inl (K 0, 40, .inl g_pays) := by rw [ef_6, va_up_ne _ _ (fun q => absurd (hC.1.2 11 (by decide) 32 (by decide) q) (by decide))]; exact F_pays
    have F_price_ : f_4 (rt 31) = .inl (K 0, 1000, .inl g_price) := by rw [ef_6, va_up_ne _ _ (fun q => absurd (hC.1.2 31 (by decide) 32 (by decide) q) (by decide))]; exact F_price
    have F_m := F_m_
    have F_saleTick := F_saleTick_
    have F_saleWait := F_saleWait_
    have F_sort := F_sort_
    have F_dayBudget := F_dayBudget_
    have F_throttle := F_throttle_
    have F_saleOf := F_saleOf_
    have F_pays := F_pays_
    have F_price := F_price_
    have F_state : f_4 (rt 32) = .inl (K 0, 1000, .inl g_5) := by rw [ef_6, va_up_self]
    have hC : mC rt L f_4 fs_2 := ⟨hC.1, F_m, hC.2.2.1, hC.2.2.2⟩
    refine lv_aload_n hx hb dX6_goesBy_63 rfl (lv_at hl 0 rfl) ?_
    refine g_get (ci := 6) (v := .int pc9) (C := RX6) (T := TX6) (N := 51) hx hb hts uB6 hown hK hP (hC.1.1 51 (by decide)) F_m rfl 3 (by decide) wm_113 I_pace dX6_goesBy_64 ?_
    refine lv_if_eq (tgt := 92) hx hb dX6_goesBy_67 (by decide) (fun c_7 => ?_) (fun c_7 => ?_)
    · skip
      exact W.vret hx hb hr (fun t ht hW => ⟨⟨f_4, rfl, (Or.inl ⟨_, by rw [ef_6, ef_3, efs_2]⟩), by show va_P (dC, dI) vwCl (va_pl L f_4) t.heap; rw [ht]; exact hP⟩, hS.F ht⟩) hS.2.2 dX6_goesBy_92
    · skip
      have hpc9 := c_7
      refine lv_aload_n hx hb dX6_goesBy_70 rfl (lv_at hl 0 rfl) ?_
      refine g_get (ci := 6) (v := .int (nI (tk + 1))) (C := RX6) (T := TX6) (N := 51) hx hb hts uB6 hown hK hP (hC.1.1 51 (by decide)) F_m rfl 1 (by decide) wm_13 I_tick dX6_goesBy_71 ?_
      refine lv_aload_n hx hb dX6_goesBy_74 rfl (lv_at hl 0 rfl) ?_
      refine g_get (ci := 6) (v := .int pc9) (C := RX6) (T := TX6) (N := 51) hx hb hts uB6 hown hK hP (hC.1.1 51 (by decide)) F_m rfl 3 (by decide) wm_113 I_pace dX6_goesBy_75 ?_
      refine lv_irem hx hb dX6_goesBy_78 hpc9 ?_
      refine lv_topi (fun x_8 ex_8 => ?_)
      refine lv_if_ne (tgt := 92) hx hb dX6_goesBy_79 (by decide) (fun c_9 => ?_) (fun c_9 => ?_)
      · skip
        exact W.vret hx hb hr (fun t ht hW => ⟨⟨f_4, rfl, (Or.inl ⟨_, by rw [ef_6, ef_3, efs_2]⟩), by show va_P (dC, dI) vwCl (va_pl L f_4) t.heap; rw [ht]; exact hP⟩, hS.F ht⟩) hS.2.2 dX6_goesBy_92
      · skip
        refine lv_aload_n hx hb dX6_goesBy_82 rfl (lv_at hl 0 rfl) ?_
        refine g_get (ci := 6) (v := .int (nI (tk + 1))) (C := RX6) (T := TX6) (N := 51) hx hb hts uB6 hown hK hP (hC.1.1 51 (by decide)) F_m rfl 1 (by decide) wm_13 I_tick dX6_goesBy_83 ?_
        refine lv_bipush (v := 100) hx hb dX6_goesBy_86 (by decide) ?_
        refine lv_irem hx hb dX6_goesBy_88 (by decide) ?_
        refine lv_topi (fun x_10 ex_10 => ?_)
        refine lv_if_ne (tgt := 93) hx hb dX6_goesBy_89 (by decide) (fun c_11 => ?_) (fun c_11 => ?_)
        · skip
          refine lv_iconst (v := 0) hx hb dX6_goesBy_93 (by decide) ?_
          refine lv_istore_n (lv' := [(1, .int 0), (0, .ref (rt 51))]) hx hb dX6_goesBy_94 rfl hl (by decide) rfl (fun ls hl => ?_)
          refine k_lx (pcx := 257) (fun n H locs ls => ∃ (j : Nat) (fv : Nat → va_E) (gv : Nat → Int32), j + n = nc ∧ fv = va_up f_4 (rt 19) (.inl (K 0, 40, .inl gv)) ∧ va_P (dC, dI) vwCl (va_pl L fv) H ∧ va_D A (va_pl L fv) ∧ va_S A s.heap H locs ∧ lv_has ls 6 [(0, .ref (rt 51)), (1, .int (nI j))]) (fun H locs ls => ∃ (j : Nat) (fv : Nat → va_E) (gv : Nat → Int32), j = nc ∧ fv = va_up f_4 (rt 19) (.inl (K 0, 40, .inl gv)) ∧ va_P (dC, dI) vwCl (va_pl L fv) H ∧ va_D A (va_pl L fv) ∧ va_S A s.heap H locs ∧ lv_has ls 6 [(0, .ref (rt 51)), (1, .int (nI j))]) (fun H locs ls hI => ?_) (fun n H locs ls hI hE ih => ?_) nc _ _ _ ⟨0, _, _, by omega, g_upself F_throttle, hP, hD, hS, lv_sub hl [1, 0] rfl⟩
          · skip
            obtain ⟨j, f_12, g_13, hj, ef_14, hP, hD, hS, hl⟩ := hI
            have F_m_ : f_12 (rt 51) = .inr (6, fs_2) := by rw [ef_14, va_up_ne _ _ (fun q => absurd (hC.1.2 51 (by decide) 19 (by decide) q) (by decide))]; exact F_m
            have F_state_ : f_12 (rt 32) = .inl (K 0, 1000, .inl g_5) := by rw [ef_14, va_up_ne _ _ (fun q => absurd (hC.1.2 32 (by decide) 19 (by decide) q) (by decide))]; exact F_state
            have F_saleTick_ : f_12 (rt 26) = .inl (K 0, 1000, .inl g_saleTick) := by rw [ef_14, va_up_ne _ _ (fun q => absurd (hC.1.2 26 (by decide) 19 (by decide) q) (by decide))]; exact F_saleTick
            have F_saleWait_ : f_12 (rt 33) = .inl (K 0, 1000, .inl g_saleWait) := by rw [ef_14, va_up_ne _ _ (fun q => absurd (hC.1.2 33 (by decide) 19 (by decide) q) (by decide))]; exact F_saleWait
            have F_sort_ : f_12 (rt 10) = .inl (K 0, 40, .inl g_sort) := by rw [ef_14, va_up_ne _ _ (fun q => absurd (hC.1.2 10 (by decide) 19 (by decide) q) (by decide))]; exact F_sort
            have F_dayBudget_ : f_12 (rt 15) = .inl (K 0, 40, .inl g_dayBudget) := by rw [ef_14, va_up_ne _ _ (fun q => absurd (hC.1.2 15 (by decide) 19 (by decide) q) (by decide))]; exact F_dayBudget
            have F_saleOf_ : f_12 (rt 30) = .inl (K 0, 1000, .inl g_saleOf) := by rw [ef_14, va_up_ne _ _ (fun q => absurd (hC.1.2 30 (by decide) 19 (by decide) q) (by decide))]; exact F_saleOf
            have F_pays_ : f_12 (rt 11) = .inl (K 0, 40, .inl g_pays) := by rw [ef_14, va_up_ne _ _ (fun q => absurd (hC.1.2 11 (by decide) 19 (by decide) q) (by decide))]; exact F_pays
            have F_price_ : f_12 (rt 31) = .inl (K 0, 1000, .inl g_price) := by rw [ef_14, va_up_ne _ _ (fun q => absurd (hC.1.2 31 (by decide) 19 (by decide) q) (by decide))]; exact F_price
            have F_m := F_m_
            have F_state := F_state_
            have F_saleTick := F_saleTick_
            have F_saleWait := F_saleWait_
            have F_sort := F_sort_
            have F_dayBudget := F_dayBudget_
            have F_saleOf := F_saleOf_
            have F_pays := F_pays_
            have F_price := F_price_
            have F_throttle : f_12 (rt 19) = .inl (K 0, 40, .inl g_13) := by rw [ef_14, va_up_self]
            have hC : mC rt L f_12 fs_2 := ⟨hC.1, F_m, hC.2.2.1, hC.2.2.2⟩
            exact W.vret hx hb hr (fun t ht hW => ⟨⟨f_12, rfl, (Or.inr ⟨_, _, by rw [ef_14, ef_6, ef_3, efs_2]⟩), by show va_P (dC, dI) vwCl (va_pl L f_12) t.heap; rw [ht]; exact hP⟩, hS.F ht⟩) hS.2.2 dX6_goesBy_257
          · skip
            obtain ⟨j, f_15, g_16, hj, ef_17, hP, hD, hS, hl⟩ := hI
            have F_m_ : f_15 (rt 51) = .inr (6, fs_2) := by rw [ef_17, va_up_ne _ _ (fun q => absurd (hC.1.2 51 (by decide) 19 (by decide) q) (by decide))]; exact F_m
            have F_state_ : f_15 (rt 32) = .inl (K 0, 1000, .inl g_5) := by rw [ef_17, va_up_ne _ _ (fun q => absurd (hC.1.2 32 (by decide) 19 (by decide) q) (by decide))]; exact F_state
            have F_saleTick_ : f_15 (rt 26) = .inl (K 0, 1000, .inl g_saleTick) := by rw [ef_17, va_up_ne _ _ (fun q => absurd (hC.1.2 26 (by decide) 19 (by decide) q) (by decide))]; exact F_saleTick
            have F_saleWait_ : f_15 (rt 33) = .inl (K 0, 1000, .inl g_saleWait) := by rw [ef_17, va_up_ne _ _ (fun q => absurd (hC.1.2 33 (by decide) 19 (by decide) q) (by decide))]; exact F_saleWait
            have F_sort_ : f_15 (rt 10) = .inl (K 0, 40, .inl g_sort) := by rw [ef_17, va_up_ne _ _ (fun q => absurd (hC.1.2 10 (by decide) 19 (by decide) q) (by decide))]; exact F_sort
            have F_dayBudget_ : f_15 (rt 15) = .inl (K 0, 40, .inl g_dayBudget) := by rw [ef_17, va_up_ne _ _ (fun q => absurd (hC.1.2 15 (by decide) 19 (by decide) q) (by decide))]; exact F_dayBudget
            have F_saleOf_ : f_15 (rt 30) = .inl (K 0, 1000, .inl g_saleOf) := by rw [ef_17, va_up_ne _ _ (fun q => absurd (hC.1.2 30 (by decide) 19 (by decide) q) (by decide))]; exact F_saleOf
            have F_pays_ : f_15 (rt 11) = .inl (K 0, 40, .inl g_pays) := by rw [ef_17, va_up_ne _ _ (fun q => absurd (hC.1.2 11 (by decide) 19 (by decide) q) (by decide))]; exact F_pays
            have F_price_ : f_15 (rt 31) = .inl (K 0, 1000, .inl g_price) := by rw [ef_17, va_up_ne _ _ (fun q => absurd (hC.1.2 31 (by decide) 19 (by decide) q) (by decide))]; exact F_price
            have F_m := F_m_
            have F_state := F_state_
            have F_saleTick := F_saleTick_
            have F_saleWait := F_saleWait_
            have F_sort := F_sort_
            have F_dayBudget := F_dayBudget_
            have F_saleOf := F_saleOf_
            have F_pays := F_pays_
            have F_price := F_price_
            have F_throttle : f_15 (rt 19) = .inl (K 0, 40, .inl g_16) := by rw [ef_17, va_up_self]
            have hC : mC rt L f_15 fs_2 := ⟨hC.1, F_m, hC.2.2.1, hC.2.2.2⟩
            refine lv_iload_n hx hb dX6_goesBy_95 rfl (lv_at hl 1 rfl) ?_
            refine lv_aload_n hx hb dX6_goesBy_96 rfl (lv_at hl 0 rfl) ?_
            refine g_get (ci := 6) (v := .int (nI nc)) (C := RX6) (T := TX6) (N := 51) hx hb hts uB6 hown hK hP (hC.1.1 51 (by decide)) F_m rfl 9 (by decide) wm_76 I_campaigns dX6_goesBy_97 ?_
            refine lv_icmp_ge (tgt := 257) hx hb dX6_goesBy_100 (by decide) (fun c_18 => ?_) (fun c_18 => ?_)
            · skip
              have hjn : j = nc := by have := (nI_leI (a := nc) (b := j) (by omega) (by omega)).mp c_18; omega
              exact hE _ _ _ ⟨j, f_15, _, by omega, ef_17, hP, hD, hS, lv_sub hl [0, 1] rfl⟩
            · skip
              have hjn : j < nc := by rcases Nat.lt_or_ge j nc with q | q; exact q; exact absurd (nI_le q (by omega)) c_18
              refine lv_aload_n hx hb dX6_goesBy_103 rfl (lv_at hl 0 rfl) ?_
              refine g_get (ci := 6) (v := .ref (rt 10)) (C := RX6) (T := TX6) (N := 51) hx hb hts uB6 hown hK hP (hC.1.1 51 (by decide)) F_m rfl 10 (by decide) wm_21 (hC.2.2.2 10 (by decide)) dX6_goesBy_104 ?_
              refine lv_iload_n hx hb dX6_goesBy_107 rfl (lv_at hl 1 rfl) ?_
              refine g_iald hx hb hK hP (hC.1.1 10 (by decide)) F_sort (vp_in_nI (by omega) (by decide)) dX6_goesBy_108 ?_
              refine lv_topi (fun x_19 ex_19 => ?_)
              rw [nI_clamp (by omega)] at ex_19
              refine lv_if_eq (tgt := 115) hx hb dX6_goesBy_109 (by decide) (fun c_20 => ?_) (fun c_20 => ?_)
              · skip
                refine lv_aload_n hx hb dX6_goesBy_115 rfl (lv_at hl 0 rfl) ?_
                refine lv_iload_n hx hb dX6_goesBy_116 rfl (lv_at hl 1 rfl) ?_
                refine lv_aload_n hx hb dX6_goesBy_117 rfl (lv_at hl 0 rfl) ?_
                refine g_get (ci := 6) (v := .int (nI (tk + 1))) (C := RX6) (T := TX6) (N := 51) hx hb hts uB6 hown hK hP (hC.1.1 51 (by decide)) F_m rfl 1 (by decide) wm_13 I_tick dX6_goesBy_118 ?_
                refine lv_bipush (v := 100) hx hb dX6_goesBy_121 (by decide) ?_
                refine lv_idiv hx hb dX6_goesBy_123 (by decide) ?_
                refine lv_topi (fun x_21 ex_21 => ?_)
                refine lv_iconst (v := 1) hx hb dX6_goesBy_124 (by decide) ?_
                refine lv_iconst (v := 1) hx hb dX6_goesBy_125 (by decide) ?_
                refine gc_R (ci := 6) ⟨hx, hb, hml, hown, hts⟩ (m_sum l dC dI K L f_15 rt hC F_saleOf F_saleTick F_state F_pays F_price I_sales (nI j) x_21 1 1 hns hso) 4 wm_14 wm_15 wm_16 wm_8 wm_17 (by decide +kernel) ⟨Nat.le_of_ble_eq_true rfl, Nat.le_of_ble_eq_true rfl⟩ hK rfl (hC.1.1 51 (by decide)) F_m rfl hl.1 rfl (Nat.le_of_ble_eq_true rfl) dX6_goesBy_126 ⟨Nat.le_of_ble_eq_true rfl, Nat.le_of_ble_eq_true rfl⟩ hS hP (fun r_22 H locs hpr_22 hP hS => ?_)
                refine lv_i2l hx hb dX6_goesBy_129 rfl ?_
                refine lv_topl (fun x_23 ex_23 => ?_)
                refine lv_ldc2 (v := 100) hx hb hown (hts _ wm_123) dX6_goesBy_130 ?_
                refine lv_lmul hx hb dX6_goesBy_133 ?_
                refine lv_topl (fun x_24 ex_24 => ?_)
                refine lv_lstore_n (lv' := [(2, .long x_24), (0, .ref (rt 51)), (1, .int (nI j))]) hx hb dX6_goesBy_134 rfl hl (by decide) rfl (fun ls hl => ?_)
                refine lv_aload_n hx hb dX6_goesBy_135 rfl (lv_at hl 1 rfl) ?_
                refine g_get (ci := 6) (v := .ref (rt 15)) (C := RX6) (T := TX6) (N := 51) hx hb hts uB6 hown hK hP (hC.1.1 51 (by decide)) F_m rfl 15 (by decide) wm_12 (hC.2.2.2 15 (by decide)) dX6_goesBy_136 ?_
                refine lv_iload_n hx hb dX6_goesBy_139 rfl (lv_at hl 2 rfl) ?_
                refine g_iald hx hb hK hP (hC.1.1 15 (by decide)) F_dayBudget (vp_in_nI (by omega) (by decide)) dX6_goesBy_140 ?_
                refine lv_topi (fun x_25 ex_25 => ?_)
                rw [nI_clamp (by omega)] at ex_25
                refine lv_i2l hx hb dX6_goesBy_141 rfl ?_
                refine lv_topl (fun x_26 ex_26 => ?_)
                refine lv_aload_n hx hb dX6_goesBy_142 rfl (lv_at hl 1 rfl) ?_
                refine g_get (ci := 6) (v := .int (nI (tk + 1))) (C := RX6) (T := TX6) (N := 51) hx hb hts uB6 hown hK hP (hC.1.1 51 (by decide)) F_m rfl 1 (by decide) wm_13 I_tick dX6_goesBy_143 ?_
                refine lv_bipush (v := 100) hx hb dX6_goesBy_146 (by decide) ?_
                refine lv_irem hx hb dX6_goesBy_148 (by decide) ?_
                refine lv_topi (fun x_27 ex_27 => ?_)
                refine lv_i2l hx hb dX6_goesBy_149 rfl ?_
                refine lv_topl (fun x_28 ex_28 => ?_)
                refine lv_lmul hx hb dX6_goesBy_150 ?_
                refine lv_topl (fun x_29 ex_29 => ?_)
                refine lv_lstore (lv' := [(4, .long x_29), (2, .long x_24), (0, .ref (rt 51)), (1, .int (nI j))]) hx hb dX6_goesBy_151 hl (by decide) rfl (fun ls hl => ?_)
                refine lv_lload_n hx hb dX6_goesBy_153 rfl (lv_at hl 1 rfl) ?_
                refine lv_lload hx hb dX6_goesBy_154 (lv_at hl 0 rfl) ?_
                refine W.lcmp hx hb dX6_goesBy_156 ?_
                refine lv_topi (fun x_30 ex_30 => ?_)
                refine lv_if_le (tgt := 198) hx hb dX6_goesBy_157 (by decide) (fun c_31 => ?_) (fun c_31 => ?_)
                · skip
                  refine lv_lload_n hx hb dX6_goesBy_198 rfl (lv_at hl 1 rfl) ?_
                  refine lv_lload hx hb dX6_goesBy_199 (lv_at hl 0 rfl) ?_
                  refine W.lcmp hx hb dX6_goesBy_201 ?_
                  refine lv_topi (fun x_32 ex_32 => ?_)
                  refine lv_if_ge (tgt := 251) hx hb dX6_goesBy_202 (by decide) (fun c_33 => ?_) (fun c_33 => ?_)
                  · skip
                    obtain ⟨x_34, ex_34⟩ : ∃ y : Int32, y = (nI j) + 1 := ⟨_, rfl⟩
                    refine lv_iinc (v := x_34) (lv' := [(1, .int x_34), (4, .long x_29), (2, .long x_24), (0, .ref (rt 51))]) hx hb dX6_goesBy_251 hl (k := 3) rfl (by rw [ex_34]; rfl) (by decide) rfl (fun ls hl => ?_)
                    refine lv_goto (tgt := 95) hx hb dX6_goesBy_254 (by decide) ?_
                    obtain rfl : x_34 = nI (j + 1) := ex_34.trans (nI_1 j)
                    exact ih (n - 1) (by omega) _ _ _ ⟨j + 1, f_15, _, by omega, ef_17, hP, hD, hS, lv_sub hl [3, 0] rfl⟩
                  · skip
                    refine lv_aload_n hx hb dX6_goesBy_205 rfl (lv_at hl 2 rfl) ?_
                    refine g_get (ci := 6) (v := .ref (rt 19)) (C := RX6) (T := TX6) (N := 51) hx hb hts uB6 hown hK hP (hC.1.1 51 (by decide)) F_m rfl 19 (by decide) wm_38 (hC.2.2.2 19 (by decide)) dX6_goesBy_206 ?_
                    refine lv_iload_n hx hb dX6_goesBy_209 rfl (lv_at hl 3 rfl) ?_
                    refine lv_aload_n hx hb dX6_goesBy_210 rfl (lv_at hl 2 rfl) ?_
                    refine g_get (ci := 6) (v := .ref (rt 19)) (C := RX6) (T := TX6) (N := 51) hx hb hts uB6 hown hK hP (hC.1.1 51 (by decide)) F_m rfl 19 (by decide) wm_38 (hC.2.2.2 19 (by decide)) dX6_goesBy_211 ?_
                    refine lv_iload_n hx hb dX6_goesBy_214 rfl (lv_at hl 3 rfl) ?_
                    refine g_iald hx hb hK hP (hC.1.1 19 (by decide)) F_throttle (vp_in_nI (by omega) (by decide)) dX6_goesBy_215 ?_
                    refine lv_topi (fun x_35 ex_35 => ?_)
                    rw [nI_clamp (by omega)] at ex_35
                    refine lv_bipush (v := 11) hx hb dX6_goesBy_216 (by decide) ?_
                    refine lv_imul hx hb dX6_goesBy_218 ?_
                    refine lv_topi (fun x_36 ex_36 => ?_)
                    refine lv_bipush (v := 10) hx hb dX6_goesBy_219 (by decide) ?_
                    refine lv_idiv hx hb dX6_goesBy_221 (by decide) ?_
                    refine lv_topi (fun x_37 ex_37 => ?_)
                    refine lv_iconst (v := 1) hx hb dX6_goesBy_222 (by decide) ?_
                    refine lv_iadd hx hb dX6_goesBy_223 ?_
                    refine lv_topi (fun x_38 ex_38 => ?_)
                    refine lv_sipush (v := 1000) hx hb dX6_goesBy_224 (by decide) ?_
                    refine lv_icmp_le (tgt := 236) hx hb dX6_goesBy_227 (by decide) (fun c_39 => ?_) (fun c_39 => ?_)
                    · skip
                      refine lv_aload_n hx hb dX6_goesBy_236 rfl (lv_at hl 2 rfl) ?_
                      refine g_get (ci := 6) (v := .ref (rt 19)) (C := RX6) (T := TX6) (N := 51) hx hb hts uB6 hown hK hP (hC.1.1 51 (by decide)) F_m rfl 19 (by decide) wm_38 (hC.2.2.2 19 (by decide)) dX6_goesBy_237 ?_
                      refine lv_iload_n hx hb dX6_goesBy_240 rfl (lv_at hl 3 rfl) ?_
                      refine g_iald hx hb hK hP (hC.1.1 19 (by decide)) F_throttle (vp_in_nI (by omega) (by decide)) dX6_goesBy_241 ?_
                      refine lv_topi (fun x_40 ex_40 => ?_)
                      rw [nI_clamp (by omega)] at ex_40
                      refine lv_bipush (v := 11) hx hb dX6_goesBy_242 (by decide) ?_
                      refine lv_imul hx hb dX6_goesBy_244 ?_
                      refine lv_topi (fun x_41 ex_41 => ?_)
                      refine lv_bipush (v := 10) hx hb dX6_goesBy_245 (by decide) ?_
                      refine lv_idiv hx hb dX6_goesBy_247 (by decide) ?_
                      refine lv_topi (fun x_42 ex_42 => ?_)
                      refine lv_iconst (v := 1) hx hb dX6_goesBy_248 (by decide) ?_
                      refine lv_iadd hx hb dX6_goesBy_249 ?_
                      refine lv_topi (fun x_43 ex_43 => ?_)
                      refine g_iast hx hb hK hP hD hS (hC.1.1 19 (by decide)) F_throttle (vp_in_nI (by omega) (by decide)) dX6_goesBy_250 (fun H locs hP hD hS => ?_)
                      obtain ⟨g_44, eg_44⟩ : ∃ z9, z9 = upd g_16 (Int32.toNatClampNeg (nI j)) x_43 := ⟨_, rfl⟩
                      rw [← eg_44] at hP hD
                      obtain ⟨f_45, ef_45⟩ : ∃ z9, z9 = va_up f_15 (rt 19) (.inl (K 0, 40, .inl g_44)) := ⟨_, rfl⟩
                      have hP : va_P (dC, dI) vwCl (va_pl L f_45) H := by rw [ef_45]; exact hP
                      have hD : va_D A (va_pl L f_45) := by rw [ef_45]; exact hD
                      have F_m_ : f_45 (rt 51) = .inr (6, fs_2) := by rw [ef_45, va_up_ne _ _ (fun q => absurd (hC.1.2 51 (by decide) 19 (by decide) q) (by decide))]; exact F_m
                      have F_state_ : f_45 (rt 32) = .inl (K 0, 1000, .inl g_5) := by rw [ef_45, va_up_ne _ _ (fun q => absurd (hC.1.2 32 (by decide) 19 (by decide) q) (by decide))]; exact F_state
                      have F_saleTick_ : f_45 (rt 26) = .inl (K 0, 1000, .inl g_saleTick) := by rw [ef_45, va_up_ne _ _ (fun q => absurd (hC.1.2 26 (by decide) 19 (by decide) q) (by decide))]; exact F_saleTick
                      have F_saleWait_ : f_45 (rt 33) = .inl (K 0, 1000, .inl g_saleWait) := by rw [ef_45, va_up_ne _ _ (fun q => absurd (hC.1.2 33 (by decide) 19 (by decide) q) (by decide))]; exact F_saleWait
                      have F_sort_ : f_45 (rt 10) = .inl (K 0, 40, .inl g_sort) := by rw [ef_45, va_up_ne _ _ (fun q => absurd (hC.1.2 10 (by decide) 19 (by decide) q) (by decide))]; exact F_sort
                      have F_dayBudget_ : f_45 (rt 15) = .inl (K 0, 40, .inl g_dayBudget) := by rw [ef_45, va_up_ne _ _ (fun q => absurd (hC.1.2 15 (by decide) 19 (by decide) q) (by decide))]; exact F_dayBudget
                      have F_saleOf_ : f_45 (rt 30) = .inl (K 0, 1000, .inl g_saleOf) := by rw [ef_45, va_up_ne _ _ (fun q => absurd (hC.1.2 30 (by decide) 19 (by decide) q) (by decide))]; exact F_saleOf
                      have F_pays_ : f_45 (rt 11) = .inl (K 0, 40, .inl g_pays) := by rw [ef_45, va_up_ne _ _ (fun q => absurd (hC.1.2 11 (by decide) 19 (by decide) q) (by decide))]; exact F_pays
                      have F_price_ : f_45 (rt 31) = .inl (K 0, 1000, .inl g_price) := by rw [ef_45, va_up_ne _ _ (fun q => absurd (hC.1.2 31 (by decide) 19 (by decide) q) (by decide))]; exact F_price
                      have F_m := F_m_
                      have F_state := F_state_
                      have F_saleTick := F_saleTick_
                      have F_saleWait := F_saleWait_
                      have F_sort := F_sort_
                      have F_dayBudget := F_dayBudget_
                      have F_saleOf := F_saleOf_
                      have F_pays := F_pays_
                      have F_price := F_price_
                      have F_throttle : f_45 (rt 19) = .inl (K 0, 40, .inl g_44) := by rw [ef_45, va_up_self]
                      have hC : mC rt L f_45 fs_2 := ⟨hC.1, F_m, hC.2.2.1, hC.2.2.2⟩
                      obtain ⟨x_46, ex_46⟩ : ∃ y : Int32, y = (nI j) + 1 := ⟨_, rfl⟩
                      refine lv_iinc (v := x_46) (lv' := [(1, .int x_46), (4, .long x_29), (2, .long x_24), (0, .ref (rt 51))]) hx hb dX6_goesBy_251 hl (k := 3) rfl (by rw [ex_46]; rfl) (by decide) rfl (fun ls hl => ?_)
                      refine lv_goto (tgt := 95) hx hb dX6_goesBy_254 (by decide) ?_
                      obtain rfl : x_46 = nI (j + 1) := ex_46.trans (nI_1 j)
                      exact ih (n - 1) (by omega) _ _ _ ⟨j + 1, f_45, _, by omega, by rw [ef_45, ef_17, bx_uu], hP, hD, hS, lv_sub hl [3, 0] rfl⟩
                    · skip
                      refine lv_sipush (v := 1000) hx hb dX6_goesBy_230 (by decide) ?_
                      refine lv_goto (tgt := 250) hx hb dX6_goesBy_233 (by decide) ?_
                      refine g_iast hx hb hK hP hD hS (hC.1.1 19 (by decide)) F_throttle (vp_in_nI (by omega) (by decide)) dX6_goesBy_250 (fun H locs hP hD hS => ?_)
                      obtain ⟨g_47, eg_47⟩ : ∃ z9, z9 = upd g_16 (Int32.toNatClampNeg (nI j)) 1000 := ⟨_, rfl⟩
                      rw [← eg_47] at hP hD
                      obtain ⟨f_48, ef_48⟩ : ∃ z9, z9 = va_up f_15 (rt 19) (.inl (K 0, 40, .inl g_47)) := ⟨_, rfl⟩
                      have hP : va_P (dC, dI) vwCl (va_pl L f_48) H := by rw [ef_48]; exact hP
                      have hD : va_D A (va_pl L f_48) := by rw [ef_48]; exact hD
                      have F_m_ : f_48 (rt 51) = .inr (6, fs_2) := by rw [ef_48, va_up_ne _ _ (fun q => absurd (hC.1.2 51 (by decide) 19 (by decide) q) (by decide))]; exact F_m
                      have F_state_ : f_48 (rt 32) = .inl (K 0, 1000, .inl g_5) := by rw [ef_48, va_up_ne _ _ (fun q => absurd (hC.1.2 32 (by decide) 19 (by decide) q) (by decide))]; exact F_state
                      have F_saleTick_ : f_48 (rt 26) = .inl (K 0, 1000, .inl g_saleTick) := by rw [ef_48, va_up_ne _ _ (fun q => absurd (hC.1.2 26 (by decide) 19 (by decide) q) (by decide))]; exact F_saleTick
                      have F_saleWait_ : f_48 (rt 33) = .inl (K 0, 1000, .inl g_saleWait) := by rw [ef_48, va_up_ne _ _ (fun q => absurd (hC.1.2 33 (by decide) 19 (by decide) q) (by decide))]; exact F_saleWait
                      have F_sort_ : f_48 (rt 10) = .inl (K 0, 40, .inl g_sort) := by rw [ef_48, va_up_ne _ _ (fun q => absurd (hC.1.2 10 (by decide) 19 (by decide) q) (by decide))]; exact F_sort
                      have F_dayBudget_ : f_48 (rt 15) = .inl (K 0, 40, .inl g_dayBudget) := by rw [ef_48, va_up_ne _ _ (fun q => absurd (hC.1.2 15 (by decide) 19 (by decide) q) (by decide))]; exact F_dayBudget
                      have F_saleOf_ : f_48 (rt 30) = .inl (K 0, 1000, .inl g_saleOf) := by rw [ef_48, va_up_ne _ _ (fun q => absurd (hC.1.2 30 (by decide) 19 (by decide) q) (by decide))]; exact F_saleOf
                      have F_pays_ : f_48 (rt 11) = .inl (K 0, 40, .inl g_pays) := by rw [ef_48, va_up_ne _ _ (fun q => absurd (hC.1.2 11 (by decide) 19 (by decide) q) (by decide))]; exact F_pays
                      have F_price_ : f_48 (rt 31) = .inl (K 0, 1000, .inl g_price) := by rw [ef_48, va_up_ne _ _ (fun q => absurd (hC.1.2 31 (by decide) 19 (by decide) q) (by decide))]; exact F_price
                      have F_m := F_m_
                      have F_state := F_state_
                      have F_saleTick := F_saleTick_
                      have F_saleWait := F_saleWait_
                      have F_sort := F_sort_
                      have F_dayBudget := F_dayBudget_
                      have F_saleOf := F_saleOf_
                      have F_pays := F_pays_
                      have F_price := F_price_
                      have F_throttle : f_48 (rt 19) = .inl (K 0, 40, .inl g_47) := by rw [ef_48, va_up_self]
                      have hC : mC rt L f_48 fs_2 := ⟨hC.1, F_m, hC.2.2.1, hC.2.2.2⟩
                      obtain ⟨x_49, ex_49⟩ : ∃ y : Int32, y = (nI j) + 1 := ⟨_, rfl⟩
                      refine lv_iinc (v := x_49) (lv' := [(1, .int x_49), (4, .long x_29), (2, .long x_24), (0, .ref (rt 51))]) hx hb dX6_goesBy_251 hl (k := 3) rfl (by rw [ex_49]; rfl) (by decide) rfl (fun ls hl => ?_)
                      refine lv_goto (tgt := 95) hx hb dX6_goesBy_254 (by decide) ?_
                      obtain rfl : x_49 = nI (j + 1) := ex_49.trans (nI_1 j)
                      exact ih (n - 1) (by omega) _ _ _ ⟨j + 1, f_48, _, by omega, by rw [ef_48, ef_17, bx_uu], hP, hD, hS, lv_sub hl [3, 0] rfl⟩
                · skip
                  refine lv_aload_n hx hb dX6_goesBy_160 rfl (lv_at hl 2 rfl) ?_
                  refine g_get (ci := 6) (v := .ref (rt 19)) (C := RX6) (T := TX6) (N := 51) hx hb hts uB6 hown hK hP (hC.1.1 51 (by decide)) F_m rfl 19 (by decide) wm_38 (hC.2.2.2 19 (by decide)) dX6_goesBy_161 ?_
                  refine lv_iload_n hx hb dX6_goesBy_164 rfl (lv_at hl 3 rfl) ?_
                  refine lv_aload_n hx hb dX6_goesBy_165 rfl (lv_at hl 2 rfl) ?_
                  refine g_get (ci := 6) (v := .ref (rt 19)) (C := RX6) (T := TX6) (N := 51) hx hb hts uB6 hown hK hP (hC.1.1 51 (by decide)) F_m rfl 19 (by decide) wm_38 (hC.2.2.2 19 (by decide)) dX6_goesBy_166 ?_
                  refine lv_iload_n hx hb dX6_goesBy_169 rfl (lv_at hl 3 rfl) ?_
                  refine g_iald hx hb hK hP (hC.1.1 19 (by decide)) F_throttle (vp_in_nI (by omega) (by decide)) dX6_goesBy_170 ?_
                  refine lv_topi (fun x_50 ex_50 => ?_)
                  rw [nI_clamp (by omega)] at ex_50
                  refine lv_bipush (v := 9) hx hb dX6_goesBy_171 (by decide) ?_
                  refine lv_imul hx hb dX6_goesBy_173 ?_
                  refine lv_topi (fun x_51 ex_51 => ?_)
                  refine lv_bipush (v := 10) hx hb dX6_goesBy_174 (by decide) ?_
                  refine lv_idiv hx hb dX6_goesBy_176 (by decide) ?_
                  refine lv_topi (fun x_52 ex_52 => ?_)
                  refine lv_iconst (v := 1) hx hb dX6_goesBy_177 (by decide) ?_
                  refine lv_icmp_ge (tgt := 185) hx hb dX6_goesBy_178 (by decide) (fun c_53 => ?_) (fun c_53 => ?_)
                  · skip
                    refine lv_aload_n hx hb dX6_goesBy_185 rfl (lv_at hl 2 rfl) ?_
                    refine g_get (ci := 6) (v := .ref (rt 19)) (C := RX6) (T := TX6) (N := 51) hx hb hts uB6 hown hK hP (hC.1.1 51 (by decide)) F_m rfl 19 (by decide) wm_38 (hC.2.2.2 19 (by decide)) dX6_goesBy_186 ?_
                    refine lv_iload_n hx hb dX6_goesBy_189 rfl (lv_at hl 3 rfl) ?_
                    refine g_iald hx hb hK hP (hC.1.1 19 (by decide)) F_throttle (vp_in_nI (by omega) (by decide)) dX6_goesBy_190 ?_
                    refine lv_topi (fun x_54 ex_54 => ?_)
                    rw [nI_clamp (by omega)] at ex_54
                    refine lv_bipush (v := 9) hx hb dX6_goesBy_191 (by decide) ?_
                    refine lv_imul hx hb dX6_goesBy_193 ?_
                    refine lv_topi (fun x_55 ex_55 => ?_)
                    refine lv_bipush (v := 10) hx hb dX6_goesBy_194 (by decide) ?_
                    refine lv_idiv hx hb dX6_goesBy_196 (by decide) ?_
                    refine lv_topi (fun x_56 ex_56 => ?_)
                    refine g_iast hx hb hK hP hD hS (hC.1.1 19 (by decide)) F_throttle (vp_in_nI (by omega) (by decide)) dX6_goesBy_197 (fun H locs hP hD hS => ?_)
                    obtain ⟨g_57, eg_57⟩ : ∃ z9, z9 = upd g_16 (Int32.toNatClampNeg (nI j)) x_56 := ⟨_, rfl⟩
                    rw [← eg_57] at hP hD
                    obtain ⟨f_58, ef_58⟩ : ∃ z9, z9 = va_up f_15 (rt 19) (.inl (K 0, 40, .inl g_57)) := ⟨_, rfl⟩
                    have hP : va_P (dC, dI) vwCl (va_pl L f_58) H := by rw [ef_58]; exact hP
                    have hD : va_D A (va_pl L f_58) := by rw [ef_58]; exact hD
                    have F_m_ : f_58 (rt 51) = .inr (6, fs_2) := by rw [ef_58, va_up_ne _ _ (fun q => absurd (hC.1.2 51 (by decide) 19 (by decide) q) (by decide))]; exact F_m
                    have F_state_ : f_58 (rt 32) = .inl (K 0, 1000, .inl g_5) := by rw [ef_58, va_up_ne _ _ (fun q => absurd (hC.1.2 32 (by decide) 19 (by decide) q) (by decide))]; exact F_state
                    have F_saleTick_ : f_58 (rt 26) = .inl (K 0, 1000, .inl g_saleTick) := by rw [ef_58, va_up_ne _ _ (fun q => absurd (hC.1.2 26 (by decide) 19 (by decide) q) (by decide))]; exact F_saleTick
                    have F_saleWait_ : f_58 (rt 33) = .inl (K 0, 1000, .inl g_saleWait) := by rw [ef_58, va_up_ne _ _ (fun q => absurd (hC.1.2 33 (by decide) 19 (by decide) q) (by decide))]; exact F_saleWait
                    have F_sort_ : f_58 (rt 10) = .inl (K 0, 40, .inl g_sort) := by rw [ef_58, va_up_ne _ _ (fun q => absurd (hC.1.2 10 (by decide) 19 (by decide) q) (by decide))]; exact F_sort
                    have F_dayBudget_ : f_58 (rt 15) = .inl (K 0, 40, .inl g_dayBudget) := by rw [ef_58, va_up_ne _ _ (fun q => absurd (hC.1.2 15 (by decide) 19 (by decide) q) (by decide))]; exact F_dayBudget
                    have F_saleOf_ : f_58 (rt 30) = .inl (K 0, 1000, .inl g_saleOf) := by rw [ef_58, va_up_ne _ _ (fun q => absurd (hC.1.2 30 (by decide) 19 (by decide) q) (by decide))]; exact F_saleOf
                    have F_pays_ : f_58 (rt 11) = .inl (K 0, 40, .inl g_pays) := by rw [ef_58, va_up_ne _ _ (fun q => absurd (hC.1.2 11 (by decide) 19 (by decide) q) (by decide))]; exact F_pays
                    have F_price_ : f_58 (rt 31) = .inl (K 0, 1000, .inl g_price) := by rw [ef_58, va_up_ne _ _ (fun q => absurd (hC.1.2 31 (by decide) 19 (by decide) q) (by decide))]; exact F_price
                    have F_m := F_m_
                    have F_state := F_state_
                    have F_saleTick := F_saleTick_
                    have F_saleWait := F_saleWait_
                    have F_sort := F_sort_
                    have F_dayBudget := F_dayBudget_
                    have F_saleOf := F_saleOf_
                    have F_pays := F_pays_
                    have F_price := F_price_
                    have F_throttle : f_58 (rt 19) = .inl (K 0, 40, .inl g_57) := by rw [ef_58, va_up_self]
                    have hC : mC rt L f_58 fs_2 := ⟨hC.1, F_m, hC.2.2.1, hC.2.2.2⟩
                    refine lv_lload_n hx hb dX6_goesBy_198 rfl (lv_at hl 1 rfl) ?_
                    refine lv_lload hx hb dX6_goesBy_199 (lv_at hl 0 rfl) ?_
                    refine W.lcmp hx hb dX6_goesBy_201 ?_
                    refine lv_topi (fun x_59 ex_59 => ?_)
                    refine lv_if_ge (tgt := 251) hx hb dX6_goesBy_202 (by decide) (fun c_60 => ?_) (fun c_60 => ?_)
                    · skip
                      obtain ⟨x_61, ex_61⟩ : ∃ y : Int32, y = (nI j) + 1 := ⟨_, rfl⟩
                      refine lv_iinc (v := x_61) (lv' := [(1, .int x_61), (4, .long x_29), (2, .long x_24), (0, .ref (rt 51))]) hx hb dX6_goesBy_251 hl (k := 3) rfl (by rw [ex_61]; rfl) (by decide) rfl (fun ls hl => ?_)
                      refine lv_goto (tgt := 95) hx hb dX6_goesBy_254 (by decide) ?_
                      obtain rfl : x_61 = nI (j + 1) := ex_61.trans (nI_1 j)
                      exact ih (n - 1) (by omega) _ _ _ ⟨j + 1, f_58, _, by omega, by rw [ef_58, ef_17, bx_uu], hP, hD, hS, lv_sub hl [3, 0] rfl⟩
                    · skip
                      refine lv_aload_n hx hb dX6_goesBy_205 rfl (lv_at hl 2 rfl) ?_
                      refine g_get (ci := 6) (v := .ref (rt 19)) (C := RX6) (T := TX6) (N := 51) hx hb hts uB6 hown hK hP (hC.1.1 51 (by decide)) F_m rfl 19 (by decide) wm_38 (hC.2.2.2 19 (by decide)) dX6_goesBy_206 ?_
                      refine lv_iload_n hx hb dX6_goesBy_209 rfl (lv_at hl 3 rfl) ?_
                      refine lv_aload_n hx hb dX6_goesBy_210 rfl (lv_at hl 2 rfl) ?_
                      refine g_get (ci := 6) (v := .ref (rt 19)) (C := RX6) (T := TX6) (N := 51) hx hb hts uB6 hown hK hP (hC.1.1 51 (by decide)) F_m rfl 19 (by decide) wm_38 (hC.2.2.2 19 (by decide)) dX6_goesBy_211 ?_
                      refine lv_iload_n hx hb dX6_goesBy_214 rfl (lv_at hl 3 rfl) ?_
                      refine g_iald hx hb hK hP (hC.1.1 19 (by decide)) F_throttle (vp_in_nI (by omega) (by decide)) dX6_goesBy_215 ?_
                      refine lv_topi (fun x_62 ex_62 => ?_)
                      rw [nI_clamp (by omega)] at ex_62
                      refine lv_bipush (v := 11) hx hb dX6_goesBy_216 (by decide) ?_
                      refine lv_imul hx hb dX6_goesBy_218 ?_
                      refine lv_topi (fun x_63 ex_63 => ?_)
                      refine lv_bipush (v := 10) hx hb dX6_goesBy_219 (by decide) ?_
                      refine lv_idiv hx hb dX6_goesBy_221 (by decide) ?_
                      refine lv_topi (fun x_64 ex_64 => ?_)
                      refine lv_iconst (v := 1) hx hb dX6_goesBy_222 (by decide) ?_
                      refine lv_iadd hx hb dX6_goesBy_223 ?_
                      refine lv_topi (fun x_65 ex_65 => ?_)
                      refine lv_sipush (v := 1000) hx hb dX6_goesBy_224 (by decide) ?_
                      refine lv_icmp_le (tgt := 236) hx hb dX6_goesBy_227 (by decide) (fun c_66 => ?_) (fun c_66 => ?_)
                      · skip
                        refine lv_aload_n hx hb dX6_goesBy_236 rfl (lv_at hl 2 rfl) ?_
                        refine g_get (ci := 6) (v := .ref (rt 19)) (C := RX6) (T := TX6) (N := 51) hx hb hts uB6 hown hK hP (hC.1.1 51 (by decide)) F_m rfl 19 (by decide) wm_38 (hC.2.2.2 19 (by decide)) dX6_goesBy_237 ?_
                        refine lv_iload_n hx hb dX6_goesBy_240 rfl (lv_at hl 3 rfl) ?_
                        refine g_iald hx hb hK hP (hC.1.1 19 (by decide)) F_throttle (vp_in_nI (by omega) (by decide)) dX6_goesBy_241 ?_
                        refine lv_topi (fun x_67 ex_67 => ?_)
                        rw [nI_clamp (by omega)] at ex_67
                        refine lv_bipush (v := 11) hx hb dX6_goesBy_242 (by decide) ?_
                        refine lv_imul hx hb dX6_goesBy_244 ?_
                        refine lv_topi (fun x_68 ex_68 => ?_)
                        refine lv_bipush (v := 10) hx hb dX6_goesBy_245 (by decide) ?_
                        refine lv_idiv hx hb dX6_goesBy_247 (by decide) ?_
                        refine lv_topi (fun x_69 ex_69 => ?_)
                        refine lv_iconst (v := 1) hx hb dX6_goesBy_248 (by decide) ?_
                        refine lv_iadd hx hb dX6_goesBy_249 ?_
                        refine lv_topi (fun x_70 ex_70 => ?_)
                        refine g_iast hx hb hK hP hD hS (hC.1.1 19 (by decide)) F_throttle (vp_in_nI (by omega) (by decide)) dX6_goesBy_250 (fun H locs hP hD hS => ?_)
                        obtain ⟨g_71, eg_71⟩ : ∃ z9, z9 = upd g_57 (Int32.toNatClampNeg (nI j)) x_70 := ⟨_, rfl⟩
                        rw [← eg_71] at hP hD
                        obtain ⟨f_72, ef_72⟩ : ∃ z9, z9 = va_up f_58 (rt 19) (.inl (K 0, 40, .inl g_71)) := ⟨_, rfl⟩
                        have hP : va_P (dC, dI) vwCl (va_pl L f_72) H := by rw [ef_72]; exact hP
                        have hD : va_D A (va_pl L f_72) := by rw [ef_72]; exact hD
                        have F_m_ : f_72 (rt 51) = .inr (6, fs_2) := by rw [ef_72, va_up_ne _ _ (fun q => absurd (hC.1.2 51 (by decide) 19 (by decide) q) (by decide))]; exact F_m
                        have F_state_ : f_72 (rt 32) = .inl (K 0, 1000, .inl g_5) := by rw [ef_72, va_up_ne _ _ (fun q => absurd (hC.1.2 32 (by decide) 19 (by decide) q) (by decide))]; exact F_state
                        have F_saleTick_ : f_72 (rt 26) = .inl (K 0, 1000, .inl g_saleTick) := by rw [ef_72, va_up_ne _ _ (fun q => absurd (hC.1.2 26 (by decide) 19 (by decide) q) (by decide))]; exact F_saleTick
                        have F_saleWait_ : f_72 (rt 33) = .inl (K 0, 1000, .inl g_saleWait) := by rw [ef_72, va_up_ne _ _ (fun q => absurd (hC.1.2 33 (by decide) 19 (by decide) q) (by decide))]; exact F_saleWait
                        have F_sort_ : f_72 (rt 10) = .inl (K 0, 40, .inl g_sort) := by rw [ef_72, va_up_ne _ _ (fun q => absurd (hC.1.2 10 (by decide) 19 (by decide) q) (by decide))]; exact F_sort
                        have F_dayBudget_ : f_72 (rt 15) = .inl (K 0, 40, .inl g_dayBudget) := by rw [ef_72, va_up_ne _ _ (fun q => absurd (hC.1.2 15 (by decide) 19 (by decide) q) (by decide))]; exact F_dayBudget
                        have F_saleOf_ : f_72 (rt 30) = .inl (K 0, 1000, .inl g_saleOf) := by rw [ef_72, va_up_ne _ _ (fun q => absurd (hC.1.2 30 (by decide) 19 (by decide) q) (by decide))]; exact F_saleOf
                        have F_pays_ : f_72 (rt 11) = .inl (K 0, 40, .inl g_pays) := by rw [ef_72, va_up_ne _ _ (fun q => absurd (hC.1.2 11 (by decide) 19 (by decide) q) (by decide))]; exact F_pays
                        have F_price_ : f_72 (rt 31) = .inl (K 0, 1000, .inl g_price) := by rw [ef_72, va_up_ne _ _ (fun q => absurd (hC.1.2 31 (by decide) 19 (by decide) q) (by decide))]; exact F_price
                        have F_m := F_m_
                        have F_state := F_state_
                        have F_saleTick := F_saleTick_
                        have F_saleWait := F_saleWait_
                        have F_sort := F_sort_
                        have F_dayBudget := F_dayBudget_
                        have F_saleOf := F_saleOf_
                        have F_pays := F_pays_
                        have F_price := F_price_
                        have F_throttle : f_72 (rt 19) = .inl (K 0, 40, .inl g_71) := by rw [ef_72, va_up_self]
                        have hC : mC rt L f_72 fs_2 := ⟨hC.1, F_m, hC.2.2.1, hC.2.2.2⟩
                        obtain ⟨x_73, ex_73⟩ : ∃ y : Int32, y = (nI j) + 1 := ⟨_, rfl⟩
                        refine lv_iinc (v := x_73) (lv' := [(1, .int x_73), (4, .long x_29), (2, .long x_24), (0, .ref (rt 51))]) hx hb dX6_goesBy_251 hl (k := 3) rfl (by rw [ex_73]; rfl) (by decide) rfl (fun ls hl => ?_)
                        refine lv_goto (tgt := 95) hx hb dX6_goesBy_254 (by decide) ?_
                        obtain rfl : x_73 = nI (j + 1) := ex_73.trans (nI_1 j)
                        exact ih (n - 1) (by omega) _ _ _ ⟨j + 1, f_72, _, by omega, by rw [ef_72, ef_58, ef_17, bx_uu, bx_uu], hP, hD, hS, lv_sub hl [3, 0] rfl⟩
                      · skip
                        refine lv_sipush (v := 1000) hx hb dX6_goesBy_230 (by decide) ?_
                        refine lv_goto (tgt := 250) hx hb dX6_goesBy_233 (by decide) ?_
                        refine g_iast hx hb hK hP hD hS (hC.1.1 19 (by decide)) F_throttle (vp_in_nI (by omega) (by decide)) dX6_goesBy_250 (fun H locs hP hD hS => ?_)
                        obtain ⟨g_74, eg_74⟩ : ∃ z9, z9 = upd g_57 (Int32.toNatClampNeg (nI j)) 1000 := ⟨_, rfl⟩
                        rw [← eg_74] at hP hD
                        obtain ⟨f_75, ef_75⟩ : ∃ z9, z9 = va_up f_58 (rt 19) (.inl (K 0, 40, .inl g_74)) := ⟨_, rfl⟩
                        have hP : va_P (dC, dI) vwCl (va_pl L f_75) H := by rw [ef_75]; exact hP
                        have hD : va_D A (va_pl L f_75) := by rw [ef_75]; exact hD
                        have F_m_ : f_75 (rt 51) = .inr (6, fs_2) := by rw [ef_75, va_up_ne _ _ (fun q => absurd (hC.1.2 51 (by decide) 19 (by decide) q) (by decide))]; exact F_m
                        have F_state_ : f_75 (rt 32) = .inl (K 0, 1000, .inl g_5) := by rw [ef_75, va_up_ne _ _ (fun q => absurd (hC.1.2 32 (by decide) 19 (by decide) q) (by decide))]; exact F_state
                        have F_saleTick_ : f_75 (rt 26) = .inl (K 0, 1000, .inl g_saleTick) := by rw [ef_75, va_up_ne _ _ (fun q => absurd (hC.1.2 26 (by decide) 19 (by decide) q) (by decide))]; exact F_saleTick
                        have F_saleWait_ : f_75 (rt 33) = .inl (K 0, 1000, .inl g_saleWait) := by rw [ef_75, va_up_ne _ _ (fun q => absurd (hC.1.2 33 (by decide) 19 (by decide) q) (by decide))]; exact F_saleWait
                        have F_sort_ : f_75 (rt 10) = .inl (K 0, 40, .inl g_sort) := by rw [ef_75, va_up_ne _ _ (fun q => absurd (hC.1.2 10 (by decide) 19 (by decide) q) (by decide))]; exact F_sort
                        have F_dayBudget_ : f_75 (rt 15) = .inl (K 0, 40, .inl g_dayBudget) := by rw [ef_75, va_up_ne _ _ (fun q => absurd (hC.1.2 15 (by decide) 19 (by decide) q) (by decide))]; exact F_dayBudget
                        have F_saleOf_ : f_75 (rt 30) = .inl (K 0, 1000, .inl g_saleOf) := by rw [ef_75, va_up_ne _ _ (fun q => absurd (hC.1.2 30 (by decide) 19 (by decide) q) (by decide))]; exact F_saleOf
                        have F_pays_ : f_75 (rt 11) = .inl (K 0, 40, .inl g_pays) := by rw [ef_75, va_up_ne _ _ (fun q => absurd (hC.1.2 11 (by decide) 19 (by decide) q) (by decide))]; exact F_pays
                        have F_price_ : f_75 (rt 31) = .inl (K 0, 1000, .inl g_price) := by rw [ef_75, va_up_ne _ _ (fun q => absurd (hC.1.2 31 (by decide) 19 (by decide) q) (by decide))]; exact F_price
                        have F_m := F_m_
                        have F_state := F_state_
                        have F_saleTick := F_saleTick_
                        have F_saleWait := F_saleWait_
                        have F_sort := F_sort_
                        have F_dayBudget := F_dayBudget_
                        have F_saleOf := F_saleOf_
                        have F_pays := F_pays_
                        have F_price := F_price_
                        have F_throttle : f_75 (rt 19) = .inl (K 0, 40, .inl g_74) := by rw [ef_75, va_up_self]
                        have hC : mC rt L f_75 fs_2 := ⟨hC.1, F_m, hC.2.2.1, hC.2.2.2⟩
                        obtain ⟨x_76, ex_76⟩ : ∃ y : Int32, y = (nI j) + 1 := ⟨_, rfl⟩
                        refine lv_iinc (v := x_76) (lv' := [(1, .int x_76), (4, .long x_29), (2, .long x_24), (0, .ref (rt 51))]) hx hb dX6_goesBy_251 hl (k := 3) rfl (by rw [ex_76]; rfl) (by decide) rfl (fun ls hl => ?_)
                        refine lv_goto (tgt := 95) hx hb dX6_goesBy_254 (by decide) ?_
                        obtain rfl : x_76 = nI (j + 1) := ex_76.trans (nI_1 j)
                        exact ih (n - 1) (by omega) _ _ _ ⟨j + 1, f_75, _, by omega, by rw [ef_75, ef_58, ef_17, bx_uu, bx_uu], hP, hD, hS, lv_sub hl [3, 0] rfl⟩
                  · skip
                    refine lv_iconst (v := 1) hx hb dX6_goesBy_181 (by decide) ?_
                    refine lv_goto (tgt := 197) hx hb dX6_goesBy_182 (by decide) ?_
                    refine g_iast hx hb hK hP hD hS (hC.1.1 19 (by decide)) F_throttle (vp_in_nI (by omega) (by decide)) dX6_goesBy_197 (fun H locs hP hD hS => ?_)
                    obtain ⟨g_77, eg_77⟩ : ∃ z9, z9 = upd g_16 (Int32.toNatClampNeg (nI j)) 1 := ⟨_, rfl⟩
                    rw [← eg_77] at hP hD
                    obtain ⟨f_78, ef_78⟩ : ∃ z9, z9 = va_up f_15 (rt 19) (.inl (K 0, 40, .inl g_77)) := ⟨_, rfl⟩
                    have hP : va_P (dC, dI) vwCl (va_pl L f_78) H := by rw [ef_78]; exact hP
                    have hD : va_D A (va_pl L f_78) := by rw [ef_78]; exact hD
                    have F_m_ : f_78 (rt 51) = .inr (6, fs_2) := by rw [ef_78, va_up_ne _ _ (fun q => absurd (hC.1.2 51 (by decide) 19 (by decide) q) (by decide))]; exact F_m
                    have F_state_ : f_78 (rt 32) = .inl (K 0, 1000, .inl g_5) := by rw [ef_78, va_up_ne _ _ (fun q => absurd (hC.1.2 32 (by decide) 19 (by decide) q) (by decide))]; exact F_state
                    have F_saleTick_ : f_78 (rt 26) = .inl (K 0, 1000, .inl g_saleTick) := by rw [ef_78, va_up_ne _ _ (fun q => absurd (hC.1.2 26 (by decide) 19 (by decide) q) (by decide))]; exact F_saleTick
                    have F_saleWait_ : f_78 (rt 33) = .inl (K 0, 1000, .inl g_saleWait) := by rw [ef_78, va_up_ne _ _ (fun q => absurd (hC.1.2 33 (by decide) 19 (by decide) q) (by decide))]; exact F_saleWait
                    have F_sort_ : f_78 (rt 10) = .inl (K 0, 40, .inl g_sort) := by rw [ef_78, va_up_ne _ _ (fun q => absurd (hC.1.2 10 (by decide) 19 (by decide) q) (by decide))]; exact F_sort
                    have F_dayBudget_ : f_78 (rt 15) = .inl (K 0, 40, .inl g_dayBudget) := by rw [ef_78, va_up_ne _ _ (fun q => absurd (hC.1.2 15 (by decide) 19 (by decide) q) (by decide))]; exact F_dayBudget
                    have F_saleOf_ : f_78 (rt 30) = .inl (K 0, 1000, .inl g_saleOf) := by rw [ef_78, va_up_ne _ _ (fun q => absurd (hC.1.2 30 (by decide) 19 (by decide) q) (by decide))]; exact F_saleOf
                    have F_pays_ : f_78 (rt 11) = .inl (K 0, 40, .inl g_pays) := by rw [ef_78, va_up_ne _ _ (fun q => absurd (hC.1.2 11 (by decide) 19 (by decide) q) (by decide))]; exact F_pays
                    have F_price_ : f_78 (rt 31) = .inl (K 0, 1000, .inl g_price) := by rw [ef_78, va_up_ne _ _ (fun q => absurd (hC.1.2 31 (by decide) 19 (by decide) q) (by decide))]; exact F_price
                    have F_m := F_m_
                    have F_state := F_state_
                    have F_saleTick := F_saleTick_
                    have F_saleWait := F_saleWait_
                    have F_sort := F_sort_
                    have F_dayBudget := F_dayBudget_
                    have F_saleOf := F_saleOf_
                    have F_pays := F_pays_
                    have F_price := F_price_
                    have F_throttle : f_78 (rt 19) = .inl (K 0, 40, .inl g_77) := by rw [ef_78, va_up_self]
                    have hC : mC rt L f_78 fs_2 := ⟨hC.1, F_m, hC.2.2.1, hC.2.2.2⟩
                    refine lv_lload_n hx hb dX6_goesBy_198 rfl (lv_at hl 1 rfl) ?_
                    refine lv_lload hx hb dX6_goesBy_199 (lv_at hl 0 rfl) ?_
                    refine W.lcmp hx hb dX6_goesBy_201 ?_
                    refine lv_topi (fun x_79 ex_79 => ?_)
                    refine lv_if_ge (tgt := 251) hx hb dX6_goesBy_202 (by decide) (fun c_80 => ?_) (fun c_80 => ?_)
                    · skip
                      obtain ⟨x_81, ex_81⟩ : ∃ y : Int32, y = (nI j) + 1 := ⟨_, rfl⟩
                      refine lv_iinc (v := x_81) (lv' := [(1, .int x_81), (4, .long x_29), (2, .long x_24), (0, .ref (rt 51))]) hx hb dX6_goesBy_251 hl (k := 3) rfl (by rw [ex_81]; rfl) (by decide) rfl (fun ls hl => ?_)
                      refine lv_goto (tgt := 95) hx hb dX6_goesBy_254 (by decide) ?_
                      obtain rfl : x_81 = nI (j + 1) := ex_81.trans (nI_1 j)
                      exact ih (n - 1) (by omega) _ _ _ ⟨j + 1, f_78, _, by omega, by rw [ef_78, ef_17, bx_uu], hP, hD, hS, lv_sub hl [3, 0] rfl⟩
                    · skip
                      refine lv_aload_n hx hb dX6_goesBy_205 rfl (lv_at hl 2 rfl) ?_
                      refine g_get (ci := 6) (v := .ref (rt 19)) (C := RX6) (T := TX6) (N := 51) hx hb hts uB6 hown hK hP (hC.1.1 51 (by decide)) F_m rfl 19 (by decide) wm_38 (hC.2.2.2 19 (by decide)) dX6_goesBy_206 ?_
                      refine lv_iload_n hx hb dX6_goesBy_209 rfl (lv_at hl 3 rfl) ?_
                      refine lv_aload_n hx hb dX6_goesBy_210 rfl (lv_at hl 2 rfl) ?_
                      refine g_get (ci := 6) (v := .ref (rt 19)) (C := RX6) (T := TX6) (N := 51) hx hb hts uB6 hown hK hP (hC.1.1 51 (by decide)) F_m rfl 19 (by decide) wm_38 (hC.2.2.2 19 (by decide)) dX6_goesBy_211 ?_
                      refine lv_iload_n hx hb dX6_goesBy_214 rfl (lv_at hl 3 rfl) ?_
                      refine g_iald hx hb hK hP (hC.1.1 19 (by decide)) F_throttle (vp_in_nI (by omega) (by decide)) dX6_goesBy_215 ?_
                      refine lv_topi (fun x_82 ex_82 => ?_)
                      rw [nI_clamp (by omega)] at ex_82
                      refine lv_bipush (v := 11) hx hb dX6_goesBy_216 (by decide) ?_
                      refine lv_imul hx hb dX6_goesBy_218 ?_
                      refine lv_topi (fun x_83 ex_83 => ?_)
                      refine lv_bipush (v := 10) hx hb dX6_goesBy_219 (by decide) ?_
                      refine lv_idiv hx hb dX6_goesBy_221 (by decide) ?_
                      refine lv_topi (fun x_84 ex_84 => ?_)
                      refine lv_iconst (v := 1) hx hb dX6_goesBy_222 (by decide) ?_
                      refine lv_iadd hx hb dX6_goesBy_223 ?_
                      refine lv_topi (fun x_85 ex_85 => ?_)
                      refine lv_sipush (v := 1000) hx hb dX6_goesBy_224 (by decide) ?_
                      refine lv_icmp_le (tgt := 236) hx hb dX6_goesBy_227 (by decide) (fun c_86 => ?_) (fun c_86 => ?_)
                      · skip
                        refine lv_aload_n hx hb dX6_goesBy_236 rfl (lv_at hl 2 rfl) ?_
                        refine g_get (ci := 6) (v := .ref (rt 19)) (C := RX6) (T := TX6) (N := 51) hx hb hts uB6 hown hK hP (hC.1.1 51 (by decide)) F_m rfl 19 (by decide) wm_38 (hC.2.2.2 19 (by decide)) dX6_goesBy_237 ?_
                        refine lv_iload_n hx hb dX6_goesBy_240 rfl (lv_at hl 3 rfl) ?_
                        refine g_iald hx hb hK hP (hC.1.1 19 (by decide)) F_throttle (vp_in_nI (by omega) (by decide)) dX6_goesBy_241 ?_
                        refine lv_topi (fun x_87 ex_87 => ?_)
                        rw [nI_clamp (by omega)] at ex_87
                        refine lv_bipush (v := 11) hx hb dX6_goesBy_242 (by decide) ?_
                        refine lv_imul hx hb dX6_goesBy_244 ?_
                        refine lv_topi (fun x_88 ex_88 => ?_)
                        refine lv_bipush (v := 10) hx hb dX6_goesBy_245 (by decide) ?_
                        refine lv_idiv hx hb dX6_goesBy_247 (by decide) ?_
                        refine lv_topi (fun x_89 ex_89 => ?_)
                        refine lv_iconst (v := 1) hx hb dX6_goesBy_248 (by decide) ?_
                        refine lv_iadd hx hb dX6_goesBy_249 ?_
                        refine lv_topi (fun x_90 ex_90 => ?_)
                        refine g_iast hx hb hK hP hD hS (hC.1.1 19 (by decide)) F_throttle (vp_in_nI (by omega) (by decide)) dX6_goesBy_250 (fun H locs hP hD hS => ?_)
                        obtain ⟨g_91, eg_91⟩ : ∃ z9, z9 = upd g_77 (Int32.toNatClampNeg (nI j)) x_90 := ⟨_, rfl⟩
                        rw [← eg_91] at hP hD
                        obtain ⟨f_92, ef_92⟩ : ∃ z9, z9 = va_up f_78 (rt 19) (.inl (K 0, 40, .inl g_91)) := ⟨_, rfl⟩
                        have hP : va_P (dC, dI) vwCl (va_pl L f_92) H := by rw [ef_92]; exact hP
                        have hD : va_D A (va_pl L f_92) := by rw [ef_92]; exact hD
                        have F_m_ : f_92 (rt 51) = .inr (6, fs_2) := by rw [ef_92, va_up_ne _ _ (fun q => absurd (hC.1.2 51 (by decide) 19 (by decide) q) (by decide))]; exact F_m
                        have F_state_ : f_92 (rt 32) = .inl (K 0, 1000, .inl g_5) := by rw [ef_92, va_up_ne _ _ (fun q => absurd (hC.1.2 32 (by decide) 19 (by decide) q) (by decide))]; exact F_state
                        have F_saleTick_ : f_92 (rt 26) = .inl (K 0, 1000, .inl g_saleTick) := by rw [ef_92, va_up_ne _ _ (fun q => absurd (hC.1.2 26 (by decide) 19 (by decide) q) (by decide))]; exact F_saleTick
                        have F_saleWait_ : f_92 (rt 33) = .inl (K 0, 1000, .inl g_saleWait) := by rw [ef_92, va_up_ne _ _ (fun q => absurd (hC.1.2 33 (by decide) 19 (by decide) q) (by decide))]; exact F_saleWait
                        have F_sort_ : f_92 (rt 10) = .inl (K 0, 40, .inl g_sort) := by rw [ef_92, va_up_ne _ _ (fun q => absurd (hC.1.2 10 (by decide) 19 (by decide) q) (by decide))]; exact F_sort
                        have F_dayBudget_ : f_92 (rt 15) = .inl (K 0, 40, .inl g_dayBudget) := by rw [ef_92, va_up_ne _ _ (fun q => absurd (hC.1.2 15 (by decide) 19 (by decide) q) (by decide))]; exact F_dayBudget
                        have F_saleOf_ : f_92 (rt 30) = .inl (K 0, 1000, .inl g_saleOf) := by rw [ef_92, va_up_ne _ _ (fun q => absurd (hC.1.2 30 (by decide) 19 (by decide) q) (by decide))]; exact F_saleOf
                        have F_pays_ : f_92 (rt 11) = .inl (K 0, 40, .inl g_pays) := by rw [ef_92, va_up_ne _ _ (fun q => absurd (hC.1.2 11 (by decide) 19 (by decide) q) (by decide))]; exact F_pays
                        have F_price_ : f_92 (rt 31) = .inl (K 0, 1000, .inl g_price) := by rw [ef_92, va_up_ne _ _ (fun q => absurd (hC.1.2 31 (by decide) 19 (by decide) q) (by decide))]; exact F_price
                        have F_m := F_m_
                        have F_state := F_state_
                        have F_saleTick := F_saleTick_
                        have F_saleWait := F_saleWait_
                        have F_sort := F_sort_
                        have F_dayBudget := F_dayBudget_
                        have F_saleOf := F_saleOf_
                        have F_pays := F_pays_
                        have F_price := F_price_
                        have F_throttle : f_92 (rt 19) = .inl (K 0, 40, .inl g_91) := by rw [ef_92, va_up_self]
                        have hC : mC rt L f_92 fs_2 := ⟨hC.1, F_m, hC.2.2.1, hC.2.2.2⟩
                        obtain ⟨x_93, ex_93⟩ : ∃ y : Int32, y = (nI j) + 1 := ⟨_, rfl⟩
                        refine lv_iinc (v := x_93) (lv' := [(1, .int x_93), (4, .long x_29), (2, .long x_24), (0, .ref (rt 51))]) hx hb dX6_goesBy_251 hl (k := 3) rfl (by rw [ex_93]; rfl) (by decide) rfl (fun ls hl => ?_)
                        refine lv_goto (tgt := 95) hx hb dX6_goesBy_254 (by decide) ?_
                        obtain rfl : x_93 = nI (j + 1) := ex_93.trans (nI_1 j)
                        exact ih (n - 1) (by omega) _ _ _ ⟨j + 1, f_92, _, by omega, by rw [ef_92, ef_78, ef_17, bx_uu, bx_uu], hP, hD, hS, lv_sub hl [3, 0] rfl⟩
                      · skip
                        refine lv_sipush (v := 1000) hx hb dX6_goesBy_230 (by decide) ?_
                        refine lv_goto (tgt := 250) hx hb dX6_goesBy_233 (by decide) ?_
                        refine g_iast hx hb hK hP hD hS (hC.1.1 19 (by decide)) F_throttle (vp_in_nI (by omega) (by decide)) dX6_goesBy_250 (fun H locs hP hD hS => ?_)
                        obtain ⟨g_94, eg_94⟩ : ∃ z9, z9 = upd g_77 (Int32.toNatClampNeg (nI j)) 1000 := ⟨_, rfl⟩
                        rw [← eg_94] at hP hD
                        obtain ⟨f_95, ef_95⟩ : ∃ z9, z9 = va_up f_78 (rt 19) (.inl (K 0, 40, .inl g_94)) := ⟨_, rfl⟩
                        have hP : va_P (dC, dI) vwCl (va_pl L f_95) H := by rw [ef_95]; exact hP
                        have hD : va_D A (va_pl L f_95) := by rw [ef_95]; exact hD
                        have F_m_ : f_95 (rt 51) = .inr (6, fs_2) := by rw [ef_95, va_up_ne _ _ (fun q => absurd (hC.1.2 51 (by decide) 19 (by decide) q) (by decide))]; exact F_m
                        have F_state_ : f_95 (rt 32) = .inl (K 0, 1000, .inl g_5) := by rw [ef_95, va_up_ne _ _ (fun q => absurd (hC.1.2 32 (by decide) 19 (by decide) q) (by decide))]; exact F_state
                        have F_saleTick_ : f_95 (rt 26) = .inl (K 0, 1000, .inl g_saleTick) := by rw [ef_95, va_up_ne _ _ (fun q => absurd (hC.1.2 26 (by decide) 19 (by decide) q) (by decide))]; exact F_saleTick
                        have F_saleWait_ : f_95 (rt 33) = .inl (K 0, 1000, .inl g_saleWait) := by rw [ef_95, va_up_ne _ _ (fun q => absurd (hC.1.2 33 (by decide) 19 (by decide) q) (by decide))]; exact F_saleWait
                        have F_sort_ : f_95 (rt 10) = .inl (K 0, 40, .inl g_sort) := by rw [ef_95, va_up_ne _ _ (fun q => absurd (hC.1.2 10 (by decide) 19 (by decide) q) (by decide))]; exact F_sort
                        have F_dayBudget_ : f_95 (rt 15) = .inl (K 0, 40, .inl g_dayBudget) := by rw [ef_95, va_up_ne _ _ (fun q => absurd (hC.1.2 15 (by decide) 19 (by decide) q) (by decide))]; exact F_dayBudget
                        have F_saleOf_ : f_95 (rt 30) = .inl (K 0, 1000, .inl g_saleOf) := by rw [ef_95, va_up_ne _ _ (fun q => absurd (hC.1.2 30 (by decide) 19 (by decide) q) (by decide))]; exact F_saleOf
                        have F_pays_ : f_95 (rt 11) = .inl (K 0, 40, .inl g_pays) := by rw [ef_95, va_up_ne _ _ (fun q => absurd (hC.1.2 11 (by decide) 19 (by decide) q) (by decide))]; exact F_pays
                        have F_price_ : f_95 (rt 31) = .inl (K 0, 1000, .inl g_price) := by rw [ef_95, va_up_ne _ _ (fun q => absurd (hC.1.2 31 (by decide) 19 (by decide) q) (by decide))]; exact F_price
                        have F_m := F_m_
                        have F_state := F_state_
                        have F_saleTick := F_saleTick_
                        have F_saleWait := F_saleWait_
                        have F_sort := F_sort_
                        have F_dayBudget := F_dayBudget_
                        have F_saleOf := F_saleOf_
                        have F_pays := F_pays_
                        have F_price := F_price_
                        have F_throttle : f_95 (rt 19) = .inl (K 0, 40, .inl g_94) := by rw [ef_95, va_up_self]
                        have hC : mC rt L f_95 fs_2 := ⟨hC.1, F_m, hC.2.2.1, hC.2.2.2⟩
                        obtain ⟨x_96, ex_96⟩ : ∃ y : Int32, y = (nI j) + 1 := ⟨_, rfl⟩
                        refine lv_iinc (v := x_96) (lv' := [(1, .int x_96), (4, .long x_29), (2, .long x_24), (0, .ref (rt 51))]) hx hb dX6_goesBy_251 hl (k := 3) rfl (by rw [ex_96]; rfl) (by decide) rfl (fun ls hl => ?_)
                        refine lv_goto (tgt := 95) hx hb dX6_goesBy_254 (by decide) ?_
                        obtain rfl : x_96 = nI (j + 1) := ex_96.trans (nI_1 j)
                        exact ih (n - 1) (by omega) _ _ _ ⟨j + 1, f_95, _, by omega, by rw [ef_95, ef_78, ef_17, bx_uu, bx_uu], hP, hD, hS, lv_sub hl [3, 0] rfl⟩
              · skip
                refine lv_goto (tgt := 251) hx hb dX6_goesBy_112 (by decide) ?_
                obtain ⟨x_97, ex_97⟩ : ∃ y : Int32, y = (nI j) + 1 := ⟨_, rfl⟩
                refine lv_iinc (v := x_97) (lv' := [(1, .int x_97), (0, .ref (rt 51))]) hx hb dX6_goesBy_251 hl (k := 1) rfl (by rw [ex_97]; rfl) (by decide) rfl (fun ls hl => ?_)
                refine lv_goto (tgt := 95) hx hb dX6_goesBy_254 (by decide) ?_
                obtain rfl : x_97 = nI (j + 1) := ex_97.trans (nI_1 j)
                exact ih (n - 1) (by omega) _ _ _ ⟨j + 1, f_15, _, by omega, ef_17, hP, hD, hS, lv_sub hl [1, 0] rfl⟩
        · skip
          exact W.vret hx hb hr (fun t ht hW => ⟨⟨f_4, rfl, (Or.inl ⟨_, by rw [ef_6, ef_3, efs_2]⟩), by show va_P (dC, dI) vwCl (va_pl L f_4) t.heap; rw [ht]; exact hP⟩, hS.F ht⟩) hS.2.2 dX6_goesBy_92
  · skip
    obtain ⟨j, f_98, g_99, hj, ef_100, hP, hD, hS, hl⟩ := hI
    have F_m_ : f_98 (rt 51) = .inr (6, fs_2) := by rw [ef_100, va_up_ne _ _ (fun q => absurd (hC.1.2 51 (by decide) 32 (by decide) q) (by decide))]; exact F_m
    have F_saleTick_ : f_98 (rt 26) = .inl (K 0, 1000, .inl g_saleTick) := by rw [ef_100, va_up_ne _ _ (fun q => absurd (hC.1.2 26 (by decide) 32 (by decide) q) (by decide))]; exact F_saleTick
    have F_saleWait_ : f_98 (rt 33) = .inl (K 0, 1000, .inl g_saleWait) := by rw [ef_100, va_up_ne _ _ (fun q => absurd (hC.1.2 33 (by decide) 32 (by decide) q) (by decide))]; exact F_saleWait
    have F_sort_ : f_98 (rt 10) = .inl (K 0, 40, .inl g_sort) := by rw [ef_100, va_up_ne _ _ (fun q => absurd (hC.1.2 10 (by decide) 32 (by decide) q) (by decide))]; exact F_sort
    have F_dayBudget_ : f_98 (rt 15) = .inl (K 0, 40, .inl g_dayBudget) := by rw [ef_100, va_up_ne _ _ (fun q => absurd (hC.1.2 15 (by decide) 32 (by decide) q) (by decide))]; exact F_dayBudget
    have F_throttle_ : f_98 (rt 19) = .inl (K 0, 40, .inl g_throttle) := by rw [ef_100, va_up_ne _ _ (fun q => absurd (hC.1.2 19 (by decide) 32 (by decide) q) (by decide))]; exact F_throttle
    have F_saleOf_ : f_98 (rt 30) = .inl (K 0, 1000, .inl g_saleOf) := by rw [ef_100, va_up_ne _ _ (fun q => absurd (hC.1.2 30 (by decide) 32 (by decide) q) (by decide))]; exact F_saleOf
    have F_pays_ : f_98 (rt 11) = .inl (K 0, 40, .inl g_pays) := by rw [ef_100, va_up_ne _ _ (fun q => absurd (hC.1.2 11 (by decide) 32 (by decide) q) (by decide))]; exact F_pays
    have F_price_ : f_98 (rt 31) = .inl (K 0, 1000, .inl g_price) := by rw [ef_100, va_up_ne _ _ (fun q => absurd (hC.1.2 31 (by decide) 32 (by decide) q) (by decide))]; exact F_price
    have F_m := F_m_
    have F_saleTick := F_saleTick_
    have F_saleWait := F_saleWait_
    have F_sort := F_sort_
    have F_dayBudget := F_dayBudget_
    have F_throttle := F_throttle_
    have F_saleOf := F_saleOf_
    have F_pays := F_pays_
    have F_price := F_price_
    have F_state : f_98 (rt 32) = .inl (K 0, 1000, .inl g_99) := by rw [ef_100, va_up_self]
    have hC : mC rt L f_98 fs_2 := ⟨hC.1, F_m, hC.2.2.1, hC.2.2.2⟩
    refine lv_iload_n hx hb dX6_goesBy_12 rfl (lv_at hl 1 rfl) ?_
    refine lv_aload_n hx hb dX6_goesBy_13 rfl (lv_at hl 0 rfl) ?_
    refine g_get (ci := 6) (v := .int (nI ns)) (C := RX6) (T := TX6) (N := 51) hx hb hts uB6 hown hK hP (hC.1.1 51 (by decide)) F_m rfl 25 (by decide) wm_4 I_sales dX6_goesBy_14 ?_
    refine lv_icmp_ge (tgt := 63) hx hb dX6_goesBy_17 (by decide) (fun c_101 => ?_) (fun c_101 => ?_)
    · skip
      have hjn : j = ns := by have := (nI_leI (a := ns) (b := j) (by omega) (by omega)).mp c_101; omega
      exact hE _ _ _ ⟨j, f_98, _, by omega, ef_100, hP, hD, hS, lv_sub hl [0, 1] rfl⟩
    · skip
      have hjn : j < ns := by rcases Nat.lt_or_ge j ns with q | q; exact q; exact absurd (nI_le q (by omega)) c_101
      refine lv_aload_n hx hb dX6_goesBy_20 rfl (lv_at hl 0 rfl) ?_
      refine g_get (ci := 6) (v := .ref (rt 32)) (C := RX6) (T := TX6) (N := 51) hx hb hts uB6 hown hK hP (hC.1.1 51 (by decide)) F_m rfl 32 (by decide) wm_0 (hC.2.2.2 32 (by decide)) dX6_goesBy_21 ?_
      refine lv_iload_n hx hb dX6_goesBy_24 rfl (lv_at hl 1 rfl) ?_
      refine g_iald hx hb hK hP (hC.1.1 32 (by decide)) F_state (vp_in_nI (by omega) (by decide)) dX6_goesBy_25 ?_
      refine lv_topi (fun x_102 ex_102 => ?_)
      rw [nI_clamp (by omega)] at ex_102
      refine lv_iconst (v := 1) hx hb dX6_goesBy_26 (by decide) ?_
      refine lv_icmp_ne (tgt := 57) hx hb dX6_goesBy_27 (by decide) (fun c_103 => ?_) (fun c_103 => ?_)
      · skip
        obtain ⟨x_104, ex_104⟩ : ∃ y : Int32, y = (nI j) + 1 := ⟨_, rfl⟩
        refine lv_iinc (v := x_104) (lv' := [(1, .int x_104), (0, .ref (rt 51))]) hx hb dX6_goesBy_57 hl (k := 1) rfl (by rw [ex_104]; rfl) (by decide) rfl (fun ls hl => ?_)
        refine lv_goto (tgt := 12) hx hb dX6_goesBy_60 (by decide) ?_
        obtain rfl : x_104 = nI (j + 1) := ex_104.trans (nI_1 j)
        exact ih (n - 1) (by omega) _ _ _ ⟨j + 1, f_98, _, by omega, ef_100, hP, hD, hS, lv_sub hl [1, 0] rfl⟩
      · skip
        refine lv_aload_n hx hb dX6_goesBy_30 rfl (lv_at hl 0 rfl) ?_
        refine g_get (ci := 6) (v := .int (nI (tk + 1))) (C := RX6) (T := TX6) (N := 51) hx hb hts uB6 hown hK hP (hC.1.1 51 (by decide)) F_m rfl 1 (by decide) wm_13 I_tick dX6_goesBy_31 ?_
        refine lv_aload_n hx hb dX6_goesBy_34 rfl (lv_at hl 0 rfl) ?_
        refine g_get (ci := 6) (v := .ref (rt 26)) (C := RX6) (T := TX6) (N := 51) hx hb hts uB6 hown hK hP (hC.1.1 51 (by decide)) F_m rfl 26 (by decide) wm_10 (hC.2.2.2 26 (by decide)) dX6_goesBy_35 ?_
        refine lv_iload_n hx hb dX6_goesBy_38 rfl (lv_at hl 1 rfl) ?_
        refine g_iald hx hb hK hP (hC.1.1 26 (by decide)) F_saleTick (vp_in_nI (by omega) (by decide)) dX6_goesBy_39 ?_
        refine lv_topi (fun x_105 ex_105 => ?_)
        rw [nI_clamp (by omega)] at ex_105
        refine lv_aload_n hx hb dX6_goesBy_40 rfl (lv_at hl 0 rfl) ?_
        refine g_get (ci := 6) (v := .ref (rt 33)) (C := RX6) (T := TX6) (N := 51) hx hb hts uB6 hown hK hP (hC.1.1 51 (by decide)) F_m rfl 33 (by decide) wm_122 (hC.2.2.2 33 (by decide)) dX6_goesBy_41 ?_
        refine lv_iload_n hx hb dX6_goesBy_44 rfl (lv_at hl 1 rfl) ?_
        refine g_iald hx hb hK hP (hC.1.1 33 (by decide)) F_saleWait (vp_in_nI (by omega) (by decide)) dX6_goesBy_45 ?_
        refine lv_topi (fun x_106 ex_106 => ?_)
        rw [nI_clamp (by omega)] at ex_106
        refine lv_iadd hx hb dX6_goesBy_46 ?_
        refine lv_topi (fun x_107 ex_107 => ?_)
        refine lv_icmp_le (tgt := 57) hx hb dX6_goesBy_47 (by decide) (fun c_108 => ?_) (fun c_108 => ?_)
        · skip
          obtain ⟨x_109, ex_109⟩ : ∃ y : Int32, y = (nI j) + 1 := ⟨_, rfl⟩
          refine lv_iinc (v := x_109) (lv' := [(1, .int x_109), (0, .ref (rt 51))]) hx hb dX6_goesBy_57 hl (k := 1) rfl (by rw [ex_109]; rfl) (by decide) rfl (fun ls hl => ?_)
          refine lv_goto (tgt := 12) hx hb dX6_goesBy_60 (by decide) ?_
          obtain rfl : x_109 = nI (j + 1) := ex_109.trans (nI_1 j)
          exact ih (n - 1) (by omega) _ _ _ ⟨j + 1, f_98, _, by omega, ef_100, hP, hD, hS, lv_sub hl [1, 0] rfl⟩
        · skip
          refine lv_aload_n hx hb dX6_goesBy_50 rfl (lv_at hl 0 rfl) ?_
          refine g_get (ci := 6) (v := .ref (rt 32)) (C := RX6) (T := TX6) (N := 51) hx hb hts uB6 hown hK hP (hC.1.1 51 (by decide)) F_m rfl 32 (by decide) wm_0 (hC.2.2.2 32 (by decide)) dX6_goesBy_51 ?_
          refine lv_iload_n hx hb dX6_goesBy_54 rfl (lv_at hl 1 rfl) ?_
          refine lv_iconst (v := 0) hx hb dX6_goesBy_55 (by decide) ?_
          refine g_iast hx hb hK hP hD hS (hC.1.1 32 (by decide)) F_state (vp_in_nI (by omega) (by decide)) dX6_goesBy_56 (fun H locs hP hD hS => ?_)
          obtain ⟨g_110, eg_110⟩ : ∃ z9, z9 = upd g_99 (Int32.toNatClampNeg (nI j)) 0 := ⟨_, rfl⟩
          rw [← eg_110] at hP hD
          obtain ⟨f_111, ef_111⟩ : ∃ z9, z9 = va_up f_98 (rt 32) (.inl (K 0, 1000, .inl g_110)) := ⟨_, rfl⟩
          have hP : va_P (dC, dI) vwCl (va_pl L f_111) H := by rw [ef_111]; exact hP
          have hD : va_D A (va_pl L f_111) := by rw [ef_111]; exact hD
          have F_m_ : f_111 (rt 51) = .inr (6, fs_2) := by rw [ef_111, va_up_ne _ _ (fun q => absurd (hC.1.2 51 (by decide) 32 (by decide) q) (by decide))]; exact F_m
          have F_saleTick_ : f_111 (rt 26) = .inl (K 0, 1000, .inl g_saleTick) := by rw [ef_111, va_up_ne _ _ (fun q => absurd (hC.1.2 26 (by decide) 32 (by decide) q) (by decide))]; exact F_saleTick
          have F_saleWait_ : f_111 (rt 33) = .inl (K 0, 1000, .inl g_saleWait) := by rw [ef_111, va_up_ne _ _ (fun q => absurd (hC.1.2 33 (by decide) 32 (by decide) q) (by decide))]; exact F_saleWait
          have F_sort_ : f_111 (rt 10) = .inl (K 0, 40, .inl g_sort) := by rw [ef_111, va_up_ne _ _ (fun q => absurd (hC.1.2 10 (by decide) 32 (by decide) q) (by decide))]; exact F_sort
          have F_dayBudget_ : f_111 (rt 15) = .inl (K 0, 40, .inl g_dayBudget) := by rw [ef_111, va_up_ne _ _ (fun q => absurd (hC.1.2 15 (by decide) 32 (by decide) q) (by decide))]; exact F_dayBudget
          have F_throttle_ : f_111 (rt 19) = .inl (K 0, 40, .inl g_throttle) := by rw [ef_111, va_up_ne _ _ (fun q => absurd (hC.1.2 19 (by decide) 32 (by decide) q) (by decide))]; exact F_throttle
          have F_saleOf_ : f_111 (rt 30) = .inl (K 0, 1000, .inl g_saleOf) := by rw [ef_111, va_up_ne _ _ (fun q => absurd (hC.1.2 30 (by decide) 32 (by decide) q) (by decide))]; exact F_saleOf
          have F_pays_ : f_111 (rt 11) = .inl (K 0, 40, .inl g_pays) := by rw [ef_111, va_up_ne _ _ (fun q => absurd (hC.1.2 11 (by decide) 32 (by decide) q) (by decide))]; exact F_pays
          have F_price_ : f_111 (rt 31) = .inl (K 0, 1000, .inl g_price) := by rw [ef_111, va_up_ne _ _ (fun q => absurd (hC.1.2 31 (by decide) 32 (by decide) q) (by decide))]; exact F_price
          have F_m := F_m_
          have F_saleTick := F_saleTick_
          have F_saleWait := F_saleWait_
          have F_sort := F_sort_
          have F_dayBudget := F_dayBudget_
          have F_throttle := F_throttle_
          have F_saleOf := F_saleOf_
          have F_pays := F_pays_
          have F_price := F_price_
          have F_state : f_111 (rt 32) = .inl (K 0, 1000, .inl g_110) := by rw [ef_111, va_up_self]
          have hC : mC rt L f_111 fs_2 := ⟨hC.1, F_m, hC.2.2.1, hC.2.2.2⟩
          obtain ⟨x_112, ex_112⟩ : ∃ y : Int32, y = (nI j) + 1 := ⟨_, rfl⟩
          refine lv_iinc (v := x_112) (lv' := [(1, .int x_112), (0, .ref (rt 51))]) hx hb dX6_goesBy_57 hl (k := 1) rfl (by rw [ex_112]; rfl) (by decide) rfl (fun ls hl => ?_)
          refine lv_goto (tgt := 12) hx hb dX6_goesBy_60 (by decide) ?_
          obtain rfl : x_112 = nI (j + 1) := ex_112.trans (nI_1 j)
          exact ih (n - 1) (by omega) _ _ _ ⟨j + 1, f_111, _, by omega, by rw [ef_111, ef_100, bx_uu], hP, hD, hS, lv_sub hl [1, 0] rfl⟩
