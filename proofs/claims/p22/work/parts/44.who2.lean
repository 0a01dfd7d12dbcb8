theorem k_nar01 {y : Int32} (h : 0 ≤ y ∧ y ≤ 1) : y = 0 ∨ y = 1 := by
  simp only [Int32.le_iff_toInt_le, ← Int32.toInt_inj, Int32.reduceToInt] at h ⊢; omega
set_option maxHeartbeats 4000000 in
set_option maxRecDepth 100000 in
theorem um_marks (l : Launch) (dC : Nat → ClassId) (dI : Nat → Nat → Nat) (K : Nat → ClassId) (L : List Nat) (f : Nat → va_E) (rt : Nat → Nat) {fm : List Value} (hC : mC rt L f fm) {g_marks : Nat → Int32} (F_marks : f (rt 8) = .inl (K 0, 100, .inl g_marks))  (x : Int32) (y : Int32) (hLn : gN L) : gMi l yX6_marks cX6_marks 4 2 (dC, dI) K L f [.ref (rt 51), .int x, .int y] (fun r f' => (¬ ((0 ≤ x ∧ x ≤ 99) ∧ (0 ≤ y ∧ y ≤ 4095)) ∧ r = (-1) ∧ f' = f) ∨ (((0 ≤ x ∧ x ≤ 99) ∧ (0 ≤ y ∧ y ≤ 4095)) ∧ r = g_marks (Int32.toNatClampNeg x) ∧ f' = va_up (f) (rt 8) (.inl (K 0, 100, .inl (upd g_marks (Int32.toNatClampNeg x) y))))) := by
  refine Met.ofW (cc := cX6_marks) (maxL := 4) (ret := (some .int)) (by decide) rfl ?_
  intro p e s m args below meth c s₁ B hml hv
  obtain ⟨rfl, hP, hK⟩ := hv
  have F_m := hC.2.1
  have hD : va_D (fun q : Nat => q ∈ L) (va_pl L f) := g_D hLn (fun a h => h) f
  generalize hAe : (fun q : Nat => q ∈ L) = A at hD ⊢
  have hx := B.exec
  have hb := B.bytes
  have hr := B.returns
  have hlocks := B.notSynchronized
  have hts0 := atoms_spec (ws := Cond.code yX6_marks cX6_marks 4 (some .int) :: lw_B) B.pre
  have hts : ∀ w ∈ lw_B, w.before _ s = true := fun w h => hts0 w (List.mem_cons_of_mem _ h)
  have hown : s.vm.findClass RX6 = some m.cls := findClass_of_methodNamed B.named
  have hS : va_S A s.heap s.heap [] := va_S.rf
  have hl := lv_entry ([.ref (rt 51), .int x, .int y]) (n := 4) (Nat.le_of_ble_eq_true rfl)
  rw [lg_entry_eq]
  generalize (lg_sl ([.ref (rt 51), .int x, .int y]) ++ List.replicate (4 - (lg_sl ([.ref (rt 51), .int x, .int y])).length) Slot.unset).toArray = ls at hl ⊢
  have hl : lv_has ls 4 [(0, .ref (rt 51)), (1, .int x), (2, .int y)] := hl
  refine lv_iload_n hx hb dX6_marks_0 rfl (lv_at hl 1 rfl) ?_
  refine k_S ⟨hx, hb, hml, hown, hts⟩ (c_mReader l x) 1 wm_92 wm_93 wm_8 wm_94 (by decide +kernel) ⟨Nat.le_of_ble_eq_true rfl, Nat.le_of_ble_eq_true rfl⟩ rfl hl.1 rfl (Nat.le_of_ble_eq_true rfl) dX6_marks_1 ⟨Nat.le_of_ble_eq_true rfl, Nat.le_of_ble_eq_true rfl⟩ hS hP (fun r_1 H locs hpr_1 hP hS => ?_)
  refine lv_if_eq (tgt := 18) hx hb dX6_marks_4 (by decide) (fun c_2 => ?_) (fun c_2 => ?_)
  · skip
    have g_2 := k_ff hpr_1 c_2
    refine lv_iconst (v := (-1)) hx hb dX6_marks_18 (by decide) ?_
    exact W.iret (v := (-1)) hx hb hr (fun t ht hW => ⟨⟨(-1), f, rfl, (Or.inl ⟨by simp only [Int32.lt_iff_toInt_lt, Int32.le_iff_toInt_le, ← Int32.toInt_inj, Int32.reduceToInt] at g_2 ⊢; omega, rfl, rfl⟩), by show va_P (dC, dI) vwCl (va_pl L f) t.heap; rw [ht]; exact hP⟩, hS.F ht⟩) hS.2.2 dX6_marks_19
  · skip
    have g_2 := k_ft hpr_1 c_2
    refine lv_iload_n hx hb dX6_marks_7 rfl (lv_at hl 2 rfl) ?_
    refine lv_iconst (v := 0) hx hb dX6_marks_8 (by decide) ?_
    refine lv_sipush (v := 4095) hx hb dX6_marks_9 (by decide) ?_
    refine k_S ⟨hx, hb, hml, hown, hts⟩ (c_in l y 0 4095) 3 wm_69 wm_70 wm_8 wm_71 (by decide +kernel) ⟨Nat.le_of_ble_eq_true rfl, Nat.le_of_ble_eq_true rfl⟩ rfl hl.1 rfl (Nat.le_of_ble_eq_true rfl) dX6_marks_12 ⟨Nat.le_of_ble_eq_true rfl, Nat.le_of_ble_eq_true rfl⟩ hS hP (fun r_3 H locs hpr_3 hP hS => ?_)
    refine lv_if_ne (tgt := 20) hx hb dX6_marks_15 (by decide) (fun c_4 => ?_) (fun c_4 => ?_)
    · skip
      have g_4 := k_ft hpr_3 c_4
      refine lv_aload_n hx hb dX6_marks_20 rfl (lv_at hl 0 rfl) ?_
      refine g_get (ci := 6) (v := .ref (rt 8)) (C := RX6) (T := TX6) (N := 51) hx hb hts uB6 hown hK hP (hC.1.1 51 (by decide)) F_m rfl 8 (by decide) wm_30 (hC.2.2.2 8 (by decide)) dX6_marks_21 ?_
      refine lv_iload_n hx hb dX6_marks_24 rfl (lv_at hl 1 rfl) ?_
      refine g_iald hx hb hK hP (hC.1.1 8 (by decide)) F_marks (vp_in_iff.mpr (by simp only [Int32.lt_iff_toInt_lt, Int32.le_iff_toInt_le, ← Int32.toInt_inj, Int32.reduceToInt] at g_2 g_4; omega)) dX6_marks_25 ?_
      refine lv_topi (fun x_5 ex_5 => ?_)
      refine lv_istore_n (lv' := [(3, .int x_5), (0, .ref (rt 51)), (1, .int x), (2, .int y)]) hx hb dX6_marks_26 rfl hl (by decide) rfl (fun ls hl => ?_)
      refine lv_aload_n hx hb dX6_marks_27 rfl (lv_at hl 1 rfl) ?_
      refine g_get (ci := 6) (v := .ref (rt 8)) (C := RX6) (T := TX6) (N := 51) hx hb hts uB6 hown hK hP (hC.1.1 51 (by decide)) F_m rfl 8 (by decide) wm_30 (hC.2.2.2 8 (by decide)) dX6_marks_28 ?_
      refine lv_iload_n hx hb dX6_marks_31 rfl (lv_at hl 2 rfl) ?_
      refine lv_iload_n hx hb dX6_marks_32 rfl (lv_at hl 3 rfl) ?_
      refine g_iast hx hb hK hP hD hS (hC.1.1 8 (by decide)) F_marks (vp_in_iff.mpr (by simp only [Int32.lt_iff_toInt_lt, Int32.le_iff_toInt_le, ← Int32.toInt_inj, Int32.reduceToInt] at g_2 g_4; omega)) dX6_marks_33 (fun H locs hP hD hS => ?_)
      obtain ⟨g_6, eg_6⟩ : ∃ z9, z9 = upd g_marks (Int32.toNatClampNeg x) y := ⟨_, rfl⟩
      rw [← eg_6] at hP hD
      obtain ⟨f_7, ef_7⟩ : ∃ z9, z9 = va_up f (rt 8) (.inl (K 0, 100, .inl g_6)) := ⟨_, rfl⟩
      have hP : va_P (dC, dI) vwCl (va_pl L f_7) H := by rw [ef_7]; exact hP
      have hD : va_D A (va_pl L f_7) := by rw [ef_7]; exact hD
      have F_m_ : f_7 (rt 51) = .inr (6, fm) := by rw [ef_7, va_up_ne _ _ (fun q => absurd (hC.1.2 51 (by decide) 8 (by decide) q) (by decide))]; exact F_m
      have F_m := F_m_
      have F_marks : f_7 (rt 8) = .inl (K 0, 100, .inl g_6) := by rw [ef_7, va_up_self]
      have hC : mC rt L f_7 fm := ⟨hC.1, F_m, hC.2.2.1, hC.2.2.2⟩
      refine lv_iload_n hx hb dX6_marks_34 rfl (lv_at hl 0 rfl) ?_
      exact W.iret (v := x_5) hx hb hr (fun t ht hW => ⟨⟨x_5, f_7, rfl, (Or.inr ⟨by simp only [Int32.lt_iff_toInt_lt, Int32.le_iff_toInt_le, ← Int32.toInt_inj, Int32.reduceToInt] at g_2 g_4 ⊢; omega, ex_5, by rw [ef_7, eg_6]⟩), by show va_P (dC, dI) vwCl (va_pl L f_7) t.heap; rw [ht]; exact hP⟩, hS.F ht⟩) hS.2.2 dX6_marks_35
    · skip
      have g_4 := k_ff hpr_3 c_4
      refine lv_iconst (v := (-1)) hx hb dX6_marks_18 (by decide) ?_
      exact W.iret (v := (-1)) hx hb hr (fun t ht hW => ⟨⟨(-1), f, rfl, (Or.inl ⟨by simp only [Int32.lt_iff_toInt_lt, Int32.le_iff_toInt_le, ← Int32.toInt_inj, Int32.reduceToInt] at g_2 g_4 ⊢; omega, rfl, rfl⟩), by show va_P (dC, dI) vwCl (va_pl L f) t.heap; rw [ht]; exact hP⟩, hS.F ht⟩) hS.2.2 dX6_marks_19
set_option maxHeartbeats 4000000 in
set_option maxRecDepth 100000 in
theorem um_rule (l : Launch) (dC : Nat → ClassId) (dI : Nat → Nat → Nat) (K : Nat → ClassId) (L : List Nat) (f : Nat → va_E) (rt : Nat → Nat) {fm : List Value} (hC : mC rt L f fm) {v9 : Int32} (I_rule : fm[2]? = some (.int v9)) (x : Int32) (hLn : gN L) : gMi l yX6_rule cX6_rule 3 1 (dC, dI) K L f [.ref (rt 51), .int x] (fun r f' => (¬ (0 ≤ x ∧ x ≤ 1) ∧ r = (-1) ∧ f' = f) ∨ ((0 ≤ x ∧ x ≤ 1) ∧ r = v9 ∧ f' = va_up f (rt 51) (.inr (6, List.set fm 2 (.int x))))) := by
  refine Met.ofW (cc := cX6_rule) (maxL := 3) (ret := (some .int)) (by decide) rfl ?_
  intro p e s m args below meth c s₁ B hml hv
  obtain ⟨rfl, hP, hK⟩ := hv
  have F_m := hC.2.1
  have hD : va_D (fun q : Nat => q ∈ L) (va_pl L f) := g_D hLn (fun a h => h) f
  generalize hAe : (fun q : Nat => q ∈ L) = A at hD ⊢
  have hx := B.exec
  have hb := B.bytes
  have hr := B.returns
  have hlocks := B.notSynchronized
  have hts0 := atoms_spec (ws := Cond.code yX6_rule cX6_rule 3 (some .int) :: lw_B) B.pre
  have hts : ∀ w ∈ lw_B, w.before _ s = true := fun w h => hts0 w (List.mem_cons_of_mem _ h)
  have hown : s.vm.findClass RX6 = some m.cls := findClass_of_methodNamed B.named
  have hS : va_S A s.heap s.heap [] := va_S.rf
  have hl := lv_entry ([.ref (rt 51), .int x]) (n := 3) (Nat.le_of_ble_eq_true rfl)
  rw [lg_entry_eq]
  generalize (lg_sl ([.ref (rt 51), .int x]) ++ List.replicate (3 - (lg_sl ([.ref (rt 51), .int x])).length) Slot.unset).toArray = ls at hl ⊢
  have hl : lv_has ls 3 [(0, .ref (rt 51)), (1, .int x)] := hl
  refine lv_iload_n hx hb dX6_rule_0 rfl (lv_at hl 1 rfl) ?_
  refine lv_iconst (v := 0) hx hb dX6_rule_1 (by decide) ?_
  refine lv_iconst (v := 1) hx hb dX6_rule_2 (by decide) ?_
  refine k_S ⟨hx, hb, hml, hown, hts⟩ (c_in l x 0 1) 3 wm_69 wm_70 wm_8 wm_71 (by decide +kernel) ⟨Nat.le_of_ble_eq_true rfl, Nat.le_of_ble_eq_true rfl⟩ rfl hl.1 rfl (Nat.le_of_ble_eq_true rfl) dX6_rule_3 ⟨Nat.le_of_ble_eq_true rfl, Nat.le_of_ble_eq_true rfl⟩ hS hP (fun r_1 H locs hpr_1 hP hS => ?_)
  refine lv_if_ne (tgt := 11) hx hb dX6_rule_6 (by decide) (fun c_2 => ?_) (fun c_2 => ?_)
  · skip
    have g_2 := k_ft hpr_1 c_2
    refine lv_aload_n hx hb dX6_rule_11 rfl (lv_at hl 0 rfl) ?_
    refine g_get (ci := 6) (v := .int v9) (C := RX6) (T := TX6) (N := 51) hx hb hts uB6 hown hK hP (hC.1.1 51 (by decide)) F_m rfl 2 (by decide) wm_112 I_rule dX6_rule_12 ?_
    refine lv_istore_n (lv' := [(2, .int v9), (0, .ref (rt 51)), (1, .int x)]) hx hb dX6_rule_15 rfl hl (by decide) rfl (fun ls hl => ?_)
    refine lv_aload_n hx hb dX6_rule_16 rfl (lv_at hl 1 rfl) ?_
    refine lv_iload_n hx hb dX6_rule_17 rfl (lv_at hl 2 rfl) ?_
    refine g_put (ci := 6) (v := .int x) (ty := .int) (C := RX6) (T := TX6) (N := 51) hx hb hts uB6 tyX6 tyX6_ok nmX6 hown hK hP hD hS (hC.1.1 51 (by decide)) F_m rfl 2 (by decide) wm_112 rfl (by decide +kernel) rfl rfl (by rw [hC.2.2.1]; decide) dX6_rule_18 (fun H locs hP hD hS => ?_)
    obtain ⟨fs_3, efs_3⟩ : ∃ z9, z9 = List.set fm 2 (.int x) := ⟨_, rfl⟩
    rw [← efs_3] at hP hD
    have hlen_ : fs_3.length = 51 := by rw [efs_3, List.length_set]; exact hC.2.2.1
    have I_rule : fs_3[2]? = some (.int x) := by rw [efs_3]; exact List.getElem?_set_self (by rw [hC.2.2.1]; decide)
    have hmr_ : ∀ k ∈ mArr, fs_3[k]? = some (.ref (rt k)) := fun k h => by rw [efs_3, List.getElem?_set_ne (fun q => by rw [← q] at h; exact absurd h (by decide))]; exact hC.2.2.2 k h
    obtain ⟨f_4, ef_4⟩ : ∃ z9, z9 = va_up f (rt 51) (.inr (6, fs_3)) := ⟨_, rfl⟩
    have hP : va_P (dC, dI) vwCl (va_pl L f_4) H := by rw [ef_4]; exact hP
    have hD : va_D A (va_pl L f_4) := by rw [ef_4]; exact hD
    have F_m : f_4 (rt 51) = .inr (6, fs_3) := by rw [ef_4, va_up_self]
    have hC : mC rt L f_4 fs_3 := ⟨hC.1, F_m, hlen_, hmr_⟩
    refine lv_iload_n hx hb dX6_rule_21 rfl (lv_at hl 0 rfl) ?_
    exact W.iret (v := v9) hx hb hr (fun t ht hW => ⟨⟨v9, f_4, rfl, (Or.inr ⟨by simp only [Int32.lt_iff_toInt_lt, Int32.le_iff_toInt_le, ← Int32.toInt_inj, Int32.reduceToInt] at g_2 ⊢; omega, rfl, by rw [ef_4, efs_3]⟩), by show va_P (dC, dI) vwCl (va_pl L f_4) t.heap; rw [ht]; exact hP⟩, hS.F ht⟩) hS.2.2 dX6_rule_22
  · skip
    have g_2 := k_ff hpr_1 c_2
    refine lv_iconst (v := (-1)) hx hb dX6_rule_9 (by decide) ?_
    exact W.iret (v := (-1)) hx hb hr (fun t ht hW => ⟨⟨(-1), f, rfl, (Or.inl ⟨by simp only [Int32.lt_iff_toInt_lt, Int32.le_iff_toInt_le, ← Int32.toInt_inj, Int32.reduceToInt] at g_2 ⊢; omega, rfl, rfl⟩), by show va_P (dC, dI) vwCl (va_pl L f) t.heap; rw [ht]; exact hP⟩, hS.F ht⟩) hS.2.2 dX6_rule_10
set_option maxHeartbeats 4000000 in
set_option maxRecDepth 100000 in
theorem um_pace (l : Launch) (dC : Nat → ClassId) (dI : Nat → Nat → Nat) (K : Nat → ClassId) (L : List Nat) (f : Nat → va_E) (rt : Nat → Nat) {fm : List Value} (hC : mC rt L f fm)  (x : Int32) (y : Int32) (hLn : gN L) : gMi l yX6_pace cX6_pace 3 1 (dC, dI) K L f [.ref (rt 51), .int x, .int y] (fun r f' => (¬ ((x = 0 ∨ (10 ≤ x ∧ x ≤ 100)) ∧ (1 ≤ y ∧ y ≤ 200)) ∧ r = (-1) ∧ f' = f) ∨ (((x = 0 ∨ (10 ≤ x ∧ x ≤ 100)) ∧ (1 ≤ y ∧ y ≤ 200)) ∧ r = 1 ∧ f' = va_up (va_up f (rt 51) (.inr (6, List.set fm 3 (.int x)))) (rt 51) (.inr (6, List.set (List.set fm 3 (.int x)) 4 (.int y))))) := by
  refine Met.ofW (cc := cX6_pace) (maxL := 3) (ret := (some .int)) (by decide) rfl ?_
  intro p e s m args below meth c s₁ B hml hv
  obtain ⟨rfl, hP, hK⟩ := hv
  have F_m := hC.2.1
  have hD : va_D (fun q : Nat => q ∈ L) (va_pl L f) := g_D hLn (fun a h => h) f
  generalize hAe : (fun q : Nat => q ∈ L) = A at hD ⊢
  have hx := B.exec
  have hb := B.bytes
  have hr := B.returns
  have hlocks := B.notSynchronized
  have hts0 := atoms_spec (ws := Cond.code yX6_pace cX6_pace 3 (some .int) :: lw_B) B.pre
  have hts : ∀ w ∈ lw_B, w.before _ s = true := fun w h => hts0 w (List.mem_cons_of_mem _ h)
  have hown : s.vm.findClass RX6 = some m.cls := findClass_of_methodNamed B.named
  have hS : va_S A s.heap s.heap [] := va_S.rf
  have hl := lv_entry ([.ref (rt 51), .int x, .int y]) (n := 3) (Nat.le_of_ble_eq_true rfl)
  rw [lg_entry_eq]
  generalize (lg_sl ([.ref (rt 51), .int x, .int y]) ++ List.replicate (3 - (lg_sl ([.ref (rt 51), .int x, .int y])).length) Slot.unset).toArray = ls at hl ⊢
  have hl : lv_has ls 3 [(0, .ref (rt 51)), (1, .int x), (2, .int y)] := hl
  refine lv_iload_n hx hb dX6_pace_0 rfl (lv_at hl 1 rfl) ?_
  refine lv_if_eq (tgt := 15) hx hb dX6_pace_1 (by decide) (fun c_1 => ?_) (fun c_1 => ?_)
  · skip
    refine lv_iload_n hx hb dX6_pace_15 rfl (lv_at hl 2 rfl) ?_
    refine lv_iconst (v := 1) hx hb dX6_pace_16 (by decide) ?_
    refine lv_sipush (v := 200) hx hb dX6_pace_17 (by decide) ?_
    refine k_S ⟨hx, hb, hml, hown, hts⟩ (c_in l y 1 200) 3 wm_69 wm_70 wm_8 wm_71 (by decide +kernel) ⟨Nat.le_of_ble_eq_true rfl, Nat.le_of_ble_eq_true rfl⟩ rfl hl.1 rfl (Nat.le_of_ble_eq_true rfl) dX6_pace_20 ⟨Nat.le_of_ble_eq_true rfl, Nat.le_of_ble_eq_true rfl⟩ hS hP (fun r_2 H locs hpr_2 hP hS => ?_)
    refine lv_if_ne (tgt := 28) hx hb dX6_pace_23 (by decide) (fun c_3 => ?_) (fun c_3 => ?_)
    · skip
      have g_3 := k_ft hpr_2 c_3
      refine lv_aload_n hx hb dX6_pace_28 rfl (lv_at hl 0 rfl) ?_
      refine lv_iload_n hx hb dX6_pace_29 rfl (lv_at hl 1 rfl) ?_
      refine g_put (ci := 6) (v := .int x) (ty := .int) (C := RX6) (T := TX6) (N := 51) hx hb hts uB6 tyX6 tyX6_ok nmX6 hown hK hP hD hS (hC.1.1 51 (by decide)) F_m rfl 3 (by decide) wm_113 rfl (by decide +kernel) rfl rfl (by rw [hC.2.2.1]; decide) dX6_pace_30 (fun H locs hP hD hS => ?_)
      obtain ⟨fs_4, efs_4⟩ : ∃ z9, z9 = List.set fm 3 (.int x) := ⟨_, rfl⟩
      rw [← efs_4] at hP hD
      have hlen_ : fs_4.length = 51 := by rw [efs_4, List.length_set]; exact hC.2.2.1
      have I_rt51_3 : fs_4[3]? = some (.int x) := by rw [efs_4]; exact List.getElem?_set_self (by rw [hC.2.2.1]; decide)
      have hmr_ : ∀ k ∈ mArr, fs_4[k]? = some (.ref (rt k)) := fun k h => by rw [efs_4, List.getElem?_set_ne (fun q => by rw [← q] at h; exact absurd h (by decide))]; exact hC.2.2.2 k h
      obtain ⟨f_5, ef_5⟩ : ∃ z9, z9 = va_up f (rt 51) (.inr (6, fs_4)) := ⟨_, rfl⟩
      have hP : va_P (dC, dI) vwCl (va_pl L f_5) H := by rw [ef_5]; exact hP
      have hD : va_D A (va_pl L f_5) := by rw [ef_5]; exact hD
      have F_m : f_5 (rt 51) = .inr (6, fs_4) := by rw [ef_5, va_up_self]
      have hC : mC rt L f_5 fs_4 := ⟨hC.1, F_m, hlen_, hmr_⟩
      refine lv_aload_n hx hb dX6_pace_33 rfl (lv_at hl 0 rfl) ?_
      refine lv_iload_n hx hb dX6_pace_34 rfl (lv_at hl 2 rfl) ?_
      refine g_put (ci := 6) (v := .int y) (ty := .int) (C := RX6) (T := TX6) (N := 51) hx hb hts uB6 tyX6 tyX6_ok nmX6 hown hK hP hD hS (hC.1.1 51 (by decide)) F_m rfl 4 (by decide) wm_114 rfl (by decide +kernel) rfl rfl (by rw [hC.2.2.1]; decide) dX6_pace_35 (fun H locs hP hD hS => ?_)
      obtain ⟨fs_6, efs_6⟩ : ∃ z9, z9 = List.set fs_4 4 (.int y) := ⟨_, rfl⟩
      rw [← efs_6] at hP hD
      have hlen_ : fs_6.length = 51 := by rw [efs_6, List.length_set]; exact hC.2.2.1
      have I_rt51_3 : fs_6[3]? = some (.int x) := by rw [efs_6, List.getElem?_set_ne (by decide)]; exact I_rt51_3
      have I_rt51_4 : fs_6[4]? = some (.int y) := by rw [efs_6]; exact List.getElem?_set_self (by rw [hC.2.2.1]; decide)
      have hmr_ : ∀ k ∈ mArr, fs_6[k]? = some (.ref (rt k)) := fun k h => by rw [efs_6, List.getElem?_set_ne (fun q => by rw [← q] at h; exact absurd h (by decide))]; exact hC.2.2.2 k h
      obtain ⟨f_7, ef_7⟩ : ∃ z9, z9 = va_up f_5 (rt 51) (.inr (6, fs_6)) := ⟨_, rfl⟩
      have hP : va_P (dC, dI) vwCl (va_pl L f_7) H := by rw [ef_7]; exact hP
      have hD : va_D A (va_pl L f_7) := by rw [ef_7]; exact hD
      have F_m : f_7 (rt 51) = .inr (6, fs_6) := by rw [ef_7, va_up_self]
      have hC : mC rt L f_7 fs_6 := ⟨hC.1, F_m, hlen_, hmr_⟩
      refine lv_iconst (v := 1) hx hb dX6_pace_38 (by decide) ?_
      exact W.iret (v := 1) hx hb hr (fun t ht hW => ⟨⟨1, f_7, rfl, (Or.inr ⟨by simp only [Int32.lt_iff_toInt_lt, Int32.le_iff_toInt_le, ← Int32.toInt_inj, Int32.reduceToInt] at c_1 g_3 ⊢; omega, rfl, by rw [ef_7, efs_6, ef_5, efs_4]⟩), by show va_P (dC, dI) vwCl (va_pl L f_7) t.heap; rw [ht]; exact hP⟩, hS.F ht⟩) hS.2.2 dX6_pace_39
    · skip
      have g_3 := k_ff hpr_2 c_3
      refine lv_iconst (v := (-1)) hx hb dX6_pace_26 (by decide) ?_
      exact W.iret (v := (-1)) hx hb hr (fun t ht hW => ⟨⟨(-1), f, rfl, (Or.inl ⟨by simp only [Int32.lt_iff_toInt_lt, Int32.le_iff_toInt_le, ← Int32.toInt_inj, Int32.reduceToInt] at c_1 g_3 ⊢; omega, rfl, rfl⟩), by show va_P (dC, dI) vwCl (va_pl L f) t.heap; rw [ht]; exact hP⟩, hS.F ht⟩) hS.2.2 dX6_pace_27
  · skip
    refine lv_iload_n hx hb dX6_pace_4 rfl (lv_at hl 1 rfl) ?_
    refine lv_bipush (v := 10) hx hb dX6_pace_5 (by decide) ?_
    refine lv_bipush (v := 100) hx hb dX6_pace_7 (by decide) ?_
    refine k_S ⟨hx, hb, hml, hown, hts⟩ (c_in l x 10 100) 3 wm_69 wm_70 wm_8 wm_71 (by decide +kernel) ⟨Nat.le_of_ble_eq_true rfl, Nat.le_of_ble_eq_true rfl⟩ rfl hl.1 rfl (Nat.le_of_ble_eq_true rfl) dX6_pace_9 ⟨Nat.le_of_ble_eq_true rfl, Nat.le_of_ble_eq_true rfl⟩ hS hP (fun r_8 H locs hpr_8 hP hS => ?_)
    refine lv_if_eq (tgt := 26) hx hb dX6_pace_12 (by decide) (fun c_9 => ?_) (fun c_9 => ?_)
    · skip
      have g_9 := k_ff hpr_8 c_9
      refine lv_iconst (v := (-1)) hx hb dX6_pace_26 (by decide) ?_
      exact W.iret (v := (-1)) hx hb hr (fun t ht hW => ⟨⟨(-1), f, rfl, (Or.inl ⟨by simp only [Int32.lt_iff_toInt_lt, Int32.le_iff_toInt_le, ← Int32.toInt_inj, Int32.reduceToInt] at c_1 g_9 ⊢; omega, rfl, rfl⟩), by show va_P (dC, dI) vwCl (va_pl L f) t.heap; rw [ht]; exact hP⟩, hS.F ht⟩) hS.2.2 dX6_pace_27
    · skip
      have g_9 := k_ft hpr_8 c_9
      refine lv_iload_n hx hb dX6_pace_15 rfl (lv_at hl 2 rfl) ?_
      refine lv_iconst (v := 1) hx hb dX6_pace_16 (by decide) ?_
      refine lv_sipush (v := 200) hx hb dX6_pace_17 (by decide) ?_
      refine k_S ⟨hx, hb, hml, hown, hts⟩ (c_in l y 1 200) 3 wm_69 wm_70 wm_8 wm_71 (by decide +kernel) ⟨Nat.le_of_ble_eq_true rfl, Nat.le_of_ble_eq_true rfl⟩ rfl hl.1 rfl (Nat.le_of_ble_eq_true rfl) dX6_pace_20 ⟨Nat.le_of_ble_eq_true rfl, Nat.le_of_ble_eq_true rfl⟩ hS hP (fun r_10 H locs hpr_10 hP hS => ?_)
      refine lv_if_ne (tgt := 28) hx hb dX6_pace_23 (by decide) (fun c_11 => ?_) (fun c_11 => ?_)
      · skip
        have g_11 := k_ft hpr_10 c_11
        refine lv_aload_n hx hb dX6_pace_28 rfl (lv_at hl 0 rfl) ?_
        refine lv_iload_n hx hb dX6_pace_29 rfl (lv_at hl 1 rfl) ?_
        refine g_put (ci := 6) (v := .int x) (ty := .int) (C := RX6) (T := TX6) (N := 51) hx hb hts uB6 tyX6 tyX6_ok nmX6 hown hK hP hD hS (hC.1.1 51 (by decide)) F_m rfl 3 (by decide) wm_113 rfl (by decide +kernel) rfl rfl (by rw [hC.2.2.1]; decide) dX6_pace_30 (fun H locs hP hD hS => ?_)
        obtain ⟨fs_12, efs_12⟩ : ∃ z9, z9 = List.set fm 3 (.int x) := ⟨_, rfl⟩
        rw [← efs_12] at hP hD
        have hlen_ : fs_12.length = 51 := by rw [efs_12, List.length_set]; exact hC.2.2.1
        have I_rt51_3 : fs_12[3]? = some (.int x) := by rw [efs_12]; exact List.getElem?_set_self (by rw [hC.2.2.1]; decide)
        have hmr_ : ∀ k ∈ mArr, fs_12[k]? = some (.ref (rt k)) := fun k h => by rw [efs_12, List.getElem?_set_ne (fun q => by rw [← q] at h; exact absurd h (by decide))]; exact hC.2.2.2 k h
        obtain ⟨f_13, ef_13⟩ : ∃ z9, z9 = va_up f (rt 51) (.inr (6, fs_12)) := ⟨_, rfl⟩
        have hP : va_P (dC, dI) vwCl (va_pl L f_13) H := by rw [ef_13]; exact hP
        have hD : va_D A (va_pl L f_13) := by rw [ef_13]; exact hD
        have F_m : f_13 (rt 51) = .inr (6, fs_12) := by rw [ef_13, va_up_self]
        have hC : mC rt L f_13 fs_12 := ⟨hC.1, F_m, hlen_, hmr_⟩
        refine lv_aload_n hx hb dX6_pace_33 rfl (lv_at hl 0 rfl) ?_
        refine lv_iload_n hx hb dX6_pace_34 rfl (lv_at hl 2 rfl) ?_
        refine g_put (ci := 6) (v := .int y) (ty := .int) (C := RX6) (T := TX6) (N := 51) hx hb hts uB6 tyX6 tyX6_ok nmX6 hown hK hP hD hS (hC.1.1 51 (by decide)) F_m rfl 4 (by decide) wm_114 rfl (by decide +kernel) rfl rfl (by rw [hC.2.2.1]; decide) dX6_pace_35 (fun H locs hP hD hS => ?_)
        obtain ⟨fs_14, efs_14⟩ : ∃ z9, z9 = List.set fs_12 4 (.int y) := ⟨_, rfl⟩
        rw [← efs_14] at hP hD
        have hlen_ : fs_14.length = 51 := by rw [efs_14, List.length_set]; exact hC.2.2.1
        have I_rt51_3 : fs_14[3]? = some (.int x) := by rw [efs_14, List.getElem?_set_ne (by decide)]; exact I_rt51_3
        have I_rt51_4 : fs_14[4]? = some (.int y) := by rw [efs_14]; exact List.getElem?_set_self (by rw [hC.2.2.1]; decide)
        have hmr_ : ∀ k ∈ mArr, fs_14[k]? = some (.ref (rt k)) := fun k h => by rw [efs_14, List.getElem?_set_ne (fun q => by rw [← q] at h; exact absurd h (by decide))]; exact hC.2.2.2 k h
        obtain ⟨f_15, ef_15⟩ : ∃ z9, z9 = va_up f_13 (rt 51) (.inr (6, fs_14)) := ⟨_, rfl⟩
        have hP : va_P (dC, dI) vwCl (va_pl L f_15) H := by rw [ef_15]; exact hP
        have hD : va_D A (va_pl L f_15) := by rw [ef_15]; exact hD
        have F_m : f_15 (rt 51) = .inr (6, fs_14) := by rw [ef_15, va_up_self]
        have hC : mC rt L f_15 fs_14 := ⟨hC.1, F_m, hlen_, hmr_⟩
        refine lv_iconst (v := 1) hx hb dX6_pace_38 (by decide) ?_
        exact W.iret (v := 1) hx hb hr (fun t ht hW => ⟨⟨1, f_15, rfl, (Or.inr ⟨by simp only [Int32.lt_iff_toInt_lt, Int32.le_iff_toInt_le, ← Int32.toInt_inj, Int32.reduceToInt] at c_1 g_9 g_11 ⊢; omega, rfl, by rw [ef_15, efs_14, ef_13, efs_12]⟩), by show va_P (dC, dI) vwCl (va_pl L f_15) t.heap; rw [ht]; exact hP⟩, hS.F ht⟩) hS.2.2 dX6_pace_39
      · skip
        have g_11 := k_ff hpr_10 c_11
        refine lv_iconst (v := (-1)) hx hb dX6_pace_26 (by decide) ?_
        exact W.iret (v := (-1)) hx hb hr (fun t ht hW => ⟨⟨(-1), f, rfl, (Or.inl ⟨by simp only [Int32.lt_iff_toInt_lt, Int32.le_iff_toInt_le, ← Int32.toInt_inj, Int32.reduceToInt] at c_1 g_9 g_11 ⊢; omega, rfl, rfl⟩), by show va_P (dC, dI) vwCl (va_pl L f) t.heap; rw [ht]; exact hP⟩, hS.F ht⟩) hS.2.2 dX6_pace_27
set_option maxHeartbeats 4000000 in
set_option maxRecDepth 100000 in
theorem um_stop (l : Launch) (dC : Nat → ClassId) (dI : Nat → Nat → Nat) (K : Nat → ClassId) (L : List Nat) (f : Nat → va_E) (rt : Nat → Nat) {fm : List Value} (hC : mC rt L f fm) {g_stopped : Nat → Int32} (F_stopped : f (rt 20) = .inl (K 2, 40, .inl g_stopped)) {nc : Nat} (I_campaigns : fm[9]? = some (.int (nI nc))) (x : Int32) (y : Int32) (hnc : nc ≤ 40) (hLn : gN L) : gMi l yX6_stop cX6_stop 4 2 (dC, dI) K L f [.ref (rt 51), .int x, .int y] (fun r f' => (¬ ((0 ≤ x ∧ x ≤ nI nc - 1) ∧ (0 ≤ y ∧ y ≤ 1)) ∧ r = (-1) ∧ f' = f) ∨ (((0 ≤ x ∧ x ≤ nI nc - 1) ∧ (0 ≤ y ∧ y ≤ 1)) ∧ r = (if g_stopped (Int32.toNatClampNeg x) = 0 then 0 else 1) ∧ f' = va_up f (rt 20) (.inl (K 2, 40, .inl (upd g_stopped (Int32.toNatClampNeg x) (vp_nar .boolean y)))))) := by
  refine Met.ofW (cc := cX6_stop) (maxL := 4) (ret := (some .int)) (by decide) rfl ?_
  intro p e s m args below meth c s₁ B hml hv
  obtain ⟨rfl, hP, hK⟩ := hv
  have F_m := hC.2.1
  have hD : va_D (fun q : Nat => q ∈ L) (va_pl L f) := g_D hLn (fun a h => h) f
  generalize hAe : (fun q : Nat => q ∈ L) = A at hD ⊢
  have hx := B.exec
  have hb := B.bytes
  have hr := B.returns
  have hlocks := B.notSynchronized
  have hts0 := atoms_spec (ws := Cond.code yX6_stop cX6_stop 4 (some .int) :: lw_B) B.pre
  have hts : ∀ w ∈ lw_B, w.before _ s = true := fun w h => hts0 w (List.mem_cons_of_mem _ h)
  have hown : s.vm.findClass RX6 = some m.cls := findClass_of_methodNamed B.named
  have hS : va_S A s.heap s.heap [] := va_S.rf
  have hl := lv_entry ([.ref (rt 51), .int x, .int y]) (n := 4) (Nat.le_of_ble_eq_true rfl)
  rw [lg_entry_eq]
  generalize (lg_sl ([.ref (rt 51), .int x, .int y]) ++ List.replicate (4 - (lg_sl ([.ref (rt 51), .int x, .int y])).length) Slot.unset).toArray = ls at hl ⊢
  have hl : lv_has ls 4 [(0, .ref (rt 51)), (1, .int x), (2, .int y)] := hl
  refine lv_aload_n hx hb dX6_stop_0 rfl (lv_at hl 0 rfl) ?_
  refine lv_iload_n hx hb dX6_stop_1 rfl (lv_at hl 1 rfl) ?_
  refine gc_R (ci := 6) ⟨hx, hb, hml, hown, hts⟩ (m_isCampaign l dC dI K L f rt hC I_campaigns x) 1 wm_81 wm_82 wm_83 wm_8 wm_84 (by decide +kernel) ⟨Nat.le_of_ble_eq_true rfl, Nat.le_of_ble_eq_true rfl⟩ hK rfl (hC.1.1 51 (by decide)) F_m rfl hl.1 rfl (Nat.le_of_ble_eq_true rfl) dX6_stop_2 ⟨Nat.le_of_ble_eq_true rfl, Nat.le_of_ble_eq_true rfl⟩ hS hP (fun r_1 H locs hpr_1 hP hS => ?_)
  refine lv_if_eq (tgt := 17) hx hb dX6_stop_5 (by decide) (fun c_2 => ?_) (fun c_2 => ?_)
  · skip
    have g_2 := k_ff hpr_1 c_2
    refine lv_iconst (v := (-1)) hx hb dX6_stop_17 (by decide) ?_
    exact W.iret (v := (-1)) hx hb hr (fun t ht hW => ⟨⟨(-1), f, rfl, (Or.inl ⟨by simp only [Int32.lt_iff_toInt_lt, Int32.le_iff_toInt_le, ← Int32.toInt_inj, Int32.reduceToInt] at g_2 ⊢; omega, rfl, rfl⟩), by show va_P (dC, dI) vwCl (va_pl L f) t.heap; rw [ht]; exact hP⟩, hS.F ht⟩) hS.2.2 dX6_stop_18
  · skip
    have g_2 := k_ft hpr_1 c_2
    obtain ⟨cn, hcn, rfl⟩ := k_ix g_2 (by omega)
    refine lv_iload_n hx hb dX6_stop_8 rfl (lv_at hl 2 rfl) ?_
    refine lv_iconst (v := 0) hx hb dX6_stop_9 (by decide) ?_
    refine lv_iconst (v := 1) hx hb dX6_stop_10 (by decide) ?_
    refine k_S ⟨hx, hb, hml, hown, hts⟩ (c_in l y 0 1) 3 wm_69 wm_70 wm_8 wm_71 (by decide +kernel) ⟨Nat.le_of_ble_eq_true rfl, Nat.le_of_ble_eq_true rfl⟩ rfl hl.1 rfl (Nat.le_of_ble_eq_true rfl) dX6_stop_11 ⟨Nat.le_of_ble_eq_true rfl, Nat.le_of_ble_eq_true rfl⟩ hS hP (fun r_3 H locs hpr_3 hP hS => ?_)
    refine lv_if_ne (tgt := 19) hx hb dX6_stop_14 (by decide) (fun c_4 => ?_) (fun c_4 => ?_)
    · skip
      have g_4 := k_ft hpr_3 c_4
      refine lv_aload_n hx hb dX6_stop_19 rfl (lv_at hl 0 rfl) ?_
      refine g_get (ci := 6) (v := .ref (rt 20)) (C := RX6) (T := TX6) (N := 51) hx hb hts uB6 hown hK hP (hC.1.1 51 (by decide)) F_m rfl 20 (by decide) wm_29 (hC.2.2.2 20 (by decide)) dX6_stop_20 ?_
      refine lv_iload_n hx hb dX6_stop_23 rfl (lv_at hl 1 rfl) ?_
      refine g_zald hx hb hK hP (hC.1.1 20 (by decide)) F_stopped (vp_in_nI (by omega) (by decide)) dX6_stop_24 ?_
      refine lv_topi (fun x_5 ex_5 => ?_)
      rw [nI_clamp (by omega)] at ex_5
      refine lv_if_eq (tgt := 32) hx hb dX6_stop_25 (by decide) (fun c_6 => ?_) (fun c_6 => ?_)
      · skip
        refine lv_iconst (v := 0) hx hb dX6_stop_32 (by decide) ?_
        refine lv_istore_n (lv' := [(3, .int 0), (0, .ref (rt 51)), (1, .int (nI cn)), (2, .int y)]) hx hb dX6_stop_33 rfl hl (by decide) rfl (fun ls hl => ?_)
        refine lv_aload_n hx hb dX6_stop_34 rfl (lv_at hl 1 rfl) ?_
        refine g_get (ci := 6) (v := .ref (rt 20)) (C := RX6) (T := TX6) (N := 51) hx hb hts uB6 hown hK hP (hC.1.1 51 (by decide)) F_m rfl 20 (by decide) wm_29 (hC.2.2.2 20 (by decide)) dX6_stop_35 ?_
        refine lv_iload_n hx hb dX6_stop_38 rfl (lv_at hl 2 rfl) ?_
        refine lv_iload_n hx hb dX6_stop_39 rfl (lv_at hl 3 rfl) ?_
        refine lv_iconst (v := 1) hx hb dX6_stop_40 (by decide) ?_
        refine lv_icmp_ne (tgt := 48) hx hb dX6_stop_41 (by decide) (fun c_7 => ?_) (fun c_7 => ?_)
        · skip
          refine lv_iconst (v := 0) hx hb dX6_stop_48 (by decide) ?_
          refine g_zast hx hb hK hP hD hS (hC.1.1 20 (by decide)) F_stopped (vp_in_nI (by omega) (by decide)) dX6_stop_49 (fun H locs hP hD hS => ?_)
          obtain ⟨g_8, eg_8⟩ : ∃ z9, z9 = upd g_stopped (Int32.toNatClampNeg (nI cn)) (vp_nar .boolean 0) := ⟨_, rfl⟩
          rw [← eg_8] at hP hD
          obtain ⟨f_9, ef_9⟩ : ∃ z9, z9 = va_up f (rt 20) (.inl (K 2, 40, .inl g_8)) := ⟨_, rfl⟩
          have hP : va_P (dC, dI) vwCl (va_pl L f_9) H := by rw [ef_9]; exact hP
          have hD : va_D A (va_pl L f_9) := by rw [ef_9]; exact hD
          have F_m_ : f_9 (rt 51) = .inr (6, fm) := by rw [ef_9, va_up_ne _ _ (fun q => absurd (hC.1.2 51 (by decide) 20 (by decide) q) (by decide))]; exact F_m
          have F_m := F_m_
          have F_stopped : f_9 (rt 20) = .inl (K 2, 40, .inl g_8) := by rw [ef_9, va_up_self]
          have hC : mC rt L f_9 fm := ⟨hC.1, F_m, hC.2.2.1, hC.2.2.2⟩
          refine lv_iload_n hx hb dX6_stop_50 rfl (lv_at hl 0 rfl) ?_
          exact W.iret (v := 0) hx hb hr (fun t ht hW => ⟨⟨0, f_9, rfl, (Or.inr ⟨⟨g_2, g_4⟩, (by rw [nI_clamp (by omega), ← ex_5, if_pos c_6]), by rw [ef_9, eg_8, ((k_nar01 g_4).resolve_right c_7)]⟩), by show va_P (dC, dI) vwCl (va_pl L f_9) t.heap; rw [ht]; exact hP⟩, hS.F ht⟩) hS.2.2 dX6_stop_51
        · skip
          refine lv_iconst (v := 1) hx hb dX6_stop_44 (by decide) ?_
          refine lv_goto (tgt := 49) hx hb dX6_stop_45 (by decide) ?_
          refine g_zast hx hb hK hP hD hS (hC.1.1 20 (by decide)) F_stopped (vp_in_nI (by omega) (by decide)) dX6_stop_49 (fun H locs hP hD hS => ?_)
          obtain ⟨g_10, eg_10⟩ : ∃ z9, z9 = upd g_stopped (Int32.toNatClampNeg (nI cn)) (vp_nar .boolean 1) := ⟨_, rfl⟩
          rw [← eg_10] at hP hD
          obtain ⟨f_11, ef_11⟩ : ∃ z9, z9 = va_up f (rt 20) (.inl (K 2, 40, .inl g_10)) := ⟨_, rfl⟩
          have hP : va_P (dC, dI) vwCl (va_pl L f_11) H := by rw [ef_11]; exact hP
          have hD : va_D A (va_pl L f_11) := by rw [ef_11]; exact hD
          have F_m_ : f_11 (rt 51) = .inr (6, fm) := by rw [ef_11, va_up_ne _ _ (fun q => absurd (hC.1.2 51 (by decide) 20 (by decide) q) (by decide))]; exact F_m
          have F_m := F_m_
          have F_stopped : f_11 (rt 20) = .inl (K 2, 40, .inl g_10) := by rw [ef_11, va_up_self]
          have hC : mC rt L f_11 fm := ⟨hC.1, F_m, hC.2.2.1, hC.2.2.2⟩
          refine lv_iload_n hx hb dX6_stop_50 rfl (lv_at hl 0 rfl) ?_
          exact W.iret (v := 0) hx hb hr (fun t ht hW => ⟨⟨0, f_11, rfl, (Or.inr ⟨⟨g_2, g_4⟩, (by rw [nI_clamp (by omega), ← ex_5, if_pos c_6]), by rw [ef_11, eg_10, (show y = 1 from c_7)]⟩), by show va_P (dC, dI) vwCl (va_pl L f_11) t.heap; rw [ht]; exact hP⟩, hS.F ht⟩) hS.2.2 dX6_stop_51
      · skip
        refine lv_iconst (v := 1) hx hb dX6_stop_28 (by decide) ?_
        refine lv_goto (tgt := 33) hx hb dX6_stop_29 (by decide) ?_
        refine lv_istore_n (lv' := [(3, .int 1), (0, .ref (rt 51)), (1, .int (nI cn)), (2, .int y)]) hx hb dX6_stop_33 rfl hl (by decide) rfl (fun ls hl => ?_)
        refine lv_aload_n hx hb dX6_stop_34 rfl (lv_at hl 1 rfl) ?_
        refine g_get (ci := 6) (v := .ref (rt 20)) (C := RX6) (T := TX6) (N := 51) hx hb hts uB6 hown hK hP (hC.1.1 51 (by decide)) F_m rfl 20 (by decide) wm_29 (hC.2.2.2 20 (by decide)) dX6_stop_35 ?_
        refine lv_iload_n hx hb dX6_stop_38 rfl (lv_at hl 2 rfl) ?_
        refine lv_iload_n hx hb dX6_stop_39 rfl (lv_at hl 3 rfl) ?_
        refine lv_iconst (v := 1) hx hb dX6_stop_40 (by decide) ?_
        refine lv_icmp_ne (tgt := 48) hx hb dX6_stop_41 (by decide) (fun c_12 => ?_) (fun c_12 => ?_)
        · skip
          refine lv_iconst (v := 0) hx hb dX6_stop_48 (by decide) ?_
          refine g_zast hx hb hK hP hD hS (hC.1.1 20 (by decide)) F_stopped (vp_in_nI (by omega) (by decide)) dX6_stop_49 (fun H locs hP hD hS => ?_)
          obtain ⟨g_13, eg_13⟩ : ∃ z9, z9 = upd g_stopped (Int32.toNatClampNeg (nI cn)) (vp_nar .boolean 0) := ⟨_, rfl⟩
          rw [← eg_13] at hP hD
          obtain ⟨f_14, ef_14⟩ : ∃ z9, z9 = va_up f (rt 20) (.inl (K 2, 40, .inl g_13)) := ⟨_, rfl⟩
          have hP : va_P (dC, dI) vwCl (va_pl L f_14) H := by rw [ef_14]; exact hP
          have hD : va_D A (va_pl L f_14) := by rw [ef_14]; exact hD
          have F_m_ : f_14 (rt 51) = .inr (6, fm) := by rw [ef_14, va_up_ne _ _ (fun q => absurd (hC.1.2 51 (by decide) 20 (by decide) q) (by decide))]; exact F_m
          have F_m := F_m_
          have F_stopped : f_14 (rt 20) = .inl (K 2, 40, .inl g_13) := by rw [ef_14, va_up_self]
          have hC : mC rt L f_14 fm := ⟨hC.1, F_m, hC.2.2.1, hC.2.2.2⟩
          refine lv_iload_n hx hb dX6_stop_50 rfl (lv_at hl 0 rfl) ?_
          exact W.iret (v := 1) hx hb hr (fun t ht hW => ⟨⟨1, f_14, rfl, (Or.inr ⟨⟨g_2, g_4⟩, (by rw [nI_clamp (by omega), ← ex_5, if_neg c_6]), by rw [ef_14, eg_13, ((k_nar01 g_4).resolve_right c_12)]⟩), by show va_P (dC, dI) vwCl (va_pl L f_14) t.heap; rw [ht]; exact hP⟩, hS.F ht⟩) hS.2.2 dX6_stop_51
        · skip
          refine lv_iconst (v := 1) hx hb dX6_stop_44 (by decide) ?_
          refine lv_goto (tgt := 49) hx hb dX6_stop_45 (by decide) ?_
          refine g_zast hx hb hK hP hD hS (hC.1.1 20 (by decide)) F_stopped (vp_in_nI (by omega) (by decide)) dX6_stop_49 (fun H locs hP hD hS => ?_)
          obtain ⟨g_15, eg_15⟩ : ∃ z9, z9 = upd g_stopped (Int32.toNatClampNeg (nI cn)) (vp_nar .boolean 1) := ⟨_, rfl⟩
          rw [← eg_15] at hP hD
          obtain ⟨f_16, ef_16⟩ : ∃ z9, z9 = va_up f (rt 20) (.inl (K 2, 40, .inl g_15)) := ⟨_, rfl⟩
          have hP : va_P (dC, dI) vwCl (va_pl L f_16) H := by rw [ef_16]; exact hP
          have hD : va_D A (va_pl L f_16) := by rw [ef_16]; exact hD
          have F_m_ : f_16 (rt 51) = .inr (6, fm) := by rw [ef_16, va_up_ne _ _ (fun q => absurd (hC.1.2 51 (by decide) 20 (by decide) q) (by decide))]; exact F_m
          have F_m := F_m_
          have F_stopped : f_16 (rt 20) = .inl (K 2, 40, .inl g_15) := by rw [ef_16, va_up_self]
          have hC : mC rt L f_16 fm := ⟨hC.1, F_m, hC.2.2.1, hC.2.2.2⟩
          refine lv_iload_n hx hb dX6_stop_50 rfl (lv_at hl 0 rfl) ?_
          exact W.iret (v := 1) hx hb hr (fun t ht hW => ⟨⟨1, f_16, rfl, (Or.inr ⟨⟨g_2, g_4⟩, (by rw [nI_clamp (by omega), ← ex_5, if_neg c_6]), by rw [ef_16, eg_15, (show y = 1 from c_12)]⟩), by show va_P (dC, dI) vwCl (va_pl L f_16) t.heap; rw [ht]; exact hP⟩, hS.F ht⟩) hS.2.2 dX6_stop_51
    · skip
      have g_4 := k_ff hpr_3 c_4
      refine lv_iconst (v := (-1)) hx hb dX6_stop_17 (by decide) ?_
      exact W.iret (v := (-1)) hx hb hr (fun t ht hW => ⟨⟨(-1), f, rfl, (Or.inl ⟨by simp only [Int32.lt_iff_toInt_lt, Int32.le_iff_toInt_le, ← Int32.toInt_inj, Int32.reduceToInt] at g_2 g_4 ⊢; omega, rfl, rfl⟩), by show va_P (dC, dI) vwCl (va_pl L f) t.heap; rw [ht]; exact hP⟩, hS.F ht⟩) hS.2.2 dX6_stop_18
set_option maxHeartbeats 4000000 in
set_option maxRecDepth 100000 in
theorem um_promise (l : Launch) (dC : Nat → ClassId) (dI : Nat → Nat → Nat) (K : Nat → ClassId) (L : List Nat) (f : Nat → va_E) (rt : Nat → Nat) {fm : List Value} (hC : mC rt L f fm) {g_sort : Nat → Int32} (F_sort : f (rt 10) = .inl (K 0, 40, .inl g_sort)) {g_promised : Nat → Int32} (F_promised : f (rt 22) = .inl (K 0, 40, .inl g_promised)) {g_promiseDay : Nat → Int32} (F_promiseDay : f (rt 23) = .inl (K 0, 40, .inl g_promiseDay)) {g_promiseFrom : Nat → Int32} (F_promiseFrom : f (rt 24) = .inl (K 0, 40, .inl g_promiseFrom)) {nc t : Nat} (I_campaigns : fm[9]? = some (.int (nI nc))) (I_tick : fm[1]? = some (.int (nI t))) (x : Int32) (y : Int32) (z : Int32) (hnc : nc ≤ 40) (hLn : gN L) : gMi l yX6_promise cX6_promise 4 2 (dC, dI) K L f [.ref (rt 51), .int x, .int y, .int z] (fun r f' => (¬ ((0 ≤ x ∧ x ≤ nI nc - 1) ∧ (1 ≤ y ∧ y ≤ 1000) ∧ (0 ≤ z ∧ z ≤ 100) ∧ ¬ z < nI t / 100) ∧ r = (-1) ∧ f' = f) ∨ (((0 ≤ x ∧ x ≤ nI nc - 1) ∧ (1 ≤ y ∧ y ≤ 1000) ∧ (0 ≤ z ∧ z ≤ 100) ∧ ¬ z < nI t / 100) ∧ ¬ g_sort (Int32.toNatClampNeg x) = 1 ∧ r = (-2) ∧ f' = f) ∨ (((0 ≤ x ∧ x ≤ nI nc - 1) ∧ (1 ≤ y ∧ y ≤ 1000) ∧ (0 ≤ z ∧ z ≤ 100) ∧ ¬ z < nI t / 100) ∧ g_sort (Int32.toNatClampNeg x) = 1 ∧ r = 1 ∧ f' = va_up (va_up (va_up (f) (rt 22) (.inl (K 0, 40, .inl (upd g_promised (Int32.toNatClampNeg x) y)))) (rt 23) (.inl (K 0, 40, .inl (upd g_promiseDay (Int32.toNatClampNeg x) z)))) (rt 24) (.inl (K 0, 40, .inl (upd g_promiseFrom (Int32.toNatClampNeg x) (nI t)))))) := by
  refine Met.ofW (cc := cX6_promise) (maxL := 4) (ret := (some .int)) (by decide) rfl ?_
  intro p e s m args below meth c s₁ B hml hv
  obtain ⟨rfl, hP, hK⟩ := hv
  have F_m := hC.2.1
  have hD : va_D (fun q : Nat => q ∈ L) (va_pl L f) := g_D hLn (fun a h => h) f
  generalize hAe : (fun q : Nat => q ∈ L) = A at hD ⊢
  have hx := B.exec
  have hb := B.bytes
  have hr := B.returns
  have hlocks := B.notSynchronized
  have hts0 := atoms_spec (ws := Cond.code yX6_promise cX6_promise 4 (some .int) :: lw_B) B.pre
  have hts : ∀ w ∈ lw_B, w.before _ s = true := fun w h => hts0 w (List.mem_cons_of_mem _ h)
  have hown : s.vm.findClass RX6 = some m.cls := findClass_of_methodNamed B.named
  have hS : va_S A s.heap s.heap [] := va_S.rf
  have hl := lv_entry ([.ref (rt 51), .int x, .int y, .int z]) (n := 4) (Nat.le_of_ble_eq_true rfl)
  rw [lg_entry_eq]
  generalize (lg_sl ([.ref (rt 51), .int x, .int y, .int z]) ++ List.replicate (4 - (lg_sl ([.ref (rt 51), .int x, .int y, .int z])).length) Slot.unset).toArray = ls at hl ⊢
  have hl : lv_has ls 4 [(0, .ref (rt 51)), (1, .int x), (2, .int y), (3, .int z)] := hl
  refine lv_aload_n hx hb dX6_promise_0 rfl (lv_at hl 0 rfl) ?_
  refine lv_iload_n hx hb dX6_promise_1 rfl (lv_at hl 1 rfl) ?_
  refine gc_R (ci := 6) ⟨hx, hb, hml, hown, hts⟩ (m_isCampaign l dC dI K L f rt hC I_campaigns x) 1 wm_81 wm_82 wm_83 wm_8 wm_84 (by decide +kernel) ⟨Nat.le_of_ble_eq_true rfl, Nat.le_of_ble_eq_true rfl⟩ hK rfl (hC.1.1 51 (by decide)) F_m rfl hl.1 rfl (Nat.le_of_ble_eq_true rfl) dX6_promise_2 ⟨Nat.le_of_ble_eq_true rfl, Nat.le_of_ble_eq_true rfl⟩ hS hP (fun r_1 H locs hpr_1 hP hS => ?_)
  refine lv_if_eq (tgt := 40) hx hb dX6_promise_5 (by decide) (fun c_2 => ?_) (fun c_2 => ?_)
  · skip
    have g_2 := k_ff hpr_1 c_2
    refine lv_iconst (v := (-1)) hx hb dX6_promise_40 (by decide) ?_
    exact W.iret (v := (-1)) hx hb hr (fun t ht hW => ⟨⟨(-1), f, rfl, (Or.inl ⟨(by simp only [Int32.lt_iff_toInt_lt, Int32.le_iff_toInt_le, ← Int32.toInt_inj, Int32.reduceToInt] at g_2 ⊢; omega), rfl, rfl⟩), by show va_P (dC, dI) vwCl (va_pl L f) t.heap; rw [ht]; exact hP⟩, hS.F ht⟩) hS.2.2 dX6_promise_41
  · skip
    have g_2 := k_ft hpr_1 c_2
    obtain ⟨cn, hcn, rfl⟩ := k_ix g_2 (by omega)
    refine lv_iload_n hx hb dX6_promise_8 rfl (lv_at hl 2 rfl) ?_
    refine lv_iconst (v := 1) hx hb dX6_promise_9 (by decide) ?_
    refine lv_sipush (v := 1000) hx hb dX6_promise_10 (by decide) ?_
    refine k_S ⟨hx, hb, hml, hown, hts⟩ (c_in l y 1 1000) 3 wm_69 wm_70 wm_8 wm_71 (by decide +kernel) ⟨Nat.le_of_ble_eq_true rfl, Nat.le_of_ble_eq_true rfl⟩ rfl hl.1 rfl (Nat.le_of_ble_eq_true rfl) dX6_promise_13 ⟨Nat.le_of_ble_eq_true rfl, Nat.le_of_ble_eq_true rfl⟩ hS hP (fun r_3 H locs hpr_3 hP hS => ?_)
    refine lv_if_eq (tgt := 40) hx hb dX6_promise_16 (by decide) (fun c_4 => ?_) (fun c_4 => ?_)
    · skip
      have g_4 := k_ff hpr_3 c_4
      refine lv_iconst (v := (-1)) hx hb dX6_promise_40 (by decide) ?_
      exact W.iret (v := (-1)) hx hb hr (fun t ht hW => ⟨⟨(-1), f, rfl, (Or.inl ⟨(by simp only [Int32.lt_iff_toInt_lt, Int32.le_iff_toInt_le, ← Int32.toInt_inj, Int32.reduceToInt] at g_2 g_4 ⊢; omega), rfl, rfl⟩), by show va_P (dC, dI) vwCl (va_pl L f) t.heap; rw [ht]; exact hP⟩, hS.F ht⟩) hS.2.2 dX6_promise_41
    · skip
      have g_4 := k_ft hpr_3 c_4
      refine lv_iload_n hx hb dX6_promise_19 rfl (lv_at hl 3 rfl) ?_
      refine lv_iconst (v := 0) hx hb dX6_promise_20 (by decide) ?_
      refine lv_bipush (v := 100) hx hb dX6_promise_21 (by decide) ?_
      refine k_S ⟨hx, hb, hml, hown, hts⟩ (c_in l z 0 100) 3 wm_69 wm_70 wm_8 wm_71 (by decide +kernel) ⟨Nat.le_of_ble_eq_true rfl, Nat.le_of_ble_eq_true rfl⟩ rfl hl.1 rfl (Nat.le_of_ble_eq_true rfl) dX6_promise_23 ⟨Nat.le_of_ble_eq_true rfl, Nat.le_of_ble_eq_true rfl⟩ hS hP (fun r_5 H locs hpr_5 hP hS => ?_)
      refine lv_if_eq (tgt := 40) hx hb dX6_promise_26 (by decide) (fun c_6 => ?_) (fun c_6 => ?_)
      · skip
        have g_6 := k_ff hpr_5 c_6
        refine lv_iconst (v := (-1)) hx hb dX6_promise_40 (by decide) ?_
        exact W.iret (v := (-1)) hx hb hr (fun t ht hW => ⟨⟨(-1), f, rfl, (Or.inl ⟨(by simp only [Int32.lt_iff_toInt_lt, Int32.le_iff_toInt_le, ← Int32.toInt_inj, Int32.reduceToInt] at g_2 g_4 g_6 ⊢; omega), rfl, rfl⟩), by show va_P (dC, dI) vwCl (va_pl L f) t.heap; rw [ht]; exact hP⟩, hS.F ht⟩) hS.2.2 dX6_promise_41
      · skip
        have g_6 := k_ft hpr_5 c_6
        refine lv_iload_n hx hb dX6_promise_29 rfl (lv_at hl 3 rfl) ?_
        refine lv_aload_n hx hb dX6_promise_30 rfl (lv_at hl 0 rfl) ?_
        refine g_get (ci := 6) (v := .int (nI t)) (C := RX6) (T := TX6) (N := 51) hx hb hts uB6 hown hK hP (hC.1.1 51 (by decide)) F_m rfl 1 (by decide) wm_13 I_tick dX6_promise_31 ?_
        refine lv_bipush (v := 100) hx hb dX6_promise_34 (by decide) ?_
        refine lv_idiv hx hb dX6_promise_36 (by decide) ?_
        refine lv_topi (fun x_7 ex_7 => ?_)
        refine lv_icmp_ge (tgt := 42) hx hb dX6_promise_37 (by decide) (fun c_8 => ?_) (fun c_8 => ?_)
        · skip
          rw [ex_7] at c_8
          refine lv_aload_n hx hb dX6_promise_42 rfl (lv_at hl 0 rfl) ?_
          refine g_get (ci := 6) (v := .ref (rt 10)) (C := RX6) (T := TX6) (N := 51) hx hb hts uB6 hown hK hP (hC.1.1 51 (by decide)) F_m rfl 10 (by decide) wm_21 (hC.2.2.2 10 (by decide)) dX6_promise_43 ?_
          refine lv_iload_n hx hb dX6_promise_46 rfl (lv_at hl 1 rfl) ?_
          refine g_iald hx hb hK hP (hC.1.1 10 (by decide)) F_sort (vp_in_nI (by omega) (by decide)) dX6_promise_47 ?_
          refine lv_topi (fun x_9 ex_9 => ?_)
          rw [nI_clamp (by omega)] at ex_9
          refine lv_iconst (v := 1) hx hb dX6_promise_48 (by decide) ?_
          refine lv_icmp_eq (tgt := 55) hx hb dX6_promise_49 (by decide) (fun c_10 => ?_) (fun c_10 => ?_)
          · skip
            refine lv_aload_n hx hb dX6_promise_55 rfl (lv_at hl 0 rfl) ?_
            refine g_get (ci := 6) (v := .ref (rt 22)) (C := RX6) (T := TX6) (N := 51) hx hb hts uB6 hown hK hP (hC.1.1 51 (by decide)) F_m rfl 22 (by decide) wm_22 (hC.2.2.2 22 (by decide)) dX6_promise_56 ?_
            refine lv_iload_n hx hb dX6_promise_59 rfl (lv_at hl 1 rfl) ?_
            refine lv_iload_n hx hb dX6_promise_60 rfl (lv_at hl 2 rfl) ?_
            refine g_iast hx hb hK hP hD hS (hC.1.1 22 (by decide)) F_promised (vp_in_nI (by omega) (by decide)) dX6_promise_61 (fun H locs hP hD hS => ?_)
            obtain ⟨g_11, eg_11⟩ : ∃ z9, z9 = upd g_promised (Int32.toNatClampNeg (nI cn)) y := ⟨_, rfl⟩
            rw [← eg_11] at hP hD
            obtain ⟨f_12, ef_12⟩ : ∃ z9, z9 = va_up f (rt 22) (.inl (K 0, 40, .inl g_11)) := ⟨_, rfl⟩
            have hP : va_P (dC, dI) vwCl (va_pl L f_12) H := by rw [ef_12]; exact hP
            have hD : va_D A (va_pl L f_12) := by rw [ef_12]; exact hD
            have F_m_ : f_12 (rt 51) = .inr (6, fm) := by rw [ef_12, va_up_ne _ _ (fun q => absurd (hC.1.2 51 (by decide) 22 (by decide) q) (by decide))]; exact F_m
            have F_sort_ : f_12 (rt 10) = .inl (K 0, 40, .inl g_sort) := by rw [ef_12, va_up_ne _ _ (fun q => absurd (hC.1.2 10 (by decide) 22 (by decide) q) (by decide))]; exact F_sort
            have F_promiseDay_ : f_12 (rt 23) = .inl (K 0, 40, .inl g_promiseDay) := by rw [ef_12, va_up_ne _ _ (fun q => absurd (hC.1.2 23 (by decide) 22 (by decide) q) (by decide))]; exact F_promiseDay
            have F_promiseFrom_ : f_12 (rt 24) = .inl (K 0, 40, .inl g_promiseFrom) := by rw [ef_12, va_up_ne _ _ (fun q => absurd (hC.1.2 24 (by decide) 22 (by decide) q) (by decide))]; exact F_promiseFrom
            have F_m := F_m_
            have F_sort := F_sort_
            have F_promiseDay := F_promiseDay_
            have F_promiseFrom := F_promiseFrom_
            have F_promised : f_12 (rt 22) = .inl (K 0, 40, .inl g_11) := by rw [ef_12, va_up_self]
            have hC : mC rt L f_12 fm := ⟨hC.1, F_m, hC.2.2.1, hC.2.2.2⟩
            refine lv_aload_n hx hb dX6_promise_62 rfl (lv_at hl 0 rfl) ?_
            refine g_get (ci := 6) (v := .ref (rt 23)) (C := RX6) (T := TX6) (N := 51) hx hb hts uB6 hown hK hP (hC.1.1 51 (by decide)) F_m rfl 23 (by decide) wm_27 (hC.2.2.2 23 (by decide)) dX6_promise_63 ?_
            refine lv_iload_n hx hb dX6_promise_66 rfl (lv_at hl 1 rfl) ?_
            refine lv_iload_n hx hb dX6_promise_67 rfl (lv_at hl 3 rfl) ?_
            refine g_iast hx hb hK hP hD hS (hC.1.1 23 (by decide)) F_promiseDay (vp_in_nI (by omega) (by decide)) dX6_promise_68 (fun H locs hP hD hS => ?_)
            obtain ⟨g_13, eg_13⟩ : ∃ z9, z9 = upd g_promiseDay (Int32.toNatClampNeg (nI cn)) z := ⟨_, rfl⟩
            rw [← eg_13] at hP hD
            obtain ⟨f_14, ef_14⟩ : ∃ z9, z9 = va_up f_12 (rt 23) (.inl (K 0, 40, .inl g_13)) := ⟨_, rfl⟩
            have hP : va_P (dC, dI) vwCl (va_pl L f_14) H := by rw [ef_14]; exact hP
            have hD : va_D A (va_pl L f_14) := by rw [ef_14]; exact hD
            have F_m_ : f_14 (rt 51) = .inr (6, fm) := by rw [ef_14, va_up_ne _ _ (fun q => absurd (hC.1.2 51 (by decide) 23 (by decide) q) (by decide))]; exact F_m
            have F_sort_ : f_14 (rt 10) = .inl (K 0, 40, .inl g_sort) := by rw [ef_14, va_up_ne _ _ (fun q => absurd (hC.1.2 10 (by decide) 23 (by decide) q) (by decide))]; exact F_sort
            have F_promised_ : f_14 (rt 22) = .inl (K 0, 40, .inl g_11) := by rw [ef_14, va_up_ne _ _ (fun q => absurd (hC.1.2 22 (by decide) 23 (by decide) q) (by decide))]; exact F_promised
            have F_promiseFrom_ : f_14 (rt 24) = .inl (K 0, 40, .inl g_promiseFrom) := by rw [ef_14, va_up_ne _ _ (fun q => absurd (hC.1.2 24 (by decide) 23 (by decide) q) (by decide))]; exact F_promiseFrom
            have F_m := F_m_
            have F_sort := F_sort_
            have F_promised := F_promised_
            have F_promiseFrom := F_promiseFrom_
            have F_promiseDay : f_14 (rt 23) = .inl (K 0, 40, .inl g_13) := by rw [ef_14, va_up_self]
            have hC : mC rt L f_14 fm := ⟨hC.1, F_m, hC.2.2.1, hC.2.2.2⟩
            refine lv_aload_n hx hb dX6_promise_69 rfl (lv_at hl 0 rfl) ?_
            refine g_get (ci := 6) (v := .ref (rt 24)) (C := RX6) (T := TX6) (N := 51) hx hb hts uB6 hown hK hP (hC.1.1 51 (by decide)) F_m rfl 24 (by decide) wm_28 (hC.2.2.2 24 (by decide)) dX6_promise_70 ?_
            refine lv_iload_n hx hb dX6_promise_73 rfl (lv_at hl 1 rfl) ?_
            refine lv_aload_n hx hb dX6_promise_74 rfl (lv_at hl 0 rfl) ?_
            refine g_get (ci := 6) (v := .int (nI t)) (C := RX6) (T := TX6) (N := 51) hx hb hts uB6 hown hK hP (hC.1.1 51 (by decide)) F_m rfl 1 (by decide) wm_13 I_tick dX6_promise_75 ?_
            refine g_iast hx hb hK hP hD hS (hC.1.1 24 (by decide)) F_promiseFrom (vp_in_nI (by omega) (by decide)) dX6_promise_78 (fun H locs hP hD hS => ?_)
            obtain ⟨g_15, eg_15⟩ : ∃ z9, z9 = upd g_promiseFrom (Int32.toNatClampNeg (nI cn)) (nI t) := ⟨_, rfl⟩
            rw [← eg_15] at hP hD
            obtain ⟨f_16, ef_16⟩ : ∃ z9, z9 = va_up f_14 (rt 24) (.inl (K 0, 40, .inl g_15)) := ⟨_, rfl⟩
            have hP : va_P (dC, dI) vwCl (va_pl L f_16) H := by rw [ef_16]; exact hP
            have hD : va_D A (va_pl L f_16) := by rw [ef_16]; exact hD
            have F_m_ : f_16 (rt 51) = .inr (6, fm) := by rw [ef_16, va_up_ne _ _ (fun q => absurd (hC.1.2 51 (by decide) 24 (by decide) q) (by decide))]; exact F_m
            have F_sort_ : f_16 (rt 10) = .inl (K 0, 40, .inl g_sort) := by rw [ef_16, va_up_ne _ _ (fun q => absurd (hC.1.2 10 (by decide) 24 (by decide) q) (by decide))]; exact F_sort
            have F_promised_ : f_16 (rt 22) = .inl (K 0, 40, .inl g_11) := by rw [ef_16, va_up_ne _ _ (fun q => absurd (hC.1.2 22 (by decide) 24 (by decide) q) (by decide))]; exact F_promised
            have F_promiseDay_ : f_16 (rt 23) = .inl (K 0, 40, .inl g_13) := by rw [ef_16, va_up_ne _ _ (fun q => absurd (hC.1.2 23 (by decide) 24 (by decide) q) (by decide))]; exact F_promiseDay
            have F_m := F_m_
            have F_sort := F_sort_
            have F_promised := F_promised_
            have F_promiseDay := F_promiseDay_
            have F_promiseFrom : f_16 (rt 24) = .inl (K 0, 40, .inl g_15) := by rw [ef_16, va_up_self]
            have hC : mC rt L f_16 fm := ⟨hC.1, F_m, hC.2.2.1, hC.2.2.2⟩
            refine lv_iconst (v := 1) hx hb dX6_promise_79 (by decide) ?_
            exact W.iret (v := 1) hx hb hr (fun t ht hW => ⟨⟨1, f_16, rfl, (Or.inr (Or.inr ⟨(by simp only [Int32.lt_iff_toInt_lt, Int32.le_iff_toInt_le, ← Int32.toInt_inj, Int32.reduceToInt] at g_2 g_4 g_6 c_8 ⊢; omega), (by rw [nI_clamp (by omega), ← ex_9]; exact c_10), rfl, by rw [ef_16, eg_15, ef_14, eg_13, ef_12, eg_11]⟩)), by show va_P (dC, dI) vwCl (va_pl L f_16) t.heap; rw [ht]; exact hP⟩, hS.F ht⟩) hS.2.2 dX6_promise_80
          · skip
            refine lv_bipush (v := (-2)) hx hb dX6_promise_52 (by decide) ?_
            exact W.iret (v := (-2)) hx hb hr (fun t ht hW => ⟨⟨(-2), f, rfl, (Or.inr (Or.inl ⟨(by simp only [Int32.lt_iff_toInt_lt, Int32.le_iff_toInt_le, ← Int32.toInt_inj, Int32.reduceToInt] at g_2 g_4 g_6 c_8 ⊢; omega), (by rw [nI_clamp (by omega), ← ex_9]; exact c_10), rfl, rfl⟩)), by show va_P (dC, dI) vwCl (va_pl L f) t.heap; rw [ht]; exact hP⟩, hS.F ht⟩) hS.2.2 dX6_promise_54
        · skip
          rw [ex_7] at c_8
          refine lv_iconst (v := (-1)) hx hb dX6_promise_40 (by decide) ?_
          exact W.iret (v := (-1)) hx hb hr (fun t ht hW => ⟨⟨(-1), f, rfl, (Or.inl ⟨(by simp only [Int32.lt_iff_toInt_lt, Int32.le_iff_toInt_le, ← Int32.toInt_inj, Int32.reduceToInt] at g_2 g_4 g_6 c_8 ⊢; omega), rfl, rfl⟩), by show va_P (dC, dI) vwCl (va_pl L f) t.heap; rw [ht]; exact hP⟩, hS.F ht⟩) hS.2.2 dX6_promise_41
