set_option maxHeartbeats 4000000 in
set_option maxRecDepth 100000 in
theorem f_marks (l : Launch) (dC : Nat → ClassId) (dI : Nat → Nat → Nat) (sz : Nat) (h0 : Nat) (fs : List Value) (qm : Nat) (cI : ClassId) (x y : Int32) (hf3 : fs[3]? = some (.ref qm)) (hlen_h0 : fs.length = 17)  : mFi l yX5_marks cX5_marks 4 1 0 0 (dC, dI) [(h0, .inr (5, fs)), (qm, .inl (cI, 100, .inl (fun _ => 0)))] sz [(cI, .int)] (fun _ => True) [.ref h0, .int x, .int y] (fun r => r = if (0 ≤ x ∧ x ≤ 99) ∧ (0 ≤ y ∧ y ≤ 4095) then 0 else (-1)) := by
  refine Met.ofW (cc := cX5_marks) (maxL := 4) (ret := some .int) (by decide) rfl ?_
  intro p e s m args below meth c s₁ B hml hv
  obtain ⟨rfl, hsz, hP, hK, hD0, hex⟩ := hv
  subst hsz
  have hx := B.exec
  have hb := B.bytes
  have hr := B.returns
  have hlocks := B.notSynchronized
  have hts0 := atoms_spec (ws := Cond.code yX5_marks cX5_marks 4 (some .int) :: lw_B) B.pre
  have hts : ∀ w ∈ lw_B, w.before _ s = true := fun w h => hts0 w (List.mem_cons_of_mem _ h)
  have hown : s.vm.findClass RX5 = some m.cls := findClass_of_methodNamed B.named
  have hD := hD0.self (sz := s.heap.size)
  generalize hAe : va_A [(h0, .inr (5, fs)), (qm, .inl (cI, 100, .inl (fun _ => 0)))] s.heap.size = A at hD ⊢
  have hA : ∀ q : Nat, s.heap.size ≤ q → A q := fun q h => by rw [← hAe]; exact Or.inr h
  have hS : va_S A s.heap s.heap [] := va_S.rf
  have hl := lv_entry ([.ref h0, .int x, .int y]) (n := 4) (Nat.le_of_ble_eq_true rfl)
  rw [lg_entry_eq]
  generalize (lg_sl ([.ref h0, .int x, .int y]) ++ List.replicate (4 - (lg_sl ([.ref h0, .int x, .int y])).length) Slot.unset).toArray = ls at hl ⊢
  have hl : lv_has ls 4 [(0, .ref h0), (1, .int x), (2, .int y)] := hl
  refine lv_iload_n hx hb dX5_marks_0 rfl (lv_at hl 1 rfl) ?_
  refine k_S ⟨hx, hb, hml, hown, hts⟩ (c_isReader l x) 1 wm_22 wm_23 wm_2 wm_24 (by decide +kernel) ⟨Nat.le_of_ble_eq_true rfl, Nat.le_of_ble_eq_true rfl⟩ rfl hl.1 rfl (Nat.le_of_ble_eq_true rfl) dX5_marks_1 ⟨Nat.le_of_ble_eq_true rfl, Nat.le_of_ble_eq_true rfl⟩ hS hP (fun r_1 H locs hpr_1 hP hS => ?_)
  refine lv_if_eq (tgt := 18) hx hb dX5_marks_4 (by decide) (fun c_2 => ?_) (fun c_2 => ?_)
  · skip
    have g_2 := k_ff hpr_1 c_2
    refine lv_iconst (v := (-1)) hx hb dX5_marks_18 (by decide) ?_
    exact W.iret (v := (-1)) hx hb hr (fun t ht hW => ⟨⟨(-1), (), rfl, (by simp only [Int32.lt_iff_toInt_lt, Int32.le_iff_toInt_le, ← Int32.toInt_inj, Int32.reduceToInt] at g_2; exact (if_neg (by simp only [Int32.lt_iff_toInt_lt, Int32.le_iff_toInt_le, ← Int32.toInt_inj, Int32.reduceToInt]; omega)).symm), trivial⟩, hS.F ht⟩) hS.2.2 dX5_marks_19
  · skip
    have g_2 := k_ft hpr_1 c_2
    refine lv_iload_n hx hb dX5_marks_7 rfl (lv_at hl 2 rfl) ?_
    refine lv_iconst (v := 0) hx hb dX5_marks_8 (by decide) ?_
    refine lv_sipush (v := 4095) hx hb dX5_marks_9 (by decide) ?_
    refine k_S ⟨hx, hb, hml, hown, hts⟩ (c_isWithin l y 0 4095) 3 wm_0 wm_1 wm_2 wm_3 (by decide +kernel) ⟨Nat.le_of_ble_eq_true rfl, Nat.le_of_ble_eq_true rfl⟩ rfl hl.1 rfl (Nat.le_of_ble_eq_true rfl) dX5_marks_12 ⟨Nat.le_of_ble_eq_true rfl, Nat.le_of_ble_eq_true rfl⟩ hS hP (fun r_3 H locs hpr_3 hP hS => ?_)
    refine lv_if_ne (tgt := 20) hx hb dX5_marks_15 (by decide) (fun c_4 => ?_) (fun c_4 => ?_)
    · skip
      have g_4 := k_ft hpr_3 c_4
      refine lv_aload_n hx hb dX5_marks_20 rfl (lv_at hl 0 rfl) ?_
      refine va_get (D := (dC, dI)) (ci := 5) (v := .ref qm) (C := RX5) (T := TX5) (N := 17) hx hb hts uB5 hown hK hP 0 rfl rfl 3 (by decide) (hts _ wm_75) (fun _ h9 => h9) hf3 dX5_marks_21 ?_
      refine lv_iload_n hx hb dX5_marks_24 rfl (lv_at hl 1 rfl) ?_
      refine va_iald hx hb hK hP 1 0 rfl rfl (vp_in_iff.mpr (by simp only [Int32.lt_iff_toInt_lt, Int32.le_iff_toInt_le, ← Int32.toInt_inj, Int32.reduceToInt] at g_2 g_4; omega)) dX5_marks_25 ?_
      refine lv_topi (fun x_5 ex_5 => ?_)
      obtain rfl : x_5 = 0 := ex_5
      refine lv_istore_n (lv' := [(3, .int 0), (0, .ref h0), (1, .int x), (2, .int y)]) hx hb dX5_marks_26 rfl hl (by decide) rfl (fun ls hl => ?_)
      refine lv_aload_n hx hb dX5_marks_27 rfl (lv_at hl 1 rfl) ?_
      refine va_get (D := (dC, dI)) (ci := 5) (v := .ref qm) (C := RX5) (T := TX5) (N := 17) hx hb hts uB5 hown hK hP 0 rfl rfl 3 (by decide) (hts _ wm_75) (fun _ h9 => h9) hf3 dX5_marks_28 ?_
      refine lv_iload_n hx hb dX5_marks_31 rfl (lv_at hl 2 rfl) ?_
      refine lv_iload_n hx hb dX5_marks_32 rfl (lv_at hl 3 rfl) ?_
      refine va_iast hx hb hK hP hD hS 1 0 rfl rfl (vp_in_iff.mpr (by simp only [Int32.lt_iff_toInt_lt, Int32.le_iff_toInt_le, ← Int32.toInt_inj, Int32.reduceToInt] at g_2 g_4; omega)) dX5_marks_33 (fun H locs hP hD hS => ?_)
      obtain ⟨f_6, ef_6⟩ : ∃ z9, z9 = upd (fun _ => 0) (Int32.toNatClampNeg x) y := ⟨_, rfl⟩
      have hP : va_P (dC, dI) vwCl [(h0, .inr (5, fs)), (qm, .inl (cI, 100, .inl f_6))] H := by rw [ef_6]; exact hP
      have hD : va_D A [(h0, .inr (5, fs)), (qm, .inl (cI, 100, .inl f_6))] := by rw [ef_6]; exact hD
      refine lv_iload_n hx hb dX5_marks_34 rfl (lv_at hl 0 rfl) ?_
      exact W.iret (v := 0) hx hb hr (fun t ht hW => ⟨⟨0, (), rfl, (by simp only [Int32.lt_iff_toInt_lt, Int32.le_iff_toInt_le, ← Int32.toInt_inj, Int32.reduceToInt] at g_2 g_4; exact (if_pos (by simp only [Int32.lt_iff_toInt_lt, Int32.le_iff_toInt_le, ← Int32.toInt_inj, Int32.reduceToInt]; omega)).symm), trivial⟩, hS.F ht⟩) hS.2.2 dX5_marks_35
    · skip
      have g_4 := k_ff hpr_3 c_4
      refine lv_iconst (v := (-1)) hx hb dX5_marks_18 (by decide) ?_
      exact W.iret (v := (-1)) hx hb hr (fun t ht hW => ⟨⟨(-1), (), rfl, (by simp only [Int32.lt_iff_toInt_lt, Int32.le_iff_toInt_le, ← Int32.toInt_inj, Int32.reduceToInt] at g_2 g_4; exact (if_neg (by simp only [Int32.lt_iff_toInt_lt, Int32.le_iff_toInt_le, ← Int32.toInt_inj, Int32.reduceToInt]; omega)).symm), trivial⟩, hS.F ht⟩) hS.2.2 dX5_marks_19
set_option maxHeartbeats 4000000 in
set_option maxRecDepth 100000 in
theorem f_mmarks (l : Launch) (dC : Nat → ClassId) (dI : Nat → Nat → Nat) (sz : Nat) (h0 : Nat) (fs : List Value) (qm : Nat) (cI : ClassId) (x y : Int32) (hf8 : fs[8]? = some (.ref qm)) (hlen_h0 : fs.length = 51)  : mFi l yX6_marks cX6_marks 4 2 0 0 (dC, dI) [(h0, .inr (6, fs)), (qm, .inl (cI, 100, .inl (fun _ => 0)))] sz [(cI, .int)] (fun _ => True) [.ref h0, .int x, .int y] (fun r => r = if (0 ≤ x ∧ x ≤ 99) ∧ (0 ≤ y ∧ y ≤ 4095) then 0 else (-1)) := by
  refine Met.ofW (cc := cX6_marks) (maxL := 4) (ret := some .int) (by decide) rfl ?_
  intro p e s m args below meth c s₁ B hml hv
  obtain ⟨rfl, hsz, hP, hK, hD0, hex⟩ := hv
  subst hsz
  have hx := B.exec
  have hb := B.bytes
  have hr := B.returns
  have hlocks := B.notSynchronized
  have hts0 := atoms_spec (ws := Cond.code yX6_marks cX6_marks 4 (some .int) :: lw_B) B.pre
  have hts : ∀ w ∈ lw_B, w.before _ s = true := fun w h => hts0 w (List.mem_cons_of_mem _ h)
  have hown : s.vm.findClass RX6 = some m.cls := findClass_of_methodNamed B.named
  have hD := hD0.self (sz := s.heap.size)
  generalize hAe : va_A [(h0, .inr (6, fs)), (qm, .inl (cI, 100, .inl (fun _ => 0)))] s.heap.size = A at hD ⊢
  have hA : ∀ q : Nat, s.heap.size ≤ q → A q := fun q h => by rw [← hAe]; exact Or.inr h
  have hS : va_S A s.heap s.heap [] := va_S.rf
  have hl := lv_entry ([.ref h0, .int x, .int y]) (n := 4) (Nat.le_of_ble_eq_true rfl)
  rw [lg_entry_eq]
  generalize (lg_sl ([.ref h0, .int x, .int y]) ++ List.replicate (4 - (lg_sl ([.ref h0, .int x, .int y])).length) Slot.unset).toArray = ls at hl ⊢
  have hl : lv_has ls 4 [(0, .ref h0), (1, .int x), (2, .int y)] := hl
  refine lv_iload_n hx hb dX6_marks_0 rfl (lv_at hl 1 rfl) ?_
  refine k_S ⟨hx, hb, hml, hown, hts⟩ (c_mReader l x) 1 wm_29 wm_30 wm_6 wm_31 (by decide +kernel) ⟨Nat.le_of_ble_eq_true rfl, Nat.le_of_ble_eq_true rfl⟩ rfl hl.1 rfl (Nat.le_of_ble_eq_true rfl) dX6_marks_1 ⟨Nat.le_of_ble_eq_true rfl, Nat.le_of_ble_eq_true rfl⟩ hS hP (fun r_1 H locs hpr_1 hP hS => ?_)
  refine lv_if_eq (tgt := 18) hx hb dX6_marks_4 (by decide) (fun c_2 => ?_) (fun c_2 => ?_)
  · skip
    have g_2 := k_ff hpr_1 c_2
    refine lv_iconst (v := (-1)) hx hb dX6_marks_18 (by decide) ?_
    exact W.iret (v := (-1)) hx hb hr (fun t ht hW => ⟨⟨(-1), (), rfl, (by simp only [Int32.lt_iff_toInt_lt, Int32.le_iff_toInt_le, ← Int32.toInt_inj, Int32.reduceToInt] at g_2; exact (if_neg (by simp only [Int32.lt_iff_toInt_lt, Int32.le_iff_toInt_le, ← Int32.toInt_inj, Int32.reduceToInt]; omega)).symm), trivial⟩, hS.F ht⟩) hS.2.2 dX6_marks_19
  · skip
    have g_2 := k_ft hpr_1 c_2
    refine lv_iload_n hx hb dX6_marks_7 rfl (lv_at hl 2 rfl) ?_
    refine lv_iconst (v := 0) hx hb dX6_marks_8 (by decide) ?_
    refine lv_sipush (v := 4095) hx hb dX6_marks_9 (by decide) ?_
    refine k_S ⟨hx, hb, hml, hown, hts⟩ (c_in l y 0 4095) 3 wm_4 wm_5 wm_6 wm_7 (by decide +kernel) ⟨Nat.le_of_ble_eq_true rfl, Nat.le_of_ble_eq_true rfl⟩ rfl hl.1 rfl (Nat.le_of_ble_eq_true rfl) dX6_marks_12 ⟨Nat.le_of_ble_eq_true rfl, Nat.le_of_ble_eq_true rfl⟩ hS hP (fun r_3 H locs hpr_3 hP hS => ?_)
    refine lv_if_ne (tgt := 20) hx hb dX6_marks_15 (by decide) (fun c_4 => ?_) (fun c_4 => ?_)
    · skip
      have g_4 := k_ft hpr_3 c_4
      refine lv_aload_n hx hb dX6_marks_20 rfl (lv_at hl 0 rfl) ?_
      refine va_get (D := (dC, dI)) (ci := 6) (v := .ref qm) (C := RX6) (T := TX6) (N := 51) hx hb hts uB6 hown hK hP 0 rfl rfl 8 (by decide) (hts _ wm_76) (fun _ h9 => h9) hf8 dX6_marks_21 ?_
      refine lv_iload_n hx hb dX6_marks_24 rfl (lv_at hl 1 rfl) ?_
      refine va_iald hx hb hK hP 1 0 rfl rfl (vp_in_iff.mpr (by simp only [Int32.lt_iff_toInt_lt, Int32.le_iff_toInt_le, ← Int32.toInt_inj, Int32.reduceToInt] at g_2 g_4; omega)) dX6_marks_25 ?_
      refine lv_topi (fun x_5 ex_5 => ?_)
      obtain rfl : x_5 = 0 := ex_5
      refine lv_istore_n (lv' := [(3, .int 0), (0, .ref h0), (1, .int x), (2, .int y)]) hx hb dX6_marks_26 rfl hl (by decide) rfl (fun ls hl => ?_)
      refine lv_aload_n hx hb dX6_marks_27 rfl (lv_at hl 1 rfl) ?_
      refine va_get (D := (dC, dI)) (ci := 6) (v := .ref qm) (C := RX6) (T := TX6) (N := 51) hx hb hts uB6 hown hK hP 0 rfl rfl 8 (by decide) (hts _ wm_76) (fun _ h9 => h9) hf8 dX6_marks_28 ?_
      refine lv_iload_n hx hb dX6_marks_31 rfl (lv_at hl 2 rfl) ?_
      refine lv_iload_n hx hb dX6_marks_32 rfl (lv_at hl 3 rfl) ?_
      refine va_iast hx hb hK hP hD hS 1 0 rfl rfl (vp_in_iff.mpr (by simp only [Int32.lt_iff_toInt_lt, Int32.le_iff_toInt_le, ← Int32.toInt_inj, Int32.reduceToInt] at g_2 g_4; omega)) dX6_marks_33 (fun H locs hP hD hS => ?_)
      obtain ⟨f_6, ef_6⟩ : ∃ z9, z9 = upd (fun _ => 0) (Int32.toNatClampNeg x) y := ⟨_, rfl⟩
      have hP : va_P (dC, dI) vwCl [(h0, .inr (6, fs)), (qm, .inl (cI, 100, .inl f_6))] H := by rw [ef_6]; exact hP
      have hD : va_D A [(h0, .inr (6, fs)), (qm, .inl (cI, 100, .inl f_6))] := by rw [ef_6]; exact hD
      refine lv_iload_n hx hb dX6_marks_34 rfl (lv_at hl 0 rfl) ?_
      exact W.iret (v := 0) hx hb hr (fun t ht hW => ⟨⟨0, (), rfl, (by simp only [Int32.lt_iff_toInt_lt, Int32.le_iff_toInt_le, ← Int32.toInt_inj, Int32.reduceToInt] at g_2 g_4; exact (if_pos (by simp only [Int32.lt_iff_toInt_lt, Int32.le_iff_toInt_le, ← Int32.toInt_inj, Int32.reduceToInt]; omega)).symm), trivial⟩, hS.F ht⟩) hS.2.2 dX6_marks_35
    · skip
      have g_4 := k_ff hpr_3 c_4
      refine lv_iconst (v := (-1)) hx hb dX6_marks_18 (by decide) ?_
      exact W.iret (v := (-1)) hx hb hr (fun t ht hW => ⟨⟨(-1), (), rfl, (by simp only [Int32.lt_iff_toInt_lt, Int32.le_iff_toInt_le, ← Int32.toInt_inj, Int32.reduceToInt] at g_2 g_4; exact (if_neg (by simp only [Int32.lt_iff_toInt_lt, Int32.le_iff_toInt_le, ← Int32.toInt_inj, Int32.reduceToInt]; omega)).symm), trivial⟩, hS.F ht⟩) hS.2.2 dX6_marks_19
