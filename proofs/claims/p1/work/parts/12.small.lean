set_option maxHeartbeats 4000000 in
set_option maxRecDepth 100000 in
theorem f_rule (l : Launch) (dC : Nat → ClassId) (dI : Nat → Nat → Nat) (sz : Nat) (h0 : Nat) (fs : List Value) (x : Int32) (hf13 : fs[13]? = some (.int 0)) (hlen_h0 : fs.length = 17) : mFi l yX5_rule cX5_rule 3 0 0 0 (dC, dI) [(h0, .inr (5, fs))] sz [] (fun _ => True) [.ref h0, .int x] (fun r => r = if 0 ≤ x ∧ x ≤ 1 then 0 else (-1)) := by
  refine Met.ofW (cc := cX5_rule) (maxL := 3) (ret := some .int) (by decide) rfl ?_
  intro p e s m args below meth c s₁ B hml hv
  obtain ⟨rfl, hsz, hP, hK, hD0, hex⟩ := hv
  subst hsz
  have hx := B.exec
  have hb := B.bytes
  have hr := B.returns
  have hlocks := B.notSynchronized
  have hts0 := atoms_spec (ws := Cond.code yX5_rule cX5_rule 3 (some .int) :: lw_B) B.pre
  have hts : ∀ w ∈ lw_B, w.before _ s = true := fun w h => hts0 w (List.mem_cons_of_mem _ h)
  have hown : s.vm.findClass RX5 = some m.cls := findClass_of_methodNamed B.named
  have hD := hD0.self (sz := s.heap.size)
  generalize hAe : va_A [(h0, .inr (5, fs))] s.heap.size = A at hD ⊢
  have hA : ∀ q : Nat, s.heap.size ≤ q → A q := fun q h => by rw [← hAe]; exact Or.inr h
  have hS : va_S A s.heap s.heap [] := va_S.rf
  have hl := lv_entry ([.ref h0, .int x]) (n := 3) (Nat.le_of_ble_eq_true rfl)
  rw [lg_entry_eq]
  generalize (lg_sl ([.ref h0, .int x]) ++ List.replicate (3 - (lg_sl ([.ref h0, .int x])).length) Slot.unset).toArray = ls at hl ⊢
  have hl : lv_has ls 3 [(0, .ref h0), (1, .int x)] := hl
  refine lv_iload_n hx hb dX5_rule_0 rfl (lv_at hl 1 rfl) ?_
  refine lv_if_eq (tgt := 11) hx hb dX5_rule_1 (by decide) (fun c_1 => ?_) (fun c_1 => ?_)
  · skip
    refine lv_aload_n hx hb dX5_rule_11 rfl (lv_at hl 0 rfl) ?_
    refine va_get (D := (dC, dI)) (ci := 5) (v := .int 0) (C := RX5) (T := TX5) (N := 17) hx hb hts uB5 hown hK hP 0 rfl rfl 13 (by decide) (hts _ wm_48) (fun _ h9 => h9) hf13 dX5_rule_12 ?_
    refine lv_istore_n (lv' := [(2, .int 0), (0, .ref h0), (1, .int x)]) hx hb dX5_rule_15 rfl hl (by decide) rfl (fun ls hl => ?_)
    refine lv_aload_n hx hb dX5_rule_16 rfl (lv_at hl 1 rfl) ?_
    refine lv_iload_n hx hb dX5_rule_17 rfl (lv_at hl 2 rfl) ?_
    refine va_put (D := (dC, dI)) (ci := 5) (v := .int x) (ty := .int) (C := RX5) (T := TX5) (N := 17) hx hb hts uB5 tyX5 tyX5_ok nmX5 hown hK hP hD hS 0 rfl rfl 13 (by decide) (hts _ wm_48) (fun _ h9 => h9) rfl (by decide +kernel) rfl rfl (by rw [hlen_h0]; decide) dX5_rule_18 (fun H locs hP hD hS => ?_)
    obtain ⟨fs_2, efs_2⟩ : ∃ z9, z9 = (fs).set 13 (.int x) := ⟨_, rfl⟩
    have hP : va_P (dC, dI) vwCl [(h0, .inr (5, fs_2))] H := by rw [efs_2]; exact hP
    have hD : va_D A [(h0, .inr (5, fs_2))] := by rw [efs_2]; exact hD
    have hf13 : fs_2[13]? = some (.int x) := by rw [efs_2]; exact List.getElem?_set_self (by rw [hlen_h0]; decide)
    have hlen_h0 : fs_2.length = 17 := by rw [efs_2, List.length_set]; exact hlen_h0
    refine lv_iload_n hx hb dX5_rule_21 rfl (lv_at hl 0 rfl) ?_
    exact W.iret (v := 0) hx hb hr (fun t ht hW => ⟨⟨0, (), rfl, (by simp only [Int32.lt_iff_toInt_lt, Int32.le_iff_toInt_le, ← Int32.toInt_inj, Int32.reduceToInt] at c_1; exact (if_pos (by simp only [Int32.lt_iff_toInt_lt, Int32.le_iff_toInt_le, ← Int32.toInt_inj, Int32.reduceToInt]; omega)).symm), trivial⟩, hS.F ht⟩) hS.2.2 dX5_rule_22
  · skip
    refine lv_iload_n hx hb dX5_rule_4 rfl (lv_at hl 1 rfl) ?_
    refine lv_iconst (v := 1) hx hb dX5_rule_5 (by decide) ?_
    refine lv_icmp_eq (tgt := 11) hx hb dX5_rule_6 (by decide) (fun c_3 => ?_) (fun c_3 => ?_)
    · skip
      refine lv_aload_n hx hb dX5_rule_11 rfl (lv_at hl 0 rfl) ?_
      refine va_get (D := (dC, dI)) (ci := 5) (v := .int 0) (C := RX5) (T := TX5) (N := 17) hx hb hts uB5 hown hK hP 0 rfl rfl 13 (by decide) (hts _ wm_48) (fun _ h9 => h9) hf13 dX5_rule_12 ?_
      refine lv_istore_n (lv' := [(2, .int 0), (0, .ref h0), (1, .int x)]) hx hb dX5_rule_15 rfl hl (by decide) rfl (fun ls hl => ?_)
      refine lv_aload_n hx hb dX5_rule_16 rfl (lv_at hl 1 rfl) ?_
      refine lv_iload_n hx hb dX5_rule_17 rfl (lv_at hl 2 rfl) ?_
      refine va_put (D := (dC, dI)) (ci := 5) (v := .int x) (ty := .int) (C := RX5) (T := TX5) (N := 17) hx hb hts uB5 tyX5 tyX5_ok nmX5 hown hK hP hD hS 0 rfl rfl 13 (by decide) (hts _ wm_48) (fun _ h9 => h9) rfl (by decide +kernel) rfl rfl (by rw [hlen_h0]; decide) dX5_rule_18 (fun H locs hP hD hS => ?_)
      obtain ⟨fs_4, efs_4⟩ : ∃ z9, z9 = (fs).set 13 (.int x) := ⟨_, rfl⟩
      have hP : va_P (dC, dI) vwCl [(h0, .inr (5, fs_4))] H := by rw [efs_4]; exact hP
      have hD : va_D A [(h0, .inr (5, fs_4))] := by rw [efs_4]; exact hD
      have hf13 : fs_4[13]? = some (.int x) := by rw [efs_4]; exact List.getElem?_set_self (by rw [hlen_h0]; decide)
      have hlen_h0 : fs_4.length = 17 := by rw [efs_4, List.length_set]; exact hlen_h0
      refine lv_iload_n hx hb dX5_rule_21 rfl (lv_at hl 0 rfl) ?_
      exact W.iret (v := 0) hx hb hr (fun t ht hW => ⟨⟨0, (), rfl, (by simp only [Int32.lt_iff_toInt_lt, Int32.le_iff_toInt_le, ← Int32.toInt_inj, Int32.reduceToInt] at c_1 c_3; exact (if_pos (by simp only [Int32.lt_iff_toInt_lt, Int32.le_iff_toInt_le, ← Int32.toInt_inj, Int32.reduceToInt]; omega)).symm), trivial⟩, hS.F ht⟩) hS.2.2 dX5_rule_22
    · skip
      refine lv_iconst (v := (-1)) hx hb dX5_rule_9 (by decide) ?_
      exact W.iret (v := (-1)) hx hb hr (fun t ht hW => ⟨⟨(-1), (), rfl, (by simp only [Int32.lt_iff_toInt_lt, Int32.le_iff_toInt_le, ← Int32.toInt_inj, Int32.reduceToInt] at c_1 c_3; exact (if_neg (by simp only [Int32.lt_iff_toInt_lt, Int32.le_iff_toInt_le, ← Int32.toInt_inj, Int32.reduceToInt]; omega)).symm), trivial⟩, hS.F ht⟩) hS.2.2 dX5_rule_10
set_option maxHeartbeats 4000000 in
set_option maxRecDepth 100000 in
theorem f_mrule (l : Launch) (dC : Nat → ClassId) (dI : Nat → Nat → Nat) (sz : Nat) (h0 : Nat) (fs : List Value) (x : Int32) (hfr : fs[2]? = some (.int 0)) (hlen_h0 : fs.length = 51) : mFi l yX6_rule cX6_rule 3 1 0 0 (dC, dI) [(h0, .inr (6, fs))] sz [] (fun _ => True) [.ref h0, .int x] (fun r => r = if 0 ≤ x ∧ x ≤ 1 then 0 else (-1)) := by
  refine Met.ofW (cc := cX6_rule) (maxL := 3) (ret := some .int) (by decide) rfl ?_
  intro p e s m args below meth c s₁ B hml hv
  obtain ⟨rfl, hsz, hP, hK, hD0, hex⟩ := hv
  subst hsz
  have hx := B.exec
  have hb := B.bytes
  have hr := B.returns
  have hlocks := B.notSynchronized
  have hts0 := atoms_spec (ws := Cond.code yX6_rule cX6_rule 3 (some .int) :: lw_B) B.pre
  have hts : ∀ w ∈ lw_B, w.before _ s = true := fun w h => hts0 w (List.mem_cons_of_mem _ h)
  have hown : s.vm.findClass RX6 = some m.cls := findClass_of_methodNamed B.named
  have hD := hD0.self (sz := s.heap.size)
  generalize hAe : va_A [(h0, .inr (6, fs))] s.heap.size = A at hD ⊢
  have hA : ∀ q : Nat, s.heap.size ≤ q → A q := fun q h => by rw [← hAe]; exact Or.inr h
  have hS : va_S A s.heap s.heap [] := va_S.rf
  have hl := lv_entry ([.ref h0, .int x]) (n := 3) (Nat.le_of_ble_eq_true rfl)
  rw [lg_entry_eq]
  generalize (lg_sl ([.ref h0, .int x]) ++ List.replicate (3 - (lg_sl ([.ref h0, .int x])).length) Slot.unset).toArray = ls at hl ⊢
  have hl : lv_has ls 3 [(0, .ref h0), (1, .int x)] := hl
  refine lv_iload_n hx hb dX6_rule_0 rfl (lv_at hl 1 rfl) ?_
  refine lv_iconst (v := 0) hx hb dX6_rule_1 (by decide) ?_
  refine lv_iconst (v := 1) hx hb dX6_rule_2 (by decide) ?_
  refine k_S ⟨hx, hb, hml, hown, hts⟩ (c_in l x 0 1) 3 wm_4 wm_5 wm_6 wm_7 (by decide +kernel) ⟨Nat.le_of_ble_eq_true rfl, Nat.le_of_ble_eq_true rfl⟩ rfl hl.1 rfl (Nat.le_of_ble_eq_true rfl) dX6_rule_3 ⟨Nat.le_of_ble_eq_true rfl, Nat.le_of_ble_eq_true rfl⟩ hS hP (fun r_1 H locs hpr_1 hP hS => ?_)
  refine lv_if_ne (tgt := 11) hx hb dX6_rule_6 (by decide) (fun c_2 => ?_) (fun c_2 => ?_)
  · skip
    have g_2 := k_ft hpr_1 c_2
    refine lv_aload_n hx hb dX6_rule_11 rfl (lv_at hl 0 rfl) ?_
    refine va_get (D := (dC, dI)) (ci := 6) (v := .int 0) (C := RX6) (T := TX6) (N := 51) hx hb hts uB6 hown hK hP 0 rfl rfl 2 (by decide) (hts _ wm_49) (fun _ h9 => h9) hfr dX6_rule_12 ?_
    refine lv_istore_n (lv' := [(2, .int 0), (0, .ref h0), (1, .int x)]) hx hb dX6_rule_15 rfl hl (by decide) rfl (fun ls hl => ?_)
    refine lv_aload_n hx hb dX6_rule_16 rfl (lv_at hl 1 rfl) ?_
    refine lv_iload_n hx hb dX6_rule_17 rfl (lv_at hl 2 rfl) ?_
    refine va_put (D := (dC, dI)) (ci := 6) (v := .int x) (ty := .int) (C := RX6) (T := TX6) (N := 51) hx hb hts uB6 tyX6 tyX6_ok nmX6 hown hK hP hD hS 0 rfl rfl 2 (by decide) (hts _ wm_49) (fun _ h9 => h9) rfl (by decide +kernel) rfl rfl (by rw [hlen_h0]; decide) dX6_rule_18 (fun H locs hP hD hS => ?_)
    obtain ⟨fs_3, efs_3⟩ : ∃ z9, z9 = (fs).set 2 (.int x) := ⟨_, rfl⟩
    have hP : va_P (dC, dI) vwCl [(h0, .inr (6, fs_3))] H := by rw [efs_3]; exact hP
    have hD : va_D A [(h0, .inr (6, fs_3))] := by rw [efs_3]; exact hD
    have hfr : fs_3[2]? = some (.int x) := by rw [efs_3]; exact List.getElem?_set_self (by rw [hlen_h0]; decide)
    have hlen_h0 : fs_3.length = 51 := by rw [efs_3, List.length_set]; exact hlen_h0
    refine lv_iload_n hx hb dX6_rule_21 rfl (lv_at hl 0 rfl) ?_
    exact W.iret (v := 0) hx hb hr (fun t ht hW => ⟨⟨0, (), rfl, (by simp only [Int32.lt_iff_toInt_lt, Int32.le_iff_toInt_le, ← Int32.toInt_inj, Int32.reduceToInt] at g_2; exact (if_pos (by simp only [Int32.lt_iff_toInt_lt, Int32.le_iff_toInt_le, ← Int32.toInt_inj, Int32.reduceToInt]; omega)).symm), trivial⟩, hS.F ht⟩) hS.2.2 dX6_rule_22
  · skip
    have g_2 := k_ff hpr_1 c_2
    refine lv_iconst (v := (-1)) hx hb dX6_rule_9 (by decide) ?_
    exact W.iret (v := (-1)) hx hb hr (fun t ht hW => ⟨⟨(-1), (), rfl, (by simp only [Int32.lt_iff_toInt_lt, Int32.le_iff_toInt_le, ← Int32.toInt_inj, Int32.reduceToInt] at g_2; exact (if_neg (by simp only [Int32.lt_iff_toInt_lt, Int32.le_iff_toInt_le, ← Int32.toInt_inj, Int32.reduceToInt]; omega)).symm), trivial⟩, hS.F ht⟩) hS.2.2 dX6_rule_10
set_option maxHeartbeats 4000000 in
set_option maxRecDepth 100000 in
theorem f_pace (l : Launch) (dC : Nat → ClassId) (dI : Nat → Nat → Nat) (sz : Nat) (h0 : Nat) (fs : List Value) (x y : Int32)  (hlen_h0 : fs.length = 17) : mFi l yX5_pace cX5_pace 3 1 0 0 (dC, dI) [(h0, .inr (5, fs))] sz [] (fun _ => True) [.ref h0, .int x, .int y] (fun r => r = if (x = 0 ∨ (10 ≤ x ∧ x ≤ 100)) ∧ (1 ≤ y ∧ y ≤ 200) then 1 else (-1)) := by
  refine Met.ofW (cc := cX5_pace) (maxL := 3) (ret := some .int) (by decide) rfl ?_
  intro p e s m args below meth c s₁ B hml hv
  obtain ⟨rfl, hsz, hP, hK, hD0, hex⟩ := hv
  subst hsz
  have hx := B.exec
  have hb := B.bytes
  have hr := B.returns
  have hlocks := B.notSynchronized
  have hts0 := atoms_spec (ws := Cond.code yX5_pace cX5_pace 3 (some .int) :: lw_B) B.pre
  have hts : ∀ w ∈ lw_B, w.before _ s = true := fun w h => hts0 w (List.mem_cons_of_mem _ h)
  have hown : s.vm.findClass RX5 = some m.cls := findClass_of_methodNamed B.named
  have hD := hD0.self (sz := s.heap.size)
  generalize hAe : va_A [(h0, .inr (5, fs))] s.heap.size = A at hD ⊢
  have hA : ∀ q : Nat, s.heap.size ≤ q → A q := fun q h => by rw [← hAe]; exact Or.inr h
  have hS : va_S A s.heap s.heap [] := va_S.rf
  have hl := lv_entry ([.ref h0, .int x, .int y]) (n := 3) (Nat.le_of_ble_eq_true rfl)
  rw [lg_entry_eq]
  generalize (lg_sl ([.ref h0, .int x, .int y]) ++ List.replicate (3 - (lg_sl ([.ref h0, .int x, .int y])).length) Slot.unset).toArray = ls at hl ⊢
  have hl : lv_has ls 3 [(0, .ref h0), (1, .int x), (2, .int y)] := hl
  refine lv_iload_n hx hb dX5_pace_0 rfl (lv_at hl 1 rfl) ?_
  refine lv_if_eq (tgt := 17) hx hb dX5_pace_1 (by decide) (fun c_1 => ?_) (fun c_1 => ?_)
  · skip
    refine lv_iload_n hx hb dX5_pace_17 rfl (lv_at hl 2 rfl) ?_
    refine lv_iconst (v := 1) hx hb dX5_pace_18 (by decide) ?_
    refine lv_sipush (v := 200) hx hb dX5_pace_19 (by decide) ?_
    refine k_S ⟨hx, hb, hml, hown, hts⟩ (c_isWithin l y 1 200) 3 wm_0 wm_1 wm_2 wm_3 (by decide +kernel) ⟨Nat.le_of_ble_eq_true rfl, Nat.le_of_ble_eq_true rfl⟩ rfl hl.1 rfl (Nat.le_of_ble_eq_true rfl) dX5_pace_22 ⟨Nat.le_of_ble_eq_true rfl, Nat.le_of_ble_eq_true rfl⟩ hS hP (fun r_2 H locs hpr_2 hP hS => ?_)
    refine lv_if_ne (tgt := 30) hx hb dX5_pace_25 (by decide) (fun c_3 => ?_) (fun c_3 => ?_)
    · skip
      have g_3 := k_ft hpr_2 c_3
      refine lv_aload_n hx hb dX5_pace_30 rfl (lv_at hl 0 rfl) ?_
      refine lv_iload_n hx hb dX5_pace_31 rfl (lv_at hl 1 rfl) ?_
      refine va_put (D := (dC, dI)) (ci := 5) (v := .int x) (ty := .int) (C := RX5) (T := TX5) (N := 17) hx hb hts uB5 tyX5 tyX5_ok nmX5 hown hK hP hD hS 0 rfl rfl 14 (by decide) (hts _ wm_50) (fun _ h9 => h9) rfl (by decide +kernel) rfl rfl (by rw [hlen_h0]; decide) dX5_pace_32 (fun H locs hP hD hS => ?_)
      obtain ⟨fs_4, efs_4⟩ : ∃ z9, z9 = (fs).set 14 (.int x) := ⟨_, rfl⟩
      have hP : va_P (dC, dI) vwCl [(h0, .inr (5, fs_4))] H := by rw [efs_4]; exact hP
      have hD : va_D A [(h0, .inr (5, fs_4))] := by rw [efs_4]; exact hD
      have hf14_h0 : fs_4[14]? = some (.int x) := by rw [efs_4]; exact List.getElem?_set_self (by rw [hlen_h0]; decide)
      have hlen_h0 : fs_4.length = 17 := by rw [efs_4, List.length_set]; exact hlen_h0
      refine lv_aload_n hx hb dX5_pace_35 rfl (lv_at hl 0 rfl) ?_
      refine lv_iload_n hx hb dX5_pace_36 rfl (lv_at hl 2 rfl) ?_
      refine va_put (D := (dC, dI)) (ci := 5) (v := .int y) (ty := .int) (C := RX5) (T := TX5) (N := 17) hx hb hts uB5 tyX5 tyX5_ok nmX5 hown hK hP hD hS 0 rfl rfl 15 (by decide) (hts _ wm_51) (fun _ h9 => h9) rfl (by decide +kernel) rfl rfl (by rw [hlen_h0]; decide) dX5_pace_37 (fun H locs hP hD hS => ?_)
      obtain ⟨fs_5, efs_5⟩ : ∃ z9, z9 = (fs_4).set 15 (.int y) := ⟨_, rfl⟩
      have hP : va_P (dC, dI) vwCl [(h0, .inr (5, fs_5))] H := by rw [efs_5]; exact hP
      have hD : va_D A [(h0, .inr (5, fs_5))] := by rw [efs_5]; exact hD
      have hf14_h0 : fs_5[14]? = some (.int x) := by rw [efs_5, List.getElem?_set_ne (by decide)]; exact hf14_h0
      have hf15_h0 : fs_5[15]? = some (.int y) := by rw [efs_5]; exact List.getElem?_set_self (by rw [hlen_h0]; decide)
      have hlen_h0 : fs_5.length = 17 := by rw [efs_5, List.length_set]; exact hlen_h0
      refine lv_iconst (v := 1) hx hb dX5_pace_40 (by decide) ?_
      exact W.iret (v := 1) hx hb hr (fun t ht hW => ⟨⟨1, (), rfl, (by simp only [Int32.lt_iff_toInt_lt, Int32.le_iff_toInt_le, ← Int32.toInt_inj, Int32.reduceToInt] at c_1 g_3; exact (if_pos (by simp only [Int32.lt_iff_toInt_lt, Int32.le_iff_toInt_le, ← Int32.toInt_inj, Int32.reduceToInt]; omega)).symm), trivial⟩, hS.F ht⟩) hS.2.2 dX5_pace_41
    · skip
      have g_3 := k_ff hpr_2 c_3
      refine lv_iconst (v := (-1)) hx hb dX5_pace_28 (by decide) ?_
      exact W.iret (v := (-1)) hx hb hr (fun t ht hW => ⟨⟨(-1), (), rfl, (by simp only [Int32.lt_iff_toInt_lt, Int32.le_iff_toInt_le, ← Int32.toInt_inj, Int32.reduceToInt] at c_1 g_3; exact (if_neg (by simp only [Int32.lt_iff_toInt_lt, Int32.le_iff_toInt_le, ← Int32.toInt_inj, Int32.reduceToInt]; omega)).symm), trivial⟩, hS.F ht⟩) hS.2.2 dX5_pace_29
  · skip
    refine lv_iload_n hx hb dX5_pace_4 rfl (lv_at hl 1 rfl) ?_
    refine lv_bipush (v := 10) hx hb dX5_pace_5 (by decide) ?_
    refine lv_bipush (v := 100) hx hb dX5_pace_7 (by decide) ?_
    refine k_S ⟨hx, hb, hml, hown, hts⟩ (c_isWithin l x 10 100) 3 wm_0 wm_1 wm_2 wm_3 (by decide +kernel) ⟨Nat.le_of_ble_eq_true rfl, Nat.le_of_ble_eq_true rfl⟩ rfl hl.1 rfl (Nat.le_of_ble_eq_true rfl) dX5_pace_9 ⟨Nat.le_of_ble_eq_true rfl, Nat.le_of_ble_eq_true rfl⟩ hS hP (fun r_6 H locs hpr_6 hP hS => ?_)
    refine lv_if_ne (tgt := 17) hx hb dX5_pace_12 (by decide) (fun c_7 => ?_) (fun c_7 => ?_)
    · skip
      have g_7 := k_ft hpr_6 c_7
      refine lv_iload_n hx hb dX5_pace_17 rfl (lv_at hl 2 rfl) ?_
      refine lv_iconst (v := 1) hx hb dX5_pace_18 (by decide) ?_
      refine lv_sipush (v := 200) hx hb dX5_pace_19 (by decide) ?_
      refine k_S ⟨hx, hb, hml, hown, hts⟩ (c_isWithin l y 1 200) 3 wm_0 wm_1 wm_2 wm_3 (by decide +kernel) ⟨Nat.le_of_ble_eq_true rfl, Nat.le_of_ble_eq_true rfl⟩ rfl hl.1 rfl (Nat.le_of_ble_eq_true rfl) dX5_pace_22 ⟨Nat.le_of_ble_eq_true rfl, Nat.le_of_ble_eq_true rfl⟩ hS hP (fun r_8 H locs hpr_8 hP hS => ?_)
      refine lv_if_ne (tgt := 30) hx hb dX5_pace_25 (by decide) (fun c_9 => ?_) (fun c_9 => ?_)
      · skip
        have g_9 := k_ft hpr_8 c_9
        refine lv_aload_n hx hb dX5_pace_30 rfl (lv_at hl 0 rfl) ?_
        refine lv_iload_n hx hb dX5_pace_31 rfl (lv_at hl 1 rfl) ?_
        refine va_put (D := (dC, dI)) (ci := 5) (v := .int x) (ty := .int) (C := RX5) (T := TX5) (N := 17) hx hb hts uB5 tyX5 tyX5_ok nmX5 hown hK hP hD hS 0 rfl rfl 14 (by decide) (hts _ wm_50) (fun _ h9 => h9) rfl (by decide +kernel) rfl rfl (by rw [hlen_h0]; decide) dX5_pace_32 (fun H locs hP hD hS => ?_)
        obtain ⟨fs_10, efs_10⟩ : ∃ z9, z9 = (fs).set 14 (.int x) := ⟨_, rfl⟩
        have hP : va_P (dC, dI) vwCl [(h0, .inr (5, fs_10))] H := by rw [efs_10]; exact hP
        have hD : va_D A [(h0, .inr (5, fs_10))] := by rw [efs_10]; exact hD
        have hf14_h0 : fs_10[14]? = some (.int x) := by rw [efs_10]; exact List.getElem?_set_self (by rw [hlen_h0]; decide)
        have hlen_h0 : fs_10.length = 17 := by rw [efs_10, List.length_set]; exact hlen_h0
        refine lv_aload_n hx hb dX5_pace_35 rfl (lv_at hl 0 rfl) ?_
        refine lv_iload_n hx hb dX5_pace_36 rfl (lv_at hl 2 rfl) ?_
        refine va_put (D := (dC, dI)) (ci := 5) (v := .int y) (ty := .int) (C := RX5) (T := TX5) (N := 17) hx hb hts uB5 tyX5 tyX5_ok nmX5 hown hK hP hD hS 0 rfl rfl 15 (by decide) (hts _ wm_51) (fun _ h9 => h9) rfl (by decide +kernel) rfl rfl (by rw [hlen_h0]; decide) dX5_pace_37 (fun H locs hP hD hS => ?_)
        obtain ⟨fs_11, efs_11⟩ : ∃ z9, z9 = (fs_10).set 15 (.int y) := ⟨_, rfl⟩
        have hP : va_P (dC, dI) vwCl [(h0, .inr (5, fs_11))] H := by rw [efs_11]; exact hP
        have hD : va_D A [(h0, .inr (5, fs_11))] := by rw [efs_11]; exact hD
        have hf14_h0 : fs_11[14]? = some (.int x) := by rw [efs_11, List.getElem?_set_ne (by decide)]; exact hf14_h0
        have hf15_h0 : fs_11[15]? = some (.int y) := by rw [efs_11]; exact List.getElem?_set_self (by rw [hlen_h0]; decide)
        have hlen_h0 : fs_11.length = 17 := by rw [efs_11, List.length_set]; exact hlen_h0
        refine lv_iconst (v := 1) hx hb dX5_pace_40 (by decide) ?_
        exact W.iret (v := 1) hx hb hr (fun t ht hW => ⟨⟨1, (), rfl, (by simp only [Int32.lt_iff_toInt_lt, Int32.le_iff_toInt_le, ← Int32.toInt_inj, Int32.reduceToInt] at c_1 g_7 g_9; exact (if_pos (by simp only [Int32.lt_iff_toInt_lt, Int32.le_iff_toInt_le, ← Int32.toInt_inj, Int32.reduceToInt]; omega)).symm), trivial⟩, hS.F ht⟩) hS.2.2 dX5_pace_41
      · skip
        have g_9 := k_ff hpr_8 c_9
        refine lv_iconst (v := (-1)) hx hb dX5_pace_28 (by decide) ?_
        exact W.iret (v := (-1)) hx hb hr (fun t ht hW => ⟨⟨(-1), (), rfl, (by simp only [Int32.lt_iff_toInt_lt, Int32.le_iff_toInt_le, ← Int32.toInt_inj, Int32.reduceToInt] at c_1 g_7 g_9; exact (if_neg (by simp only [Int32.lt_iff_toInt_lt, Int32.le_iff_toInt_le, ← Int32.toInt_inj, Int32.reduceToInt]; omega)).symm), trivial⟩, hS.F ht⟩) hS.2.2 dX5_pace_29
    · skip
      have g_7 := k_ff hpr_6 c_7
      refine lv_iconst (v := (-1)) hx hb dX5_pace_15 (by decide) ?_
      exact W.iret (v := (-1)) hx hb hr (fun t ht hW => ⟨⟨(-1), (), rfl, (by simp only [Int32.lt_iff_toInt_lt, Int32.le_iff_toInt_le, ← Int32.toInt_inj, Int32.reduceToInt] at c_1 g_7; exact (if_neg (by simp only [Int32.lt_iff_toInt_lt, Int32.le_iff_toInt_le, ← Int32.toInt_inj, Int32.reduceToInt]; omega)).symm), trivial⟩, hS.F ht⟩) hS.2.2 dX5_pace_16
set_option maxHeartbeats 4000000 in
set_option maxRecDepth 100000 in
theorem f_mpace (l : Launch) (dC : Nat → ClassId) (dI : Nat → Nat → Nat) (sz : Nat) (h0 : Nat) (fs : List Value) (x y : Int32)  (hlen_h0 : fs.length = 51) : mFi l yX6_pace cX6_pace 3 1 0 0 (dC, dI) [(h0, .inr (6, fs))] sz [] (fun _ => True) [.ref h0, .int x, .int y] (fun r => r = if (x = 0 ∨ (10 ≤ x ∧ x ≤ 100)) ∧ (1 ≤ y ∧ y ≤ 200) then 1 else (-1)) := by
  refine Met.ofW (cc := cX6_pace) (maxL := 3) (ret := some .int) (by decide) rfl ?_
  intro p e s m args below meth c s₁ B hml hv
  obtain ⟨rfl, hsz, hP, hK, hD0, hex⟩ := hv
  subst hsz
  have hx := B.exec
  have hb := B.bytes
  have hr := B.returns
  have hlocks := B.notSynchronized
  have hts0 := atoms_spec (ws := Cond.code yX6_pace cX6_pace 3 (some .int) :: lw_B) B.pre
  have hts : ∀ w ∈ lw_B, w.before _ s = true := fun w h => hts0 w (List.mem_cons_of_mem _ h)
  have hown : s.vm.findClass RX6 = some m.cls := findClass_of_methodNamed B.named
  have hD := hD0.self (sz := s.heap.size)
  generalize hAe : va_A [(h0, .inr (6, fs))] s.heap.size = A at hD ⊢
  have hA : ∀ q : Nat, s.heap.size ≤ q → A q := fun q h => by rw [← hAe]; exact Or.inr h
  have hS : va_S A s.heap s.heap [] := va_S.rf
  have hl := lv_entry ([.ref h0, .int x, .int y]) (n := 3) (Nat.le_of_ble_eq_true rfl)
  rw [lg_entry_eq]
  generalize (lg_sl ([.ref h0, .int x, .int y]) ++ List.replicate (3 - (lg_sl ([.ref h0, .int x, .int y])).length) Slot.unset).toArray = ls at hl ⊢
  have hl : lv_has ls 3 [(0, .ref h0), (1, .int x), (2, .int y)] := hl
  refine lv_iload_n hx hb dX6_pace_0 rfl (lv_at hl 1 rfl) ?_
  refine lv_if_eq (tgt := 15) hx hb dX6_pace_1 (by decide) (fun c_1 => ?_) (fun c_1 => ?_)
  · skip
    refine lv_iload_n hx hb dX6_pace_15 rfl (lv_at hl 2 rfl) ?_
    refine lv_iconst (v := 1) hx hb dX6_pace_16 (by decide) ?_
    refine lv_sipush (v := 200) hx hb dX6_pace_17 (by decide) ?_
    refine k_S ⟨hx, hb, hml, hown, hts⟩ (c_in l y 1 200) 3 wm_4 wm_5 wm_6 wm_7 (by decide +kernel) ⟨Nat.le_of_ble_eq_true rfl, Nat.le_of_ble_eq_true rfl⟩ rfl hl.1 rfl (Nat.le_of_ble_eq_true rfl) dX6_pace_20 ⟨Nat.le_of_ble_eq_true rfl, Nat.le_of_ble_eq_true rfl⟩ hS hP (fun r_2 H locs hpr_2 hP hS => ?_)
    refine lv_if_ne (tgt := 28) hx hb dX6_pace_23 (by decide) (fun c_3 => ?_) (fun c_3 => ?_)
    · skip
      have g_3 := k_ft hpr_2 c_3
      refine lv_aload_n hx hb dX6_pace_28 rfl (lv_at hl 0 rfl) ?_
      refine lv_iload_n hx hb dX6_pace_29 rfl (lv_at hl 1 rfl) ?_
      refine va_put (D := (dC, dI)) (ci := 6) (v := .int x) (ty := .int) (C := RX6) (T := TX6) (N := 51) hx hb hts uB6 tyX6 tyX6_ok nmX6 hown hK hP hD hS 0 rfl rfl 3 (by decide) (hts _ wm_52) (fun _ h9 => h9) rfl (by decide +kernel) rfl rfl (by rw [hlen_h0]; decide) dX6_pace_30 (fun H locs hP hD hS => ?_)
      obtain ⟨fs_4, efs_4⟩ : ∃ z9, z9 = (fs).set 3 (.int x) := ⟨_, rfl⟩
      have hP : va_P (dC, dI) vwCl [(h0, .inr (6, fs_4))] H := by rw [efs_4]; exact hP
      have hD : va_D A [(h0, .inr (6, fs_4))] := by rw [efs_4]; exact hD
      have hf3_h0 : fs_4[3]? = some (.int x) := by rw [efs_4]; exact List.getElem?_set_self (by rw [hlen_h0]; decide)
      have hlen_h0 : fs_4.length = 51 := by rw [efs_4, List.length_set]; exact hlen_h0
      refine lv_aload_n hx hb dX6_pace_33 rfl (lv_at hl 0 rfl) ?_
      refine lv_iload_n hx hb dX6_pace_34 rfl (lv_at hl 2 rfl) ?_
      refine va_put (D := (dC, dI)) (ci := 6) (v := .int y) (ty := .int) (C := RX6) (T := TX6) (N := 51) hx hb hts uB6 tyX6 tyX6_ok nmX6 hown hK hP hD hS 0 rfl rfl 4 (by decide) (hts _ wm_53) (fun _ h9 => h9) rfl (by decide +kernel) rfl rfl (by rw [hlen_h0]; decide) dX6_pace_35 (fun H locs hP hD hS => ?_)
      obtain ⟨fs_5, efs_5⟩ : ∃ z9, z9 = (fs_4).set 4 (.int y) := ⟨_, rfl⟩
      have hP : va_P (dC, dI) vwCl [(h0, .inr (6, fs_5))] H := by rw [efs_5]; exact hP
      have hD : va_D A [(h0, .inr (6, fs_5))] := by rw [efs_5]; exact hD
      have hf3_h0 : fs_5[3]? = some (.int x) := by rw [efs_5, List.getElem?_set_ne (by decide)]; exact hf3_h0
      have hf4_h0 : fs_5[4]? = some (.int y) := by rw [efs_5]; exact List.getElem?_set_self (by rw [hlen_h0]; decide)
      have hlen_h0 : fs_5.length = 51 := by rw [efs_5, List.length_set]; exact hlen_h0
      refine lv_iconst (v := 1) hx hb dX6_pace_38 (by decide) ?_
      exact W.iret (v := 1) hx hb hr (fun t ht hW => ⟨⟨1, (), rfl, (by simp only [Int32.lt_iff_toInt_lt, Int32.le_iff_toInt_le, ← Int32.toInt_inj, Int32.reduceToInt] at c_1 g_3; exact (if_pos (by simp only [Int32.lt_iff_toInt_lt, Int32.le_iff_toInt_le, ← Int32.toInt_inj, Int32.reduceToInt]; omega)).symm), trivial⟩, hS.F ht⟩) hS.2.2 dX6_pace_39
    · skip
      have g_3 := k_ff hpr_2 c_3
      refine lv_iconst (v := (-1)) hx hb dX6_pace_26 (by decide) ?_
      exact W.iret (v := (-1)) hx hb hr (fun t ht hW => ⟨⟨(-1), (), rfl, (by simp only [Int32.lt_iff_toInt_lt, Int32.le_iff_toInt_le, ← Int32.toInt_inj, Int32.reduceToInt] at c_1 g_3; exact (if_neg (by simp only [Int32.lt_iff_toInt_lt, Int32.le_iff_toInt_le, ← Int32.toInt_inj, Int32.reduceToInt]; omega)).symm), trivial⟩, hS.F ht⟩) hS.2.2 dX6_pace_27
  · skip
    refine lv_iload_n hx hb dX6_pace_4 rfl (lv_at hl 1 rfl) ?_
    refine lv_bipush (v := 10) hx hb dX6_pace_5 (by decide) ?_
    refine lv_bipush (v := 100) hx hb dX6_pace_7 (by decide) ?_
    refine k_S ⟨hx, hb, hml, hown, hts⟩ (c_in l x 10 100) 3 wm_4 wm_5 wm_6 wm_7 (by decide +kernel) ⟨Nat.le_of_ble_eq_true rfl, Nat.le_of_ble_eq_true rfl⟩ rfl hl.1 rfl (Nat.le_of_ble_eq_true rfl) dX6_pace_9 ⟨Nat.le_of_ble_eq_true rfl, Nat.le_of_ble_eq_true rfl⟩ hS hP (fun r_6 H locs hpr_6 hP hS => ?_)
    refine lv_if_eq (tgt := 26) hx hb dX6_pace_12 (by decide) (fun c_7 => ?_) (fun c_7 => ?_)
    · skip
      have g_7 := k_ff hpr_6 c_7
      refine lv_iconst (v := (-1)) hx hb dX6_pace_26 (by decide) ?_
      exact W.iret (v := (-1)) hx hb hr (fun t ht hW => ⟨⟨(-1), (), rfl, (by simp only [Int32.lt_iff_toInt_lt, Int32.le_iff_toInt_le, ← Int32.toInt_inj, Int32.reduceToInt] at c_1 g_7; exact (if_neg (by simp only [Int32.lt_iff_toInt_lt, Int32.le_iff_toInt_le, ← Int32.toInt_inj, Int32.reduceToInt]; omega)).symm), trivial⟩, hS.F ht⟩) hS.2.2 dX6_pace_27
    · skip
      have g_7 := k_ft hpr_6 c_7
      refine lv_iload_n hx hb dX6_pace_15 rfl (lv_at hl 2 rfl) ?_
      refine lv_iconst (v := 1) hx hb dX6_pace_16 (by decide) ?_
      refine lv_sipush (v := 200) hx hb dX6_pace_17 (by decide) ?_
      refine k_S ⟨hx, hb, hml, hown, hts⟩ (c_in l y 1 200) 3 wm_4 wm_5 wm_6 wm_7 (by decide +kernel) ⟨Nat.le_of_ble_eq_true rfl, Nat.le_of_ble_eq_true rfl⟩ rfl hl.1 rfl (Nat.le_of_ble_eq_true rfl) dX6_pace_20 ⟨Nat.le_of_ble_eq_true rfl, Nat.le_of_ble_eq_true rfl⟩ hS hP (fun r_8 H locs hpr_8 hP hS => ?_)
      refine lv_if_ne (tgt := 28) hx hb dX6_pace_23 (by decide) (fun c_9 => ?_) (fun c_9 => ?_)
      · skip
        have g_9 := k_ft hpr_8 c_9
        refine lv_aload_n hx hb dX6_pace_28 rfl (lv_at hl 0 rfl) ?_
        refine lv_iload_n hx hb dX6_pace_29 rfl (lv_at hl 1 rfl) ?_
        refine va_put (D := (dC, dI)) (ci := 6) (v := .int x) (ty := .int) (C := RX6) (T := TX6) (N := 51) hx hb hts uB6 tyX6 tyX6_ok nmX6 hown hK hP hD hS 0 rfl rfl 3 (by decide) (hts _ wm_52) (fun _ h9 => h9) rfl (by decide +kernel) rfl rfl (by rw [hlen_h0]; decide) dX6_pace_30 (fun H locs hP hD hS => ?_)
        obtain ⟨fs_10, efs_10⟩ : ∃ z9, z9 = (fs).set 3 (.int x) := ⟨_, rfl⟩
        have hP : va_P (dC, dI) vwCl [(h0, .inr (6, fs_10))] H := by rw [efs_10]; exact hP
        have hD : va_D A [(h0, .inr (6, fs_10))] := by rw [efs_10]; exact hD
        have hf3_h0 : fs_10[3]? = some (.int x) := by rw [efs_10]; exact List.getElem?_set_self (by rw [hlen_h0]; decide)
        have hlen_h0 : fs_10.length = 51 := by rw [efs_10, List.length_set]; exact hlen_h0
        refine lv_aload_n hx hb dX6_pace_33 rfl (lv_at hl 0 rfl) ?_
        refine lv_iload_n hx hb dX6_pace_34 rfl (lv_at hl 2 rfl) ?_
        refine va_put (D := (dC, dI)) (ci := 6) (v := .int y) (ty := .int) (C := RX6) (T := TX6) (N := 51) hx hb hts uB6 tyX6 tyX6_ok nmX6 hown hK hP hD hS 0 rfl rfl 4 (by decide) (hts _ wm_53) (fun _ h9 => h9) rfl (by decide +kernel) rfl rfl (by rw [hlen_h0]; decide) dX6_pace_35 (fun H locs hP hD hS => ?_)
        obtain ⟨fs_11, efs_11⟩ : ∃ z9, z9 = (fs_10).set 4 (.int y) := ⟨_, rfl⟩
        have hP : va_P (dC, dI) vwCl [(h0, .inr (6, fs_11))] H := by rw [efs_11]; exact hP
        have hD : va_D A [(h0, .inr (6, fs_11))] := by rw [efs_11]; exact hD
        have hf3_h0 : fs_11[3]? = some (.int x) := by rw [efs_11, List.getElem?_set_ne (by decide)]; exact hf3_h0
        have hf4_h0 : fs_11[4]? = some (.int y) := by rw [efs_11]; exact List.getElem?_set_self (by rw [hlen_h0]; decide)
        have hlen_h0 : fs_11.length = 51 := by rw [efs_11, List.length_set]; exact hlen_h0
        refine lv_iconst (v := 1) hx hb dX6_pace_38 (by decide) ?_
        exact W.iret (v := 1) hx hb hr (fun t ht hW => ⟨⟨1, (), rfl, (by simp only [Int32.lt_iff_toInt_lt, Int32.le_iff_toInt_le, ← Int32.toInt_inj, Int32.reduceToInt] at c_1 g_7 g_9; exact (if_pos (by simp only [Int32.lt_iff_toInt_lt, Int32.le_iff_toInt_le, ← Int32.toInt_inj, Int32.reduceToInt]; omega)).symm), trivial⟩, hS.F ht⟩) hS.2.2 dX6_pace_39
      · skip
        have g_9 := k_ff hpr_8 c_9
        refine lv_iconst (v := (-1)) hx hb dX6_pace_26 (by decide) ?_
        exact W.iret (v := (-1)) hx hb hr (fun t ht hW => ⟨⟨(-1), (), rfl, (by simp only [Int32.lt_iff_toInt_lt, Int32.le_iff_toInt_le, ← Int32.toInt_inj, Int32.reduceToInt] at c_1 g_7 g_9; exact (if_neg (by simp only [Int32.lt_iff_toInt_lt, Int32.le_iff_toInt_le, ← Int32.toInt_inj, Int32.reduceToInt]; omega)).symm), trivial⟩, hS.F ht⟩) hS.2.2 dX6_pace_27
