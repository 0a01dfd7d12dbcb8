set_option maxHeartbeats 4000000 in
set_option maxRecDepth 100000 in
theorem f_count (l : Launch) (dC : Nat → ClassId) (dI : Nat → Nat → Nat) (h0 : Nat) (fs : List Value) (x : Int32) (hf7 : fs[7]? = some (.int 0)) (hf8 : fs[8]? = some (.int 0)) (hf9 : fs[9]? = some (.int 0)) (hf12 : fs[12]? = some (.int 0)) (hf10 : fs[10]? = some (.int 0)) (hf11 : fs[11]? = some (.int 0)) : mV l yX5_count cX5_count 2 .int 0 (dC, dI) [(h0, .inr (5, fs))] [] [.ref h0, .int x] (fun r => r = if 0 ≤ x ∧ x ≤ 5 then 0 else (-1)) := by
  refine Met.ofW (cc := cX5_count) (maxL := 2) (ret := some .int) (by decide) rfl ?_
  intro p e s m args below meth c s₁ B hml hv
  obtain ⟨rfl, hP, hK⟩ := hv
  have hx := B.exec
  have hb := B.bytes
  have hr := B.returns
  have hlocks := B.notSynchronized
  have hts0 := atoms_spec (ws := Cond.code yX5_count cX5_count 2 (some .int) :: lw_B) B.pre
  have hts : ∀ w ∈ lw_B, w.before _ s = true := fun w h => hts0 w (List.mem_cons_of_mem _ h)
  have hown : s.vm.findClass RX5 = some m.cls := findClass_of_methodNamed B.named
  have hS : va_S (fun _ => False) s.heap s.heap [] := va_S.rf
  have hl := lv_entry ([.ref h0, .int x]) (n := 2) (Nat.le_of_ble_eq_true rfl)
  rw [lg_entry_eq]
  generalize (lg_sl ([.ref h0, .int x]) ++ List.replicate (2 - (lg_sl ([.ref h0, .int x])).length) Slot.unset).toArray = ls at hl ⊢
  have hl : lv_has ls 2 [(0, .ref h0), (1, .int x)] := hl
  refine lv_iload_n hx hb dX5_count_0 rfl (lv_at hl 1 rfl) ?_
  rcases k_sw5 x with h9 | rfl | rfl | rfl | rfl | rfl | rfl
  · skip
    refine lv_tableOut (tgt := 70) hx hb dX5_count_1 h9 (by decide) ?_
    refine lv_iconst (v := (-1)) hx hb dX5_count_70 (by decide) ?_
    exact W.iret (v := (-1)) hx hb hr (fun t ht hW => ⟨⟨(-1), (), rfl, (if_neg (by simp only [Int32.lt_iff_toInt_lt, Int32.le_iff_toInt_le, ← Int32.toInt_inj, Int32.reduceToInt]; omega)).symm, trivial⟩, hS.F ht⟩) hS.2.2 dX5_count_71
  · skip
    refine lv_tableIn (off := 39) (tgt := 40) hx hb dX5_count_1 (by decide) (by decide) rfl (by decide) ?_
    refine lv_aload_n hx hb dX5_count_40 rfl (lv_at hl 0 rfl) ?_
    refine va_get (D := (dC, dI)) (ci := 5) (v := .int 0) (C := RX5) (T := TX5) (N := 17) hx hb hts uB5 hown hK hP 0 rfl rfl 7 (by decide) (hts _ wm_8) (fun _ h9 => h9) hf7 dX5_count_41 ?_
    exact W.iret (v := 0) hx hb hr (fun t ht hW => ⟨⟨0, (), rfl, (by decide), trivial⟩, hS.F ht⟩) hS.2.2 dX5_count_44
  · skip
    refine lv_tableIn (off := 44) (tgt := 45) hx hb dX5_count_1 (by decide) (by decide) rfl (by decide) ?_
    refine lv_aload_n hx hb dX5_count_45 rfl (lv_at hl 0 rfl) ?_
    refine va_get (D := (dC, dI)) (ci := 5) (v := .int 0) (C := RX5) (T := TX5) (N := 17) hx hb hts uB5 hown hK hP 0 rfl rfl 8 (by decide) (hts _ wm_9) (fun _ h9 => h9) hf8 dX5_count_46 ?_
    exact W.iret (v := 0) hx hb hr (fun t ht hW => ⟨⟨0, (), rfl, (by decide), trivial⟩, hS.F ht⟩) hS.2.2 dX5_count_49
  · skip
    refine lv_tableIn (off := 49) (tgt := 50) hx hb dX5_count_1 (by decide) (by decide) rfl (by decide) ?_
    refine lv_aload_n hx hb dX5_count_50 rfl (lv_at hl 0 rfl) ?_
    refine va_get (D := (dC, dI)) (ci := 5) (v := .int 0) (C := RX5) (T := TX5) (N := 17) hx hb hts uB5 hown hK hP 0 rfl rfl 9 (by decide) (hts _ wm_10) (fun _ h9 => h9) hf9 dX5_count_51 ?_
    exact W.iret (v := 0) hx hb hr (fun t ht hW => ⟨⟨0, (), rfl, (by decide), trivial⟩, hS.F ht⟩) hS.2.2 dX5_count_54
  · skip
    refine lv_tableIn (off := 54) (tgt := 55) hx hb dX5_count_1 (by decide) (by decide) rfl (by decide) ?_
    refine lv_aload_n hx hb dX5_count_55 rfl (lv_at hl 0 rfl) ?_
    refine va_get (D := (dC, dI)) (ci := 5) (v := .int 0) (C := RX5) (T := TX5) (N := 17) hx hb hts uB5 hown hK hP 0 rfl rfl 12 (by decide) (hts _ wm_54) (fun _ h9 => h9) hf12 dX5_count_56 ?_
    exact W.iret (v := 0) hx hb hr (fun t ht hW => ⟨⟨0, (), rfl, (by decide), trivial⟩, hS.F ht⟩) hS.2.2 dX5_count_59
  · skip
    refine lv_tableIn (off := 59) (tgt := 60) hx hb dX5_count_1 (by decide) (by decide) rfl (by decide) ?_
    refine lv_aload_n hx hb dX5_count_60 rfl (lv_at hl 0 rfl) ?_
    refine va_get (D := (dC, dI)) (ci := 5) (v := .int 0) (C := RX5) (T := TX5) (N := 17) hx hb hts uB5 hown hK hP 0 rfl rfl 10 (by decide) (hts _ wm_55) (fun _ h9 => h9) hf10 dX5_count_61 ?_
    exact W.iret (v := 0) hx hb hr (fun t ht hW => ⟨⟨0, (), rfl, (by decide), trivial⟩, hS.F ht⟩) hS.2.2 dX5_count_64
  · skip
    refine lv_tableIn (off := 64) (tgt := 65) hx hb dX5_count_1 (by decide) (by decide) rfl (by decide) ?_
    refine lv_aload_n hx hb dX5_count_65 rfl (lv_at hl 0 rfl) ?_
    refine va_get (D := (dC, dI)) (ci := 5) (v := .int 0) (C := RX5) (T := TX5) (N := 17) hx hb hts uB5 hown hK hP 0 rfl rfl 11 (by decide) (hts _ wm_56) (fun _ h9 => h9) hf11 dX5_count_66 ?_
    exact W.iret (v := 0) hx hb hr (fun t ht hW => ⟨⟨0, (), rfl, (by decide), trivial⟩, hS.F ht⟩) hS.2.2 dX5_count_69
set_option maxHeartbeats 4000000 in
set_option maxRecDepth 100000 in
theorem f_mcount (l : Launch) (dC : Nat → ClassId) (dI : Nat → Nat → Nat) (h0 : Nat) (fs : List Value) (x : Int32) (hf5 : fs[5]? = some (.int 0)) (hf9 : fs[9]? = some (.int 0)) (hf25 : fs[25]? = some (.int 0)) (hf1 : fs[1]? = some (.int 0)) : mV l yX6_count cX6_count 4 .int 0 (dC, dI) [(h0, .inr (6, fs))] [] [.ref h0, .int x] (fun r => r = if 0 ≤ x ∧ x ≤ 5 then 0 else (-1)) := by
  refine Met.ofW (cc := cX6_count) (maxL := 4) (ret := some .int) (by decide) rfl ?_
  intro p e s m args below meth c s₁ B hml hv
  obtain ⟨rfl, hP, hK⟩ := hv
  have hx := B.exec
  have hb := B.bytes
  have hr := B.returns
  have hlocks := B.notSynchronized
  have hts0 := atoms_spec (ws := Cond.code yX6_count cX6_count 4 (some .int) :: lw_B) B.pre
  have hts : ∀ w ∈ lw_B, w.before _ s = true := fun w h => hts0 w (List.mem_cons_of_mem _ h)
  have hown : s.vm.findClass RX6 = some m.cls := findClass_of_methodNamed B.named
  have hS : va_S (fun _ => False) s.heap s.heap [] := va_S.rf
  have hl := lv_entry ([.ref h0, .int x]) (n := 4) (Nat.le_of_ble_eq_true rfl)
  rw [lg_entry_eq]
  generalize (lg_sl ([.ref h0, .int x]) ++ List.replicate (4 - (lg_sl ([.ref h0, .int x])).length) Slot.unset).toArray = ls at hl ⊢
  have hl : lv_has ls 4 [(0, .ref h0), (1, .int x)] := hl
  refine lv_iconst (v := 0) hx hb dX6_count_0 (by decide) ?_
  refine lv_istore_n (lv' := [(2, .int 0), (0, .ref h0), (1, .int x)]) hx hb dX6_count_1 rfl hl (by decide) rfl (fun ls hl => ?_)
  refine lv_iload_n hx hb dX6_count_2 rfl (lv_at hl 2 rfl) ?_
  rcases k_sw5 x with h9 | rfl | rfl | rfl | rfl | rfl | rfl
  · skip
    refine lv_tableOut (tgt := 123) hx hb dX6_count_3 h9 (by decide) ?_
    refine lv_iconst (v := (-1)) hx hb dX6_count_123 (by decide) ?_
    exact W.iret (v := (-1)) hx hb hr (fun t ht hW => ⟨⟨(-1), (), rfl, (if_neg (by simp only [Int32.lt_iff_toInt_lt, Int32.le_iff_toInt_le, ← Int32.toInt_inj, Int32.reduceToInt]; omega)).symm, trivial⟩, hS.F ht⟩) hS.2.2 dX6_count_124
  · skip
    refine lv_tableIn (off := 37) (tgt := 40) hx hb dX6_count_3 (by decide) (by decide) rfl (by decide) ?_
    refine lv_aload_n hx hb dX6_count_40 rfl (lv_at hl 1 rfl) ?_
    refine va_get (D := (dC, dI)) (ci := 6) (v := .int 0) (C := RX6) (T := TX6) (N := 51) hx hb hts uB6 hown hK hP 0 rfl rfl 5 (by decide) (hts _ wm_11) (fun _ h9 => h9) hf5 dX6_count_41 ?_
    exact W.iret (v := 0) hx hb hr (fun t ht hW => ⟨⟨0, (), rfl, (by decide), trivial⟩, hS.F ht⟩) hS.2.2 dX6_count_44
  · skip
    refine lv_tableIn (off := 42) (tgt := 45) hx hb dX6_count_3 (by decide) (by decide) rfl (by decide) ?_
    refine lv_aload_n hx hb dX6_count_45 rfl (lv_at hl 1 rfl) ?_
    refine va_get (D := (dC, dI)) (ci := 6) (v := .int 0) (C := RX6) (T := TX6) (N := 51) hx hb hts uB6 hown hK hP 0 rfl rfl 9 (by decide) (hts _ wm_12) (fun _ h9 => h9) hf9 dX6_count_46 ?_
    exact W.iret (v := 0) hx hb hr (fun t ht hW => ⟨⟨0, (), rfl, (by decide), trivial⟩, hS.F ht⟩) hS.2.2 dX6_count_49
  · skip
    refine lv_tableIn (off := 47) (tgt := 50) hx hb dX6_count_3 (by decide) (by decide) rfl (by decide) ?_
    refine lv_aload_n hx hb dX6_count_50 rfl (lv_at hl 1 rfl) ?_
    refine va_get (D := (dC, dI)) (ci := 6) (v := .int 0) (C := RX6) (T := TX6) (N := 51) hx hb hts uB6 hown hK hP 0 rfl rfl 25 (by decide) (hts _ wm_13) (fun _ h9 => h9) hf25 dX6_count_51 ?_
    exact W.iret (v := 0) hx hb hr (fun t ht hW => ⟨⟨0, (), rfl, (by decide), trivial⟩, hS.F ht⟩) hS.2.2 dX6_count_54
  · skip
    refine lv_tableIn (off := 52) (tgt := 55) hx hb dX6_count_3 (by decide) (by decide) rfl (by decide) ?_
    refine lv_aload_n hx hb dX6_count_55 rfl (lv_at hl 1 rfl) ?_
    refine va_get (D := (dC, dI)) (ci := 6) (v := .int 0) (C := RX6) (T := TX6) (N := 51) hx hb hts uB6 hown hK hP 0 rfl rfl 1 (by decide) (hts _ wm_57) (fun _ h9 => h9) hf1 dX6_count_56 ?_
    exact W.iret (v := 0) hx hb hr (fun t ht hW => ⟨⟨0, (), rfl, (by decide), trivial⟩, hS.F ht⟩) hS.2.2 dX6_count_59
  · skip
    refine lv_tableIn (off := 57) (tgt := 60) hx hb dX6_count_3 (by decide) (by decide) rfl (by decide) ?_
    refine lv_iconst (v := 0) hx hb dX6_count_60 (by decide) ?_
    refine lv_istore_n (lv' := [(3, .int 0), (2, .int 0), (0, .ref h0), (1, .int 4)]) hx hb dX6_count_61 rfl hl (by decide) rfl (fun ls hl => ?_)
    refine lv_iload_n hx hb dX6_count_62 rfl (lv_at hl 0 rfl) ?_
    refine lv_aload_n hx hb dX6_count_63 rfl (lv_at hl 2 rfl) ?_
    refine va_get (D := (dC, dI)) (ci := 6) (v := .int 0) (C := RX6) (T := TX6) (N := 51) hx hb hts uB6 hown hK hP 0 rfl rfl 25 (by decide) (hts _ wm_13) (fun _ h9 => h9) hf25 dX6_count_64 ?_
    refine lv_icmp_ge (tgt := 94) hx hb dX6_count_67 (by decide) (fun _ => ?_) (fun h9 => absurd (by decide) h9)
    refine lv_iload_n hx hb dX6_count_94 rfl (lv_at hl 1 rfl) ?_
    exact W.iret (v := 0) hx hb hr (fun t ht hW => ⟨⟨0, (), rfl, (by decide), trivial⟩, hS.F ht⟩) hS.2.2 dX6_count_95
  · skip
    refine lv_tableIn (off := 93) (tgt := 96) hx hb dX6_count_3 (by decide) (by decide) rfl (by decide) ?_
    refine lv_iconst (v := 0) hx hb dX6_count_96 (by decide) ?_
    refine lv_istore_n (lv' := [(3, .int 0), (2, .int 0), (0, .ref h0), (1, .int 5)]) hx hb dX6_count_97 rfl hl (by decide) rfl (fun ls hl => ?_)
    refine lv_iload_n hx hb dX6_count_98 rfl (lv_at hl 0 rfl) ?_
    refine lv_aload_n hx hb dX6_count_99 rfl (lv_at hl 2 rfl) ?_
    refine va_get (D := (dC, dI)) (ci := 6) (v := .int 0) (C := RX6) (T := TX6) (N := 51) hx hb hts uB6 hown hK hP 0 rfl rfl 25 (by decide) (hts _ wm_13) (fun _ h9 => h9) hf25 dX6_count_100 ?_
    refine lv_icmp_ge (tgt := 121) hx hb dX6_count_103 (by decide) (fun _ => ?_) (fun h9 => absurd (by decide) h9)
    refine lv_iload_n hx hb dX6_count_121 rfl (lv_at hl 1 rfl) ?_
    exact W.iret (v := 0) hx hb hr (fun t ht hW => ⟨⟨0, (), rfl, (by decide), trivial⟩, hS.F ht⟩) hS.2.2 dX6_count_122
set_option maxHeartbeats 4000000 in
set_option maxRecDepth 100000 in
theorem v_closeDay (l : Launch) (dC : Nat → ClassId) (dI : Nat → Nat → Nat) (h0 : Nat) (fs : List Value) (hf8 : fs[8]? = some (.int 0)) : mVv l yX5_closeDay cX5_closeDay 2 0 (dC, dI) [(h0, .inr (5, fs))] [] [.ref h0] := by
  refine Met.ofW (cc := cX5_closeDay) (maxL := 2) (ret := none) (by decide) rfl ?_
  intro p e s m args below meth c s₁ B hml hv
  obtain ⟨rfl, hP, hK⟩ := hv
  have hx := B.exec
  have hb := B.bytes
  have hr := B.returns
  have hlocks := B.notSynchronized
  have hts0 := atoms_spec (ws := Cond.code yX5_closeDay cX5_closeDay 2 none :: lw_B) B.pre
  have hts : ∀ w ∈ lw_B, w.before _ s = true := fun w h => hts0 w (List.mem_cons_of_mem _ h)
  have hown : s.vm.findClass RX5 = some m.cls := findClass_of_methodNamed B.named
  have hS : va_S (fun _ => False) s.heap s.heap [] := va_S.rf
  have hl := lv_entry ([.ref h0]) (n := 2) (Nat.le_of_ble_eq_true rfl)
  rw [lg_entry_eq]
  generalize (lg_sl ([.ref h0]) ++ List.replicate (2 - (lg_sl ([.ref h0])).length) Slot.unset).toArray = ls at hl ⊢
  have hl : lv_has ls 2 [(0, .ref h0)] := hl
  refine lv_iconst (v := 0) hx hb dX5_closeDay_0 (by decide) ?_
  refine lv_istore_n (lv' := [(1, .int 0), (0, .ref h0)]) hx hb dX5_closeDay_1 rfl hl (by decide) rfl (fun ls hl => ?_)
  refine lv_iload_n hx hb dX5_closeDay_2 rfl (lv_at hl 0 rfl) ?_
  refine lv_aload_n hx hb dX5_closeDay_3 rfl (lv_at hl 1 rfl) ?_
  refine va_get (D := (dC, dI)) (ci := 5) (v := .int 0) (C := RX5) (T := TX5) (N := 17) hx hb hts uB5 hown hK hP 0 rfl rfl 8 (by decide) (hts _ wm_9) (fun _ h9 => h9) hf8 dX5_closeDay_4 ?_
  refine lv_icmp_ge (tgt := 29) hx hb dX5_closeDay_7 (by decide) (fun _ => ?_) (fun h9 => absurd (by decide) h9)
  exact W.vret hx hb hr (fun t ht hW => ⟨⟨(), rfl, trivial, trivial⟩, hS.F ht⟩) hS.2.2 dX5_closeDay_29
set_option maxHeartbeats 4000000 in
set_option maxRecDepth 100000 in
theorem v_closeTick (l : Launch) (dC : Nat → ClassId) (dI : Nat → Nat → Nat) (h0 : Nat) (fs : List Value) (hf8 : fs[8]? = some (.int 0)) (hf7 : fs[7]? = some (.int 0)) : mVv l yX5_closeTick cX5_closeTick 2 0 (dC, dI) [(h0, .inr (5, fs))] [] [.ref h0] := by
  refine Met.ofW (cc := cX5_closeTick) (maxL := 2) (ret := none) (by decide) rfl ?_
  intro p e s m args below meth c s₁ B hml hv
  obtain ⟨rfl, hP, hK⟩ := hv
  have hx := B.exec
  have hb := B.bytes
  have hr := B.returns
  have hlocks := B.notSynchronized
  have hts0 := atoms_spec (ws := Cond.code yX5_closeTick cX5_closeTick 2 none :: lw_B) B.pre
  have hts : ∀ w ∈ lw_B, w.before _ s = true := fun w h => hts0 w (List.mem_cons_of_mem _ h)
  have hown : s.vm.findClass RX5 = some m.cls := findClass_of_methodNamed B.named
  have hS : va_S (fun _ => False) s.heap s.heap [] := va_S.rf
  have hl := lv_entry ([.ref h0]) (n := 2) (Nat.le_of_ble_eq_true rfl)
  rw [lg_entry_eq]
  generalize (lg_sl ([.ref h0]) ++ List.replicate (2 - (lg_sl ([.ref h0])).length) Slot.unset).toArray = ls at hl ⊢
  have hl : lv_has ls 2 [(0, .ref h0)] := hl
  refine lv_iconst (v := 0) hx hb dX5_closeTick_0 (by decide) ?_
  refine lv_istore_n (lv' := [(1, .int 0), (0, .ref h0)]) hx hb dX5_closeTick_1 rfl hl (by decide) rfl (fun ls hl => ?_)
  refine lv_iload_n hx hb dX5_closeTick_2 rfl (lv_at hl 0 rfl) ?_
  refine lv_aload_n hx hb dX5_closeTick_3 rfl (lv_at hl 1 rfl) ?_
  refine va_get (D := (dC, dI)) (ci := 5) (v := .int 0) (C := RX5) (T := TX5) (N := 17) hx hb hts uB5 hown hK hP 0 rfl rfl 8 (by decide) (hts _ wm_9) (fun _ h9 => h9) hf8 dX5_closeTick_4 ?_
  refine lv_icmp_ge (tgt := 28) hx hb dX5_closeTick_7 (by decide) (fun _ => ?_) (fun h9 => absurd (by decide) h9)
  refine lv_iconst (v := 0) hx hb dX5_closeTick_28 (by decide) ?_
  refine lv_istore_n (lv' := [(1, .int 0), (0, .ref h0)]) hx hb dX5_closeTick_29 rfl hl (by decide) rfl (fun ls hl => ?_)
  refine lv_iload_n hx hb dX5_closeTick_30 rfl (lv_at hl 0 rfl) ?_
  refine lv_aload_n hx hb dX5_closeTick_31 rfl (lv_at hl 1 rfl) ?_
  refine va_get (D := (dC, dI)) (ci := 5) (v := .int 0) (C := RX5) (T := TX5) (N := 17) hx hb hts uB5 hown hK hP 0 rfl rfl 7 (by decide) (hts _ wm_8) (fun _ h9 => h9) hf7 dX5_closeTick_32 ?_
  refine lv_icmp_ge (tgt := 54) hx hb dX5_closeTick_35 (by decide) (fun _ => ?_) (fun h9 => absurd (by decide) h9)
  exact W.vret hx hb hr (fun t ht hW => ⟨⟨(), rfl, trivial, trivial⟩, hS.F ht⟩) hS.2.2 dX5_closeTick_54
set_option maxHeartbeats 4000000 in
set_option maxRecDepth 100000 in
theorem o_goOneTick (l : Launch) (dC : Nat → ClassId) (dI : Nat → Nat → Nat) (sz : Nat) (h0 : Nat) (fs : List Value) (j : Nat) (hf8 : fs[8]? = some (.int 0)) (hf14 : fs[14]? = some (.int 0)) (hf12 : fs[12]? = some (.int (nI j))) (hf16 : fs[16]? = some (.int 10000)) (hlen_h0 : fs.length = 17) (hj : j < 10000) : mOv l yX5_goOneTick cX5_goOneTick 1 1 0 0 (dC, dI) h0 5 fs sz [] (fun _ => True) [.ref h0] (fun fs1 => fs1 = fs.set 12 (.int (nI (j + 1)))) := by
  refine Met.ofW (cc := cX5_goOneTick) (maxL := 1) (ret := none) (by decide) rfl ?_
  intro p e s m args below meth c s₁ B hml hv
  obtain ⟨rfl, hsz, hP, hK, hex⟩ := hv
  subst hsz
  have hx := B.exec
  have hb := B.bytes
  have hr := B.returns
  have hlocks := B.notSynchronized
  have hts0 := atoms_spec (ws := Cond.code yX5_goOneTick cX5_goOneTick 1 none :: lw_B) B.pre
  have hts : ∀ w ∈ lw_B, w.before _ s = true := fun w h => hts0 w (List.mem_cons_of_mem _ h)
  have hown : s.vm.findClass RX5 = some m.cls := findClass_of_methodNamed B.named
  have hD : va_D (aO h0 s.heap.size) [(h0, .inr (5, fs))] := ⟨fun i j p q h1 h2 _ => by have a1 := (List.getElem?_eq_some_iff.mp h1).1; have a2 := (List.getElem?_eq_some_iff.mp h2).1; simp at a1 a2; omega, fun k q h => by have a1 := (List.getElem?_eq_some_iff.mp h).1; simp at a1; subst a1; cases h; exact Or.inl rfl⟩
  generalize hAe : aO h0 s.heap.size = A at hD ⊢
  have hA : ∀ q : Nat, s.heap.size ≤ q → A q := fun q h => by rw [← hAe]; exact Or.inr h
  have hS : va_S A s.heap s.heap [] := va_S.rf
  have hl := lv_entry ([.ref h0]) (n := 1) (Nat.le_of_ble_eq_true rfl)
  rw [lg_entry_eq]
  generalize (lg_sl ([.ref h0]) ++ List.replicate (1 - (lg_sl ([.ref h0])).length) Slot.unset).toArray = ls at hl ⊢
  have hl : lv_has ls 1 [(0, .ref h0)] := hl
  refine lv_aload_n hx hb dX5_goOneTick_0 rfl (lv_at hl 0 rfl) ?_
  refine lv_dup hx hb dX5_goOneTick_1 rfl ?_
  refine va_get (D := (dC, dI)) (ci := 5) (v := .int (nI j)) (C := RX5) (T := TX5) (N := 17) hx hb hts uB5 hown hK hP 0 rfl rfl 12 (by decide) (hts _ wm_54) (fun _ h9 => h9) hf12 dX5_goOneTick_2 ?_
  refine lv_iconst (v := 1) hx hb dX5_goOneTick_5 (by decide) ?_
  refine lv_iadd hx hb dX5_goOneTick_6 ?_
  refine lv_topi (fun x_1 ex_1 => ?_)
  obtain rfl : x_1 = nI (j + 1) := ex_1.trans (nI_1 j)
  refine va_put (D := (dC, dI)) (ci := 5) (v := .int (nI (j + 1))) (ty := .int) (C := RX5) (T := TX5) (N := 17) hx hb hts uB5 tyX5 tyX5_ok nmX5 hown hK hP hD hS 0 rfl rfl 12 (by decide) (hts _ wm_54) (fun _ h9 => h9) rfl (by decide +kernel) rfl rfl (by rw [hlen_h0]; decide) dX5_goOneTick_7 (fun H locs hP hD hS => ?_)
  obtain ⟨fs_2, efs_2⟩ : ∃ z9, z9 = (fs).set 12 (.int (nI (j + 1))) := ⟨_, rfl⟩
  have hP : va_P (dC, dI) vwCl [(h0, .inr (5, fs_2))] H := by rw [efs_2]; exact hP
  have hD : va_D A [(h0, .inr (5, fs_2))] := by rw [efs_2]; exact hD
  have hf8 : fs_2[8]? = some (.int 0) := by rw [efs_2, List.getElem?_set_ne (by decide)]; exact hf8
  have hf14 : fs_2[14]? = some (.int 0) := by rw [efs_2, List.getElem?_set_ne (by decide)]; exact hf14
  have hf16 : fs_2[16]? = some (.int 10000) := by rw [efs_2, List.getElem?_set_ne (by decide)]; exact hf16
  have hf12 : fs_2[12]? = some (.int (nI (j + 1))) := by rw [efs_2]; exact List.getElem?_set_self (by rw [hlen_h0]; decide)
  have hlen_h0 : fs_2.length = 17 := by rw [efs_2, List.length_set]; exact hlen_h0
  refine lv_aload_n hx hb dX5_goOneTick_10 rfl (lv_at hl 0 rfl) ?_
  refine va_get (D := (dC, dI)) (ci := 5) (v := .int (nI (j + 1))) (C := RX5) (T := TX5) (N := 17) hx hb hts uB5 hown hK hP 0 rfl rfl 12 (by decide) (hts _ wm_54) (fun _ h9 => h9) hf12 dX5_goOneTick_11 ?_
  refine lv_bipush (v := 100) hx hb dX5_goOneTick_14 (by decide) ?_
  refine lv_irem hx hb dX5_goOneTick_16 (by decide) ?_
  refine lv_topi (fun x_3 ex_3 => ?_)
  refine lv_if_ne (tgt := 24) hx hb dX5_goOneTick_17 (by decide) (fun c_4 => ?_) (fun c_4 => ?_)
  · skip
    refine lv_aload_n hx hb dX5_goOneTick_24 rfl (lv_at hl 0 rfl) ?_
    refine va_get (D := (dC, dI)) (ci := 5) (v := .int (nI (j + 1))) (C := RX5) (T := TX5) (N := 17) hx hb hts uB5 hown hK hP 0 rfl rfl 12 (by decide) (hts _ wm_54) (fun _ h9 => h9) hf12 dX5_goOneTick_25 ?_
    refine lv_aload_n hx hb dX5_goOneTick_28 rfl (lv_at hl 0 rfl) ?_
    refine va_get (D := (dC, dI)) (ci := 5) (v := .int 10000) (C := RX5) (T := TX5) (N := 17) hx hb hts uB5 hown hK hP 0 rfl rfl 16 (by decide) (hts _ wm_58) (fun _ h9 => h9) hf16 dX5_goOneTick_29 ?_
    refine lv_icmp_le (tgt := 39) hx hb dX5_goOneTick_32 (by decide) (fun c_5 => ?_) (fun c_5 => ?_)
    · skip
      refine lv_aload_n hx hb dX5_goOneTick_39 rfl (lv_at hl 0 rfl) ?_
      refine va_get (D := (dC, dI)) (ci := 5) (v := .int 0) (C := RX5) (T := TX5) (N := 17) hx hb hts uB5 hown hK hP 0 rfl rfl 14 (by decide) (hts _ wm_50) (fun _ h9 => h9) hf14 dX5_goOneTick_40 ?_
      refine lv_if_eq (tgt := 62) hx hb dX5_goOneTick_43 (by decide) (fun _ => ?_) (fun h9 => absurd (by decide) h9)
      exact W.vret hx hb hr (fun t ht hW => ⟨⟨fs_2, rfl, efs_2, by show va_P (dC, dI) vwCl [(h0, .inr (5, fs_2))] t.heap; rw [ht]; exact hP⟩, hS.F ht⟩) hS.2.2 dX5_goOneTick_62
    · skip
      exact absurd (show nI (j + 1) ≤ nI 10000 from nI_le (by omega) (by decide)) c_5
  · skip
    refine lv_aload_n hx hb dX5_goOneTick_20 rfl (lv_at hl 0 rfl) ?_
    have hPc := hP.sub (ws' := [(h0, .inr (5, fs_2))]) [0] rfl
    refine k_Vv (ci := 5) (q0 := 0) (tc := []) ⟨hx, hb, hml, hown, hts⟩ (v_closeDay l dC dI h0 fs_2 hf8) 0 wm_59 wm_60 wm_61 wm_2 wm_62 (by decide +kernel) ⟨Nat.le_of_ble_eq_true rfl, Nat.le_of_ble_eq_true rfl⟩ hPc (hK.sub (tys' := []) [] rfl) rfl rfl rfl hl.1 rfl (Nat.le_of_ble_eq_true rfl) dX5_goOneTick_21 ⟨Nat.le_of_ble_eq_true rfl, Nat.le_of_ble_eq_true rfl⟩ hS hP (fun H locs hP hS => ?_)
    refine lv_aload_n hx hb dX5_goOneTick_24 rfl (lv_at hl 0 rfl) ?_
    refine va_get (D := (dC, dI)) (ci := 5) (v := .int (nI (j + 1))) (C := RX5) (T := TX5) (N := 17) hx hb hts uB5 hown hK hP 0 rfl rfl 12 (by decide) (hts _ wm_54) (fun _ h9 => h9) hf12 dX5_goOneTick_25 ?_
    refine lv_aload_n hx hb dX5_goOneTick_28 rfl (lv_at hl 0 rfl) ?_
    refine va_get (D := (dC, dI)) (ci := 5) (v := .int 10000) (C := RX5) (T := TX5) (N := 17) hx hb hts uB5 hown hK hP 0 rfl rfl 16 (by decide) (hts _ wm_58) (fun _ h9 => h9) hf16 dX5_goOneTick_29 ?_
    refine lv_icmp_le (tgt := 39) hx hb dX5_goOneTick_32 (by decide) (fun c_6 => ?_) (fun c_6 => ?_)
    · skip
      refine lv_aload_n hx hb dX5_goOneTick_39 rfl (lv_at hl 0 rfl) ?_
      refine va_get (D := (dC, dI)) (ci := 5) (v := .int 0) (C := RX5) (T := TX5) (N := 17) hx hb hts uB5 hown hK hP 0 rfl rfl 14 (by decide) (hts _ wm_50) (fun _ h9 => h9) hf14 dX5_goOneTick_40 ?_
      refine lv_if_eq (tgt := 62) hx hb dX5_goOneTick_43 (by decide) (fun _ => ?_) (fun h9 => absurd (by decide) h9)
      exact W.vret hx hb hr (fun t ht hW => ⟨⟨fs_2, rfl, efs_2, by show va_P (dC, dI) vwCl [(h0, .inr (5, fs_2))] t.heap; rw [ht]; exact hP⟩, hS.F ht⟩) hS.2.2 dX5_goOneTick_62
    · skip
      exact absurd (show nI (j + 1) ≤ nI 10000 from nI_le (by omega) (by decide)) c_6
set_option maxHeartbeats 4000000 in
set_option maxRecDepth 100000 in
theorem o_goesBy (l : Launch) (dC : Nat → ClassId) (dI : Nat → Nat → Nat) (sz : Nat) (h0 : Nat) (fs : List Value) (j : Nat) (hf25 : fs[25]? = some (.int 0)) (hf3 : fs[3]? = some (.int 0)) (hf1 : fs[1]? = some (.int (nI j))) (hlen_h0 : fs.length = 51)  : mOv l yX6_goesBy cX6_goesBy 6 0 0 0 (dC, dI) h0 6 fs sz [] (fun _ => True) [.ref h0] (fun fs1 => fs1 = fs.set 1 (.int (nI (j + 1)))) := by
  refine Met.ofW (cc := cX6_goesBy) (maxL := 6) (ret := none) (by decide) rfl ?_
  intro p e s m args below meth c s₁ B hml hv
  obtain ⟨rfl, hsz, hP, hK, hex⟩ := hv
  subst hsz
  have hx := B.exec
  have hb := B.bytes
  have hr := B.returns
  have hlocks := B.notSynchronized
  have hts0 := atoms_spec (ws := Cond.code yX6_goesBy cX6_goesBy 6 none :: lw_B) B.pre
  have hts : ∀ w ∈ lw_B, w.before _ s = true := fun w h => hts0 w (List.mem_cons_of_mem _ h)
  have hown : s.vm.findClass RX6 = some m.cls := findClass_of_methodNamed B.named
  have hD : va_D (aO h0 s.heap.size) [(h0, .inr (6, fs))] := ⟨fun i j p q h1 h2 _ => by have a1 := (List.getElem?_eq_some_iff.mp h1).1; have a2 := (List.getElem?_eq_some_iff.mp h2).1; simp at a1 a2; omega, fun k q h => by have a1 := (List.getElem?_eq_some_iff.mp h).1; simp at a1; subst a1; cases h; exact Or.inl rfl⟩
  generalize hAe : aO h0 s.heap.size = A at hD ⊢
  have hA : ∀ q : Nat, s.heap.size ≤ q → A q := fun q h => by rw [← hAe]; exact Or.inr h
  have hS : va_S A s.heap s.heap [] := va_S.rf
  have hl := lv_entry ([.ref h0]) (n := 6) (Nat.le_of_ble_eq_true rfl)
  rw [lg_entry_eq]
  generalize (lg_sl ([.ref h0]) ++ List.replicate (6 - (lg_sl ([.ref h0])).length) Slot.unset).toArray = ls at hl ⊢
  have hl : lv_has ls 6 [(0, .ref h0)] := hl
  refine lv_aload_n hx hb dX6_goesBy_0 rfl (lv_at hl 0 rfl) ?_
  refine lv_dup hx hb dX6_goesBy_1 rfl ?_
  refine va_get (D := (dC, dI)) (ci := 6) (v := .int (nI j)) (C := RX6) (T := TX6) (N := 51) hx hb hts uB6 hown hK hP 0 rfl rfl 1 (by decide) (hts _ wm_57) (fun _ h9 => h9) hf1 dX6_goesBy_2 ?_
  refine lv_iconst (v := 1) hx hb dX6_goesBy_5 (by decide) ?_
  refine lv_iadd hx hb dX6_goesBy_6 ?_
  refine lv_topi (fun x_1 ex_1 => ?_)
  obtain rfl : x_1 = nI (j + 1) := ex_1.trans (nI_1 j)
  refine va_put (D := (dC, dI)) (ci := 6) (v := .int (nI (j + 1))) (ty := .int) (C := RX6) (T := TX6) (N := 51) hx hb hts uB6 tyX6 tyX6_ok nmX6 hown hK hP hD hS 0 rfl rfl 1 (by decide) (hts _ wm_57) (fun _ h9 => h9) rfl (by decide +kernel) rfl rfl (by rw [hlen_h0]; decide) dX6_goesBy_7 (fun H locs hP hD hS => ?_)
  obtain ⟨fs_2, efs_2⟩ : ∃ z9, z9 = (fs).set 1 (.int (nI (j + 1))) := ⟨_, rfl⟩
  have hP : va_P (dC, dI) vwCl [(h0, .inr (6, fs_2))] H := by rw [efs_2]; exact hP
  have hD : va_D A [(h0, .inr (6, fs_2))] := by rw [efs_2]; exact hD
  have hf25 : fs_2[25]? = some (.int 0) := by rw [efs_2, List.getElem?_set_ne (by decide)]; exact hf25
  have hf3 : fs_2[3]? = some (.int 0) := by rw [efs_2, List.getElem?_set_ne (by decide)]; exact hf3
  have hf1 : fs_2[1]? = some (.int (nI (j + 1))) := by rw [efs_2]; exact List.getElem?_set_self (by rw [hlen_h0]; decide)
  have hlen_h0 : fs_2.length = 51 := by rw [efs_2, List.length_set]; exact hlen_h0
  refine lv_iconst (v := 0) hx hb dX6_goesBy_10 (by decide) ?_
  refine lv_istore_n (lv' := [(1, .int 0), (0, .ref h0)]) hx hb dX6_goesBy_11 rfl hl (by decide) rfl (fun ls hl => ?_)
  refine lv_iload_n hx hb dX6_goesBy_12 rfl (lv_at hl 0 rfl) ?_
  refine lv_aload_n hx hb dX6_goesBy_13 rfl (lv_at hl 1 rfl) ?_
  refine va_get (D := (dC, dI)) (ci := 6) (v := .int 0) (C := RX6) (T := TX6) (N := 51) hx hb hts uB6 hown hK hP 0 rfl rfl 25 (by decide) (hts _ wm_13) (fun _ h9 => h9) hf25 dX6_goesBy_14 ?_
  refine lv_icmp_ge (tgt := 63) hx hb dX6_goesBy_17 (by decide) (fun _ => ?_) (fun h9 => absurd (by decide) h9)
  refine lv_aload_n hx hb dX6_goesBy_63 rfl (lv_at hl 1 rfl) ?_
  refine va_get (D := (dC, dI)) (ci := 6) (v := .int 0) (C := RX6) (T := TX6) (N := 51) hx hb hts uB6 hown hK hP 0 rfl rfl 3 (by decide) (hts _ wm_52) (fun _ h9 => h9) hf3 dX6_goesBy_64 ?_
  refine lv_if_eq (tgt := 92) hx hb dX6_goesBy_67 (by decide) (fun _ => ?_) (fun h9 => absurd (by decide) h9)
  exact W.vret hx hb hr (fun t ht hW => ⟨⟨fs_2, rfl, efs_2, by show va_P (dC, dI) vwCl [(h0, .inr (6, fs_2))] t.heap; rw [ht]; exact hP⟩, hS.F ht⟩) hS.2.2 dX6_goesBy_92
