set_option maxHeartbeats 4000000 in
set_option maxRecDepth 100000 in
theorem f_tick (l : Launch) (dC : Nat → ClassId) (dI : Nat → Nat → Nat) (sz : Nat) (h0 : Nat) (fs : List Value) (x : Int32) (hf7 : fs[7]? = some (.int 0)) (hf8 : fs[8]? = some (.int 0)) (hf14 : fs[14]? = some (.int 0)) (hf12 : fs[12]? = some (.int 0)) (hf16 : fs[16]? = some (.int 10000)) (hlen_h0 : fs.length = 17) : mFi l yX5_tick cX5_tick 3 2 0 0 (dC, dI) [(h0, .inr (5, fs))] sz [] (fun _ => True) [.ref h0, .int x] (fun r => r = if 1 ≤ x ∧ x ≤ 100 then x else (-1)) := by
  refine Met.ofW (cc := cX5_tick) (maxL := 3) (ret := some .int) (by decide) rfl ?_
  intro p e s m args below meth c s₁ B hml hv
  obtain ⟨rfl, hsz, hP, hK, hD0, hex⟩ := hv
  subst hsz
  have hx := B.exec
  have hb := B.bytes
  have hr := B.returns
  have hlocks := B.notSynchronized
  have hts0 := atoms_spec (ws := Cond.code yX5_tick cX5_tick 3 (some .int) :: lw_B) B.pre
  have hts : ∀ w ∈ lw_B, w.before _ s = true := fun w h => hts0 w (List.mem_cons_of_mem _ h)
  have hown : s.vm.findClass RX5 = some m.cls := findClass_of_methodNamed B.named
  have hD := hD0.self (sz := s.heap.size)
  generalize hAe : va_A [(h0, .inr (5, fs))] s.heap.size = A at hD ⊢
  have hA : ∀ q : Nat, s.heap.size ≤ q → A q := fun q h => by rw [← hAe]; exact Or.inr h
  have hS : va_S A s.heap s.heap [] := va_S.rf
  have hl := lv_entry ([.ref h0, .int x]) (n := 3) (Nat.le_of_ble_eq_true rfl)
  rw [lg_entry_eq]
  generalize (lg_sl ([.ref h0, .int x]) ++ List.replicate (3 - (lg_sl ([.ref h0, .int x])).length) Slot.unset).toArray = ls at hl ⊢
  have hl : lv_has ls 3 [(0, .ref h0), (1, .int x)] := hl
  refine lv_iload_n hx hb dX5_tick_0 rfl (lv_at hl 1 rfl) ?_
  refine lv_iconst (v := 1) hx hb dX5_tick_1 (by decide) ?_
  refine lv_bipush (v := 100) hx hb dX5_tick_2 (by decide) ?_
  refine k_S ⟨hx, hb, hml, hown, hts⟩ (c_isWithin l x 1 100) 3 wm_0 wm_1 wm_2 wm_3 (by decide +kernel) ⟨Nat.le_of_ble_eq_true rfl, Nat.le_of_ble_eq_true rfl⟩ rfl hl.1 rfl (Nat.le_of_ble_eq_true rfl) dX5_tick_4 ⟨Nat.le_of_ble_eq_true rfl, Nat.le_of_ble_eq_true rfl⟩ hS hP (fun r_1 H locs hpr_1 hP hS => ?_)
  refine lv_if_eq (tgt := 22) hx hb dX5_tick_7 (by decide) (fun c_2 => ?_) (fun c_2 => ?_)
  · skip
    have g_2 := k_ff hpr_1 c_2
    refine lv_iconst (v := (-1)) hx hb dX5_tick_22 (by decide) ?_
    exact W.iret (v := (-1)) hx hb hr (fun t ht hW => ⟨⟨(-1), (), rfl, (by simp only [Int32.lt_iff_toInt_lt, Int32.le_iff_toInt_le, ← Int32.toInt_inj, Int32.reduceToInt] at g_2; exact (if_neg (by simp only [Int32.lt_iff_toInt_lt, Int32.le_iff_toInt_le, ← Int32.toInt_inj, Int32.reduceToInt]; omega)).symm), trivial⟩, hS.F ht⟩) hS.2.2 dX5_tick_23
  · skip
    have g_2 := k_ft hpr_1 c_2
    obtain ⟨N, hN1, hN, rfl⟩ := k_r100 g_2
    refine lv_aload_n hx hb dX5_tick_10 rfl (lv_at hl 0 rfl) ?_
    refine va_get (D := (dC, dI)) (ci := 5) (v := .int 0) (C := RX5) (T := TX5) (N := 17) hx hb hts uB5 hown hK hP 0 rfl rfl 12 (by decide) (hts _ wm_54) (fun _ h9 => h9) hf12 dX5_tick_11 ?_
    refine lv_sipush (v := 10000) hx hb dX5_tick_14 (by decide) ?_
    refine lv_iload_n hx hb dX5_tick_17 rfl (lv_at hl 1 rfl) ?_
    refine lv_isub hx hb dX5_tick_18 ?_
    refine lv_topi (fun x_3 ex_3 => ?_)
    refine lv_icmp_le (tgt := 24) hx hb dX5_tick_19 (by decide) (fun c_4 => ?_) (fun c_4 => ?_)
    · skip
      refine lv_aload_n hx hb dX5_tick_24 rfl (lv_at hl 0 rfl) ?_
      have hPc := hP.sub (ws' := [(h0, .inr (5, fs))]) [0] rfl
      refine k_Vv (ci := 5) (q0 := 0) (tc := []) ⟨hx, hb, hml, hown, hts⟩ (v_closeTick l dC dI h0 fs hf8 hf7) 0 wm_63 wm_64 wm_65 wm_2 wm_66 (by decide +kernel) ⟨Nat.le_of_ble_eq_true rfl, Nat.le_of_ble_eq_true rfl⟩ hPc (hK.sub (tys' := []) [] rfl) rfl rfl rfl hl.1 rfl (Nat.le_of_ble_eq_true rfl) dX5_tick_25 ⟨Nat.le_of_ble_eq_true rfl, Nat.le_of_ble_eq_true rfl⟩ hS hP (fun H locs hP hS => ?_)
      refine lv_iconst (v := 0) hx hb dX5_tick_28 (by decide) ?_
      refine lv_istore_n (lv' := [(2, .int 0), (0, .ref h0), (1, .int (nI N))]) hx hb dX5_tick_29 rfl hl (by decide) rfl (fun ls hl => ?_)
      refine k_loop (fun n H locs ls => ∃ (j : Nat) (fs : List Value), j + n = N ∧ fs.length = 17 ∧ fs[7]? = some (.int 0) ∧ fs[8]? = some (.int 0) ∧ fs[14]? = some (.int 0) ∧ fs[12]? = some (.int (nI j)) ∧ fs[16]? = some (.int 10000) ∧ va_P (dC, dI) vwCl [(h0, .inr (5, fs))] H ∧ va_D A [(h0, .inr (5, fs))] ∧ va_S A s.heap H locs ∧ lv_has ls 3 [(0, .ref h0), (1, .int (nI N)), (2, .int (nI j))]) (fun H locs ls hI => ?_) (fun n H locs ls hI ih => ?_) N _ _ _ ⟨0, fs, by omega, hlen_h0, hf7, hf8, hf14, hf12, hf16, hP, hD, hS, lv_sub hl [1, 2, 0] rfl⟩
      · skip
        obtain ⟨j, fs, hjn, hlen_h0, hf7, hf8, hf14, hf12, hf16, hP, hD, hS, hl⟩ := hI
        refine lv_iload_n hx hb dX5_tick_30 rfl (lv_at hl 2 rfl) ?_
        refine lv_iload_n hx hb dX5_tick_31 rfl (lv_at hl 1 rfl) ?_
        refine lv_icmp_ge (tgt := 45) hx hb dX5_tick_32 (by decide) (fun c_5 => ?_) (fun c_5 => ?_)
        · skip
          refine lv_aload_n hx hb dX5_tick_45 rfl (lv_at hl 0 rfl) ?_
          refine va_get (D := (dC, dI)) (ci := 5) (v := .int (nI j)) (C := RX5) (T := TX5) (N := 17) hx hb hts uB5 hown hK hP 0 rfl rfl 12 (by decide) (hts _ wm_54) (fun _ h9 => h9) hf12 dX5_tick_46 ?_
          exact W.iret (v := nI j) hx hb hr (fun t ht hW => ⟨⟨nI j, (), rfl, ((congrArg nI (show j = N by omega)).trans (if_pos g_2).symm), trivial⟩, hS.F ht⟩) hS.2.2 dX5_tick_49
        · skip
          exact absurd (nI_le (by omega) (by omega)) c_5
      · skip
        obtain ⟨j, fs, hjn, hlen_h0, hf7, hf8, hf14, hf12, hf16, hP, hD, hS, hl⟩ := hI
        refine lv_iload_n hx hb dX5_tick_30 rfl (lv_at hl 2 rfl) ?_
        refine lv_iload_n hx hb dX5_tick_31 rfl (lv_at hl 1 rfl) ?_
        refine lv_icmp_ge (tgt := 45) hx hb dX5_tick_32 (by decide) (fun c_6 => ?_) (fun c_6 => ?_)
        · skip
          exact absurd c_6 (nI_ge (by omega) (by omega))
        · skip
          refine lv_aload_n hx hb dX5_tick_35 rfl (lv_at hl 0 rfl) ?_
          refine k_Ov (ci := 5) (q0 := 0) (tc := []) (ex := fun _ => True) ⟨hx, hb, hml, hown, hts⟩ (o_goOneTick l dC dI H.size h0 fs j hf8 hf14 hf12 hf16 hlen_h0 (by omega)) 0 wm_67 wm_68 wm_69 wm_2 wm_70 (by decide +kernel) ⟨Nat.le_of_ble_eq_true rfl, Nat.le_of_ble_eq_true rfl⟩ (hK.sub (tys' := []) [] rfl) exT rfl rfl rfl hl.1 rfl (Nat.le_of_ble_eq_true rfl) dX5_tick_36 ⟨Nat.le_of_ble_eq_true rfl, Nat.le_of_ble_eq_true rfl⟩ hP hD hS hA (fun fs_7 H locs efs_7 hP hD hS => ?_)
          have hP : va_P (dC, dI) vwCl [(h0, .inr (5, fs_7))] H := hP
          have hD : va_D A [(h0, .inr (5, fs_7))] := hD
          have hf7 : fs_7[7]? = some (.int 0) := by rw [efs_7, List.getElem?_set_ne (by decide)]; exact hf7
          have hf8 : fs_7[8]? = some (.int 0) := by rw [efs_7, List.getElem?_set_ne (by decide)]; exact hf8
          have hf14 : fs_7[14]? = some (.int 0) := by rw [efs_7, List.getElem?_set_ne (by decide)]; exact hf14
          have hf16 : fs_7[16]? = some (.int 10000) := by rw [efs_7, List.getElem?_set_ne (by decide)]; exact hf16
          have hf12 : fs_7[12]? = some (.int (nI (j + 1))) := by rw [efs_7]; exact List.getElem?_set_self (by rw [hlen_h0]; decide)
          have hlen_h0 : fs_7.length = 17 := by rw [efs_7, List.length_set]; exact hlen_h0
          obtain ⟨x_8, ex_8⟩ : ∃ y : Int32, y = (nI j) + 1 := ⟨_, rfl⟩
          refine lv_iinc (v := x_8) (lv' := [(2, .int x_8), (0, .ref h0), (1, .int (nI N))]) hx hb dX5_tick_39 hl (k := 2) rfl (by rw [ex_8]; rfl) (by decide) rfl (fun ls hl => ?_)
          refine lv_goto (tgt := 30) hx hb dX5_tick_42 (by decide) ?_
          obtain rfl : x_8 = nI (j + 1) := ex_8.trans (nI_1 j)
          exact ih _ _ _ ⟨j + 1, fs_7, by omega, hlen_h0, hf7, hf8, hf14, hf12, hf16, hP, hD, hS, lv_sub hl [1, 2, 0] rfl⟩
    · skip
      exact absurd (by rw [ex_3, show (10000 : Int32) = nI 10000 from rfl, pk_sub (by omega)]; exact nI_pos' (by omega)) c_4
set_option maxHeartbeats 4000000 in
set_option maxRecDepth 100000 in
theorem f_mtick (l : Launch) (dC : Nat → ClassId) (dI : Nat → Nat → Nat) (sz : Nat) (h0 : Nat) (fs : List Value) (x : Int32) (hf25 : fs[25]? = some (.int 0)) (hf3 : fs[3]? = some (.int 0)) (hf1 : fs[1]? = some (.int 0)) (hlen_h0 : fs.length = 51) : mFi l yX6_tick cX6_tick 3 2 0 0 (dC, dI) [(h0, .inr (6, fs))] sz [] (fun _ => True) [.ref h0, .int x] (fun r => r = if 1 ≤ x ∧ x ≤ 100 then x else (-1)) := by
  refine Met.ofW (cc := cX6_tick) (maxL := 3) (ret := some .int) (by decide) rfl ?_
  intro p e s m args below meth c s₁ B hml hv
  obtain ⟨rfl, hsz, hP, hK, hD0, hex⟩ := hv
  subst hsz
  have hx := B.exec
  have hb := B.bytes
  have hr := B.returns
  have hlocks := B.notSynchronized
  have hts0 := atoms_spec (ws := Cond.code yX6_tick cX6_tick 3 (some .int) :: lw_B) B.pre
  have hts : ∀ w ∈ lw_B, w.before _ s = true := fun w h => hts0 w (List.mem_cons_of_mem _ h)
  have hown : s.vm.findClass RX6 = some m.cls := findClass_of_methodNamed B.named
  have hD := hD0.self (sz := s.heap.size)
  generalize hAe : va_A [(h0, .inr (6, fs))] s.heap.size = A at hD ⊢
  have hA : ∀ q : Nat, s.heap.size ≤ q → A q := fun q h => by rw [← hAe]; exact Or.inr h
  have hS : va_S A s.heap s.heap [] := va_S.rf
  have hl := lv_entry ([.ref h0, .int x]) (n := 3) (Nat.le_of_ble_eq_true rfl)
  rw [lg_entry_eq]
  generalize (lg_sl ([.ref h0, .int x]) ++ List.replicate (3 - (lg_sl ([.ref h0, .int x])).length) Slot.unset).toArray = ls at hl ⊢
  have hl : lv_has ls 3 [(0, .ref h0), (1, .int x)] := hl
  refine lv_iload_n hx hb dX6_tick_0 rfl (lv_at hl 1 rfl) ?_
  refine lv_iconst (v := 1) hx hb dX6_tick_1 (by decide) ?_
  refine lv_bipush (v := 100) hx hb dX6_tick_2 (by decide) ?_
  refine k_S ⟨hx, hb, hml, hown, hts⟩ (c_in l x 1 100) 3 wm_4 wm_5 wm_6 wm_7 (by decide +kernel) ⟨Nat.le_of_ble_eq_true rfl, Nat.le_of_ble_eq_true rfl⟩ rfl hl.1 rfl (Nat.le_of_ble_eq_true rfl) dX6_tick_4 ⟨Nat.le_of_ble_eq_true rfl, Nat.le_of_ble_eq_true rfl⟩ hS hP (fun r_1 H locs hpr_1 hP hS => ?_)
  refine lv_if_eq (tgt := 22) hx hb dX6_tick_7 (by decide) (fun c_2 => ?_) (fun c_2 => ?_)
  · skip
    have g_2 := k_ff hpr_1 c_2
    refine lv_iconst (v := (-1)) hx hb dX6_tick_22 (by decide) ?_
    exact W.iret (v := (-1)) hx hb hr (fun t ht hW => ⟨⟨(-1), (), rfl, (by simp only [Int32.lt_iff_toInt_lt, Int32.le_iff_toInt_le, ← Int32.toInt_inj, Int32.reduceToInt] at g_2; exact (if_neg (by simp only [Int32.lt_iff_toInt_lt, Int32.le_iff_toInt_le, ← Int32.toInt_inj, Int32.reduceToInt]; omega)).symm), trivial⟩, hS.F ht⟩) hS.2.2 dX6_tick_23
  · skip
    have g_2 := k_ft hpr_1 c_2
    obtain ⟨N, hN1, hN, rfl⟩ := k_r100 g_2
    refine lv_aload_n hx hb dX6_tick_10 rfl (lv_at hl 0 rfl) ?_
    refine va_get (D := (dC, dI)) (ci := 6) (v := .int 0) (C := RX6) (T := TX6) (N := 51) hx hb hts uB6 hown hK hP 0 rfl rfl 1 (by decide) (hts _ wm_57) (fun _ h9 => h9) hf1 dX6_tick_11 ?_
    refine lv_iload_n hx hb dX6_tick_14 rfl (lv_at hl 1 rfl) ?_
    refine lv_iadd hx hb dX6_tick_15 ?_
    refine lv_topi (fun x_3 ex_3 => ?_)
    refine lv_sipush (v := 10000) hx hb dX6_tick_16 (by decide) ?_
    refine lv_icmp_le (tgt := 24) hx hb dX6_tick_19 (by decide) (fun c_4 => ?_) (fun c_4 => ?_)
    · skip
      refine lv_iconst (v := 0) hx hb dX6_tick_24 (by decide) ?_
      refine lv_istore_n (lv' := [(2, .int 0), (0, .ref h0), (1, .int (nI N))]) hx hb dX6_tick_25 rfl hl (by decide) rfl (fun ls hl => ?_)
      refine k_loop (fun n H locs ls => ∃ (j : Nat) (fs : List Value), j + n = N ∧ fs.length = 51 ∧ fs[25]? = some (.int 0) ∧ fs[3]? = some (.int 0) ∧ fs[1]? = some (.int (nI j)) ∧ va_P (dC, dI) vwCl [(h0, .inr (6, fs))] H ∧ va_D A [(h0, .inr (6, fs))] ∧ va_S A s.heap H locs ∧ lv_has ls 3 [(0, .ref h0), (1, .int (nI N)), (2, .int (nI j))]) (fun H locs ls hI => ?_) (fun n H locs ls hI ih => ?_) N _ _ _ ⟨0, fs, by omega, hlen_h0, hf25, hf3, hf1, hP, hD, hS, lv_sub hl [1, 2, 0] rfl⟩
      · skip
        obtain ⟨j, fs, hjn, hlen_h0, hf25, hf3, hf1, hP, hD, hS, hl⟩ := hI
        refine lv_iload_n hx hb dX6_tick_26 rfl (lv_at hl 2 rfl) ?_
        refine lv_iload_n hx hb dX6_tick_27 rfl (lv_at hl 1 rfl) ?_
        refine lv_icmp_ge (tgt := 41) hx hb dX6_tick_28 (by decide) (fun c_5 => ?_) (fun c_5 => ?_)
        · skip
          refine lv_aload_n hx hb dX6_tick_41 rfl (lv_at hl 0 rfl) ?_
          refine va_get (D := (dC, dI)) (ci := 6) (v := .int (nI j)) (C := RX6) (T := TX6) (N := 51) hx hb hts uB6 hown hK hP 0 rfl rfl 1 (by decide) (hts _ wm_57) (fun _ h9 => h9) hf1 dX6_tick_42 ?_
          exact W.iret (v := nI j) hx hb hr (fun t ht hW => ⟨⟨nI j, (), rfl, ((congrArg nI (show j = N by omega)).trans (if_pos g_2).symm), trivial⟩, hS.F ht⟩) hS.2.2 dX6_tick_45
        · skip
          exact absurd (nI_le (by omega) (by omega)) c_5
      · skip
        obtain ⟨j, fs, hjn, hlen_h0, hf25, hf3, hf1, hP, hD, hS, hl⟩ := hI
        refine lv_iload_n hx hb dX6_tick_26 rfl (lv_at hl 2 rfl) ?_
        refine lv_iload_n hx hb dX6_tick_27 rfl (lv_at hl 1 rfl) ?_
        refine lv_icmp_ge (tgt := 41) hx hb dX6_tick_28 (by decide) (fun c_6 => ?_) (fun c_6 => ?_)
        · skip
          exact absurd c_6 (nI_ge (by omega) (by omega))
        · skip
          refine lv_aload_n hx hb dX6_tick_31 rfl (lv_at hl 0 rfl) ?_
          refine k_Ov (ci := 6) (q0 := 0) (tc := []) (ex := fun _ => True) ⟨hx, hb, hml, hown, hts⟩ (o_goesBy l dC dI H.size h0 fs j hf25 hf3 hf1 hlen_h0) 0 wm_71 wm_72 wm_73 wm_6 wm_74 (by decide +kernel) ⟨Nat.le_of_ble_eq_true rfl, Nat.le_of_ble_eq_true rfl⟩ (hK.sub (tys' := []) [] rfl) exT rfl rfl rfl hl.1 rfl (Nat.le_of_ble_eq_true rfl) dX6_tick_32 ⟨Nat.le_of_ble_eq_true rfl, Nat.le_of_ble_eq_true rfl⟩ hP hD hS hA (fun fs_7 H locs efs_7 hP hD hS => ?_)
          have hP : va_P (dC, dI) vwCl [(h0, .inr (6, fs_7))] H := hP
          have hD : va_D A [(h0, .inr (6, fs_7))] := hD
          have hf25 : fs_7[25]? = some (.int 0) := by rw [efs_7, List.getElem?_set_ne (by decide)]; exact hf25
          have hf3 : fs_7[3]? = some (.int 0) := by rw [efs_7, List.getElem?_set_ne (by decide)]; exact hf3
          have hf1 : fs_7[1]? = some (.int (nI (j + 1))) := by rw [efs_7]; exact List.getElem?_set_self (by rw [hlen_h0]; decide)
          have hlen_h0 : fs_7.length = 51 := by rw [efs_7, List.length_set]; exact hlen_h0
          obtain ⟨x_8, ex_8⟩ : ∃ y : Int32, y = (nI j) + 1 := ⟨_, rfl⟩
          refine lv_iinc (v := x_8) (lv' := [(2, .int x_8), (0, .ref h0), (1, .int (nI N))]) hx hb dX6_tick_35 hl (k := 2) rfl (by rw [ex_8]; rfl) (by decide) rfl (fun ls hl => ?_)
          refine lv_goto (tgt := 26) hx hb dX6_tick_38 (by decide) ?_
          obtain rfl : x_8 = nI (j + 1) := ex_8.trans (nI_1 j)
          exact ih _ _ _ ⟨j + 1, fs_7, by omega, hlen_h0, hf25, hf3, hf1, hP, hD, hS, lv_sub hl [1, 2, 0] rfl⟩
    · skip
      exact absurd (by rw [ex_3, show (0 : Int32) = nI 0 from rfl, nI_add, show (10000 : Int32) = nI 10000 from rfl]; exact nI_le (by omega) (by decide)) c_4
