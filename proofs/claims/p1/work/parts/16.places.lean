set_option maxHeartbeats 4000000 in
set_option maxRecDepth 100000 in
theorem c_placesIn (l : Launch) (x : Int32) : mS l yX5_placesIn cX5_placesIn 3 .int 1 [.int x] (fun r => (x ≤ 0 → r = 0) ∧ (∀ X : Nat, X < 2 ^ 31 → x = nI X → r = nI (plc 4 0 X))) := by
  refine Met.ofW (cc := cX5_placesIn) (maxL := 3) (ret := some .int) (by decide) rfl ?_
  intro p e s m args below meth c s₁ B hml hv
  obtain ⟨rfl, -⟩ := hv
  have hx := B.exec
  have hb := B.bytes
  have hr := B.returns
  have hlocks := B.notSynchronized
  have hts0 := atoms_spec (ws := Cond.code yX5_placesIn cX5_placesIn 3 (some .int) :: lw_B) B.pre
  have hts : ∀ w ∈ lw_B, w.before _ s = true := fun w h => hts0 w (List.mem_cons_of_mem _ h)
  have hown : s.vm.findClass RX5 = some m.cls := findClass_of_methodNamed B.named
  have hS : va_S (fun _ => False) s.heap s.heap [] := va_S.rf
  have hP : va_P (fun _ => 0, fun _ _ => 0) vwCl [] s.heap := fun k q h => by simp at h
  have hl := lv_entry ([.int x]) (n := 3) (Nat.le_of_ble_eq_true rfl)
  rw [lg_entry_eq]
  generalize (lg_sl ([.int x]) ++ List.replicate (3 - (lg_sl ([.int x])).length) Slot.unset).toArray = ls at hl ⊢
  have hl : lv_has ls 3 [(0, .int x)] := hl
  refine lv_iconst (v := 0) hx hb dX5_placesIn_0 (by decide) ?_
  refine lv_istore_n (lv' := [(1, .int 0), (0, .int x)]) hx hb dX5_placesIn_1 rfl hl (by decide) rfl (fun ls hl => ?_)
  refine lv_iload_n hx hb dX5_placesIn_2 rfl (lv_at hl 1 rfl) ?_
  refine lv_istore_n (lv' := [(2, .int x), (1, .int 0), (0, .int x)]) hx hb dX5_placesIn_3 rfl hl (by decide) rfl (fun ls hl => ?_)
  by_cases hneg : x ≤ 0
  · skip
    refine lv_iload_n hx hb dX5_placesIn_4 rfl (lv_at hl 0 rfl) ?_
    refine lv_if_le (tgt := 41) hx hb dX5_placesIn_5 (by decide) (fun c_1 => ?_) (fun c_1 => ?_)
    · skip
      refine lv_iload_n hx hb dX5_placesIn_41 rfl (lv_at hl 0 rfl) ?_
      refine lv_if_ne (tgt := 49) hx hb dX5_placesIn_42 (by decide) (fun c_2 => ?_) (fun c_2 => ?_)
      · skip
        refine lv_iconst (v := 0) hx hb dX5_placesIn_49 (by decide) ?_
        exact W.iret (v := 0) hx hb hr (fun t ht hW => ⟨⟨0, (), rfl, ⟨fun _ => rfl, fun X hX e9 => by subst e9; rw [show X = 0 from (by rcases Nat.eq_zero_or_pos X with q | q; exact q; exact absurd hneg (nI_nle q hX))]; rfl⟩, trivial⟩, hS.F ht⟩) hS.2.2 dX5_placesIn_50
      · skip
        refine lv_iload_n hx hb dX5_placesIn_45 rfl (lv_at hl 1 rfl) ?_
        refine lv_goto (tgt := 50) hx hb dX5_placesIn_46 (by decide) ?_
        exact W.iret (v := 0) hx hb hr (fun t ht hW => ⟨⟨0, (), rfl, ⟨fun _ => rfl, fun X hX e9 => by subst e9; rw [show X = 0 from (by rcases Nat.eq_zero_or_pos X with q | q; exact q; exact absurd hneg (nI_nle q hX))]; rfl⟩, trivial⟩, hS.F ht⟩) hS.2.2 dX5_placesIn_50
    · skip
      exact absurd hneg c_1
  · skip
    obtain ⟨X, hX, hX0, rfl⟩ := k_pos hneg
    refine k_lx (pcx := 41) (fun r H locs ls => ∃ k : Nat, k ≤ 4 ∧ r < 2 ^ 31 ∧ plc (4 - k) k r = plc 4 0 X ∧ va_P (fun _ => 0, fun _ _ => 0) vwCl [] H ∧ va_S (fun _ => False) s.heap H locs ∧ lv_has ls 3 [(0, .int (nI X)), (1, .int (nI k)), (2, .int (nI r))]) (fun H locs ls => ∃ r k : Nat, k ≤ 4 ∧ r < 2 ^ 31 ∧ (if r = 0 then k else 0) = plc 4 0 X ∧ va_P (fun _ => 0, fun _ _ => 0) vwCl [] H ∧ va_S (fun _ => False) s.heap H locs ∧ lv_has ls 3 [(0, .int (nI X)), (1, .int (nI k)), (2, .int (nI r))]) (fun H locs ls hI => ?_) (fun r H locs ls hI hE ih => ?_) X _ _ _ ⟨0, by omega, hX, rfl, hP, hS, lv_sub hl [2, 1, 0] rfl⟩
    · skip
      obtain ⟨r, k, hk, hr31, hv9, hP, hS, hl⟩ := hI
      refine lv_iload_n hx hb dX5_placesIn_41 rfl (lv_at hl 2 rfl) ?_
      refine lv_if_ne (tgt := 49) hx hb dX5_placesIn_42 (by decide) (fun c_3 => ?_) (fun c_3 => ?_)
      · skip
        refine lv_iconst (v := 0) hx hb dX5_placesIn_49 (by decide) ?_
        exact W.iret (v := 0) hx hb hr (fun t ht hW => ⟨⟨0, (), rfl, ⟨fun q => absurd q hneg, fun Y hY e9 => by rw [← (nI_eq hX hY).mp e9]; exact (show _ = nI (plc 4 0 X) from by rw [← hv9, if_neg (fun q => c_3 (by rw [q]; rfl))]; rfl)⟩, trivial⟩, hS.F ht⟩) hS.2.2 dX5_placesIn_50
      · skip
        refine lv_iload_n hx hb dX5_placesIn_45 rfl (lv_at hl 1 rfl) ?_
        refine lv_goto (tgt := 50) hx hb dX5_placesIn_46 (by decide) ?_
        exact W.iret (v := nI k) hx hb hr (fun t ht hW => ⟨⟨nI k, (), rfl, ⟨fun q => absurd q hneg, fun Y hY e9 => by rw [← (nI_eq hX hY).mp e9]; exact (show _ = nI (plc 4 0 X) from by rw [← hv9, if_pos ((nI_eq hr31 (by decide)).mp c_3)])⟩, trivial⟩, hS.F ht⟩) hS.2.2 dX5_placesIn_50
    · skip
      obtain ⟨k, hk, hr31, hv9, hP, hS, hl⟩ := hI
      refine lv_iload_n hx hb dX5_placesIn_4 rfl (lv_at hl 2 rfl) ?_
      refine lv_if_le (tgt := 41) hx hb dX5_placesIn_5 (by decide) (fun c_4 => ?_) (fun c_4 => ?_)
      · skip
        exact hE _ _ _ ⟨r, k, hk, hr31, by rw [← hv9]; have q : r = 0 := by { rcases Nat.eq_zero_or_pos r with q | q; exact q; exact absurd c_4 (nI_nle q hr31) }; subst q; rw [if_pos rfl]; cases (4 - k) <;> simp [plc], hP, hS, lv_sub hl [0, 1, 2] rfl⟩
      · skip
        have hr0 : ¬ r = 0 := fun q => c_4 (by rw [q]; decide)
        refine lv_iload_n hx hb dX5_placesIn_8 rfl (lv_at hl 1 rfl) ?_
        refine lv_iconst (v := 4) hx hb dX5_placesIn_9 (by decide) ?_
        refine lv_icmp_ge (tgt := 41) hx hb dX5_placesIn_10 (by decide) (fun c_5 => ?_) (fun c_5 => ?_)
        · skip
          have hk4 : k = 4 := by have := (nI_leI (a := 4) (b := k) (by decide) (by omega)).mp c_5; omega
          exact hE _ _ _ ⟨r, k, hk, hr31, by rw [← hv9, hk4, if_neg hr0]; show 0 = plc 0 4 r; rw [plc, if_neg hr0], hP, hS, lv_sub hl [0, 1, 2] rfl⟩
        · skip
          have hk4 : k < 4 := by rcases Nat.lt_or_ge k 4 with q | q; exact q; exact absurd (nI_le q (by omega)) c_5
          refine lv_iload_n hx hb dX5_placesIn_13 rfl (lv_at hl 2 rfl) ?_
          refine lv_sipush (v := 128) hx hb dX5_placesIn_14 (by decide) ?_
          refine lv_irem hx hb dX5_placesIn_17 (by decide) ?_
          refine lv_topi (fun x_6 ex_6 => ?_)
          obtain rfl : x_6 = nI (r % 128) := ex_6.trans (k_128r hr31)
          refine lv_iconst (v := 1) hx hb dX5_placesIn_18 (by decide) ?_
          refine lv_bipush (v := 100) hx hb dX5_placesIn_19 (by decide) ?_
          refine k_S ⟨hx, hb, hml, hown, hts⟩ (c_isWithin l (nI (r % 128)) 1 100) 3 wm_0 wm_1 wm_2 wm_3 (by decide +kernel) ⟨Nat.le_of_ble_eq_true rfl, Nat.le_of_ble_eq_true rfl⟩ rfl hl.1 rfl (Nat.le_of_ble_eq_true rfl) dX5_placesIn_21 ⟨Nat.le_of_ble_eq_true rfl, Nat.le_of_ble_eq_true rfl⟩ hS hP (fun r_7 H locs hpr_7 hP hS => ?_)
          refine lv_if_ne (tgt := 29) hx hb dX5_placesIn_24 (by decide) (fun c_8 => ?_) (fun c_8 => ?_)
          · skip
            have g_8 := k_ft hpr_7 c_8
            refine lv_iload_n hx hb dX5_placesIn_29 rfl (lv_at hl 2 rfl) ?_
            refine lv_sipush (v := 128) hx hb dX5_placesIn_30 (by decide) ?_
            refine lv_idiv hx hb dX5_placesIn_33 (by decide) ?_
            refine lv_topi (fun x_9 ex_9 => ?_)
            obtain rfl : x_9 = nI (r / 128) := ex_9.trans (k_128d hr31)
            refine lv_istore_n (lv' := [(2, .int (nI (r / 128))), (0, .int (nI X)), (1, .int (nI k))]) hx hb dX5_placesIn_34 rfl hl (by decide) rfl (fun ls hl => ?_)
            obtain ⟨x_10, ex_10⟩ : ∃ y : Int32, y = (nI k) + 1 := ⟨_, rfl⟩
            refine lv_iinc (v := x_10) (lv' := [(1, .int x_10), (2, .int (nI (r / 128))), (0, .int (nI X))]) hx hb dX5_placesIn_35 hl (k := 2) rfl (by rw [ex_10]; rfl) (by decide) rfl (fun ls hl => ?_)
            refine lv_goto (tgt := 4) hx hb dX5_placesIn_38 (by decide) ?_
            obtain rfl : x_10 = nI (k + 1) := ex_10.trans (nI_1 k)
            have hgY : 1 ≤ r % 128 ∧ r % 128 ≤ 100 := (k_rg (by omega) (by decide) (by decide)).mp g_8
            exact ih (r / 128) (by omega) _ _ _ ⟨k + 1, by omega, by omega, by rw [← hv9, show 4 - k = (4 - (k + 1)) + 1 by omega, plc, if_neg hr0, if_pos hgY], hP, hS, lv_sub hl [2, 0, 1] rfl⟩
          · skip
            have g_8 := k_ff hpr_7 c_8
            refine lv_iconst (v := 0) hx hb dX5_placesIn_27 (by decide) ?_
            have hgN : ¬ (1 ≤ r % 128 ∧ r % 128 ≤ 100) := fun q => g_8 ((k_rg (by omega) (by decide) (by decide)).mpr q)
            have hv0 : plc 4 0 X = 0 := by rw [← hv9, show 4 - k = (3 - k) + 1 by omega, plc, if_neg hr0, if_neg hgN]
            exact W.iret (v := 0) hx hb hr (fun t ht hW => ⟨⟨0, (), rfl, ⟨fun q => absurd q hneg, fun Y hY e9 => by rw [← (nI_eq hX hY).mp e9, hv0]; rfl⟩, trivial⟩, hS.F ht⟩) hS.2.2 dX5_placesIn_28
