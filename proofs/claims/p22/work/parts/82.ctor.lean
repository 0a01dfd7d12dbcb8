set_option maxHeartbeats 8000000 in
set_option maxRecDepth 100000 in
theorem n_Giver (l : Launch) (dC : Nat → ClassId) (dI : Nat → Nat → Nat) (K : Nat → ClassId) (sz : Nat) (h0 : Nat) : mNk (S := List Value × Nat × Nat × Nat × Nat × Nat) l yX1_init cX1_init 1 1 13 376 (dC, dI) K h0 1 [.null, .null, .null, .null, .null, .int 0, .int 0, .long 0, .long 0] sz exG [.ref h0] (fun u => match u with | (f, qc, qt, qw, qo, qa) => f.length = 9 ∧ f[0]? = some (.ref qc) ∧ f[1]? = some (.ref qt) ∧ f[2]? = some (.ref qw) ∧ f[3]? = some (.ref qo) ∧ f[4]? = some (.ref qa) ∧ f[5]? = some (.int 0) ∧ f[6]? = some (.int 0) ∧ f[7]? = some (.long 0) ∧ f[8]? = some (.long 0)) (fun u => match u with | (f, qc, qt, qw, qo, qa) => [(h0, .inr (1, f)), (qc, .inl (K 0, 4, .inl (fun _ => 0))), (qt, .inl (K 0, 4, .inl (fun _ => 0))), (qw, .inl (K 6, 4, .inr (.inr (.inr (.inr (fun i => if i < 4 then some (qw + 1 + i) else none)))))), (qw + 1, .inl (K 1, 40, .inr (.inl (fun _ => 0)))), (qw + 2, .inl (K 1, 40, .inr (.inl (fun _ => 0)))), (qw + 3, .inl (K 1, 40, .inr (.inl (fun _ => 0)))), (qw + 4, .inl (K 1, 40, .inr (.inl (fun _ => 0)))), (qo, .inl (K 7, 4, .inr (.inr (.inr (.inr (fun i => if i < 4 then some (qo + 1 + i) else none)))))), (qo + 1, .inl (K 0, 40, .inl (fun _ => 0))), (qo + 2, .inl (K 0, 40, .inl (fun _ => 0))), (qo + 3, .inl (K 0, 40, .inl (fun _ => 0))), (qo + 4, .inl (K 0, 40, .inl (fun _ => 0))), (qa, .inl (K 1, 40, .inr (.inl (fun _ => 0))))]) := by
  refine Met.ofW (cc := cX1_init) (maxL := 1) (ret := none) (by decide) rfl ?_
  intro p e s m args below meth c s₁ B hml hv
  obtain ⟨rfl, hsz, hP, hK, hD0, hex⟩ := hv
  subst hsz
  have hx := B.exec
  have hb := B.bytes
  have hr := B.returns
  have hlocks := B.notSynchronized
  have hts0 := atoms_spec (ws := Cond.code yX1_init cX1_init 1 none :: lw_B) B.pre
  have hts : ∀ w ∈ lw_B, w.before _ s = true := fun w h => hts0 w (List.mem_cons_of_mem _ h)
  have hown : s.vm.findClass RX1 = some m.cls := findClass_of_methodNamed B.named
  have hin : meth.name = "<init>" := (name_of_methodNamed B.named B.method).1
  have hD := hD0.self (sz := s.heap.size)
  generalize hAe : va_A [(h0, .inr (1, [.null, .null, .null, .null, .null, .int 0, .int 0, .long 0, .long 0]))] s.heap.size = A at hD ⊢
  have hA : ∀ q : Nat, s.heap.size ≤ q → A q := fun q h => by rw [← hAe]; exact Or.inr h
  have hS : va_S A s.heap s.heap [] := va_S.rf
  have hl := lv_entry ([.ref h0]) (n := 1) (Nat.le_of_ble_eq_true rfl)
  rw [lg_entry_eq]
  generalize (lg_sl ([.ref h0]) ++ List.replicate (1 - (lg_sl ([.ref h0])).length) Slot.unset).toArray = ls at hl ⊢
  have hl : lv_has ls 1 [(0, .ref h0)] := hl
  obtain ⟨fs_0, efs_0⟩ : ∃ z9 : List Value, z9 = [.null, .null, .null, .null, .null, .int 0, .int 0, .long 0, .long 0] := ⟨_, rfl⟩
  have hP : va_P (dC, dI) vwCl [(h0, .inr (1, fs_0))] s.heap := by rw [efs_0]; exact hP
  have hD : va_D A [(h0, .inr (1, fs_0))] := by rw [efs_0]; exact hD
  have hlen_h0 : fs_0.length = 9 := by rw [efs_0]; rfl
  have hf0_h0 : fs_0[0]? = some (.null) := by rw [efs_0]; rfl
  have hf1_h0 : fs_0[1]? = some (.null) := by rw [efs_0]; rfl
  have hf2_h0 : fs_0[2]? = some (.null) := by rw [efs_0]; rfl
  have hf3_h0 : fs_0[3]? = some (.null) := by rw [efs_0]; rfl
  have hf4_h0 : fs_0[4]? = some (.null) := by rw [efs_0]; rfl
  have hf5_h0 : fs_0[5]? = some (.int 0) := by rw [efs_0]; rfl
  have hf6_h0 : fs_0[6]? = some (.int 0) := by rw [efs_0]; rfl
  have hf7_h0 : fs_0[7]? = some (.long 0) := by rw [efs_0]; rfl
  have hf8_h0 : fs_0[8]? = some (.long 0) := by rw [efs_0]; rfl
  refine lv_aload_n hx hb dX1_init_0 rfl (lv_at hl 0 rfl) ?_
  refine W.objInit hx hb hown (hts _ wm_526) (hts _ wm_461) (hts _ wm_462) rfl (by rw [hml]; exact hl.1) rfl dX1_init_1 (Nat.le_of_ble_eq_true rfl) (Nat.le_of_ble_eq_true rfl) ?_
  refine W.eq (g2 := F0 m 4 ls []) rfl ?_
  refine lv_aload_n hx hb dX1_init_4 rfl (lv_at hl 0 rfl) ?_
  refine lv_iconst (v := 4) hx hb dX1_init_5 (by decide) ?_
  refine va_newa (atype := .int) (N' := 4) (a0 := (4, .inl (fun _ => 0))) hx hb (hts _ wm_470) rfl hK hP hD hS hA (fun _ => rfl) (by decide) rfl (Nat.le_of_ble_eq_true rfl) (Nat.le_of_ble_eq_true rfl) (Nat.le_of_ble_eq_true rfl) dX1_init_6 (fun q_1 cA_2 H hK1 hP hD hS => ?_)
  obtain rfl : cA_2 = K 0 := Option.some.inj ((hK1.2 8 (cA_2, .int) rfl).2.symm.trans (hK.2 0 (K 0, .int) rfl).2)
  have hP : va_P (dC, dI) vwCl [(h0, .inr (1, fs_0)), (q_1, .inl (K 0, 4, .inl (fun _ => 0)))] H := hP
  have hD : va_D A [(h0, .inr (1, fs_0)), (q_1, .inl (K 0, 4, .inl (fun _ => 0)))] := hD
  refine va_putF (D := (dC, dI)) (ci := 1) (v := .ref q_1) (ty := .array (.int)) (C := RX1) (T := TX1) (N := 9) hx hb hts uB1 tyX1 tyX1_ok nmX1 hown hK hP hD hS 0 rfl rfl 0 (by decide) (hts _ wm_242) (fun _ h9 => h9) rfl hin rfl (by decide +kernel) rfl rfl (by rw [hlen_h0]; decide) dX1_init_8 (fun H locs hP hD hS => ?_)
  obtain ⟨fs_3, efs_3⟩ : ∃ z9, z9 = (fs_0).set 0 (.ref q_1) := ⟨_, rfl⟩
  have hP : va_P (dC, dI) vwCl [(h0, .inr (1, fs_3)), (q_1, .inl (K 0, 4, .inl (fun _ => 0)))] H := by rw [efs_3]; exact hP
  have hD : va_D A [(h0, .inr (1, fs_3)), (q_1, .inl (K 0, 4, .inl (fun _ => 0)))] := by rw [efs_3]; exact hD
  have hf1_h0 : fs_3[1]? = some (.null) := by rw [efs_3, List.getElem?_set_ne (by decide)]; exact hf1_h0
  have hf2_h0 : fs_3[2]? = some (.null) := by rw [efs_3, List.getElem?_set_ne (by decide)]; exact hf2_h0
  have hf3_h0 : fs_3[3]? = some (.null) := by rw [efs_3, List.getElem?_set_ne (by decide)]; exact hf3_h0
  have hf4_h0 : fs_3[4]? = some (.null) := by rw [efs_3, List.getElem?_set_ne (by decide)]; exact hf4_h0
  have hf5_h0 : fs_3[5]? = some (.int 0) := by rw [efs_3, List.getElem?_set_ne (by decide)]; exact hf5_h0
  have hf6_h0 : fs_3[6]? = some (.int 0) := by rw [efs_3, List.getElem?_set_ne (by decide)]; exact hf6_h0
  have hf7_h0 : fs_3[7]? = some (.long 0) := by rw [efs_3, List.getElem?_set_ne (by decide)]; exact hf7_h0
  have hf8_h0 : fs_3[8]? = some (.long 0) := by rw [efs_3, List.getElem?_set_ne (by decide)]; exact hf8_h0
  have hf0_h0 : fs_3[0]? = some (.ref q_1) := by rw [efs_3]; exact List.getElem?_set_self (by rw [hlen_h0]; decide)
  have hlen_h0 : fs_3.length = 9 := by rw [efs_3, List.length_set]; exact hlen_h0
  refine lv_aload_n hx hb dX1_init_11 rfl (lv_at hl 0 rfl) ?_
  refine lv_iconst (v := 4) hx hb dX1_init_12 (by decide) ?_
  refine va_newa (atype := .int) (N' := 4) (a0 := (4, .inl (fun _ => 0))) hx hb (hts _ wm_470) rfl hK hP hD hS hA (fun _ => rfl) (by decide) rfl (Nat.le_of_ble_eq_true rfl) (Nat.le_of_ble_eq_true rfl) (Nat.le_of_ble_eq_true rfl) dX1_init_13 (fun q_4 cA_5 H hK1 hP hD hS => ?_)
  obtain rfl : cA_5 = K 0 := Option.some.inj ((hK1.2 8 (cA_5, .int) rfl).2.symm.trans (hK.2 0 (K 0, .int) rfl).2)
  have hP : va_P (dC, dI) vwCl [(h0, .inr (1, fs_3)), (q_1, .inl (K 0, 4, .inl (fun _ => 0))), (q_4, .inl (K 0, 4, .inl (fun _ => 0)))] H := hP
  have hD : va_D A [(h0, .inr (1, fs_3)), (q_1, .inl (K 0, 4, .inl (fun _ => 0))), (q_4, .inl (K 0, 4, .inl (fun _ => 0)))] := hD
  refine va_putF (D := (dC, dI)) (ci := 1) (v := .ref q_4) (ty := .array (.int)) (C := RX1) (T := TX1) (N := 9) hx hb hts uB1 tyX1 tyX1_ok nmX1 hown hK hP hD hS 0 rfl rfl 1 (by decide) (hts _ wm_243) (fun _ h9 => h9) rfl hin rfl (by decide +kernel) rfl rfl (by rw [hlen_h0]; decide) dX1_init_15 (fun H locs hP hD hS => ?_)
  obtain ⟨fs_6, efs_6⟩ : ∃ z9, z9 = (fs_3).set 1 (.ref q_4) := ⟨_, rfl⟩
  have hP : va_P (dC, dI) vwCl [(h0, .inr (1, fs_6)), (q_1, .inl (K 0, 4, .inl (fun _ => 0))), (q_4, .inl (K 0, 4, .inl (fun _ => 0)))] H := by rw [efs_6]; exact hP
  have hD : va_D A [(h0, .inr (1, fs_6)), (q_1, .inl (K 0, 4, .inl (fun _ => 0))), (q_4, .inl (K 0, 4, .inl (fun _ => 0)))] := by rw [efs_6]; exact hD
  have hf0_h0 : fs_6[0]? = some (.ref q_1) := by rw [efs_6, List.getElem?_set_ne (by decide)]; exact hf0_h0
  have hf2_h0 : fs_6[2]? = some (.null) := by rw [efs_6, List.getElem?_set_ne (by decide)]; exact hf2_h0
  have hf3_h0 : fs_6[3]? = some (.null) := by rw [efs_6, List.getElem?_set_ne (by decide)]; exact hf3_h0
  have hf4_h0 : fs_6[4]? = some (.null) := by rw [efs_6, List.getElem?_set_ne (by decide)]; exact hf4_h0
  have hf5_h0 : fs_6[5]? = some (.int 0) := by rw [efs_6, List.getElem?_set_ne (by decide)]; exact hf5_h0
  have hf6_h0 : fs_6[6]? = some (.int 0) := by rw [efs_6, List.getElem?_set_ne (by decide)]; exact hf6_h0
  have hf7_h0 : fs_6[7]? = some (.long 0) := by rw [efs_6, List.getElem?_set_ne (by decide)]; exact hf7_h0
  have hf8_h0 : fs_6[8]? = some (.long 0) := by rw [efs_6, List.getElem?_set_ne (by decide)]; exact hf8_h0
  have hf1_h0 : fs_6[1]? = some (.ref q_4) := by rw [efs_6]; exact List.getElem?_set_self (by rw [hlen_h0]; decide)
  have hlen_h0 : fs_6.length = 9 := by rw [efs_6, List.length_set]; exact hlen_h0
  refine lv_aload_n hx hb dX1_init_18 rfl (lv_at hl 0 rfl) ?_
  refine lv_iconst (v := 4) hx hb dX1_init_19 (by decide) ?_
  refine lv_bipush (v := 40) hx hb dX1_init_20 (by decide) ?_
  have hP0 := hP
  have hS0 := hS
  refine k_grid2 (ty := .long) (K := 40) hx hb hown (hts _ wm_527) hex.1 (hts _ wm_528) (by decide) rfl (Nat.le_of_ble_eq_true rfl) (Nat.le_of_ble_eq_true rfl) rfl (Nat.le_of_ble_eq_true rfl) (Nat.le_of_ble_eq_true rfl) dX1_init_22 hP hS hA (fun q_7 cA_ cB_ H locs hq hnA hnC hg0 hg1 hP hS => ?_)
  obtain rfl : cA_ = K 6 := Option.some.inj (hnA.symm.trans (hK.2 6 (K 6, .array .long) rfl).2)
  obtain rfl : cB_ = K 1 := Option.some.inj (hnC.symm.trans (hK.2 1 (K 1, .long) rfl).2)
  have hD := va_D_ap (N := q_7) (ws2 := gW q_7 (K 6) (K 1) (40, .inr (.inl (fun _ => 0)))) hD (fun k x h => by rw [hq]; exact (hP0 k x h).lt) ⟨fun i j x y hi hj hxy => by have a1 := (gW_at i x hi).1; have a2 := (gW_at j y hj).1; omega, fun k x h => by have a1 := (gW_at k x h).1; rw [a1]; exact hA _ (by have := hS0.1; omega)⟩ (fun k x h => by have a1 := (gW_at k x h).1; omega)
  have hP := hP.app (gW_P (D := (dC, dI)) (cl := vwCl) (a := (40, .inr (.inl (fun _ => 0)))) rfl hg0 hg1)
  have hP : va_P (dC, dI) vwCl [(h0, .inr (1, fs_6)), (q_1, .inl (K 0, 4, .inl (fun _ => 0))), (q_4, .inl (K 0, 4, .inl (fun _ => 0))), (q_7, .inl (K 6, 4, .inr (.inr (.inr (.inr (fun i => if i < 4 then some (q_7 + 1 + i) else none)))))), (q_7 + 1, .inl (K 1, 40, .inr (.inl (fun _ => 0)))), (q_7 + 2, .inl (K 1, 40, .inr (.inl (fun _ => 0)))), (q_7 + 3, .inl (K 1, 40, .inr (.inl (fun _ => 0)))), (q_7 + 4, .inl (K 1, 40, .inr (.inl (fun _ => 0))))] H := hP
  have hD : va_D A [(h0, .inr (1, fs_6)), (q_1, .inl (K 0, 4, .inl (fun _ => 0))), (q_4, .inl (K 0, 4, .inl (fun _ => 0))), (q_7, .inl (K 6, 4, .inr (.inr (.inr (.inr (fun i => if i < 4 then some (q_7 + 1 + i) else none)))))), (q_7 + 1, .inl (K 1, 40, .inr (.inl (fun _ => 0)))), (q_7 + 2, .inl (K 1, 40, .inr (.inl (fun _ => 0)))), (q_7 + 3, .inl (K 1, 40, .inr (.inl (fun _ => 0)))), (q_7 + 4, .inl (K 1, 40, .inr (.inl (fun _ => 0))))] := hD
  refine va_putF (D := (dC, dI)) (ci := 1) (v := .ref q_7) (ty := .array (.array (.long))) (C := RX1) (T := TX1) (N := 9) hx hb hts uB1 tyX1 tyX1_ok nmX1 hown hK hP hD hS 0 rfl rfl 2 (by decide) (hts _ wm_231) (fun _ h9 => h9) rfl hin rfl (by decide +kernel) rfl rfl (by rw [hlen_h0]; decide) dX1_init_26 (fun H locs hP hD hS => ?_)
  obtain ⟨fs_8, efs_8⟩ : ∃ z9, z9 = (fs_6).set 2 (.ref q_7) := ⟨_, rfl⟩
  have hP : va_P (dC, dI) vwCl [(h0, .inr (1, fs_8)), (q_1, .inl (K 0, 4, .inl (fun _ => 0))), (q_4, .inl (K 0, 4, .inl (fun _ => 0))), (q_7, .inl (K 6, 4, .inr (.inr (.inr (.inr (fun i => if i < 4 then some (q_7 + 1 + i) else none)))))), (q_7 + 1, .inl (K 1, 40, .inr (.inl (fun _ => 0)))), (q_7 + 2, .inl (K 1, 40, .inr (.inl (fun _ => 0)))), (q_7 + 3, .inl (K 1, 40, .inr (.inl (fun _ => 0)))), (q_7 + 4, .inl (K 1, 40, .inr (.inl (fun _ => 0))))] H := by rw [efs_8]; exact hP
  have hD : va_D A [(h0, .inr (1, fs_8)), (q_1, .inl (K 0, 4, .inl (fun _ => 0))), (q_4, .inl (K 0, 4, .inl (fun _ => 0))), (q_7, .inl (K 6, 4, .inr (.inr (.inr (.inr (fun i => if i < 4 then some (q_7 + 1 + i) else none)))))), (q_7 + 1, .inl (K 1, 40, .inr (.inl (fun _ => 0)))), (q_7 + 2, .inl (K 1, 40, .inr (.inl (fun _ => 0)))), (q_7 + 3, .inl (K 1, 40, .inr (.inl (fun _ => 0)))), (q_7 + 4, .inl (K 1, 40, .inr (.inl (fun _ => 0))))] := by rw [efs_8]; exact hD
  have hf0_h0 : fs_8[0]? = some (.ref q_1) := by rw [efs_8, List.getElem?_set_ne (by decide)]; exact hf0_h0
  have hf1_h0 : fs_8[1]? = some (.ref q_4) := by rw [efs_8, List.getElem?_set_ne (by decide)]; exact hf1_h0
  have hf3_h0 : fs_8[3]? = some (.null) := by rw [efs_8, List.getElem?_set_ne (by decide)]; exact hf3_h0
  have hf4_h0 : fs_8[4]? = some (.null) := by rw [efs_8, List.getElem?_set_ne (by decide)]; exact hf4_h0
  have hf5_h0 : fs_8[5]? = some (.int 0) := by rw [efs_8, List.getElem?_set_ne (by decide)]; exact hf5_h0
  have hf6_h0 : fs_8[6]? = some (.int 0) := by rw [efs_8, List.getElem?_set_ne (by decide)]; exact hf6_h0
  have hf7_h0 : fs_8[7]? = some (.long 0) := by rw [efs_8, List.getElem?_set_ne (by decide)]; exact hf7_h0
  have hf8_h0 : fs_8[8]? = some (.long 0) := by rw [efs_8, List.getElem?_set_ne (by decide)]; exact hf8_h0
  have hf2_h0 : fs_8[2]? = some (.ref q_7) := by rw [efs_8]; exact List.getElem?_set_self (by rw [hlen_h0]; decide)
  have hlen_h0 : fs_8.length = 9 := by rw [efs_8, List.length_set]; exact hlen_h0
  refine lv_aload_n hx hb dX1_init_29 rfl (lv_at hl 0 rfl) ?_
  refine lv_iconst (v := 4) hx hb dX1_init_30 (by decide) ?_
  refine lv_bipush (v := 40) hx hb dX1_init_31 (by decide) ?_
  have hP0 := hP
  have hS0 := hS
  refine k_grid2 (ty := .int) (K := 40) hx hb hown (hts _ wm_529) hex.2 (hts _ wm_470) (by decide) rfl (Nat.le_of_ble_eq_true rfl) (Nat.le_of_ble_eq_true rfl) rfl (Nat.le_of_ble_eq_true rfl) (Nat.le_of_ble_eq_true rfl) dX1_init_33 hP hS hA (fun q_9 cA_ cB_ H locs hq hnA hnC hg0 hg1 hP hS => ?_)
  obtain rfl : cA_ = K 7 := Option.some.inj (hnA.symm.trans (hK.2 7 (K 7, .array .int) rfl).2)
  obtain rfl : cB_ = K 0 := Option.some.inj (hnC.symm.trans (hK.2 0 (K 0, .int) rfl).2)
  have hD := va_D_ap (N := q_9) (ws2 := gW q_9 (K 7) (K 0) (40, .inl (fun _ => 0))) hD (fun k x h => by rw [hq]; exact (hP0 k x h).lt) ⟨fun i j x y hi hj hxy => by have a1 := (gW_at i x hi).1; have a2 := (gW_at j y hj).1; omega, fun k x h => by have a1 := (gW_at k x h).1; rw [a1]; exact hA _ (by have := hS0.1; omega)⟩ (fun k x h => by have a1 := (gW_at k x h).1; omega)
  have hP := hP.app (gW_P (D := (dC, dI)) (cl := vwCl) (a := (40, .inl (fun _ => 0))) rfl hg0 hg1)
  have hP : va_P (dC, dI) vwCl [(h0, .inr (1, fs_8)), (q_1, .inl (K 0, 4, .inl (fun _ => 0))), (q_4, .inl (K 0, 4, .inl (fun _ => 0))), (q_7, .inl (K 6, 4, .inr (.inr (.inr (.inr (fun i => if i < 4 then some (q_7 + 1 + i) else none)))))), (q_7 + 1, .inl (K 1, 40, .inr (.inl (fun _ => 0)))), (q_7 + 2, .inl (K 1, 40, .inr (.inl (fun _ => 0)))), (q_7 + 3, .inl (K 1, 40, .inr (.inl (fun _ => 0)))), (q_7 + 4, .inl (K 1, 40, .inr (.inl (fun _ => 0)))), (q_9, .inl (K 7, 4, .inr (.inr (.inr (.inr (fun i => if i < 4 then some (q_9 + 1 + i) else none)))))), (q_9 + 1, .inl (K 0, 40, .inl (fun _ => 0))), (q_9 + 2, .inl (K 0, 40, .inl (fun _ => 0))), (q_9 + 3, .inl (K 0, 40, .inl (fun _ => 0))), (q_9 + 4, .inl (K 0, 40, .inl (fun _ => 0)))] H := hP
  have hD : va_D A [(h0, .inr (1, fs_8)), (q_1, .inl (K 0, 4, .inl (fun _ => 0))), (q_4, .inl (K 0, 4, .inl (fun _ => 0))), (q_7, .inl (K 6, 4, .inr (.inr (.inr (.inr (fun i => if i < 4 then some (q_7 + 1 + i) else none)))))), (q_7 + 1, .inl (K 1, 40, .inr (.inl (fun _ => 0)))), (q_7 + 2, .inl (K 1, 40, .inr (.inl (fun _ => 0)))), (q_7 + 3, .inl (K 1, 40, .inr (.inl (fun _ => 0)))), (q_7 + 4, .inl (K 1, 40, .inr (.inl (fun _ => 0)))), (q_9, .inl (K 7, 4, .inr (.inr (.inr (.inr (fun i => if i < 4 then some (q_9 + 1 + i) else none)))))), (q_9 + 1, .inl (K 0, 40, .inl (fun _ => 0))), (q_9 + 2, .inl (K 0, 40, .inl (fun _ => 0))), (q_9 + 3, .inl (K 0, 40, .inl (fun _ => 0))), (q_9 + 4, .inl (K 0, 40, .inl (fun _ => 0)))] := hD
  refine va_putF (D := (dC, dI)) (ci := 1) (v := .ref q_9) (ty := .array (.array (.int))) (C := RX1) (T := TX1) (N := 9) hx hb hts uB1 tyX1 tyX1_ok nmX1 hown hK hP hD hS 0 rfl rfl 3 (by decide) (hts _ wm_234) (fun _ h9 => h9) rfl hin rfl (by decide +kernel) rfl rfl (by rw [hlen_h0]; decide) dX1_init_37 (fun H locs hP hD hS => ?_)
  obtain ⟨fs_10, efs_10⟩ : ∃ z9, z9 = (fs_8).set 3 (.ref q_9) := ⟨_, rfl⟩
  have hP : va_P (dC, dI) vwCl [(h0, .inr (1, fs_10)), (q_1, .inl (K 0, 4, .inl (fun _ => 0))), (q_4, .inl (K 0, 4, .inl (fun _ => 0))), (q_7, .inl (K 6, 4, .inr (.inr (.inr (.inr (fun i => if i < 4 then some (q_7 + 1 + i) else none)))))), (q_7 + 1, .inl (K 1, 40, .inr (.inl (fun _ => 0)))), (q_7 + 2, .inl (K 1, 40, .inr (.inl (fun _ => 0)))), (q_7 + 3, .inl (K 1, 40, .inr (.inl (fun _ => 0)))), (q_7 + 4, .inl (K 1, 40, .inr (.inl (fun _ => 0)))), (q_9, .inl (K 7, 4, .inr (.inr (.inr (.inr (fun i => if i < 4 then some (q_9 + 1 + i) else none)))))), (q_9 + 1, .inl (K 0, 40, .inl (fun _ => 0))), (q_9 + 2, .inl (K 0, 40, .inl (fun _ => 0))), (q_9 + 3, .inl (K 0, 40, .inl (fun _ => 0))), (q_9 + 4, .inl (K 0, 40, .inl (fun _ => 0)))] H := by rw [efs_10]; exact hP
  have hD : va_D A [(h0, .inr (1, fs_10)), (q_1, .inl (K 0, 4, .inl (fun _ => 0))), (q_4, .inl (K 0, 4, .inl (fun _ => 0))), (q_7, .inl (K 6, 4, .inr (.inr (.inr (.inr (fun i => if i < 4 then some (q_7 + 1 + i) else none)))))), (q_7 + 1, .inl (K 1, 40, .inr (.inl (fun _ => 0)))), (q_7 + 2, .inl (K 1, 40, .inr (.inl (fun _ => 0)))), (q_7 + 3, .inl (K 1, 40, .inr (.inl (fun _ => 0)))), (q_7 + 4, .inl (K 1, 40, .inr (.inl (fun _ => 0)))), (q_9, .inl (K 7, 4, .inr (.inr (.inr (.inr (fun i => if i < 4 then some (q_9 + 1 + i) else none)))))), (q_9 + 1, .inl (K 0, 40, .inl (fun _ => 0))), (q_9 + 2, .inl (K 0, 40, .inl (fun _ => 0))), (q_9 + 3, .inl (K 0, 40, .inl (fun _ => 0))), (q_9 + 4, .inl (K 0, 40, .inl (fun _ => 0)))] := by rw [efs_10]; exact hD
  have hf0_h0 : fs_10[0]? = some (.ref q_1) := by rw [efs_10, List.getElem?_set_ne (by decide)]; exact hf0_h0
  have hf1_h0 : fs_10[1]? = some (.ref q_4) := by rw [efs_10, List.getElem?_set_ne (by decide)]; exact hf1_h0
  have hf2_h0 : fs_10[2]? = some (.ref q_7) := by rw [efs_10, List.getElem?_set_ne (by decide)]; exact hf2_h0
  have hf4_h0 : fs_10[4]? = some (.null) := by rw [efs_10, List.getElem?_set_ne (by decide)]; exact hf4_h0
  have hf5_h0 : fs_10[5]? = some (.int 0) := by rw [efs_10, List.getElem?_set_ne (by decide)]; exact hf5_h0
  have hf6_h0 : fs_10[6]? = some (.int 0) := by rw [efs_10, List.getElem?_set_ne (by decide)]; exact hf6_h0
  have hf7_h0 : fs_10[7]? = some (.long 0) := by rw [efs_10, List.getElem?_set_ne (by decide)]; exact hf7_h0
  have hf8_h0 : fs_10[8]? = some (.long 0) := by rw [efs_10, List.getElem?_set_ne (by decide)]; exact hf8_h0
  have hf3_h0 : fs_10[3]? = some (.ref q_9) := by rw [efs_10]; exact List.getElem?_set_self (by rw [hlen_h0]; decide)
  have hlen_h0 : fs_10.length = 9 := by rw [efs_10, List.length_set]; exact hlen_h0
  refine lv_aload_n hx hb dX1_init_40 rfl (lv_at hl 0 rfl) ?_
  refine lv_bipush (v := 40) hx hb dX1_init_41 (by decide) ?_
  refine va_newa (atype := .long) (N' := 40) (a0 := (40, .inr (.inl (fun _ => 0)))) hx hb (hts _ wm_528) rfl hK hP hD hS hA (fun _ => rfl) (by decide) rfl (Nat.le_of_ble_eq_true rfl) (Nat.le_of_ble_eq_true rfl) (Nat.le_of_ble_eq_true rfl) dX1_init_43 (fun q_11 cA_12 H hK1 hP hD hS => ?_)
  obtain rfl : cA_12 = K 1 := Option.some.inj ((hK1.2 8 (cA_12, .long) rfl).2.symm.trans (hK.2 1 (K 1, .long) rfl).2)
  have hP : va_P (dC, dI) vwCl [(h0, .inr (1, fs_10)), (q_1, .inl (K 0, 4, .inl (fun _ => 0))), (q_4, .inl (K 0, 4, .inl (fun _ => 0))), (q_7, .inl (K 6, 4, .inr (.inr (.inr (.inr (fun i => if i < 4 then some (q_7 + 1 + i) else none)))))), (q_7 + 1, .inl (K 1, 40, .inr (.inl (fun _ => 0)))), (q_7 + 2, .inl (K 1, 40, .inr (.inl (fun _ => 0)))), (q_7 + 3, .inl (K 1, 40, .inr (.inl (fun _ => 0)))), (q_7 + 4, .inl (K 1, 40, .inr (.inl (fun _ => 0)))), (q_9, .inl (K 7, 4, .inr (.inr (.inr (.inr (fun i => if i < 4 then some (q_9 + 1 + i) else none)))))), (q_9 + 1, .inl (K 0, 40, .inl (fun _ => 0))), (q_9 + 2, .inl (K 0, 40, .inl (fun _ => 0))), (q_9 + 3, .inl (K 0, 40, .inl (fun _ => 0))), (q_9 + 4, .inl (K 0, 40, .inl (fun _ => 0))), (q_11, .inl (K 1, 40, .inr (.inl (fun _ => 0))))] H := hP
  have hD : va_D A [(h0, .inr (1, fs_10)), (q_1, .inl (K 0, 4, .inl (fun _ => 0))), (q_4, .inl (K 0, 4, .inl (fun _ => 0))), (q_7, .inl (K 6, 4, .inr (.inr (.inr (.inr (fun i => if i < 4 then some (q_7 + 1 + i) else none)))))), (q_7 + 1, .inl (K 1, 40, .inr (.inl (fun _ => 0)))), (q_7 + 2, .inl (K 1, 40, .inr (.inl (fun _ => 0)))), (q_7 + 3, .inl (K 1, 40, .inr (.inl (fun _ => 0)))), (q_7 + 4, .inl (K 1, 40, .inr (.inl (fun _ => 0)))), (q_9, .inl (K 7, 4, .inr (.inr (.inr (.inr (fun i => if i < 4 then some (q_9 + 1 + i) else none)))))), (q_9 + 1, .inl (K 0, 40, .inl (fun _ => 0))), (q_9 + 2, .inl (K 0, 40, .inl (fun _ => 0))), (q_9 + 3, .inl (K 0, 40, .inl (fun _ => 0))), (q_9 + 4, .inl (K 0, 40, .inl (fun _ => 0))), (q_11, .inl (K 1, 40, .inr (.inl (fun _ => 0))))] := hD
  refine va_putF (D := (dC, dI)) (ci := 1) (v := .ref q_11) (ty := .array (.long)) (C := RX1) (T := TX1) (N := 9) hx hb hts uB1 tyX1 tyX1_ok nmX1 hown hK hP hD hS 0 rfl rfl 4 (by decide) (hts _ wm_230) (fun _ h9 => h9) rfl hin rfl (by decide +kernel) rfl rfl (by rw [hlen_h0]; decide) dX1_init_45 (fun H locs hP hD hS => ?_)
  obtain ⟨fs_13, efs_13⟩ : ∃ z9, z9 = (fs_10).set 4 (.ref q_11) := ⟨_, rfl⟩
  have hP : va_P (dC, dI) vwCl [(h0, .inr (1, fs_13)), (q_1, .inl (K 0, 4, .inl (fun _ => 0))), (q_4, .inl (K 0, 4, .inl (fun _ => 0))), (q_7, .inl (K 6, 4, .inr (.inr (.inr (.inr (fun i => if i < 4 then some (q_7 + 1 + i) else none)))))), (q_7 + 1, .inl (K 1, 40, .inr (.inl (fun _ => 0)))), (q_7 + 2, .inl (K 1, 40, .inr (.inl (fun _ => 0)))), (q_7 + 3, .inl (K 1, 40, .inr (.inl (fun _ => 0)))), (q_7 + 4, .inl (K 1, 40, .inr (.inl (fun _ => 0)))), (q_9, .inl (K 7, 4, .inr (.inr (.inr (.inr (fun i => if i < 4 then some (q_9 + 1 + i) else none)))))), (q_9 + 1, .inl (K 0, 40, .inl (fun _ => 0))), (q_9 + 2, .inl (K 0, 40, .inl (fun _ => 0))), (q_9 + 3, .inl (K 0, 40, .inl (fun _ => 0))), (q_9 + 4, .inl (K 0, 40, .inl (fun _ => 0))), (q_11, .inl (K 1, 40, .inr (.inl (fun _ => 0))))] H := by rw [efs_13]; exact hP
  have hD : va_D A [(h0, .inr (1, fs_13)), (q_1, .inl (K 0, 4, .inl (fun _ => 0))), (q_4, .inl (K 0, 4, .inl (fun _ => 0))), (q_7, .inl (K 6, 4, .inr (.inr (.inr (.inr (fun i => if i < 4 then some (q_7 + 1 + i) else none)))))), (q_7 + 1, .inl (K 1, 40, .inr (.inl (fun _ => 0)))), (q_7 + 2, .inl (K 1, 40, .inr (.inl (fun _ => 0)))), (q_7 + 3, .inl (K 1, 40, .inr (.inl (fun _ => 0)))), (q_7 + 4, .inl (K 1, 40, .inr (.inl (fun _ => 0)))), (q_9, .inl (K 7, 4, .inr (.inr (.inr (.inr (fun i => if i < 4 then some (q_9 + 1 + i) else none)))))), (q_9 + 1, .inl (K 0, 40, .inl (fun _ => 0))), (q_9 + 2, .inl (K 0, 40, .inl (fun _ => 0))), (q_9 + 3, .inl (K 0, 40, .inl (fun _ => 0))), (q_9 + 4, .inl (K 0, 40, .inl (fun _ => 0))), (q_11, .inl (K 1, 40, .inr (.inl (fun _ => 0))))] := by rw [efs_13]; exact hD
  have hf0_h0 : fs_13[0]? = some (.ref q_1) := by rw [efs_13, List.getElem?_set_ne (by decide)]; exact hf0_h0
  have hf1_h0 : fs_13[1]? = some (.ref q_4) := by rw [efs_13, List.getElem?_set_ne (by decide)]; exact hf1_h0
  have hf2_h0 : fs_13[2]? = some (.ref q_7) := by rw [efs_13, List.getElem?_set_ne (by decide)]; exact hf2_h0
  have hf3_h0 : fs_13[3]? = some (.ref q_9) := by rw [efs_13, List.getElem?_set_ne (by decide)]; exact hf3_h0
  have hf5_h0 : fs_13[5]? = some (.int 0) := by rw [efs_13, List.getElem?_set_ne (by decide)]; exact hf5_h0
  have hf6_h0 : fs_13[6]? = some (.int 0) := by rw [efs_13, List.getElem?_set_ne (by decide)]; exact hf6_h0
  have hf7_h0 : fs_13[7]? = some (.long 0) := by rw [efs_13, List.getElem?_set_ne (by decide)]; exact hf7_h0
  have hf8_h0 : fs_13[8]? = some (.long 0) := by rw [efs_13, List.getElem?_set_ne (by decide)]; exact hf8_h0
  have hf4_h0 : fs_13[4]? = some (.ref q_11) := by rw [efs_13]; exact List.getElem?_set_self (by rw [hlen_h0]; decide)
  have hlen_h0 : fs_13.length = 9 := by rw [efs_13, List.length_set]; exact hlen_h0
  exact W.vret hx hb hr (fun t ht hW => ⟨⟨(fs_13, q_1, q_4, q_7, q_9, q_11), rfl, ⟨hlen_h0, hf0_h0, hf1_h0, hf2_h0, hf3_h0, hf4_h0, hf5_h0, hf6_h0, hf7_h0, hf8_h0⟩, by show va_P (dC, dI) vwCl [(h0, .inr (1, fs_13)), (q_1, .inl (K 0, 4, .inl (fun _ => 0))), (q_4, .inl (K 0, 4, .inl (fun _ => 0))), (q_7, .inl (K 6, 4, .inr (.inr (.inr (.inr (fun i => if i < 4 then some (q_7 + 1 + i) else none)))))), (q_7 + 1, .inl (K 1, 40, .inr (.inl (fun _ => 0)))), (q_7 + 2, .inl (K 1, 40, .inr (.inl (fun _ => 0)))), (q_7 + 3, .inl (K 1, 40, .inr (.inl (fun _ => 0)))), (q_7 + 4, .inl (K 1, 40, .inr (.inl (fun _ => 0)))), (q_9, .inl (K 7, 4, .inr (.inr (.inr (.inr (fun i => if i < 4 then some (q_9 + 1 + i) else none)))))), (q_9 + 1, .inl (K 0, 40, .inl (fun _ => 0))), (q_9 + 2, .inl (K 0, 40, .inl (fun _ => 0))), (q_9 + 3, .inl (K 0, 40, .inl (fun _ => 0))), (q_9 + 4, .inl (K 0, 40, .inl (fun _ => 0))), (q_11, .inl (K 1, 40, .inr (.inl (fun _ => 0))))] t.heap; rw [ht]; exact hP, hD⟩, hS.F ht⟩) hS.2.2 dX1_init_48
set_option maxHeartbeats 8000000 in
set_option maxRecDepth 100000 in
theorem n_Class (l : Launch) (dC : Nat → ClassId) (dI : Nat → Nat → Nat) (K : Nat → ClassId) (sz : Nat) (h0 : Nat) : mNk (S := List Value × Nat × Nat × Nat × Nat × Nat × Nat × Nat × List Value × Nat × Nat × Nat × Nat × Nat) l yX5_init cX5_init 1 3 20 1541 (dC, dI) K h0 5 [.null, .null, .null, .null, .null, .null, .null, .int 0, .int 0, .int 0, .int 0, .int 0, .int 0, .int 0, .int 0, .int 0, .int 0] sz exC [.ref h0] (fun u => match u with | (f, qp, qc, qs, qm, qg, qv, qr, fg, gc, gt, gw, go, ga) => f.length = 17 ∧ f[0]? = some (.ref qp) ∧ f[1]? = some (.ref qc) ∧ f[2]? = some (.ref qs) ∧ f[3]? = some (.ref qm) ∧ f[4]? = some (.ref qg) ∧ f[5]? = some (.ref qv) ∧ f[6]? = some (.ref qr) ∧ f[7]? = some (.int 0) ∧ f[8]? = some (.int 0) ∧ f[9]? = some (.int 0) ∧ f[10]? = some (.int 0) ∧ f[11]? = some (.int 0) ∧ f[12]? = some (.int 0) ∧ f[13]? = some (.int 0) ∧ f[14]? = some (.int 0) ∧ f[15]? = some (.int 50) ∧ f[16]? = some (.int 10000) ∧ fg.length = 9 ∧ fg[0]? = some (.ref gc) ∧ fg[1]? = some (.ref gt) ∧ fg[2]? = some (.ref gw) ∧ fg[3]? = some (.ref go) ∧ fg[4]? = some (.ref ga) ∧ fg[5]? = some (.int 0) ∧ fg[6]? = some (.int 0) ∧ fg[7]? = some (.long 0) ∧ fg[8]? = some (.long 0)) (fun u => match u with | (f, qp, qc, qs, qm, qg, qv, qr, fg, gc, gt, gw, go, ga) => [(h0, .inr (5, f)), (qp, .inl (K 3, 8, .inr (.inr (.inr (.inr (fun _ => none)))))), (qc, .inl (K 4, 40, .inr (.inr (.inr (.inr (fun _ => none)))))), (qs, .inl (K 5, 1000, .inr (.inr (.inr (.inr (fun _ => none)))))), (qm, .inl (K 0, 100, .inl (fun _ => 0))), (qg, .inr (1, fg)), (gc, .inl (K 0, 4, .inl (fun _ => 0))), (gt, .inl (K 0, 4, .inl (fun _ => 0))), (gw, .inl (K 6, 4, .inr (.inr (.inr (.inr (fun i => if i < 4 then some (gw + 1 + i) else none)))))), (gw + 1, .inl (K 1, 40, .inr (.inl (fun _ => 0)))), (gw + 2, .inl (K 1, 40, .inr (.inl (fun _ => 0)))), (gw + 3, .inl (K 1, 40, .inr (.inl (fun _ => 0)))), (gw + 4, .inl (K 1, 40, .inr (.inl (fun _ => 0)))), (go, .inl (K 7, 4, .inr (.inr (.inr (.inr (fun i => if i < 4 then some (go + 1 + i) else none)))))), (go + 1, .inl (K 0, 40, .inl (fun _ => 0))), (go + 2, .inl (K 0, 40, .inl (fun _ => 0))), (go + 3, .inl (K 0, 40, .inl (fun _ => 0))), (go + 4, .inl (K 0, 40, .inl (fun _ => 0))), (ga, .inl (K 1, 40, .inr (.inl (fun _ => 0)))), (qv, .inl (K 0, 4, .inl (fun _ => 0))), (qr, .inl (K 0, 4, .inl (fun _ => 0)))]) := by
  refine Met.ofW (cc := cX5_init) (maxL := 1) (ret := none) (by decide) rfl ?_
  intro p e s m args below meth c s₁ B hml hv
  obtain ⟨rfl, hsz, hP, hK, hD0, hex⟩ := hv
  subst hsz
  have hx := B.exec
  have hb := B.bytes
  have hr := B.returns
  have hlocks := B.notSynchronized
  have hts0 := atoms_spec (ws := Cond.code yX5_init cX5_init 1 none :: lw_B) B.pre
  have hts : ∀ w ∈ lw_B, w.before _ s = true := fun w h => hts0 w (List.mem_cons_of_mem _ h)
  have hown : s.vm.findClass RX5 = some m.cls := findClass_of_methodNamed B.named
  have hin : meth.name = "<init>" := (name_of_methodNamed B.named B.method).1
  have hD := hD0.self (sz := s.heap.size)
  generalize hAe : va_A [(h0, .inr (5, [.null, .null, .null, .null, .null, .null, .null, .int 0, .int 0, .int 0, .int 0, .int 0, .int 0, .int 0, .int 0, .int 0, .int 0]))] s.heap.size = A at hD ⊢
  have hA : ∀ q : Nat, s.heap.size ≤ q → A q := fun q h => by rw [← hAe]; exact Or.inr h
  have hS : va_S A s.heap s.heap [] := va_S.rf
  have hl := lv_entry ([.ref h0]) (n := 1) (Nat.le_of_ble_eq_true rfl)
  rw [lg_entry_eq]
  generalize (lg_sl ([.ref h0]) ++ List.replicate (1 - (lg_sl ([.ref h0])).length) Slot.unset).toArray = ls at hl ⊢
  have hl : lv_has ls 1 [(0, .ref h0)] := hl
  obtain ⟨fs_0, efs_0⟩ : ∃ z9 : List Value, z9 = [.null, .null, .null, .null, .null, .null, .null, .int 0, .int 0, .int 0, .int 0, .int 0, .int 0, .int 0, .int 0, .int 0, .int 0] := ⟨_, rfl⟩
  have hP : va_P (dC, dI) vwCl [(h0, .inr (5, fs_0))] s.heap := by rw [efs_0]; exact hP
  have hD : va_D A [(h0, .inr (5, fs_0))] := by rw [efs_0]; exact hD
  have hlen_h0 : fs_0.length = 17 := by rw [efs_0]; rfl
  have hf0_h0 : fs_0[0]? = some (.null) := by rw [efs_0]; rfl
  have hf1_h0 : fs_0[1]? = some (.null) := by rw [efs_0]; rfl
  have hf2_h0 : fs_0[2]? = some (.null) := by rw [efs_0]; rfl
  have hf3_h0 : fs_0[3]? = some (.null) := by rw [efs_0]; rfl
  have hf4_h0 : fs_0[4]? = some (.null) := by rw [efs_0]; rfl
  have hf5_h0 : fs_0[5]? = some (.null) := by rw [efs_0]; rfl
  have hf6_h0 : fs_0[6]? = some (.null) := by rw [efs_0]; rfl
  have hf7_h0 : fs_0[7]? = some (.int 0) := by rw [efs_0]; rfl
  have hf8_h0 : fs_0[8]? = some (.int 0) := by rw [efs_0]; rfl
  have hf9_h0 : fs_0[9]? = some (.int 0) := by rw [efs_0]; rfl
  have hf10_h0 : fs_0[10]? = some (.int 0) := by rw [efs_0]; rfl
  have hf11_h0 : fs_0[11]? = some (.int 0) := by rw [efs_0]; rfl
  have hf12_h0 : fs_0[12]? = some (.int 0) := by rw [efs_0]; rfl
  have hf13_h0 : fs_0[13]? = some (.int 0) := by rw [efs_0]; rfl
  have hf14_h0 : fs_0[14]? = some (.int 0) := by rw [efs_0]; rfl
  have hf15_h0 : fs_0[15]? = some (.int 0) := by rw [efs_0]; rfl
  have hf16_h0 : fs_0[16]? = some (.int 0) := by rw [efs_0]; rfl
  refine lv_aload_n hx hb dX5_init_0 rfl (lv_at hl 0 rfl) ?_
  refine W.objInit hx hb hown (hts _ wm_530) (hts _ wm_461) (hts _ wm_462) rfl (by rw [hml]; exact hl.1) rfl dX5_init_1 (Nat.le_of_ble_eq_true rfl) (Nat.le_of_ble_eq_true rfl) ?_
  refine W.eq (g2 := F0 m 4 ls []) rfl ?_
  refine lv_aload_n hx hb dX5_init_4 rfl (lv_at hl 0 rfl) ?_
  refine lv_bipush (v := 8) hx hb dX5_init_5 (by decide) ?_
  refine va_newq (N' := 8) hx hb hown (hts _ wm_484) hex.1 hK hP hD hS hA (by decide) rfl (Nat.le_of_ble_eq_true rfl) (Nat.le_of_ble_eq_true rfl) (Nat.le_of_ble_eq_true rfl) dX5_init_7 (fun q_1 cA_2 H hK1 hP hD hS => ?_)
  obtain ⟨_, _, _, _, _, hn1⟩ := (hK1.2 8 (cA_2, .object RX2) rfl).2
  obtain ⟨_, _, _, _, _, hn2⟩ := (hK.2 3 (K 3, .object RX2) rfl).2
  obtain rfl : cA_2 = K 3 := Option.some.inj (hn1.symm.trans hn2)
  have hP : va_P (dC, dI) vwCl [(h0, .inr (5, fs_0)), (q_1, .inl (K 3, 8, .inr (.inr (.inr (.inr (fun _ => none))))))] H := hP
  have hD : va_D A [(h0, .inr (5, fs_0)), (q_1, .inl (K 3, 8, .inr (.inr (.inr (.inr (fun _ => none))))))] := hD
  refine va_putF (D := (dC, dI)) (ci := 5) (v := .ref q_1) (ty := .array (.object "NoticeMarket$Page")) (C := RX5) (T := TX5) (N := 17) hx hb hts uB5 tyX5 tyX5_ok nmX5 hown hK hP hD hS 0 rfl rfl 0 (by decide) (hts _ wm_292) (fun _ h9 => h9) rfl hin rfl (by decide +kernel) rfl rfl (by rw [hlen_h0]; decide) dX5_init_10 (fun H locs hP hD hS => ?_)
  obtain ⟨fs_3, efs_3⟩ : ∃ z9, z9 = (fs_0).set 0 (.ref q_1) := ⟨_, rfl⟩
  have hP : va_P (dC, dI) vwCl [(h0, .inr (5, fs_3)), (q_1, .inl (K 3, 8, .inr (.inr (.inr (.inr (fun _ => none))))))] H := by rw [efs_3]; exact hP
  have hD : va_D A [(h0, .inr (5, fs_3)), (q_1, .inl (K 3, 8, .inr (.inr (.inr (.inr (fun _ => none))))))] := by rw [efs_3]; exact hD
  have hf1_h0 : fs_3[1]? = some (.null) := by rw [efs_3, List.getElem?_set_ne (by decide)]; exact hf1_h0
  have hf2_h0 : fs_3[2]? = some (.null) := by rw [efs_3, List.getElem?_set_ne (by decide)]; exact hf2_h0
  have hf3_h0 : fs_3[3]? = some (.null) := by rw [efs_3, List.getElem?_set_ne (by decide)]; exact hf3_h0
  have hf4_h0 : fs_3[4]? = some (.null) := by rw [efs_3, List.getElem?_set_ne (by decide)]; exact hf4_h0
  have hf5_h0 : fs_3[5]? = some (.null) := by rw [efs_3, List.getElem?_set_ne (by decide)]; exact hf5_h0
  have hf6_h0 : fs_3[6]? = some (.null) := by rw [efs_3, List.getElem?_set_ne (by decide)]; exact hf6_h0
  have hf7_h0 : fs_3[7]? = some (.int 0) := by rw [efs_3, List.getElem?_set_ne (by decide)]; exact hf7_h0
  have hf8_h0 : fs_3[8]? = some (.int 0) := by rw [efs_3, List.getElem?_set_ne (by decide)]; exact hf8_h0
  have hf9_h0 : fs_3[9]? = some (.int 0) := by rw [efs_3, List.getElem?_set_ne (by decide)]; exact hf9_h0
  have hf10_h0 : fs_3[10]? = some (.int 0) := by rw [efs_3, List.getElem?_set_ne (by decide)]; exact hf10_h0
  have hf11_h0 : fs_3[11]? = some (.int 0) := by rw [efs_3, List.getElem?_set_ne (by decide)]; exact hf11_h0
  have hf12_h0 : fs_3[12]? = some (.int 0) := by rw [efs_3, List.getElem?_set_ne (by decide)]; exact hf12_h0
  have hf13_h0 : fs_3[13]? = some (.int 0) := by rw [efs_3, List.getElem?_set_ne (by decide)]; exact hf13_h0
  have hf14_h0 : fs_3[14]? = some (.int 0) := by rw [efs_3, List.getElem?_set_ne (by decide)]; exact hf14_h0
  have hf15_h0 : fs_3[15]? = some (.int 0) := by rw [efs_3, List.getElem?_set_ne (by decide)]; exact hf15_h0
  have hf16_h0 : fs_3[16]? = some (.int 0) := by rw [efs_3, List.getElem?_set_ne (by decide)]; exact hf16_h0
  have hf0_h0 : fs_3[0]? = some (.ref q_1) := by rw [efs_3]; exact List.getElem?_set_self (by rw [hlen_h0]; decide)
  have hlen_h0 : fs_3.length = 17 := by rw [efs_3, List.length_set]; exact hlen_h0
  refine lv_aload_n hx hb dX5_init_13 rfl (lv_at hl 0 rfl) ?_
  refine lv_bipush (v := 40) hx hb dX5_init_14 (by decide) ?_
  refine va_newq (N' := 40) hx hb hown (hts _ wm_499) hex.2.1 hK hP hD hS hA (by decide) rfl (Nat.le_of_ble_eq_true rfl) (Nat.le_of_ble_eq_true rfl) (Nat.le_of_ble_eq_true rfl) dX5_init_16 (fun q_4 cA_5 H hK1 hP hD hS => ?_)
  obtain ⟨_, _, _, _, _, hn1⟩ := (hK1.2 8 (cA_5, .object RX0) rfl).2
  obtain ⟨_, _, _, _, _, hn2⟩ := (hK.2 4 (K 4, .object RX0) rfl).2
  obtain rfl : cA_5 = K 4 := Option.some.inj (hn1.symm.trans hn2)
  have hP : va_P (dC, dI) vwCl [(h0, .inr (5, fs_3)), (q_1, .inl (K 3, 8, .inr (.inr (.inr (.inr (fun _ => none)))))), (q_4, .inl (K 4, 40, .inr (.inr (.inr (.inr (fun _ => none))))))] H := hP
  have hD : va_D A [(h0, .inr (5, fs_3)), (q_1, .inl (K 3, 8, .inr (.inr (.inr (.inr (fun _ => none)))))), (q_4, .inl (K 4, 40, .inr (.inr (.inr (.inr (fun _ => none))))))] := hD
  refine va_putF (D := (dC, dI)) (ci := 5) (v := .ref q_4) (ty := .array (.object "NoticeMarket$Campaign")) (C := RX5) (T := TX5) (N := 17) hx hb hts uB5 tyX5 tyX5_ok nmX5 hown hK hP hD hS 0 rfl rfl 1 (by decide) (hts _ wm_270) (fun _ h9 => h9) rfl hin rfl (by decide +kernel) rfl rfl (by rw [hlen_h0]; decide) dX5_init_19 (fun H locs hP hD hS => ?_)
  obtain ⟨fs_6, efs_6⟩ : ∃ z9, z9 = (fs_3).set 1 (.ref q_4) := ⟨_, rfl⟩
  have hP : va_P (dC, dI) vwCl [(h0, .inr (5, fs_6)), (q_1, .inl (K 3, 8, .inr (.inr (.inr (.inr (fun _ => none)))))), (q_4, .inl (K 4, 40, .inr (.inr (.inr (.inr (fun _ => none))))))] H := by rw [efs_6]; exact hP
  have hD : va_D A [(h0, .inr (5, fs_6)), (q_1, .inl (K 3, 8, .inr (.inr (.inr (.inr (fun _ => none)))))), (q_4, .inl (K 4, 40, .inr (.inr (.inr (.inr (fun _ => none))))))] := by rw [efs_6]; exact hD
  have hf0_h0 : fs_6[0]? = some (.ref q_1) := by rw [efs_6, List.getElem?_set_ne (by decide)]; exact hf0_h0
  have hf2_h0 : fs_6[2]? = some (.null) := by rw [efs_6, List.getElem?_set_ne (by decide)]; exact hf2_h0
  have hf3_h0 : fs_6[3]? = some (.null) := by rw [efs_6, List.getElem?_set_ne (by decide)]; exact hf3_h0
  have hf4_h0 : fs_6[4]? = some (.null) := by rw [efs_6, List.getElem?_set_ne (by decide)]; exact hf4_h0
  have hf5_h0 : fs_6[5]? = some (.null) := by rw [efs_6, List.getElem?_set_ne (by decide)]; exact hf5_h0
  have hf6_h0 : fs_6[6]? = some (.null) := by rw [efs_6, List.getElem?_set_ne (by decide)]; exact hf6_h0
  have hf7_h0 : fs_6[7]? = some (.int 0) := by rw [efs_6, List.getElem?_set_ne (by decide)]; exact hf7_h0
  have hf8_h0 : fs_6[8]? = some (.int 0) := by rw [efs_6, List.getElem?_set_ne (by decide)]; exact hf8_h0
  have hf9_h0 : fs_6[9]? = some (.int 0) := by rw [efs_6, List.getElem?_set_ne (by decide)]; exact hf9_h0
  have hf10_h0 : fs_6[10]? = some (.int 0) := by rw [efs_6, List.getElem?_set_ne (by decide)]; exact hf10_h0
  have hf11_h0 : fs_6[11]? = some (.int 0) := by rw [efs_6, List.getElem?_set_ne (by decide)]; exact hf11_h0
  have hf12_h0 : fs_6[12]? = some (.int 0) := by rw [efs_6, List.getElem?_set_ne (by decide)]; exact hf12_h0
  have hf13_h0 : fs_6[13]? = some (.int 0) := by rw [efs_6, List.getElem?_set_ne (by decide)]; exact hf13_h0
  have hf14_h0 : fs_6[14]? = some (.int 0) := by rw [efs_6, List.getElem?_set_ne (by decide)]; exact hf14_h0
  have hf15_h0 : fs_6[15]? = some (.int 0) := by rw [efs_6, List.getElem?_set_ne (by decide)]; exact hf15_h0
  have hf16_h0 : fs_6[16]? = some (.int 0) := by rw [efs_6, List.getElem?_set_ne (by decide)]; exact hf16_h0
  have hf1_h0 : fs_6[1]? = some (.ref q_4) := by rw [efs_6]; exact List.getElem?_set_self (by rw [hlen_h0]; decide)
  have hlen_h0 : fs_6.length = 17 := by rw [efs_6, List.length_set]; exact hlen_h0
  refine lv_aload_n hx hb dX5_init_22 rfl (lv_at hl 0 rfl) ?_
  refine lv_sipush (v := 1000) hx hb dX5_init_23 (by decide) ?_
  refine va_newq (N' := 1000) hx hb hown (hts _ wm_504) hex.2.2.1 hK hP hD hS hA (by decide) rfl (Nat.le_of_ble_eq_true rfl) (Nat.le_of_ble_eq_true rfl) (Nat.le_of_ble_eq_true rfl) dX5_init_26 (fun q_7 cA_8 H hK1 hP hD hS => ?_)
  obtain ⟨_, _, _, _, _, hn1⟩ := (hK1.2 8 (cA_8, .object RX3) rfl).2
  obtain ⟨_, _, _, _, _, hn2⟩ := (hK.2 5 (K 5, .object RX3) rfl).2
  obtain rfl : cA_8 = K 5 := Option.some.inj (hn1.symm.trans hn2)
  have hP : va_P (dC, dI) vwCl [(h0, .inr (5, fs_6)), (q_1, .inl (K 3, 8, .inr (.inr (.inr (.inr (fun _ => none)))))), (q_4, .inl (K 4, 40, .inr (.inr (.inr (.inr (fun _ => none)))))), (q_7, .inl (K 5, 1000, .inr (.inr (.inr (.inr (fun _ => none))))))] H := hP
  have hD : va_D A [(h0, .inr (5, fs_6)), (q_1, .inl (K 3, 8, .inr (.inr (.inr (.inr (fun _ => none)))))), (q_4, .inl (K 4, 40, .inr (.inr (.inr (.inr (fun _ => none)))))), (q_7, .inl (K 5, 1000, .inr (.inr (.inr (.inr (fun _ => none))))))] := hD
  refine va_putF (D := (dC, dI)) (ci := 5) (v := .ref q_7) (ty := .array (.object "NoticeMarket$Sale")) (C := RX5) (T := TX5) (N := 17) hx hb hts uB5 tyX5 tyX5_ok nmX5 hown hK hP hD hS 0 rfl rfl 2 (by decide) (hts _ wm_332) (fun _ h9 => h9) rfl hin rfl (by decide +kernel) rfl rfl (by rw [hlen_h0]; decide) dX5_init_29 (fun H locs hP hD hS => ?_)
  obtain ⟨fs_9, efs_9⟩ : ∃ z9, z9 = (fs_6).set 2 (.ref q_7) := ⟨_, rfl⟩
  have hP : va_P (dC, dI) vwCl [(h0, .inr (5, fs_9)), (q_1, .inl (K 3, 8, .inr (.inr (.inr (.inr (fun _ => none)))))), (q_4, .inl (K 4, 40, .inr (.inr (.inr (.inr (fun _ => none)))))), (q_7, .inl (K 5, 1000, .inr (.inr (.inr (.inr (fun _ => none))))))] H := by rw [efs_9]; exact hP
  have hD : va_D A [(h0, .inr (5, fs_9)), (q_1, .inl (K 3, 8, .inr (.inr (.inr (.inr (fun _ => none)))))), (q_4, .inl (K 4, 40, .inr (.inr (.inr (.inr (fun _ => none)))))), (q_7, .inl (K 5, 1000, .inr (.inr (.inr (.inr (fun _ => none))))))] := by rw [efs_9]; exact hD
  have hf0_h0 : fs_9[0]? = some (.ref q_1) := by rw [efs_9, List.getElem?_set_ne (by decide)]; exact hf0_h0
  have hf1_h0 : fs_9[1]? = some (.ref q_4) := by rw [efs_9, List.getElem?_set_ne (by decide)]; exact hf1_h0
  have hf3_h0 : fs_9[3]? = some (.null) := by rw [efs_9, List.getElem?_set_ne (by decide)]; exact hf3_h0
  have hf4_h0 : fs_9[4]? = some (.null) := by rw [efs_9, List.getElem?_set_ne (by decide)]; exact hf4_h0
  have hf5_h0 : fs_9[5]? = some (.null) := by rw [efs_9, List.getElem?_set_ne (by decide)]; exact hf5_h0
  have hf6_h0 : fs_9[6]? = some (.null) := by rw [efs_9, List.getElem?_set_ne (by decide)]; exact hf6_h0
  have hf7_h0 : fs_9[7]? = some (.int 0) := by rw [efs_9, List.getElem?_set_ne (by decide)]; exact hf7_h0
  have hf8_h0 : fs_9[8]? = some (.int 0) := by rw [efs_9, List.getElem?_set_ne (by decide)]; exact hf8_h0
  have hf9_h0 : fs_9[9]? = some (.int 0) := by rw [efs_9, List.getElem?_set_ne (by decide)]; exact hf9_h0
  have hf10_h0 : fs_9[10]? = some (.int 0) := by rw [efs_9, List.getElem?_set_ne (by decide)]; exact hf10_h0
  have hf11_h0 : fs_9[11]? = some (.int 0) := by rw [efs_9, List.getElem?_set_ne (by decide)]; exact hf11_h0
  have hf12_h0 : fs_9[12]? = some (.int 0) := by rw [efs_9, List.getElem?_set_ne (by decide)]; exact hf12_h0
  have hf13_h0 : fs_9[13]? = some (.int 0) := by rw [efs_9, List.getElem?_set_ne (by decide)]; exact hf13_h0
  have hf14_h0 : fs_9[14]? = some (.int 0) := by rw [efs_9, List.getElem?_set_ne (by decide)]; exact hf14_h0
  have hf15_h0 : fs_9[15]? = some (.int 0) := by rw [efs_9, List.getElem?_set_ne (by decide)]; exact hf15_h0
  have hf16_h0 : fs_9[16]? = some (.int 0) := by rw [efs_9, List.getElem?_set_ne (by decide)]; exact hf16_h0
  have hf2_h0 : fs_9[2]? = some (.ref q_7) := by rw [efs_9]; exact List.getElem?_set_self (by rw [hlen_h0]; decide)
  have hlen_h0 : fs_9.length = 17 := by rw [efs_9, List.length_set]; exact hlen_h0
  refine lv_aload_n hx hb dX5_init_32 rfl (lv_at hl 0 rfl) ?_
  refine lv_bipush (v := 100) hx hb dX5_init_33 (by decide) ?_
  refine va_newa (atype := .int) (N' := 100) (a0 := (100, .inl (fun _ => 0))) hx hb (hts _ wm_470) rfl hK hP hD hS hA (fun _ => rfl) (by decide) rfl (Nat.le_of_ble_eq_true rfl) (Nat.le_of_ble_eq_true rfl) (Nat.le_of_ble_eq_true rfl) dX5_init_35 (fun q_10 cA_11 H hK1 hP hD hS => ?_)
  obtain rfl : cA_11 = K 0 := Option.some.inj ((hK1.2 8 (cA_11, .int) rfl).2.symm.trans (hK.2 0 (K 0, .int) rfl).2)
  have hP : va_P (dC, dI) vwCl [(h0, .inr (5, fs_9)), (q_1, .inl (K 3, 8, .inr (.inr (.inr (.inr (fun _ => none)))))), (q_4, .inl (K 4, 40, .inr (.inr (.inr (.inr (fun _ => none)))))), (q_7, .inl (K 5, 1000, .inr (.inr (.inr (.inr (fun _ => none)))))), (q_10, .inl (K 0, 100, .inl (fun _ => 0)))] H := hP
  have hD : va_D A [(h0, .inr (5, fs_9)), (q_1, .inl (K 3, 8, .inr (.inr (.inr (.inr (fun _ => none)))))), (q_4, .inl (K 4, 40, .inr (.inr (.inr (.inr (fun _ => none)))))), (q_7, .inl (K 5, 1000, .inr (.inr (.inr (.inr (fun _ => none)))))), (q_10, .inl (K 0, 100, .inl (fun _ => 0)))] := hD
  refine va_putF (D := (dC, dI)) (ci := 5) (v := .ref q_10) (ty := .array (.int)) (C := RX5) (T := TX5) (N := 17) hx hb hts uB5 tyX5 tyX5_ok nmX5 hown hK hP hD hS 0 rfl rfl 3 (by decide) (hts _ wm_268) (fun _ h9 => h9) rfl hin rfl (by decide +kernel) rfl rfl (by rw [hlen_h0]; decide) dX5_init_37 (fun H locs hP hD hS => ?_)
  obtain ⟨fs_12, efs_12⟩ : ∃ z9, z9 = (fs_9).set 3 (.ref q_10) := ⟨_, rfl⟩
  have hP : va_P (dC, dI) vwCl [(h0, .inr (5, fs_12)), (q_1, .inl (K 3, 8, .inr (.inr (.inr (.inr (fun _ => none)))))), (q_4, .inl (K 4, 40, .inr (.inr (.inr (.inr (fun _ => none)))))), (q_7, .inl (K 5, 1000, .inr (.inr (.inr (.inr (fun _ => none)))))), (q_10, .inl (K 0, 100, .inl (fun _ => 0)))] H := by rw [efs_12]; exact hP
  have hD : va_D A [(h0, .inr (5, fs_12)), (q_1, .inl (K 3, 8, .inr (.inr (.inr (.inr (fun _ => none)))))), (q_4, .inl (K 4, 40, .inr (.inr (.inr (.inr (fun _ => none)))))), (q_7, .inl (K 5, 1000, .inr (.inr (.inr (.inr (fun _ => none)))))), (q_10, .inl (K 0, 100, .inl (fun _ => 0)))] := by rw [efs_12]; exact hD
  have hf0_h0 : fs_12[0]? = some (.ref q_1) := by rw [efs_12, List.getElem?_set_ne (by decide)]; exact hf0_h0
  have hf1_h0 : fs_12[1]? = some (.ref q_4) := by rw [efs_12, List.getElem?_set_ne (by decide)]; exact hf1_h0
  have hf2_h0 : fs_12[2]? = some (.ref q_7) := by rw [efs_12, List.getElem?_set_ne (by decide)]; exact hf2_h0
  have hf4_h0 : fs_12[4]? = some (.null) := by rw [efs_12, List.getElem?_set_ne (by decide)]; exact hf4_h0
  have hf5_h0 : fs_12[5]? = some (.null) := by rw [efs_12, List.getElem?_set_ne (by decide)]; exact hf5_h0
  have hf6_h0 : fs_12[6]? = some (.null) := by rw [efs_12, List.getElem?_set_ne (by decide)]; exact hf6_h0
  have hf7_h0 : fs_12[7]? = some (.int 0) := by rw [efs_12, List.getElem?_set_ne (by decide)]; exact hf7_h0
  have hf8_h0 : fs_12[8]? = some (.int 0) := by rw [efs_12, List.getElem?_set_ne (by decide)]; exact hf8_h0
  have hf9_h0 : fs_12[9]? = some (.int 0) := by rw [efs_12, List.getElem?_set_ne (by decide)]; exact hf9_h0
  have hf10_h0 : fs_12[10]? = some (.int 0) := by rw [efs_12, List.getElem?_set_ne (by decide)]; exact hf10_h0
  have hf11_h0 : fs_12[11]? = some (.int 0) := by rw [efs_12, List.getElem?_set_ne (by decide)]; exact hf11_h0
  have hf12_h0 : fs_12[12]? = some (.int 0) := by rw [efs_12, List.getElem?_set_ne (by decide)]; exact hf12_h0
  have hf13_h0 : fs_12[13]? = some (.int 0) := by rw [efs_12, List.getElem?_set_ne (by decide)]; exact hf13_h0
  have hf14_h0 : fs_12[14]? = some (.int 0) := by rw [efs_12, List.getElem?_set_ne (by decide)]; exact hf14_h0
  have hf15_h0 : fs_12[15]? = some (.int 0) := by rw [efs_12, List.getElem?_set_ne (by decide)]; exact hf15_h0
  have hf16_h0 : fs_12[16]? = some (.int 0) := by rw [efs_12, List.getElem?_set_ne (by decide)]; exact hf16_h0
  have hf3_h0 : fs_12[3]? = some (.ref q_10) := by rw [efs_12]; exact List.getElem?_set_self (by rw [hlen_h0]; decide)
  have hlen_h0 : fs_12.length = 17 := by rw [efs_12, List.length_set]; exact hlen_h0
  refine lv_aload_n hx hb dX5_init_40 rfl (lv_at hl 0 rfl) ?_
  refine va_new (ci := 1) (fs := [.null, .null, .null, .null, .null, .int 0, .int 0, .long 0, .long 0]) (C := RX1) (T := TX1) (N := 9) hx hb hts uB1 tyX1 tyX1_ok hown (hts _ wm_531) (hts _ wm_532) (hts _ wm_238) hK hP hD hS hA rfl (by decide +kernel) (Nat.le_of_ble_eq_true rfl) (Nat.le_of_ble_eq_true rfl) dX5_init_41 (fun q_13 H hP hD hS => ?_)
  have hP : va_P (dC, dI) vwCl [(h0, .inr (5, fs_12)), (q_1, .inl (K 3, 8, .inr (.inr (.inr (.inr (fun _ => none)))))), (q_4, .inl (K 4, 40, .inr (.inr (.inr (.inr (fun _ => none)))))), (q_7, .inl (K 5, 1000, .inr (.inr (.inr (.inr (fun _ => none)))))), (q_10, .inl (K 0, 100, .inl (fun _ => 0))), (q_13, .inr (1, [.null, .null, .null, .null, .null, .int 0, .int 0, .long 0, .long 0]))] H := hP
  have hD : va_D A [(h0, .inr (5, fs_12)), (q_1, .inl (K 3, 8, .inr (.inr (.inr (.inr (fun _ => none)))))), (q_4, .inl (K 4, 40, .inr (.inr (.inr (.inr (fun _ => none)))))), (q_7, .inl (K 5, 1000, .inr (.inr (.inr (.inr (fun _ => none)))))), (q_10, .inl (K 0, 100, .inl (fun _ => 0))), (q_13, .inr (1, [.null, .null, .null, .null, .null, .int 0, .int 0, .long 0, .long 0]))] := hD
  refine lv_dup hx hb dX5_init_44 rfl ?_
  refine k_NkN (ci := 1) (q0 := 5) (wr := [(h0, .inr (5, fs_12)), (q_1, .inl (K 3, 8, .inr (.inr (.inr (.inr (fun _ => none)))))), (q_4, .inl (K 4, 40, .inr (.inr (.inr (.inr (fun _ => none)))))), (q_7, .inl (K 5, 1000, .inr (.inr (.inr (.inr (fun _ => none)))))), (q_10, .inl (K 0, 100, .inl (fun _ => 0)))]) (ex := exG) ⟨hx, hb, hml, hown, hts⟩ (n_Giver l dC dI K H.size q_13) 0 hex.2.2.2.2 wm_533 wm_238 wm_534 rfl (by decide +kernel) ⟨Nat.le_of_ble_eq_true rfl, Nat.le_of_ble_eq_true rfl⟩ hK (exG_ok hex.2.2.2.1) rfl [0, 1, 2, 3, 4] rfl (by decide) (by decide) rfl hl.1 rfl (Nat.le_of_ble_eq_true rfl) dX5_init_45 ⟨Nat.le_of_ble_eq_true rfl, Nat.le_of_ble_eq_true rfl⟩ hP hD hS hA (fun u H locs hpu hP hD hS => ?_)
  obtain ⟨fg, gc, gt, gw, go, ga⟩ := u
  obtain ⟨hgl, hg0, hg1, hg2, hg3, hg4, hg5, hg6, hg7, hg8⟩ := hpu
  have hP : va_P (dC, dI) vwCl [(h0, .inr (5, fs_12)), (q_1, .inl (K 3, 8, .inr (.inr (.inr (.inr (fun _ => none)))))), (q_4, .inl (K 4, 40, .inr (.inr (.inr (.inr (fun _ => none)))))), (q_7, .inl (K 5, 1000, .inr (.inr (.inr (.inr (fun _ => none)))))), (q_10, .inl (K 0, 100, .inl (fun _ => 0))), (q_13, .inr (1, fg)), (gc, .inl (K 0, 4, .inl (fun _ => 0))), (gt, .inl (K 0, 4, .inl (fun _ => 0))), (gw, .inl (K 6, 4, .inr (.inr (.inr (.inr (fun i => if i < 4 then some (gw + 1 + i) else none)))))), (gw + 1, .inl (K 1, 40, .inr (.inl (fun _ => 0)))), (gw + 2, .inl (K 1, 40, .inr (.inl (fun _ => 0)))), (gw + 3, .inl (K 1, 40, .inr (.inl (fun _ => 0)))), (gw + 4, .inl (K 1, 40, .inr (.inl (fun _ => 0)))), (go, .inl (K 7, 4, .inr (.inr (.inr (.inr (fun i => if i < 4 then some (go + 1 + i) else none)))))), (go + 1, .inl (K 0, 40, .inl (fun _ => 0))), (go + 2, .inl (K 0, 40, .inl (fun _ => 0))), (go + 3, .inl (K 0, 40, .inl (fun _ => 0))), (go + 4, .inl (K 0, 40, .inl (fun _ => 0))), (ga, .inl (K 1, 40, .inr (.inl (fun _ => 0))))] H := hP
  have hD : va_D A [(h0, .inr (5, fs_12)), (q_1, .inl (K 3, 8, .inr (.inr (.inr (.inr (fun _ => none)))))), (q_4, .inl (K 4, 40, .inr (.inr (.inr (.inr (fun _ => none)))))), (q_7, .inl (K 5, 1000, .inr (.inr (.inr (.inr (fun _ => none)))))), (q_10, .inl (K 0, 100, .inl (fun _ => 0))), (q_13, .inr (1, fg)), (gc, .inl (K 0, 4, .inl (fun _ => 0))), (gt, .inl (K 0, 4, .inl (fun _ => 0))), (gw, .inl (K 6, 4, .inr (.inr (.inr (.inr (fun i => if i < 4 then some (gw + 1 + i) else none)))))), (gw + 1, .inl (K 1, 40, .inr (.inl (fun _ => 0)))), (gw + 2, .inl (K 1, 40, .inr (.inl (fun _ => 0)))), (gw + 3, .inl (K 1, 40, .inr (.inl (fun _ => 0)))), (gw + 4, .inl (K 1, 40, .inr (.inl (fun _ => 0)))), (go, .inl (K 7, 4, .inr (.inr (.inr (.inr (fun i => if i < 4 then some (go + 1 + i) else none)))))), (go + 1, .inl (K 0, 40, .inl (fun _ => 0))), (go + 2, .inl (K 0, 40, .inl (fun _ => 0))), (go + 3, .inl (K 0, 40, .inl (fun _ => 0))), (go + 4, .inl (K 0, 40, .inl (fun _ => 0))), (ga, .inl (K 1, 40, .inr (.inl (fun _ => 0))))] := hD
  refine va_putF (D := (dC, dI)) (ci := 5) (v := .ref q_13) (ty := .object "NoticeMarket$Giver") (C := RX5) (T := TX5) (N := 17) hx hb hts uB5 tyX5 tyX5_ok nmX5 hown hK hP hD hS 0 rfl rfl 4 (by decide) (hts _ wm_392) (fun _ h9 => h9) rfl hin rfl (by decide +kernel) rfl rfl (by rw [hlen_h0]; decide) dX5_init_48 (fun H locs hP hD hS => ?_)
  obtain ⟨fs_14, efs_14⟩ : ∃ z9, z9 = (fs_12).set 4 (.ref q_13) := ⟨_, rfl⟩
  have hP : va_P (dC, dI) vwCl [(h0, .inr (5, fs_14)), (q_1, .inl (K 3, 8, .inr (.inr (.inr (.inr (fun _ => none)))))), (q_4, .inl (K 4, 40, .inr (.inr (.inr (.inr (fun _ => none)))))), (q_7, .inl (K 5, 1000, .inr (.inr (.inr (.inr (fun _ => none)))))), (q_10, .inl (K 0, 100, .inl (fun _ => 0))), (q_13, .inr (1, fg)), (gc, .inl (K 0, 4, .inl (fun _ => 0))), (gt, .inl (K 0, 4, .inl (fun _ => 0))), (gw, .inl (K 6, 4, .inr (.inr (.inr (.inr (fun i => if i < 4 then some (gw + 1 + i) else none)))))), (gw + 1, .inl (K 1, 40, .inr (.inl (fun _ => 0)))), (gw + 2, .inl (K 1, 40, .inr (.inl (fun _ => 0)))), (gw + 3, .inl (K 1, 40, .inr (.inl (fun _ => 0)))), (gw + 4, .inl (K 1, 40, .inr (.inl (fun _ => 0)))), (go, .inl (K 7, 4, .inr (.inr (.inr (.inr (fun i => if i < 4 then some (go + 1 + i) else none)))))), (go + 1, .inl (K 0, 40, .inl (fun _ => 0))), (go + 2, .inl (K 0, 40, .inl (fun _ => 0))), (go + 3, .inl (K 0, 40, .inl (fun _ => 0))), (go + 4, .inl (K 0, 40, .inl (fun _ => 0))), (ga, .inl (K 1, 40, .inr (.inl (fun _ => 0))))] H := by rw [efs_14]; exact hP
  have hD : va_D A [(h0, .inr (5, fs_14)), (q_1, .inl (K 3, 8, .inr (.inr (.inr (.inr (fun _ => none)))))), (q_4, .inl (K 4, 40, .inr (.inr (.inr (.inr (fun _ => none)))))), (q_7, .inl (K 5, 1000, .inr (.inr (.inr (.inr (fun _ => none)))))), (q_10, .inl (K 0, 100, .inl (fun _ => 0))), (q_13, .inr (1, fg)), (gc, .inl (K 0, 4, .inl (fun _ => 0))), (gt, .inl (K 0, 4, .inl (fun _ => 0))), (gw, .inl (K 6, 4, .inr (.inr (.inr (.inr (fun i => if i < 4 then some (gw + 1 + i) else none)))))), (gw + 1, .inl (K 1, 40, .inr (.inl (fun _ => 0)))), (gw + 2, .inl (K 1, 40, .inr (.inl (fun _ => 0)))), (gw + 3, .inl (K 1, 40, .inr (.inl (fun _ => 0)))), (gw + 4, .inl (K 1, 40, .inr (.inl (fun _ => 0)))), (go, .inl (K 7, 4, .inr (.inr (.inr (.inr (fun i => if i < 4 then some (go + 1 + i) else none)))))), (go + 1, .inl (K 0, 40, .inl (fun _ => 0))), (go + 2, .inl (K 0, 40, .inl (fun _ => 0))), (go + 3, .inl (K 0, 40, .inl (fun _ => 0))), (go + 4, .inl (K 0, 40, .inl (fun _ => 0))), (ga, .inl (K 1, 40, .inr (.inl (fun _ => 0))))] := by rw [efs_14]; exact hD
  have hf0_h0 : fs_14[0]? = some (.ref q_1) := by rw [efs_14, List.getElem?_set_ne (by decide)]; exact hf0_h0
  have hf1_h0 : fs_14[1]? = some (.ref q_4) := by rw [efs_14, List.getElem?_set_ne (by decide)]; exact hf1_h0
  have hf2_h0 : fs_14[2]? = some (.ref q_7) := by rw [efs_14, List.getElem?_set_ne (by decide)]; exact hf2_h0
  have hf3_h0 : fs_14[3]? = some (.ref q_10) := by rw [efs_14, List.getElem?_set_ne (by decide)]; exact hf3_h0
  have hf5_h0 : fs_14[5]? = some (.null) := by rw [efs_14, List.getElem?_set_ne (by decide)]; exact hf5_h0
  have hf6_h0 : fs_14[6]? = some (.null) := by rw [efs_14, List.getElem?_set_ne (by decide)]; exact hf6_h0
  have hf7_h0 : fs_14[7]? = some (.int 0) := by rw [efs_14, List.getElem?_set_ne (by decide)]; exact hf7_h0
  have hf8_h0 : fs_14[8]? = some (.int 0) := by rw [efs_14, List.getElem?_set_ne (by decide)]; exact hf8_h0
  have hf9_h0 : fs_14[9]? = some (.int 0) := by rw [efs_14, List.getElem?_set_ne (by decide)]; exact hf9_h0
  have hf10_h0 : fs_14[10]? = some (.int 0) := by rw [efs_14, List.getElem?_set_ne (by decide)]; exact hf10_h0
  have hf11_h0 : fs_14[11]? = some (.int 0) := by rw [efs_14, List.getElem?_set_ne (by decide)]; exact hf11_h0
  have hf12_h0 : fs_14[12]? = some (.int 0) := by rw [efs_14, List.getElem?_set_ne (by decide)]; exact hf12_h0
  have hf13_h0 : fs_14[13]? = some (.int 0) := by rw [efs_14, List.getElem?_set_ne (by decide)]; exact hf13_h0
  have hf14_h0 : fs_14[14]? = some (.int 0) := by rw [efs_14, List.getElem?_set_ne (by decide)]; exact hf14_h0
  have hf15_h0 : fs_14[15]? = some (.int 0) := by rw [efs_14, List.getElem?_set_ne (by decide)]; exact hf15_h0
  have hf16_h0 : fs_14[16]? = some (.int 0) := by rw [efs_14, List.getElem?_set_ne (by decide)]; exact hf16_h0
  have hf4_h0 : fs_14[4]? = some (.ref q_13) := by rw [efs_14]; exact List.getElem?_set_self (by rw [hlen_h0]; decide)
  have hlen_h0 : fs_14.length = 17 := by rw [efs_14, List.length_set]; exact hlen_h0
  refine lv_aload_n hx hb dX5_init_51 rfl (lv_at hl 0 rfl) ?_
  refine lv_iconst (v := 4) hx hb dX5_init_52 (by decide) ?_
  refine va_newa (atype := .int) (N' := 4) (a0 := (4, .inl (fun _ => 0))) hx hb (hts _ wm_470) rfl hK hP hD hS hA (fun _ => rfl) (by decide) rfl (Nat.le_of_ble_eq_true rfl) (Nat.le_of_ble_eq_true rfl) (Nat.le_of_ble_eq_true rfl) dX5_init_53 (fun q_15 cA_16 H hK1 hP hD hS => ?_)
  obtain rfl : cA_16 = K 0 := Option.some.inj ((hK1.2 8 (cA_16, .int) rfl).2.symm.trans (hK.2 0 (K 0, .int) rfl).2)
  have hP : va_P (dC, dI) vwCl [(h0, .inr (5, fs_14)), (q_1, .inl (K 3, 8, .inr (.inr (.inr (.inr (fun _ => none)))))), (q_4, .inl (K 4, 40, .inr (.inr (.inr (.inr (fun _ => none)))))), (q_7, .inl (K 5, 1000, .inr (.inr (.inr (.inr (fun _ => none)))))), (q_10, .inl (K 0, 100, .inl (fun _ => 0))), (q_13, .inr (1, fg)), (gc, .inl (K 0, 4, .inl (fun _ => 0))), (gt, .inl (K 0, 4, .inl (fun _ => 0))), (gw, .inl (K 6, 4, .inr (.inr (.inr (.inr (fun i => if i < 4 then some (gw + 1 + i) else none)))))), (gw + 1, .inl (K 1, 40, .inr (.inl (fun _ => 0)))), (gw + 2, .inl (K 1, 40, .inr (.inl (fun _ => 0)))), (gw + 3, .inl (K 1, 40, .inr (.inl (fun _ => 0)))), (gw + 4, .inl (K 1, 40, .inr (.inl (fun _ => 0)))), (go, .inl (K 7, 4, .inr (.inr (.inr (.inr (fun i => if i < 4 then some (go + 1 + i) else none)))))), (go + 1, .inl (K 0, 40, .inl (fun _ => 0))), (go + 2, .inl (K 0, 40, .inl (fun _ => 0))), (go + 3, .inl (K 0, 40, .inl (fun _ => 0))), (go + 4, .inl (K 0, 40, .inl (fun _ => 0))), (ga, .inl (K 1, 40, .inr (.inl (fun _ => 0)))), (q_15, .inl (K 0, 4, .inl (fun _ => 0)))] H := hP
  have hD : va_D A [(h0, .inr (5, fs_14)), (q_1, .inl (K 3, 8, .inr (.inr (.inr (.inr (fun _ => none)))))), (q_4, .inl (K 4, 40, .inr (.inr (.inr (.inr (fun _ => none)))))), (q_7, .inl (K 5, 1000, .inr (.inr (.inr (.inr (fun _ => none)))))), (q_10, .inl (K 0, 100, .inl (fun _ => 0))), (q_13, .inr (1, fg)), (gc, .inl (K 0, 4, .inl (fun _ => 0))), (gt, .inl (K 0, 4, .inl (fun _ => 0))), (gw, .inl (K 6, 4, .inr (.inr (.inr (.inr (fun i => if i < 4 then some (gw + 1 + i) else none)))))), (gw + 1, .inl (K 1, 40, .inr (.inl (fun _ => 0)))), (gw + 2, .inl (K 1, 40, .inr (.inl (fun _ => 0)))), (gw + 3, .inl (K 1, 40, .inr (.inl (fun _ => 0)))), (gw + 4, .inl (K 1, 40, .inr (.inl (fun _ => 0)))), (go, .inl (K 7, 4, .inr (.inr (.inr (.inr (fun i => if i < 4 then some (go + 1 + i) else none)))))), (go + 1, .inl (K 0, 40, .inl (fun _ => 0))), (go + 2, .inl (K 0, 40, .inl (fun _ => 0))), (go + 3, .inl (K 0, 40, .inl (fun _ => 0))), (go + 4, .inl (K 0, 40, .inl (fun _ => 0))), (ga, .inl (K 1, 40, .inr (.inl (fun _ => 0)))), (q_15, .inl (K 0, 4, .inl (fun _ => 0)))] := hD
  refine va_putF (D := (dC, dI)) (ci := 5) (v := .ref q_15) (ty := .array (.int)) (C := RX5) (T := TX5) (N := 17) hx hb hts uB5 tyX5 tyX5_ok nmX5 hown hK hP hD hS 0 rfl rfl 5 (by decide) (hts _ wm_424) (fun _ h9 => h9) rfl hin rfl (by decide +kernel) rfl rfl (by rw [hlen_h0]; decide) dX5_init_55 (fun H locs hP hD hS => ?_)
  obtain ⟨fs_17, efs_17⟩ : ∃ z9, z9 = (fs_14).set 5 (.ref q_15) := ⟨_, rfl⟩
  have hP : va_P (dC, dI) vwCl [(h0, .inr (5, fs_17)), (q_1, .inl (K 3, 8, .inr (.inr (.inr (.inr (fun _ => none)))))), (q_4, .inl (K 4, 40, .inr (.inr (.inr (.inr (fun _ => none)))))), (q_7, .inl (K 5, 1000, .inr (.inr (.inr (.inr (fun _ => none)))))), (q_10, .inl (K 0, 100, .inl (fun _ => 0))), (q_13, .inr (1, fg)), (gc, .inl (K 0, 4, .inl (fun _ => 0))), (gt, .inl (K 0, 4, .inl (fun _ => 0))), (gw, .inl (K 6, 4, .inr (.inr (.inr (.inr (fun i => if i < 4 then some (gw + 1 + i) else none)))))), (gw + 1, .inl (K 1, 40, .inr (.inl (fun _ => 0)))), (gw + 2, .inl (K 1, 40, .inr (.inl (fun _ => 0)))), (gw + 3, .inl (K 1, 40, .inr (.inl (fun _ => 0)))), (gw + 4, .inl (K 1, 40, .inr (.inl (fun _ => 0)))), (go, .inl (K 7, 4, .inr (.inr (.inr (.inr (fun i => if i < 4 then some (go + 1 + i) else none)))))), (go + 1, .inl (K 0, 40, .inl (fun _ => 0))), (go + 2, .inl (K 0, 40, .inl (fun _ => 0))), (go + 3, .inl (K 0, 40, .inl (fun _ => 0))), (go + 4, .inl (K 0, 40, .inl (fun _ => 0))), (ga, .inl (K 1, 40, .inr (.inl (fun _ => 0)))), (q_15, .inl (K 0, 4, .inl (fun _ => 0)))] H := by rw [efs_17]; exact hP
  have hD : va_D A [(h0, .inr (5, fs_17)), (q_1, .inl (K 3, 8, .inr (.inr (.inr (.inr (fun _ => none)))))), (q_4, .inl (K 4, 40, .inr (.inr (.inr (.inr (fun _ => none)))))), (q_7, .inl (K 5, 1000, .inr (.inr (.inr (.inr (fun _ => none)))))), (q_10, .inl (K 0, 100, .inl (fun _ => 0))), (q_13, .inr (1, fg)), (gc, .inl (K 0, 4, .inl (fun _ => 0))), (gt, .inl (K 0, 4, .inl (fun _ => 0))), (gw, .inl (K 6, 4, .inr (.inr (.inr (.inr (fun i => if i < 4 then some (gw + 1 + i) else none)))))), (gw + 1, .inl (K 1, 40, .inr (.inl (fun _ => 0)))), (gw + 2, .inl (K 1, 40, .inr (.inl (fun _ => 0)))), (gw + 3, .inl (K 1, 40, .inr (.inl (fun _ => 0)))), (gw + 4, .inl (K 1, 40, .inr (.inl (fun _ => 0)))), (go, .inl (K 7, 4, .inr (.inr (.inr (.inr (fun i => if i < 4 then some (go + 1 + i) else none)))))), (go + 1, .inl (K 0, 40, .inl (fun _ => 0))), (go + 2, .inl (K 0, 40, .inl (fun _ => 0))), (go + 3, .inl (K 0, 40, .inl (fun _ => 0))), (go + 4, .inl (K 0, 40, .inl (fun _ => 0))), (ga, .inl (K 1, 40, .inr (.inl (fun _ => 0)))), (q_15, .inl (K 0, 4, .inl (fun _ => 0)))] := by rw [efs_17]; exact hD
  have hf0_h0 : fs_17[0]? = some (.ref q_1) := by rw [efs_17, List.getElem?_set_ne (by decide)]; exact hf0_h0
  have hf1_h0 : fs_17[1]? = some (.ref q_4) := by rw [efs_17, List.getElem?_set_ne (by decide)]; exact hf1_h0
  have hf2_h0 : fs_17[2]? = some (.ref q_7) := by rw [efs_17, List.getElem?_set_ne (by decide)]; exact hf2_h0
  have hf3_h0 : fs_17[3]? = some (.ref q_10) := by rw [efs_17, List.getElem?_set_ne (by decide)]; exact hf3_h0
  have hf4_h0 : fs_17[4]? = some (.ref q_13) := by rw [efs_17, List.getElem?_set_ne (by decide)]; exact hf4_h0
  have hf6_h0 : fs_17[6]? = some (.null) := by rw [efs_17, List.getElem?_set_ne (by decide)]; exact hf6_h0
  have hf7_h0 : fs_17[7]? = some (.int 0) := by rw [efs_17, List.getElem?_set_ne (by decide)]; exact hf7_h0
  have hf8_h0 : fs_17[8]? = some (.int 0) := by rw [efs_17, List.getElem?_set_ne (by decide)]; exact hf8_h0
  have hf9_h0 : fs_17[9]? = some (.int 0) := by rw [efs_17, List.getElem?_set_ne (by decide)]; exact hf9_h0
  have hf10_h0 : fs_17[10]? = some (.int 0) := by rw [efs_17, List.getElem?_set_ne (by decide)]; exact hf10_h0
  have hf11_h0 : fs_17[11]? = some (.int 0) := by rw [efs_17, List.getElem?_set_ne (by decide)]; exact hf11_h0
  have hf12_h0 : fs_17[12]? = some (.int 0) := by rw [efs_17, List.getElem?_set_ne (by decide)]; exact hf12_h0
  have hf13_h0 : fs_17[13]? = some (.int 0) := by rw [efs_17, List.getElem?_set_ne (by decide)]; exact hf13_h0
  have hf14_h0 : fs_17[14]? = some (.int 0) := by rw [efs_17, List.getElem?_set_ne (by decide)]; exact hf14_h0
  have hf15_h0 : fs_17[15]? = some (.int 0) := by rw [efs_17, List.getElem?_set_ne (by decide)]; exact hf15_h0
  have hf16_h0 : fs_17[16]? = some (.int 0) := by rw [efs_17, List.getElem?_set_ne (by decide)]; exact hf16_h0
  have hf5_h0 : fs_17[5]? = some (.ref q_15) := by rw [efs_17]; exact List.getElem?_set_self (by rw [hlen_h0]; decide)
  have hlen_h0 : fs_17.length = 17 := by rw [efs_17, List.length_set]; exact hlen_h0
  refine lv_aload_n hx hb dX5_init_58 rfl (lv_at hl 0 rfl) ?_
  refine lv_iconst (v := 4) hx hb dX5_init_59 (by decide) ?_
  refine va_newa (atype := .int) (N' := 4) (a0 := (4, .inl (fun _ => 0))) hx hb (hts _ wm_470) rfl hK hP hD hS hA (fun _ => rfl) (by decide) rfl (Nat.le_of_ble_eq_true rfl) (Nat.le_of_ble_eq_true rfl) (Nat.le_of_ble_eq_true rfl) dX5_init_60 (fun q_18 cA_19 H hK1 hP hD hS => ?_)
  obtain rfl : cA_19 = K 0 := Option.some.inj ((hK1.2 8 (cA_19, .int) rfl).2.symm.trans (hK.2 0 (K 0, .int) rfl).2)
  have hP : va_P (dC, dI) vwCl [(h0, .inr (5, fs_17)), (q_1, .inl (K 3, 8, .inr (.inr (.inr (.inr (fun _ => none)))))), (q_4, .inl (K 4, 40, .inr (.inr (.inr (.inr (fun _ => none)))))), (q_7, .inl (K 5, 1000, .inr (.inr (.inr (.inr (fun _ => none)))))), (q_10, .inl (K 0, 100, .inl (fun _ => 0))), (q_13, .inr (1, fg)), (gc, .inl (K 0, 4, .inl (fun _ => 0))), (gt, .inl (K 0, 4, .inl (fun _ => 0))), (gw, .inl (K 6, 4, .inr (.inr (.inr (.inr (fun i => if i < 4 then some (gw + 1 + i) else none)))))), (gw + 1, .inl (K 1, 40, .inr (.inl (fun _ => 0)))), (gw + 2, .inl (K 1, 40, .inr (.inl (fun _ => 0)))), (gw + 3, .inl (K 1, 40, .inr (.inl (fun _ => 0)))), (gw + 4, .inl (K 1, 40, .inr (.inl (fun _ => 0)))), (go, .inl (K 7, 4, .inr (.inr (.inr (.inr (fun i => if i < 4 then some (go + 1 + i) else none)))))), (go + 1, .inl (K 0, 40, .inl (fun _ => 0))), (go + 2, .inl (K 0, 40, .inl (fun _ => 0))), (go + 3, .inl (K 0, 40, .inl (fun _ => 0))), (go + 4, .inl (K 0, 40, .inl (fun _ => 0))), (ga, .inl (K 1, 40, .inr (.inl (fun _ => 0)))), (q_15, .inl (K 0, 4, .inl (fun _ => 0))), (q_18, .inl (K 0, 4, .inl (fun _ => 0)))] H := hP
  have hD : va_D A [(h0, .inr (5, fs_17)), (q_1, .inl (K 3, 8, .inr (.inr (.inr (.inr (fun _ => none)))))), (q_4, .inl (K 4, 40, .inr (.inr (.inr (.inr (fun _ => none)))))), (q_7, .inl (K 5, 1000, .inr (.inr (.inr (.inr (fun _ => none)))))), (q_10, .inl (K 0, 100, .inl (fun _ => 0))), (q_13, .inr (1, fg)), (gc, .inl (K 0, 4, .inl (fun _ => 0))), (gt, .inl (K 0, 4, .inl (fun _ => 0))), (gw, .inl (K 6, 4, .inr (.inr (.inr (.inr (fun i => if i < 4 then some (gw + 1 + i) else none)))))), (gw + 1, .inl (K 1, 40, .inr (.inl (fun _ => 0)))), (gw + 2, .inl (K 1, 40, .inr (.inl (fun _ => 0)))), (gw + 3, .inl (K 1, 40, .inr (.inl (fun _ => 0)))), (gw + 4, .inl (K 1, 40, .inr (.inl (fun _ => 0)))), (go, .inl (K 7, 4, .inr (.inr (.inr (.inr (fun i => if i < 4 then some (go + 1 + i) else none)))))), (go + 1, .inl (K 0, 40, .inl (fun _ => 0))), (go + 2, .inl (K 0, 40, .inl (fun _ => 0))), (go + 3, .inl (K 0, 40, .inl (fun _ => 0))), (go + 4, .inl (K 0, 40, .inl (fun _ => 0))), (ga, .inl (K 1, 40, .inr (.inl (fun _ => 0)))), (q_15, .inl (K 0, 4, .inl (fun _ => 0))), (q_18, .inl (K 0, 4, .inl (fun _ => 0)))] := hD
  refine va_putF (D := (dC, dI)) (ci := 5) (v := .ref q_18) (ty := .array (.int)) (C := RX5) (T := TX5) (N := 17) hx hb hts uB5 tyX5 tyX5_ok nmX5 hown hK hP hD hS 0 rfl rfl 6 (by decide) (hts _ wm_438) (fun _ h9 => h9) rfl hin rfl (by decide +kernel) rfl rfl (by rw [hlen_h0]; decide) dX5_init_62 (fun H locs hP hD hS => ?_)
  obtain ⟨fs_20, efs_20⟩ : ∃ z9, z9 = (fs_17).set 6 (.ref q_18) := ⟨_, rfl⟩
  have hP : va_P (dC, dI) vwCl [(h0, .inr (5, fs_20)), (q_1, .inl (K 3, 8, .inr (.inr (.inr (.inr (fun _ => none)))))), (q_4, .inl (K 4, 40, .inr (.inr (.inr (.inr (fun _ => none)))))), (q_7, .inl (K 5, 1000, .inr (.inr (.inr (.inr (fun _ => none)))))), (q_10, .inl (K 0, 100, .inl (fun _ => 0))), (q_13, .inr (1, fg)), (gc, .inl (K 0, 4, .inl (fun _ => 0))), (gt, .inl (K 0, 4, .inl (fun _ => 0))), (gw, .inl (K 6, 4, .inr (.inr (.inr (.inr (fun i => if i < 4 then some (gw + 1 + i) else none)))))), (gw + 1, .inl (K 1, 40, .inr (.inl (fun _ => 0)))), (gw + 2, .inl (K 1, 40, .inr (.inl (fun _ => 0)))), (gw + 3, .inl (K 1, 40, .inr (.inl (fun _ => 0)))), (gw + 4, .inl (K 1, 40, .inr (.inl (fun _ => 0)))), (go, .inl (K 7, 4, .inr (.inr (.inr (.inr (fun i => if i < 4 then some (go + 1 + i) else none)))))), (go + 1, .inl (K 0, 40, .inl (fun _ => 0))), (go + 2, .inl (K 0, 40, .inl (fun _ => 0))), (go + 3, .inl (K 0, 40, .inl (fun _ => 0))), (go + 4, .inl (K 0, 40, .inl (fun _ => 0))), (ga, .inl (K 1, 40, .inr (.inl (fun _ => 0)))), (q_15, .inl (K 0, 4, .inl (fun _ => 0))), (q_18, .inl (K 0, 4, .inl (fun _ => 0)))] H := by rw [efs_20]; exact hP
  have hD : va_D A [(h0, .inr (5, fs_20)), (q_1, .inl (K 3, 8, .inr (.inr (.inr (.inr (fun _ => none)))))), (q_4, .inl (K 4, 40, .inr (.inr (.inr (.inr (fun _ => none)))))), (q_7, .inl (K 5, 1000, .inr (.inr (.inr (.inr (fun _ => none)))))), (q_10, .inl (K 0, 100, .inl (fun _ => 0))), (q_13, .inr (1, fg)), (gc, .inl (K 0, 4, .inl (fun _ => 0))), (gt, .inl (K 0, 4, .inl (fun _ => 0))), (gw, .inl (K 6, 4, .inr (.inr (.inr (.inr (fun i => if i < 4 then some (gw + 1 + i) else none)))))), (gw + 1, .inl (K 1, 40, .inr (.inl (fun _ => 0)))), (gw + 2, .inl (K 1, 40, .inr (.inl (fun _ => 0)))), (gw + 3, .inl (K 1, 40, .inr (.inl (fun _ => 0)))), (gw + 4, .inl (K 1, 40, .inr (.inl (fun _ => 0)))), (go, .inl (K 7, 4, .inr (.inr (.inr (.inr (fun i => if i < 4 then some (go + 1 + i) else none)))))), (go + 1, .inl (K 0, 40, .inl (fun _ => 0))), (go + 2, .inl (K 0, 40, .inl (fun _ => 0))), (go + 3, .inl (K 0, 40, .inl (fun _ => 0))), (go + 4, .inl (K 0, 40, .inl (fun _ => 0))), (ga, .inl (K 1, 40, .inr (.inl (fun _ => 0)))), (q_15, .inl (K 0, 4, .inl (fun _ => 0))), (q_18, .inl (K 0, 4, .inl (fun _ => 0)))] := by rw [efs_20]; exact hD
  have hf0_h0 : fs_20[0]? = some (.ref q_1) := by rw [efs_20, List.getElem?_set_ne (by decide)]; exact hf0_h0
  have hf1_h0 : fs_20[1]? = some (.ref q_4) := by rw [efs_20, List.getElem?_set_ne (by decide)]; exact hf1_h0
  have hf2_h0 : fs_20[2]? = some (.ref q_7) := by rw [efs_20, List.getElem?_set_ne (by decide)]; exact hf2_h0
  have hf3_h0 : fs_20[3]? = some (.ref q_10) := by rw [efs_20, List.getElem?_set_ne (by decide)]; exact hf3_h0
  have hf4_h0 : fs_20[4]? = some (.ref q_13) := by rw [efs_20, List.getElem?_set_ne (by decide)]; exact hf4_h0
  have hf5_h0 : fs_20[5]? = some (.ref q_15) := by rw [efs_20, List.getElem?_set_ne (by decide)]; exact hf5_h0
  have hf7_h0 : fs_20[7]? = some (.int 0) := by rw [efs_20, List.getElem?_set_ne (by decide)]; exact hf7_h0
  have hf8_h0 : fs_20[8]? = some (.int 0) := by rw [efs_20, List.getElem?_set_ne (by decide)]; exact hf8_h0
  have hf9_h0 : fs_20[9]? = some (.int 0) := by rw [efs_20, List.getElem?_set_ne (by decide)]; exact hf9_h0
  have hf10_h0 : fs_20[10]? = some (.int 0) := by rw [efs_20, List.getElem?_set_ne (by decide)]; exact hf10_h0
  have hf11_h0 : fs_20[11]? = some (.int 0) := by rw [efs_20, List.getElem?_set_ne (by decide)]; exact hf11_h0
  have hf12_h0 : fs_20[12]? = some (.int 0) := by rw [efs_20, List.getElem?_set_ne (by decide)]; exact hf12_h0
  have hf13_h0 : fs_20[13]? = some (.int 0) := by rw [efs_20, List.getElem?_set_ne (by decide)]; exact hf13_h0
  have hf14_h0 : fs_20[14]? = some (.int 0) := by rw [efs_20, List.getElem?_set_ne (by decide)]; exact hf14_h0
  have hf15_h0 : fs_20[15]? = some (.int 0) := by rw [efs_20, List.getElem?_set_ne (by decide)]; exact hf15_h0
  have hf16_h0 : fs_20[16]? = some (.int 0) := by rw [efs_20, List.getElem?_set_ne (by decide)]; exact hf16_h0
  have hf6_h0 : fs_20[6]? = some (.ref q_18) := by rw [efs_20]; exact List.getElem?_set_self (by rw [hlen_h0]; decide)
  have hlen_h0 : fs_20.length = 17 := by rw [efs_20, List.length_set]; exact hlen_h0
  refine lv_aload_n hx hb dX5_init_65 rfl (lv_at hl 0 rfl) ?_
  refine lv_bipush (v := 50) hx hb dX5_init_66 (by decide) ?_
  refine va_put (D := (dC, dI)) (ci := 5) (v := .int 50) (ty := .int) (C := RX5) (T := TX5) (N := 17) hx hb hts uB5 tyX5 tyX5_ok nmX5 hown hK hP hD hS 0 rfl rfl 15 (by decide) (hts _ wm_284) (fun _ h9 => h9) rfl (by decide +kernel) rfl rfl (by rw [hlen_h0]; decide) dX5_init_68 (fun H locs hP hD hS => ?_)
  obtain ⟨fs_21, efs_21⟩ : ∃ z9, z9 = (fs_20).set 15 (.int 50) := ⟨_, rfl⟩
  have hP : va_P (dC, dI) vwCl [(h0, .inr (5, fs_21)), (q_1, .inl (K 3, 8, .inr (.inr (.inr (.inr (fun _ => none)))))), (q_4, .inl (K 4, 40, .inr (.inr (.inr (.inr (fun _ => none)))))), (q_7, .inl (K 5, 1000, .inr (.inr (.inr (.inr (fun _ => none)))))), (q_10, .inl (K 0, 100, .inl (fun _ => 0))), (q_13, .inr (1, fg)), (gc, .inl (K 0, 4, .inl (fun _ => 0))), (gt, .inl (K 0, 4, .inl (fun _ => 0))), (gw, .inl (K 6, 4, .inr (.inr (.inr (.inr (fun i => if i < 4 then some (gw + 1 + i) else none)))))), (gw + 1, .inl (K 1, 40, .inr (.inl (fun _ => 0)))), (gw + 2, .inl (K 1, 40, .inr (.inl (fun _ => 0)))), (gw + 3, .inl (K 1, 40, .inr (.inl (fun _ => 0)))), (gw + 4, .inl (K 1, 40, .inr (.inl (fun _ => 0)))), (go, .inl (K 7, 4, .inr (.inr (.inr (.inr (fun i => if i < 4 then some (go + 1 + i) else none)))))), (go + 1, .inl (K 0, 40, .inl (fun _ => 0))), (go + 2, .inl (K 0, 40, .inl (fun _ => 0))), (go + 3, .inl (K 0, 40, .inl (fun _ => 0))), (go + 4, .inl (K 0, 40, .inl (fun _ => 0))), (ga, .inl (K 1, 40, .inr (.inl (fun _ => 0)))), (q_15, .inl (K 0, 4, .inl (fun _ => 0))), (q_18, .inl (K 0, 4, .inl (fun _ => 0)))] H := by rw [efs_21]; exact hP
  have hD : va_D A [(h0, .inr (5, fs_21)), (q_1, .inl (K 3, 8, .inr (.inr (.inr (.inr (fun _ => none)))))), (q_4, .inl (K 4, 40, .inr (.inr (.inr (.inr (fun _ => none)))))), (q_7, .inl (K 5, 1000, .inr (.inr (.inr (.inr (fun _ => none)))))), (q_10, .inl (K 0, 100, .inl (fun _ => 0))), (q_13, .inr (1, fg)), (gc, .inl (K 0, 4, .inl (fun _ => 0))), (gt, .inl (K 0, 4, .inl (fun _ => 0))), (gw, .inl (K 6, 4, .inr (.inr (.inr (.inr (fun i => if i < 4 then some (gw + 1 + i) else none)))))), (gw + 1, .inl (K 1, 40, .inr (.inl (fun _ => 0)))), (gw + 2, .inl (K 1, 40, .inr (.inl (fun _ => 0)))), (gw + 3, .inl (K 1, 40, .inr (.inl (fun _ => 0)))), (gw + 4, .inl (K 1, 40, .inr (.inl (fun _ => 0)))), (go, .inl (K 7, 4, .inr (.inr (.inr (.inr (fun i => if i < 4 then some (go + 1 + i) else none)))))), (go + 1, .inl (K 0, 40, .inl (fun _ => 0))), (go + 2, .inl (K 0, 40, .inl (fun _ => 0))), (go + 3, .inl (K 0, 40, .inl (fun _ => 0))), (go + 4, .inl (K 0, 40, .inl (fun _ => 0))), (ga, .inl (K 1, 40, .inr (.inl (fun _ => 0)))), (q_15, .inl (K 0, 4, .inl (fun _ => 0))), (q_18, .inl (K 0, 4, .inl (fun _ => 0)))] := by rw [efs_21]; exact hD
  have hf0_h0 : fs_21[0]? = some (.ref q_1) := by rw [efs_21, List.getElem?_set_ne (by decide)]; exact hf0_h0
  have hf1_h0 : fs_21[1]? = some (.ref q_4) := by rw [efs_21, List.getElem?_set_ne (by decide)]; exact hf1_h0
  have hf2_h0 : fs_21[2]? = some (.ref q_7) := by rw [efs_21, List.getElem?_set_ne (by decide)]; exact hf2_h0
  have hf3_h0 : fs_21[3]? = some (.ref q_10) := by rw [efs_21, List.getElem?_set_ne (by decide)]; exact hf3_h0
  have hf4_h0 : fs_21[4]? = some (.ref q_13) := by rw [efs_21, List.getElem?_set_ne (by decide)]; exact hf4_h0
  have hf5_h0 : fs_21[5]? = some (.ref q_15) := by rw [efs_21, List.getElem?_set_ne (by decide)]; exact hf5_h0
  have hf6_h0 : fs_21[6]? = some (.ref q_18) := by rw [efs_21, List.getElem?_set_ne (by decide)]; exact hf6_h0
  have hf7_h0 : fs_21[7]? = some (.int 0) := by rw [efs_21, List.getElem?_set_ne (by decide)]; exact hf7_h0
  have hf8_h0 : fs_21[8]? = some (.int 0) := by rw [efs_21, List.getElem?_set_ne (by decide)]; exact hf8_h0
  have hf9_h0 : fs_21[9]? = some (.int 0) := by rw [efs_21, List.getElem?_set_ne (by decide)]; exact hf9_h0
  have hf10_h0 : fs_21[10]? = some (.int 0) := by rw [efs_21, List.getElem?_set_ne (by decide)]; exact hf10_h0
  have hf11_h0 : fs_21[11]? = some (.int 0) := by rw [efs_21, List.getElem?_set_ne (by decide)]; exact hf11_h0
  have hf12_h0 : fs_21[12]? = some (.int 0) := by rw [efs_21, List.getElem?_set_ne (by decide)]; exact hf12_h0
  have hf13_h0 : fs_21[13]? = some (.int 0) := by rw [efs_21, List.getElem?_set_ne (by decide)]; exact hf13_h0
  have hf14_h0 : fs_21[14]? = some (.int 0) := by rw [efs_21, List.getElem?_set_ne (by decide)]; exact hf14_h0
  have hf16_h0 : fs_21[16]? = some (.int 0) := by rw [efs_21, List.getElem?_set_ne (by decide)]; exact hf16_h0
  have hf15_h0 : fs_21[15]? = some (.int 50) := by rw [efs_21]; exact List.getElem?_set_self (by rw [hlen_h0]; decide)
  have hlen_h0 : fs_21.length = 17 := by rw [efs_21, List.length_set]; exact hlen_h0
  refine lv_aload_n hx hb dX5_init_71 rfl (lv_at hl 0 rfl) ?_
  refine lv_sipush (v := 10000) hx hb dX5_init_72 (by decide) ?_
  refine va_put (D := (dC, dI)) (ci := 5) (v := .int 10000) (ty := .int) (C := RX5) (T := TX5) (N := 17) hx hb hts uB5 tyX5 tyX5_ok nmX5 hown hK hP hD hS 0 rfl rfl 16 (by decide) (hts _ wm_321) (fun _ h9 => h9) rfl (by decide +kernel) rfl rfl (by rw [hlen_h0]; decide) dX5_init_75 (fun H locs hP hD hS => ?_)
  obtain ⟨fs_22, efs_22⟩ : ∃ z9, z9 = (fs_21).set 16 (.int 10000) := ⟨_, rfl⟩
  have hP : va_P (dC, dI) vwCl [(h0, .inr (5, fs_22)), (q_1, .inl (K 3, 8, .inr (.inr (.inr (.inr (fun _ => none)))))), (q_4, .inl (K 4, 40, .inr (.inr (.inr (.inr (fun _ => none)))))), (q_7, .inl (K 5, 1000, .inr (.inr (.inr (.inr (fun _ => none)))))), (q_10, .inl (K 0, 100, .inl (fun _ => 0))), (q_13, .inr (1, fg)), (gc, .inl (K 0, 4, .inl (fun _ => 0))), (gt, .inl (K 0, 4, .inl (fun _ => 0))), (gw, .inl (K 6, 4, .inr (.inr (.inr (.inr (fun i => if i < 4 then some (gw + 1 + i) else none)))))), (gw + 1, .inl (K 1, 40, .inr (.inl (fun _ => 0)))), (gw + 2, .inl (K 1, 40, .inr (.inl (fun _ => 0)))), (gw + 3, .inl (K 1, 40, .inr (.inl (fun _ => 0)))), (gw + 4, .inl (K 1, 40, .inr (.inl (fun _ => 0)))), (go, .inl (K 7, 4, .inr (.inr (.inr (.inr (fun i => if i < 4 then some (go + 1 + i) else none)))))), (go + 1, .inl (K 0, 40, .inl (fun _ => 0))), (go + 2, .inl (K 0, 40, .inl (fun _ => 0))), (go + 3, .inl (K 0, 40, .inl (fun _ => 0))), (go + 4, .inl (K 0, 40, .inl (fun _ => 0))), (ga, .inl (K 1, 40, .inr (.inl (fun _ => 0)))), (q_15, .inl (K 0, 4, .inl (fun _ => 0))), (q_18, .inl (K 0, 4, .inl (fun _ => 0)))] H := by rw [efs_22]; exact hP
  have hD : va_D A [(h0, .inr (5, fs_22)), (q_1, .inl (K 3, 8, .inr (.inr (.inr (.inr (fun _ => none)))))), (q_4, .inl (K 4, 40, .inr (.inr (.inr (.inr (fun _ => none)))))), (q_7, .inl (K 5, 1000, .inr (.inr (.inr (.inr (fun _ => none)))))), (q_10, .inl (K 0, 100, .inl (fun _ => 0))), (q_13, .inr (1, fg)), (gc, .inl (K 0, 4, .inl (fun _ => 0))), (gt, .inl (K 0, 4, .inl (fun _ => 0))), (gw, .inl (K 6, 4, .inr (.inr (.inr (.inr (fun i => if i < 4 then some (gw + 1 + i) else none)))))), (gw + 1, .inl (K 1, 40, .inr (.inl (fun _ => 0)))), (gw + 2, .inl (K 1, 40, .inr (.inl (fun _ => 0)))), (gw + 3, .inl (K 1, 40, .inr (.inl (fun _ => 0)))), (gw + 4, .inl (K 1, 40, .inr (.inl (fun _ => 0)))), (go, .inl (K 7, 4, .inr (.inr (.inr (.inr (fun i => if i < 4 then some (go + 1 + i) else none)))))), (go + 1, .inl (K 0, 40, .inl (fun _ => 0))), (go + 2, .inl (K 0, 40, .inl (fun _ => 0))), (go + 3, .inl (K 0, 40, .inl (fun _ => 0))), (go + 4, .inl (K 0, 40, .inl (fun _ => 0))), (ga, .inl (K 1, 40, .inr (.inl (fun _ => 0)))), (q_15, .inl (K 0, 4, .inl (fun _ => 0))), (q_18, .inl (K 0, 4, .inl (fun _ => 0)))] := by rw [efs_22]; exact hD
  have hf0_h0 : fs_22[0]? = some (.ref q_1) := by rw [efs_22, List.getElem?_set_ne (by decide)]; exact hf0_h0
  have hf1_h0 : fs_22[1]? = some (.ref q_4) := by rw [efs_22, List.getElem?_set_ne (by decide)]; exact hf1_h0
  have hf2_h0 : fs_22[2]? = some (.ref q_7) := by rw [efs_22, List.getElem?_set_ne (by decide)]; exact hf2_h0
  have hf3_h0 : fs_22[3]? = some (.ref q_10) := by rw [efs_22, List.getElem?_set_ne (by decide)]; exact hf3_h0
  have hf4_h0 : fs_22[4]? = some (.ref q_13) := by rw [efs_22, List.getElem?_set_ne (by decide)]; exact hf4_h0
  have hf5_h0 : fs_22[5]? = some (.ref q_15) := by rw [efs_22, List.getElem?_set_ne (by decide)]; exact hf5_h0
  have hf6_h0 : fs_22[6]? = some (.ref q_18) := by rw [efs_22, List.getElem?_set_ne (by decide)]; exact hf6_h0
  have hf7_h0 : fs_22[7]? = some (.int 0) := by rw [efs_22, List.getElem?_set_ne (by decide)]; exact hf7_h0
  have hf8_h0 : fs_22[8]? = some (.int 0) := by rw [efs_22, List.getElem?_set_ne (by decide)]; exact hf8_h0
  have hf9_h0 : fs_22[9]? = some (.int 0) := by rw [efs_22, List.getElem?_set_ne (by decide)]; exact hf9_h0
  have hf10_h0 : fs_22[10]? = some (.int 0) := by rw [efs_22, List.getElem?_set_ne (by decide)]; exact hf10_h0
  have hf11_h0 : fs_22[11]? = some (.int 0) := by rw [efs_22, List.getElem?_set_ne (by decide)]; exact hf11_h0
  have hf12_h0 : fs_22[12]? = some (.int 0) := by rw [efs_22, List.getElem?_set_ne (by decide)]; exact hf12_h0
  have hf13_h0 : fs_22[13]? = some (.int 0) := by rw [efs_22, List.getElem?_set_ne (by decide)]; exact hf13_h0
  have hf14_h0 : fs_22[14]? = some (.int 0) := by rw [efs_22, List.getElem?_set_ne (by decide)]; exact hf14_h0
  have hf15_h0 : fs_22[15]? = some (.int 50) := by rw [efs_22, List.getElem?_set_ne (by decide)]; exact hf15_h0
  have hf16_h0 : fs_22[16]? = some (.int 10000) := by rw [efs_22]; exact List.getElem?_set_self (by rw [hlen_h0]; decide)
  have hlen_h0 : fs_22.length = 17 := by rw [efs_22, List.length_set]; exact hlen_h0
  exact W.vret hx hb hr (fun t ht hW => ⟨⟨(fs_22, q_1, q_4, q_7, q_10, q_13, q_15, q_18, fg, gc, gt, gw, go, ga), rfl, ⟨hlen_h0, hf0_h0, hf1_h0, hf2_h0, hf3_h0, hf4_h0, hf5_h0, hf6_h0, hf7_h0, hf8_h0, hf9_h0, hf10_h0, hf11_h0, hf12_h0, hf13_h0, hf14_h0, hf15_h0, hf16_h0, hgl, hg0, hg1, hg2, hg3, hg4, hg5, hg6, hg7, hg8⟩, by show va_P (dC, dI) vwCl [(h0, .inr (5, fs_22)), (q_1, .inl (K 3, 8, .inr (.inr (.inr (.inr (fun _ => none)))))), (q_4, .inl (K 4, 40, .inr (.inr (.inr (.inr (fun _ => none)))))), (q_7, .inl (K 5, 1000, .inr (.inr (.inr (.inr (fun _ => none)))))), (q_10, .inl (K 0, 100, .inl (fun _ => 0))), (q_13, .inr (1, fg)), (gc, .inl (K 0, 4, .inl (fun _ => 0))), (gt, .inl (K 0, 4, .inl (fun _ => 0))), (gw, .inl (K 6, 4, .inr (.inr (.inr (.inr (fun i => if i < 4 then some (gw + 1 + i) else none)))))), (gw + 1, .inl (K 1, 40, .inr (.inl (fun _ => 0)))), (gw + 2, .inl (K 1, 40, .inr (.inl (fun _ => 0)))), (gw + 3, .inl (K 1, 40, .inr (.inl (fun _ => 0)))), (gw + 4, .inl (K 1, 40, .inr (.inl (fun _ => 0)))), (go, .inl (K 7, 4, .inr (.inr (.inr (.inr (fun i => if i < 4 then some (go + 1 + i) else none)))))), (go + 1, .inl (K 0, 40, .inl (fun _ => 0))), (go + 2, .inl (K 0, 40, .inl (fun _ => 0))), (go + 3, .inl (K 0, 40, .inl (fun _ => 0))), (go + 4, .inl (K 0, 40, .inl (fun _ => 0))), (ga, .inl (K 1, 40, .inr (.inl (fun _ => 0)))), (q_15, .inl (K 0, 4, .inl (fun _ => 0))), (q_18, .inl (K 0, 4, .inl (fun _ => 0)))] t.heap; rw [ht]; exact hP, hD⟩, hS.F ht⟩) hS.2.2 dX5_init_78
