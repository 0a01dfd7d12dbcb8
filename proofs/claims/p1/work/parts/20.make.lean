set_option maxHeartbeats 4000000 in
set_option maxRecDepth 100000 in
theorem o_Giver (l : Launch) (dC : Nat → ClassId) (dI : Nat → Nat → Nat) (sz : Nat) (h0 : Nat) (fs : List Value)  (hlen_h0 : fs.length = 9) : mOv l yX1_init cX1_init 1 1 13 376 (dC, dI) h0 1 fs sz [] exG [.ref h0] (fun _ => True) := by
  refine Met.ofW (cc := cX1_init) (maxL := 1) (ret := none) (by decide) rfl ?_
  intro p e s m args below meth c s₁ B hml hv
  obtain ⟨rfl, hsz, hP, hK, hex⟩ := hv
  subst hsz
  have hx := B.exec
  have hb := B.bytes
  have hr := B.returns
  have hlocks := B.notSynchronized
  have hts0 := atoms_spec (ws := Cond.code yX1_init cX1_init 1 none :: lw_B) B.pre
  have hts : ∀ w ∈ lw_B, w.before _ s = true := fun w h => hts0 w (List.mem_cons_of_mem _ h)
  have hown : s.vm.findClass RX1 = some m.cls := findClass_of_methodNamed B.named
  have hin : meth.name = "<init>" := (name_of_methodNamed B.named B.method).1
  have hD : va_D (aO h0 s.heap.size) [(h0, .inr (1, fs))] := ⟨fun i j p q h1 h2 _ => by have a1 := (List.getElem?_eq_some_iff.mp h1).1; have a2 := (List.getElem?_eq_some_iff.mp h2).1; simp at a1 a2; omega, fun k q h => by have a1 := (List.getElem?_eq_some_iff.mp h).1; simp at a1; subst a1; cases h; exact Or.inl rfl⟩
  generalize hAe : aO h0 s.heap.size = A at hD ⊢
  have hA : ∀ q : Nat, s.heap.size ≤ q → A q := fun q h => by rw [← hAe]; exact Or.inr h
  have hS : va_S A s.heap s.heap [] := va_S.rf
  have hl := lv_entry ([.ref h0]) (n := 1) (Nat.le_of_ble_eq_true rfl)
  rw [lg_entry_eq]
  generalize (lg_sl ([.ref h0]) ++ List.replicate (1 - (lg_sl ([.ref h0])).length) Slot.unset).toArray = ls at hl ⊢
  have hl : lv_has ls 1 [(0, .ref h0)] := hl
  refine lv_aload_n hx hb dX1_init_0 rfl (lv_at hl 0 rfl) ?_
  refine W.objInit hx hb hown (hts _ wm_141) (hts _ wm_78) (hts _ wm_79) rfl (by rw [hml]; exact hl.1) rfl dX1_init_1 (Nat.le_of_ble_eq_true rfl) (Nat.le_of_ble_eq_true rfl) ?_
  refine W.eq (g2 := F0 m 4 ls []) rfl ?_
  refine lv_aload_n hx hb dX1_init_4 rfl (lv_at hl 0 rfl) ?_
  refine lv_iconst (v := 4) hx hb dX1_init_5 (by decide) ?_
  refine va_newa (atype := .int) (N' := 4) (a0 := (4, .inl (fun _ => 0))) hx hb (hts _ wm_80) rfl hK hP hD hS hA (fun _ => rfl) (by decide) rfl (Nat.le_of_ble_eq_true rfl) (Nat.le_of_ble_eq_true rfl) (Nat.le_of_ble_eq_true rfl) dX1_init_6 (fun q_1 cA_2 H hK hP hD hS => ?_)
  have hK : va_K (dC, dI) vwCl [(cA_2, .int)] s := hK
  have hP : va_P (dC, dI) vwCl [(h0, .inr (1, fs)), (q_1, .inl (cA_2, 4, .inl (fun _ => 0)))] H := hP
  have hD : va_D A [(h0, .inr (1, fs)), (q_1, .inl (cA_2, 4, .inl (fun _ => 0)))] := hD
  refine va_putF (D := (dC, dI)) (ci := 1) (v := .ref q_1) (ty := .array (.int)) (C := RX1) (T := TX1) (N := 9) hx hb hts uB1 tyX1 tyX1_ok nmX1 hown hK hP hD hS 0 rfl rfl 0 (by decide) (hts _ wm_142) (fun _ h9 => h9) rfl hin rfl (by decide +kernel) rfl rfl (by rw [hlen_h0]; decide) dX1_init_8 (fun H locs hP hD hS => ?_)
  obtain ⟨fs_3, efs_3⟩ : ∃ z9, z9 = (fs).set 0 (.ref q_1) := ⟨_, rfl⟩
  have hP : va_P (dC, dI) vwCl [(h0, .inr (1, fs_3)), (q_1, .inl (cA_2, 4, .inl (fun _ => 0)))] H := by rw [efs_3]; exact hP
  have hD : va_D A [(h0, .inr (1, fs_3)), (q_1, .inl (cA_2, 4, .inl (fun _ => 0)))] := by rw [efs_3]; exact hD
  have hf0_h0 : fs_3[0]? = some (.ref q_1) := by rw [efs_3]; exact List.getElem?_set_self (by rw [hlen_h0]; decide)
  have hlen_h0 : fs_3.length = 9 := by rw [efs_3, List.length_set]; exact hlen_h0
  refine lv_aload_n hx hb dX1_init_11 rfl (lv_at hl 0 rfl) ?_
  refine lv_iconst (v := 4) hx hb dX1_init_12 (by decide) ?_
  refine va_newa (atype := .int) (N' := 4) (a0 := (4, .inl (fun _ => 0))) hx hb (hts _ wm_80) rfl hK hP hD hS hA (fun _ => rfl) (by decide) rfl (Nat.le_of_ble_eq_true rfl) (Nat.le_of_ble_eq_true rfl) (Nat.le_of_ble_eq_true rfl) dX1_init_13 (fun q_4 cA_5 H hK hP hD hS => ?_)
  have hK : va_K (dC, dI) vwCl [(cA_2, .int), (cA_5, .int)] s := hK
  have hP : va_P (dC, dI) vwCl [(h0, .inr (1, fs_3)), (q_1, .inl (cA_2, 4, .inl (fun _ => 0))), (q_4, .inl (cA_5, 4, .inl (fun _ => 0)))] H := hP
  have hD : va_D A [(h0, .inr (1, fs_3)), (q_1, .inl (cA_2, 4, .inl (fun _ => 0))), (q_4, .inl (cA_5, 4, .inl (fun _ => 0)))] := hD
  refine va_putF (D := (dC, dI)) (ci := 1) (v := .ref q_4) (ty := .array (.int)) (C := RX1) (T := TX1) (N := 9) hx hb hts uB1 tyX1 tyX1_ok nmX1 hown hK hP hD hS 0 rfl rfl 1 (by decide) (hts _ wm_143) (fun _ h9 => h9) rfl hin rfl (by decide +kernel) rfl rfl (by rw [hlen_h0]; decide) dX1_init_15 (fun H locs hP hD hS => ?_)
  obtain ⟨fs_6, efs_6⟩ : ∃ z9, z9 = (fs_3).set 1 (.ref q_4) := ⟨_, rfl⟩
  have hP : va_P (dC, dI) vwCl [(h0, .inr (1, fs_6)), (q_1, .inl (cA_2, 4, .inl (fun _ => 0))), (q_4, .inl (cA_5, 4, .inl (fun _ => 0)))] H := by rw [efs_6]; exact hP
  have hD : va_D A [(h0, .inr (1, fs_6)), (q_1, .inl (cA_2, 4, .inl (fun _ => 0))), (q_4, .inl (cA_5, 4, .inl (fun _ => 0)))] := by rw [efs_6]; exact hD
  have hf0_h0 : fs_6[0]? = some (.ref q_1) := by rw [efs_6, List.getElem?_set_ne (by decide)]; exact hf0_h0
  have hf1_h0 : fs_6[1]? = some (.ref q_4) := by rw [efs_6]; exact List.getElem?_set_self (by rw [hlen_h0]; decide)
  have hlen_h0 : fs_6.length = 9 := by rw [efs_6, List.length_set]; exact hlen_h0
  refine lv_aload_n hx hb dX1_init_18 rfl (lv_at hl 0 rfl) ?_
  refine lv_iconst (v := 4) hx hb dX1_init_19 (by decide) ?_
  refine lv_bipush (v := 40) hx hb dX1_init_20 (by decide) ?_
  refine k_grid (ty := .long) (K := 40) hx hb hown (hts _ wm_144) hex.1 (hts _ wm_145) (by decide) rfl (Nat.le_of_ble_eq_true rfl) (Nat.le_of_ble_eq_true rfl) rfl (Nat.le_of_ble_eq_true rfl) (Nat.le_of_ble_eq_true rfl) dX1_init_22 hP hS hA (fun q_7 H locs hP hS => ?_)
  refine va_putF (D := (dC, dI)) (ci := 1) (v := .ref q_7) (ty := .array (.array (.long))) (C := RX1) (T := TX1) (N := 9) hx hb hts uB1 tyX1 tyX1_ok nmX1 hown hK hP hD hS 0 rfl rfl 2 (by decide) (hts _ wm_146) (fun _ h9 => h9) rfl hin rfl (by decide +kernel) rfl rfl (by rw [hlen_h0]; decide) dX1_init_26 (fun H locs hP hD hS => ?_)
  obtain ⟨fs_8, efs_8⟩ : ∃ z9, z9 = (fs_6).set 2 (.ref q_7) := ⟨_, rfl⟩
  have hP : va_P (dC, dI) vwCl [(h0, .inr (1, fs_8)), (q_1, .inl (cA_2, 4, .inl (fun _ => 0))), (q_4, .inl (cA_5, 4, .inl (fun _ => 0)))] H := by rw [efs_8]; exact hP
  have hD : va_D A [(h0, .inr (1, fs_8)), (q_1, .inl (cA_2, 4, .inl (fun _ => 0))), (q_4, .inl (cA_5, 4, .inl (fun _ => 0)))] := by rw [efs_8]; exact hD
  have hf0_h0 : fs_8[0]? = some (.ref q_1) := by rw [efs_8, List.getElem?_set_ne (by decide)]; exact hf0_h0
  have hf1_h0 : fs_8[1]? = some (.ref q_4) := by rw [efs_8, List.getElem?_set_ne (by decide)]; exact hf1_h0
  have hf2_h0 : fs_8[2]? = some (.ref q_7) := by rw [efs_8]; exact List.getElem?_set_self (by rw [hlen_h0]; decide)
  have hlen_h0 : fs_8.length = 9 := by rw [efs_8, List.length_set]; exact hlen_h0
  refine lv_aload_n hx hb dX1_init_29 rfl (lv_at hl 0 rfl) ?_
  refine lv_iconst (v := 4) hx hb dX1_init_30 (by decide) ?_
  refine lv_bipush (v := 40) hx hb dX1_init_31 (by decide) ?_
  refine k_grid (ty := .int) (K := 40) hx hb hown (hts _ wm_147) hex.2 (hts _ wm_80) (by decide) rfl (Nat.le_of_ble_eq_true rfl) (Nat.le_of_ble_eq_true rfl) rfl (Nat.le_of_ble_eq_true rfl) (Nat.le_of_ble_eq_true rfl) dX1_init_33 hP hS hA (fun q_9 H locs hP hS => ?_)
  refine va_putF (D := (dC, dI)) (ci := 1) (v := .ref q_9) (ty := .array (.array (.int))) (C := RX1) (T := TX1) (N := 9) hx hb hts uB1 tyX1 tyX1_ok nmX1 hown hK hP hD hS 0 rfl rfl 3 (by decide) (hts _ wm_148) (fun _ h9 => h9) rfl hin rfl (by decide +kernel) rfl rfl (by rw [hlen_h0]; decide) dX1_init_37 (fun H locs hP hD hS => ?_)
  obtain ⟨fs_10, efs_10⟩ : ∃ z9, z9 = (fs_8).set 3 (.ref q_9) := ⟨_, rfl⟩
  have hP : va_P (dC, dI) vwCl [(h0, .inr (1, fs_10)), (q_1, .inl (cA_2, 4, .inl (fun _ => 0))), (q_4, .inl (cA_5, 4, .inl (fun _ => 0)))] H := by rw [efs_10]; exact hP
  have hD : va_D A [(h0, .inr (1, fs_10)), (q_1, .inl (cA_2, 4, .inl (fun _ => 0))), (q_4, .inl (cA_5, 4, .inl (fun _ => 0)))] := by rw [efs_10]; exact hD
  have hf0_h0 : fs_10[0]? = some (.ref q_1) := by rw [efs_10, List.getElem?_set_ne (by decide)]; exact hf0_h0
  have hf1_h0 : fs_10[1]? = some (.ref q_4) := by rw [efs_10, List.getElem?_set_ne (by decide)]; exact hf1_h0
  have hf2_h0 : fs_10[2]? = some (.ref q_7) := by rw [efs_10, List.getElem?_set_ne (by decide)]; exact hf2_h0
  have hf3_h0 : fs_10[3]? = some (.ref q_9) := by rw [efs_10]; exact List.getElem?_set_self (by rw [hlen_h0]; decide)
  have hlen_h0 : fs_10.length = 9 := by rw [efs_10, List.length_set]; exact hlen_h0
  refine lv_aload_n hx hb dX1_init_40 rfl (lv_at hl 0 rfl) ?_
  refine lv_bipush (v := 40) hx hb dX1_init_41 (by decide) ?_
  refine va_newa (atype := .long) (N' := 40) (a0 := (40, .inr (.inl (fun _ => 0)))) hx hb (hts _ wm_145) rfl hK hP hD hS hA (fun _ => rfl) (by decide) rfl (Nat.le_of_ble_eq_true rfl) (Nat.le_of_ble_eq_true rfl) (Nat.le_of_ble_eq_true rfl) dX1_init_43 (fun q_11 cA_12 H hK hP hD hS => ?_)
  have hK : va_K (dC, dI) vwCl [(cA_2, .int), (cA_5, .int), (cA_12, .long)] s := hK
  have hP : va_P (dC, dI) vwCl [(h0, .inr (1, fs_10)), (q_1, .inl (cA_2, 4, .inl (fun _ => 0))), (q_4, .inl (cA_5, 4, .inl (fun _ => 0))), (q_11, .inl (cA_12, 40, .inr (.inl (fun _ => 0))))] H := hP
  have hD : va_D A [(h0, .inr (1, fs_10)), (q_1, .inl (cA_2, 4, .inl (fun _ => 0))), (q_4, .inl (cA_5, 4, .inl (fun _ => 0))), (q_11, .inl (cA_12, 40, .inr (.inl (fun _ => 0))))] := hD
  refine va_putF (D := (dC, dI)) (ci := 1) (v := .ref q_11) (ty := .array (.long)) (C := RX1) (T := TX1) (N := 9) hx hb hts uB1 tyX1 tyX1_ok nmX1 hown hK hP hD hS 0 rfl rfl 4 (by decide) (hts _ wm_149) (fun _ h9 => h9) rfl hin rfl (by decide +kernel) rfl rfl (by rw [hlen_h0]; decide) dX1_init_45 (fun H locs hP hD hS => ?_)
  obtain ⟨fs_13, efs_13⟩ : ∃ z9, z9 = (fs_10).set 4 (.ref q_11) := ⟨_, rfl⟩
  have hP : va_P (dC, dI) vwCl [(h0, .inr (1, fs_13)), (q_1, .inl (cA_2, 4, .inl (fun _ => 0))), (q_4, .inl (cA_5, 4, .inl (fun _ => 0))), (q_11, .inl (cA_12, 40, .inr (.inl (fun _ => 0))))] H := by rw [efs_13]; exact hP
  have hD : va_D A [(h0, .inr (1, fs_13)), (q_1, .inl (cA_2, 4, .inl (fun _ => 0))), (q_4, .inl (cA_5, 4, .inl (fun _ => 0))), (q_11, .inl (cA_12, 40, .inr (.inl (fun _ => 0))))] := by rw [efs_13]; exact hD
  have hf0_h0 : fs_13[0]? = some (.ref q_1) := by rw [efs_13, List.getElem?_set_ne (by decide)]; exact hf0_h0
  have hf1_h0 : fs_13[1]? = some (.ref q_4) := by rw [efs_13, List.getElem?_set_ne (by decide)]; exact hf1_h0
  have hf2_h0 : fs_13[2]? = some (.ref q_7) := by rw [efs_13, List.getElem?_set_ne (by decide)]; exact hf2_h0
  have hf3_h0 : fs_13[3]? = some (.ref q_9) := by rw [efs_13, List.getElem?_set_ne (by decide)]; exact hf3_h0
  have hf4_h0 : fs_13[4]? = some (.ref q_11) := by rw [efs_13]; exact List.getElem?_set_self (by rw [hlen_h0]; decide)
  have hlen_h0 : fs_13.length = 9 := by rw [efs_13, List.length_set]; exact hlen_h0
  exact W.vret hx hb hr (fun t ht hW => ⟨⟨fs_13, rfl, trivial, by show va_P (dC, dI) vwCl [(h0, .inr (1, fs_13))] t.heap; rw [ht]; exact hP.sub [0] rfl⟩, hS.F ht⟩) hS.2.2 dX1_init_48
set_option maxHeartbeats 8000000 in
set_option maxRecDepth 100000 in
theorem n_C (l : Launch) (dC : Nat → ClassId) (dI : Nat → Nat → Nat) (sz : Nat) (h0 : Nat) (fs : List Value) (hf7_h0 : fs[7]? = some (.int 0)) (hf8_h0 : fs[8]? = some (.int 0)) (hf9_h0 : fs[9]? = some (.int 0)) (hf10_h0 : fs[10]? = some (.int 0)) (hf11_h0 : fs[11]? = some (.int 0)) (hf12_h0 : fs[12]? = some (.int 0)) (hf13_h0 : fs[13]? = some (.int 0)) (hf14_h0 : fs[14]? = some (.int 0)) (hlen_h0 : fs.length = 17) : mN (S := List Value × Nat × Nat × Nat × ClassId × ClassId × ClassId) l yX5_init cX5_init 1 3 20 1541 (dC, dI) h0 5 fs sz exC [.ref h0] (fun u => match u with | (f, qp, qc, qm, _, _, _) => f.length = 17 ∧ f[0]? = some (.ref qp) ∧ f[1]? = some (.ref qc) ∧ f[3]? = some (.ref qm) ∧ f[7]? = some (.int 0) ∧ f[8]? = some (.int 0) ∧ f[9]? = some (.int 0) ∧ f[10]? = some (.int 0) ∧ f[11]? = some (.int 0) ∧ f[12]? = some (.int 0) ∧ f[13]? = some (.int 0) ∧ f[14]? = some (.int 0) ∧ f[15]? = some (.int 50) ∧ f[16]? = some (.int 10000)) (fun u => match u with | (f, qp, qc, qm, cP, cC, cI) => [(h0, .inr (5, f)), (qp, .inl (cP, 8, .inr (.inr (.inr (.inr (fun _ => none)))))), (qc, .inl (cC, 40, .inr (.inr (.inr (.inr (fun _ => none)))))), (qm, .inl (cI, 100, .inl (fun _ => 0)))]) (fun u => match u with | (_, _, _, _, cP, cC, cI) => [(cP, .object RX2), (cC, .object RX0), (cI, .int)]) := by
  refine Met.ofW (cc := cX5_init) (maxL := 1) (ret := none) (by decide) rfl ?_
  intro p e s m args below meth c s₁ B hml hv
  obtain ⟨rfl, hsz, hP, hK, hD0, hex⟩ := hv
  subst hsz
  have hx := B.exec
  have hb := B.bytes
  have hr := B.returns
  have hlocks := B.notSynchronized
  have hts0 := atoms_spec (ws := Cond.code yX5_init cX5_init 1 none :: lw_B) B.pre
  have hts : ∀ w ∈ lw_B, w.before _ s = true := fun w h => hts0 w (List.mem_cons_of_mem _ h)
  have hown : s.vm.findClass RX5 = some m.cls := findClass_of_methodNamed B.named
  have hin : meth.name = "<init>" := (name_of_methodNamed B.named B.method).1
  have hD := hD0.self (sz := s.heap.size)
  generalize hAe : va_A [(h0, .inr (5, fs))] s.heap.size = A at hD ⊢
  have hA : ∀ q : Nat, s.heap.size ≤ q → A q := fun q h => by rw [← hAe]; exact Or.inr h
  have hS : va_S A s.heap s.heap [] := va_S.rf
  have hl := lv_entry ([.ref h0]) (n := 1) (Nat.le_of_ble_eq_true rfl)
  rw [lg_entry_eq]
  generalize (lg_sl ([.ref h0]) ++ List.replicate (1 - (lg_sl ([.ref h0])).length) Slot.unset).toArray = ls at hl ⊢
  have hl : lv_has ls 1 [(0, .ref h0)] := hl
  refine lv_aload_n hx hb dX5_init_0 rfl (lv_at hl 0 rfl) ?_
  refine W.objInit hx hb hown (hts _ wm_150) (hts _ wm_78) (hts _ wm_79) rfl (by rw [hml]; exact hl.1) rfl dX5_init_1 (Nat.le_of_ble_eq_true rfl) (Nat.le_of_ble_eq_true rfl) ?_
  refine W.eq (g2 := F0 m 4 ls []) rfl ?_
  refine lv_aload_n hx hb dX5_init_4 rfl (lv_at hl 0 rfl) ?_
  refine lv_bipush (v := 8) hx hb dX5_init_5 (by decide) ?_
  refine va_newq (N' := 8) hx hb hown (hts _ wm_91) hex.1 hK hP hD hS hA (by decide) rfl (Nat.le_of_ble_eq_true rfl) (Nat.le_of_ble_eq_true rfl) (Nat.le_of_ble_eq_true rfl) dX5_init_7 (fun q_1 cA_2 H hK hP hD hS => ?_)
  have hK : va_K (dC, dI) vwCl [(cA_2, .object RX2)] s := hK
  have hP : va_P (dC, dI) vwCl [(h0, .inr (5, fs)), (q_1, .inl (cA_2, 8, .inr (.inr (.inr (.inr (fun _ => none))))))] H := hP
  have hD : va_D A [(h0, .inr (5, fs)), (q_1, .inl (cA_2, 8, .inr (.inr (.inr (.inr (fun _ => none))))))] := hD
  refine va_putF (D := (dC, dI)) (ci := 5) (v := .ref q_1) (ty := .array (.object "NoticeMarket$Page")) (C := RX5) (T := TX5) (N := 17) hx hb hts uB5 tyX5 tyX5_ok nmX5 hown hK hP hD hS 0 rfl rfl 0 (by decide) (hts _ wm_90) (fun _ h9 => h9) rfl hin rfl (by decide +kernel) rfl rfl (by rw [hlen_h0]; decide) dX5_init_10 (fun H locs hP hD hS => ?_)
  obtain ⟨fs_3, efs_3⟩ : ∃ z9, z9 = (fs).set 0 (.ref q_1) := ⟨_, rfl⟩
  have hP : va_P (dC, dI) vwCl [(h0, .inr (5, fs_3)), (q_1, .inl (cA_2, 8, .inr (.inr (.inr (.inr (fun _ => none))))))] H := by rw [efs_3]; exact hP
  have hD : va_D A [(h0, .inr (5, fs_3)), (q_1, .inl (cA_2, 8, .inr (.inr (.inr (.inr (fun _ => none))))))] := by rw [efs_3]; exact hD
  have hf7_h0 : fs_3[7]? = some (.int 0) := by rw [efs_3, List.getElem?_set_ne (by decide)]; exact hf7_h0
  have hf8_h0 : fs_3[8]? = some (.int 0) := by rw [efs_3, List.getElem?_set_ne (by decide)]; exact hf8_h0
  have hf9_h0 : fs_3[9]? = some (.int 0) := by rw [efs_3, List.getElem?_set_ne (by decide)]; exact hf9_h0
  have hf10_h0 : fs_3[10]? = some (.int 0) := by rw [efs_3, List.getElem?_set_ne (by decide)]; exact hf10_h0
  have hf11_h0 : fs_3[11]? = some (.int 0) := by rw [efs_3, List.getElem?_set_ne (by decide)]; exact hf11_h0
  have hf12_h0 : fs_3[12]? = some (.int 0) := by rw [efs_3, List.getElem?_set_ne (by decide)]; exact hf12_h0
  have hf13_h0 : fs_3[13]? = some (.int 0) := by rw [efs_3, List.getElem?_set_ne (by decide)]; exact hf13_h0
  have hf14_h0 : fs_3[14]? = some (.int 0) := by rw [efs_3, List.getElem?_set_ne (by decide)]; exact hf14_h0
  have hf0_h0 : fs_3[0]? = some (.ref q_1) := by rw [efs_3]; exact List.getElem?_set_self (by rw [hlen_h0]; decide)
  have hlen_h0 : fs_3.length = 17 := by rw [efs_3, List.length_set]; exact hlen_h0
  refine lv_aload_n hx hb dX5_init_13 rfl (lv_at hl 0 rfl) ?_
  refine lv_bipush (v := 40) hx hb dX5_init_14 (by decide) ?_
  refine va_newq (N' := 40) hx hb hown (hts _ wm_123) hex.2.1 hK hP hD hS hA (by decide) rfl (Nat.le_of_ble_eq_true rfl) (Nat.le_of_ble_eq_true rfl) (Nat.le_of_ble_eq_true rfl) dX5_init_16 (fun q_4 cA_5 H hK hP hD hS => ?_)
  have hK : va_K (dC, dI) vwCl [(cA_2, .object RX2), (cA_5, .object RX0)] s := hK
  have hP : va_P (dC, dI) vwCl [(h0, .inr (5, fs_3)), (q_1, .inl (cA_2, 8, .inr (.inr (.inr (.inr (fun _ => none)))))), (q_4, .inl (cA_5, 40, .inr (.inr (.inr (.inr (fun _ => none))))))] H := hP
  have hD : va_D A [(h0, .inr (5, fs_3)), (q_1, .inl (cA_2, 8, .inr (.inr (.inr (.inr (fun _ => none)))))), (q_4, .inl (cA_5, 40, .inr (.inr (.inr (.inr (fun _ => none))))))] := hD
  refine va_putF (D := (dC, dI)) (ci := 5) (v := .ref q_4) (ty := .array (.object "NoticeMarket$Campaign")) (C := RX5) (T := TX5) (N := 17) hx hb hts uB5 tyX5 tyX5_ok nmX5 hown hK hP hD hS 0 rfl rfl 1 (by decide) (hts _ wm_122) (fun _ h9 => h9) rfl hin rfl (by decide +kernel) rfl rfl (by rw [hlen_h0]; decide) dX5_init_19 (fun H locs hP hD hS => ?_)
  obtain ⟨fs_6, efs_6⟩ : ∃ z9, z9 = (fs_3).set 1 (.ref q_4) := ⟨_, rfl⟩
  have hP : va_P (dC, dI) vwCl [(h0, .inr (5, fs_6)), (q_1, .inl (cA_2, 8, .inr (.inr (.inr (.inr (fun _ => none)))))), (q_4, .inl (cA_5, 40, .inr (.inr (.inr (.inr (fun _ => none))))))] H := by rw [efs_6]; exact hP
  have hD : va_D A [(h0, .inr (5, fs_6)), (q_1, .inl (cA_2, 8, .inr (.inr (.inr (.inr (fun _ => none)))))), (q_4, .inl (cA_5, 40, .inr (.inr (.inr (.inr (fun _ => none))))))] := by rw [efs_6]; exact hD
  have hf7_h0 : fs_6[7]? = some (.int 0) := by rw [efs_6, List.getElem?_set_ne (by decide)]; exact hf7_h0
  have hf8_h0 : fs_6[8]? = some (.int 0) := by rw [efs_6, List.getElem?_set_ne (by decide)]; exact hf8_h0
  have hf9_h0 : fs_6[9]? = some (.int 0) := by rw [efs_6, List.getElem?_set_ne (by decide)]; exact hf9_h0
  have hf10_h0 : fs_6[10]? = some (.int 0) := by rw [efs_6, List.getElem?_set_ne (by decide)]; exact hf10_h0
  have hf11_h0 : fs_6[11]? = some (.int 0) := by rw [efs_6, List.getElem?_set_ne (by decide)]; exact hf11_h0
  have hf12_h0 : fs_6[12]? = some (.int 0) := by rw [efs_6, List.getElem?_set_ne (by decide)]; exact hf12_h0
  have hf13_h0 : fs_6[13]? = some (.int 0) := by rw [efs_6, List.getElem?_set_ne (by decide)]; exact hf13_h0
  have hf14_h0 : fs_6[14]? = some (.int 0) := by rw [efs_6, List.getElem?_set_ne (by decide)]; exact hf14_h0
  have hf0_h0 : fs_6[0]? = some (.ref q_1) := by rw [efs_6, List.getElem?_set_ne (by decide)]; exact hf0_h0
  have hf1_h0 : fs_6[1]? = some (.ref q_4) := by rw [efs_6]; exact List.getElem?_set_self (by rw [hlen_h0]; decide)
  have hlen_h0 : fs_6.length = 17 := by rw [efs_6, List.length_set]; exact hlen_h0
  refine lv_aload_n hx hb dX5_init_22 rfl (lv_at hl 0 rfl) ?_
  refine lv_sipush (v := 1000) hx hb dX5_init_23 (by decide) ?_
  refine va_newq (N' := 1000) hx hb hown (hts _ wm_151) hex.2.2.1 hK hP hD hS hA (by decide) rfl (Nat.le_of_ble_eq_true rfl) (Nat.le_of_ble_eq_true rfl) (Nat.le_of_ble_eq_true rfl) dX5_init_26 (fun q_7 cA_8 H hK hP hD hS => ?_)
  have hK : va_K (dC, dI) vwCl [(cA_2, .object RX2), (cA_5, .object RX0), (cA_8, .object RX3)] s := hK
  have hP : va_P (dC, dI) vwCl [(h0, .inr (5, fs_6)), (q_1, .inl (cA_2, 8, .inr (.inr (.inr (.inr (fun _ => none)))))), (q_4, .inl (cA_5, 40, .inr (.inr (.inr (.inr (fun _ => none)))))), (q_7, .inl (cA_8, 1000, .inr (.inr (.inr (.inr (fun _ => none))))))] H := hP
  have hD : va_D A [(h0, .inr (5, fs_6)), (q_1, .inl (cA_2, 8, .inr (.inr (.inr (.inr (fun _ => none)))))), (q_4, .inl (cA_5, 40, .inr (.inr (.inr (.inr (fun _ => none)))))), (q_7, .inl (cA_8, 1000, .inr (.inr (.inr (.inr (fun _ => none))))))] := hD
  refine va_putF (D := (dC, dI)) (ci := 5) (v := .ref q_7) (ty := .array (.object "NoticeMarket$Sale")) (C := RX5) (T := TX5) (N := 17) hx hb hts uB5 tyX5 tyX5_ok nmX5 hown hK hP hD hS 0 rfl rfl 2 (by decide) (hts _ wm_152) (fun _ h9 => h9) rfl hin rfl (by decide +kernel) rfl rfl (by rw [hlen_h0]; decide) dX5_init_29 (fun H locs hP hD hS => ?_)
  obtain ⟨fs_9, efs_9⟩ : ∃ z9, z9 = (fs_6).set 2 (.ref q_7) := ⟨_, rfl⟩
  have hP : va_P (dC, dI) vwCl [(h0, .inr (5, fs_9)), (q_1, .inl (cA_2, 8, .inr (.inr (.inr (.inr (fun _ => none)))))), (q_4, .inl (cA_5, 40, .inr (.inr (.inr (.inr (fun _ => none)))))), (q_7, .inl (cA_8, 1000, .inr (.inr (.inr (.inr (fun _ => none))))))] H := by rw [efs_9]; exact hP
  have hD : va_D A [(h0, .inr (5, fs_9)), (q_1, .inl (cA_2, 8, .inr (.inr (.inr (.inr (fun _ => none)))))), (q_4, .inl (cA_5, 40, .inr (.inr (.inr (.inr (fun _ => none)))))), (q_7, .inl (cA_8, 1000, .inr (.inr (.inr (.inr (fun _ => none))))))] := by rw [efs_9]; exact hD
  have hf7_h0 : fs_9[7]? = some (.int 0) := by rw [efs_9, List.getElem?_set_ne (by decide)]; exact hf7_h0
  have hf8_h0 : fs_9[8]? = some (.int 0) := by rw [efs_9, List.getElem?_set_ne (by decide)]; exact hf8_h0
  have hf9_h0 : fs_9[9]? = some (.int 0) := by rw [efs_9, List.getElem?_set_ne (by decide)]; exact hf9_h0
  have hf10_h0 : fs_9[10]? = some (.int 0) := by rw [efs_9, List.getElem?_set_ne (by decide)]; exact hf10_h0
  have hf11_h0 : fs_9[11]? = some (.int 0) := by rw [efs_9, List.getElem?_set_ne (by decide)]; exact hf11_h0
  have hf12_h0 : fs_9[12]? = some (.int 0) := by rw [efs_9, List.getElem?_set_ne (by decide)]; exact hf12_h0
  have hf13_h0 : fs_9[13]? = some (.int 0) := by rw [efs_9, List.getElem?_set_ne (by decide)]; exact hf13_h0
  have hf14_h0 : fs_9[14]? = some (.int 0) := by rw [efs_9, List.getElem?_set_ne (by decide)]; exact hf14_h0
  have hf0_h0 : fs_9[0]? = some (.ref q_1) := by rw [efs_9, List.getElem?_set_ne (by decide)]; exact hf0_h0
  have hf1_h0 : fs_9[1]? = some (.ref q_4) := by rw [efs_9, List.getElem?_set_ne (by decide)]; exact hf1_h0
  have hlen_h0 : fs_9.length = 17 := by rw [efs_9, List.length_set]; exact hlen_h0
  have hK := hK.sub (tys' := [(cA_2, .object RX2), (cA_5, .object RX0)]) [0, 1] rfl
  have hP := hP.sub (ws' := [(h0, .inr (5, fs_9)), (q_1, .inl (cA_2, 8, .inr (.inr (.inr (.inr (fun _ => none)))))), (q_4, .inl (cA_5, 40, .inr (.inr (.inr (.inr (fun _ => none))))))]) [0, 1, 2] rfl
  have hD := hD.sub (ws' := [(h0, .inr (5, fs_9)), (q_1, .inl (cA_2, 8, .inr (.inr (.inr (.inr (fun _ => none)))))), (q_4, .inl (cA_5, 40, .inr (.inr (.inr (.inr (fun _ => none))))))]) [0, 1, 2] (by decide) rfl
  refine lv_aload_n hx hb dX5_init_32 rfl (lv_at hl 0 rfl) ?_
  refine lv_bipush (v := 100) hx hb dX5_init_33 (by decide) ?_
  refine va_newa (atype := .int) (N' := 100) (a0 := (100, .inl (fun _ => 0))) hx hb (hts _ wm_80) rfl hK hP hD hS hA (fun _ => rfl) (by decide) rfl (Nat.le_of_ble_eq_true rfl) (Nat.le_of_ble_eq_true rfl) (Nat.le_of_ble_eq_true rfl) dX5_init_35 (fun q_10 cA_11 H hK hP hD hS => ?_)
  have hK : va_K (dC, dI) vwCl [(cA_2, .object RX2), (cA_5, .object RX0), (cA_11, .int)] s := hK
  have hP : va_P (dC, dI) vwCl [(h0, .inr (5, fs_9)), (q_1, .inl (cA_2, 8, .inr (.inr (.inr (.inr (fun _ => none)))))), (q_4, .inl (cA_5, 40, .inr (.inr (.inr (.inr (fun _ => none)))))), (q_10, .inl (cA_11, 100, .inl (fun _ => 0)))] H := hP
  have hD : va_D A [(h0, .inr (5, fs_9)), (q_1, .inl (cA_2, 8, .inr (.inr (.inr (.inr (fun _ => none)))))), (q_4, .inl (cA_5, 40, .inr (.inr (.inr (.inr (fun _ => none)))))), (q_10, .inl (cA_11, 100, .inl (fun _ => 0)))] := hD
  refine va_putF (D := (dC, dI)) (ci := 5) (v := .ref q_10) (ty := .array (.int)) (C := RX5) (T := TX5) (N := 17) hx hb hts uB5 tyX5 tyX5_ok nmX5 hown hK hP hD hS 0 rfl rfl 3 (by decide) (hts _ wm_75) (fun _ h9 => h9) rfl hin rfl (by decide +kernel) rfl rfl (by rw [hlen_h0]; decide) dX5_init_37 (fun H locs hP hD hS => ?_)
  obtain ⟨fs_12, efs_12⟩ : ∃ z9, z9 = (fs_9).set 3 (.ref q_10) := ⟨_, rfl⟩
  have hP : va_P (dC, dI) vwCl [(h0, .inr (5, fs_12)), (q_1, .inl (cA_2, 8, .inr (.inr (.inr (.inr (fun _ => none)))))), (q_4, .inl (cA_5, 40, .inr (.inr (.inr (.inr (fun _ => none)))))), (q_10, .inl (cA_11, 100, .inl (fun _ => 0)))] H := by rw [efs_12]; exact hP
  have hD : va_D A [(h0, .inr (5, fs_12)), (q_1, .inl (cA_2, 8, .inr (.inr (.inr (.inr (fun _ => none)))))), (q_4, .inl (cA_5, 40, .inr (.inr (.inr (.inr (fun _ => none)))))), (q_10, .inl (cA_11, 100, .inl (fun _ => 0)))] := by rw [efs_12]; exact hD
  have hf7_h0 : fs_12[7]? = some (.int 0) := by rw [efs_12, List.getElem?_set_ne (by decide)]; exact hf7_h0
  have hf8_h0 : fs_12[8]? = some (.int 0) := by rw [efs_12, List.getElem?_set_ne (by decide)]; exact hf8_h0
  have hf9_h0 : fs_12[9]? = some (.int 0) := by rw [efs_12, List.getElem?_set_ne (by decide)]; exact hf9_h0
  have hf10_h0 : fs_12[10]? = some (.int 0) := by rw [efs_12, List.getElem?_set_ne (by decide)]; exact hf10_h0
  have hf11_h0 : fs_12[11]? = some (.int 0) := by rw [efs_12, List.getElem?_set_ne (by decide)]; exact hf11_h0
  have hf12_h0 : fs_12[12]? = some (.int 0) := by rw [efs_12, List.getElem?_set_ne (by decide)]; exact hf12_h0
  have hf13_h0 : fs_12[13]? = some (.int 0) := by rw [efs_12, List.getElem?_set_ne (by decide)]; exact hf13_h0
  have hf14_h0 : fs_12[14]? = some (.int 0) := by rw [efs_12, List.getElem?_set_ne (by decide)]; exact hf14_h0
  have hf0_h0 : fs_12[0]? = some (.ref q_1) := by rw [efs_12, List.getElem?_set_ne (by decide)]; exact hf0_h0
  have hf1_h0 : fs_12[1]? = some (.ref q_4) := by rw [efs_12, List.getElem?_set_ne (by decide)]; exact hf1_h0
  have hf3_h0 : fs_12[3]? = some (.ref q_10) := by rw [efs_12]; exact List.getElem?_set_self (by rw [hlen_h0]; decide)
  have hlen_h0 : fs_12.length = 17 := by rw [efs_12, List.length_set]; exact hlen_h0
  refine lv_aload_n hx hb dX5_init_40 rfl (lv_at hl 0 rfl) ?_
  refine va_new (ci := 1) (fs := [.null, .null, .null, .null, .null, .int 0, .int 0, .long 0, .long 0]) (C := RX1) (T := TX1) (N := 9) hx hb hts uB1 tyX1 tyX1_ok hown (hts _ wm_153) (hts _ wm_154) (hts _ wm_155) hK hP hD hS hA rfl (by decide +kernel) (Nat.le_of_ble_eq_true rfl) (Nat.le_of_ble_eq_true rfl) dX5_init_41 (fun q_13 H hP hD hS => ?_)
  have hP : va_P (dC, dI) vwCl [(h0, .inr (5, fs_12)), (q_1, .inl (cA_2, 8, .inr (.inr (.inr (.inr (fun _ => none)))))), (q_4, .inl (cA_5, 40, .inr (.inr (.inr (.inr (fun _ => none)))))), (q_10, .inl (cA_11, 100, .inl (fun _ => 0))), (q_13, .inr (1, [.null, .null, .null, .null, .null, .int 0, .int 0, .long 0, .long 0]))] H := hP
  have hD : va_D A [(h0, .inr (5, fs_12)), (q_1, .inl (cA_2, 8, .inr (.inr (.inr (.inr (fun _ => none)))))), (q_4, .inl (cA_5, 40, .inr (.inr (.inr (.inr (fun _ => none)))))), (q_10, .inl (cA_11, 100, .inl (fun _ => 0))), (q_13, .inr (1, [.null, .null, .null, .null, .null, .int 0, .int 0, .long 0, .long 0]))] := hD
  refine lv_dup hx hb dX5_init_44 rfl ?_
  refine k_OIN (ci := 1) (q0 := 4) (tc := []) (ex := exG) ⟨hx, hb, hml, hown, hts⟩ (o_Giver l dC dI H.size q_13 [.null, .null, .null, .null, .null, .int 0, .int 0, .long 0, .long 0] rfl) 0 hex.2.2.2.2 wm_156 wm_155 wm_157 rfl (by decide +kernel) ⟨Nat.le_of_ble_eq_true rfl, Nat.le_of_ble_eq_true rfl⟩ (hK.sub (tys' := []) [] rfl) (exG_ok hex.2.2.2.1) rfl rfl hl.1 rfl (Nat.le_of_ble_eq_true rfl) dX5_init_45 ⟨Nat.le_of_ble_eq_true rfl, Nat.le_of_ble_eq_true rfl⟩ hP hD hS hA (fun fs_14 H locs efs_14 hP hD hS => ?_)
  have hP : va_P (dC, dI) vwCl [(h0, .inr (5, fs_12)), (q_1, .inl (cA_2, 8, .inr (.inr (.inr (.inr (fun _ => none)))))), (q_4, .inl (cA_5, 40, .inr (.inr (.inr (.inr (fun _ => none)))))), (q_10, .inl (cA_11, 100, .inl (fun _ => 0))), (q_13, .inr (1, fs_14))] H := hP
  have hD : va_D A [(h0, .inr (5, fs_12)), (q_1, .inl (cA_2, 8, .inr (.inr (.inr (.inr (fun _ => none)))))), (q_4, .inl (cA_5, 40, .inr (.inr (.inr (.inr (fun _ => none)))))), (q_10, .inl (cA_11, 100, .inl (fun _ => 0))), (q_13, .inr (1, fs_14))] := hD
  refine va_putF (D := (dC, dI)) (ci := 5) (v := .ref q_13) (ty := .object "NoticeMarket$Giver") (C := RX5) (T := TX5) (N := 17) hx hb hts uB5 tyX5 tyX5_ok nmX5 hown hK hP hD hS 0 rfl rfl 4 (by decide) (hts _ wm_158) (fun _ h9 => h9) rfl hin rfl (by decide +kernel) rfl rfl (by rw [hlen_h0]; decide) dX5_init_48 (fun H locs hP hD hS => ?_)
  obtain ⟨fs_15, efs_15⟩ : ∃ z9, z9 = (fs_12).set 4 (.ref q_13) := ⟨_, rfl⟩
  have hP : va_P (dC, dI) vwCl [(h0, .inr (5, fs_15)), (q_1, .inl (cA_2, 8, .inr (.inr (.inr (.inr (fun _ => none)))))), (q_4, .inl (cA_5, 40, .inr (.inr (.inr (.inr (fun _ => none)))))), (q_10, .inl (cA_11, 100, .inl (fun _ => 0))), (q_13, .inr (1, fs_14))] H := by rw [efs_15]; exact hP
  have hD : va_D A [(h0, .inr (5, fs_15)), (q_1, .inl (cA_2, 8, .inr (.inr (.inr (.inr (fun _ => none)))))), (q_4, .inl (cA_5, 40, .inr (.inr (.inr (.inr (fun _ => none)))))), (q_10, .inl (cA_11, 100, .inl (fun _ => 0))), (q_13, .inr (1, fs_14))] := by rw [efs_15]; exact hD
  have hf7_h0 : fs_15[7]? = some (.int 0) := by rw [efs_15, List.getElem?_set_ne (by decide)]; exact hf7_h0
  have hf8_h0 : fs_15[8]? = some (.int 0) := by rw [efs_15, List.getElem?_set_ne (by decide)]; exact hf8_h0
  have hf9_h0 : fs_15[9]? = some (.int 0) := by rw [efs_15, List.getElem?_set_ne (by decide)]; exact hf9_h0
  have hf10_h0 : fs_15[10]? = some (.int 0) := by rw [efs_15, List.getElem?_set_ne (by decide)]; exact hf10_h0
  have hf11_h0 : fs_15[11]? = some (.int 0) := by rw [efs_15, List.getElem?_set_ne (by decide)]; exact hf11_h0
  have hf12_h0 : fs_15[12]? = some (.int 0) := by rw [efs_15, List.getElem?_set_ne (by decide)]; exact hf12_h0
  have hf13_h0 : fs_15[13]? = some (.int 0) := by rw [efs_15, List.getElem?_set_ne (by decide)]; exact hf13_h0
  have hf14_h0 : fs_15[14]? = some (.int 0) := by rw [efs_15, List.getElem?_set_ne (by decide)]; exact hf14_h0
  have hf0_h0 : fs_15[0]? = some (.ref q_1) := by rw [efs_15, List.getElem?_set_ne (by decide)]; exact hf0_h0
  have hf1_h0 : fs_15[1]? = some (.ref q_4) := by rw [efs_15, List.getElem?_set_ne (by decide)]; exact hf1_h0
  have hf3_h0 : fs_15[3]? = some (.ref q_10) := by rw [efs_15, List.getElem?_set_ne (by decide)]; exact hf3_h0
  have hlen_h0 : fs_15.length = 17 := by rw [efs_15, List.length_set]; exact hlen_h0
  have hP := hP.sub (ws' := [(h0, .inr (5, fs_15)), (q_1, .inl (cA_2, 8, .inr (.inr (.inr (.inr (fun _ => none)))))), (q_4, .inl (cA_5, 40, .inr (.inr (.inr (.inr (fun _ => none)))))), (q_10, .inl (cA_11, 100, .inl (fun _ => 0)))]) [0, 1, 2, 3] rfl
  have hD := hD.sub (ws' := [(h0, .inr (5, fs_15)), (q_1, .inl (cA_2, 8, .inr (.inr (.inr (.inr (fun _ => none)))))), (q_4, .inl (cA_5, 40, .inr (.inr (.inr (.inr (fun _ => none)))))), (q_10, .inl (cA_11, 100, .inl (fun _ => 0)))]) [0, 1, 2, 3] (by decide) rfl
  refine lv_aload_n hx hb dX5_init_51 rfl (lv_at hl 0 rfl) ?_
  refine lv_iconst (v := 4) hx hb dX5_init_52 (by decide) ?_
  refine va_newa (atype := .int) (N' := 4) (a0 := (4, .inl (fun _ => 0))) hx hb (hts _ wm_80) rfl hK hP hD hS hA (fun _ => rfl) (by decide) rfl (Nat.le_of_ble_eq_true rfl) (Nat.le_of_ble_eq_true rfl) (Nat.le_of_ble_eq_true rfl) dX5_init_53 (fun q_16 cA_17 H hK hP hD hS => ?_)
  have hK : va_K (dC, dI) vwCl [(cA_2, .object RX2), (cA_5, .object RX0), (cA_11, .int), (cA_17, .int)] s := hK
  have hP : va_P (dC, dI) vwCl [(h0, .inr (5, fs_15)), (q_1, .inl (cA_2, 8, .inr (.inr (.inr (.inr (fun _ => none)))))), (q_4, .inl (cA_5, 40, .inr (.inr (.inr (.inr (fun _ => none)))))), (q_10, .inl (cA_11, 100, .inl (fun _ => 0))), (q_16, .inl (cA_17, 4, .inl (fun _ => 0)))] H := hP
  have hD : va_D A [(h0, .inr (5, fs_15)), (q_1, .inl (cA_2, 8, .inr (.inr (.inr (.inr (fun _ => none)))))), (q_4, .inl (cA_5, 40, .inr (.inr (.inr (.inr (fun _ => none)))))), (q_10, .inl (cA_11, 100, .inl (fun _ => 0))), (q_16, .inl (cA_17, 4, .inl (fun _ => 0)))] := hD
  refine va_putF (D := (dC, dI)) (ci := 5) (v := .ref q_16) (ty := .array (.int)) (C := RX5) (T := TX5) (N := 17) hx hb hts uB5 tyX5 tyX5_ok nmX5 hown hK hP hD hS 0 rfl rfl 5 (by decide) (hts _ wm_159) (fun _ h9 => h9) rfl hin rfl (by decide +kernel) rfl rfl (by rw [hlen_h0]; decide) dX5_init_55 (fun H locs hP hD hS => ?_)
  obtain ⟨fs_18, efs_18⟩ : ∃ z9, z9 = (fs_15).set 5 (.ref q_16) := ⟨_, rfl⟩
  have hP : va_P (dC, dI) vwCl [(h0, .inr (5, fs_18)), (q_1, .inl (cA_2, 8, .inr (.inr (.inr (.inr (fun _ => none)))))), (q_4, .inl (cA_5, 40, .inr (.inr (.inr (.inr (fun _ => none)))))), (q_10, .inl (cA_11, 100, .inl (fun _ => 0))), (q_16, .inl (cA_17, 4, .inl (fun _ => 0)))] H := by rw [efs_18]; exact hP
  have hD : va_D A [(h0, .inr (5, fs_18)), (q_1, .inl (cA_2, 8, .inr (.inr (.inr (.inr (fun _ => none)))))), (q_4, .inl (cA_5, 40, .inr (.inr (.inr (.inr (fun _ => none)))))), (q_10, .inl (cA_11, 100, .inl (fun _ => 0))), (q_16, .inl (cA_17, 4, .inl (fun _ => 0)))] := by rw [efs_18]; exact hD
  have hf7_h0 : fs_18[7]? = some (.int 0) := by rw [efs_18, List.getElem?_set_ne (by decide)]; exact hf7_h0
  have hf8_h0 : fs_18[8]? = some (.int 0) := by rw [efs_18, List.getElem?_set_ne (by decide)]; exact hf8_h0
  have hf9_h0 : fs_18[9]? = some (.int 0) := by rw [efs_18, List.getElem?_set_ne (by decide)]; exact hf9_h0
  have hf10_h0 : fs_18[10]? = some (.int 0) := by rw [efs_18, List.getElem?_set_ne (by decide)]; exact hf10_h0
  have hf11_h0 : fs_18[11]? = some (.int 0) := by rw [efs_18, List.getElem?_set_ne (by decide)]; exact hf11_h0
  have hf12_h0 : fs_18[12]? = some (.int 0) := by rw [efs_18, List.getElem?_set_ne (by decide)]; exact hf12_h0
  have hf13_h0 : fs_18[13]? = some (.int 0) := by rw [efs_18, List.getElem?_set_ne (by decide)]; exact hf13_h0
  have hf14_h0 : fs_18[14]? = some (.int 0) := by rw [efs_18, List.getElem?_set_ne (by decide)]; exact hf14_h0
  have hf0_h0 : fs_18[0]? = some (.ref q_1) := by rw [efs_18, List.getElem?_set_ne (by decide)]; exact hf0_h0
  have hf1_h0 : fs_18[1]? = some (.ref q_4) := by rw [efs_18, List.getElem?_set_ne (by decide)]; exact hf1_h0
  have hf3_h0 : fs_18[3]? = some (.ref q_10) := by rw [efs_18, List.getElem?_set_ne (by decide)]; exact hf3_h0
  have hlen_h0 : fs_18.length = 17 := by rw [efs_18, List.length_set]; exact hlen_h0
  have hK := hK.sub (tys' := [(cA_2, .object RX2), (cA_5, .object RX0), (cA_11, .int)]) [0, 1, 2] rfl
  have hP := hP.sub (ws' := [(h0, .inr (5, fs_18)), (q_1, .inl (cA_2, 8, .inr (.inr (.inr (.inr (fun _ => none)))))), (q_4, .inl (cA_5, 40, .inr (.inr (.inr (.inr (fun _ => none)))))), (q_10, .inl (cA_11, 100, .inl (fun _ => 0)))]) [0, 1, 2, 3] rfl
  have hD := hD.sub (ws' := [(h0, .inr (5, fs_18)), (q_1, .inl (cA_2, 8, .inr (.inr (.inr (.inr (fun _ => none)))))), (q_4, .inl (cA_5, 40, .inr (.inr (.inr (.inr (fun _ => none)))))), (q_10, .inl (cA_11, 100, .inl (fun _ => 0)))]) [0, 1, 2, 3] (by decide) rfl
  refine lv_aload_n hx hb dX5_init_58 rfl (lv_at hl 0 rfl) ?_
  refine lv_iconst (v := 4) hx hb dX5_init_59 (by decide) ?_
  refine va_newa (atype := .int) (N' := 4) (a0 := (4, .inl (fun _ => 0))) hx hb (hts _ wm_80) rfl hK hP hD hS hA (fun _ => rfl) (by decide) rfl (Nat.le_of_ble_eq_true rfl) (Nat.le_of_ble_eq_true rfl) (Nat.le_of_ble_eq_true rfl) dX5_init_60 (fun q_19 cA_20 H hK hP hD hS => ?_)
  have hK : va_K (dC, dI) vwCl [(cA_2, .object RX2), (cA_5, .object RX0), (cA_11, .int), (cA_20, .int)] s := hK
  have hP : va_P (dC, dI) vwCl [(h0, .inr (5, fs_18)), (q_1, .inl (cA_2, 8, .inr (.inr (.inr (.inr (fun _ => none)))))), (q_4, .inl (cA_5, 40, .inr (.inr (.inr (.inr (fun _ => none)))))), (q_10, .inl (cA_11, 100, .inl (fun _ => 0))), (q_19, .inl (cA_20, 4, .inl (fun _ => 0)))] H := hP
  have hD : va_D A [(h0, .inr (5, fs_18)), (q_1, .inl (cA_2, 8, .inr (.inr (.inr (.inr (fun _ => none)))))), (q_4, .inl (cA_5, 40, .inr (.inr (.inr (.inr (fun _ => none)))))), (q_10, .inl (cA_11, 100, .inl (fun _ => 0))), (q_19, .inl (cA_20, 4, .inl (fun _ => 0)))] := hD
  refine va_putF (D := (dC, dI)) (ci := 5) (v := .ref q_19) (ty := .array (.int)) (C := RX5) (T := TX5) (N := 17) hx hb hts uB5 tyX5 tyX5_ok nmX5 hown hK hP hD hS 0 rfl rfl 6 (by decide) (hts _ wm_160) (fun _ h9 => h9) rfl hin rfl (by decide +kernel) rfl rfl (by rw [hlen_h0]; decide) dX5_init_62 (fun H locs hP hD hS => ?_)
  obtain ⟨fs_21, efs_21⟩ : ∃ z9, z9 = (fs_18).set 6 (.ref q_19) := ⟨_, rfl⟩
  have hP : va_P (dC, dI) vwCl [(h0, .inr (5, fs_21)), (q_1, .inl (cA_2, 8, .inr (.inr (.inr (.inr (fun _ => none)))))), (q_4, .inl (cA_5, 40, .inr (.inr (.inr (.inr (fun _ => none)))))), (q_10, .inl (cA_11, 100, .inl (fun _ => 0))), (q_19, .inl (cA_20, 4, .inl (fun _ => 0)))] H := by rw [efs_21]; exact hP
  have hD : va_D A [(h0, .inr (5, fs_21)), (q_1, .inl (cA_2, 8, .inr (.inr (.inr (.inr (fun _ => none)))))), (q_4, .inl (cA_5, 40, .inr (.inr (.inr (.inr (fun _ => none)))))), (q_10, .inl (cA_11, 100, .inl (fun _ => 0))), (q_19, .inl (cA_20, 4, .inl (fun _ => 0)))] := by rw [efs_21]; exact hD
  have hf7_h0 : fs_21[7]? = some (.int 0) := by rw [efs_21, List.getElem?_set_ne (by decide)]; exact hf7_h0
  have hf8_h0 : fs_21[8]? = some (.int 0) := by rw [efs_21, List.getElem?_set_ne (by decide)]; exact hf8_h0
  have hf9_h0 : fs_21[9]? = some (.int 0) := by rw [efs_21, List.getElem?_set_ne (by decide)]; exact hf9_h0
  have hf10_h0 : fs_21[10]? = some (.int 0) := by rw [efs_21, List.getElem?_set_ne (by decide)]; exact hf10_h0
  have hf11_h0 : fs_21[11]? = some (.int 0) := by rw [efs_21, List.getElem?_set_ne (by decide)]; exact hf11_h0
  have hf12_h0 : fs_21[12]? = some (.int 0) := by rw [efs_21, List.getElem?_set_ne (by decide)]; exact hf12_h0
  have hf13_h0 : fs_21[13]? = some (.int 0) := by rw [efs_21, List.getElem?_set_ne (by decide)]; exact hf13_h0
  have hf14_h0 : fs_21[14]? = some (.int 0) := by rw [efs_21, List.getElem?_set_ne (by decide)]; exact hf14_h0
  have hf0_h0 : fs_21[0]? = some (.ref q_1) := by rw [efs_21, List.getElem?_set_ne (by decide)]; exact hf0_h0
  have hf1_h0 : fs_21[1]? = some (.ref q_4) := by rw [efs_21, List.getElem?_set_ne (by decide)]; exact hf1_h0
  have hf3_h0 : fs_21[3]? = some (.ref q_10) := by rw [efs_21, List.getElem?_set_ne (by decide)]; exact hf3_h0
  have hlen_h0 : fs_21.length = 17 := by rw [efs_21, List.length_set]; exact hlen_h0
  have hK := hK.sub (tys' := [(cA_2, .object RX2), (cA_5, .object RX0), (cA_11, .int)]) [0, 1, 2] rfl
  have hP := hP.sub (ws' := [(h0, .inr (5, fs_21)), (q_1, .inl (cA_2, 8, .inr (.inr (.inr (.inr (fun _ => none)))))), (q_4, .inl (cA_5, 40, .inr (.inr (.inr (.inr (fun _ => none)))))), (q_10, .inl (cA_11, 100, .inl (fun _ => 0)))]) [0, 1, 2, 3] rfl
  have hD := hD.sub (ws' := [(h0, .inr (5, fs_21)), (q_1, .inl (cA_2, 8, .inr (.inr (.inr (.inr (fun _ => none)))))), (q_4, .inl (cA_5, 40, .inr (.inr (.inr (.inr (fun _ => none)))))), (q_10, .inl (cA_11, 100, .inl (fun _ => 0)))]) [0, 1, 2, 3] (by decide) rfl
  refine lv_aload_n hx hb dX5_init_65 rfl (lv_at hl 0 rfl) ?_
  refine lv_bipush (v := 50) hx hb dX5_init_66 (by decide) ?_
  refine va_put (D := (dC, dI)) (ci := 5) (v := .int 50) (ty := .int) (C := RX5) (T := TX5) (N := 17) hx hb hts uB5 tyX5 tyX5_ok nmX5 hown hK hP hD hS 0 rfl rfl 15 (by decide) (hts _ wm_51) (fun _ h9 => h9) rfl (by decide +kernel) rfl rfl (by rw [hlen_h0]; decide) dX5_init_68 (fun H locs hP hD hS => ?_)
  obtain ⟨fs_22, efs_22⟩ : ∃ z9, z9 = (fs_21).set 15 (.int 50) := ⟨_, rfl⟩
  have hP : va_P (dC, dI) vwCl [(h0, .inr (5, fs_22)), (q_1, .inl (cA_2, 8, .inr (.inr (.inr (.inr (fun _ => none)))))), (q_4, .inl (cA_5, 40, .inr (.inr (.inr (.inr (fun _ => none)))))), (q_10, .inl (cA_11, 100, .inl (fun _ => 0)))] H := by rw [efs_22]; exact hP
  have hD : va_D A [(h0, .inr (5, fs_22)), (q_1, .inl (cA_2, 8, .inr (.inr (.inr (.inr (fun _ => none)))))), (q_4, .inl (cA_5, 40, .inr (.inr (.inr (.inr (fun _ => none)))))), (q_10, .inl (cA_11, 100, .inl (fun _ => 0)))] := by rw [efs_22]; exact hD
  have hf7_h0 : fs_22[7]? = some (.int 0) := by rw [efs_22, List.getElem?_set_ne (by decide)]; exact hf7_h0
  have hf8_h0 : fs_22[8]? = some (.int 0) := by rw [efs_22, List.getElem?_set_ne (by decide)]; exact hf8_h0
  have hf9_h0 : fs_22[9]? = some (.int 0) := by rw [efs_22, List.getElem?_set_ne (by decide)]; exact hf9_h0
  have hf10_h0 : fs_22[10]? = some (.int 0) := by rw [efs_22, List.getElem?_set_ne (by decide)]; exact hf10_h0
  have hf11_h0 : fs_22[11]? = some (.int 0) := by rw [efs_22, List.getElem?_set_ne (by decide)]; exact hf11_h0
  have hf12_h0 : fs_22[12]? = some (.int 0) := by rw [efs_22, List.getElem?_set_ne (by decide)]; exact hf12_h0
  have hf13_h0 : fs_22[13]? = some (.int 0) := by rw [efs_22, List.getElem?_set_ne (by decide)]; exact hf13_h0
  have hf14_h0 : fs_22[14]? = some (.int 0) := by rw [efs_22, List.getElem?_set_ne (by decide)]; exact hf14_h0
  have hf0_h0 : fs_22[0]? = some (.ref q_1) := by rw [efs_22, List.getElem?_set_ne (by decide)]; exact hf0_h0
  have hf1_h0 : fs_22[1]? = some (.ref q_4) := by rw [efs_22, List.getElem?_set_ne (by decide)]; exact hf1_h0
  have hf3_h0 : fs_22[3]? = some (.ref q_10) := by rw [efs_22, List.getElem?_set_ne (by decide)]; exact hf3_h0
  have hf15_h0 : fs_22[15]? = some (.int 50) := by rw [efs_22]; exact List.getElem?_set_self (by rw [hlen_h0]; decide)
  have hlen_h0 : fs_22.length = 17 := by rw [efs_22, List.length_set]; exact hlen_h0
  refine lv_aload_n hx hb dX5_init_71 rfl (lv_at hl 0 rfl) ?_
  refine lv_sipush (v := 10000) hx hb dX5_init_72 (by decide) ?_
  refine va_put (D := (dC, dI)) (ci := 5) (v := .int 10000) (ty := .int) (C := RX5) (T := TX5) (N := 17) hx hb hts uB5 tyX5 tyX5_ok nmX5 hown hK hP hD hS 0 rfl rfl 16 (by decide) (hts _ wm_58) (fun _ h9 => h9) rfl (by decide +kernel) rfl rfl (by rw [hlen_h0]; decide) dX5_init_75 (fun H locs hP hD hS => ?_)
  obtain ⟨fs_23, efs_23⟩ : ∃ z9, z9 = (fs_22).set 16 (.int 10000) := ⟨_, rfl⟩
  have hP : va_P (dC, dI) vwCl [(h0, .inr (5, fs_23)), (q_1, .inl (cA_2, 8, .inr (.inr (.inr (.inr (fun _ => none)))))), (q_4, .inl (cA_5, 40, .inr (.inr (.inr (.inr (fun _ => none)))))), (q_10, .inl (cA_11, 100, .inl (fun _ => 0)))] H := by rw [efs_23]; exact hP
  have hD : va_D A [(h0, .inr (5, fs_23)), (q_1, .inl (cA_2, 8, .inr (.inr (.inr (.inr (fun _ => none)))))), (q_4, .inl (cA_5, 40, .inr (.inr (.inr (.inr (fun _ => none)))))), (q_10, .inl (cA_11, 100, .inl (fun _ => 0)))] := by rw [efs_23]; exact hD
  have hf7_h0 : fs_23[7]? = some (.int 0) := by rw [efs_23, List.getElem?_set_ne (by decide)]; exact hf7_h0
  have hf8_h0 : fs_23[8]? = some (.int 0) := by rw [efs_23, List.getElem?_set_ne (by decide)]; exact hf8_h0
  have hf9_h0 : fs_23[9]? = some (.int 0) := by rw [efs_23, List.getElem?_set_ne (by decide)]; exact hf9_h0
  have hf10_h0 : fs_23[10]? = some (.int 0) := by rw [efs_23, List.getElem?_set_ne (by decide)]; exact hf10_h0
  have hf11_h0 : fs_23[11]? = some (.int 0) := by rw [efs_23, List.getElem?_set_ne (by decide)]; exact hf11_h0
  have hf12_h0 : fs_23[12]? = some (.int 0) := by rw [efs_23, List.getElem?_set_ne (by decide)]; exact hf12_h0
  have hf13_h0 : fs_23[13]? = some (.int 0) := by rw [efs_23, List.getElem?_set_ne (by decide)]; exact hf13_h0
  have hf14_h0 : fs_23[14]? = some (.int 0) := by rw [efs_23, List.getElem?_set_ne (by decide)]; exact hf14_h0
  have hf0_h0 : fs_23[0]? = some (.ref q_1) := by rw [efs_23, List.getElem?_set_ne (by decide)]; exact hf0_h0
  have hf1_h0 : fs_23[1]? = some (.ref q_4) := by rw [efs_23, List.getElem?_set_ne (by decide)]; exact hf1_h0
  have hf3_h0 : fs_23[3]? = some (.ref q_10) := by rw [efs_23, List.getElem?_set_ne (by decide)]; exact hf3_h0
  have hf15_h0 : fs_23[15]? = some (.int 50) := by rw [efs_23, List.getElem?_set_ne (by decide)]; exact hf15_h0
  have hf16_h0 : fs_23[16]? = some (.int 10000) := by rw [efs_23]; exact List.getElem?_set_self (by rw [hlen_h0]; decide)
  have hlen_h0 : fs_23.length = 17 := by rw [efs_23, List.length_set]; exact hlen_h0
  exact W.vret hx hb hr (fun t ht hW => ⟨⟨(fs_23, q_1, q_4, q_10, cA_2, cA_5, cA_11), rfl, ⟨hlen_h0, hf0_h0, hf1_h0, hf3_h0, hf7_h0, hf8_h0, hf9_h0, hf10_h0, hf11_h0, hf12_h0, hf13_h0, hf14_h0, hf15_h0, hf16_h0⟩, by show va_P (dC, dI) vwCl [(h0, .inr (5, fs_23)), (q_1, .inl (cA_2, 8, .inr (.inr (.inr (.inr (fun _ => none)))))), (q_4, .inl (cA_5, 40, .inr (.inr (.inr (.inr (fun _ => none)))))), (q_10, .inl (cA_11, 100, .inl (fun _ => 0)))] t.heap; rw [ht]; exact hP, va_K.moved hW.alike hK, hD⟩, hS.F ht⟩) hS.2.2 dX5_init_78
set_option maxHeartbeats 8000000 in
set_option maxRecDepth 100000 in
theorem n_M (l : Launch) (dC : Nat → ClassId) (dI : Nat → Nat → Nat) (sz : Nat) (h0 : Nat) (fs : List Value) (hf1_h0 : fs[1]? = some (.int 0)) (hf2_h0 : fs[2]? = some (.int 0)) (hf3_h0 : fs[3]? = some (.int 0)) (hf5_h0 : fs[5]? = some (.int 0)) (hf9_h0 : fs[9]? = some (.int 0)) (hf25_h0 : fs[25]? = some (.int 0)) (hlen_h0 : fs.length = 51) : mN (S := List Value × Nat × Nat × Nat × Nat × Nat × Nat × Nat × Nat × Nat × Nat × Nat × Nat × ClassId) l yX6_init cX6_init 1 1 38 11577 (dC, dI) h0 6 fs sz (fun _ => True) [.ref h0] (fun u => match u with | (f, q_places, q_sizes, q_marks, q_sort, q_pays, q_must, q_never, q_bid, q_cap, q_span, q_throttle, q_promised, _) => f.length = 51 ∧ f[6]? = some (.ref q_places) ∧ f[7]? = some (.ref q_sizes) ∧ f[8]? = some (.ref q_marks) ∧ f[10]? = some (.ref q_sort) ∧ f[11]? = some (.ref q_pays) ∧ f[12]? = some (.ref q_must) ∧ f[13]? = some (.ref q_never) ∧ f[14]? = some (.ref q_bid) ∧ f[17]? = some (.ref q_cap) ∧ f[18]? = some (.ref q_span) ∧ f[19]? = some (.ref q_throttle) ∧ f[22]? = some (.ref q_promised) ∧ f[1]? = some (.int 0) ∧ f[2]? = some (.int 0) ∧ f[3]? = some (.int 0) ∧ f[5]? = some (.int 0) ∧ f[9]? = some (.int 0) ∧ f[25]? = some (.int 0)) (fun u => match u with | (f, q_places, q_sizes, q_marks, q_sort, q_pays, q_must, q_never, q_bid, q_cap, q_span, q_throttle, q_promised, cI) => [(h0, .inr (6, f)), (q_places, .inl (cI, 8, .inl (fun _ => 0))), (q_sizes, .inl (cI, 32, .inl (fun _ => 0))), (q_marks, .inl (cI, 100, .inl (fun _ => 0))), (q_sort, .inl (cI, 40, .inl (fun _ => 0))), (q_pays, .inl (cI, 40, .inl (fun _ => 0))), (q_must, .inl (cI, 40, .inl (fun _ => 0))), (q_never, .inl (cI, 40, .inl (fun _ => 0))), (q_bid, .inl (cI, 40, .inl (fun _ => 0))), (q_cap, .inl (cI, 40, .inl (fun _ => 0))), (q_span, .inl (cI, 40, .inl (fun _ => 0))), (q_throttle, .inl (cI, 40, .inl (fun _ => 0))), (q_promised, .inl (cI, 40, .inl (fun _ => 0)))]) (fun u => match u with | (_, _, _, _, _, _, _, _, _, _, _, _, _, cI) => [(cI, .int)]) := by
  refine Met.ofW (cc := cX6_init) (maxL := 1) (ret := none) (by decide) rfl ?_
  intro p e s m args below meth c s₁ B hml hv
  obtain ⟨rfl, hsz, hP, hK, hD0, hex⟩ := hv
  subst hsz
  have hx := B.exec
  have hb := B.bytes
  have hr := B.returns
  have hlocks := B.notSynchronized
  have hts0 := atoms_spec (ws := Cond.code yX6_init cX6_init 1 none :: lw_B) B.pre
  have hts : ∀ w ∈ lw_B, w.before _ s = true := fun w h => hts0 w (List.mem_cons_of_mem _ h)
  have hown : s.vm.findClass RX6 = some m.cls := findClass_of_methodNamed B.named
  have hin : meth.name = "<init>" := (name_of_methodNamed B.named B.method).1
  have hD := hD0.self (sz := s.heap.size)
  generalize hAe : va_A [(h0, .inr (6, fs))] s.heap.size = A at hD ⊢
  have hA : ∀ q : Nat, s.heap.size ≤ q → A q := fun q h => by rw [← hAe]; exact Or.inr h
  have hS : va_S A s.heap s.heap [] := va_S.rf
  have hl := lv_entry ([.ref h0]) (n := 1) (Nat.le_of_ble_eq_true rfl)
  rw [lg_entry_eq]
  generalize (lg_sl ([.ref h0]) ++ List.replicate (1 - (lg_sl ([.ref h0])).length) Slot.unset).toArray = ls at hl ⊢
  have hl : lv_has ls 1 [(0, .ref h0)] := hl
  refine lv_aload_n hx hb dX6_init_0 rfl (lv_at hl 0 rfl) ?_
  refine W.objInit hx hb hown (hts _ wm_161) (hts _ wm_78) (hts _ wm_79) rfl (by rw [hml]; exact hl.1) rfl dX6_init_1 (Nat.le_of_ble_eq_true rfl) (Nat.le_of_ble_eq_true rfl) ?_
  refine W.eq (g2 := F0 m 4 ls []) rfl ?_
  refine lv_aload_n hx hb dX6_init_4 rfl (lv_at hl 0 rfl) ?_
  refine lv_bipush (v := 50) hx hb dX6_init_5 (by decide) ?_
  refine va_put (D := (dC, dI)) (ci := 6) (v := .int 50) (ty := .int) (C := RX6) (T := TX6) (N := 51) hx hb hts uB6 tyX6 tyX6_ok nmX6 hown hK hP hD hS 0 rfl rfl 4 (by decide) (hts _ wm_53) (fun _ h9 => h9) rfl (by decide +kernel) rfl rfl (by rw [hlen_h0]; decide) dX6_init_7 (fun H locs hP hD hS => ?_)
  obtain ⟨fs_1, efs_1⟩ : ∃ z9, z9 = (fs).set 4 (.int 50) := ⟨_, rfl⟩
  have hP : va_P (dC, dI) vwCl [(h0, .inr (6, fs_1))] H := by rw [efs_1]; exact hP
  have hD : va_D A [(h0, .inr (6, fs_1))] := by rw [efs_1]; exact hD
  have hf1_h0 : fs_1[1]? = some (.int 0) := by rw [efs_1, List.getElem?_set_ne (by decide)]; exact hf1_h0
  have hf2_h0 : fs_1[2]? = some (.int 0) := by rw [efs_1, List.getElem?_set_ne (by decide)]; exact hf2_h0
  have hf3_h0 : fs_1[3]? = some (.int 0) := by rw [efs_1, List.getElem?_set_ne (by decide)]; exact hf3_h0
  have hf5_h0 : fs_1[5]? = some (.int 0) := by rw [efs_1, List.getElem?_set_ne (by decide)]; exact hf5_h0
  have hf9_h0 : fs_1[9]? = some (.int 0) := by rw [efs_1, List.getElem?_set_ne (by decide)]; exact hf9_h0
  have hf25_h0 : fs_1[25]? = some (.int 0) := by rw [efs_1, List.getElem?_set_ne (by decide)]; exact hf25_h0
  have hlen_h0 : fs_1.length = 51 := by rw [efs_1, List.length_set]; exact hlen_h0
  refine lv_aload_n hx hb dX6_init_10 rfl (lv_at hl 0 rfl) ?_
  refine lv_bipush (v := 8) hx hb dX6_init_11 (by decide) ?_
  refine va_newa (atype := .int) (N' := 8) (a0 := (8, .inl (fun _ => 0))) hx hb (hts _ wm_80) rfl hK hP hD hS hA (fun _ => rfl) (by decide) rfl (Nat.le_of_ble_eq_true rfl) (Nat.le_of_ble_eq_true rfl) (Nat.le_of_ble_eq_true rfl) dX6_init_13 (fun q_2 cA_3 H hK hP hD hS => ?_)
  have hK : va_K (dC, dI) vwCl [(cA_3, .int)] s := hK
  have hP : va_P (dC, dI) vwCl [(h0, .inr (6, fs_1)), (q_2, .inl (cA_3, 8, .inl (fun _ => 0)))] H := hP
  have hD : va_D A [(h0, .inr (6, fs_1)), (q_2, .inl (cA_3, 8, .inl (fun _ => 0)))] := hD
  refine va_putF (D := (dC, dI)) (ci := 6) (v := .ref q_2) (ty := .array (.int)) (C := RX6) (T := TX6) (N := 51) hx hb hts uB6 tyX6 tyX6_ok nmX6 hown hK hP hD hS 0 rfl rfl 6 (by decide) (hts _ wm_139) (fun _ h9 => h9) rfl hin rfl (by decide +kernel) rfl rfl (by rw [hlen_h0]; decide) dX6_init_15 (fun H locs hP hD hS => ?_)
  obtain ⟨fs_4, efs_4⟩ : ∃ z9, z9 = (fs_1).set 6 (.ref q_2) := ⟨_, rfl⟩
  have hP : va_P (dC, dI) vwCl [(h0, .inr (6, fs_4)), (q_2, .inl (cA_3, 8, .inl (fun _ => 0)))] H := by rw [efs_4]; exact hP
  have hD : va_D A [(h0, .inr (6, fs_4)), (q_2, .inl (cA_3, 8, .inl (fun _ => 0)))] := by rw [efs_4]; exact hD
  have hf1_h0 : fs_4[1]? = some (.int 0) := by rw [efs_4, List.getElem?_set_ne (by decide)]; exact hf1_h0
  have hf2_h0 : fs_4[2]? = some (.int 0) := by rw [efs_4, List.getElem?_set_ne (by decide)]; exact hf2_h0
  have hf3_h0 : fs_4[3]? = some (.int 0) := by rw [efs_4, List.getElem?_set_ne (by decide)]; exact hf3_h0
  have hf5_h0 : fs_4[5]? = some (.int 0) := by rw [efs_4, List.getElem?_set_ne (by decide)]; exact hf5_h0
  have hf9_h0 : fs_4[9]? = some (.int 0) := by rw [efs_4, List.getElem?_set_ne (by decide)]; exact hf9_h0
  have hf25_h0 : fs_4[25]? = some (.int 0) := by rw [efs_4, List.getElem?_set_ne (by decide)]; exact hf25_h0
  have hf6_h0 : fs_4[6]? = some (.ref q_2) := by rw [efs_4]; exact List.getElem?_set_self (by rw [hlen_h0]; decide)
  have hlen_h0 : fs_4.length = 51 := by rw [efs_4, List.length_set]; exact hlen_h0
  refine lv_aload_n hx hb dX6_init_18 rfl (lv_at hl 0 rfl) ?_
  refine lv_bipush (v := 32) hx hb dX6_init_19 (by decide) ?_
  refine va_newa (atype := .int) (N' := 32) (a0 := (32, .inl (fun _ => 0))) hx hb (hts _ wm_80) rfl hK hP hD hS hA (fun _ => rfl) (by decide) rfl (Nat.le_of_ble_eq_true rfl) (Nat.le_of_ble_eq_true rfl) (Nat.le_of_ble_eq_true rfl) dX6_init_21 (fun q_5 cA_6 H hK hP hD hS => ?_)
  have hK : va_K (dC, dI) vwCl [(cA_3, .int), (cA_6, .int)] s := hK
  have hP : va_P (dC, dI) vwCl [(h0, .inr (6, fs_4)), (q_2, .inl (cA_3, 8, .inl (fun _ => 0))), (q_5, .inl (cA_6, 32, .inl (fun _ => 0)))] H := hP
  have hD : va_D A [(h0, .inr (6, fs_4)), (q_2, .inl (cA_3, 8, .inl (fun _ => 0))), (q_5, .inl (cA_6, 32, .inl (fun _ => 0)))] := hD
  refine va_putF (D := (dC, dI)) (ci := 6) (v := .ref q_5) (ty := .array (.int)) (C := RX6) (T := TX6) (N := 51) hx hb hts uB6 tyX6 tyX6_ok nmX6 hown hK hP hD hS 0 rfl rfl 7 (by decide) (hts _ wm_140) (fun _ h9 => h9) rfl hin rfl (by decide +kernel) rfl rfl (by rw [hlen_h0]; decide) dX6_init_23 (fun H locs hP hD hS => ?_)
  obtain ⟨fs_7, efs_7⟩ : ∃ z9, z9 = (fs_4).set 7 (.ref q_5) := ⟨_, rfl⟩
  have hP : va_P (dC, dI) vwCl [(h0, .inr (6, fs_7)), (q_2, .inl (cA_3, 8, .inl (fun _ => 0))), (q_5, .inl (cA_6, 32, .inl (fun _ => 0)))] H := by rw [efs_7]; exact hP
  have hD : va_D A [(h0, .inr (6, fs_7)), (q_2, .inl (cA_3, 8, .inl (fun _ => 0))), (q_5, .inl (cA_6, 32, .inl (fun _ => 0)))] := by rw [efs_7]; exact hD
  have hf1_h0 : fs_7[1]? = some (.int 0) := by rw [efs_7, List.getElem?_set_ne (by decide)]; exact hf1_h0
  have hf2_h0 : fs_7[2]? = some (.int 0) := by rw [efs_7, List.getElem?_set_ne (by decide)]; exact hf2_h0
  have hf3_h0 : fs_7[3]? = some (.int 0) := by rw [efs_7, List.getElem?_set_ne (by decide)]; exact hf3_h0
  have hf5_h0 : fs_7[5]? = some (.int 0) := by rw [efs_7, List.getElem?_set_ne (by decide)]; exact hf5_h0
  have hf9_h0 : fs_7[9]? = some (.int 0) := by rw [efs_7, List.getElem?_set_ne (by decide)]; exact hf9_h0
  have hf25_h0 : fs_7[25]? = some (.int 0) := by rw [efs_7, List.getElem?_set_ne (by decide)]; exact hf25_h0
  have hf6_h0 : fs_7[6]? = some (.ref q_2) := by rw [efs_7, List.getElem?_set_ne (by decide)]; exact hf6_h0
  have hf7_h0 : fs_7[7]? = some (.ref q_5) := by rw [efs_7]; exact List.getElem?_set_self (by rw [hlen_h0]; decide)
  have hlen_h0 : fs_7.length = 51 := by rw [efs_7, List.length_set]; exact hlen_h0
  obtain rfl : cA_3 = cA_6 := (k_same hK (i := 0) (j := 1) rfl rfl).symm
  have hK := hK.sub (tys' := [(cA_3, .int)]) [0] rfl
  refine lv_aload_n hx hb dX6_init_26 rfl (lv_at hl 0 rfl) ?_
  refine lv_bipush (v := 100) hx hb dX6_init_27 (by decide) ?_
  refine va_newa (atype := .int) (N' := 100) (a0 := (100, .inl (fun _ => 0))) hx hb (hts _ wm_80) rfl hK hP hD hS hA (fun _ => rfl) (by decide) rfl (Nat.le_of_ble_eq_true rfl) (Nat.le_of_ble_eq_true rfl) (Nat.le_of_ble_eq_true rfl) dX6_init_29 (fun q_8 cA_9 H hK hP hD hS => ?_)
  have hK : va_K (dC, dI) vwCl [(cA_3, .int), (cA_9, .int)] s := hK
  have hP : va_P (dC, dI) vwCl [(h0, .inr (6, fs_7)), (q_2, .inl (cA_3, 8, .inl (fun _ => 0))), (q_5, .inl (cA_3, 32, .inl (fun _ => 0))), (q_8, .inl (cA_9, 100, .inl (fun _ => 0)))] H := hP
  have hD : va_D A [(h0, .inr (6, fs_7)), (q_2, .inl (cA_3, 8, .inl (fun _ => 0))), (q_5, .inl (cA_3, 32, .inl (fun _ => 0))), (q_8, .inl (cA_9, 100, .inl (fun _ => 0)))] := hD
  refine va_putF (D := (dC, dI)) (ci := 6) (v := .ref q_8) (ty := .array (.int)) (C := RX6) (T := TX6) (N := 51) hx hb hts uB6 tyX6 tyX6_ok nmX6 hown hK hP hD hS 0 rfl rfl 8 (by decide) (hts _ wm_76) (fun _ h9 => h9) rfl hin rfl (by decide +kernel) rfl rfl (by rw [hlen_h0]; decide) dX6_init_31 (fun H locs hP hD hS => ?_)
  obtain ⟨fs_10, efs_10⟩ : ∃ z9, z9 = (fs_7).set 8 (.ref q_8) := ⟨_, rfl⟩
  have hP : va_P (dC, dI) vwCl [(h0, .inr (6, fs_10)), (q_2, .inl (cA_3, 8, .inl (fun _ => 0))), (q_5, .inl (cA_3, 32, .inl (fun _ => 0))), (q_8, .inl (cA_9, 100, .inl (fun _ => 0)))] H := by rw [efs_10]; exact hP
  have hD : va_D A [(h0, .inr (6, fs_10)), (q_2, .inl (cA_3, 8, .inl (fun _ => 0))), (q_5, .inl (cA_3, 32, .inl (fun _ => 0))), (q_8, .inl (cA_9, 100, .inl (fun _ => 0)))] := by rw [efs_10]; exact hD
  have hf1_h0 : fs_10[1]? = some (.int 0) := by rw [efs_10, List.getElem?_set_ne (by decide)]; exact hf1_h0
  have hf2_h0 : fs_10[2]? = some (.int 0) := by rw [efs_10, List.getElem?_set_ne (by decide)]; exact hf2_h0
  have hf3_h0 : fs_10[3]? = some (.int 0) := by rw [efs_10, List.getElem?_set_ne (by decide)]; exact hf3_h0
  have hf5_h0 : fs_10[5]? = some (.int 0) := by rw [efs_10, List.getElem?_set_ne (by decide)]; exact hf5_h0
  have hf9_h0 : fs_10[9]? = some (.int 0) := by rw [efs_10, List.getElem?_set_ne (by decide)]; exact hf9_h0
  have hf25_h0 : fs_10[25]? = some (.int 0) := by rw [efs_10, List.getElem?_set_ne (by decide)]; exact hf25_h0
  have hf6_h0 : fs_10[6]? = some (.ref q_2) := by rw [efs_10, List.getElem?_set_ne (by decide)]; exact hf6_h0
  have hf7_h0 : fs_10[7]? = some (.ref q_5) := by rw [efs_10, List.getElem?_set_ne (by decide)]; exact hf7_h0
  have hf8_h0 : fs_10[8]? = some (.ref q_8) := by rw [efs_10]; exact List.getElem?_set_self (by rw [hlen_h0]; decide)
  have hlen_h0 : fs_10.length = 51 := by rw [efs_10, List.length_set]; exact hlen_h0
  obtain rfl : cA_3 = cA_9 := (k_same hK (i := 0) (j := 1) rfl rfl).symm
  have hK := hK.sub (tys' := [(cA_3, .int)]) [0] rfl
  refine lv_aload_n hx hb dX6_init_34 rfl (lv_at hl 0 rfl) ?_
  refine lv_bipush (v := 40) hx hb dX6_init_35 (by decide) ?_
  refine va_newa (atype := .int) (N' := 40) (a0 := (40, .inl (fun _ => 0))) hx hb (hts _ wm_80) rfl hK hP hD hS hA (fun _ => rfl) (by decide) rfl (Nat.le_of_ble_eq_true rfl) (Nat.le_of_ble_eq_true rfl) (Nat.le_of_ble_eq_true rfl) dX6_init_37 (fun q_11 cA_12 H hK hP hD hS => ?_)
  have hK : va_K (dC, dI) vwCl [(cA_3, .int), (cA_12, .int)] s := hK
  have hP : va_P (dC, dI) vwCl [(h0, .inr (6, fs_10)), (q_2, .inl (cA_3, 8, .inl (fun _ => 0))), (q_5, .inl (cA_3, 32, .inl (fun _ => 0))), (q_8, .inl (cA_3, 100, .inl (fun _ => 0))), (q_11, .inl (cA_12, 40, .inl (fun _ => 0)))] H := hP
  have hD : va_D A [(h0, .inr (6, fs_10)), (q_2, .inl (cA_3, 8, .inl (fun _ => 0))), (q_5, .inl (cA_3, 32, .inl (fun _ => 0))), (q_8, .inl (cA_3, 100, .inl (fun _ => 0))), (q_11, .inl (cA_12, 40, .inl (fun _ => 0)))] := hD
  refine va_putF (D := (dC, dI)) (ci := 6) (v := .ref q_11) (ty := .array (.int)) (C := RX6) (T := TX6) (N := 51) hx hb hts uB6 tyX6 tyX6_ok nmX6 hown hK hP hD hS 0 rfl rfl 10 (by decide) (hts _ wm_130) (fun _ h9 => h9) rfl hin rfl (by decide +kernel) rfl rfl (by rw [hlen_h0]; decide) dX6_init_39 (fun H locs hP hD hS => ?_)
  obtain ⟨fs_13, efs_13⟩ : ∃ z9, z9 = (fs_10).set 10 (.ref q_11) := ⟨_, rfl⟩
  have hP : va_P (dC, dI) vwCl [(h0, .inr (6, fs_13)), (q_2, .inl (cA_3, 8, .inl (fun _ => 0))), (q_5, .inl (cA_3, 32, .inl (fun _ => 0))), (q_8, .inl (cA_3, 100, .inl (fun _ => 0))), (q_11, .inl (cA_12, 40, .inl (fun _ => 0)))] H := by rw [efs_13]; exact hP
  have hD : va_D A [(h0, .inr (6, fs_13)), (q_2, .inl (cA_3, 8, .inl (fun _ => 0))), (q_5, .inl (cA_3, 32, .inl (fun _ => 0))), (q_8, .inl (cA_3, 100, .inl (fun _ => 0))), (q_11, .inl (cA_12, 40, .inl (fun _ => 0)))] := by rw [efs_13]; exact hD
  have hf1_h0 : fs_13[1]? = some (.int 0) := by rw [efs_13, List.getElem?_set_ne (by decide)]; exact hf1_h0
  have hf2_h0 : fs_13[2]? = some (.int 0) := by rw [efs_13, List.getElem?_set_ne (by decide)]; exact hf2_h0
  have hf3_h0 : fs_13[3]? = some (.int 0) := by rw [efs_13, List.getElem?_set_ne (by decide)]; exact hf3_h0
  have hf5_h0 : fs_13[5]? = some (.int 0) := by rw [efs_13, List.getElem?_set_ne (by decide)]; exact hf5_h0
  have hf9_h0 : fs_13[9]? = some (.int 0) := by rw [efs_13, List.getElem?_set_ne (by decide)]; exact hf9_h0
  have hf25_h0 : fs_13[25]? = some (.int 0) := by rw [efs_13, List.getElem?_set_ne (by decide)]; exact hf25_h0
  have hf6_h0 : fs_13[6]? = some (.ref q_2) := by rw [efs_13, List.getElem?_set_ne (by decide)]; exact hf6_h0
  have hf7_h0 : fs_13[7]? = some (.ref q_5) := by rw [efs_13, List.getElem?_set_ne (by decide)]; exact hf7_h0
  have hf8_h0 : fs_13[8]? = some (.ref q_8) := by rw [efs_13, List.getElem?_set_ne (by decide)]; exact hf8_h0
  have hf10_h0 : fs_13[10]? = some (.ref q_11) := by rw [efs_13]; exact List.getElem?_set_self (by rw [hlen_h0]; decide)
  have hlen_h0 : fs_13.length = 51 := by rw [efs_13, List.length_set]; exact hlen_h0
  obtain rfl : cA_3 = cA_12 := (k_same hK (i := 0) (j := 1) rfl rfl).symm
  have hK := hK.sub (tys' := [(cA_3, .int)]) [0] rfl
  refine lv_aload_n hx hb dX6_init_42 rfl (lv_at hl 0 rfl) ?_
  refine lv_bipush (v := 40) hx hb dX6_init_43 (by decide) ?_
  refine va_newa (atype := .int) (N' := 40) (a0 := (40, .inl (fun _ => 0))) hx hb (hts _ wm_80) rfl hK hP hD hS hA (fun _ => rfl) (by decide) rfl (Nat.le_of_ble_eq_true rfl) (Nat.le_of_ble_eq_true rfl) (Nat.le_of_ble_eq_true rfl) dX6_init_45 (fun q_14 cA_15 H hK hP hD hS => ?_)
  have hK : va_K (dC, dI) vwCl [(cA_3, .int), (cA_15, .int)] s := hK
  have hP : va_P (dC, dI) vwCl [(h0, .inr (6, fs_13)), (q_2, .inl (cA_3, 8, .inl (fun _ => 0))), (q_5, .inl (cA_3, 32, .inl (fun _ => 0))), (q_8, .inl (cA_3, 100, .inl (fun _ => 0))), (q_11, .inl (cA_3, 40, .inl (fun _ => 0))), (q_14, .inl (cA_15, 40, .inl (fun _ => 0)))] H := hP
  have hD : va_D A [(h0, .inr (6, fs_13)), (q_2, .inl (cA_3, 8, .inl (fun _ => 0))), (q_5, .inl (cA_3, 32, .inl (fun _ => 0))), (q_8, .inl (cA_3, 100, .inl (fun _ => 0))), (q_11, .inl (cA_3, 40, .inl (fun _ => 0))), (q_14, .inl (cA_15, 40, .inl (fun _ => 0)))] := hD
  refine va_putF (D := (dC, dI)) (ci := 6) (v := .ref q_14) (ty := .array (.int)) (C := RX6) (T := TX6) (N := 51) hx hb hts uB6 tyX6 tyX6_ok nmX6 hown hK hP hD hS 0 rfl rfl 11 (by decide) (hts _ wm_131) (fun _ h9 => h9) rfl hin rfl (by decide +kernel) rfl rfl (by rw [hlen_h0]; decide) dX6_init_47 (fun H locs hP hD hS => ?_)
  obtain ⟨fs_16, efs_16⟩ : ∃ z9, z9 = (fs_13).set 11 (.ref q_14) := ⟨_, rfl⟩
  have hP : va_P (dC, dI) vwCl [(h0, .inr (6, fs_16)), (q_2, .inl (cA_3, 8, .inl (fun _ => 0))), (q_5, .inl (cA_3, 32, .inl (fun _ => 0))), (q_8, .inl (cA_3, 100, .inl (fun _ => 0))), (q_11, .inl (cA_3, 40, .inl (fun _ => 0))), (q_14, .inl (cA_15, 40, .inl (fun _ => 0)))] H := by rw [efs_16]; exact hP
  have hD : va_D A [(h0, .inr (6, fs_16)), (q_2, .inl (cA_3, 8, .inl (fun _ => 0))), (q_5, .inl (cA_3, 32, .inl (fun _ => 0))), (q_8, .inl (cA_3, 100, .inl (fun _ => 0))), (q_11, .inl (cA_3, 40, .inl (fun _ => 0))), (q_14, .inl (cA_15, 40, .inl (fun _ => 0)))] := by rw [efs_16]; exact hD
  have hf1_h0 : fs_16[1]? = some (.int 0) := by rw [efs_16, List.getElem?_set_ne (by decide)]; exact hf1_h0
  have hf2_h0 : fs_16[2]? = some (.int 0) := by rw [efs_16, List.getElem?_set_ne (by decide)]; exact hf2_h0
  have hf3_h0 : fs_16[3]? = some (.int 0) := by rw [efs_16, List.getElem?_set_ne (by decide)]; exact hf3_h0
  have hf5_h0 : fs_16[5]? = some (.int 0) := by rw [efs_16, List.getElem?_set_ne (by decide)]; exact hf5_h0
  have hf9_h0 : fs_16[9]? = some (.int 0) := by rw [efs_16, List.getElem?_set_ne (by decide)]; exact hf9_h0
  have hf25_h0 : fs_16[25]? = some (.int 0) := by rw [efs_16, List.getElem?_set_ne (by decide)]; exact hf25_h0
  have hf6_h0 : fs_16[6]? = some (.ref q_2) := by rw [efs_16, List.getElem?_set_ne (by decide)]; exact hf6_h0
  have hf7_h0 : fs_16[7]? = some (.ref q_5) := by rw [efs_16, List.getElem?_set_ne (by decide)]; exact hf7_h0
  have hf8_h0 : fs_16[8]? = some (.ref q_8) := by rw [efs_16, List.getElem?_set_ne (by decide)]; exact hf8_h0
  have hf10_h0 : fs_16[10]? = some (.ref q_11) := by rw [efs_16, List.getElem?_set_ne (by decide)]; exact hf10_h0
  have hf11_h0 : fs_16[11]? = some (.ref q_14) := by rw [efs_16]; exact List.getElem?_set_self (by rw [hlen_h0]; decide)
  have hlen_h0 : fs_16.length = 51 := by rw [efs_16, List.length_set]; exact hlen_h0
  obtain rfl : cA_3 = cA_15 := (k_same hK (i := 0) (j := 1) rfl rfl).symm
  have hK := hK.sub (tys' := [(cA_3, .int)]) [0] rfl
  refine lv_aload_n hx hb dX6_init_50 rfl (lv_at hl 0 rfl) ?_
  refine lv_bipush (v := 40) hx hb dX6_init_51 (by decide) ?_
  refine va_newa (atype := .int) (N' := 40) (a0 := (40, .inl (fun _ => 0))) hx hb (hts _ wm_80) rfl hK hP hD hS hA (fun _ => rfl) (by decide) rfl (Nat.le_of_ble_eq_true rfl) (Nat.le_of_ble_eq_true rfl) (Nat.le_of_ble_eq_true rfl) dX6_init_53 (fun q_17 cA_18 H hK hP hD hS => ?_)
  have hK : va_K (dC, dI) vwCl [(cA_3, .int), (cA_18, .int)] s := hK
  have hP : va_P (dC, dI) vwCl [(h0, .inr (6, fs_16)), (q_2, .inl (cA_3, 8, .inl (fun _ => 0))), (q_5, .inl (cA_3, 32, .inl (fun _ => 0))), (q_8, .inl (cA_3, 100, .inl (fun _ => 0))), (q_11, .inl (cA_3, 40, .inl (fun _ => 0))), (q_14, .inl (cA_3, 40, .inl (fun _ => 0))), (q_17, .inl (cA_18, 40, .inl (fun _ => 0)))] H := hP
  have hD : va_D A [(h0, .inr (6, fs_16)), (q_2, .inl (cA_3, 8, .inl (fun _ => 0))), (q_5, .inl (cA_3, 32, .inl (fun _ => 0))), (q_8, .inl (cA_3, 100, .inl (fun _ => 0))), (q_11, .inl (cA_3, 40, .inl (fun _ => 0))), (q_14, .inl (cA_3, 40, .inl (fun _ => 0))), (q_17, .inl (cA_18, 40, .inl (fun _ => 0)))] := hD
  refine va_putF (D := (dC, dI)) (ci := 6) (v := .ref q_17) (ty := .array (.int)) (C := RX6) (T := TX6) (N := 51) hx hb hts uB6 tyX6 tyX6_ok nmX6 hown hK hP hD hS 0 rfl rfl 12 (by decide) (hts _ wm_132) (fun _ h9 => h9) rfl hin rfl (by decide +kernel) rfl rfl (by rw [hlen_h0]; decide) dX6_init_55 (fun H locs hP hD hS => ?_)
  obtain ⟨fs_19, efs_19⟩ : ∃ z9, z9 = (fs_16).set 12 (.ref q_17) := ⟨_, rfl⟩
  have hP : va_P (dC, dI) vwCl [(h0, .inr (6, fs_19)), (q_2, .inl (cA_3, 8, .inl (fun _ => 0))), (q_5, .inl (cA_3, 32, .inl (fun _ => 0))), (q_8, .inl (cA_3, 100, .inl (fun _ => 0))), (q_11, .inl (cA_3, 40, .inl (fun _ => 0))), (q_14, .inl (cA_3, 40, .inl (fun _ => 0))), (q_17, .inl (cA_18, 40, .inl (fun _ => 0)))] H := by rw [efs_19]; exact hP
  have hD : va_D A [(h0, .inr (6, fs_19)), (q_2, .inl (cA_3, 8, .inl (fun _ => 0))), (q_5, .inl (cA_3, 32, .inl (fun _ => 0))), (q_8, .inl (cA_3, 100, .inl (fun _ => 0))), (q_11, .inl (cA_3, 40, .inl (fun _ => 0))), (q_14, .inl (cA_3, 40, .inl (fun _ => 0))), (q_17, .inl (cA_18, 40, .inl (fun _ => 0)))] := by rw [efs_19]; exact hD
  have hf1_h0 : fs_19[1]? = some (.int 0) := by rw [efs_19, List.getElem?_set_ne (by decide)]; exact hf1_h0
  have hf2_h0 : fs_19[2]? = some (.int 0) := by rw [efs_19, List.getElem?_set_ne (by decide)]; exact hf2_h0
  have hf3_h0 : fs_19[3]? = some (.int 0) := by rw [efs_19, List.getElem?_set_ne (by decide)]; exact hf3_h0
  have hf5_h0 : fs_19[5]? = some (.int 0) := by rw [efs_19, List.getElem?_set_ne (by decide)]; exact hf5_h0
  have hf9_h0 : fs_19[9]? = some (.int 0) := by rw [efs_19, List.getElem?_set_ne (by decide)]; exact hf9_h0
  have hf25_h0 : fs_19[25]? = some (.int 0) := by rw [efs_19, List.getElem?_set_ne (by decide)]; exact hf25_h0
  have hf6_h0 : fs_19[6]? = some (.ref q_2) := by rw [efs_19, List.getElem?_set_ne (by decide)]; exact hf6_h0
  have hf7_h0 : fs_19[7]? = some (.ref q_5) := by rw [efs_19, List.getElem?_set_ne (by decide)]; exact hf7_h0
  have hf8_h0 : fs_19[8]? = some (.ref q_8) := by rw [efs_19, List.getElem?_set_ne (by decide)]; exact hf8_h0
  have hf10_h0 : fs_19[10]? = some (.ref q_11) := by rw [efs_19, List.getElem?_set_ne (by decide)]; exact hf10_h0
  have hf11_h0 : fs_19[11]? = some (.ref q_14) := by rw [efs_19, List.getElem?_set_ne (by decide)]; exact hf11_h0
  have hf12_h0 : fs_19[12]? = some (.ref q_17) := by rw [efs_19]; exact List.getElem?_set_self (by rw [hlen_h0]; decide)
  have hlen_h0 : fs_19.length = 51 := by rw [efs_19, List.length_set]; exact hlen_h0
  obtain rfl : cA_3 = cA_18 := (k_same hK (i := 0) (j := 1) rfl rfl).symm
  have hK := hK.sub (tys' := [(cA_3, .int)]) [0] rfl
  refine lv_aload_n hx hb dX6_init_58 rfl (lv_at hl 0 rfl) ?_
  refine lv_bipush (v := 40) hx hb dX6_init_59 (by decide) ?_
  refine va_newa (atype := .int) (N' := 40) (a0 := (40, .inl (fun _ => 0))) hx hb (hts _ wm_80) rfl hK hP hD hS hA (fun _ => rfl) (by decide) rfl (Nat.le_of_ble_eq_true rfl) (Nat.le_of_ble_eq_true rfl) (Nat.le_of_ble_eq_true rfl) dX6_init_61 (fun q_20 cA_21 H hK hP hD hS => ?_)
  have hK : va_K (dC, dI) vwCl [(cA_3, .int), (cA_21, .int)] s := hK
  have hP : va_P (dC, dI) vwCl [(h0, .inr (6, fs_19)), (q_2, .inl (cA_3, 8, .inl (fun _ => 0))), (q_5, .inl (cA_3, 32, .inl (fun _ => 0))), (q_8, .inl (cA_3, 100, .inl (fun _ => 0))), (q_11, .inl (cA_3, 40, .inl (fun _ => 0))), (q_14, .inl (cA_3, 40, .inl (fun _ => 0))), (q_17, .inl (cA_3, 40, .inl (fun _ => 0))), (q_20, .inl (cA_21, 40, .inl (fun _ => 0)))] H := hP
  have hD : va_D A [(h0, .inr (6, fs_19)), (q_2, .inl (cA_3, 8, .inl (fun _ => 0))), (q_5, .inl (cA_3, 32, .inl (fun _ => 0))), (q_8, .inl (cA_3, 100, .inl (fun _ => 0))), (q_11, .inl (cA_3, 40, .inl (fun _ => 0))), (q_14, .inl (cA_3, 40, .inl (fun _ => 0))), (q_17, .inl (cA_3, 40, .inl (fun _ => 0))), (q_20, .inl (cA_21, 40, .inl (fun _ => 0)))] := hD
  refine va_putF (D := (dC, dI)) (ci := 6) (v := .ref q_20) (ty := .array (.int)) (C := RX6) (T := TX6) (N := 51) hx hb hts uB6 tyX6 tyX6_ok nmX6 hown hK hP hD hS 0 rfl rfl 13 (by decide) (hts _ wm_133) (fun _ h9 => h9) rfl hin rfl (by decide +kernel) rfl rfl (by rw [hlen_h0]; decide) dX6_init_63 (fun H locs hP hD hS => ?_)
  obtain ⟨fs_22, efs_22⟩ : ∃ z9, z9 = (fs_19).set 13 (.ref q_20) := ⟨_, rfl⟩
  have hP : va_P (dC, dI) vwCl [(h0, .inr (6, fs_22)), (q_2, .inl (cA_3, 8, .inl (fun _ => 0))), (q_5, .inl (cA_3, 32, .inl (fun _ => 0))), (q_8, .inl (cA_3, 100, .inl (fun _ => 0))), (q_11, .inl (cA_3, 40, .inl (fun _ => 0))), (q_14, .inl (cA_3, 40, .inl (fun _ => 0))), (q_17, .inl (cA_3, 40, .inl (fun _ => 0))), (q_20, .inl (cA_21, 40, .inl (fun _ => 0)))] H := by rw [efs_22]; exact hP
  have hD : va_D A [(h0, .inr (6, fs_22)), (q_2, .inl (cA_3, 8, .inl (fun _ => 0))), (q_5, .inl (cA_3, 32, .inl (fun _ => 0))), (q_8, .inl (cA_3, 100, .inl (fun _ => 0))), (q_11, .inl (cA_3, 40, .inl (fun _ => 0))), (q_14, .inl (cA_3, 40, .inl (fun _ => 0))), (q_17, .inl (cA_3, 40, .inl (fun _ => 0))), (q_20, .inl (cA_21, 40, .inl (fun _ => 0)))] := by rw [efs_22]; exact hD
  have hf1_h0 : fs_22[1]? = some (.int 0) := by rw [efs_22, List.getElem?_set_ne (by decide)]; exact hf1_h0
  have hf2_h0 : fs_22[2]? = some (.int 0) := by rw [efs_22, List.getElem?_set_ne (by decide)]; exact hf2_h0
  have hf3_h0 : fs_22[3]? = some (.int 0) := by rw [efs_22, List.getElem?_set_ne (by decide)]; exact hf3_h0
  have hf5_h0 : fs_22[5]? = some (.int 0) := by rw [efs_22, List.getElem?_set_ne (by decide)]; exact hf5_h0
  have hf9_h0 : fs_22[9]? = some (.int 0) := by rw [efs_22, List.getElem?_set_ne (by decide)]; exact hf9_h0
  have hf25_h0 : fs_22[25]? = some (.int 0) := by rw [efs_22, List.getElem?_set_ne (by decide)]; exact hf25_h0
  have hf6_h0 : fs_22[6]? = some (.ref q_2) := by rw [efs_22, List.getElem?_set_ne (by decide)]; exact hf6_h0
  have hf7_h0 : fs_22[7]? = some (.ref q_5) := by rw [efs_22, List.getElem?_set_ne (by decide)]; exact hf7_h0
  have hf8_h0 : fs_22[8]? = some (.ref q_8) := by rw [efs_22, List.getElem?_set_ne (by decide)]; exact hf8_h0
  have hf10_h0 : fs_22[10]? = some (.ref q_11) := by rw [efs_22, List.getElem?_set_ne (by decide)]; exact hf10_h0
  have hf11_h0 : fs_22[11]? = some (.ref q_14) := by rw [efs_22, List.getElem?_set_ne (by decide)]; exact hf11_h0
  have hf12_h0 : fs_22[12]? = some (.ref q_17) := by rw [efs_22, List.getElem?_set_ne (by decide)]; exact hf12_h0
  have hf13_h0 : fs_22[13]? = some (.ref q_20) := by rw [efs_22]; exact List.getElem?_set_self (by rw [hlen_h0]; decide)
  have hlen_h0 : fs_22.length = 51 := by rw [efs_22, List.length_set]; exact hlen_h0
  obtain rfl : cA_3 = cA_21 := (k_same hK (i := 0) (j := 1) rfl rfl).symm
  have hK := hK.sub (tys' := [(cA_3, .int)]) [0] rfl
  refine lv_aload_n hx hb dX6_init_66 rfl (lv_at hl 0 rfl) ?_
  refine lv_bipush (v := 40) hx hb dX6_init_67 (by decide) ?_
  refine va_newa (atype := .int) (N' := 40) (a0 := (40, .inl (fun _ => 0))) hx hb (hts _ wm_80) rfl hK hP hD hS hA (fun _ => rfl) (by decide) rfl (Nat.le_of_ble_eq_true rfl) (Nat.le_of_ble_eq_true rfl) (Nat.le_of_ble_eq_true rfl) dX6_init_69 (fun q_23 cA_24 H hK hP hD hS => ?_)
  have hK : va_K (dC, dI) vwCl [(cA_3, .int), (cA_24, .int)] s := hK
  have hP : va_P (dC, dI) vwCl [(h0, .inr (6, fs_22)), (q_2, .inl (cA_3, 8, .inl (fun _ => 0))), (q_5, .inl (cA_3, 32, .inl (fun _ => 0))), (q_8, .inl (cA_3, 100, .inl (fun _ => 0))), (q_11, .inl (cA_3, 40, .inl (fun _ => 0))), (q_14, .inl (cA_3, 40, .inl (fun _ => 0))), (q_17, .inl (cA_3, 40, .inl (fun _ => 0))), (q_20, .inl (cA_3, 40, .inl (fun _ => 0))), (q_23, .inl (cA_24, 40, .inl (fun _ => 0)))] H := hP
  have hD : va_D A [(h0, .inr (6, fs_22)), (q_2, .inl (cA_3, 8, .inl (fun _ => 0))), (q_5, .inl (cA_3, 32, .inl (fun _ => 0))), (q_8, .inl (cA_3, 100, .inl (fun _ => 0))), (q_11, .inl (cA_3, 40, .inl (fun _ => 0))), (q_14, .inl (cA_3, 40, .inl (fun _ => 0))), (q_17, .inl (cA_3, 40, .inl (fun _ => 0))), (q_20, .inl (cA_3, 40, .inl (fun _ => 0))), (q_23, .inl (cA_24, 40, .inl (fun _ => 0)))] := hD
  refine va_putF (D := (dC, dI)) (ci := 6) (v := .ref q_23) (ty := .array (.int)) (C := RX6) (T := TX6) (N := 51) hx hb hts uB6 tyX6 tyX6_ok nmX6 hown hK hP hD hS 0 rfl rfl 14 (by decide) (hts _ wm_134) (fun _ h9 => h9) rfl hin rfl (by decide +kernel) rfl rfl (by rw [hlen_h0]; decide) dX6_init_71 (fun H locs hP hD hS => ?_)
  obtain ⟨fs_25, efs_25⟩ : ∃ z9, z9 = (fs_22).set 14 (.ref q_23) := ⟨_, rfl⟩
  have hP : va_P (dC, dI) vwCl [(h0, .inr (6, fs_25)), (q_2, .inl (cA_3, 8, .inl (fun _ => 0))), (q_5, .inl (cA_3, 32, .inl (fun _ => 0))), (q_8, .inl (cA_3, 100, .inl (fun _ => 0))), (q_11, .inl (cA_3, 40, .inl (fun _ => 0))), (q_14, .inl (cA_3, 40, .inl (fun _ => 0))), (q_17, .inl (cA_3, 40, .inl (fun _ => 0))), (q_20, .inl (cA_3, 40, .inl (fun _ => 0))), (q_23, .inl (cA_24, 40, .inl (fun _ => 0)))] H := by rw [efs_25]; exact hP
  have hD : va_D A [(h0, .inr (6, fs_25)), (q_2, .inl (cA_3, 8, .inl (fun _ => 0))), (q_5, .inl (cA_3, 32, .inl (fun _ => 0))), (q_8, .inl (cA_3, 100, .inl (fun _ => 0))), (q_11, .inl (cA_3, 40, .inl (fun _ => 0))), (q_14, .inl (cA_3, 40, .inl (fun _ => 0))), (q_17, .inl (cA_3, 40, .inl (fun _ => 0))), (q_20, .inl (cA_3, 40, .inl (fun _ => 0))), (q_23, .inl (cA_24, 40, .inl (fun _ => 0)))] := by rw [efs_25]; exact hD
  have hf1_h0 : fs_25[1]? = some (.int 0) := by rw [efs_25, List.getElem?_set_ne (by decide)]; exact hf1_h0
  have hf2_h0 : fs_25[2]? = some (.int 0) := by rw [efs_25, List.getElem?_set_ne (by decide)]; exact hf2_h0
  have hf3_h0 : fs_25[3]? = some (.int 0) := by rw [efs_25, List.getElem?_set_ne (by decide)]; exact hf3_h0
  have hf5_h0 : fs_25[5]? = some (.int 0) := by rw [efs_25, List.getElem?_set_ne (by decide)]; exact hf5_h0
  have hf9_h0 : fs_25[9]? = some (.int 0) := by rw [efs_25, List.getElem?_set_ne (by decide)]; exact hf9_h0
  have hf25_h0 : fs_25[25]? = some (.int 0) := by rw [efs_25, List.getElem?_set_ne (by decide)]; exact hf25_h0
  have hf6_h0 : fs_25[6]? = some (.ref q_2) := by rw [efs_25, List.getElem?_set_ne (by decide)]; exact hf6_h0
  have hf7_h0 : fs_25[7]? = some (.ref q_5) := by rw [efs_25, List.getElem?_set_ne (by decide)]; exact hf7_h0
  have hf8_h0 : fs_25[8]? = some (.ref q_8) := by rw [efs_25, List.getElem?_set_ne (by decide)]; exact hf8_h0
  have hf10_h0 : fs_25[10]? = some (.ref q_11) := by rw [efs_25, List.getElem?_set_ne (by decide)]; exact hf10_h0
  have hf11_h0 : fs_25[11]? = some (.ref q_14) := by rw [efs_25, List.getElem?_set_ne (by decide)]; exact hf11_h0
  have hf12_h0 : fs_25[12]? = some (.ref q_17) := by rw [efs_25, List.getElem?_set_ne (by decide)]; exact hf12_h0
  have hf13_h0 : fs_25[13]? = some (.ref q_20) := by rw [efs_25, List.getElem?_set_ne (by decide)]; exact hf13_h0
  have hf14_h0 : fs_25[14]? = some (.ref q_23) := by rw [efs_25]; exact List.getElem?_set_self (by rw [hlen_h0]; decide)
  have hlen_h0 : fs_25.length = 51 := by rw [efs_25, List.length_set]; exact hlen_h0
  obtain rfl : cA_3 = cA_24 := (k_same hK (i := 0) (j := 1) rfl rfl).symm
  have hK := hK.sub (tys' := [(cA_3, .int)]) [0] rfl
  refine lv_aload_n hx hb dX6_init_74 rfl (lv_at hl 0 rfl) ?_
  refine lv_bipush (v := 40) hx hb dX6_init_75 (by decide) ?_
  refine va_newa (atype := .int) (N' := 40) (a0 := (40, .inl (fun _ => 0))) hx hb (hts _ wm_80) rfl hK hP hD hS hA (fun _ => rfl) (by decide) rfl (Nat.le_of_ble_eq_true rfl) (Nat.le_of_ble_eq_true rfl) (Nat.le_of_ble_eq_true rfl) dX6_init_77 (fun q_26 cA_27 H hK hP hD hS => ?_)
  have hK : va_K (dC, dI) vwCl [(cA_3, .int), (cA_27, .int)] s := hK
  have hP : va_P (dC, dI) vwCl [(h0, .inr (6, fs_25)), (q_2, .inl (cA_3, 8, .inl (fun _ => 0))), (q_5, .inl (cA_3, 32, .inl (fun _ => 0))), (q_8, .inl (cA_3, 100, .inl (fun _ => 0))), (q_11, .inl (cA_3, 40, .inl (fun _ => 0))), (q_14, .inl (cA_3, 40, .inl (fun _ => 0))), (q_17, .inl (cA_3, 40, .inl (fun _ => 0))), (q_20, .inl (cA_3, 40, .inl (fun _ => 0))), (q_23, .inl (cA_3, 40, .inl (fun _ => 0))), (q_26, .inl (cA_27, 40, .inl (fun _ => 0)))] H := hP
  have hD : va_D A [(h0, .inr (6, fs_25)), (q_2, .inl (cA_3, 8, .inl (fun _ => 0))), (q_5, .inl (cA_3, 32, .inl (fun _ => 0))), (q_8, .inl (cA_3, 100, .inl (fun _ => 0))), (q_11, .inl (cA_3, 40, .inl (fun _ => 0))), (q_14, .inl (cA_3, 40, .inl (fun _ => 0))), (q_17, .inl (cA_3, 40, .inl (fun _ => 0))), (q_20, .inl (cA_3, 40, .inl (fun _ => 0))), (q_23, .inl (cA_3, 40, .inl (fun _ => 0))), (q_26, .inl (cA_27, 40, .inl (fun _ => 0)))] := hD
  refine va_putF (D := (dC, dI)) (ci := 6) (v := .ref q_26) (ty := .array (.int)) (C := RX6) (T := TX6) (N := 51) hx hb hts uB6 tyX6 tyX6_ok nmX6 hown hK hP hD hS 0 rfl rfl 15 (by decide) (hts _ wm_162) (fun _ h9 => h9) rfl hin rfl (by decide +kernel) rfl rfl (by rw [hlen_h0]; decide) dX6_init_79 (fun H locs hP hD hS => ?_)
  obtain ⟨fs_28, efs_28⟩ : ∃ z9, z9 = (fs_25).set 15 (.ref q_26) := ⟨_, rfl⟩
  have hP : va_P (dC, dI) vwCl [(h0, .inr (6, fs_28)), (q_2, .inl (cA_3, 8, .inl (fun _ => 0))), (q_5, .inl (cA_3, 32, .inl (fun _ => 0))), (q_8, .inl (cA_3, 100, .inl (fun _ => 0))), (q_11, .inl (cA_3, 40, .inl (fun _ => 0))), (q_14, .inl (cA_3, 40, .inl (fun _ => 0))), (q_17, .inl (cA_3, 40, .inl (fun _ => 0))), (q_20, .inl (cA_3, 40, .inl (fun _ => 0))), (q_23, .inl (cA_3, 40, .inl (fun _ => 0))), (q_26, .inl (cA_27, 40, .inl (fun _ => 0)))] H := by rw [efs_28]; exact hP
  have hD : va_D A [(h0, .inr (6, fs_28)), (q_2, .inl (cA_3, 8, .inl (fun _ => 0))), (q_5, .inl (cA_3, 32, .inl (fun _ => 0))), (q_8, .inl (cA_3, 100, .inl (fun _ => 0))), (q_11, .inl (cA_3, 40, .inl (fun _ => 0))), (q_14, .inl (cA_3, 40, .inl (fun _ => 0))), (q_17, .inl (cA_3, 40, .inl (fun _ => 0))), (q_20, .inl (cA_3, 40, .inl (fun _ => 0))), (q_23, .inl (cA_3, 40, .inl (fun _ => 0))), (q_26, .inl (cA_27, 40, .inl (fun _ => 0)))] := by rw [efs_28]; exact hD
  have hf1_h0 : fs_28[1]? = some (.int 0) := by rw [efs_28, List.getElem?_set_ne (by decide)]; exact hf1_h0
  have hf2_h0 : fs_28[2]? = some (.int 0) := by rw [efs_28, List.getElem?_set_ne (by decide)]; exact hf2_h0
  have hf3_h0 : fs_28[3]? = some (.int 0) := by rw [efs_28, List.getElem?_set_ne (by decide)]; exact hf3_h0
  have hf5_h0 : fs_28[5]? = some (.int 0) := by rw [efs_28, List.getElem?_set_ne (by decide)]; exact hf5_h0
  have hf9_h0 : fs_28[9]? = some (.int 0) := by rw [efs_28, List.getElem?_set_ne (by decide)]; exact hf9_h0
  have hf25_h0 : fs_28[25]? = some (.int 0) := by rw [efs_28, List.getElem?_set_ne (by decide)]; exact hf25_h0
  have hf6_h0 : fs_28[6]? = some (.ref q_2) := by rw [efs_28, List.getElem?_set_ne (by decide)]; exact hf6_h0
  have hf7_h0 : fs_28[7]? = some (.ref q_5) := by rw [efs_28, List.getElem?_set_ne (by decide)]; exact hf7_h0
  have hf8_h0 : fs_28[8]? = some (.ref q_8) := by rw [efs_28, List.getElem?_set_ne (by decide)]; exact hf8_h0
  have hf10_h0 : fs_28[10]? = some (.ref q_11) := by rw [efs_28, List.getElem?_set_ne (by decide)]; exact hf10_h0
  have hf11_h0 : fs_28[11]? = some (.ref q_14) := by rw [efs_28, List.getElem?_set_ne (by decide)]; exact hf11_h0
  have hf12_h0 : fs_28[12]? = some (.ref q_17) := by rw [efs_28, List.getElem?_set_ne (by decide)]; exact hf12_h0
  have hf13_h0 : fs_28[13]? = some (.ref q_20) := by rw [efs_28, List.getElem?_set_ne (by decide)]; exact hf13_h0
  have hf14_h0 : fs_28[14]? = some (.ref q_23) := by rw [efs_28, List.getElem?_set_ne (by decide)]; exact hf14_h0
  have hlen_h0 : fs_28.length = 51 := by rw [efs_28, List.length_set]; exact hlen_h0
  have hK := hK.sub (tys' := [(cA_3, .int)]) [0] rfl
  have hP := hP.sub (ws' := [(h0, .inr (6, fs_28)), (q_2, .inl (cA_3, 8, .inl (fun _ => 0))), (q_5, .inl (cA_3, 32, .inl (fun _ => 0))), (q_8, .inl (cA_3, 100, .inl (fun _ => 0))), (q_11, .inl (cA_3, 40, .inl (fun _ => 0))), (q_14, .inl (cA_3, 40, .inl (fun _ => 0))), (q_17, .inl (cA_3, 40, .inl (fun _ => 0))), (q_20, .inl (cA_3, 40, .inl (fun _ => 0))), (q_23, .inl (cA_3, 40, .inl (fun _ => 0)))]) [0, 1, 2, 3, 4, 5, 6, 7, 8] rfl
  have hD := hD.sub (ws' := [(h0, .inr (6, fs_28)), (q_2, .inl (cA_3, 8, .inl (fun _ => 0))), (q_5, .inl (cA_3, 32, .inl (fun _ => 0))), (q_8, .inl (cA_3, 100, .inl (fun _ => 0))), (q_11, .inl (cA_3, 40, .inl (fun _ => 0))), (q_14, .inl (cA_3, 40, .inl (fun _ => 0))), (q_17, .inl (cA_3, 40, .inl (fun _ => 0))), (q_20, .inl (cA_3, 40, .inl (fun _ => 0))), (q_23, .inl (cA_3, 40, .inl (fun _ => 0)))]) [0, 1, 2, 3, 4, 5, 6, 7, 8] (by decide) rfl
  refine lv_aload_n hx hb dX6_init_82 rfl (lv_at hl 0 rfl) ?_
  refine lv_bipush (v := 40) hx hb dX6_init_83 (by decide) ?_
  refine va_newa (atype := .int) (N' := 40) (a0 := (40, .inl (fun _ => 0))) hx hb (hts _ wm_80) rfl hK hP hD hS hA (fun _ => rfl) (by decide) rfl (Nat.le_of_ble_eq_true rfl) (Nat.le_of_ble_eq_true rfl) (Nat.le_of_ble_eq_true rfl) dX6_init_85 (fun q_29 cA_30 H hK hP hD hS => ?_)
  have hK : va_K (dC, dI) vwCl [(cA_3, .int), (cA_30, .int)] s := hK
  have hP : va_P (dC, dI) vwCl [(h0, .inr (6, fs_28)), (q_2, .inl (cA_3, 8, .inl (fun _ => 0))), (q_5, .inl (cA_3, 32, .inl (fun _ => 0))), (q_8, .inl (cA_3, 100, .inl (fun _ => 0))), (q_11, .inl (cA_3, 40, .inl (fun _ => 0))), (q_14, .inl (cA_3, 40, .inl (fun _ => 0))), (q_17, .inl (cA_3, 40, .inl (fun _ => 0))), (q_20, .inl (cA_3, 40, .inl (fun _ => 0))), (q_23, .inl (cA_3, 40, .inl (fun _ => 0))), (q_29, .inl (cA_30, 40, .inl (fun _ => 0)))] H := hP
  have hD : va_D A [(h0, .inr (6, fs_28)), (q_2, .inl (cA_3, 8, .inl (fun _ => 0))), (q_5, .inl (cA_3, 32, .inl (fun _ => 0))), (q_8, .inl (cA_3, 100, .inl (fun _ => 0))), (q_11, .inl (cA_3, 40, .inl (fun _ => 0))), (q_14, .inl (cA_3, 40, .inl (fun _ => 0))), (q_17, .inl (cA_3, 40, .inl (fun _ => 0))), (q_20, .inl (cA_3, 40, .inl (fun _ => 0))), (q_23, .inl (cA_3, 40, .inl (fun _ => 0))), (q_29, .inl (cA_30, 40, .inl (fun _ => 0)))] := hD
  refine va_putF (D := (dC, dI)) (ci := 6) (v := .ref q_29) (ty := .array (.int)) (C := RX6) (T := TX6) (N := 51) hx hb hts uB6 tyX6 tyX6_ok nmX6 hown hK hP hD hS 0 rfl rfl 16 (by decide) (hts _ wm_163) (fun _ h9 => h9) rfl hin rfl (by decide +kernel) rfl rfl (by rw [hlen_h0]; decide) dX6_init_87 (fun H locs hP hD hS => ?_)
  obtain ⟨fs_31, efs_31⟩ : ∃ z9, z9 = (fs_28).set 16 (.ref q_29) := ⟨_, rfl⟩
  have hP : va_P (dC, dI) vwCl [(h0, .inr (6, fs_31)), (q_2, .inl (cA_3, 8, .inl (fun _ => 0))), (q_5, .inl (cA_3, 32, .inl (fun _ => 0))), (q_8, .inl (cA_3, 100, .inl (fun _ => 0))), (q_11, .inl (cA_3, 40, .inl (fun _ => 0))), (q_14, .inl (cA_3, 40, .inl (fun _ => 0))), (q_17, .inl (cA_3, 40, .inl (fun _ => 0))), (q_20, .inl (cA_3, 40, .inl (fun _ => 0))), (q_23, .inl (cA_3, 40, .inl (fun _ => 0))), (q_29, .inl (cA_30, 40, .inl (fun _ => 0)))] H := by rw [efs_31]; exact hP
  have hD : va_D A [(h0, .inr (6, fs_31)), (q_2, .inl (cA_3, 8, .inl (fun _ => 0))), (q_5, .inl (cA_3, 32, .inl (fun _ => 0))), (q_8, .inl (cA_3, 100, .inl (fun _ => 0))), (q_11, .inl (cA_3, 40, .inl (fun _ => 0))), (q_14, .inl (cA_3, 40, .inl (fun _ => 0))), (q_17, .inl (cA_3, 40, .inl (fun _ => 0))), (q_20, .inl (cA_3, 40, .inl (fun _ => 0))), (q_23, .inl (cA_3, 40, .inl (fun _ => 0))), (q_29, .inl (cA_30, 40, .inl (fun _ => 0)))] := by rw [efs_31]; exact hD
  have hf1_h0 : fs_31[1]? = some (.int 0) := by rw [efs_31, List.getElem?_set_ne (by decide)]; exact hf1_h0
  have hf2_h0 : fs_31[2]? = some (.int 0) := by rw [efs_31, List.getElem?_set_ne (by decide)]; exact hf2_h0
  have hf3_h0 : fs_31[3]? = some (.int 0) := by rw [efs_31, List.getElem?_set_ne (by decide)]; exact hf3_h0
  have hf5_h0 : fs_31[5]? = some (.int 0) := by rw [efs_31, List.getElem?_set_ne (by decide)]; exact hf5_h0
  have hf9_h0 : fs_31[9]? = some (.int 0) := by rw [efs_31, List.getElem?_set_ne (by decide)]; exact hf9_h0
  have hf25_h0 : fs_31[25]? = some (.int 0) := by rw [efs_31, List.getElem?_set_ne (by decide)]; exact hf25_h0
  have hf6_h0 : fs_31[6]? = some (.ref q_2) := by rw [efs_31, List.getElem?_set_ne (by decide)]; exact hf6_h0
  have hf7_h0 : fs_31[7]? = some (.ref q_5) := by rw [efs_31, List.getElem?_set_ne (by decide)]; exact hf7_h0
  have hf8_h0 : fs_31[8]? = some (.ref q_8) := by rw [efs_31, List.getElem?_set_ne (by decide)]; exact hf8_h0
  have hf10_h0 : fs_31[10]? = some (.ref q_11) := by rw [efs_31, List.getElem?_set_ne (by decide)]; exact hf10_h0
  have hf11_h0 : fs_31[11]? = some (.ref q_14) := by rw [efs_31, List.getElem?_set_ne (by decide)]; exact hf11_h0
  have hf12_h0 : fs_31[12]? = some (.ref q_17) := by rw [efs_31, List.getElem?_set_ne (by decide)]; exact hf12_h0
  have hf13_h0 : fs_31[13]? = some (.ref q_20) := by rw [efs_31, List.getElem?_set_ne (by decide)]; exact hf13_h0
  have hf14_h0 : fs_31[14]? = some (.ref q_23) := by rw [efs_31, List.getElem?_set_ne (by decide)]; exact hf14_h0
  have hlen_h0 : fs_31.length = 51 := by rw [efs_31, List.length_set]; exact hlen_h0
  have hK := hK.sub (tys' := [(cA_3, .int)]) [0] rfl
  have hP := hP.sub (ws' := [(h0, .inr (6, fs_31)), (q_2, .inl (cA_3, 8, .inl (fun _ => 0))), (q_5, .inl (cA_3, 32, .inl (fun _ => 0))), (q_8, .inl (cA_3, 100, .inl (fun _ => 0))), (q_11, .inl (cA_3, 40, .inl (fun _ => 0))), (q_14, .inl (cA_3, 40, .inl (fun _ => 0))), (q_17, .inl (cA_3, 40, .inl (fun _ => 0))), (q_20, .inl (cA_3, 40, .inl (fun _ => 0))), (q_23, .inl (cA_3, 40, .inl (fun _ => 0)))]) [0, 1, 2, 3, 4, 5, 6, 7, 8] rfl
  have hD := hD.sub (ws' := [(h0, .inr (6, fs_31)), (q_2, .inl (cA_3, 8, .inl (fun _ => 0))), (q_5, .inl (cA_3, 32, .inl (fun _ => 0))), (q_8, .inl (cA_3, 100, .inl (fun _ => 0))), (q_11, .inl (cA_3, 40, .inl (fun _ => 0))), (q_14, .inl (cA_3, 40, .inl (fun _ => 0))), (q_17, .inl (cA_3, 40, .inl (fun _ => 0))), (q_20, .inl (cA_3, 40, .inl (fun _ => 0))), (q_23, .inl (cA_3, 40, .inl (fun _ => 0)))]) [0, 1, 2, 3, 4, 5, 6, 7, 8] (by decide) rfl
  refine lv_aload_n hx hb dX6_init_90 rfl (lv_at hl 0 rfl) ?_
  refine lv_bipush (v := 40) hx hb dX6_init_91 (by decide) ?_
  refine va_newa (atype := .int) (N' := 40) (a0 := (40, .inl (fun _ => 0))) hx hb (hts _ wm_80) rfl hK hP hD hS hA (fun _ => rfl) (by decide) rfl (Nat.le_of_ble_eq_true rfl) (Nat.le_of_ble_eq_true rfl) (Nat.le_of_ble_eq_true rfl) dX6_init_93 (fun q_32 cA_33 H hK hP hD hS => ?_)
  have hK : va_K (dC, dI) vwCl [(cA_3, .int), (cA_33, .int)] s := hK
  have hP : va_P (dC, dI) vwCl [(h0, .inr (6, fs_31)), (q_2, .inl (cA_3, 8, .inl (fun _ => 0))), (q_5, .inl (cA_3, 32, .inl (fun _ => 0))), (q_8, .inl (cA_3, 100, .inl (fun _ => 0))), (q_11, .inl (cA_3, 40, .inl (fun _ => 0))), (q_14, .inl (cA_3, 40, .inl (fun _ => 0))), (q_17, .inl (cA_3, 40, .inl (fun _ => 0))), (q_20, .inl (cA_3, 40, .inl (fun _ => 0))), (q_23, .inl (cA_3, 40, .inl (fun _ => 0))), (q_32, .inl (cA_33, 40, .inl (fun _ => 0)))] H := hP
  have hD : va_D A [(h0, .inr (6, fs_31)), (q_2, .inl (cA_3, 8, .inl (fun _ => 0))), (q_5, .inl (cA_3, 32, .inl (fun _ => 0))), (q_8, .inl (cA_3, 100, .inl (fun _ => 0))), (q_11, .inl (cA_3, 40, .inl (fun _ => 0))), (q_14, .inl (cA_3, 40, .inl (fun _ => 0))), (q_17, .inl (cA_3, 40, .inl (fun _ => 0))), (q_20, .inl (cA_3, 40, .inl (fun _ => 0))), (q_23, .inl (cA_3, 40, .inl (fun _ => 0))), (q_32, .inl (cA_33, 40, .inl (fun _ => 0)))] := hD
  refine va_putF (D := (dC, dI)) (ci := 6) (v := .ref q_32) (ty := .array (.int)) (C := RX6) (T := TX6) (N := 51) hx hb hts uB6 tyX6 tyX6_ok nmX6 hown hK hP hD hS 0 rfl rfl 17 (by decide) (hts _ wm_135) (fun _ h9 => h9) rfl hin rfl (by decide +kernel) rfl rfl (by rw [hlen_h0]; decide) dX6_init_95 (fun H locs hP hD hS => ?_)
  obtain ⟨fs_34, efs_34⟩ : ∃ z9, z9 = (fs_31).set 17 (.ref q_32) := ⟨_, rfl⟩
  have hP : va_P (dC, dI) vwCl [(h0, .inr (6, fs_34)), (q_2, .inl (cA_3, 8, .inl (fun _ => 0))), (q_5, .inl (cA_3, 32, .inl (fun _ => 0))), (q_8, .inl (cA_3, 100, .inl (fun _ => 0))), (q_11, .inl (cA_3, 40, .inl (fun _ => 0))), (q_14, .inl (cA_3, 40, .inl (fun _ => 0))), (q_17, .inl (cA_3, 40, .inl (fun _ => 0))), (q_20, .inl (cA_3, 40, .inl (fun _ => 0))), (q_23, .inl (cA_3, 40, .inl (fun _ => 0))), (q_32, .inl (cA_33, 40, .inl (fun _ => 0)))] H := by rw [efs_34]; exact hP
  have hD : va_D A [(h0, .inr (6, fs_34)), (q_2, .inl (cA_3, 8, .inl (fun _ => 0))), (q_5, .inl (cA_3, 32, .inl (fun _ => 0))), (q_8, .inl (cA_3, 100, .inl (fun _ => 0))), (q_11, .inl (cA_3, 40, .inl (fun _ => 0))), (q_14, .inl (cA_3, 40, .inl (fun _ => 0))), (q_17, .inl (cA_3, 40, .inl (fun _ => 0))), (q_20, .inl (cA_3, 40, .inl (fun _ => 0))), (q_23, .inl (cA_3, 40, .inl (fun _ => 0))), (q_32, .inl (cA_33, 40, .inl (fun _ => 0)))] := by rw [efs_34]; exact hD
  have hf1_h0 : fs_34[1]? = some (.int 0) := by rw [efs_34, List.getElem?_set_ne (by decide)]; exact hf1_h0
  have hf2_h0 : fs_34[2]? = some (.int 0) := by rw [efs_34, List.getElem?_set_ne (by decide)]; exact hf2_h0
  have hf3_h0 : fs_34[3]? = some (.int 0) := by rw [efs_34, List.getElem?_set_ne (by decide)]; exact hf3_h0
  have hf5_h0 : fs_34[5]? = some (.int 0) := by rw [efs_34, List.getElem?_set_ne (by decide)]; exact hf5_h0
  have hf9_h0 : fs_34[9]? = some (.int 0) := by rw [efs_34, List.getElem?_set_ne (by decide)]; exact hf9_h0
  have hf25_h0 : fs_34[25]? = some (.int 0) := by rw [efs_34, List.getElem?_set_ne (by decide)]; exact hf25_h0
  have hf6_h0 : fs_34[6]? = some (.ref q_2) := by rw [efs_34, List.getElem?_set_ne (by decide)]; exact hf6_h0
  have hf7_h0 : fs_34[7]? = some (.ref q_5) := by rw [efs_34, List.getElem?_set_ne (by decide)]; exact hf7_h0
  have hf8_h0 : fs_34[8]? = some (.ref q_8) := by rw [efs_34, List.getElem?_set_ne (by decide)]; exact hf8_h0
  have hf10_h0 : fs_34[10]? = some (.ref q_11) := by rw [efs_34, List.getElem?_set_ne (by decide)]; exact hf10_h0
  have hf11_h0 : fs_34[11]? = some (.ref q_14) := by rw [efs_34, List.getElem?_set_ne (by decide)]; exact hf11_h0
  have hf12_h0 : fs_34[12]? = some (.ref q_17) := by rw [efs_34, List.getElem?_set_ne (by decide)]; exact hf12_h0
  have hf13_h0 : fs_34[13]? = some (.ref q_20) := by rw [efs_34, List.getElem?_set_ne (by decide)]; exact hf13_h0
  have hf14_h0 : fs_34[14]? = some (.ref q_23) := by rw [efs_34, List.getElem?_set_ne (by decide)]; exact hf14_h0
  have hf17_h0 : fs_34[17]? = some (.ref q_32) := by rw [efs_34]; exact List.getElem?_set_self (by rw [hlen_h0]; decide)
  have hlen_h0 : fs_34.length = 51 := by rw [efs_34, List.length_set]; exact hlen_h0
  obtain rfl : cA_3 = cA_33 := (k_same hK (i := 0) (j := 1) rfl rfl).symm
  have hK := hK.sub (tys' := [(cA_3, .int)]) [0] rfl
  refine lv_aload_n hx hb dX6_init_98 rfl (lv_at hl 0 rfl) ?_
  refine lv_bipush (v := 40) hx hb dX6_init_99 (by decide) ?_
  refine va_newa (atype := .int) (N' := 40) (a0 := (40, .inl (fun _ => 0))) hx hb (hts _ wm_80) rfl hK hP hD hS hA (fun _ => rfl) (by decide) rfl (Nat.le_of_ble_eq_true rfl) (Nat.le_of_ble_eq_true rfl) (Nat.le_of_ble_eq_true rfl) dX6_init_101 (fun q_35 cA_36 H hK hP hD hS => ?_)
  have hK : va_K (dC, dI) vwCl [(cA_3, .int), (cA_36, .int)] s := hK
  have hP : va_P (dC, dI) vwCl [(h0, .inr (6, fs_34)), (q_2, .inl (cA_3, 8, .inl (fun _ => 0))), (q_5, .inl (cA_3, 32, .inl (fun _ => 0))), (q_8, .inl (cA_3, 100, .inl (fun _ => 0))), (q_11, .inl (cA_3, 40, .inl (fun _ => 0))), (q_14, .inl (cA_3, 40, .inl (fun _ => 0))), (q_17, .inl (cA_3, 40, .inl (fun _ => 0))), (q_20, .inl (cA_3, 40, .inl (fun _ => 0))), (q_23, .inl (cA_3, 40, .inl (fun _ => 0))), (q_32, .inl (cA_3, 40, .inl (fun _ => 0))), (q_35, .inl (cA_36, 40, .inl (fun _ => 0)))] H := hP
  have hD : va_D A [(h0, .inr (6, fs_34)), (q_2, .inl (cA_3, 8, .inl (fun _ => 0))), (q_5, .inl (cA_3, 32, .inl (fun _ => 0))), (q_8, .inl (cA_3, 100, .inl (fun _ => 0))), (q_11, .inl (cA_3, 40, .inl (fun _ => 0))), (q_14, .inl (cA_3, 40, .inl (fun _ => 0))), (q_17, .inl (cA_3, 40, .inl (fun _ => 0))), (q_20, .inl (cA_3, 40, .inl (fun _ => 0))), (q_23, .inl (cA_3, 40, .inl (fun _ => 0))), (q_32, .inl (cA_3, 40, .inl (fun _ => 0))), (q_35, .inl (cA_36, 40, .inl (fun _ => 0)))] := hD
  refine va_putF (D := (dC, dI)) (ci := 6) (v := .ref q_35) (ty := .array (.int)) (C := RX6) (T := TX6) (N := 51) hx hb hts uB6 tyX6 tyX6_ok nmX6 hown hK hP hD hS 0 rfl rfl 18 (by decide) (hts _ wm_136) (fun _ h9 => h9) rfl hin rfl (by decide +kernel) rfl rfl (by rw [hlen_h0]; decide) dX6_init_103 (fun H locs hP hD hS => ?_)
  obtain ⟨fs_37, efs_37⟩ : ∃ z9, z9 = (fs_34).set 18 (.ref q_35) := ⟨_, rfl⟩
  have hP : va_P (dC, dI) vwCl [(h0, .inr (6, fs_37)), (q_2, .inl (cA_3, 8, .inl (fun _ => 0))), (q_5, .inl (cA_3, 32, .inl (fun _ => 0))), (q_8, .inl (cA_3, 100, .inl (fun _ => 0))), (q_11, .inl (cA_3, 40, .inl (fun _ => 0))), (q_14, .inl (cA_3, 40, .inl (fun _ => 0))), (q_17, .inl (cA_3, 40, .inl (fun _ => 0))), (q_20, .inl (cA_3, 40, .inl (fun _ => 0))), (q_23, .inl (cA_3, 40, .inl (fun _ => 0))), (q_32, .inl (cA_3, 40, .inl (fun _ => 0))), (q_35, .inl (cA_36, 40, .inl (fun _ => 0)))] H := by rw [efs_37]; exact hP
  have hD : va_D A [(h0, .inr (6, fs_37)), (q_2, .inl (cA_3, 8, .inl (fun _ => 0))), (q_5, .inl (cA_3, 32, .inl (fun _ => 0))), (q_8, .inl (cA_3, 100, .inl (fun _ => 0))), (q_11, .inl (cA_3, 40, .inl (fun _ => 0))), (q_14, .inl (cA_3, 40, .inl (fun _ => 0))), (q_17, .inl (cA_3, 40, .inl (fun _ => 0))), (q_20, .inl (cA_3, 40, .inl (fun _ => 0))), (q_23, .inl (cA_3, 40, .inl (fun _ => 0))), (q_32, .inl (cA_3, 40, .inl (fun _ => 0))), (q_35, .inl (cA_36, 40, .inl (fun _ => 0)))] := by rw [efs_37]; exact hD
  have hf1_h0 : fs_37[1]? = some (.int 0) := by rw [efs_37, List.getElem?_set_ne (by decide)]; exact hf1_h0
  have hf2_h0 : fs_37[2]? = some (.int 0) := by rw [efs_37, List.getElem?_set_ne (by decide)]; exact hf2_h0
  have hf3_h0 : fs_37[3]? = some (.int 0) := by rw [efs_37, List.getElem?_set_ne (by decide)]; exact hf3_h0
  have hf5_h0 : fs_37[5]? = some (.int 0) := by rw [efs_37, List.getElem?_set_ne (by decide)]; exact hf5_h0
  have hf9_h0 : fs_37[9]? = some (.int 0) := by rw [efs_37, List.getElem?_set_ne (by decide)]; exact hf9_h0
  have hf25_h0 : fs_37[25]? = some (.int 0) := by rw [efs_37, List.getElem?_set_ne (by decide)]; exact hf25_h0
  have hf6_h0 : fs_37[6]? = some (.ref q_2) := by rw [efs_37, List.getElem?_set_ne (by decide)]; exact hf6_h0
  have hf7_h0 : fs_37[7]? = some (.ref q_5) := by rw [efs_37, List.getElem?_set_ne (by decide)]; exact hf7_h0
  have hf8_h0 : fs_37[8]? = some (.ref q_8) := by rw [efs_37, List.getElem?_set_ne (by decide)]; exact hf8_h0
  have hf10_h0 : fs_37[10]? = some (.ref q_11) := by rw [efs_37, List.getElem?_set_ne (by decide)]; exact hf10_h0
  have hf11_h0 : fs_37[11]? = some (.ref q_14) := by rw [efs_37, List.getElem?_set_ne (by decide)]; exact hf11_h0
  have hf12_h0 : fs_37[12]? = some (.ref q_17) := by rw [efs_37, List.getElem?_set_ne (by decide)]; exact hf12_h0
  have hf13_h0 : fs_37[13]? = some (.ref q_20) := by rw [efs_37, List.getElem?_set_ne (by decide)]; exact hf13_h0
  have hf14_h0 : fs_37[14]? = some (.ref q_23) := by rw [efs_37, List.getElem?_set_ne (by decide)]; exact hf14_h0
  have hf17_h0 : fs_37[17]? = some (.ref q_32) := by rw [efs_37, List.getElem?_set_ne (by decide)]; exact hf17_h0
  have hf18_h0 : fs_37[18]? = some (.ref q_35) := by rw [efs_37]; exact List.getElem?_set_self (by rw [hlen_h0]; decide)
  have hlen_h0 : fs_37.length = 51 := by rw [efs_37, List.length_set]; exact hlen_h0
  obtain rfl : cA_3 = cA_36 := (k_same hK (i := 0) (j := 1) rfl rfl).symm
  have hK := hK.sub (tys' := [(cA_3, .int)]) [0] rfl
  refine lv_aload_n hx hb dX6_init_106 rfl (lv_at hl 0 rfl) ?_
  refine lv_bipush (v := 40) hx hb dX6_init_107 (by decide) ?_
  refine va_newa (atype := .int) (N' := 40) (a0 := (40, .inl (fun _ => 0))) hx hb (hts _ wm_80) rfl hK hP hD hS hA (fun _ => rfl) (by decide) rfl (Nat.le_of_ble_eq_true rfl) (Nat.le_of_ble_eq_true rfl) (Nat.le_of_ble_eq_true rfl) dX6_init_109 (fun q_38 cA_39 H hK hP hD hS => ?_)
  have hK : va_K (dC, dI) vwCl [(cA_3, .int), (cA_39, .int)] s := hK
  have hP : va_P (dC, dI) vwCl [(h0, .inr (6, fs_37)), (q_2, .inl (cA_3, 8, .inl (fun _ => 0))), (q_5, .inl (cA_3, 32, .inl (fun _ => 0))), (q_8, .inl (cA_3, 100, .inl (fun _ => 0))), (q_11, .inl (cA_3, 40, .inl (fun _ => 0))), (q_14, .inl (cA_3, 40, .inl (fun _ => 0))), (q_17, .inl (cA_3, 40, .inl (fun _ => 0))), (q_20, .inl (cA_3, 40, .inl (fun _ => 0))), (q_23, .inl (cA_3, 40, .inl (fun _ => 0))), (q_32, .inl (cA_3, 40, .inl (fun _ => 0))), (q_35, .inl (cA_3, 40, .inl (fun _ => 0))), (q_38, .inl (cA_39, 40, .inl (fun _ => 0)))] H := hP
  have hD : va_D A [(h0, .inr (6, fs_37)), (q_2, .inl (cA_3, 8, .inl (fun _ => 0))), (q_5, .inl (cA_3, 32, .inl (fun _ => 0))), (q_8, .inl (cA_3, 100, .inl (fun _ => 0))), (q_11, .inl (cA_3, 40, .inl (fun _ => 0))), (q_14, .inl (cA_3, 40, .inl (fun _ => 0))), (q_17, .inl (cA_3, 40, .inl (fun _ => 0))), (q_20, .inl (cA_3, 40, .inl (fun _ => 0))), (q_23, .inl (cA_3, 40, .inl (fun _ => 0))), (q_32, .inl (cA_3, 40, .inl (fun _ => 0))), (q_35, .inl (cA_3, 40, .inl (fun _ => 0))), (q_38, .inl (cA_39, 40, .inl (fun _ => 0)))] := hD
  refine va_putF (D := (dC, dI)) (ci := 6) (v := .ref q_38) (ty := .array (.int)) (C := RX6) (T := TX6) (N := 51) hx hb hts uB6 tyX6 tyX6_ok nmX6 hown hK hP hD hS 0 rfl rfl 19 (by decide) (hts _ wm_137) (fun _ h9 => h9) rfl hin rfl (by decide +kernel) rfl rfl (by rw [hlen_h0]; decide) dX6_init_111 (fun H locs hP hD hS => ?_)
  obtain ⟨fs_40, efs_40⟩ : ∃ z9, z9 = (fs_37).set 19 (.ref q_38) := ⟨_, rfl⟩
  have hP : va_P (dC, dI) vwCl [(h0, .inr (6, fs_40)), (q_2, .inl (cA_3, 8, .inl (fun _ => 0))), (q_5, .inl (cA_3, 32, .inl (fun _ => 0))), (q_8, .inl (cA_3, 100, .inl (fun _ => 0))), (q_11, .inl (cA_3, 40, .inl (fun _ => 0))), (q_14, .inl (cA_3, 40, .inl (fun _ => 0))), (q_17, .inl (cA_3, 40, .inl (fun _ => 0))), (q_20, .inl (cA_3, 40, .inl (fun _ => 0))), (q_23, .inl (cA_3, 40, .inl (fun _ => 0))), (q_32, .inl (cA_3, 40, .inl (fun _ => 0))), (q_35, .inl (cA_3, 40, .inl (fun _ => 0))), (q_38, .inl (cA_39, 40, .inl (fun _ => 0)))] H := by rw [efs_40]; exact hP
  have hD : va_D A [(h0, .inr (6, fs_40)), (q_2, .inl (cA_3, 8, .inl (fun _ => 0))), (q_5, .inl (cA_3, 32, .inl (fun _ => 0))), (q_8, .inl (cA_3, 100, .inl (fun _ => 0))), (q_11, .inl (cA_3, 40, .inl (fun _ => 0))), (q_14, .inl (cA_3, 40, .inl (fun _ => 0))), (q_17, .inl (cA_3, 40, .inl (fun _ => 0))), (q_20, .inl (cA_3, 40, .inl (fun _ => 0))), (q_23, .inl (cA_3, 40, .inl (fun _ => 0))), (q_32, .inl (cA_3, 40, .inl (fun _ => 0))), (q_35, .inl (cA_3, 40, .inl (fun _ => 0))), (q_38, .inl (cA_39, 40, .inl (fun _ => 0)))] := by rw [efs_40]; exact hD
  have hf1_h0 : fs_40[1]? = some (.int 0) := by rw [efs_40, List.getElem?_set_ne (by decide)]; exact hf1_h0
  have hf2_h0 : fs_40[2]? = some (.int 0) := by rw [efs_40, List.getElem?_set_ne (by decide)]; exact hf2_h0
  have hf3_h0 : fs_40[3]? = some (.int 0) := by rw [efs_40, List.getElem?_set_ne (by decide)]; exact hf3_h0
  have hf5_h0 : fs_40[5]? = some (.int 0) := by rw [efs_40, List.getElem?_set_ne (by decide)]; exact hf5_h0
  have hf9_h0 : fs_40[9]? = some (.int 0) := by rw [efs_40, List.getElem?_set_ne (by decide)]; exact hf9_h0
  have hf25_h0 : fs_40[25]? = some (.int 0) := by rw [efs_40, List.getElem?_set_ne (by decide)]; exact hf25_h0
  have hf6_h0 : fs_40[6]? = some (.ref q_2) := by rw [efs_40, List.getElem?_set_ne (by decide)]; exact hf6_h0
  have hf7_h0 : fs_40[7]? = some (.ref q_5) := by rw [efs_40, List.getElem?_set_ne (by decide)]; exact hf7_h0
  have hf8_h0 : fs_40[8]? = some (.ref q_8) := by rw [efs_40, List.getElem?_set_ne (by decide)]; exact hf8_h0
  have hf10_h0 : fs_40[10]? = some (.ref q_11) := by rw [efs_40, List.getElem?_set_ne (by decide)]; exact hf10_h0
  have hf11_h0 : fs_40[11]? = some (.ref q_14) := by rw [efs_40, List.getElem?_set_ne (by decide)]; exact hf11_h0
  have hf12_h0 : fs_40[12]? = some (.ref q_17) := by rw [efs_40, List.getElem?_set_ne (by decide)]; exact hf12_h0
  have hf13_h0 : fs_40[13]? = some (.ref q_20) := by rw [efs_40, List.getElem?_set_ne (by decide)]; exact hf13_h0
  have hf14_h0 : fs_40[14]? = some (.ref q_23) := by rw [efs_40, List.getElem?_set_ne (by decide)]; exact hf14_h0
  have hf17_h0 : fs_40[17]? = some (.ref q_32) := by rw [efs_40, List.getElem?_set_ne (by decide)]; exact hf17_h0
  have hf18_h0 : fs_40[18]? = some (.ref q_35) := by rw [efs_40, List.getElem?_set_ne (by decide)]; exact hf18_h0
  have hf19_h0 : fs_40[19]? = some (.ref q_38) := by rw [efs_40]; exact List.getElem?_set_self (by rw [hlen_h0]; decide)
  have hlen_h0 : fs_40.length = 51 := by rw [efs_40, List.length_set]; exact hlen_h0
  obtain rfl : cA_3 = cA_39 := (k_same hK (i := 0) (j := 1) rfl rfl).symm
  have hK := hK.sub (tys' := [(cA_3, .int)]) [0] rfl
  refine lv_aload_n hx hb dX6_init_114 rfl (lv_at hl 0 rfl) ?_
  refine lv_bipush (v := 40) hx hb dX6_init_115 (by decide) ?_
  refine va_newa (atype := .boolean) (N' := 40) (a0 := (40, .inl (fun _ => 0))) hx hb (hts _ wm_164) rfl hK hP hD hS hA (fun _ => rfl) (by decide) rfl (Nat.le_of_ble_eq_true rfl) (Nat.le_of_ble_eq_true rfl) (Nat.le_of_ble_eq_true rfl) dX6_init_117 (fun q_41 cA_42 H hK hP hD hS => ?_)
  have hK : va_K (dC, dI) vwCl [(cA_3, .int), (cA_42, .boolean)] s := hK
  have hP : va_P (dC, dI) vwCl [(h0, .inr (6, fs_40)), (q_2, .inl (cA_3, 8, .inl (fun _ => 0))), (q_5, .inl (cA_3, 32, .inl (fun _ => 0))), (q_8, .inl (cA_3, 100, .inl (fun _ => 0))), (q_11, .inl (cA_3, 40, .inl (fun _ => 0))), (q_14, .inl (cA_3, 40, .inl (fun _ => 0))), (q_17, .inl (cA_3, 40, .inl (fun _ => 0))), (q_20, .inl (cA_3, 40, .inl (fun _ => 0))), (q_23, .inl (cA_3, 40, .inl (fun _ => 0))), (q_32, .inl (cA_3, 40, .inl (fun _ => 0))), (q_35, .inl (cA_3, 40, .inl (fun _ => 0))), (q_38, .inl (cA_3, 40, .inl (fun _ => 0))), (q_41, .inl (cA_42, 40, .inl (fun _ => 0)))] H := hP
  have hD : va_D A [(h0, .inr (6, fs_40)), (q_2, .inl (cA_3, 8, .inl (fun _ => 0))), (q_5, .inl (cA_3, 32, .inl (fun _ => 0))), (q_8, .inl (cA_3, 100, .inl (fun _ => 0))), (q_11, .inl (cA_3, 40, .inl (fun _ => 0))), (q_14, .inl (cA_3, 40, .inl (fun _ => 0))), (q_17, .inl (cA_3, 40, .inl (fun _ => 0))), (q_20, .inl (cA_3, 40, .inl (fun _ => 0))), (q_23, .inl (cA_3, 40, .inl (fun _ => 0))), (q_32, .inl (cA_3, 40, .inl (fun _ => 0))), (q_35, .inl (cA_3, 40, .inl (fun _ => 0))), (q_38, .inl (cA_3, 40, .inl (fun _ => 0))), (q_41, .inl (cA_42, 40, .inl (fun _ => 0)))] := hD
  refine va_putF (D := (dC, dI)) (ci := 6) (v := .ref q_41) (ty := .array (.boolean)) (C := RX6) (T := TX6) (N := 51) hx hb hts uB6 tyX6 tyX6_ok nmX6 hown hK hP hD hS 0 rfl rfl 20 (by decide) (hts _ wm_165) (fun _ h9 => h9) rfl hin rfl (by decide +kernel) rfl rfl (by rw [hlen_h0]; decide) dX6_init_119 (fun H locs hP hD hS => ?_)
  obtain ⟨fs_43, efs_43⟩ : ∃ z9, z9 = (fs_40).set 20 (.ref q_41) := ⟨_, rfl⟩
  have hP : va_P (dC, dI) vwCl [(h0, .inr (6, fs_43)), (q_2, .inl (cA_3, 8, .inl (fun _ => 0))), (q_5, .inl (cA_3, 32, .inl (fun _ => 0))), (q_8, .inl (cA_3, 100, .inl (fun _ => 0))), (q_11, .inl (cA_3, 40, .inl (fun _ => 0))), (q_14, .inl (cA_3, 40, .inl (fun _ => 0))), (q_17, .inl (cA_3, 40, .inl (fun _ => 0))), (q_20, .inl (cA_3, 40, .inl (fun _ => 0))), (q_23, .inl (cA_3, 40, .inl (fun _ => 0))), (q_32, .inl (cA_3, 40, .inl (fun _ => 0))), (q_35, .inl (cA_3, 40, .inl (fun _ => 0))), (q_38, .inl (cA_3, 40, .inl (fun _ => 0))), (q_41, .inl (cA_42, 40, .inl (fun _ => 0)))] H := by rw [efs_43]; exact hP
  have hD : va_D A [(h0, .inr (6, fs_43)), (q_2, .inl (cA_3, 8, .inl (fun _ => 0))), (q_5, .inl (cA_3, 32, .inl (fun _ => 0))), (q_8, .inl (cA_3, 100, .inl (fun _ => 0))), (q_11, .inl (cA_3, 40, .inl (fun _ => 0))), (q_14, .inl (cA_3, 40, .inl (fun _ => 0))), (q_17, .inl (cA_3, 40, .inl (fun _ => 0))), (q_20, .inl (cA_3, 40, .inl (fun _ => 0))), (q_23, .inl (cA_3, 40, .inl (fun _ => 0))), (q_32, .inl (cA_3, 40, .inl (fun _ => 0))), (q_35, .inl (cA_3, 40, .inl (fun _ => 0))), (q_38, .inl (cA_3, 40, .inl (fun _ => 0))), (q_41, .inl (cA_42, 40, .inl (fun _ => 0)))] := by rw [efs_43]; exact hD
  have hf1_h0 : fs_43[1]? = some (.int 0) := by rw [efs_43, List.getElem?_set_ne (by decide)]; exact hf1_h0
  have hf2_h0 : fs_43[2]? = some (.int 0) := by rw [efs_43, List.getElem?_set_ne (by decide)]; exact hf2_h0
  have hf3_h0 : fs_43[3]? = some (.int 0) := by rw [efs_43, List.getElem?_set_ne (by decide)]; exact hf3_h0
  have hf5_h0 : fs_43[5]? = some (.int 0) := by rw [efs_43, List.getElem?_set_ne (by decide)]; exact hf5_h0
  have hf9_h0 : fs_43[9]? = some (.int 0) := by rw [efs_43, List.getElem?_set_ne (by decide)]; exact hf9_h0
  have hf25_h0 : fs_43[25]? = some (.int 0) := by rw [efs_43, List.getElem?_set_ne (by decide)]; exact hf25_h0
  have hf6_h0 : fs_43[6]? = some (.ref q_2) := by rw [efs_43, List.getElem?_set_ne (by decide)]; exact hf6_h0
  have hf7_h0 : fs_43[7]? = some (.ref q_5) := by rw [efs_43, List.getElem?_set_ne (by decide)]; exact hf7_h0
  have hf8_h0 : fs_43[8]? = some (.ref q_8) := by rw [efs_43, List.getElem?_set_ne (by decide)]; exact hf8_h0
  have hf10_h0 : fs_43[10]? = some (.ref q_11) := by rw [efs_43, List.getElem?_set_ne (by decide)]; exact hf10_h0
  have hf11_h0 : fs_43[11]? = some (.ref q_14) := by rw [efs_43, List.getElem?_set_ne (by decide)]; exact hf11_h0
  have hf12_h0 : fs_43[12]? = some (.ref q_17) := by rw [efs_43, List.getElem?_set_ne (by decide)]; exact hf12_h0
  have hf13_h0 : fs_43[13]? = some (.ref q_20) := by rw [efs_43, List.getElem?_set_ne (by decide)]; exact hf13_h0
  have hf14_h0 : fs_43[14]? = some (.ref q_23) := by rw [efs_43, List.getElem?_set_ne (by decide)]; exact hf14_h0
  have hf17_h0 : fs_43[17]? = some (.ref q_32) := by rw [efs_43, List.getElem?_set_ne (by decide)]; exact hf17_h0
  have hf18_h0 : fs_43[18]? = some (.ref q_35) := by rw [efs_43, List.getElem?_set_ne (by decide)]; exact hf18_h0
  have hf19_h0 : fs_43[19]? = some (.ref q_38) := by rw [efs_43, List.getElem?_set_ne (by decide)]; exact hf19_h0
  have hlen_h0 : fs_43.length = 51 := by rw [efs_43, List.length_set]; exact hlen_h0
  have hK := hK.sub (tys' := [(cA_3, .int)]) [0] rfl
  have hP := hP.sub (ws' := [(h0, .inr (6, fs_43)), (q_2, .inl (cA_3, 8, .inl (fun _ => 0))), (q_5, .inl (cA_3, 32, .inl (fun _ => 0))), (q_8, .inl (cA_3, 100, .inl (fun _ => 0))), (q_11, .inl (cA_3, 40, .inl (fun _ => 0))), (q_14, .inl (cA_3, 40, .inl (fun _ => 0))), (q_17, .inl (cA_3, 40, .inl (fun _ => 0))), (q_20, .inl (cA_3, 40, .inl (fun _ => 0))), (q_23, .inl (cA_3, 40, .inl (fun _ => 0))), (q_32, .inl (cA_3, 40, .inl (fun _ => 0))), (q_35, .inl (cA_3, 40, .inl (fun _ => 0))), (q_38, .inl (cA_3, 40, .inl (fun _ => 0)))]) [0, 1, 2, 3, 4, 5, 6, 7, 8, 9, 10, 11] rfl
  have hD := hD.sub (ws' := [(h0, .inr (6, fs_43)), (q_2, .inl (cA_3, 8, .inl (fun _ => 0))), (q_5, .inl (cA_3, 32, .inl (fun _ => 0))), (q_8, .inl (cA_3, 100, .inl (fun _ => 0))), (q_11, .inl (cA_3, 40, .inl (fun _ => 0))), (q_14, .inl (cA_3, 40, .inl (fun _ => 0))), (q_17, .inl (cA_3, 40, .inl (fun _ => 0))), (q_20, .inl (cA_3, 40, .inl (fun _ => 0))), (q_23, .inl (cA_3, 40, .inl (fun _ => 0))), (q_32, .inl (cA_3, 40, .inl (fun _ => 0))), (q_35, .inl (cA_3, 40, .inl (fun _ => 0))), (q_38, .inl (cA_3, 40, .inl (fun _ => 0)))]) [0, 1, 2, 3, 4, 5, 6, 7, 8, 9, 10, 11] (by decide) rfl
  refine lv_aload_n hx hb dX6_init_122 rfl (lv_at hl 0 rfl) ?_
  refine lv_sipush (v := 1600) hx hb dX6_init_123 (by decide) ?_
  refine va_newa (atype := .boolean) (N' := 1600) (a0 := (1600, .inl (fun _ => 0))) hx hb (hts _ wm_164) rfl hK hP hD hS hA (fun _ => rfl) (by decide) rfl (Nat.le_of_ble_eq_true rfl) (Nat.le_of_ble_eq_true rfl) (Nat.le_of_ble_eq_true rfl) dX6_init_126 (fun q_44 cA_45 H hK hP hD hS => ?_)
  have hK : va_K (dC, dI) vwCl [(cA_3, .int), (cA_45, .boolean)] s := hK
  have hP : va_P (dC, dI) vwCl [(h0, .inr (6, fs_43)), (q_2, .inl (cA_3, 8, .inl (fun _ => 0))), (q_5, .inl (cA_3, 32, .inl (fun _ => 0))), (q_8, .inl (cA_3, 100, .inl (fun _ => 0))), (q_11, .inl (cA_3, 40, .inl (fun _ => 0))), (q_14, .inl (cA_3, 40, .inl (fun _ => 0))), (q_17, .inl (cA_3, 40, .inl (fun _ => 0))), (q_20, .inl (cA_3, 40, .inl (fun _ => 0))), (q_23, .inl (cA_3, 40, .inl (fun _ => 0))), (q_32, .inl (cA_3, 40, .inl (fun _ => 0))), (q_35, .inl (cA_3, 40, .inl (fun _ => 0))), (q_38, .inl (cA_3, 40, .inl (fun _ => 0))), (q_44, .inl (cA_45, 1600, .inl (fun _ => 0)))] H := hP
  have hD : va_D A [(h0, .inr (6, fs_43)), (q_2, .inl (cA_3, 8, .inl (fun _ => 0))), (q_5, .inl (cA_3, 32, .inl (fun _ => 0))), (q_8, .inl (cA_3, 100, .inl (fun _ => 0))), (q_11, .inl (cA_3, 40, .inl (fun _ => 0))), (q_14, .inl (cA_3, 40, .inl (fun _ => 0))), (q_17, .inl (cA_3, 40, .inl (fun _ => 0))), (q_20, .inl (cA_3, 40, .inl (fun _ => 0))), (q_23, .inl (cA_3, 40, .inl (fun _ => 0))), (q_32, .inl (cA_3, 40, .inl (fun _ => 0))), (q_35, .inl (cA_3, 40, .inl (fun _ => 0))), (q_38, .inl (cA_3, 40, .inl (fun _ => 0))), (q_44, .inl (cA_45, 1600, .inl (fun _ => 0)))] := hD
  refine va_putF (D := (dC, dI)) (ci := 6) (v := .ref q_44) (ty := .array (.boolean)) (C := RX6) (T := TX6) (N := 51) hx hb hts uB6 tyX6 tyX6_ok nmX6 hown hK hP hD hS 0 rfl rfl 21 (by decide) (hts _ wm_166) (fun _ h9 => h9) rfl hin rfl (by decide +kernel) rfl rfl (by rw [hlen_h0]; decide) dX6_init_128 (fun H locs hP hD hS => ?_)
  obtain ⟨fs_46, efs_46⟩ : ∃ z9, z9 = (fs_43).set 21 (.ref q_44) := ⟨_, rfl⟩
  have hP : va_P (dC, dI) vwCl [(h0, .inr (6, fs_46)), (q_2, .inl (cA_3, 8, .inl (fun _ => 0))), (q_5, .inl (cA_3, 32, .inl (fun _ => 0))), (q_8, .inl (cA_3, 100, .inl (fun _ => 0))), (q_11, .inl (cA_3, 40, .inl (fun _ => 0))), (q_14, .inl (cA_3, 40, .inl (fun _ => 0))), (q_17, .inl (cA_3, 40, .inl (fun _ => 0))), (q_20, .inl (cA_3, 40, .inl (fun _ => 0))), (q_23, .inl (cA_3, 40, .inl (fun _ => 0))), (q_32, .inl (cA_3, 40, .inl (fun _ => 0))), (q_35, .inl (cA_3, 40, .inl (fun _ => 0))), (q_38, .inl (cA_3, 40, .inl (fun _ => 0))), (q_44, .inl (cA_45, 1600, .inl (fun _ => 0)))] H := by rw [efs_46]; exact hP
  have hD : va_D A [(h0, .inr (6, fs_46)), (q_2, .inl (cA_3, 8, .inl (fun _ => 0))), (q_5, .inl (cA_3, 32, .inl (fun _ => 0))), (q_8, .inl (cA_3, 100, .inl (fun _ => 0))), (q_11, .inl (cA_3, 40, .inl (fun _ => 0))), (q_14, .inl (cA_3, 40, .inl (fun _ => 0))), (q_17, .inl (cA_3, 40, .inl (fun _ => 0))), (q_20, .inl (cA_3, 40, .inl (fun _ => 0))), (q_23, .inl (cA_3, 40, .inl (fun _ => 0))), (q_32, .inl (cA_3, 40, .inl (fun _ => 0))), (q_35, .inl (cA_3, 40, .inl (fun _ => 0))), (q_38, .inl (cA_3, 40, .inl (fun _ => 0))), (q_44, .inl (cA_45, 1600, .inl (fun _ => 0)))] := by rw [efs_46]; exact hD
  have hf1_h0 : fs_46[1]? = some (.int 0) := by rw [efs_46, List.getElem?_set_ne (by decide)]; exact hf1_h0
  have hf2_h0 : fs_46[2]? = some (.int 0) := by rw [efs_46, List.getElem?_set_ne (by decide)]; exact hf2_h0
  have hf3_h0 : fs_46[3]? = some (.int 0) := by rw [efs_46, List.getElem?_set_ne (by decide)]; exact hf3_h0
  have hf5_h0 : fs_46[5]? = some (.int 0) := by rw [efs_46, List.getElem?_set_ne (by decide)]; exact hf5_h0
  have hf9_h0 : fs_46[9]? = some (.int 0) := by rw [efs_46, List.getElem?_set_ne (by decide)]; exact hf9_h0
  have hf25_h0 : fs_46[25]? = some (.int 0) := by rw [efs_46, List.getElem?_set_ne (by decide)]; exact hf25_h0
  have hf6_h0 : fs_46[6]? = some (.ref q_2) := by rw [efs_46, List.getElem?_set_ne (by decide)]; exact hf6_h0
  have hf7_h0 : fs_46[7]? = some (.ref q_5) := by rw [efs_46, List.getElem?_set_ne (by decide)]; exact hf7_h0
  have hf8_h0 : fs_46[8]? = some (.ref q_8) := by rw [efs_46, List.getElem?_set_ne (by decide)]; exact hf8_h0
  have hf10_h0 : fs_46[10]? = some (.ref q_11) := by rw [efs_46, List.getElem?_set_ne (by decide)]; exact hf10_h0
  have hf11_h0 : fs_46[11]? = some (.ref q_14) := by rw [efs_46, List.getElem?_set_ne (by decide)]; exact hf11_h0
  have hf12_h0 : fs_46[12]? = some (.ref q_17) := by rw [efs_46, List.getElem?_set_ne (by decide)]; exact hf12_h0
  have hf13_h0 : fs_46[13]? = some (.ref q_20) := by rw [efs_46, List.getElem?_set_ne (by decide)]; exact hf13_h0
  have hf14_h0 : fs_46[14]? = some (.ref q_23) := by rw [efs_46, List.getElem?_set_ne (by decide)]; exact hf14_h0
  have hf17_h0 : fs_46[17]? = some (.ref q_32) := by rw [efs_46, List.getElem?_set_ne (by decide)]; exact hf17_h0
  have hf18_h0 : fs_46[18]? = some (.ref q_35) := by rw [efs_46, List.getElem?_set_ne (by decide)]; exact hf18_h0
  have hf19_h0 : fs_46[19]? = some (.ref q_38) := by rw [efs_46, List.getElem?_set_ne (by decide)]; exact hf19_h0
  have hlen_h0 : fs_46.length = 51 := by rw [efs_46, List.length_set]; exact hlen_h0
  have hK := hK.sub (tys' := [(cA_3, .int)]) [0] rfl
  have hP := hP.sub (ws' := [(h0, .inr (6, fs_46)), (q_2, .inl (cA_3, 8, .inl (fun _ => 0))), (q_5, .inl (cA_3, 32, .inl (fun _ => 0))), (q_8, .inl (cA_3, 100, .inl (fun _ => 0))), (q_11, .inl (cA_3, 40, .inl (fun _ => 0))), (q_14, .inl (cA_3, 40, .inl (fun _ => 0))), (q_17, .inl (cA_3, 40, .inl (fun _ => 0))), (q_20, .inl (cA_3, 40, .inl (fun _ => 0))), (q_23, .inl (cA_3, 40, .inl (fun _ => 0))), (q_32, .inl (cA_3, 40, .inl (fun _ => 0))), (q_35, .inl (cA_3, 40, .inl (fun _ => 0))), (q_38, .inl (cA_3, 40, .inl (fun _ => 0)))]) [0, 1, 2, 3, 4, 5, 6, 7, 8, 9, 10, 11] rfl
  have hD := hD.sub (ws' := [(h0, .inr (6, fs_46)), (q_2, .inl (cA_3, 8, .inl (fun _ => 0))), (q_5, .inl (cA_3, 32, .inl (fun _ => 0))), (q_8, .inl (cA_3, 100, .inl (fun _ => 0))), (q_11, .inl (cA_3, 40, .inl (fun _ => 0))), (q_14, .inl (cA_3, 40, .inl (fun _ => 0))), (q_17, .inl (cA_3, 40, .inl (fun _ => 0))), (q_20, .inl (cA_3, 40, .inl (fun _ => 0))), (q_23, .inl (cA_3, 40, .inl (fun _ => 0))), (q_32, .inl (cA_3, 40, .inl (fun _ => 0))), (q_35, .inl (cA_3, 40, .inl (fun _ => 0))), (q_38, .inl (cA_3, 40, .inl (fun _ => 0)))]) [0, 1, 2, 3, 4, 5, 6, 7, 8, 9, 10, 11] (by decide) rfl
  refine lv_aload_n hx hb dX6_init_131 rfl (lv_at hl 0 rfl) ?_
  refine lv_bipush (v := 40) hx hb dX6_init_132 (by decide) ?_
  refine va_newa (atype := .int) (N' := 40) (a0 := (40, .inl (fun _ => 0))) hx hb (hts _ wm_80) rfl hK hP hD hS hA (fun _ => rfl) (by decide) rfl (Nat.le_of_ble_eq_true rfl) (Nat.le_of_ble_eq_true rfl) (Nat.le_of_ble_eq_true rfl) dX6_init_134 (fun q_47 cA_48 H hK hP hD hS => ?_)
  have hK : va_K (dC, dI) vwCl [(cA_3, .int), (cA_48, .int)] s := hK
  have hP : va_P (dC, dI) vwCl [(h0, .inr (6, fs_46)), (q_2, .inl (cA_3, 8, .inl (fun _ => 0))), (q_5, .inl (cA_3, 32, .inl (fun _ => 0))), (q_8, .inl (cA_3, 100, .inl (fun _ => 0))), (q_11, .inl (cA_3, 40, .inl (fun _ => 0))), (q_14, .inl (cA_3, 40, .inl (fun _ => 0))), (q_17, .inl (cA_3, 40, .inl (fun _ => 0))), (q_20, .inl (cA_3, 40, .inl (fun _ => 0))), (q_23, .inl (cA_3, 40, .inl (fun _ => 0))), (q_32, .inl (cA_3, 40, .inl (fun _ => 0))), (q_35, .inl (cA_3, 40, .inl (fun _ => 0))), (q_38, .inl (cA_3, 40, .inl (fun _ => 0))), (q_47, .inl (cA_48, 40, .inl (fun _ => 0)))] H := hP
  have hD : va_D A [(h0, .inr (6, fs_46)), (q_2, .inl (cA_3, 8, .inl (fun _ => 0))), (q_5, .inl (cA_3, 32, .inl (fun _ => 0))), (q_8, .inl (cA_3, 100, .inl (fun _ => 0))), (q_11, .inl (cA_3, 40, .inl (fun _ => 0))), (q_14, .inl (cA_3, 40, .inl (fun _ => 0))), (q_17, .inl (cA_3, 40, .inl (fun _ => 0))), (q_20, .inl (cA_3, 40, .inl (fun _ => 0))), (q_23, .inl (cA_3, 40, .inl (fun _ => 0))), (q_32, .inl (cA_3, 40, .inl (fun _ => 0))), (q_35, .inl (cA_3, 40, .inl (fun _ => 0))), (q_38, .inl (cA_3, 40, .inl (fun _ => 0))), (q_47, .inl (cA_48, 40, .inl (fun _ => 0)))] := hD
  refine va_putF (D := (dC, dI)) (ci := 6) (v := .ref q_47) (ty := .array (.int)) (C := RX6) (T := TX6) (N := 51) hx hb hts uB6 tyX6 tyX6_ok nmX6 hown hK hP hD hS 0 rfl rfl 22 (by decide) (hts _ wm_138) (fun _ h9 => h9) rfl hin rfl (by decide +kernel) rfl rfl (by rw [hlen_h0]; decide) dX6_init_136 (fun H locs hP hD hS => ?_)
  obtain ⟨fs_49, efs_49⟩ : ∃ z9, z9 = (fs_46).set 22 (.ref q_47) := ⟨_, rfl⟩
  have hP : va_P (dC, dI) vwCl [(h0, .inr (6, fs_49)), (q_2, .inl (cA_3, 8, .inl (fun _ => 0))), (q_5, .inl (cA_3, 32, .inl (fun _ => 0))), (q_8, .inl (cA_3, 100, .inl (fun _ => 0))), (q_11, .inl (cA_3, 40, .inl (fun _ => 0))), (q_14, .inl (cA_3, 40, .inl (fun _ => 0))), (q_17, .inl (cA_3, 40, .inl (fun _ => 0))), (q_20, .inl (cA_3, 40, .inl (fun _ => 0))), (q_23, .inl (cA_3, 40, .inl (fun _ => 0))), (q_32, .inl (cA_3, 40, .inl (fun _ => 0))), (q_35, .inl (cA_3, 40, .inl (fun _ => 0))), (q_38, .inl (cA_3, 40, .inl (fun _ => 0))), (q_47, .inl (cA_48, 40, .inl (fun _ => 0)))] H := by rw [efs_49]; exact hP
  have hD : va_D A [(h0, .inr (6, fs_49)), (q_2, .inl (cA_3, 8, .inl (fun _ => 0))), (q_5, .inl (cA_3, 32, .inl (fun _ => 0))), (q_8, .inl (cA_3, 100, .inl (fun _ => 0))), (q_11, .inl (cA_3, 40, .inl (fun _ => 0))), (q_14, .inl (cA_3, 40, .inl (fun _ => 0))), (q_17, .inl (cA_3, 40, .inl (fun _ => 0))), (q_20, .inl (cA_3, 40, .inl (fun _ => 0))), (q_23, .inl (cA_3, 40, .inl (fun _ => 0))), (q_32, .inl (cA_3, 40, .inl (fun _ => 0))), (q_35, .inl (cA_3, 40, .inl (fun _ => 0))), (q_38, .inl (cA_3, 40, .inl (fun _ => 0))), (q_47, .inl (cA_48, 40, .inl (fun _ => 0)))] := by rw [efs_49]; exact hD
  have hf1_h0 : fs_49[1]? = some (.int 0) := by rw [efs_49, List.getElem?_set_ne (by decide)]; exact hf1_h0
  have hf2_h0 : fs_49[2]? = some (.int 0) := by rw [efs_49, List.getElem?_set_ne (by decide)]; exact hf2_h0
  have hf3_h0 : fs_49[3]? = some (.int 0) := by rw [efs_49, List.getElem?_set_ne (by decide)]; exact hf3_h0
  have hf5_h0 : fs_49[5]? = some (.int 0) := by rw [efs_49, List.getElem?_set_ne (by decide)]; exact hf5_h0
  have hf9_h0 : fs_49[9]? = some (.int 0) := by rw [efs_49, List.getElem?_set_ne (by decide)]; exact hf9_h0
  have hf25_h0 : fs_49[25]? = some (.int 0) := by rw [efs_49, List.getElem?_set_ne (by decide)]; exact hf25_h0
  have hf6_h0 : fs_49[6]? = some (.ref q_2) := by rw [efs_49, List.getElem?_set_ne (by decide)]; exact hf6_h0
  have hf7_h0 : fs_49[7]? = some (.ref q_5) := by rw [efs_49, List.getElem?_set_ne (by decide)]; exact hf7_h0
  have hf8_h0 : fs_49[8]? = some (.ref q_8) := by rw [efs_49, List.getElem?_set_ne (by decide)]; exact hf8_h0
  have hf10_h0 : fs_49[10]? = some (.ref q_11) := by rw [efs_49, List.getElem?_set_ne (by decide)]; exact hf10_h0
  have hf11_h0 : fs_49[11]? = some (.ref q_14) := by rw [efs_49, List.getElem?_set_ne (by decide)]; exact hf11_h0
  have hf12_h0 : fs_49[12]? = some (.ref q_17) := by rw [efs_49, List.getElem?_set_ne (by decide)]; exact hf12_h0
  have hf13_h0 : fs_49[13]? = some (.ref q_20) := by rw [efs_49, List.getElem?_set_ne (by decide)]; exact hf13_h0
  have hf14_h0 : fs_49[14]? = some (.ref q_23) := by rw [efs_49, List.getElem?_set_ne (by decide)]; exact hf14_h0
  have hf17_h0 : fs_49[17]? = some (.ref q_32) := by rw [efs_49, List.getElem?_set_ne (by decide)]; exact hf17_h0
  have hf18_h0 : fs_49[18]? = some (.ref q_35) := by rw [efs_49, List.getElem?_set_ne (by decide)]; exact hf18_h0
  have hf19_h0 : fs_49[19]? = some (.ref q_38) := by rw [efs_49, List.getElem?_set_ne (by decide)]; exact hf19_h0
  have hf22_h0 : fs_49[22]? = some (.ref q_47) := by rw [efs_49]; exact List.getElem?_set_self (by rw [hlen_h0]; decide)
  have hlen_h0 : fs_49.length = 51 := by rw [efs_49, List.length_set]; exact hlen_h0
  obtain rfl : cA_3 = cA_48 := (k_same hK (i := 0) (j := 1) rfl rfl).symm
  have hK := hK.sub (tys' := [(cA_3, .int)]) [0] rfl
  refine lv_aload_n hx hb dX6_init_139 rfl (lv_at hl 0 rfl) ?_
  refine lv_bipush (v := 40) hx hb dX6_init_140 (by decide) ?_
  refine va_newa (atype := .int) (N' := 40) (a0 := (40, .inl (fun _ => 0))) hx hb (hts _ wm_80) rfl hK hP hD hS hA (fun _ => rfl) (by decide) rfl (Nat.le_of_ble_eq_true rfl) (Nat.le_of_ble_eq_true rfl) (Nat.le_of_ble_eq_true rfl) dX6_init_142 (fun q_50 cA_51 H hK hP hD hS => ?_)
  have hK : va_K (dC, dI) vwCl [(cA_3, .int), (cA_51, .int)] s := hK
  have hP : va_P (dC, dI) vwCl [(h0, .inr (6, fs_49)), (q_2, .inl (cA_3, 8, .inl (fun _ => 0))), (q_5, .inl (cA_3, 32, .inl (fun _ => 0))), (q_8, .inl (cA_3, 100, .inl (fun _ => 0))), (q_11, .inl (cA_3, 40, .inl (fun _ => 0))), (q_14, .inl (cA_3, 40, .inl (fun _ => 0))), (q_17, .inl (cA_3, 40, .inl (fun _ => 0))), (q_20, .inl (cA_3, 40, .inl (fun _ => 0))), (q_23, .inl (cA_3, 40, .inl (fun _ => 0))), (q_32, .inl (cA_3, 40, .inl (fun _ => 0))), (q_35, .inl (cA_3, 40, .inl (fun _ => 0))), (q_38, .inl (cA_3, 40, .inl (fun _ => 0))), (q_47, .inl (cA_3, 40, .inl (fun _ => 0))), (q_50, .inl (cA_51, 40, .inl (fun _ => 0)))] H := hP
  have hD : va_D A [(h0, .inr (6, fs_49)), (q_2, .inl (cA_3, 8, .inl (fun _ => 0))), (q_5, .inl (cA_3, 32, .inl (fun _ => 0))), (q_8, .inl (cA_3, 100, .inl (fun _ => 0))), (q_11, .inl (cA_3, 40, .inl (fun _ => 0))), (q_14, .inl (cA_3, 40, .inl (fun _ => 0))), (q_17, .inl (cA_3, 40, .inl (fun _ => 0))), (q_20, .inl (cA_3, 40, .inl (fun _ => 0))), (q_23, .inl (cA_3, 40, .inl (fun _ => 0))), (q_32, .inl (cA_3, 40, .inl (fun _ => 0))), (q_35, .inl (cA_3, 40, .inl (fun _ => 0))), (q_38, .inl (cA_3, 40, .inl (fun _ => 0))), (q_47, .inl (cA_3, 40, .inl (fun _ => 0))), (q_50, .inl (cA_51, 40, .inl (fun _ => 0)))] := hD
  refine va_putF (D := (dC, dI)) (ci := 6) (v := .ref q_50) (ty := .array (.int)) (C := RX6) (T := TX6) (N := 51) hx hb hts uB6 tyX6 tyX6_ok nmX6 hown hK hP hD hS 0 rfl rfl 23 (by decide) (hts _ wm_167) (fun _ h9 => h9) rfl hin rfl (by decide +kernel) rfl rfl (by rw [hlen_h0]; decide) dX6_init_144 (fun H locs hP hD hS => ?_)
  obtain ⟨fs_52, efs_52⟩ : ∃ z9, z9 = (fs_49).set 23 (.ref q_50) := ⟨_, rfl⟩
  have hP : va_P (dC, dI) vwCl [(h0, .inr (6, fs_52)), (q_2, .inl (cA_3, 8, .inl (fun _ => 0))), (q_5, .inl (cA_3, 32, .inl (fun _ => 0))), (q_8, .inl (cA_3, 100, .inl (fun _ => 0))), (q_11, .inl (cA_3, 40, .inl (fun _ => 0))), (q_14, .inl (cA_3, 40, .inl (fun _ => 0))), (q_17, .inl (cA_3, 40, .inl (fun _ => 0))), (q_20, .inl (cA_3, 40, .inl (fun _ => 0))), (q_23, .inl (cA_3, 40, .inl (fun _ => 0))), (q_32, .inl (cA_3, 40, .inl (fun _ => 0))), (q_35, .inl (cA_3, 40, .inl (fun _ => 0))), (q_38, .inl (cA_3, 40, .inl (fun _ => 0))), (q_47, .inl (cA_3, 40, .inl (fun _ => 0))), (q_50, .inl (cA_51, 40, .inl (fun _ => 0)))] H := by rw [efs_52]; exact hP
  have hD : va_D A [(h0, .inr (6, fs_52)), (q_2, .inl (cA_3, 8, .inl (fun _ => 0))), (q_5, .inl (cA_3, 32, .inl (fun _ => 0))), (q_8, .inl (cA_3, 100, .inl (fun _ => 0))), (q_11, .inl (cA_3, 40, .inl (fun _ => 0))), (q_14, .inl (cA_3, 40, .inl (fun _ => 0))), (q_17, .inl (cA_3, 40, .inl (fun _ => 0))), (q_20, .inl (cA_3, 40, .inl (fun _ => 0))), (q_23, .inl (cA_3, 40, .inl (fun _ => 0))), (q_32, .inl (cA_3, 40, .inl (fun _ => 0))), (q_35, .inl (cA_3, 40, .inl (fun _ => 0))), (q_38, .inl (cA_3, 40, .inl (fun _ => 0))), (q_47, .inl (cA_3, 40, .inl (fun _ => 0))), (q_50, .inl (cA_51, 40, .inl (fun _ => 0)))] := by rw [efs_52]; exact hD
  have hf1_h0 : fs_52[1]? = some (.int 0) := by rw [efs_52, List.getElem?_set_ne (by decide)]; exact hf1_h0
  have hf2_h0 : fs_52[2]? = some (.int 0) := by rw [efs_52, List.getElem?_set_ne (by decide)]; exact hf2_h0
  have hf3_h0 : fs_52[3]? = some (.int 0) := by rw [efs_52, List.getElem?_set_ne (by decide)]; exact hf3_h0
  have hf5_h0 : fs_52[5]? = some (.int 0) := by rw [efs_52, List.getElem?_set_ne (by decide)]; exact hf5_h0
  have hf9_h0 : fs_52[9]? = some (.int 0) := by rw [efs_52, List.getElem?_set_ne (by decide)]; exact hf9_h0
  have hf25_h0 : fs_52[25]? = some (.int 0) := by rw [efs_52, List.getElem?_set_ne (by decide)]; exact hf25_h0
  have hf6_h0 : fs_52[6]? = some (.ref q_2) := by rw [efs_52, List.getElem?_set_ne (by decide)]; exact hf6_h0
  have hf7_h0 : fs_52[7]? = some (.ref q_5) := by rw [efs_52, List.getElem?_set_ne (by decide)]; exact hf7_h0
  have hf8_h0 : fs_52[8]? = some (.ref q_8) := by rw [efs_52, List.getElem?_set_ne (by decide)]; exact hf8_h0
  have hf10_h0 : fs_52[10]? = some (.ref q_11) := by rw [efs_52, List.getElem?_set_ne (by decide)]; exact hf10_h0
  have hf11_h0 : fs_52[11]? = some (.ref q_14) := by rw [efs_52, List.getElem?_set_ne (by decide)]; exact hf11_h0
  have hf12_h0 : fs_52[12]? = some (.ref q_17) := by rw [efs_52, List.getElem?_set_ne (by decide)]; exact hf12_h0
  have hf13_h0 : fs_52[13]? = some (.ref q_20) := by rw [efs_52, List.getElem?_set_ne (by decide)]; exact hf13_h0
  have hf14_h0 : fs_52[14]? = some (.ref q_23) := by rw [efs_52, List.getElem?_set_ne (by decide)]; exact hf14_h0
  have hf17_h0 : fs_52[17]? = some (.ref q_32) := by rw [efs_52, List.getElem?_set_ne (by decide)]; exact hf17_h0
  have hf18_h0 : fs_52[18]? = some (.ref q_35) := by rw [efs_52, List.getElem?_set_ne (by decide)]; exact hf18_h0
  have hf19_h0 : fs_52[19]? = some (.ref q_38) := by rw [efs_52, List.getElem?_set_ne (by decide)]; exact hf19_h0
  have hf22_h0 : fs_52[22]? = some (.ref q_47) := by rw [efs_52, List.getElem?_set_ne (by decide)]; exact hf22_h0
  have hlen_h0 : fs_52.length = 51 := by rw [efs_52, List.length_set]; exact hlen_h0
  have hK := hK.sub (tys' := [(cA_3, .int)]) [0] rfl
  have hP := hP.sub (ws' := [(h0, .inr (6, fs_52)), (q_2, .inl (cA_3, 8, .inl (fun _ => 0))), (q_5, .inl (cA_3, 32, .inl (fun _ => 0))), (q_8, .inl (cA_3, 100, .inl (fun _ => 0))), (q_11, .inl (cA_3, 40, .inl (fun _ => 0))), (q_14, .inl (cA_3, 40, .inl (fun _ => 0))), (q_17, .inl (cA_3, 40, .inl (fun _ => 0))), (q_20, .inl (cA_3, 40, .inl (fun _ => 0))), (q_23, .inl (cA_3, 40, .inl (fun _ => 0))), (q_32, .inl (cA_3, 40, .inl (fun _ => 0))), (q_35, .inl (cA_3, 40, .inl (fun _ => 0))), (q_38, .inl (cA_3, 40, .inl (fun _ => 0))), (q_47, .inl (cA_3, 40, .inl (fun _ => 0)))]) [0, 1, 2, 3, 4, 5, 6, 7, 8, 9, 10, 11, 12] rfl
  have hD := hD.sub (ws' := [(h0, .inr (6, fs_52)), (q_2, .inl (cA_3, 8, .inl (fun _ => 0))), (q_5, .inl (cA_3, 32, .inl (fun _ => 0))), (q_8, .inl (cA_3, 100, .inl (fun _ => 0))), (q_11, .inl (cA_3, 40, .inl (fun _ => 0))), (q_14, .inl (cA_3, 40, .inl (fun _ => 0))), (q_17, .inl (cA_3, 40, .inl (fun _ => 0))), (q_20, .inl (cA_3, 40, .inl (fun _ => 0))), (q_23, .inl (cA_3, 40, .inl (fun _ => 0))), (q_32, .inl (cA_3, 40, .inl (fun _ => 0))), (q_35, .inl (cA_3, 40, .inl (fun _ => 0))), (q_38, .inl (cA_3, 40, .inl (fun _ => 0))), (q_47, .inl (cA_3, 40, .inl (fun _ => 0)))]) [0, 1, 2, 3, 4, 5, 6, 7, 8, 9, 10, 11, 12] (by decide) rfl
  refine lv_aload_n hx hb dX6_init_147 rfl (lv_at hl 0 rfl) ?_
  refine lv_bipush (v := 40) hx hb dX6_init_148 (by decide) ?_
  refine va_newa (atype := .int) (N' := 40) (a0 := (40, .inl (fun _ => 0))) hx hb (hts _ wm_80) rfl hK hP hD hS hA (fun _ => rfl) (by decide) rfl (Nat.le_of_ble_eq_true rfl) (Nat.le_of_ble_eq_true rfl) (Nat.le_of_ble_eq_true rfl) dX6_init_150 (fun q_53 cA_54 H hK hP hD hS => ?_)
  have hK : va_K (dC, dI) vwCl [(cA_3, .int), (cA_54, .int)] s := hK
  have hP : va_P (dC, dI) vwCl [(h0, .inr (6, fs_52)), (q_2, .inl (cA_3, 8, .inl (fun _ => 0))), (q_5, .inl (cA_3, 32, .inl (fun _ => 0))), (q_8, .inl (cA_3, 100, .inl (fun _ => 0))), (q_11, .inl (cA_3, 40, .inl (fun _ => 0))), (q_14, .inl (cA_3, 40, .inl (fun _ => 0))), (q_17, .inl (cA_3, 40, .inl (fun _ => 0))), (q_20, .inl (cA_3, 40, .inl (fun _ => 0))), (q_23, .inl (cA_3, 40, .inl (fun _ => 0))), (q_32, .inl (cA_3, 40, .inl (fun _ => 0))), (q_35, .inl (cA_3, 40, .inl (fun _ => 0))), (q_38, .inl (cA_3, 40, .inl (fun _ => 0))), (q_47, .inl (cA_3, 40, .inl (fun _ => 0))), (q_53, .inl (cA_54, 40, .inl (fun _ => 0)))] H := hP
  have hD : va_D A [(h0, .inr (6, fs_52)), (q_2, .inl (cA_3, 8, .inl (fun _ => 0))), (q_5, .inl (cA_3, 32, .inl (fun _ => 0))), (q_8, .inl (cA_3, 100, .inl (fun _ => 0))), (q_11, .inl (cA_3, 40, .inl (fun _ => 0))), (q_14, .inl (cA_3, 40, .inl (fun _ => 0))), (q_17, .inl (cA_3, 40, .inl (fun _ => 0))), (q_20, .inl (cA_3, 40, .inl (fun _ => 0))), (q_23, .inl (cA_3, 40, .inl (fun _ => 0))), (q_32, .inl (cA_3, 40, .inl (fun _ => 0))), (q_35, .inl (cA_3, 40, .inl (fun _ => 0))), (q_38, .inl (cA_3, 40, .inl (fun _ => 0))), (q_47, .inl (cA_3, 40, .inl (fun _ => 0))), (q_53, .inl (cA_54, 40, .inl (fun _ => 0)))] := hD
  refine va_putF (D := (dC, dI)) (ci := 6) (v := .ref q_53) (ty := .array (.int)) (C := RX6) (T := TX6) (N := 51) hx hb hts uB6 tyX6 tyX6_ok nmX6 hown hK hP hD hS 0 rfl rfl 24 (by decide) (hts _ wm_168) (fun _ h9 => h9) rfl hin rfl (by decide +kernel) rfl rfl (by rw [hlen_h0]; decide) dX6_init_152 (fun H locs hP hD hS => ?_)
  obtain ⟨fs_55, efs_55⟩ : ∃ z9, z9 = (fs_52).set 24 (.ref q_53) := ⟨_, rfl⟩
  have hP : va_P (dC, dI) vwCl [(h0, .inr (6, fs_55)), (q_2, .inl (cA_3, 8, .inl (fun _ => 0))), (q_5, .inl (cA_3, 32, .inl (fun _ => 0))), (q_8, .inl (cA_3, 100, .inl (fun _ => 0))), (q_11, .inl (cA_3, 40, .inl (fun _ => 0))), (q_14, .inl (cA_3, 40, .inl (fun _ => 0))), (q_17, .inl (cA_3, 40, .inl (fun _ => 0))), (q_20, .inl (cA_3, 40, .inl (fun _ => 0))), (q_23, .inl (cA_3, 40, .inl (fun _ => 0))), (q_32, .inl (cA_3, 40, .inl (fun _ => 0))), (q_35, .inl (cA_3, 40, .inl (fun _ => 0))), (q_38, .inl (cA_3, 40, .inl (fun _ => 0))), (q_47, .inl (cA_3, 40, .inl (fun _ => 0))), (q_53, .inl (cA_54, 40, .inl (fun _ => 0)))] H := by rw [efs_55]; exact hP
  have hD : va_D A [(h0, .inr (6, fs_55)), (q_2, .inl (cA_3, 8, .inl (fun _ => 0))), (q_5, .inl (cA_3, 32, .inl (fun _ => 0))), (q_8, .inl (cA_3, 100, .inl (fun _ => 0))), (q_11, .inl (cA_3, 40, .inl (fun _ => 0))), (q_14, .inl (cA_3, 40, .inl (fun _ => 0))), (q_17, .inl (cA_3, 40, .inl (fun _ => 0))), (q_20, .inl (cA_3, 40, .inl (fun _ => 0))), (q_23, .inl (cA_3, 40, .inl (fun _ => 0))), (q_32, .inl (cA_3, 40, .inl (fun _ => 0))), (q_35, .inl (cA_3, 40, .inl (fun _ => 0))), (q_38, .inl (cA_3, 40, .inl (fun _ => 0))), (q_47, .inl (cA_3, 40, .inl (fun _ => 0))), (q_53, .inl (cA_54, 40, .inl (fun _ => 0)))] := by rw [efs_55]; exact hD
  have hf1_h0 : fs_55[1]? = some (.int 0) := by rw [efs_55, List.getElem?_set_ne (by decide)]; exact hf1_h0
  have hf2_h0 : fs_55[2]? = some (.int 0) := by rw [efs_55, List.getElem?_set_ne (by decide)]; exact hf2_h0
  have hf3_h0 : fs_55[3]? = some (.int 0) := by rw [efs_55, List.getElem?_set_ne (by decide)]; exact hf3_h0
  have hf5_h0 : fs_55[5]? = some (.int 0) := by rw [efs_55, List.getElem?_set_ne (by decide)]; exact hf5_h0
  have hf9_h0 : fs_55[9]? = some (.int 0) := by rw [efs_55, List.getElem?_set_ne (by decide)]; exact hf9_h0
  have hf25_h0 : fs_55[25]? = some (.int 0) := by rw [efs_55, List.getElem?_set_ne (by decide)]; exact hf25_h0
  have hf6_h0 : fs_55[6]? = some (.ref q_2) := by rw [efs_55, List.getElem?_set_ne (by decide)]; exact hf6_h0
  have hf7_h0 : fs_55[7]? = some (.ref q_5) := by rw [efs_55, List.getElem?_set_ne (by decide)]; exact hf7_h0
  have hf8_h0 : fs_55[8]? = some (.ref q_8) := by rw [efs_55, List.getElem?_set_ne (by decide)]; exact hf8_h0
  have hf10_h0 : fs_55[10]? = some (.ref q_11) := by rw [efs_55, List.getElem?_set_ne (by decide)]; exact hf10_h0
  have hf11_h0 : fs_55[11]? = some (.ref q_14) := by rw [efs_55, List.getElem?_set_ne (by decide)]; exact hf11_h0
  have hf12_h0 : fs_55[12]? = some (.ref q_17) := by rw [efs_55, List.getElem?_set_ne (by decide)]; exact hf12_h0
  have hf13_h0 : fs_55[13]? = some (.ref q_20) := by rw [efs_55, List.getElem?_set_ne (by decide)]; exact hf13_h0
  have hf14_h0 : fs_55[14]? = some (.ref q_23) := by rw [efs_55, List.getElem?_set_ne (by decide)]; exact hf14_h0
  have hf17_h0 : fs_55[17]? = some (.ref q_32) := by rw [efs_55, List.getElem?_set_ne (by decide)]; exact hf17_h0
  have hf18_h0 : fs_55[18]? = some (.ref q_35) := by rw [efs_55, List.getElem?_set_ne (by decide)]; exact hf18_h0
  have hf19_h0 : fs_55[19]? = some (.ref q_38) := by rw [efs_55, List.getElem?_set_ne (by decide)]; exact hf19_h0
  have hf22_h0 : fs_55[22]? = some (.ref q_47) := by rw [efs_55, List.getElem?_set_ne (by decide)]; exact hf22_h0
  have hlen_h0 : fs_55.length = 51 := by rw [efs_55, List.length_set]; exact hlen_h0
  have hK := hK.sub (tys' := [(cA_3, .int)]) [0] rfl
  have hP := hP.sub (ws' := [(h0, .inr (6, fs_55)), (q_2, .inl (cA_3, 8, .inl (fun _ => 0))), (q_5, .inl (cA_3, 32, .inl (fun _ => 0))), (q_8, .inl (cA_3, 100, .inl (fun _ => 0))), (q_11, .inl (cA_3, 40, .inl (fun _ => 0))), (q_14, .inl (cA_3, 40, .inl (fun _ => 0))), (q_17, .inl (cA_3, 40, .inl (fun _ => 0))), (q_20, .inl (cA_3, 40, .inl (fun _ => 0))), (q_23, .inl (cA_3, 40, .inl (fun _ => 0))), (q_32, .inl (cA_3, 40, .inl (fun _ => 0))), (q_35, .inl (cA_3, 40, .inl (fun _ => 0))), (q_38, .inl (cA_3, 40, .inl (fun _ => 0))), (q_47, .inl (cA_3, 40, .inl (fun _ => 0)))]) [0, 1, 2, 3, 4, 5, 6, 7, 8, 9, 10, 11, 12] rfl
  have hD := hD.sub (ws' := [(h0, .inr (6, fs_55)), (q_2, .inl (cA_3, 8, .inl (fun _ => 0))), (q_5, .inl (cA_3, 32, .inl (fun _ => 0))), (q_8, .inl (cA_3, 100, .inl (fun _ => 0))), (q_11, .inl (cA_3, 40, .inl (fun _ => 0))), (q_14, .inl (cA_3, 40, .inl (fun _ => 0))), (q_17, .inl (cA_3, 40, .inl (fun _ => 0))), (q_20, .inl (cA_3, 40, .inl (fun _ => 0))), (q_23, .inl (cA_3, 40, .inl (fun _ => 0))), (q_32, .inl (cA_3, 40, .inl (fun _ => 0))), (q_35, .inl (cA_3, 40, .inl (fun _ => 0))), (q_38, .inl (cA_3, 40, .inl (fun _ => 0))), (q_47, .inl (cA_3, 40, .inl (fun _ => 0)))]) [0, 1, 2, 3, 4, 5, 6, 7, 8, 9, 10, 11, 12] (by decide) rfl
  refine lv_aload_n hx hb dX6_init_155 rfl (lv_at hl 0 rfl) ?_
  refine lv_sipush (v := 1000) hx hb dX6_init_156 (by decide) ?_
  refine va_newa (atype := .int) (N' := 1000) (a0 := (1000, .inl (fun _ => 0))) hx hb (hts _ wm_80) rfl hK hP hD hS hA (fun _ => rfl) (by decide) rfl (Nat.le_of_ble_eq_true rfl) (Nat.le_of_ble_eq_true rfl) (Nat.le_of_ble_eq_true rfl) dX6_init_159 (fun q_56 cA_57 H hK hP hD hS => ?_)
  have hK : va_K (dC, dI) vwCl [(cA_3, .int), (cA_57, .int)] s := hK
  have hP : va_P (dC, dI) vwCl [(h0, .inr (6, fs_55)), (q_2, .inl (cA_3, 8, .inl (fun _ => 0))), (q_5, .inl (cA_3, 32, .inl (fun _ => 0))), (q_8, .inl (cA_3, 100, .inl (fun _ => 0))), (q_11, .inl (cA_3, 40, .inl (fun _ => 0))), (q_14, .inl (cA_3, 40, .inl (fun _ => 0))), (q_17, .inl (cA_3, 40, .inl (fun _ => 0))), (q_20, .inl (cA_3, 40, .inl (fun _ => 0))), (q_23, .inl (cA_3, 40, .inl (fun _ => 0))), (q_32, .inl (cA_3, 40, .inl (fun _ => 0))), (q_35, .inl (cA_3, 40, .inl (fun _ => 0))), (q_38, .inl (cA_3, 40, .inl (fun _ => 0))), (q_47, .inl (cA_3, 40, .inl (fun _ => 0))), (q_56, .inl (cA_57, 1000, .inl (fun _ => 0)))] H := hP
  have hD : va_D A [(h0, .inr (6, fs_55)), (q_2, .inl (cA_3, 8, .inl (fun _ => 0))), (q_5, .inl (cA_3, 32, .inl (fun _ => 0))), (q_8, .inl (cA_3, 100, .inl (fun _ => 0))), (q_11, .inl (cA_3, 40, .inl (fun _ => 0))), (q_14, .inl (cA_3, 40, .inl (fun _ => 0))), (q_17, .inl (cA_3, 40, .inl (fun _ => 0))), (q_20, .inl (cA_3, 40, .inl (fun _ => 0))), (q_23, .inl (cA_3, 40, .inl (fun _ => 0))), (q_32, .inl (cA_3, 40, .inl (fun _ => 0))), (q_35, .inl (cA_3, 40, .inl (fun _ => 0))), (q_38, .inl (cA_3, 40, .inl (fun _ => 0))), (q_47, .inl (cA_3, 40, .inl (fun _ => 0))), (q_56, .inl (cA_57, 1000, .inl (fun _ => 0)))] := hD
  refine va_putF (D := (dC, dI)) (ci := 6) (v := .ref q_56) (ty := .array (.int)) (C := RX6) (T := TX6) (N := 51) hx hb hts uB6 tyX6 tyX6_ok nmX6 hown hK hP hD hS 0 rfl rfl 26 (by decide) (hts _ wm_169) (fun _ h9 => h9) rfl hin rfl (by decide +kernel) rfl rfl (by rw [hlen_h0]; decide) dX6_init_161 (fun H locs hP hD hS => ?_)
  obtain ⟨fs_58, efs_58⟩ : ∃ z9, z9 = (fs_55).set 26 (.ref q_56) := ⟨_, rfl⟩
  have hP : va_P (dC, dI) vwCl [(h0, .inr (6, fs_58)), (q_2, .inl (cA_3, 8, .inl (fun _ => 0))), (q_5, .inl (cA_3, 32, .inl (fun _ => 0))), (q_8, .inl (cA_3, 100, .inl (fun _ => 0))), (q_11, .inl (cA_3, 40, .inl (fun _ => 0))), (q_14, .inl (cA_3, 40, .inl (fun _ => 0))), (q_17, .inl (cA_3, 40, .inl (fun _ => 0))), (q_20, .inl (cA_3, 40, .inl (fun _ => 0))), (q_23, .inl (cA_3, 40, .inl (fun _ => 0))), (q_32, .inl (cA_3, 40, .inl (fun _ => 0))), (q_35, .inl (cA_3, 40, .inl (fun _ => 0))), (q_38, .inl (cA_3, 40, .inl (fun _ => 0))), (q_47, .inl (cA_3, 40, .inl (fun _ => 0))), (q_56, .inl (cA_57, 1000, .inl (fun _ => 0)))] H := by rw [efs_58]; exact hP
  have hD : va_D A [(h0, .inr (6, fs_58)), (q_2, .inl (cA_3, 8, .inl (fun _ => 0))), (q_5, .inl (cA_3, 32, .inl (fun _ => 0))), (q_8, .inl (cA_3, 100, .inl (fun _ => 0))), (q_11, .inl (cA_3, 40, .inl (fun _ => 0))), (q_14, .inl (cA_3, 40, .inl (fun _ => 0))), (q_17, .inl (cA_3, 40, .inl (fun _ => 0))), (q_20, .inl (cA_3, 40, .inl (fun _ => 0))), (q_23, .inl (cA_3, 40, .inl (fun _ => 0))), (q_32, .inl (cA_3, 40, .inl (fun _ => 0))), (q_35, .inl (cA_3, 40, .inl (fun _ => 0))), (q_38, .inl (cA_3, 40, .inl (fun _ => 0))), (q_47, .inl (cA_3, 40, .inl (fun _ => 0))), (q_56, .inl (cA_57, 1000, .inl (fun _ => 0)))] := by rw [efs_58]; exact hD
  have hf1_h0 : fs_58[1]? = some (.int 0) := by rw [efs_58, List.getElem?_set_ne (by decide)]; exact hf1_h0
  have hf2_h0 : fs_58[2]? = some (.int 0) := by rw [efs_58, List.getElem?_set_ne (by decide)]; exact hf2_h0
  have hf3_h0 : fs_58[3]? = some (.int 0) := by rw [efs_58, List.getElem?_set_ne (by decide)]; exact hf3_h0
  have hf5_h0 : fs_58[5]? = some (.int 0) := by rw [efs_58, List.getElem?_set_ne (by decide)]; exact hf5_h0
  have hf9_h0 : fs_58[9]? = some (.int 0) := by rw [efs_58, List.getElem?_set_ne (by decide)]; exact hf9_h0
  have hf25_h0 : fs_58[25]? = some (.int 0) := by rw [efs_58, List.getElem?_set_ne (by decide)]; exact hf25_h0
  have hf6_h0 : fs_58[6]? = some (.ref q_2) := by rw [efs_58, List.getElem?_set_ne (by decide)]; exact hf6_h0
  have hf7_h0 : fs_58[7]? = some (.ref q_5) := by rw [efs_58, List.getElem?_set_ne (by decide)]; exact hf7_h0
  have hf8_h0 : fs_58[8]? = some (.ref q_8) := by rw [efs_58, List.getElem?_set_ne (by decide)]; exact hf8_h0
  have hf10_h0 : fs_58[10]? = some (.ref q_11) := by rw [efs_58, List.getElem?_set_ne (by decide)]; exact hf10_h0
  have hf11_h0 : fs_58[11]? = some (.ref q_14) := by rw [efs_58, List.getElem?_set_ne (by decide)]; exact hf11_h0
  have hf12_h0 : fs_58[12]? = some (.ref q_17) := by rw [efs_58, List.getElem?_set_ne (by decide)]; exact hf12_h0
  have hf13_h0 : fs_58[13]? = some (.ref q_20) := by rw [efs_58, List.getElem?_set_ne (by decide)]; exact hf13_h0
  have hf14_h0 : fs_58[14]? = some (.ref q_23) := by rw [efs_58, List.getElem?_set_ne (by decide)]; exact hf14_h0
  have hf17_h0 : fs_58[17]? = some (.ref q_32) := by rw [efs_58, List.getElem?_set_ne (by decide)]; exact hf17_h0
  have hf18_h0 : fs_58[18]? = some (.ref q_35) := by rw [efs_58, List.getElem?_set_ne (by decide)]; exact hf18_h0
  have hf19_h0 : fs_58[19]? = some (.ref q_38) := by rw [efs_58, List.getElem?_set_ne (by decide)]; exact hf19_h0
  have hf22_h0 : fs_58[22]? = some (.ref q_47) := by rw [efs_58, List.getElem?_set_ne (by decide)]; exact hf22_h0
  have hlen_h0 : fs_58.length = 51 := by rw [efs_58, List.length_set]; exact hlen_h0
  have hK := hK.sub (tys' := [(cA_3, .int)]) [0] rfl
  have hP := hP.sub (ws' := [(h0, .inr (6, fs_58)), (q_2, .inl (cA_3, 8, .inl (fun _ => 0))), (q_5, .inl (cA_3, 32, .inl (fun _ => 0))), (q_8, .inl (cA_3, 100, .inl (fun _ => 0))), (q_11, .inl (cA_3, 40, .inl (fun _ => 0))), (q_14, .inl (cA_3, 40, .inl (fun _ => 0))), (q_17, .inl (cA_3, 40, .inl (fun _ => 0))), (q_20, .inl (cA_3, 40, .inl (fun _ => 0))), (q_23, .inl (cA_3, 40, .inl (fun _ => 0))), (q_32, .inl (cA_3, 40, .inl (fun _ => 0))), (q_35, .inl (cA_3, 40, .inl (fun _ => 0))), (q_38, .inl (cA_3, 40, .inl (fun _ => 0))), (q_47, .inl (cA_3, 40, .inl (fun _ => 0)))]) [0, 1, 2, 3, 4, 5, 6, 7, 8, 9, 10, 11, 12] rfl
  have hD := hD.sub (ws' := [(h0, .inr (6, fs_58)), (q_2, .inl (cA_3, 8, .inl (fun _ => 0))), (q_5, .inl (cA_3, 32, .inl (fun _ => 0))), (q_8, .inl (cA_3, 100, .inl (fun _ => 0))), (q_11, .inl (cA_3, 40, .inl (fun _ => 0))), (q_14, .inl (cA_3, 40, .inl (fun _ => 0))), (q_17, .inl (cA_3, 40, .inl (fun _ => 0))), (q_20, .inl (cA_3, 40, .inl (fun _ => 0))), (q_23, .inl (cA_3, 40, .inl (fun _ => 0))), (q_32, .inl (cA_3, 40, .inl (fun _ => 0))), (q_35, .inl (cA_3, 40, .inl (fun _ => 0))), (q_38, .inl (cA_3, 40, .inl (fun _ => 0))), (q_47, .inl (cA_3, 40, .inl (fun _ => 0)))]) [0, 1, 2, 3, 4, 5, 6, 7, 8, 9, 10, 11, 12] (by decide) rfl
  refine lv_aload_n hx hb dX6_init_164 rfl (lv_at hl 0 rfl) ?_
  refine lv_sipush (v := 1000) hx hb dX6_init_165 (by decide) ?_
  refine va_newa (atype := .int) (N' := 1000) (a0 := (1000, .inl (fun _ => 0))) hx hb (hts _ wm_80) rfl hK hP hD hS hA (fun _ => rfl) (by decide) rfl (Nat.le_of_ble_eq_true rfl) (Nat.le_of_ble_eq_true rfl) (Nat.le_of_ble_eq_true rfl) dX6_init_168 (fun q_59 cA_60 H hK hP hD hS => ?_)
  have hK : va_K (dC, dI) vwCl [(cA_3, .int), (cA_60, .int)] s := hK
  have hP : va_P (dC, dI) vwCl [(h0, .inr (6, fs_58)), (q_2, .inl (cA_3, 8, .inl (fun _ => 0))), (q_5, .inl (cA_3, 32, .inl (fun _ => 0))), (q_8, .inl (cA_3, 100, .inl (fun _ => 0))), (q_11, .inl (cA_3, 40, .inl (fun _ => 0))), (q_14, .inl (cA_3, 40, .inl (fun _ => 0))), (q_17, .inl (cA_3, 40, .inl (fun _ => 0))), (q_20, .inl (cA_3, 40, .inl (fun _ => 0))), (q_23, .inl (cA_3, 40, .inl (fun _ => 0))), (q_32, .inl (cA_3, 40, .inl (fun _ => 0))), (q_35, .inl (cA_3, 40, .inl (fun _ => 0))), (q_38, .inl (cA_3, 40, .inl (fun _ => 0))), (q_47, .inl (cA_3, 40, .inl (fun _ => 0))), (q_59, .inl (cA_60, 1000, .inl (fun _ => 0)))] H := hP
  have hD : va_D A [(h0, .inr (6, fs_58)), (q_2, .inl (cA_3, 8, .inl (fun _ => 0))), (q_5, .inl (cA_3, 32, .inl (fun _ => 0))), (q_8, .inl (cA_3, 100, .inl (fun _ => 0))), (q_11, .inl (cA_3, 40, .inl (fun _ => 0))), (q_14, .inl (cA_3, 40, .inl (fun _ => 0))), (q_17, .inl (cA_3, 40, .inl (fun _ => 0))), (q_20, .inl (cA_3, 40, .inl (fun _ => 0))), (q_23, .inl (cA_3, 40, .inl (fun _ => 0))), (q_32, .inl (cA_3, 40, .inl (fun _ => 0))), (q_35, .inl (cA_3, 40, .inl (fun _ => 0))), (q_38, .inl (cA_3, 40, .inl (fun _ => 0))), (q_47, .inl (cA_3, 40, .inl (fun _ => 0))), (q_59, .inl (cA_60, 1000, .inl (fun _ => 0)))] := hD
  refine va_putF (D := (dC, dI)) (ci := 6) (v := .ref q_59) (ty := .array (.int)) (C := RX6) (T := TX6) (N := 51) hx hb hts uB6 tyX6 tyX6_ok nmX6 hown hK hP hD hS 0 rfl rfl 27 (by decide) (hts _ wm_170) (fun _ h9 => h9) rfl hin rfl (by decide +kernel) rfl rfl (by rw [hlen_h0]; decide) dX6_init_170 (fun H locs hP hD hS => ?_)
  obtain ⟨fs_61, efs_61⟩ : ∃ z9, z9 = (fs_58).set 27 (.ref q_59) := ⟨_, rfl⟩
  have hP : va_P (dC, dI) vwCl [(h0, .inr (6, fs_61)), (q_2, .inl (cA_3, 8, .inl (fun _ => 0))), (q_5, .inl (cA_3, 32, .inl (fun _ => 0))), (q_8, .inl (cA_3, 100, .inl (fun _ => 0))), (q_11, .inl (cA_3, 40, .inl (fun _ => 0))), (q_14, .inl (cA_3, 40, .inl (fun _ => 0))), (q_17, .inl (cA_3, 40, .inl (fun _ => 0))), (q_20, .inl (cA_3, 40, .inl (fun _ => 0))), (q_23, .inl (cA_3, 40, .inl (fun _ => 0))), (q_32, .inl (cA_3, 40, .inl (fun _ => 0))), (q_35, .inl (cA_3, 40, .inl (fun _ => 0))), (q_38, .inl (cA_3, 40, .inl (fun _ => 0))), (q_47, .inl (cA_3, 40, .inl (fun _ => 0))), (q_59, .inl (cA_60, 1000, .inl (fun _ => 0)))] H := by rw [efs_61]; exact hP
  have hD : va_D A [(h0, .inr (6, fs_61)), (q_2, .inl (cA_3, 8, .inl (fun _ => 0))), (q_5, .inl (cA_3, 32, .inl (fun _ => 0))), (q_8, .inl (cA_3, 100, .inl (fun _ => 0))), (q_11, .inl (cA_3, 40, .inl (fun _ => 0))), (q_14, .inl (cA_3, 40, .inl (fun _ => 0))), (q_17, .inl (cA_3, 40, .inl (fun _ => 0))), (q_20, .inl (cA_3, 40, .inl (fun _ => 0))), (q_23, .inl (cA_3, 40, .inl (fun _ => 0))), (q_32, .inl (cA_3, 40, .inl (fun _ => 0))), (q_35, .inl (cA_3, 40, .inl (fun _ => 0))), (q_38, .inl (cA_3, 40, .inl (fun _ => 0))), (q_47, .inl (cA_3, 40, .inl (fun _ => 0))), (q_59, .inl (cA_60, 1000, .inl (fun _ => 0)))] := by rw [efs_61]; exact hD
  have hf1_h0 : fs_61[1]? = some (.int 0) := by rw [efs_61, List.getElem?_set_ne (by decide)]; exact hf1_h0
  have hf2_h0 : fs_61[2]? = some (.int 0) := by rw [efs_61, List.getElem?_set_ne (by decide)]; exact hf2_h0
  have hf3_h0 : fs_61[3]? = some (.int 0) := by rw [efs_61, List.getElem?_set_ne (by decide)]; exact hf3_h0
  have hf5_h0 : fs_61[5]? = some (.int 0) := by rw [efs_61, List.getElem?_set_ne (by decide)]; exact hf5_h0
  have hf9_h0 : fs_61[9]? = some (.int 0) := by rw [efs_61, List.getElem?_set_ne (by decide)]; exact hf9_h0
  have hf25_h0 : fs_61[25]? = some (.int 0) := by rw [efs_61, List.getElem?_set_ne (by decide)]; exact hf25_h0
  have hf6_h0 : fs_61[6]? = some (.ref q_2) := by rw [efs_61, List.getElem?_set_ne (by decide)]; exact hf6_h0
  have hf7_h0 : fs_61[7]? = some (.ref q_5) := by rw [efs_61, List.getElem?_set_ne (by decide)]; exact hf7_h0
  have hf8_h0 : fs_61[8]? = some (.ref q_8) := by rw [efs_61, List.getElem?_set_ne (by decide)]; exact hf8_h0
  have hf10_h0 : fs_61[10]? = some (.ref q_11) := by rw [efs_61, List.getElem?_set_ne (by decide)]; exact hf10_h0
  have hf11_h0 : fs_61[11]? = some (.ref q_14) := by rw [efs_61, List.getElem?_set_ne (by decide)]; exact hf11_h0
  have hf12_h0 : fs_61[12]? = some (.ref q_17) := by rw [efs_61, List.getElem?_set_ne (by decide)]; exact hf12_h0
  have hf13_h0 : fs_61[13]? = some (.ref q_20) := by rw [efs_61, List.getElem?_set_ne (by decide)]; exact hf13_h0
  have hf14_h0 : fs_61[14]? = some (.ref q_23) := by rw [efs_61, List.getElem?_set_ne (by decide)]; exact hf14_h0
  have hf17_h0 : fs_61[17]? = some (.ref q_32) := by rw [efs_61, List.getElem?_set_ne (by decide)]; exact hf17_h0
  have hf18_h0 : fs_61[18]? = some (.ref q_35) := by rw [efs_61, List.getElem?_set_ne (by decide)]; exact hf18_h0
  have hf19_h0 : fs_61[19]? = some (.ref q_38) := by rw [efs_61, List.getElem?_set_ne (by decide)]; exact hf19_h0
  have hf22_h0 : fs_61[22]? = some (.ref q_47) := by rw [efs_61, List.getElem?_set_ne (by decide)]; exact hf22_h0
  have hlen_h0 : fs_61.length = 51 := by rw [efs_61, List.length_set]; exact hlen_h0
  have hK := hK.sub (tys' := [(cA_3, .int)]) [0] rfl
  have hP := hP.sub (ws' := [(h0, .inr (6, fs_61)), (q_2, .inl (cA_3, 8, .inl (fun _ => 0))), (q_5, .inl (cA_3, 32, .inl (fun _ => 0))), (q_8, .inl (cA_3, 100, .inl (fun _ => 0))), (q_11, .inl (cA_3, 40, .inl (fun _ => 0))), (q_14, .inl (cA_3, 40, .inl (fun _ => 0))), (q_17, .inl (cA_3, 40, .inl (fun _ => 0))), (q_20, .inl (cA_3, 40, .inl (fun _ => 0))), (q_23, .inl (cA_3, 40, .inl (fun _ => 0))), (q_32, .inl (cA_3, 40, .inl (fun _ => 0))), (q_35, .inl (cA_3, 40, .inl (fun _ => 0))), (q_38, .inl (cA_3, 40, .inl (fun _ => 0))), (q_47, .inl (cA_3, 40, .inl (fun _ => 0)))]) [0, 1, 2, 3, 4, 5, 6, 7, 8, 9, 10, 11, 12] rfl
  have hD := hD.sub (ws' := [(h0, .inr (6, fs_61)), (q_2, .inl (cA_3, 8, .inl (fun _ => 0))), (q_5, .inl (cA_3, 32, .inl (fun _ => 0))), (q_8, .inl (cA_3, 100, .inl (fun _ => 0))), (q_11, .inl (cA_3, 40, .inl (fun _ => 0))), (q_14, .inl (cA_3, 40, .inl (fun _ => 0))), (q_17, .inl (cA_3, 40, .inl (fun _ => 0))), (q_20, .inl (cA_3, 40, .inl (fun _ => 0))), (q_23, .inl (cA_3, 40, .inl (fun _ => 0))), (q_32, .inl (cA_3, 40, .inl (fun _ => 0))), (q_35, .inl (cA_3, 40, .inl (fun _ => 0))), (q_38, .inl (cA_3, 40, .inl (fun _ => 0))), (q_47, .inl (cA_3, 40, .inl (fun _ => 0)))]) [0, 1, 2, 3, 4, 5, 6, 7, 8, 9, 10, 11, 12] (by decide) rfl
  refine lv_aload_n hx hb dX6_init_173 rfl (lv_at hl 0 rfl) ?_
  refine lv_sipush (v := 1000) hx hb dX6_init_174 (by decide) ?_
  refine va_newa (atype := .int) (N' := 1000) (a0 := (1000, .inl (fun _ => 0))) hx hb (hts _ wm_80) rfl hK hP hD hS hA (fun _ => rfl) (by decide) rfl (Nat.le_of_ble_eq_true rfl) (Nat.le_of_ble_eq_true rfl) (Nat.le_of_ble_eq_true rfl) dX6_init_177 (fun q_62 cA_63 H hK hP hD hS => ?_)
  have hK : va_K (dC, dI) vwCl [(cA_3, .int), (cA_63, .int)] s := hK
  have hP : va_P (dC, dI) vwCl [(h0, .inr (6, fs_61)), (q_2, .inl (cA_3, 8, .inl (fun _ => 0))), (q_5, .inl (cA_3, 32, .inl (fun _ => 0))), (q_8, .inl (cA_3, 100, .inl (fun _ => 0))), (q_11, .inl (cA_3, 40, .inl (fun _ => 0))), (q_14, .inl (cA_3, 40, .inl (fun _ => 0))), (q_17, .inl (cA_3, 40, .inl (fun _ => 0))), (q_20, .inl (cA_3, 40, .inl (fun _ => 0))), (q_23, .inl (cA_3, 40, .inl (fun _ => 0))), (q_32, .inl (cA_3, 40, .inl (fun _ => 0))), (q_35, .inl (cA_3, 40, .inl (fun _ => 0))), (q_38, .inl (cA_3, 40, .inl (fun _ => 0))), (q_47, .inl (cA_3, 40, .inl (fun _ => 0))), (q_62, .inl (cA_63, 1000, .inl (fun _ => 0)))] H := hP
  have hD : va_D A [(h0, .inr (6, fs_61)), (q_2, .inl (cA_3, 8, .inl (fun _ => 0))), (q_5, .inl (cA_3, 32, .inl (fun _ => 0))), (q_8, .inl (cA_3, 100, .inl (fun _ => 0))), (q_11, .inl (cA_3, 40, .inl (fun _ => 0))), (q_14, .inl (cA_3, 40, .inl (fun _ => 0))), (q_17, .inl (cA_3, 40, .inl (fun _ => 0))), (q_20, .inl (cA_3, 40, .inl (fun _ => 0))), (q_23, .inl (cA_3, 40, .inl (fun _ => 0))), (q_32, .inl (cA_3, 40, .inl (fun _ => 0))), (q_35, .inl (cA_3, 40, .inl (fun _ => 0))), (q_38, .inl (cA_3, 40, .inl (fun _ => 0))), (q_47, .inl (cA_3, 40, .inl (fun _ => 0))), (q_62, .inl (cA_63, 1000, .inl (fun _ => 0)))] := hD
  refine va_putF (D := (dC, dI)) (ci := 6) (v := .ref q_62) (ty := .array (.int)) (C := RX6) (T := TX6) (N := 51) hx hb hts uB6 tyX6 tyX6_ok nmX6 hown hK hP hD hS 0 rfl rfl 28 (by decide) (hts _ wm_171) (fun _ h9 => h9) rfl hin rfl (by decide +kernel) rfl rfl (by rw [hlen_h0]; decide) dX6_init_179 (fun H locs hP hD hS => ?_)
  obtain ⟨fs_64, efs_64⟩ : ∃ z9, z9 = (fs_61).set 28 (.ref q_62) := ⟨_, rfl⟩
  have hP : va_P (dC, dI) vwCl [(h0, .inr (6, fs_64)), (q_2, .inl (cA_3, 8, .inl (fun _ => 0))), (q_5, .inl (cA_3, 32, .inl (fun _ => 0))), (q_8, .inl (cA_3, 100, .inl (fun _ => 0))), (q_11, .inl (cA_3, 40, .inl (fun _ => 0))), (q_14, .inl (cA_3, 40, .inl (fun _ => 0))), (q_17, .inl (cA_3, 40, .inl (fun _ => 0))), (q_20, .inl (cA_3, 40, .inl (fun _ => 0))), (q_23, .inl (cA_3, 40, .inl (fun _ => 0))), (q_32, .inl (cA_3, 40, .inl (fun _ => 0))), (q_35, .inl (cA_3, 40, .inl (fun _ => 0))), (q_38, .inl (cA_3, 40, .inl (fun _ => 0))), (q_47, .inl (cA_3, 40, .inl (fun _ => 0))), (q_62, .inl (cA_63, 1000, .inl (fun _ => 0)))] H := by rw [efs_64]; exact hP
  have hD : va_D A [(h0, .inr (6, fs_64)), (q_2, .inl (cA_3, 8, .inl (fun _ => 0))), (q_5, .inl (cA_3, 32, .inl (fun _ => 0))), (q_8, .inl (cA_3, 100, .inl (fun _ => 0))), (q_11, .inl (cA_3, 40, .inl (fun _ => 0))), (q_14, .inl (cA_3, 40, .inl (fun _ => 0))), (q_17, .inl (cA_3, 40, .inl (fun _ => 0))), (q_20, .inl (cA_3, 40, .inl (fun _ => 0))), (q_23, .inl (cA_3, 40, .inl (fun _ => 0))), (q_32, .inl (cA_3, 40, .inl (fun _ => 0))), (q_35, .inl (cA_3, 40, .inl (fun _ => 0))), (q_38, .inl (cA_3, 40, .inl (fun _ => 0))), (q_47, .inl (cA_3, 40, .inl (fun _ => 0))), (q_62, .inl (cA_63, 1000, .inl (fun _ => 0)))] := by rw [efs_64]; exact hD
  have hf1_h0 : fs_64[1]? = some (.int 0) := by rw [efs_64, List.getElem?_set_ne (by decide)]; exact hf1_h0
  have hf2_h0 : fs_64[2]? = some (.int 0) := by rw [efs_64, List.getElem?_set_ne (by decide)]; exact hf2_h0
  have hf3_h0 : fs_64[3]? = some (.int 0) := by rw [efs_64, List.getElem?_set_ne (by decide)]; exact hf3_h0
  have hf5_h0 : fs_64[5]? = some (.int 0) := by rw [efs_64, List.getElem?_set_ne (by decide)]; exact hf5_h0
  have hf9_h0 : fs_64[9]? = some (.int 0) := by rw [efs_64, List.getElem?_set_ne (by decide)]; exact hf9_h0
  have hf25_h0 : fs_64[25]? = some (.int 0) := by rw [efs_64, List.getElem?_set_ne (by decide)]; exact hf25_h0
  have hf6_h0 : fs_64[6]? = some (.ref q_2) := by rw [efs_64, List.getElem?_set_ne (by decide)]; exact hf6_h0
  have hf7_h0 : fs_64[7]? = some (.ref q_5) := by rw [efs_64, List.getElem?_set_ne (by decide)]; exact hf7_h0
  have hf8_h0 : fs_64[8]? = some (.ref q_8) := by rw [efs_64, List.getElem?_set_ne (by decide)]; exact hf8_h0
  have hf10_h0 : fs_64[10]? = some (.ref q_11) := by rw [efs_64, List.getElem?_set_ne (by decide)]; exact hf10_h0
  have hf11_h0 : fs_64[11]? = some (.ref q_14) := by rw [efs_64, List.getElem?_set_ne (by decide)]; exact hf11_h0
  have hf12_h0 : fs_64[12]? = some (.ref q_17) := by rw [efs_64, List.getElem?_set_ne (by decide)]; exact hf12_h0
  have hf13_h0 : fs_64[13]? = some (.ref q_20) := by rw [efs_64, List.getElem?_set_ne (by decide)]; exact hf13_h0
  have hf14_h0 : fs_64[14]? = some (.ref q_23) := by rw [efs_64, List.getElem?_set_ne (by decide)]; exact hf14_h0
  have hf17_h0 : fs_64[17]? = some (.ref q_32) := by rw [efs_64, List.getElem?_set_ne (by decide)]; exact hf17_h0
  have hf18_h0 : fs_64[18]? = some (.ref q_35) := by rw [efs_64, List.getElem?_set_ne (by decide)]; exact hf18_h0
  have hf19_h0 : fs_64[19]? = some (.ref q_38) := by rw [efs_64, List.getElem?_set_ne (by decide)]; exact hf19_h0
  have hf22_h0 : fs_64[22]? = some (.ref q_47) := by rw [efs_64, List.getElem?_set_ne (by decide)]; exact hf22_h0
  have hlen_h0 : fs_64.length = 51 := by rw [efs_64, List.length_set]; exact hlen_h0
  have hK := hK.sub (tys' := [(cA_3, .int)]) [0] rfl
  have hP := hP.sub (ws' := [(h0, .inr (6, fs_64)), (q_2, .inl (cA_3, 8, .inl (fun _ => 0))), (q_5, .inl (cA_3, 32, .inl (fun _ => 0))), (q_8, .inl (cA_3, 100, .inl (fun _ => 0))), (q_11, .inl (cA_3, 40, .inl (fun _ => 0))), (q_14, .inl (cA_3, 40, .inl (fun _ => 0))), (q_17, .inl (cA_3, 40, .inl (fun _ => 0))), (q_20, .inl (cA_3, 40, .inl (fun _ => 0))), (q_23, .inl (cA_3, 40, .inl (fun _ => 0))), (q_32, .inl (cA_3, 40, .inl (fun _ => 0))), (q_35, .inl (cA_3, 40, .inl (fun _ => 0))), (q_38, .inl (cA_3, 40, .inl (fun _ => 0))), (q_47, .inl (cA_3, 40, .inl (fun _ => 0)))]) [0, 1, 2, 3, 4, 5, 6, 7, 8, 9, 10, 11, 12] rfl
  have hD := hD.sub (ws' := [(h0, .inr (6, fs_64)), (q_2, .inl (cA_3, 8, .inl (fun _ => 0))), (q_5, .inl (cA_3, 32, .inl (fun _ => 0))), (q_8, .inl (cA_3, 100, .inl (fun _ => 0))), (q_11, .inl (cA_3, 40, .inl (fun _ => 0))), (q_14, .inl (cA_3, 40, .inl (fun _ => 0))), (q_17, .inl (cA_3, 40, .inl (fun _ => 0))), (q_20, .inl (cA_3, 40, .inl (fun _ => 0))), (q_23, .inl (cA_3, 40, .inl (fun _ => 0))), (q_32, .inl (cA_3, 40, .inl (fun _ => 0))), (q_35, .inl (cA_3, 40, .inl (fun _ => 0))), (q_38, .inl (cA_3, 40, .inl (fun _ => 0))), (q_47, .inl (cA_3, 40, .inl (fun _ => 0)))]) [0, 1, 2, 3, 4, 5, 6, 7, 8, 9, 10, 11, 12] (by decide) rfl
  refine lv_aload_n hx hb dX6_init_182 rfl (lv_at hl 0 rfl) ?_
  refine lv_sipush (v := 1000) hx hb dX6_init_183 (by decide) ?_
  refine va_newa (atype := .int) (N' := 1000) (a0 := (1000, .inl (fun _ => 0))) hx hb (hts _ wm_80) rfl hK hP hD hS hA (fun _ => rfl) (by decide) rfl (Nat.le_of_ble_eq_true rfl) (Nat.le_of_ble_eq_true rfl) (Nat.le_of_ble_eq_true rfl) dX6_init_186 (fun q_65 cA_66 H hK hP hD hS => ?_)
  have hK : va_K (dC, dI) vwCl [(cA_3, .int), (cA_66, .int)] s := hK
  have hP : va_P (dC, dI) vwCl [(h0, .inr (6, fs_64)), (q_2, .inl (cA_3, 8, .inl (fun _ => 0))), (q_5, .inl (cA_3, 32, .inl (fun _ => 0))), (q_8, .inl (cA_3, 100, .inl (fun _ => 0))), (q_11, .inl (cA_3, 40, .inl (fun _ => 0))), (q_14, .inl (cA_3, 40, .inl (fun _ => 0))), (q_17, .inl (cA_3, 40, .inl (fun _ => 0))), (q_20, .inl (cA_3, 40, .inl (fun _ => 0))), (q_23, .inl (cA_3, 40, .inl (fun _ => 0))), (q_32, .inl (cA_3, 40, .inl (fun _ => 0))), (q_35, .inl (cA_3, 40, .inl (fun _ => 0))), (q_38, .inl (cA_3, 40, .inl (fun _ => 0))), (q_47, .inl (cA_3, 40, .inl (fun _ => 0))), (q_65, .inl (cA_66, 1000, .inl (fun _ => 0)))] H := hP
  have hD : va_D A [(h0, .inr (6, fs_64)), (q_2, .inl (cA_3, 8, .inl (fun _ => 0))), (q_5, .inl (cA_3, 32, .inl (fun _ => 0))), (q_8, .inl (cA_3, 100, .inl (fun _ => 0))), (q_11, .inl (cA_3, 40, .inl (fun _ => 0))), (q_14, .inl (cA_3, 40, .inl (fun _ => 0))), (q_17, .inl (cA_3, 40, .inl (fun _ => 0))), (q_20, .inl (cA_3, 40, .inl (fun _ => 0))), (q_23, .inl (cA_3, 40, .inl (fun _ => 0))), (q_32, .inl (cA_3, 40, .inl (fun _ => 0))), (q_35, .inl (cA_3, 40, .inl (fun _ => 0))), (q_38, .inl (cA_3, 40, .inl (fun _ => 0))), (q_47, .inl (cA_3, 40, .inl (fun _ => 0))), (q_65, .inl (cA_66, 1000, .inl (fun _ => 0)))] := hD
  refine va_putF (D := (dC, dI)) (ci := 6) (v := .ref q_65) (ty := .array (.int)) (C := RX6) (T := TX6) (N := 51) hx hb hts uB6 tyX6 tyX6_ok nmX6 hown hK hP hD hS 0 rfl rfl 29 (by decide) (hts _ wm_172) (fun _ h9 => h9) rfl hin rfl (by decide +kernel) rfl rfl (by rw [hlen_h0]; decide) dX6_init_188 (fun H locs hP hD hS => ?_)
  obtain ⟨fs_67, efs_67⟩ : ∃ z9, z9 = (fs_64).set 29 (.ref q_65) := ⟨_, rfl⟩
  have hP : va_P (dC, dI) vwCl [(h0, .inr (6, fs_67)), (q_2, .inl (cA_3, 8, .inl (fun _ => 0))), (q_5, .inl (cA_3, 32, .inl (fun _ => 0))), (q_8, .inl (cA_3, 100, .inl (fun _ => 0))), (q_11, .inl (cA_3, 40, .inl (fun _ => 0))), (q_14, .inl (cA_3, 40, .inl (fun _ => 0))), (q_17, .inl (cA_3, 40, .inl (fun _ => 0))), (q_20, .inl (cA_3, 40, .inl (fun _ => 0))), (q_23, .inl (cA_3, 40, .inl (fun _ => 0))), (q_32, .inl (cA_3, 40, .inl (fun _ => 0))), (q_35, .inl (cA_3, 40, .inl (fun _ => 0))), (q_38, .inl (cA_3, 40, .inl (fun _ => 0))), (q_47, .inl (cA_3, 40, .inl (fun _ => 0))), (q_65, .inl (cA_66, 1000, .inl (fun _ => 0)))] H := by rw [efs_67]; exact hP
  have hD : va_D A [(h0, .inr (6, fs_67)), (q_2, .inl (cA_3, 8, .inl (fun _ => 0))), (q_5, .inl (cA_3, 32, .inl (fun _ => 0))), (q_8, .inl (cA_3, 100, .inl (fun _ => 0))), (q_11, .inl (cA_3, 40, .inl (fun _ => 0))), (q_14, .inl (cA_3, 40, .inl (fun _ => 0))), (q_17, .inl (cA_3, 40, .inl (fun _ => 0))), (q_20, .inl (cA_3, 40, .inl (fun _ => 0))), (q_23, .inl (cA_3, 40, .inl (fun _ => 0))), (q_32, .inl (cA_3, 40, .inl (fun _ => 0))), (q_35, .inl (cA_3, 40, .inl (fun _ => 0))), (q_38, .inl (cA_3, 40, .inl (fun _ => 0))), (q_47, .inl (cA_3, 40, .inl (fun _ => 0))), (q_65, .inl (cA_66, 1000, .inl (fun _ => 0)))] := by rw [efs_67]; exact hD
  have hf1_h0 : fs_67[1]? = some (.int 0) := by rw [efs_67, List.getElem?_set_ne (by decide)]; exact hf1_h0
  have hf2_h0 : fs_67[2]? = some (.int 0) := by rw [efs_67, List.getElem?_set_ne (by decide)]; exact hf2_h0
  have hf3_h0 : fs_67[3]? = some (.int 0) := by rw [efs_67, List.getElem?_set_ne (by decide)]; exact hf3_h0
  have hf5_h0 : fs_67[5]? = some (.int 0) := by rw [efs_67, List.getElem?_set_ne (by decide)]; exact hf5_h0
  have hf9_h0 : fs_67[9]? = some (.int 0) := by rw [efs_67, List.getElem?_set_ne (by decide)]; exact hf9_h0
  have hf25_h0 : fs_67[25]? = some (.int 0) := by rw [efs_67, List.getElem?_set_ne (by decide)]; exact hf25_h0
  have hf6_h0 : fs_67[6]? = some (.ref q_2) := by rw [efs_67, List.getElem?_set_ne (by decide)]; exact hf6_h0
  have hf7_h0 : fs_67[7]? = some (.ref q_5) := by rw [efs_67, List.getElem?_set_ne (by decide)]; exact hf7_h0
  have hf8_h0 : fs_67[8]? = some (.ref q_8) := by rw [efs_67, List.getElem?_set_ne (by decide)]; exact hf8_h0
  have hf10_h0 : fs_67[10]? = some (.ref q_11) := by rw [efs_67, List.getElem?_set_ne (by decide)]; exact hf10_h0
  have hf11_h0 : fs_67[11]? = some (.ref q_14) := by rw [efs_67, List.getElem?_set_ne (by decide)]; exact hf11_h0
  have hf12_h0 : fs_67[12]? = some (.ref q_17) := by rw [efs_67, List.getElem?_set_ne (by decide)]; exact hf12_h0
  have hf13_h0 : fs_67[13]? = some (.ref q_20) := by rw [efs_67, List.getElem?_set_ne (by decide)]; exact hf13_h0
  have hf14_h0 : fs_67[14]? = some (.ref q_23) := by rw [efs_67, List.getElem?_set_ne (by decide)]; exact hf14_h0
  have hf17_h0 : fs_67[17]? = some (.ref q_32) := by rw [efs_67, List.getElem?_set_ne (by decide)]; exact hf17_h0
  have hf18_h0 : fs_67[18]? = some (.ref q_35) := by rw [efs_67, List.getElem?_set_ne (by decide)]; exact hf18_h0
  have hf19_h0 : fs_67[19]? = some (.ref q_38) := by rw [efs_67, List.getElem?_set_ne (by decide)]; exact hf19_h0
  have hf22_h0 : fs_67[22]? = some (.ref q_47) := by rw [efs_67, List.getElem?_set_ne (by decide)]; exact hf22_h0
  have hlen_h0 : fs_67.length = 51 := by rw [efs_67, List.length_set]; exact hlen_h0
  have hK := hK.sub (tys' := [(cA_3, .int)]) [0] rfl
  have hP := hP.sub (ws' := [(h0, .inr (6, fs_67)), (q_2, .inl (cA_3, 8, .inl (fun _ => 0))), (q_5, .inl (cA_3, 32, .inl (fun _ => 0))), (q_8, .inl (cA_3, 100, .inl (fun _ => 0))), (q_11, .inl (cA_3, 40, .inl (fun _ => 0))), (q_14, .inl (cA_3, 40, .inl (fun _ => 0))), (q_17, .inl (cA_3, 40, .inl (fun _ => 0))), (q_20, .inl (cA_3, 40, .inl (fun _ => 0))), (q_23, .inl (cA_3, 40, .inl (fun _ => 0))), (q_32, .inl (cA_3, 40, .inl (fun _ => 0))), (q_35, .inl (cA_3, 40, .inl (fun _ => 0))), (q_38, .inl (cA_3, 40, .inl (fun _ => 0))), (q_47, .inl (cA_3, 40, .inl (fun _ => 0)))]) [0, 1, 2, 3, 4, 5, 6, 7, 8, 9, 10, 11, 12] rfl
  have hD := hD.sub (ws' := [(h0, .inr (6, fs_67)), (q_2, .inl (cA_3, 8, .inl (fun _ => 0))), (q_5, .inl (cA_3, 32, .inl (fun _ => 0))), (q_8, .inl (cA_3, 100, .inl (fun _ => 0))), (q_11, .inl (cA_3, 40, .inl (fun _ => 0))), (q_14, .inl (cA_3, 40, .inl (fun _ => 0))), (q_17, .inl (cA_3, 40, .inl (fun _ => 0))), (q_20, .inl (cA_3, 40, .inl (fun _ => 0))), (q_23, .inl (cA_3, 40, .inl (fun _ => 0))), (q_32, .inl (cA_3, 40, .inl (fun _ => 0))), (q_35, .inl (cA_3, 40, .inl (fun _ => 0))), (q_38, .inl (cA_3, 40, .inl (fun _ => 0))), (q_47, .inl (cA_3, 40, .inl (fun _ => 0)))]) [0, 1, 2, 3, 4, 5, 6, 7, 8, 9, 10, 11, 12] (by decide) rfl
  refine lv_aload_n hx hb dX6_init_191 rfl (lv_at hl 0 rfl) ?_
  refine lv_sipush (v := 1000) hx hb dX6_init_192 (by decide) ?_
  refine va_newa (atype := .int) (N' := 1000) (a0 := (1000, .inl (fun _ => 0))) hx hb (hts _ wm_80) rfl hK hP hD hS hA (fun _ => rfl) (by decide) rfl (Nat.le_of_ble_eq_true rfl) (Nat.le_of_ble_eq_true rfl) (Nat.le_of_ble_eq_true rfl) dX6_init_195 (fun q_68 cA_69 H hK hP hD hS => ?_)
  have hK : va_K (dC, dI) vwCl [(cA_3, .int), (cA_69, .int)] s := hK
  have hP : va_P (dC, dI) vwCl [(h0, .inr (6, fs_67)), (q_2, .inl (cA_3, 8, .inl (fun _ => 0))), (q_5, .inl (cA_3, 32, .inl (fun _ => 0))), (q_8, .inl (cA_3, 100, .inl (fun _ => 0))), (q_11, .inl (cA_3, 40, .inl (fun _ => 0))), (q_14, .inl (cA_3, 40, .inl (fun _ => 0))), (q_17, .inl (cA_3, 40, .inl (fun _ => 0))), (q_20, .inl (cA_3, 40, .inl (fun _ => 0))), (q_23, .inl (cA_3, 40, .inl (fun _ => 0))), (q_32, .inl (cA_3, 40, .inl (fun _ => 0))), (q_35, .inl (cA_3, 40, .inl (fun _ => 0))), (q_38, .inl (cA_3, 40, .inl (fun _ => 0))), (q_47, .inl (cA_3, 40, .inl (fun _ => 0))), (q_68, .inl (cA_69, 1000, .inl (fun _ => 0)))] H := hP
  have hD : va_D A [(h0, .inr (6, fs_67)), (q_2, .inl (cA_3, 8, .inl (fun _ => 0))), (q_5, .inl (cA_3, 32, .inl (fun _ => 0))), (q_8, .inl (cA_3, 100, .inl (fun _ => 0))), (q_11, .inl (cA_3, 40, .inl (fun _ => 0))), (q_14, .inl (cA_3, 40, .inl (fun _ => 0))), (q_17, .inl (cA_3, 40, .inl (fun _ => 0))), (q_20, .inl (cA_3, 40, .inl (fun _ => 0))), (q_23, .inl (cA_3, 40, .inl (fun _ => 0))), (q_32, .inl (cA_3, 40, .inl (fun _ => 0))), (q_35, .inl (cA_3, 40, .inl (fun _ => 0))), (q_38, .inl (cA_3, 40, .inl (fun _ => 0))), (q_47, .inl (cA_3, 40, .inl (fun _ => 0))), (q_68, .inl (cA_69, 1000, .inl (fun _ => 0)))] := hD
  refine va_putF (D := (dC, dI)) (ci := 6) (v := .ref q_68) (ty := .array (.int)) (C := RX6) (T := TX6) (N := 51) hx hb hts uB6 tyX6 tyX6_ok nmX6 hown hK hP hD hS 0 rfl rfl 30 (by decide) (hts _ wm_173) (fun _ h9 => h9) rfl hin rfl (by decide +kernel) rfl rfl (by rw [hlen_h0]; decide) dX6_init_197 (fun H locs hP hD hS => ?_)
  obtain ⟨fs_70, efs_70⟩ : ∃ z9, z9 = (fs_67).set 30 (.ref q_68) := ⟨_, rfl⟩
  have hP : va_P (dC, dI) vwCl [(h0, .inr (6, fs_70)), (q_2, .inl (cA_3, 8, .inl (fun _ => 0))), (q_5, .inl (cA_3, 32, .inl (fun _ => 0))), (q_8, .inl (cA_3, 100, .inl (fun _ => 0))), (q_11, .inl (cA_3, 40, .inl (fun _ => 0))), (q_14, .inl (cA_3, 40, .inl (fun _ => 0))), (q_17, .inl (cA_3, 40, .inl (fun _ => 0))), (q_20, .inl (cA_3, 40, .inl (fun _ => 0))), (q_23, .inl (cA_3, 40, .inl (fun _ => 0))), (q_32, .inl (cA_3, 40, .inl (fun _ => 0))), (q_35, .inl (cA_3, 40, .inl (fun _ => 0))), (q_38, .inl (cA_3, 40, .inl (fun _ => 0))), (q_47, .inl (cA_3, 40, .inl (fun _ => 0))), (q_68, .inl (cA_69, 1000, .inl (fun _ => 0)))] H := by rw [efs_70]; exact hP
  have hD : va_D A [(h0, .inr (6, fs_70)), (q_2, .inl (cA_3, 8, .inl (fun _ => 0))), (q_5, .inl (cA_3, 32, .inl (fun _ => 0))), (q_8, .inl (cA_3, 100, .inl (fun _ => 0))), (q_11, .inl (cA_3, 40, .inl (fun _ => 0))), (q_14, .inl (cA_3, 40, .inl (fun _ => 0))), (q_17, .inl (cA_3, 40, .inl (fun _ => 0))), (q_20, .inl (cA_3, 40, .inl (fun _ => 0))), (q_23, .inl (cA_3, 40, .inl (fun _ => 0))), (q_32, .inl (cA_3, 40, .inl (fun _ => 0))), (q_35, .inl (cA_3, 40, .inl (fun _ => 0))), (q_38, .inl (cA_3, 40, .inl (fun _ => 0))), (q_47, .inl (cA_3, 40, .inl (fun _ => 0))), (q_68, .inl (cA_69, 1000, .inl (fun _ => 0)))] := by rw [efs_70]; exact hD
  have hf1_h0 : fs_70[1]? = some (.int 0) := by rw [efs_70, List.getElem?_set_ne (by decide)]; exact hf1_h0
  have hf2_h0 : fs_70[2]? = some (.int 0) := by rw [efs_70, List.getElem?_set_ne (by decide)]; exact hf2_h0
  have hf3_h0 : fs_70[3]? = some (.int 0) := by rw [efs_70, List.getElem?_set_ne (by decide)]; exact hf3_h0
  have hf5_h0 : fs_70[5]? = some (.int 0) := by rw [efs_70, List.getElem?_set_ne (by decide)]; exact hf5_h0
  have hf9_h0 : fs_70[9]? = some (.int 0) := by rw [efs_70, List.getElem?_set_ne (by decide)]; exact hf9_h0
  have hf25_h0 : fs_70[25]? = some (.int 0) := by rw [efs_70, List.getElem?_set_ne (by decide)]; exact hf25_h0
  have hf6_h0 : fs_70[6]? = some (.ref q_2) := by rw [efs_70, List.getElem?_set_ne (by decide)]; exact hf6_h0
  have hf7_h0 : fs_70[7]? = some (.ref q_5) := by rw [efs_70, List.getElem?_set_ne (by decide)]; exact hf7_h0
  have hf8_h0 : fs_70[8]? = some (.ref q_8) := by rw [efs_70, List.getElem?_set_ne (by decide)]; exact hf8_h0
  have hf10_h0 : fs_70[10]? = some (.ref q_11) := by rw [efs_70, List.getElem?_set_ne (by decide)]; exact hf10_h0
  have hf11_h0 : fs_70[11]? = some (.ref q_14) := by rw [efs_70, List.getElem?_set_ne (by decide)]; exact hf11_h0
  have hf12_h0 : fs_70[12]? = some (.ref q_17) := by rw [efs_70, List.getElem?_set_ne (by decide)]; exact hf12_h0
  have hf13_h0 : fs_70[13]? = some (.ref q_20) := by rw [efs_70, List.getElem?_set_ne (by decide)]; exact hf13_h0
  have hf14_h0 : fs_70[14]? = some (.ref q_23) := by rw [efs_70, List.getElem?_set_ne (by decide)]; exact hf14_h0
  have hf17_h0 : fs_70[17]? = some (.ref q_32) := by rw [efs_70, List.getElem?_set_ne (by decide)]; exact hf17_h0
  have hf18_h0 : fs_70[18]? = some (.ref q_35) := by rw [efs_70, List.getElem?_set_ne (by decide)]; exact hf18_h0
  have hf19_h0 : fs_70[19]? = some (.ref q_38) := by rw [efs_70, List.getElem?_set_ne (by decide)]; exact hf19_h0
  have hf22_h0 : fs_70[22]? = some (.ref q_47) := by rw [efs_70, List.getElem?_set_ne (by decide)]; exact hf22_h0
  have hlen_h0 : fs_70.length = 51 := by rw [efs_70, List.length_set]; exact hlen_h0
  have hK := hK.sub (tys' := [(cA_3, .int)]) [0] rfl
  have hP := hP.sub (ws' := [(h0, .inr (6, fs_70)), (q_2, .inl (cA_3, 8, .inl (fun _ => 0))), (q_5, .inl (cA_3, 32, .inl (fun _ => 0))), (q_8, .inl (cA_3, 100, .inl (fun _ => 0))), (q_11, .inl (cA_3, 40, .inl (fun _ => 0))), (q_14, .inl (cA_3, 40, .inl (fun _ => 0))), (q_17, .inl (cA_3, 40, .inl (fun _ => 0))), (q_20, .inl (cA_3, 40, .inl (fun _ => 0))), (q_23, .inl (cA_3, 40, .inl (fun _ => 0))), (q_32, .inl (cA_3, 40, .inl (fun _ => 0))), (q_35, .inl (cA_3, 40, .inl (fun _ => 0))), (q_38, .inl (cA_3, 40, .inl (fun _ => 0))), (q_47, .inl (cA_3, 40, .inl (fun _ => 0)))]) [0, 1, 2, 3, 4, 5, 6, 7, 8, 9, 10, 11, 12] rfl
  have hD := hD.sub (ws' := [(h0, .inr (6, fs_70)), (q_2, .inl (cA_3, 8, .inl (fun _ => 0))), (q_5, .inl (cA_3, 32, .inl (fun _ => 0))), (q_8, .inl (cA_3, 100, .inl (fun _ => 0))), (q_11, .inl (cA_3, 40, .inl (fun _ => 0))), (q_14, .inl (cA_3, 40, .inl (fun _ => 0))), (q_17, .inl (cA_3, 40, .inl (fun _ => 0))), (q_20, .inl (cA_3, 40, .inl (fun _ => 0))), (q_23, .inl (cA_3, 40, .inl (fun _ => 0))), (q_32, .inl (cA_3, 40, .inl (fun _ => 0))), (q_35, .inl (cA_3, 40, .inl (fun _ => 0))), (q_38, .inl (cA_3, 40, .inl (fun _ => 0))), (q_47, .inl (cA_3, 40, .inl (fun _ => 0)))]) [0, 1, 2, 3, 4, 5, 6, 7, 8, 9, 10, 11, 12] (by decide) rfl
  refine lv_aload_n hx hb dX6_init_200 rfl (lv_at hl 0 rfl) ?_
  refine lv_sipush (v := 1000) hx hb dX6_init_201 (by decide) ?_
  refine va_newa (atype := .int) (N' := 1000) (a0 := (1000, .inl (fun _ => 0))) hx hb (hts _ wm_80) rfl hK hP hD hS hA (fun _ => rfl) (by decide) rfl (Nat.le_of_ble_eq_true rfl) (Nat.le_of_ble_eq_true rfl) (Nat.le_of_ble_eq_true rfl) dX6_init_204 (fun q_71 cA_72 H hK hP hD hS => ?_)
  have hK : va_K (dC, dI) vwCl [(cA_3, .int), (cA_72, .int)] s := hK
  have hP : va_P (dC, dI) vwCl [(h0, .inr (6, fs_70)), (q_2, .inl (cA_3, 8, .inl (fun _ => 0))), (q_5, .inl (cA_3, 32, .inl (fun _ => 0))), (q_8, .inl (cA_3, 100, .inl (fun _ => 0))), (q_11, .inl (cA_3, 40, .inl (fun _ => 0))), (q_14, .inl (cA_3, 40, .inl (fun _ => 0))), (q_17, .inl (cA_3, 40, .inl (fun _ => 0))), (q_20, .inl (cA_3, 40, .inl (fun _ => 0))), (q_23, .inl (cA_3, 40, .inl (fun _ => 0))), (q_32, .inl (cA_3, 40, .inl (fun _ => 0))), (q_35, .inl (cA_3, 40, .inl (fun _ => 0))), (q_38, .inl (cA_3, 40, .inl (fun _ => 0))), (q_47, .inl (cA_3, 40, .inl (fun _ => 0))), (q_71, .inl (cA_72, 1000, .inl (fun _ => 0)))] H := hP
  have hD : va_D A [(h0, .inr (6, fs_70)), (q_2, .inl (cA_3, 8, .inl (fun _ => 0))), (q_5, .inl (cA_3, 32, .inl (fun _ => 0))), (q_8, .inl (cA_3, 100, .inl (fun _ => 0))), (q_11, .inl (cA_3, 40, .inl (fun _ => 0))), (q_14, .inl (cA_3, 40, .inl (fun _ => 0))), (q_17, .inl (cA_3, 40, .inl (fun _ => 0))), (q_20, .inl (cA_3, 40, .inl (fun _ => 0))), (q_23, .inl (cA_3, 40, .inl (fun _ => 0))), (q_32, .inl (cA_3, 40, .inl (fun _ => 0))), (q_35, .inl (cA_3, 40, .inl (fun _ => 0))), (q_38, .inl (cA_3, 40, .inl (fun _ => 0))), (q_47, .inl (cA_3, 40, .inl (fun _ => 0))), (q_71, .inl (cA_72, 1000, .inl (fun _ => 0)))] := hD
  refine va_putF (D := (dC, dI)) (ci := 6) (v := .ref q_71) (ty := .array (.int)) (C := RX6) (T := TX6) (N := 51) hx hb hts uB6 tyX6 tyX6_ok nmX6 hown hK hP hD hS 0 rfl rfl 31 (by decide) (hts _ wm_174) (fun _ h9 => h9) rfl hin rfl (by decide +kernel) rfl rfl (by rw [hlen_h0]; decide) dX6_init_206 (fun H locs hP hD hS => ?_)
  obtain ⟨fs_73, efs_73⟩ : ∃ z9, z9 = (fs_70).set 31 (.ref q_71) := ⟨_, rfl⟩
  have hP : va_P (dC, dI) vwCl [(h0, .inr (6, fs_73)), (q_2, .inl (cA_3, 8, .inl (fun _ => 0))), (q_5, .inl (cA_3, 32, .inl (fun _ => 0))), (q_8, .inl (cA_3, 100, .inl (fun _ => 0))), (q_11, .inl (cA_3, 40, .inl (fun _ => 0))), (q_14, .inl (cA_3, 40, .inl (fun _ => 0))), (q_17, .inl (cA_3, 40, .inl (fun _ => 0))), (q_20, .inl (cA_3, 40, .inl (fun _ => 0))), (q_23, .inl (cA_3, 40, .inl (fun _ => 0))), (q_32, .inl (cA_3, 40, .inl (fun _ => 0))), (q_35, .inl (cA_3, 40, .inl (fun _ => 0))), (q_38, .inl (cA_3, 40, .inl (fun _ => 0))), (q_47, .inl (cA_3, 40, .inl (fun _ => 0))), (q_71, .inl (cA_72, 1000, .inl (fun _ => 0)))] H := by rw [efs_73]; exact hP
  have hD : va_D A [(h0, .inr (6, fs_73)), (q_2, .inl (cA_3, 8, .inl (fun _ => 0))), (q_5, .inl (cA_3, 32, .inl (fun _ => 0))), (q_8, .inl (cA_3, 100, .inl (fun _ => 0))), (q_11, .inl (cA_3, 40, .inl (fun _ => 0))), (q_14, .inl (cA_3, 40, .inl (fun _ => 0))), (q_17, .inl (cA_3, 40, .inl (fun _ => 0))), (q_20, .inl (cA_3, 40, .inl (fun _ => 0))), (q_23, .inl (cA_3, 40, .inl (fun _ => 0))), (q_32, .inl (cA_3, 40, .inl (fun _ => 0))), (q_35, .inl (cA_3, 40, .inl (fun _ => 0))), (q_38, .inl (cA_3, 40, .inl (fun _ => 0))), (q_47, .inl (cA_3, 40, .inl (fun _ => 0))), (q_71, .inl (cA_72, 1000, .inl (fun _ => 0)))] := by rw [efs_73]; exact hD
  have hf1_h0 : fs_73[1]? = some (.int 0) := by rw [efs_73, List.getElem?_set_ne (by decide)]; exact hf1_h0
  have hf2_h0 : fs_73[2]? = some (.int 0) := by rw [efs_73, List.getElem?_set_ne (by decide)]; exact hf2_h0
  have hf3_h0 : fs_73[3]? = some (.int 0) := by rw [efs_73, List.getElem?_set_ne (by decide)]; exact hf3_h0
  have hf5_h0 : fs_73[5]? = some (.int 0) := by rw [efs_73, List.getElem?_set_ne (by decide)]; exact hf5_h0
  have hf9_h0 : fs_73[9]? = some (.int 0) := by rw [efs_73, List.getElem?_set_ne (by decide)]; exact hf9_h0
  have hf25_h0 : fs_73[25]? = some (.int 0) := by rw [efs_73, List.getElem?_set_ne (by decide)]; exact hf25_h0
  have hf6_h0 : fs_73[6]? = some (.ref q_2) := by rw [efs_73, List.getElem?_set_ne (by decide)]; exact hf6_h0
  have hf7_h0 : fs_73[7]? = some (.ref q_5) := by rw [efs_73, List.getElem?_set_ne (by decide)]; exact hf7_h0
  have hf8_h0 : fs_73[8]? = some (.ref q_8) := by rw [efs_73, List.getElem?_set_ne (by decide)]; exact hf8_h0
  have hf10_h0 : fs_73[10]? = some (.ref q_11) := by rw [efs_73, List.getElem?_set_ne (by decide)]; exact hf10_h0
  have hf11_h0 : fs_73[11]? = some (.ref q_14) := by rw [efs_73, List.getElem?_set_ne (by decide)]; exact hf11_h0
  have hf12_h0 : fs_73[12]? = some (.ref q_17) := by rw [efs_73, List.getElem?_set_ne (by decide)]; exact hf12_h0
  have hf13_h0 : fs_73[13]? = some (.ref q_20) := by rw [efs_73, List.getElem?_set_ne (by decide)]; exact hf13_h0
  have hf14_h0 : fs_73[14]? = some (.ref q_23) := by rw [efs_73, List.getElem?_set_ne (by decide)]; exact hf14_h0
  have hf17_h0 : fs_73[17]? = some (.ref q_32) := by rw [efs_73, List.getElem?_set_ne (by decide)]; exact hf17_h0
  have hf18_h0 : fs_73[18]? = some (.ref q_35) := by rw [efs_73, List.getElem?_set_ne (by decide)]; exact hf18_h0
  have hf19_h0 : fs_73[19]? = some (.ref q_38) := by rw [efs_73, List.getElem?_set_ne (by decide)]; exact hf19_h0
  have hf22_h0 : fs_73[22]? = some (.ref q_47) := by rw [efs_73, List.getElem?_set_ne (by decide)]; exact hf22_h0
  have hlen_h0 : fs_73.length = 51 := by rw [efs_73, List.length_set]; exact hlen_h0
  have hK := hK.sub (tys' := [(cA_3, .int)]) [0] rfl
  have hP := hP.sub (ws' := [(h0, .inr (6, fs_73)), (q_2, .inl (cA_3, 8, .inl (fun _ => 0))), (q_5, .inl (cA_3, 32, .inl (fun _ => 0))), (q_8, .inl (cA_3, 100, .inl (fun _ => 0))), (q_11, .inl (cA_3, 40, .inl (fun _ => 0))), (q_14, .inl (cA_3, 40, .inl (fun _ => 0))), (q_17, .inl (cA_3, 40, .inl (fun _ => 0))), (q_20, .inl (cA_3, 40, .inl (fun _ => 0))), (q_23, .inl (cA_3, 40, .inl (fun _ => 0))), (q_32, .inl (cA_3, 40, .inl (fun _ => 0))), (q_35, .inl (cA_3, 40, .inl (fun _ => 0))), (q_38, .inl (cA_3, 40, .inl (fun _ => 0))), (q_47, .inl (cA_3, 40, .inl (fun _ => 0)))]) [0, 1, 2, 3, 4, 5, 6, 7, 8, 9, 10, 11, 12] rfl
  have hD := hD.sub (ws' := [(h0, .inr (6, fs_73)), (q_2, .inl (cA_3, 8, .inl (fun _ => 0))), (q_5, .inl (cA_3, 32, .inl (fun _ => 0))), (q_8, .inl (cA_3, 100, .inl (fun _ => 0))), (q_11, .inl (cA_3, 40, .inl (fun _ => 0))), (q_14, .inl (cA_3, 40, .inl (fun _ => 0))), (q_17, .inl (cA_3, 40, .inl (fun _ => 0))), (q_20, .inl (cA_3, 40, .inl (fun _ => 0))), (q_23, .inl (cA_3, 40, .inl (fun _ => 0))), (q_32, .inl (cA_3, 40, .inl (fun _ => 0))), (q_35, .inl (cA_3, 40, .inl (fun _ => 0))), (q_38, .inl (cA_3, 40, .inl (fun _ => 0))), (q_47, .inl (cA_3, 40, .inl (fun _ => 0)))]) [0, 1, 2, 3, 4, 5, 6, 7, 8, 9, 10, 11, 12] (by decide) rfl
  refine lv_aload_n hx hb dX6_init_209 rfl (lv_at hl 0 rfl) ?_
  refine lv_sipush (v := 1000) hx hb dX6_init_210 (by decide) ?_
  refine va_newa (atype := .int) (N' := 1000) (a0 := (1000, .inl (fun _ => 0))) hx hb (hts _ wm_80) rfl hK hP hD hS hA (fun _ => rfl) (by decide) rfl (Nat.le_of_ble_eq_true rfl) (Nat.le_of_ble_eq_true rfl) (Nat.le_of_ble_eq_true rfl) dX6_init_213 (fun q_74 cA_75 H hK hP hD hS => ?_)
  have hK : va_K (dC, dI) vwCl [(cA_3, .int), (cA_75, .int)] s := hK
  have hP : va_P (dC, dI) vwCl [(h0, .inr (6, fs_73)), (q_2, .inl (cA_3, 8, .inl (fun _ => 0))), (q_5, .inl (cA_3, 32, .inl (fun _ => 0))), (q_8, .inl (cA_3, 100, .inl (fun _ => 0))), (q_11, .inl (cA_3, 40, .inl (fun _ => 0))), (q_14, .inl (cA_3, 40, .inl (fun _ => 0))), (q_17, .inl (cA_3, 40, .inl (fun _ => 0))), (q_20, .inl (cA_3, 40, .inl (fun _ => 0))), (q_23, .inl (cA_3, 40, .inl (fun _ => 0))), (q_32, .inl (cA_3, 40, .inl (fun _ => 0))), (q_35, .inl (cA_3, 40, .inl (fun _ => 0))), (q_38, .inl (cA_3, 40, .inl (fun _ => 0))), (q_47, .inl (cA_3, 40, .inl (fun _ => 0))), (q_74, .inl (cA_75, 1000, .inl (fun _ => 0)))] H := hP
  have hD : va_D A [(h0, .inr (6, fs_73)), (q_2, .inl (cA_3, 8, .inl (fun _ => 0))), (q_5, .inl (cA_3, 32, .inl (fun _ => 0))), (q_8, .inl (cA_3, 100, .inl (fun _ => 0))), (q_11, .inl (cA_3, 40, .inl (fun _ => 0))), (q_14, .inl (cA_3, 40, .inl (fun _ => 0))), (q_17, .inl (cA_3, 40, .inl (fun _ => 0))), (q_20, .inl (cA_3, 40, .inl (fun _ => 0))), (q_23, .inl (cA_3, 40, .inl (fun _ => 0))), (q_32, .inl (cA_3, 40, .inl (fun _ => 0))), (q_35, .inl (cA_3, 40, .inl (fun _ => 0))), (q_38, .inl (cA_3, 40, .inl (fun _ => 0))), (q_47, .inl (cA_3, 40, .inl (fun _ => 0))), (q_74, .inl (cA_75, 1000, .inl (fun _ => 0)))] := hD
  refine va_putF (D := (dC, dI)) (ci := 6) (v := .ref q_74) (ty := .array (.int)) (C := RX6) (T := TX6) (N := 51) hx hb hts uB6 tyX6 tyX6_ok nmX6 hown hK hP hD hS 0 rfl rfl 32 (by decide) (hts _ wm_175) (fun _ h9 => h9) rfl hin rfl (by decide +kernel) rfl rfl (by rw [hlen_h0]; decide) dX6_init_215 (fun H locs hP hD hS => ?_)
  obtain ⟨fs_76, efs_76⟩ : ∃ z9, z9 = (fs_73).set 32 (.ref q_74) := ⟨_, rfl⟩
  have hP : va_P (dC, dI) vwCl [(h0, .inr (6, fs_76)), (q_2, .inl (cA_3, 8, .inl (fun _ => 0))), (q_5, .inl (cA_3, 32, .inl (fun _ => 0))), (q_8, .inl (cA_3, 100, .inl (fun _ => 0))), (q_11, .inl (cA_3, 40, .inl (fun _ => 0))), (q_14, .inl (cA_3, 40, .inl (fun _ => 0))), (q_17, .inl (cA_3, 40, .inl (fun _ => 0))), (q_20, .inl (cA_3, 40, .inl (fun _ => 0))), (q_23, .inl (cA_3, 40, .inl (fun _ => 0))), (q_32, .inl (cA_3, 40, .inl (fun _ => 0))), (q_35, .inl (cA_3, 40, .inl (fun _ => 0))), (q_38, .inl (cA_3, 40, .inl (fun _ => 0))), (q_47, .inl (cA_3, 40, .inl (fun _ => 0))), (q_74, .inl (cA_75, 1000, .inl (fun _ => 0)))] H := by rw [efs_76]; exact hP
  have hD : va_D A [(h0, .inr (6, fs_76)), (q_2, .inl (cA_3, 8, .inl (fun _ => 0))), (q_5, .inl (cA_3, 32, .inl (fun _ => 0))), (q_8, .inl (cA_3, 100, .inl (fun _ => 0))), (q_11, .inl (cA_3, 40, .inl (fun _ => 0))), (q_14, .inl (cA_3, 40, .inl (fun _ => 0))), (q_17, .inl (cA_3, 40, .inl (fun _ => 0))), (q_20, .inl (cA_3, 40, .inl (fun _ => 0))), (q_23, .inl (cA_3, 40, .inl (fun _ => 0))), (q_32, .inl (cA_3, 40, .inl (fun _ => 0))), (q_35, .inl (cA_3, 40, .inl (fun _ => 0))), (q_38, .inl (cA_3, 40, .inl (fun _ => 0))), (q_47, .inl (cA_3, 40, .inl (fun _ => 0))), (q_74, .inl (cA_75, 1000, .inl (fun _ => 0)))] := by rw [efs_76]; exact hD
  have hf1_h0 : fs_76[1]? = some (.int 0) := by rw [efs_76, List.getElem?_set_ne (by decide)]; exact hf1_h0
  have hf2_h0 : fs_76[2]? = some (.int 0) := by rw [efs_76, List.getElem?_set_ne (by decide)]; exact hf2_h0
  have hf3_h0 : fs_76[3]? = some (.int 0) := by rw [efs_76, List.getElem?_set_ne (by decide)]; exact hf3_h0
  have hf5_h0 : fs_76[5]? = some (.int 0) := by rw [efs_76, List.getElem?_set_ne (by decide)]; exact hf5_h0
  have hf9_h0 : fs_76[9]? = some (.int 0) := by rw [efs_76, List.getElem?_set_ne (by decide)]; exact hf9_h0
  have hf25_h0 : fs_76[25]? = some (.int 0) := by rw [efs_76, List.getElem?_set_ne (by decide)]; exact hf25_h0
  have hf6_h0 : fs_76[6]? = some (.ref q_2) := by rw [efs_76, List.getElem?_set_ne (by decide)]; exact hf6_h0
  have hf7_h0 : fs_76[7]? = some (.ref q_5) := by rw [efs_76, List.getElem?_set_ne (by decide)]; exact hf7_h0
  have hf8_h0 : fs_76[8]? = some (.ref q_8) := by rw [efs_76, List.getElem?_set_ne (by decide)]; exact hf8_h0
  have hf10_h0 : fs_76[10]? = some (.ref q_11) := by rw [efs_76, List.getElem?_set_ne (by decide)]; exact hf10_h0
  have hf11_h0 : fs_76[11]? = some (.ref q_14) := by rw [efs_76, List.getElem?_set_ne (by decide)]; exact hf11_h0
  have hf12_h0 : fs_76[12]? = some (.ref q_17) := by rw [efs_76, List.getElem?_set_ne (by decide)]; exact hf12_h0
  have hf13_h0 : fs_76[13]? = some (.ref q_20) := by rw [efs_76, List.getElem?_set_ne (by decide)]; exact hf13_h0
  have hf14_h0 : fs_76[14]? = some (.ref q_23) := by rw [efs_76, List.getElem?_set_ne (by decide)]; exact hf14_h0
  have hf17_h0 : fs_76[17]? = some (.ref q_32) := by rw [efs_76, List.getElem?_set_ne (by decide)]; exact hf17_h0
  have hf18_h0 : fs_76[18]? = some (.ref q_35) := by rw [efs_76, List.getElem?_set_ne (by decide)]; exact hf18_h0
  have hf19_h0 : fs_76[19]? = some (.ref q_38) := by rw [efs_76, List.getElem?_set_ne (by decide)]; exact hf19_h0
  have hf22_h0 : fs_76[22]? = some (.ref q_47) := by rw [efs_76, List.getElem?_set_ne (by decide)]; exact hf22_h0
  have hlen_h0 : fs_76.length = 51 := by rw [efs_76, List.length_set]; exact hlen_h0
  have hK := hK.sub (tys' := [(cA_3, .int)]) [0] rfl
  have hP := hP.sub (ws' := [(h0, .inr (6, fs_76)), (q_2, .inl (cA_3, 8, .inl (fun _ => 0))), (q_5, .inl (cA_3, 32, .inl (fun _ => 0))), (q_8, .inl (cA_3, 100, .inl (fun _ => 0))), (q_11, .inl (cA_3, 40, .inl (fun _ => 0))), (q_14, .inl (cA_3, 40, .inl (fun _ => 0))), (q_17, .inl (cA_3, 40, .inl (fun _ => 0))), (q_20, .inl (cA_3, 40, .inl (fun _ => 0))), (q_23, .inl (cA_3, 40, .inl (fun _ => 0))), (q_32, .inl (cA_3, 40, .inl (fun _ => 0))), (q_35, .inl (cA_3, 40, .inl (fun _ => 0))), (q_38, .inl (cA_3, 40, .inl (fun _ => 0))), (q_47, .inl (cA_3, 40, .inl (fun _ => 0)))]) [0, 1, 2, 3, 4, 5, 6, 7, 8, 9, 10, 11, 12] rfl
  have hD := hD.sub (ws' := [(h0, .inr (6, fs_76)), (q_2, .inl (cA_3, 8, .inl (fun _ => 0))), (q_5, .inl (cA_3, 32, .inl (fun _ => 0))), (q_8, .inl (cA_3, 100, .inl (fun _ => 0))), (q_11, .inl (cA_3, 40, .inl (fun _ => 0))), (q_14, .inl (cA_3, 40, .inl (fun _ => 0))), (q_17, .inl (cA_3, 40, .inl (fun _ => 0))), (q_20, .inl (cA_3, 40, .inl (fun _ => 0))), (q_23, .inl (cA_3, 40, .inl (fun _ => 0))), (q_32, .inl (cA_3, 40, .inl (fun _ => 0))), (q_35, .inl (cA_3, 40, .inl (fun _ => 0))), (q_38, .inl (cA_3, 40, .inl (fun _ => 0))), (q_47, .inl (cA_3, 40, .inl (fun _ => 0)))]) [0, 1, 2, 3, 4, 5, 6, 7, 8, 9, 10, 11, 12] (by decide) rfl
  refine lv_aload_n hx hb dX6_init_218 rfl (lv_at hl 0 rfl) ?_
  refine lv_sipush (v := 1000) hx hb dX6_init_219 (by decide) ?_
  refine va_newa (atype := .int) (N' := 1000) (a0 := (1000, .inl (fun _ => 0))) hx hb (hts _ wm_80) rfl hK hP hD hS hA (fun _ => rfl) (by decide) rfl (Nat.le_of_ble_eq_true rfl) (Nat.le_of_ble_eq_true rfl) (Nat.le_of_ble_eq_true rfl) dX6_init_222 (fun q_77 cA_78 H hK hP hD hS => ?_)
  have hK : va_K (dC, dI) vwCl [(cA_3, .int), (cA_78, .int)] s := hK
  have hP : va_P (dC, dI) vwCl [(h0, .inr (6, fs_76)), (q_2, .inl (cA_3, 8, .inl (fun _ => 0))), (q_5, .inl (cA_3, 32, .inl (fun _ => 0))), (q_8, .inl (cA_3, 100, .inl (fun _ => 0))), (q_11, .inl (cA_3, 40, .inl (fun _ => 0))), (q_14, .inl (cA_3, 40, .inl (fun _ => 0))), (q_17, .inl (cA_3, 40, .inl (fun _ => 0))), (q_20, .inl (cA_3, 40, .inl (fun _ => 0))), (q_23, .inl (cA_3, 40, .inl (fun _ => 0))), (q_32, .inl (cA_3, 40, .inl (fun _ => 0))), (q_35, .inl (cA_3, 40, .inl (fun _ => 0))), (q_38, .inl (cA_3, 40, .inl (fun _ => 0))), (q_47, .inl (cA_3, 40, .inl (fun _ => 0))), (q_77, .inl (cA_78, 1000, .inl (fun _ => 0)))] H := hP
  have hD : va_D A [(h0, .inr (6, fs_76)), (q_2, .inl (cA_3, 8, .inl (fun _ => 0))), (q_5, .inl (cA_3, 32, .inl (fun _ => 0))), (q_8, .inl (cA_3, 100, .inl (fun _ => 0))), (q_11, .inl (cA_3, 40, .inl (fun _ => 0))), (q_14, .inl (cA_3, 40, .inl (fun _ => 0))), (q_17, .inl (cA_3, 40, .inl (fun _ => 0))), (q_20, .inl (cA_3, 40, .inl (fun _ => 0))), (q_23, .inl (cA_3, 40, .inl (fun _ => 0))), (q_32, .inl (cA_3, 40, .inl (fun _ => 0))), (q_35, .inl (cA_3, 40, .inl (fun _ => 0))), (q_38, .inl (cA_3, 40, .inl (fun _ => 0))), (q_47, .inl (cA_3, 40, .inl (fun _ => 0))), (q_77, .inl (cA_78, 1000, .inl (fun _ => 0)))] := hD
  refine va_putF (D := (dC, dI)) (ci := 6) (v := .ref q_77) (ty := .array (.int)) (C := RX6) (T := TX6) (N := 51) hx hb hts uB6 tyX6 tyX6_ok nmX6 hown hK hP hD hS 0 rfl rfl 33 (by decide) (hts _ wm_176) (fun _ h9 => h9) rfl hin rfl (by decide +kernel) rfl rfl (by rw [hlen_h0]; decide) dX6_init_224 (fun H locs hP hD hS => ?_)
  obtain ⟨fs_79, efs_79⟩ : ∃ z9, z9 = (fs_76).set 33 (.ref q_77) := ⟨_, rfl⟩
  have hP : va_P (dC, dI) vwCl [(h0, .inr (6, fs_79)), (q_2, .inl (cA_3, 8, .inl (fun _ => 0))), (q_5, .inl (cA_3, 32, .inl (fun _ => 0))), (q_8, .inl (cA_3, 100, .inl (fun _ => 0))), (q_11, .inl (cA_3, 40, .inl (fun _ => 0))), (q_14, .inl (cA_3, 40, .inl (fun _ => 0))), (q_17, .inl (cA_3, 40, .inl (fun _ => 0))), (q_20, .inl (cA_3, 40, .inl (fun _ => 0))), (q_23, .inl (cA_3, 40, .inl (fun _ => 0))), (q_32, .inl (cA_3, 40, .inl (fun _ => 0))), (q_35, .inl (cA_3, 40, .inl (fun _ => 0))), (q_38, .inl (cA_3, 40, .inl (fun _ => 0))), (q_47, .inl (cA_3, 40, .inl (fun _ => 0))), (q_77, .inl (cA_78, 1000, .inl (fun _ => 0)))] H := by rw [efs_79]; exact hP
  have hD : va_D A [(h0, .inr (6, fs_79)), (q_2, .inl (cA_3, 8, .inl (fun _ => 0))), (q_5, .inl (cA_3, 32, .inl (fun _ => 0))), (q_8, .inl (cA_3, 100, .inl (fun _ => 0))), (q_11, .inl (cA_3, 40, .inl (fun _ => 0))), (q_14, .inl (cA_3, 40, .inl (fun _ => 0))), (q_17, .inl (cA_3, 40, .inl (fun _ => 0))), (q_20, .inl (cA_3, 40, .inl (fun _ => 0))), (q_23, .inl (cA_3, 40, .inl (fun _ => 0))), (q_32, .inl (cA_3, 40, .inl (fun _ => 0))), (q_35, .inl (cA_3, 40, .inl (fun _ => 0))), (q_38, .inl (cA_3, 40, .inl (fun _ => 0))), (q_47, .inl (cA_3, 40, .inl (fun _ => 0))), (q_77, .inl (cA_78, 1000, .inl (fun _ => 0)))] := by rw [efs_79]; exact hD
  have hf1_h0 : fs_79[1]? = some (.int 0) := by rw [efs_79, List.getElem?_set_ne (by decide)]; exact hf1_h0
  have hf2_h0 : fs_79[2]? = some (.int 0) := by rw [efs_79, List.getElem?_set_ne (by decide)]; exact hf2_h0
  have hf3_h0 : fs_79[3]? = some (.int 0) := by rw [efs_79, List.getElem?_set_ne (by decide)]; exact hf3_h0
  have hf5_h0 : fs_79[5]? = some (.int 0) := by rw [efs_79, List.getElem?_set_ne (by decide)]; exact hf5_h0
  have hf9_h0 : fs_79[9]? = some (.int 0) := by rw [efs_79, List.getElem?_set_ne (by decide)]; exact hf9_h0
  have hf25_h0 : fs_79[25]? = some (.int 0) := by rw [efs_79, List.getElem?_set_ne (by decide)]; exact hf25_h0
  have hf6_h0 : fs_79[6]? = some (.ref q_2) := by rw [efs_79, List.getElem?_set_ne (by decide)]; exact hf6_h0
  have hf7_h0 : fs_79[7]? = some (.ref q_5) := by rw [efs_79, List.getElem?_set_ne (by decide)]; exact hf7_h0
  have hf8_h0 : fs_79[8]? = some (.ref q_8) := by rw [efs_79, List.getElem?_set_ne (by decide)]; exact hf8_h0
  have hf10_h0 : fs_79[10]? = some (.ref q_11) := by rw [efs_79, List.getElem?_set_ne (by decide)]; exact hf10_h0
  have hf11_h0 : fs_79[11]? = some (.ref q_14) := by rw [efs_79, List.getElem?_set_ne (by decide)]; exact hf11_h0
  have hf12_h0 : fs_79[12]? = some (.ref q_17) := by rw [efs_79, List.getElem?_set_ne (by decide)]; exact hf12_h0
  have hf13_h0 : fs_79[13]? = some (.ref q_20) := by rw [efs_79, List.getElem?_set_ne (by decide)]; exact hf13_h0
  have hf14_h0 : fs_79[14]? = some (.ref q_23) := by rw [efs_79, List.getElem?_set_ne (by decide)]; exact hf14_h0
  have hf17_h0 : fs_79[17]? = some (.ref q_32) := by rw [efs_79, List.getElem?_set_ne (by decide)]; exact hf17_h0
  have hf18_h0 : fs_79[18]? = some (.ref q_35) := by rw [efs_79, List.getElem?_set_ne (by decide)]; exact hf18_h0
  have hf19_h0 : fs_79[19]? = some (.ref q_38) := by rw [efs_79, List.getElem?_set_ne (by decide)]; exact hf19_h0
  have hf22_h0 : fs_79[22]? = some (.ref q_47) := by rw [efs_79, List.getElem?_set_ne (by decide)]; exact hf22_h0
  have hlen_h0 : fs_79.length = 51 := by rw [efs_79, List.length_set]; exact hlen_h0
  have hK := hK.sub (tys' := [(cA_3, .int)]) [0] rfl
  have hP := hP.sub (ws' := [(h0, .inr (6, fs_79)), (q_2, .inl (cA_3, 8, .inl (fun _ => 0))), (q_5, .inl (cA_3, 32, .inl (fun _ => 0))), (q_8, .inl (cA_3, 100, .inl (fun _ => 0))), (q_11, .inl (cA_3, 40, .inl (fun _ => 0))), (q_14, .inl (cA_3, 40, .inl (fun _ => 0))), (q_17, .inl (cA_3, 40, .inl (fun _ => 0))), (q_20, .inl (cA_3, 40, .inl (fun _ => 0))), (q_23, .inl (cA_3, 40, .inl (fun _ => 0))), (q_32, .inl (cA_3, 40, .inl (fun _ => 0))), (q_35, .inl (cA_3, 40, .inl (fun _ => 0))), (q_38, .inl (cA_3, 40, .inl (fun _ => 0))), (q_47, .inl (cA_3, 40, .inl (fun _ => 0)))]) [0, 1, 2, 3, 4, 5, 6, 7, 8, 9, 10, 11, 12] rfl
  have hD := hD.sub (ws' := [(h0, .inr (6, fs_79)), (q_2, .inl (cA_3, 8, .inl (fun _ => 0))), (q_5, .inl (cA_3, 32, .inl (fun _ => 0))), (q_8, .inl (cA_3, 100, .inl (fun _ => 0))), (q_11, .inl (cA_3, 40, .inl (fun _ => 0))), (q_14, .inl (cA_3, 40, .inl (fun _ => 0))), (q_17, .inl (cA_3, 40, .inl (fun _ => 0))), (q_20, .inl (cA_3, 40, .inl (fun _ => 0))), (q_23, .inl (cA_3, 40, .inl (fun _ => 0))), (q_32, .inl (cA_3, 40, .inl (fun _ => 0))), (q_35, .inl (cA_3, 40, .inl (fun _ => 0))), (q_38, .inl (cA_3, 40, .inl (fun _ => 0))), (q_47, .inl (cA_3, 40, .inl (fun _ => 0)))]) [0, 1, 2, 3, 4, 5, 6, 7, 8, 9, 10, 11, 12] (by decide) rfl
  refine lv_aload_n hx hb dX6_init_227 rfl (lv_at hl 0 rfl) ?_
  refine lv_sipush (v := 1000) hx hb dX6_init_228 (by decide) ?_
  refine va_newa (atype := .int) (N' := 1000) (a0 := (1000, .inl (fun _ => 0))) hx hb (hts _ wm_80) rfl hK hP hD hS hA (fun _ => rfl) (by decide) rfl (Nat.le_of_ble_eq_true rfl) (Nat.le_of_ble_eq_true rfl) (Nat.le_of_ble_eq_true rfl) dX6_init_231 (fun q_80 cA_81 H hK hP hD hS => ?_)
  have hK : va_K (dC, dI) vwCl [(cA_3, .int), (cA_81, .int)] s := hK
  have hP : va_P (dC, dI) vwCl [(h0, .inr (6, fs_79)), (q_2, .inl (cA_3, 8, .inl (fun _ => 0))), (q_5, .inl (cA_3, 32, .inl (fun _ => 0))), (q_8, .inl (cA_3, 100, .inl (fun _ => 0))), (q_11, .inl (cA_3, 40, .inl (fun _ => 0))), (q_14, .inl (cA_3, 40, .inl (fun _ => 0))), (q_17, .inl (cA_3, 40, .inl (fun _ => 0))), (q_20, .inl (cA_3, 40, .inl (fun _ => 0))), (q_23, .inl (cA_3, 40, .inl (fun _ => 0))), (q_32, .inl (cA_3, 40, .inl (fun _ => 0))), (q_35, .inl (cA_3, 40, .inl (fun _ => 0))), (q_38, .inl (cA_3, 40, .inl (fun _ => 0))), (q_47, .inl (cA_3, 40, .inl (fun _ => 0))), (q_80, .inl (cA_81, 1000, .inl (fun _ => 0)))] H := hP
  have hD : va_D A [(h0, .inr (6, fs_79)), (q_2, .inl (cA_3, 8, .inl (fun _ => 0))), (q_5, .inl (cA_3, 32, .inl (fun _ => 0))), (q_8, .inl (cA_3, 100, .inl (fun _ => 0))), (q_11, .inl (cA_3, 40, .inl (fun _ => 0))), (q_14, .inl (cA_3, 40, .inl (fun _ => 0))), (q_17, .inl (cA_3, 40, .inl (fun _ => 0))), (q_20, .inl (cA_3, 40, .inl (fun _ => 0))), (q_23, .inl (cA_3, 40, .inl (fun _ => 0))), (q_32, .inl (cA_3, 40, .inl (fun _ => 0))), (q_35, .inl (cA_3, 40, .inl (fun _ => 0))), (q_38, .inl (cA_3, 40, .inl (fun _ => 0))), (q_47, .inl (cA_3, 40, .inl (fun _ => 0))), (q_80, .inl (cA_81, 1000, .inl (fun _ => 0)))] := hD
  refine va_putF (D := (dC, dI)) (ci := 6) (v := .ref q_80) (ty := .array (.int)) (C := RX6) (T := TX6) (N := 51) hx hb hts uB6 tyX6 tyX6_ok nmX6 hown hK hP hD hS 0 rfl rfl 34 (by decide) (hts _ wm_177) (fun _ h9 => h9) rfl hin rfl (by decide +kernel) rfl rfl (by rw [hlen_h0]; decide) dX6_init_233 (fun H locs hP hD hS => ?_)
  obtain ⟨fs_82, efs_82⟩ : ∃ z9, z9 = (fs_79).set 34 (.ref q_80) := ⟨_, rfl⟩
  have hP : va_P (dC, dI) vwCl [(h0, .inr (6, fs_82)), (q_2, .inl (cA_3, 8, .inl (fun _ => 0))), (q_5, .inl (cA_3, 32, .inl (fun _ => 0))), (q_8, .inl (cA_3, 100, .inl (fun _ => 0))), (q_11, .inl (cA_3, 40, .inl (fun _ => 0))), (q_14, .inl (cA_3, 40, .inl (fun _ => 0))), (q_17, .inl (cA_3, 40, .inl (fun _ => 0))), (q_20, .inl (cA_3, 40, .inl (fun _ => 0))), (q_23, .inl (cA_3, 40, .inl (fun _ => 0))), (q_32, .inl (cA_3, 40, .inl (fun _ => 0))), (q_35, .inl (cA_3, 40, .inl (fun _ => 0))), (q_38, .inl (cA_3, 40, .inl (fun _ => 0))), (q_47, .inl (cA_3, 40, .inl (fun _ => 0))), (q_80, .inl (cA_81, 1000, .inl (fun _ => 0)))] H := by rw [efs_82]; exact hP
  have hD : va_D A [(h0, .inr (6, fs_82)), (q_2, .inl (cA_3, 8, .inl (fun _ => 0))), (q_5, .inl (cA_3, 32, .inl (fun _ => 0))), (q_8, .inl (cA_3, 100, .inl (fun _ => 0))), (q_11, .inl (cA_3, 40, .inl (fun _ => 0))), (q_14, .inl (cA_3, 40, .inl (fun _ => 0))), (q_17, .inl (cA_3, 40, .inl (fun _ => 0))), (q_20, .inl (cA_3, 40, .inl (fun _ => 0))), (q_23, .inl (cA_3, 40, .inl (fun _ => 0))), (q_32, .inl (cA_3, 40, .inl (fun _ => 0))), (q_35, .inl (cA_3, 40, .inl (fun _ => 0))), (q_38, .inl (cA_3, 40, .inl (fun _ => 0))), (q_47, .inl (cA_3, 40, .inl (fun _ => 0))), (q_80, .inl (cA_81, 1000, .inl (fun _ => 0)))] := by rw [efs_82]; exact hD
  have hf1_h0 : fs_82[1]? = some (.int 0) := by rw [efs_82, List.getElem?_set_ne (by decide)]; exact hf1_h0
  have hf2_h0 : fs_82[2]? = some (.int 0) := by rw [efs_82, List.getElem?_set_ne (by decide)]; exact hf2_h0
  have hf3_h0 : fs_82[3]? = some (.int 0) := by rw [efs_82, List.getElem?_set_ne (by decide)]; exact hf3_h0
  have hf5_h0 : fs_82[5]? = some (.int 0) := by rw [efs_82, List.getElem?_set_ne (by decide)]; exact hf5_h0
  have hf9_h0 : fs_82[9]? = some (.int 0) := by rw [efs_82, List.getElem?_set_ne (by decide)]; exact hf9_h0
  have hf25_h0 : fs_82[25]? = some (.int 0) := by rw [efs_82, List.getElem?_set_ne (by decide)]; exact hf25_h0
  have hf6_h0 : fs_82[6]? = some (.ref q_2) := by rw [efs_82, List.getElem?_set_ne (by decide)]; exact hf6_h0
  have hf7_h0 : fs_82[7]? = some (.ref q_5) := by rw [efs_82, List.getElem?_set_ne (by decide)]; exact hf7_h0
  have hf8_h0 : fs_82[8]? = some (.ref q_8) := by rw [efs_82, List.getElem?_set_ne (by decide)]; exact hf8_h0
  have hf10_h0 : fs_82[10]? = some (.ref q_11) := by rw [efs_82, List.getElem?_set_ne (by decide)]; exact hf10_h0
  have hf11_h0 : fs_82[11]? = some (.ref q_14) := by rw [efs_82, List.getElem?_set_ne (by decide)]; exact hf11_h0
  have hf12_h0 : fs_82[12]? = some (.ref q_17) := by rw [efs_82, List.getElem?_set_ne (by decide)]; exact hf12_h0
  have hf13_h0 : fs_82[13]? = some (.ref q_20) := by rw [efs_82, List.getElem?_set_ne (by decide)]; exact hf13_h0
  have hf14_h0 : fs_82[14]? = some (.ref q_23) := by rw [efs_82, List.getElem?_set_ne (by decide)]; exact hf14_h0
  have hf17_h0 : fs_82[17]? = some (.ref q_32) := by rw [efs_82, List.getElem?_set_ne (by decide)]; exact hf17_h0
  have hf18_h0 : fs_82[18]? = some (.ref q_35) := by rw [efs_82, List.getElem?_set_ne (by decide)]; exact hf18_h0
  have hf19_h0 : fs_82[19]? = some (.ref q_38) := by rw [efs_82, List.getElem?_set_ne (by decide)]; exact hf19_h0
  have hf22_h0 : fs_82[22]? = some (.ref q_47) := by rw [efs_82, List.getElem?_set_ne (by decide)]; exact hf22_h0
  have hlen_h0 : fs_82.length = 51 := by rw [efs_82, List.length_set]; exact hlen_h0
  have hK := hK.sub (tys' := [(cA_3, .int)]) [0] rfl
  have hP := hP.sub (ws' := [(h0, .inr (6, fs_82)), (q_2, .inl (cA_3, 8, .inl (fun _ => 0))), (q_5, .inl (cA_3, 32, .inl (fun _ => 0))), (q_8, .inl (cA_3, 100, .inl (fun _ => 0))), (q_11, .inl (cA_3, 40, .inl (fun _ => 0))), (q_14, .inl (cA_3, 40, .inl (fun _ => 0))), (q_17, .inl (cA_3, 40, .inl (fun _ => 0))), (q_20, .inl (cA_3, 40, .inl (fun _ => 0))), (q_23, .inl (cA_3, 40, .inl (fun _ => 0))), (q_32, .inl (cA_3, 40, .inl (fun _ => 0))), (q_35, .inl (cA_3, 40, .inl (fun _ => 0))), (q_38, .inl (cA_3, 40, .inl (fun _ => 0))), (q_47, .inl (cA_3, 40, .inl (fun _ => 0)))]) [0, 1, 2, 3, 4, 5, 6, 7, 8, 9, 10, 11, 12] rfl
  have hD := hD.sub (ws' := [(h0, .inr (6, fs_82)), (q_2, .inl (cA_3, 8, .inl (fun _ => 0))), (q_5, .inl (cA_3, 32, .inl (fun _ => 0))), (q_8, .inl (cA_3, 100, .inl (fun _ => 0))), (q_11, .inl (cA_3, 40, .inl (fun _ => 0))), (q_14, .inl (cA_3, 40, .inl (fun _ => 0))), (q_17, .inl (cA_3, 40, .inl (fun _ => 0))), (q_20, .inl (cA_3, 40, .inl (fun _ => 0))), (q_23, .inl (cA_3, 40, .inl (fun _ => 0))), (q_32, .inl (cA_3, 40, .inl (fun _ => 0))), (q_35, .inl (cA_3, 40, .inl (fun _ => 0))), (q_38, .inl (cA_3, 40, .inl (fun _ => 0))), (q_47, .inl (cA_3, 40, .inl (fun _ => 0)))]) [0, 1, 2, 3, 4, 5, 6, 7, 8, 9, 10, 11, 12] (by decide) rfl
  refine lv_aload_n hx hb dX6_init_236 rfl (lv_at hl 0 rfl) ?_
  refine lv_bipush (v := 40) hx hb dX6_init_237 (by decide) ?_
  refine va_newa (atype := .int) (N' := 40) (a0 := (40, .inl (fun _ => 0))) hx hb (hts _ wm_80) rfl hK hP hD hS hA (fun _ => rfl) (by decide) rfl (Nat.le_of_ble_eq_true rfl) (Nat.le_of_ble_eq_true rfl) (Nat.le_of_ble_eq_true rfl) dX6_init_239 (fun q_83 cA_84 H hK hP hD hS => ?_)
  have hK : va_K (dC, dI) vwCl [(cA_3, .int), (cA_84, .int)] s := hK
  have hP : va_P (dC, dI) vwCl [(h0, .inr (6, fs_82)), (q_2, .inl (cA_3, 8, .inl (fun _ => 0))), (q_5, .inl (cA_3, 32, .inl (fun _ => 0))), (q_8, .inl (cA_3, 100, .inl (fun _ => 0))), (q_11, .inl (cA_3, 40, .inl (fun _ => 0))), (q_14, .inl (cA_3, 40, .inl (fun _ => 0))), (q_17, .inl (cA_3, 40, .inl (fun _ => 0))), (q_20, .inl (cA_3, 40, .inl (fun _ => 0))), (q_23, .inl (cA_3, 40, .inl (fun _ => 0))), (q_32, .inl (cA_3, 40, .inl (fun _ => 0))), (q_35, .inl (cA_3, 40, .inl (fun _ => 0))), (q_38, .inl (cA_3, 40, .inl (fun _ => 0))), (q_47, .inl (cA_3, 40, .inl (fun _ => 0))), (q_83, .inl (cA_84, 40, .inl (fun _ => 0)))] H := hP
  have hD : va_D A [(h0, .inr (6, fs_82)), (q_2, .inl (cA_3, 8, .inl (fun _ => 0))), (q_5, .inl (cA_3, 32, .inl (fun _ => 0))), (q_8, .inl (cA_3, 100, .inl (fun _ => 0))), (q_11, .inl (cA_3, 40, .inl (fun _ => 0))), (q_14, .inl (cA_3, 40, .inl (fun _ => 0))), (q_17, .inl (cA_3, 40, .inl (fun _ => 0))), (q_20, .inl (cA_3, 40, .inl (fun _ => 0))), (q_23, .inl (cA_3, 40, .inl (fun _ => 0))), (q_32, .inl (cA_3, 40, .inl (fun _ => 0))), (q_35, .inl (cA_3, 40, .inl (fun _ => 0))), (q_38, .inl (cA_3, 40, .inl (fun _ => 0))), (q_47, .inl (cA_3, 40, .inl (fun _ => 0))), (q_83, .inl (cA_84, 40, .inl (fun _ => 0)))] := hD
  refine va_putF (D := (dC, dI)) (ci := 6) (v := .ref q_83) (ty := .array (.int)) (C := RX6) (T := TX6) (N := 51) hx hb hts uB6 tyX6 tyX6_ok nmX6 hown hK hP hD hS 0 rfl rfl 36 (by decide) (hts _ wm_178) (fun _ h9 => h9) rfl hin rfl (by decide +kernel) rfl rfl (by rw [hlen_h0]; decide) dX6_init_241 (fun H locs hP hD hS => ?_)
  obtain ⟨fs_85, efs_85⟩ : ∃ z9, z9 = (fs_82).set 36 (.ref q_83) := ⟨_, rfl⟩
  have hP : va_P (dC, dI) vwCl [(h0, .inr (6, fs_85)), (q_2, .inl (cA_3, 8, .inl (fun _ => 0))), (q_5, .inl (cA_3, 32, .inl (fun _ => 0))), (q_8, .inl (cA_3, 100, .inl (fun _ => 0))), (q_11, .inl (cA_3, 40, .inl (fun _ => 0))), (q_14, .inl (cA_3, 40, .inl (fun _ => 0))), (q_17, .inl (cA_3, 40, .inl (fun _ => 0))), (q_20, .inl (cA_3, 40, .inl (fun _ => 0))), (q_23, .inl (cA_3, 40, .inl (fun _ => 0))), (q_32, .inl (cA_3, 40, .inl (fun _ => 0))), (q_35, .inl (cA_3, 40, .inl (fun _ => 0))), (q_38, .inl (cA_3, 40, .inl (fun _ => 0))), (q_47, .inl (cA_3, 40, .inl (fun _ => 0))), (q_83, .inl (cA_84, 40, .inl (fun _ => 0)))] H := by rw [efs_85]; exact hP
  have hD : va_D A [(h0, .inr (6, fs_85)), (q_2, .inl (cA_3, 8, .inl (fun _ => 0))), (q_5, .inl (cA_3, 32, .inl (fun _ => 0))), (q_8, .inl (cA_3, 100, .inl (fun _ => 0))), (q_11, .inl (cA_3, 40, .inl (fun _ => 0))), (q_14, .inl (cA_3, 40, .inl (fun _ => 0))), (q_17, .inl (cA_3, 40, .inl (fun _ => 0))), (q_20, .inl (cA_3, 40, .inl (fun _ => 0))), (q_23, .inl (cA_3, 40, .inl (fun _ => 0))), (q_32, .inl (cA_3, 40, .inl (fun _ => 0))), (q_35, .inl (cA_3, 40, .inl (fun _ => 0))), (q_38, .inl (cA_3, 40, .inl (fun _ => 0))), (q_47, .inl (cA_3, 40, .inl (fun _ => 0))), (q_83, .inl (cA_84, 40, .inl (fun _ => 0)))] := by rw [efs_85]; exact hD
  have hf1_h0 : fs_85[1]? = some (.int 0) := by rw [efs_85, List.getElem?_set_ne (by decide)]; exact hf1_h0
  have hf2_h0 : fs_85[2]? = some (.int 0) := by rw [efs_85, List.getElem?_set_ne (by decide)]; exact hf2_h0
  have hf3_h0 : fs_85[3]? = some (.int 0) := by rw [efs_85, List.getElem?_set_ne (by decide)]; exact hf3_h0
  have hf5_h0 : fs_85[5]? = some (.int 0) := by rw [efs_85, List.getElem?_set_ne (by decide)]; exact hf5_h0
  have hf9_h0 : fs_85[9]? = some (.int 0) := by rw [efs_85, List.getElem?_set_ne (by decide)]; exact hf9_h0
  have hf25_h0 : fs_85[25]? = some (.int 0) := by rw [efs_85, List.getElem?_set_ne (by decide)]; exact hf25_h0
  have hf6_h0 : fs_85[6]? = some (.ref q_2) := by rw [efs_85, List.getElem?_set_ne (by decide)]; exact hf6_h0
  have hf7_h0 : fs_85[7]? = some (.ref q_5) := by rw [efs_85, List.getElem?_set_ne (by decide)]; exact hf7_h0
  have hf8_h0 : fs_85[8]? = some (.ref q_8) := by rw [efs_85, List.getElem?_set_ne (by decide)]; exact hf8_h0
  have hf10_h0 : fs_85[10]? = some (.ref q_11) := by rw [efs_85, List.getElem?_set_ne (by decide)]; exact hf10_h0
  have hf11_h0 : fs_85[11]? = some (.ref q_14) := by rw [efs_85, List.getElem?_set_ne (by decide)]; exact hf11_h0
  have hf12_h0 : fs_85[12]? = some (.ref q_17) := by rw [efs_85, List.getElem?_set_ne (by decide)]; exact hf12_h0
  have hf13_h0 : fs_85[13]? = some (.ref q_20) := by rw [efs_85, List.getElem?_set_ne (by decide)]; exact hf13_h0
  have hf14_h0 : fs_85[14]? = some (.ref q_23) := by rw [efs_85, List.getElem?_set_ne (by decide)]; exact hf14_h0
  have hf17_h0 : fs_85[17]? = some (.ref q_32) := by rw [efs_85, List.getElem?_set_ne (by decide)]; exact hf17_h0
  have hf18_h0 : fs_85[18]? = some (.ref q_35) := by rw [efs_85, List.getElem?_set_ne (by decide)]; exact hf18_h0
  have hf19_h0 : fs_85[19]? = some (.ref q_38) := by rw [efs_85, List.getElem?_set_ne (by decide)]; exact hf19_h0
  have hf22_h0 : fs_85[22]? = some (.ref q_47) := by rw [efs_85, List.getElem?_set_ne (by decide)]; exact hf22_h0
  have hlen_h0 : fs_85.length = 51 := by rw [efs_85, List.length_set]; exact hlen_h0
  have hK := hK.sub (tys' := [(cA_3, .int)]) [0] rfl
  have hP := hP.sub (ws' := [(h0, .inr (6, fs_85)), (q_2, .inl (cA_3, 8, .inl (fun _ => 0))), (q_5, .inl (cA_3, 32, .inl (fun _ => 0))), (q_8, .inl (cA_3, 100, .inl (fun _ => 0))), (q_11, .inl (cA_3, 40, .inl (fun _ => 0))), (q_14, .inl (cA_3, 40, .inl (fun _ => 0))), (q_17, .inl (cA_3, 40, .inl (fun _ => 0))), (q_20, .inl (cA_3, 40, .inl (fun _ => 0))), (q_23, .inl (cA_3, 40, .inl (fun _ => 0))), (q_32, .inl (cA_3, 40, .inl (fun _ => 0))), (q_35, .inl (cA_3, 40, .inl (fun _ => 0))), (q_38, .inl (cA_3, 40, .inl (fun _ => 0))), (q_47, .inl (cA_3, 40, .inl (fun _ => 0)))]) [0, 1, 2, 3, 4, 5, 6, 7, 8, 9, 10, 11, 12] rfl
  have hD := hD.sub (ws' := [(h0, .inr (6, fs_85)), (q_2, .inl (cA_3, 8, .inl (fun _ => 0))), (q_5, .inl (cA_3, 32, .inl (fun _ => 0))), (q_8, .inl (cA_3, 100, .inl (fun _ => 0))), (q_11, .inl (cA_3, 40, .inl (fun _ => 0))), (q_14, .inl (cA_3, 40, .inl (fun _ => 0))), (q_17, .inl (cA_3, 40, .inl (fun _ => 0))), (q_20, .inl (cA_3, 40, .inl (fun _ => 0))), (q_23, .inl (cA_3, 40, .inl (fun _ => 0))), (q_32, .inl (cA_3, 40, .inl (fun _ => 0))), (q_35, .inl (cA_3, 40, .inl (fun _ => 0))), (q_38, .inl (cA_3, 40, .inl (fun _ => 0))), (q_47, .inl (cA_3, 40, .inl (fun _ => 0)))]) [0, 1, 2, 3, 4, 5, 6, 7, 8, 9, 10, 11, 12] (by decide) rfl
  refine lv_aload_n hx hb dX6_init_244 rfl (lv_at hl 0 rfl) ?_
  refine lv_sipush (v := 160) hx hb dX6_init_245 (by decide) ?_
  refine va_newa (atype := .long) (N' := 160) (a0 := (160, .inr (.inl (fun _ => 0)))) hx hb (hts _ wm_145) rfl hK hP hD hS hA (fun _ => rfl) (by decide) rfl (Nat.le_of_ble_eq_true rfl) (Nat.le_of_ble_eq_true rfl) (Nat.le_of_ble_eq_true rfl) dX6_init_248 (fun q_86 cA_87 H hK hP hD hS => ?_)
  have hK : va_K (dC, dI) vwCl [(cA_3, .int), (cA_87, .long)] s := hK
  have hP : va_P (dC, dI) vwCl [(h0, .inr (6, fs_85)), (q_2, .inl (cA_3, 8, .inl (fun _ => 0))), (q_5, .inl (cA_3, 32, .inl (fun _ => 0))), (q_8, .inl (cA_3, 100, .inl (fun _ => 0))), (q_11, .inl (cA_3, 40, .inl (fun _ => 0))), (q_14, .inl (cA_3, 40, .inl (fun _ => 0))), (q_17, .inl (cA_3, 40, .inl (fun _ => 0))), (q_20, .inl (cA_3, 40, .inl (fun _ => 0))), (q_23, .inl (cA_3, 40, .inl (fun _ => 0))), (q_32, .inl (cA_3, 40, .inl (fun _ => 0))), (q_35, .inl (cA_3, 40, .inl (fun _ => 0))), (q_38, .inl (cA_3, 40, .inl (fun _ => 0))), (q_47, .inl (cA_3, 40, .inl (fun _ => 0))), (q_86, .inl (cA_87, 160, .inr (.inl (fun _ => 0))))] H := hP
  have hD : va_D A [(h0, .inr (6, fs_85)), (q_2, .inl (cA_3, 8, .inl (fun _ => 0))), (q_5, .inl (cA_3, 32, .inl (fun _ => 0))), (q_8, .inl (cA_3, 100, .inl (fun _ => 0))), (q_11, .inl (cA_3, 40, .inl (fun _ => 0))), (q_14, .inl (cA_3, 40, .inl (fun _ => 0))), (q_17, .inl (cA_3, 40, .inl (fun _ => 0))), (q_20, .inl (cA_3, 40, .inl (fun _ => 0))), (q_23, .inl (cA_3, 40, .inl (fun _ => 0))), (q_32, .inl (cA_3, 40, .inl (fun _ => 0))), (q_35, .inl (cA_3, 40, .inl (fun _ => 0))), (q_38, .inl (cA_3, 40, .inl (fun _ => 0))), (q_47, .inl (cA_3, 40, .inl (fun _ => 0))), (q_86, .inl (cA_87, 160, .inr (.inl (fun _ => 0))))] := hD
  refine va_putF (D := (dC, dI)) (ci := 6) (v := .ref q_86) (ty := .array (.long)) (C := RX6) (T := TX6) (N := 51) hx hb hts uB6 tyX6 tyX6_ok nmX6 hown hK hP hD hS 0 rfl rfl 37 (by decide) (hts _ wm_179) (fun _ h9 => h9) rfl hin rfl (by decide +kernel) rfl rfl (by rw [hlen_h0]; decide) dX6_init_250 (fun H locs hP hD hS => ?_)
  obtain ⟨fs_88, efs_88⟩ : ∃ z9, z9 = (fs_85).set 37 (.ref q_86) := ⟨_, rfl⟩
  have hP : va_P (dC, dI) vwCl [(h0, .inr (6, fs_88)), (q_2, .inl (cA_3, 8, .inl (fun _ => 0))), (q_5, .inl (cA_3, 32, .inl (fun _ => 0))), (q_8, .inl (cA_3, 100, .inl (fun _ => 0))), (q_11, .inl (cA_3, 40, .inl (fun _ => 0))), (q_14, .inl (cA_3, 40, .inl (fun _ => 0))), (q_17, .inl (cA_3, 40, .inl (fun _ => 0))), (q_20, .inl (cA_3, 40, .inl (fun _ => 0))), (q_23, .inl (cA_3, 40, .inl (fun _ => 0))), (q_32, .inl (cA_3, 40, .inl (fun _ => 0))), (q_35, .inl (cA_3, 40, .inl (fun _ => 0))), (q_38, .inl (cA_3, 40, .inl (fun _ => 0))), (q_47, .inl (cA_3, 40, .inl (fun _ => 0))), (q_86, .inl (cA_87, 160, .inr (.inl (fun _ => 0))))] H := by rw [efs_88]; exact hP
  have hD : va_D A [(h0, .inr (6, fs_88)), (q_2, .inl (cA_3, 8, .inl (fun _ => 0))), (q_5, .inl (cA_3, 32, .inl (fun _ => 0))), (q_8, .inl (cA_3, 100, .inl (fun _ => 0))), (q_11, .inl (cA_3, 40, .inl (fun _ => 0))), (q_14, .inl (cA_3, 40, .inl (fun _ => 0))), (q_17, .inl (cA_3, 40, .inl (fun _ => 0))), (q_20, .inl (cA_3, 40, .inl (fun _ => 0))), (q_23, .inl (cA_3, 40, .inl (fun _ => 0))), (q_32, .inl (cA_3, 40, .inl (fun _ => 0))), (q_35, .inl (cA_3, 40, .inl (fun _ => 0))), (q_38, .inl (cA_3, 40, .inl (fun _ => 0))), (q_47, .inl (cA_3, 40, .inl (fun _ => 0))), (q_86, .inl (cA_87, 160, .inr (.inl (fun _ => 0))))] := by rw [efs_88]; exact hD
  have hf1_h0 : fs_88[1]? = some (.int 0) := by rw [efs_88, List.getElem?_set_ne (by decide)]; exact hf1_h0
  have hf2_h0 : fs_88[2]? = some (.int 0) := by rw [efs_88, List.getElem?_set_ne (by decide)]; exact hf2_h0
  have hf3_h0 : fs_88[3]? = some (.int 0) := by rw [efs_88, List.getElem?_set_ne (by decide)]; exact hf3_h0
  have hf5_h0 : fs_88[5]? = some (.int 0) := by rw [efs_88, List.getElem?_set_ne (by decide)]; exact hf5_h0
  have hf9_h0 : fs_88[9]? = some (.int 0) := by rw [efs_88, List.getElem?_set_ne (by decide)]; exact hf9_h0
  have hf25_h0 : fs_88[25]? = some (.int 0) := by rw [efs_88, List.getElem?_set_ne (by decide)]; exact hf25_h0
  have hf6_h0 : fs_88[6]? = some (.ref q_2) := by rw [efs_88, List.getElem?_set_ne (by decide)]; exact hf6_h0
  have hf7_h0 : fs_88[7]? = some (.ref q_5) := by rw [efs_88, List.getElem?_set_ne (by decide)]; exact hf7_h0
  have hf8_h0 : fs_88[8]? = some (.ref q_8) := by rw [efs_88, List.getElem?_set_ne (by decide)]; exact hf8_h0
  have hf10_h0 : fs_88[10]? = some (.ref q_11) := by rw [efs_88, List.getElem?_set_ne (by decide)]; exact hf10_h0
  have hf11_h0 : fs_88[11]? = some (.ref q_14) := by rw [efs_88, List.getElem?_set_ne (by decide)]; exact hf11_h0
  have hf12_h0 : fs_88[12]? = some (.ref q_17) := by rw [efs_88, List.getElem?_set_ne (by decide)]; exact hf12_h0
  have hf13_h0 : fs_88[13]? = some (.ref q_20) := by rw [efs_88, List.getElem?_set_ne (by decide)]; exact hf13_h0
  have hf14_h0 : fs_88[14]? = some (.ref q_23) := by rw [efs_88, List.getElem?_set_ne (by decide)]; exact hf14_h0
  have hf17_h0 : fs_88[17]? = some (.ref q_32) := by rw [efs_88, List.getElem?_set_ne (by decide)]; exact hf17_h0
  have hf18_h0 : fs_88[18]? = some (.ref q_35) := by rw [efs_88, List.getElem?_set_ne (by decide)]; exact hf18_h0
  have hf19_h0 : fs_88[19]? = some (.ref q_38) := by rw [efs_88, List.getElem?_set_ne (by decide)]; exact hf19_h0
  have hf22_h0 : fs_88[22]? = some (.ref q_47) := by rw [efs_88, List.getElem?_set_ne (by decide)]; exact hf22_h0
  have hlen_h0 : fs_88.length = 51 := by rw [efs_88, List.length_set]; exact hlen_h0
  have hK := hK.sub (tys' := [(cA_3, .int)]) [0] rfl
  have hP := hP.sub (ws' := [(h0, .inr (6, fs_88)), (q_2, .inl (cA_3, 8, .inl (fun _ => 0))), (q_5, .inl (cA_3, 32, .inl (fun _ => 0))), (q_8, .inl (cA_3, 100, .inl (fun _ => 0))), (q_11, .inl (cA_3, 40, .inl (fun _ => 0))), (q_14, .inl (cA_3, 40, .inl (fun _ => 0))), (q_17, .inl (cA_3, 40, .inl (fun _ => 0))), (q_20, .inl (cA_3, 40, .inl (fun _ => 0))), (q_23, .inl (cA_3, 40, .inl (fun _ => 0))), (q_32, .inl (cA_3, 40, .inl (fun _ => 0))), (q_35, .inl (cA_3, 40, .inl (fun _ => 0))), (q_38, .inl (cA_3, 40, .inl (fun _ => 0))), (q_47, .inl (cA_3, 40, .inl (fun _ => 0)))]) [0, 1, 2, 3, 4, 5, 6, 7, 8, 9, 10, 11, 12] rfl
  have hD := hD.sub (ws' := [(h0, .inr (6, fs_88)), (q_2, .inl (cA_3, 8, .inl (fun _ => 0))), (q_5, .inl (cA_3, 32, .inl (fun _ => 0))), (q_8, .inl (cA_3, 100, .inl (fun _ => 0))), (q_11, .inl (cA_3, 40, .inl (fun _ => 0))), (q_14, .inl (cA_3, 40, .inl (fun _ => 0))), (q_17, .inl (cA_3, 40, .inl (fun _ => 0))), (q_20, .inl (cA_3, 40, .inl (fun _ => 0))), (q_23, .inl (cA_3, 40, .inl (fun _ => 0))), (q_32, .inl (cA_3, 40, .inl (fun _ => 0))), (q_35, .inl (cA_3, 40, .inl (fun _ => 0))), (q_38, .inl (cA_3, 40, .inl (fun _ => 0))), (q_47, .inl (cA_3, 40, .inl (fun _ => 0)))]) [0, 1, 2, 3, 4, 5, 6, 7, 8, 9, 10, 11, 12] (by decide) rfl
  refine lv_aload_n hx hb dX6_init_253 rfl (lv_at hl 0 rfl) ?_
  refine lv_iconst (v := 5) hx hb dX6_init_254 (by decide) ?_
  refine va_newa (atype := .long) (N' := 5) (a0 := (5, .inr (.inl (fun _ => 0)))) hx hb (hts _ wm_145) rfl hK hP hD hS hA (fun _ => rfl) (by decide) rfl (Nat.le_of_ble_eq_true rfl) (Nat.le_of_ble_eq_true rfl) (Nat.le_of_ble_eq_true rfl) dX6_init_255 (fun q_89 cA_90 H hK hP hD hS => ?_)
  have hK : va_K (dC, dI) vwCl [(cA_3, .int), (cA_90, .long)] s := hK
  have hP : va_P (dC, dI) vwCl [(h0, .inr (6, fs_88)), (q_2, .inl (cA_3, 8, .inl (fun _ => 0))), (q_5, .inl (cA_3, 32, .inl (fun _ => 0))), (q_8, .inl (cA_3, 100, .inl (fun _ => 0))), (q_11, .inl (cA_3, 40, .inl (fun _ => 0))), (q_14, .inl (cA_3, 40, .inl (fun _ => 0))), (q_17, .inl (cA_3, 40, .inl (fun _ => 0))), (q_20, .inl (cA_3, 40, .inl (fun _ => 0))), (q_23, .inl (cA_3, 40, .inl (fun _ => 0))), (q_32, .inl (cA_3, 40, .inl (fun _ => 0))), (q_35, .inl (cA_3, 40, .inl (fun _ => 0))), (q_38, .inl (cA_3, 40, .inl (fun _ => 0))), (q_47, .inl (cA_3, 40, .inl (fun _ => 0))), (q_89, .inl (cA_90, 5, .inr (.inl (fun _ => 0))))] H := hP
  have hD : va_D A [(h0, .inr (6, fs_88)), (q_2, .inl (cA_3, 8, .inl (fun _ => 0))), (q_5, .inl (cA_3, 32, .inl (fun _ => 0))), (q_8, .inl (cA_3, 100, .inl (fun _ => 0))), (q_11, .inl (cA_3, 40, .inl (fun _ => 0))), (q_14, .inl (cA_3, 40, .inl (fun _ => 0))), (q_17, .inl (cA_3, 40, .inl (fun _ => 0))), (q_20, .inl (cA_3, 40, .inl (fun _ => 0))), (q_23, .inl (cA_3, 40, .inl (fun _ => 0))), (q_32, .inl (cA_3, 40, .inl (fun _ => 0))), (q_35, .inl (cA_3, 40, .inl (fun _ => 0))), (q_38, .inl (cA_3, 40, .inl (fun _ => 0))), (q_47, .inl (cA_3, 40, .inl (fun _ => 0))), (q_89, .inl (cA_90, 5, .inr (.inl (fun _ => 0))))] := hD
  refine va_putF (D := (dC, dI)) (ci := 6) (v := .ref q_89) (ty := .array (.long)) (C := RX6) (T := TX6) (N := 51) hx hb hts uB6 tyX6 tyX6_ok nmX6 hown hK hP hD hS 0 rfl rfl 38 (by decide) (hts _ wm_180) (fun _ h9 => h9) rfl hin rfl (by decide +kernel) rfl rfl (by rw [hlen_h0]; decide) dX6_init_257 (fun H locs hP hD hS => ?_)
  obtain ⟨fs_91, efs_91⟩ : ∃ z9, z9 = (fs_88).set 38 (.ref q_89) := ⟨_, rfl⟩
  have hP : va_P (dC, dI) vwCl [(h0, .inr (6, fs_91)), (q_2, .inl (cA_3, 8, .inl (fun _ => 0))), (q_5, .inl (cA_3, 32, .inl (fun _ => 0))), (q_8, .inl (cA_3, 100, .inl (fun _ => 0))), (q_11, .inl (cA_3, 40, .inl (fun _ => 0))), (q_14, .inl (cA_3, 40, .inl (fun _ => 0))), (q_17, .inl (cA_3, 40, .inl (fun _ => 0))), (q_20, .inl (cA_3, 40, .inl (fun _ => 0))), (q_23, .inl (cA_3, 40, .inl (fun _ => 0))), (q_32, .inl (cA_3, 40, .inl (fun _ => 0))), (q_35, .inl (cA_3, 40, .inl (fun _ => 0))), (q_38, .inl (cA_3, 40, .inl (fun _ => 0))), (q_47, .inl (cA_3, 40, .inl (fun _ => 0))), (q_89, .inl (cA_90, 5, .inr (.inl (fun _ => 0))))] H := by rw [efs_91]; exact hP
  have hD : va_D A [(h0, .inr (6, fs_91)), (q_2, .inl (cA_3, 8, .inl (fun _ => 0))), (q_5, .inl (cA_3, 32, .inl (fun _ => 0))), (q_8, .inl (cA_3, 100, .inl (fun _ => 0))), (q_11, .inl (cA_3, 40, .inl (fun _ => 0))), (q_14, .inl (cA_3, 40, .inl (fun _ => 0))), (q_17, .inl (cA_3, 40, .inl (fun _ => 0))), (q_20, .inl (cA_3, 40, .inl (fun _ => 0))), (q_23, .inl (cA_3, 40, .inl (fun _ => 0))), (q_32, .inl (cA_3, 40, .inl (fun _ => 0))), (q_35, .inl (cA_3, 40, .inl (fun _ => 0))), (q_38, .inl (cA_3, 40, .inl (fun _ => 0))), (q_47, .inl (cA_3, 40, .inl (fun _ => 0))), (q_89, .inl (cA_90, 5, .inr (.inl (fun _ => 0))))] := by rw [efs_91]; exact hD
  have hf1_h0 : fs_91[1]? = some (.int 0) := by rw [efs_91, List.getElem?_set_ne (by decide)]; exact hf1_h0
  have hf2_h0 : fs_91[2]? = some (.int 0) := by rw [efs_91, List.getElem?_set_ne (by decide)]; exact hf2_h0
  have hf3_h0 : fs_91[3]? = some (.int 0) := by rw [efs_91, List.getElem?_set_ne (by decide)]; exact hf3_h0
  have hf5_h0 : fs_91[5]? = some (.int 0) := by rw [efs_91, List.getElem?_set_ne (by decide)]; exact hf5_h0
  have hf9_h0 : fs_91[9]? = some (.int 0) := by rw [efs_91, List.getElem?_set_ne (by decide)]; exact hf9_h0
  have hf25_h0 : fs_91[25]? = some (.int 0) := by rw [efs_91, List.getElem?_set_ne (by decide)]; exact hf25_h0
  have hf6_h0 : fs_91[6]? = some (.ref q_2) := by rw [efs_91, List.getElem?_set_ne (by decide)]; exact hf6_h0
  have hf7_h0 : fs_91[7]? = some (.ref q_5) := by rw [efs_91, List.getElem?_set_ne (by decide)]; exact hf7_h0
  have hf8_h0 : fs_91[8]? = some (.ref q_8) := by rw [efs_91, List.getElem?_set_ne (by decide)]; exact hf8_h0
  have hf10_h0 : fs_91[10]? = some (.ref q_11) := by rw [efs_91, List.getElem?_set_ne (by decide)]; exact hf10_h0
  have hf11_h0 : fs_91[11]? = some (.ref q_14) := by rw [efs_91, List.getElem?_set_ne (by decide)]; exact hf11_h0
  have hf12_h0 : fs_91[12]? = some (.ref q_17) := by rw [efs_91, List.getElem?_set_ne (by decide)]; exact hf12_h0
  have hf13_h0 : fs_91[13]? = some (.ref q_20) := by rw [efs_91, List.getElem?_set_ne (by decide)]; exact hf13_h0
  have hf14_h0 : fs_91[14]? = some (.ref q_23) := by rw [efs_91, List.getElem?_set_ne (by decide)]; exact hf14_h0
  have hf17_h0 : fs_91[17]? = some (.ref q_32) := by rw [efs_91, List.getElem?_set_ne (by decide)]; exact hf17_h0
  have hf18_h0 : fs_91[18]? = some (.ref q_35) := by rw [efs_91, List.getElem?_set_ne (by decide)]; exact hf18_h0
  have hf19_h0 : fs_91[19]? = some (.ref q_38) := by rw [efs_91, List.getElem?_set_ne (by decide)]; exact hf19_h0
  have hf22_h0 : fs_91[22]? = some (.ref q_47) := by rw [efs_91, List.getElem?_set_ne (by decide)]; exact hf22_h0
  have hlen_h0 : fs_91.length = 51 := by rw [efs_91, List.length_set]; exact hlen_h0
  have hK := hK.sub (tys' := [(cA_3, .int)]) [0] rfl
  have hP := hP.sub (ws' := [(h0, .inr (6, fs_91)), (q_2, .inl (cA_3, 8, .inl (fun _ => 0))), (q_5, .inl (cA_3, 32, .inl (fun _ => 0))), (q_8, .inl (cA_3, 100, .inl (fun _ => 0))), (q_11, .inl (cA_3, 40, .inl (fun _ => 0))), (q_14, .inl (cA_3, 40, .inl (fun _ => 0))), (q_17, .inl (cA_3, 40, .inl (fun _ => 0))), (q_20, .inl (cA_3, 40, .inl (fun _ => 0))), (q_23, .inl (cA_3, 40, .inl (fun _ => 0))), (q_32, .inl (cA_3, 40, .inl (fun _ => 0))), (q_35, .inl (cA_3, 40, .inl (fun _ => 0))), (q_38, .inl (cA_3, 40, .inl (fun _ => 0))), (q_47, .inl (cA_3, 40, .inl (fun _ => 0)))]) [0, 1, 2, 3, 4, 5, 6, 7, 8, 9, 10, 11, 12] rfl
  have hD := hD.sub (ws' := [(h0, .inr (6, fs_91)), (q_2, .inl (cA_3, 8, .inl (fun _ => 0))), (q_5, .inl (cA_3, 32, .inl (fun _ => 0))), (q_8, .inl (cA_3, 100, .inl (fun _ => 0))), (q_11, .inl (cA_3, 40, .inl (fun _ => 0))), (q_14, .inl (cA_3, 40, .inl (fun _ => 0))), (q_17, .inl (cA_3, 40, .inl (fun _ => 0))), (q_20, .inl (cA_3, 40, .inl (fun _ => 0))), (q_23, .inl (cA_3, 40, .inl (fun _ => 0))), (q_32, .inl (cA_3, 40, .inl (fun _ => 0))), (q_35, .inl (cA_3, 40, .inl (fun _ => 0))), (q_38, .inl (cA_3, 40, .inl (fun _ => 0))), (q_47, .inl (cA_3, 40, .inl (fun _ => 0)))]) [0, 1, 2, 3, 4, 5, 6, 7, 8, 9, 10, 11, 12] (by decide) rfl
  refine lv_aload_n hx hb dX6_init_260 rfl (lv_at hl 0 rfl) ?_
  refine lv_iconst (v := 5) hx hb dX6_init_261 (by decide) ?_
  refine va_newa (atype := .int) (N' := 5) (a0 := (5, .inl (fun _ => 0))) hx hb (hts _ wm_80) rfl hK hP hD hS hA (fun _ => rfl) (by decide) rfl (Nat.le_of_ble_eq_true rfl) (Nat.le_of_ble_eq_true rfl) (Nat.le_of_ble_eq_true rfl) dX6_init_262 (fun q_92 cA_93 H hK hP hD hS => ?_)
  have hK : va_K (dC, dI) vwCl [(cA_3, .int), (cA_93, .int)] s := hK
  have hP : va_P (dC, dI) vwCl [(h0, .inr (6, fs_91)), (q_2, .inl (cA_3, 8, .inl (fun _ => 0))), (q_5, .inl (cA_3, 32, .inl (fun _ => 0))), (q_8, .inl (cA_3, 100, .inl (fun _ => 0))), (q_11, .inl (cA_3, 40, .inl (fun _ => 0))), (q_14, .inl (cA_3, 40, .inl (fun _ => 0))), (q_17, .inl (cA_3, 40, .inl (fun _ => 0))), (q_20, .inl (cA_3, 40, .inl (fun _ => 0))), (q_23, .inl (cA_3, 40, .inl (fun _ => 0))), (q_32, .inl (cA_3, 40, .inl (fun _ => 0))), (q_35, .inl (cA_3, 40, .inl (fun _ => 0))), (q_38, .inl (cA_3, 40, .inl (fun _ => 0))), (q_47, .inl (cA_3, 40, .inl (fun _ => 0))), (q_92, .inl (cA_93, 5, .inl (fun _ => 0)))] H := hP
  have hD : va_D A [(h0, .inr (6, fs_91)), (q_2, .inl (cA_3, 8, .inl (fun _ => 0))), (q_5, .inl (cA_3, 32, .inl (fun _ => 0))), (q_8, .inl (cA_3, 100, .inl (fun _ => 0))), (q_11, .inl (cA_3, 40, .inl (fun _ => 0))), (q_14, .inl (cA_3, 40, .inl (fun _ => 0))), (q_17, .inl (cA_3, 40, .inl (fun _ => 0))), (q_20, .inl (cA_3, 40, .inl (fun _ => 0))), (q_23, .inl (cA_3, 40, .inl (fun _ => 0))), (q_32, .inl (cA_3, 40, .inl (fun _ => 0))), (q_35, .inl (cA_3, 40, .inl (fun _ => 0))), (q_38, .inl (cA_3, 40, .inl (fun _ => 0))), (q_47, .inl (cA_3, 40, .inl (fun _ => 0))), (q_92, .inl (cA_93, 5, .inl (fun _ => 0)))] := hD
  refine va_putF (D := (dC, dI)) (ci := 6) (v := .ref q_92) (ty := .array (.int)) (C := RX6) (T := TX6) (N := 51) hx hb hts uB6 tyX6 tyX6_ok nmX6 hown hK hP hD hS 0 rfl rfl 40 (by decide) (hts _ wm_181) (fun _ h9 => h9) rfl hin rfl (by decide +kernel) rfl rfl (by rw [hlen_h0]; decide) dX6_init_264 (fun H locs hP hD hS => ?_)
  obtain ⟨fs_94, efs_94⟩ : ∃ z9, z9 = (fs_91).set 40 (.ref q_92) := ⟨_, rfl⟩
  have hP : va_P (dC, dI) vwCl [(h0, .inr (6, fs_94)), (q_2, .inl (cA_3, 8, .inl (fun _ => 0))), (q_5, .inl (cA_3, 32, .inl (fun _ => 0))), (q_8, .inl (cA_3, 100, .inl (fun _ => 0))), (q_11, .inl (cA_3, 40, .inl (fun _ => 0))), (q_14, .inl (cA_3, 40, .inl (fun _ => 0))), (q_17, .inl (cA_3, 40, .inl (fun _ => 0))), (q_20, .inl (cA_3, 40, .inl (fun _ => 0))), (q_23, .inl (cA_3, 40, .inl (fun _ => 0))), (q_32, .inl (cA_3, 40, .inl (fun _ => 0))), (q_35, .inl (cA_3, 40, .inl (fun _ => 0))), (q_38, .inl (cA_3, 40, .inl (fun _ => 0))), (q_47, .inl (cA_3, 40, .inl (fun _ => 0))), (q_92, .inl (cA_93, 5, .inl (fun _ => 0)))] H := by rw [efs_94]; exact hP
  have hD : va_D A [(h0, .inr (6, fs_94)), (q_2, .inl (cA_3, 8, .inl (fun _ => 0))), (q_5, .inl (cA_3, 32, .inl (fun _ => 0))), (q_8, .inl (cA_3, 100, .inl (fun _ => 0))), (q_11, .inl (cA_3, 40, .inl (fun _ => 0))), (q_14, .inl (cA_3, 40, .inl (fun _ => 0))), (q_17, .inl (cA_3, 40, .inl (fun _ => 0))), (q_20, .inl (cA_3, 40, .inl (fun _ => 0))), (q_23, .inl (cA_3, 40, .inl (fun _ => 0))), (q_32, .inl (cA_3, 40, .inl (fun _ => 0))), (q_35, .inl (cA_3, 40, .inl (fun _ => 0))), (q_38, .inl (cA_3, 40, .inl (fun _ => 0))), (q_47, .inl (cA_3, 40, .inl (fun _ => 0))), (q_92, .inl (cA_93, 5, .inl (fun _ => 0)))] := by rw [efs_94]; exact hD
  have hf1_h0 : fs_94[1]? = some (.int 0) := by rw [efs_94, List.getElem?_set_ne (by decide)]; exact hf1_h0
  have hf2_h0 : fs_94[2]? = some (.int 0) := by rw [efs_94, List.getElem?_set_ne (by decide)]; exact hf2_h0
  have hf3_h0 : fs_94[3]? = some (.int 0) := by rw [efs_94, List.getElem?_set_ne (by decide)]; exact hf3_h0
  have hf5_h0 : fs_94[5]? = some (.int 0) := by rw [efs_94, List.getElem?_set_ne (by decide)]; exact hf5_h0
  have hf9_h0 : fs_94[9]? = some (.int 0) := by rw [efs_94, List.getElem?_set_ne (by decide)]; exact hf9_h0
  have hf25_h0 : fs_94[25]? = some (.int 0) := by rw [efs_94, List.getElem?_set_ne (by decide)]; exact hf25_h0
  have hf6_h0 : fs_94[6]? = some (.ref q_2) := by rw [efs_94, List.getElem?_set_ne (by decide)]; exact hf6_h0
  have hf7_h0 : fs_94[7]? = some (.ref q_5) := by rw [efs_94, List.getElem?_set_ne (by decide)]; exact hf7_h0
  have hf8_h0 : fs_94[8]? = some (.ref q_8) := by rw [efs_94, List.getElem?_set_ne (by decide)]; exact hf8_h0
  have hf10_h0 : fs_94[10]? = some (.ref q_11) := by rw [efs_94, List.getElem?_set_ne (by decide)]; exact hf10_h0
  have hf11_h0 : fs_94[11]? = some (.ref q_14) := by rw [efs_94, List.getElem?_set_ne (by decide)]; exact hf11_h0
  have hf12_h0 : fs_94[12]? = some (.ref q_17) := by rw [efs_94, List.getElem?_set_ne (by decide)]; exact hf12_h0
  have hf13_h0 : fs_94[13]? = some (.ref q_20) := by rw [efs_94, List.getElem?_set_ne (by decide)]; exact hf13_h0
  have hf14_h0 : fs_94[14]? = some (.ref q_23) := by rw [efs_94, List.getElem?_set_ne (by decide)]; exact hf14_h0
  have hf17_h0 : fs_94[17]? = some (.ref q_32) := by rw [efs_94, List.getElem?_set_ne (by decide)]; exact hf17_h0
  have hf18_h0 : fs_94[18]? = some (.ref q_35) := by rw [efs_94, List.getElem?_set_ne (by decide)]; exact hf18_h0
  have hf19_h0 : fs_94[19]? = some (.ref q_38) := by rw [efs_94, List.getElem?_set_ne (by decide)]; exact hf19_h0
  have hf22_h0 : fs_94[22]? = some (.ref q_47) := by rw [efs_94, List.getElem?_set_ne (by decide)]; exact hf22_h0
  have hlen_h0 : fs_94.length = 51 := by rw [efs_94, List.length_set]; exact hlen_h0
  have hK := hK.sub (tys' := [(cA_3, .int)]) [0] rfl
  have hP := hP.sub (ws' := [(h0, .inr (6, fs_94)), (q_2, .inl (cA_3, 8, .inl (fun _ => 0))), (q_5, .inl (cA_3, 32, .inl (fun _ => 0))), (q_8, .inl (cA_3, 100, .inl (fun _ => 0))), (q_11, .inl (cA_3, 40, .inl (fun _ => 0))), (q_14, .inl (cA_3, 40, .inl (fun _ => 0))), (q_17, .inl (cA_3, 40, .inl (fun _ => 0))), (q_20, .inl (cA_3, 40, .inl (fun _ => 0))), (q_23, .inl (cA_3, 40, .inl (fun _ => 0))), (q_32, .inl (cA_3, 40, .inl (fun _ => 0))), (q_35, .inl (cA_3, 40, .inl (fun _ => 0))), (q_38, .inl (cA_3, 40, .inl (fun _ => 0))), (q_47, .inl (cA_3, 40, .inl (fun _ => 0)))]) [0, 1, 2, 3, 4, 5, 6, 7, 8, 9, 10, 11, 12] rfl
  have hD := hD.sub (ws' := [(h0, .inr (6, fs_94)), (q_2, .inl (cA_3, 8, .inl (fun _ => 0))), (q_5, .inl (cA_3, 32, .inl (fun _ => 0))), (q_8, .inl (cA_3, 100, .inl (fun _ => 0))), (q_11, .inl (cA_3, 40, .inl (fun _ => 0))), (q_14, .inl (cA_3, 40, .inl (fun _ => 0))), (q_17, .inl (cA_3, 40, .inl (fun _ => 0))), (q_20, .inl (cA_3, 40, .inl (fun _ => 0))), (q_23, .inl (cA_3, 40, .inl (fun _ => 0))), (q_32, .inl (cA_3, 40, .inl (fun _ => 0))), (q_35, .inl (cA_3, 40, .inl (fun _ => 0))), (q_38, .inl (cA_3, 40, .inl (fun _ => 0))), (q_47, .inl (cA_3, 40, .inl (fun _ => 0)))]) [0, 1, 2, 3, 4, 5, 6, 7, 8, 9, 10, 11, 12] (by decide) rfl
  refine lv_aload_n hx hb dX6_init_267 rfl (lv_at hl 0 rfl) ?_
  refine lv_iconst (v := 5) hx hb dX6_init_268 (by decide) ?_
  refine va_newa (atype := .long) (N' := 5) (a0 := (5, .inr (.inl (fun _ => 0)))) hx hb (hts _ wm_145) rfl hK hP hD hS hA (fun _ => rfl) (by decide) rfl (Nat.le_of_ble_eq_true rfl) (Nat.le_of_ble_eq_true rfl) (Nat.le_of_ble_eq_true rfl) dX6_init_269 (fun q_95 cA_96 H hK hP hD hS => ?_)
  have hK : va_K (dC, dI) vwCl [(cA_3, .int), (cA_96, .long)] s := hK
  have hP : va_P (dC, dI) vwCl [(h0, .inr (6, fs_94)), (q_2, .inl (cA_3, 8, .inl (fun _ => 0))), (q_5, .inl (cA_3, 32, .inl (fun _ => 0))), (q_8, .inl (cA_3, 100, .inl (fun _ => 0))), (q_11, .inl (cA_3, 40, .inl (fun _ => 0))), (q_14, .inl (cA_3, 40, .inl (fun _ => 0))), (q_17, .inl (cA_3, 40, .inl (fun _ => 0))), (q_20, .inl (cA_3, 40, .inl (fun _ => 0))), (q_23, .inl (cA_3, 40, .inl (fun _ => 0))), (q_32, .inl (cA_3, 40, .inl (fun _ => 0))), (q_35, .inl (cA_3, 40, .inl (fun _ => 0))), (q_38, .inl (cA_3, 40, .inl (fun _ => 0))), (q_47, .inl (cA_3, 40, .inl (fun _ => 0))), (q_95, .inl (cA_96, 5, .inr (.inl (fun _ => 0))))] H := hP
  have hD : va_D A [(h0, .inr (6, fs_94)), (q_2, .inl (cA_3, 8, .inl (fun _ => 0))), (q_5, .inl (cA_3, 32, .inl (fun _ => 0))), (q_8, .inl (cA_3, 100, .inl (fun _ => 0))), (q_11, .inl (cA_3, 40, .inl (fun _ => 0))), (q_14, .inl (cA_3, 40, .inl (fun _ => 0))), (q_17, .inl (cA_3, 40, .inl (fun _ => 0))), (q_20, .inl (cA_3, 40, .inl (fun _ => 0))), (q_23, .inl (cA_3, 40, .inl (fun _ => 0))), (q_32, .inl (cA_3, 40, .inl (fun _ => 0))), (q_35, .inl (cA_3, 40, .inl (fun _ => 0))), (q_38, .inl (cA_3, 40, .inl (fun _ => 0))), (q_47, .inl (cA_3, 40, .inl (fun _ => 0))), (q_95, .inl (cA_96, 5, .inr (.inl (fun _ => 0))))] := hD
  refine va_putF (D := (dC, dI)) (ci := 6) (v := .ref q_95) (ty := .array (.long)) (C := RX6) (T := TX6) (N := 51) hx hb hts uB6 tyX6 tyX6_ok nmX6 hown hK hP hD hS 0 rfl rfl 41 (by decide) (hts _ wm_182) (fun _ h9 => h9) rfl hin rfl (by decide +kernel) rfl rfl (by rw [hlen_h0]; decide) dX6_init_271 (fun H locs hP hD hS => ?_)
  obtain ⟨fs_97, efs_97⟩ : ∃ z9, z9 = (fs_94).set 41 (.ref q_95) := ⟨_, rfl⟩
  have hP : va_P (dC, dI) vwCl [(h0, .inr (6, fs_97)), (q_2, .inl (cA_3, 8, .inl (fun _ => 0))), (q_5, .inl (cA_3, 32, .inl (fun _ => 0))), (q_8, .inl (cA_3, 100, .inl (fun _ => 0))), (q_11, .inl (cA_3, 40, .inl (fun _ => 0))), (q_14, .inl (cA_3, 40, .inl (fun _ => 0))), (q_17, .inl (cA_3, 40, .inl (fun _ => 0))), (q_20, .inl (cA_3, 40, .inl (fun _ => 0))), (q_23, .inl (cA_3, 40, .inl (fun _ => 0))), (q_32, .inl (cA_3, 40, .inl (fun _ => 0))), (q_35, .inl (cA_3, 40, .inl (fun _ => 0))), (q_38, .inl (cA_3, 40, .inl (fun _ => 0))), (q_47, .inl (cA_3, 40, .inl (fun _ => 0))), (q_95, .inl (cA_96, 5, .inr (.inl (fun _ => 0))))] H := by rw [efs_97]; exact hP
  have hD : va_D A [(h0, .inr (6, fs_97)), (q_2, .inl (cA_3, 8, .inl (fun _ => 0))), (q_5, .inl (cA_3, 32, .inl (fun _ => 0))), (q_8, .inl (cA_3, 100, .inl (fun _ => 0))), (q_11, .inl (cA_3, 40, .inl (fun _ => 0))), (q_14, .inl (cA_3, 40, .inl (fun _ => 0))), (q_17, .inl (cA_3, 40, .inl (fun _ => 0))), (q_20, .inl (cA_3, 40, .inl (fun _ => 0))), (q_23, .inl (cA_3, 40, .inl (fun _ => 0))), (q_32, .inl (cA_3, 40, .inl (fun _ => 0))), (q_35, .inl (cA_3, 40, .inl (fun _ => 0))), (q_38, .inl (cA_3, 40, .inl (fun _ => 0))), (q_47, .inl (cA_3, 40, .inl (fun _ => 0))), (q_95, .inl (cA_96, 5, .inr (.inl (fun _ => 0))))] := by rw [efs_97]; exact hD
  have hf1_h0 : fs_97[1]? = some (.int 0) := by rw [efs_97, List.getElem?_set_ne (by decide)]; exact hf1_h0
  have hf2_h0 : fs_97[2]? = some (.int 0) := by rw [efs_97, List.getElem?_set_ne (by decide)]; exact hf2_h0
  have hf3_h0 : fs_97[3]? = some (.int 0) := by rw [efs_97, List.getElem?_set_ne (by decide)]; exact hf3_h0
  have hf5_h0 : fs_97[5]? = some (.int 0) := by rw [efs_97, List.getElem?_set_ne (by decide)]; exact hf5_h0
  have hf9_h0 : fs_97[9]? = some (.int 0) := by rw [efs_97, List.getElem?_set_ne (by decide)]; exact hf9_h0
  have hf25_h0 : fs_97[25]? = some (.int 0) := by rw [efs_97, List.getElem?_set_ne (by decide)]; exact hf25_h0
  have hf6_h0 : fs_97[6]? = some (.ref q_2) := by rw [efs_97, List.getElem?_set_ne (by decide)]; exact hf6_h0
  have hf7_h0 : fs_97[7]? = some (.ref q_5) := by rw [efs_97, List.getElem?_set_ne (by decide)]; exact hf7_h0
  have hf8_h0 : fs_97[8]? = some (.ref q_8) := by rw [efs_97, List.getElem?_set_ne (by decide)]; exact hf8_h0
  have hf10_h0 : fs_97[10]? = some (.ref q_11) := by rw [efs_97, List.getElem?_set_ne (by decide)]; exact hf10_h0
  have hf11_h0 : fs_97[11]? = some (.ref q_14) := by rw [efs_97, List.getElem?_set_ne (by decide)]; exact hf11_h0
  have hf12_h0 : fs_97[12]? = some (.ref q_17) := by rw [efs_97, List.getElem?_set_ne (by decide)]; exact hf12_h0
  have hf13_h0 : fs_97[13]? = some (.ref q_20) := by rw [efs_97, List.getElem?_set_ne (by decide)]; exact hf13_h0
  have hf14_h0 : fs_97[14]? = some (.ref q_23) := by rw [efs_97, List.getElem?_set_ne (by decide)]; exact hf14_h0
  have hf17_h0 : fs_97[17]? = some (.ref q_32) := by rw [efs_97, List.getElem?_set_ne (by decide)]; exact hf17_h0
  have hf18_h0 : fs_97[18]? = some (.ref q_35) := by rw [efs_97, List.getElem?_set_ne (by decide)]; exact hf18_h0
  have hf19_h0 : fs_97[19]? = some (.ref q_38) := by rw [efs_97, List.getElem?_set_ne (by decide)]; exact hf19_h0
  have hf22_h0 : fs_97[22]? = some (.ref q_47) := by rw [efs_97, List.getElem?_set_ne (by decide)]; exact hf22_h0
  have hlen_h0 : fs_97.length = 51 := by rw [efs_97, List.length_set]; exact hlen_h0
  have hK := hK.sub (tys' := [(cA_3, .int)]) [0] rfl
  have hP := hP.sub (ws' := [(h0, .inr (6, fs_97)), (q_2, .inl (cA_3, 8, .inl (fun _ => 0))), (q_5, .inl (cA_3, 32, .inl (fun _ => 0))), (q_8, .inl (cA_3, 100, .inl (fun _ => 0))), (q_11, .inl (cA_3, 40, .inl (fun _ => 0))), (q_14, .inl (cA_3, 40, .inl (fun _ => 0))), (q_17, .inl (cA_3, 40, .inl (fun _ => 0))), (q_20, .inl (cA_3, 40, .inl (fun _ => 0))), (q_23, .inl (cA_3, 40, .inl (fun _ => 0))), (q_32, .inl (cA_3, 40, .inl (fun _ => 0))), (q_35, .inl (cA_3, 40, .inl (fun _ => 0))), (q_38, .inl (cA_3, 40, .inl (fun _ => 0))), (q_47, .inl (cA_3, 40, .inl (fun _ => 0)))]) [0, 1, 2, 3, 4, 5, 6, 7, 8, 9, 10, 11, 12] rfl
  have hD := hD.sub (ws' := [(h0, .inr (6, fs_97)), (q_2, .inl (cA_3, 8, .inl (fun _ => 0))), (q_5, .inl (cA_3, 32, .inl (fun _ => 0))), (q_8, .inl (cA_3, 100, .inl (fun _ => 0))), (q_11, .inl (cA_3, 40, .inl (fun _ => 0))), (q_14, .inl (cA_3, 40, .inl (fun _ => 0))), (q_17, .inl (cA_3, 40, .inl (fun _ => 0))), (q_20, .inl (cA_3, 40, .inl (fun _ => 0))), (q_23, .inl (cA_3, 40, .inl (fun _ => 0))), (q_32, .inl (cA_3, 40, .inl (fun _ => 0))), (q_35, .inl (cA_3, 40, .inl (fun _ => 0))), (q_38, .inl (cA_3, 40, .inl (fun _ => 0))), (q_47, .inl (cA_3, 40, .inl (fun _ => 0)))]) [0, 1, 2, 3, 4, 5, 6, 7, 8, 9, 10, 11, 12] (by decide) rfl
  refine lv_aload_n hx hb dX6_init_274 rfl (lv_at hl 0 rfl) ?_
  refine lv_iconst (v := 5) hx hb dX6_init_275 (by decide) ?_
  refine va_newa (atype := .int) (N' := 5) (a0 := (5, .inl (fun _ => 0))) hx hb (hts _ wm_80) rfl hK hP hD hS hA (fun _ => rfl) (by decide) rfl (Nat.le_of_ble_eq_true rfl) (Nat.le_of_ble_eq_true rfl) (Nat.le_of_ble_eq_true rfl) dX6_init_276 (fun q_98 cA_99 H hK hP hD hS => ?_)
  have hK : va_K (dC, dI) vwCl [(cA_3, .int), (cA_99, .int)] s := hK
  have hP : va_P (dC, dI) vwCl [(h0, .inr (6, fs_97)), (q_2, .inl (cA_3, 8, .inl (fun _ => 0))), (q_5, .inl (cA_3, 32, .inl (fun _ => 0))), (q_8, .inl (cA_3, 100, .inl (fun _ => 0))), (q_11, .inl (cA_3, 40, .inl (fun _ => 0))), (q_14, .inl (cA_3, 40, .inl (fun _ => 0))), (q_17, .inl (cA_3, 40, .inl (fun _ => 0))), (q_20, .inl (cA_3, 40, .inl (fun _ => 0))), (q_23, .inl (cA_3, 40, .inl (fun _ => 0))), (q_32, .inl (cA_3, 40, .inl (fun _ => 0))), (q_35, .inl (cA_3, 40, .inl (fun _ => 0))), (q_38, .inl (cA_3, 40, .inl (fun _ => 0))), (q_47, .inl (cA_3, 40, .inl (fun _ => 0))), (q_98, .inl (cA_99, 5, .inl (fun _ => 0)))] H := hP
  have hD : va_D A [(h0, .inr (6, fs_97)), (q_2, .inl (cA_3, 8, .inl (fun _ => 0))), (q_5, .inl (cA_3, 32, .inl (fun _ => 0))), (q_8, .inl (cA_3, 100, .inl (fun _ => 0))), (q_11, .inl (cA_3, 40, .inl (fun _ => 0))), (q_14, .inl (cA_3, 40, .inl (fun _ => 0))), (q_17, .inl (cA_3, 40, .inl (fun _ => 0))), (q_20, .inl (cA_3, 40, .inl (fun _ => 0))), (q_23, .inl (cA_3, 40, .inl (fun _ => 0))), (q_32, .inl (cA_3, 40, .inl (fun _ => 0))), (q_35, .inl (cA_3, 40, .inl (fun _ => 0))), (q_38, .inl (cA_3, 40, .inl (fun _ => 0))), (q_47, .inl (cA_3, 40, .inl (fun _ => 0))), (q_98, .inl (cA_99, 5, .inl (fun _ => 0)))] := hD
  refine va_putF (D := (dC, dI)) (ci := 6) (v := .ref q_98) (ty := .array (.int)) (C := RX6) (T := TX6) (N := 51) hx hb hts uB6 tyX6 tyX6_ok nmX6 hown hK hP hD hS 0 rfl rfl 42 (by decide) (hts _ wm_183) (fun _ h9 => h9) rfl hin rfl (by decide +kernel) rfl rfl (by rw [hlen_h0]; decide) dX6_init_278 (fun H locs hP hD hS => ?_)
  obtain ⟨fs_100, efs_100⟩ : ∃ z9, z9 = (fs_97).set 42 (.ref q_98) := ⟨_, rfl⟩
  have hP : va_P (dC, dI) vwCl [(h0, .inr (6, fs_100)), (q_2, .inl (cA_3, 8, .inl (fun _ => 0))), (q_5, .inl (cA_3, 32, .inl (fun _ => 0))), (q_8, .inl (cA_3, 100, .inl (fun _ => 0))), (q_11, .inl (cA_3, 40, .inl (fun _ => 0))), (q_14, .inl (cA_3, 40, .inl (fun _ => 0))), (q_17, .inl (cA_3, 40, .inl (fun _ => 0))), (q_20, .inl (cA_3, 40, .inl (fun _ => 0))), (q_23, .inl (cA_3, 40, .inl (fun _ => 0))), (q_32, .inl (cA_3, 40, .inl (fun _ => 0))), (q_35, .inl (cA_3, 40, .inl (fun _ => 0))), (q_38, .inl (cA_3, 40, .inl (fun _ => 0))), (q_47, .inl (cA_3, 40, .inl (fun _ => 0))), (q_98, .inl (cA_99, 5, .inl (fun _ => 0)))] H := by rw [efs_100]; exact hP
  have hD : va_D A [(h0, .inr (6, fs_100)), (q_2, .inl (cA_3, 8, .inl (fun _ => 0))), (q_5, .inl (cA_3, 32, .inl (fun _ => 0))), (q_8, .inl (cA_3, 100, .inl (fun _ => 0))), (q_11, .inl (cA_3, 40, .inl (fun _ => 0))), (q_14, .inl (cA_3, 40, .inl (fun _ => 0))), (q_17, .inl (cA_3, 40, .inl (fun _ => 0))), (q_20, .inl (cA_3, 40, .inl (fun _ => 0))), (q_23, .inl (cA_3, 40, .inl (fun _ => 0))), (q_32, .inl (cA_3, 40, .inl (fun _ => 0))), (q_35, .inl (cA_3, 40, .inl (fun _ => 0))), (q_38, .inl (cA_3, 40, .inl (fun _ => 0))), (q_47, .inl (cA_3, 40, .inl (fun _ => 0))), (q_98, .inl (cA_99, 5, .inl (fun _ => 0)))] := by rw [efs_100]; exact hD
  have hf1_h0 : fs_100[1]? = some (.int 0) := by rw [efs_100, List.getElem?_set_ne (by decide)]; exact hf1_h0
  have hf2_h0 : fs_100[2]? = some (.int 0) := by rw [efs_100, List.getElem?_set_ne (by decide)]; exact hf2_h0
  have hf3_h0 : fs_100[3]? = some (.int 0) := by rw [efs_100, List.getElem?_set_ne (by decide)]; exact hf3_h0
  have hf5_h0 : fs_100[5]? = some (.int 0) := by rw [efs_100, List.getElem?_set_ne (by decide)]; exact hf5_h0
  have hf9_h0 : fs_100[9]? = some (.int 0) := by rw [efs_100, List.getElem?_set_ne (by decide)]; exact hf9_h0
  have hf25_h0 : fs_100[25]? = some (.int 0) := by rw [efs_100, List.getElem?_set_ne (by decide)]; exact hf25_h0
  have hf6_h0 : fs_100[6]? = some (.ref q_2) := by rw [efs_100, List.getElem?_set_ne (by decide)]; exact hf6_h0
  have hf7_h0 : fs_100[7]? = some (.ref q_5) := by rw [efs_100, List.getElem?_set_ne (by decide)]; exact hf7_h0
  have hf8_h0 : fs_100[8]? = some (.ref q_8) := by rw [efs_100, List.getElem?_set_ne (by decide)]; exact hf8_h0
  have hf10_h0 : fs_100[10]? = some (.ref q_11) := by rw [efs_100, List.getElem?_set_ne (by decide)]; exact hf10_h0
  have hf11_h0 : fs_100[11]? = some (.ref q_14) := by rw [efs_100, List.getElem?_set_ne (by decide)]; exact hf11_h0
  have hf12_h0 : fs_100[12]? = some (.ref q_17) := by rw [efs_100, List.getElem?_set_ne (by decide)]; exact hf12_h0
  have hf13_h0 : fs_100[13]? = some (.ref q_20) := by rw [efs_100, List.getElem?_set_ne (by decide)]; exact hf13_h0
  have hf14_h0 : fs_100[14]? = some (.ref q_23) := by rw [efs_100, List.getElem?_set_ne (by decide)]; exact hf14_h0
  have hf17_h0 : fs_100[17]? = some (.ref q_32) := by rw [efs_100, List.getElem?_set_ne (by decide)]; exact hf17_h0
  have hf18_h0 : fs_100[18]? = some (.ref q_35) := by rw [efs_100, List.getElem?_set_ne (by decide)]; exact hf18_h0
  have hf19_h0 : fs_100[19]? = some (.ref q_38) := by rw [efs_100, List.getElem?_set_ne (by decide)]; exact hf19_h0
  have hf22_h0 : fs_100[22]? = some (.ref q_47) := by rw [efs_100, List.getElem?_set_ne (by decide)]; exact hf22_h0
  have hlen_h0 : fs_100.length = 51 := by rw [efs_100, List.length_set]; exact hlen_h0
  have hK := hK.sub (tys' := [(cA_3, .int)]) [0] rfl
  have hP := hP.sub (ws' := [(h0, .inr (6, fs_100)), (q_2, .inl (cA_3, 8, .inl (fun _ => 0))), (q_5, .inl (cA_3, 32, .inl (fun _ => 0))), (q_8, .inl (cA_3, 100, .inl (fun _ => 0))), (q_11, .inl (cA_3, 40, .inl (fun _ => 0))), (q_14, .inl (cA_3, 40, .inl (fun _ => 0))), (q_17, .inl (cA_3, 40, .inl (fun _ => 0))), (q_20, .inl (cA_3, 40, .inl (fun _ => 0))), (q_23, .inl (cA_3, 40, .inl (fun _ => 0))), (q_32, .inl (cA_3, 40, .inl (fun _ => 0))), (q_35, .inl (cA_3, 40, .inl (fun _ => 0))), (q_38, .inl (cA_3, 40, .inl (fun _ => 0))), (q_47, .inl (cA_3, 40, .inl (fun _ => 0)))]) [0, 1, 2, 3, 4, 5, 6, 7, 8, 9, 10, 11, 12] rfl
  have hD := hD.sub (ws' := [(h0, .inr (6, fs_100)), (q_2, .inl (cA_3, 8, .inl (fun _ => 0))), (q_5, .inl (cA_3, 32, .inl (fun _ => 0))), (q_8, .inl (cA_3, 100, .inl (fun _ => 0))), (q_11, .inl (cA_3, 40, .inl (fun _ => 0))), (q_14, .inl (cA_3, 40, .inl (fun _ => 0))), (q_17, .inl (cA_3, 40, .inl (fun _ => 0))), (q_20, .inl (cA_3, 40, .inl (fun _ => 0))), (q_23, .inl (cA_3, 40, .inl (fun _ => 0))), (q_32, .inl (cA_3, 40, .inl (fun _ => 0))), (q_35, .inl (cA_3, 40, .inl (fun _ => 0))), (q_38, .inl (cA_3, 40, .inl (fun _ => 0))), (q_47, .inl (cA_3, 40, .inl (fun _ => 0)))]) [0, 1, 2, 3, 4, 5, 6, 7, 8, 9, 10, 11, 12] (by decide) rfl
  refine lv_aload_n hx hb dX6_init_281 rfl (lv_at hl 0 rfl) ?_
  refine lv_iconst (v := 4) hx hb dX6_init_282 (by decide) ?_
  refine va_newa (atype := .int) (N' := 4) (a0 := (4, .inl (fun _ => 0))) hx hb (hts _ wm_80) rfl hK hP hD hS hA (fun _ => rfl) (by decide) rfl (Nat.le_of_ble_eq_true rfl) (Nat.le_of_ble_eq_true rfl) (Nat.le_of_ble_eq_true rfl) dX6_init_283 (fun q_101 cA_102 H hK hP hD hS => ?_)
  have hK : va_K (dC, dI) vwCl [(cA_3, .int), (cA_102, .int)] s := hK
  have hP : va_P (dC, dI) vwCl [(h0, .inr (6, fs_100)), (q_2, .inl (cA_3, 8, .inl (fun _ => 0))), (q_5, .inl (cA_3, 32, .inl (fun _ => 0))), (q_8, .inl (cA_3, 100, .inl (fun _ => 0))), (q_11, .inl (cA_3, 40, .inl (fun _ => 0))), (q_14, .inl (cA_3, 40, .inl (fun _ => 0))), (q_17, .inl (cA_3, 40, .inl (fun _ => 0))), (q_20, .inl (cA_3, 40, .inl (fun _ => 0))), (q_23, .inl (cA_3, 40, .inl (fun _ => 0))), (q_32, .inl (cA_3, 40, .inl (fun _ => 0))), (q_35, .inl (cA_3, 40, .inl (fun _ => 0))), (q_38, .inl (cA_3, 40, .inl (fun _ => 0))), (q_47, .inl (cA_3, 40, .inl (fun _ => 0))), (q_101, .inl (cA_102, 4, .inl (fun _ => 0)))] H := hP
  have hD : va_D A [(h0, .inr (6, fs_100)), (q_2, .inl (cA_3, 8, .inl (fun _ => 0))), (q_5, .inl (cA_3, 32, .inl (fun _ => 0))), (q_8, .inl (cA_3, 100, .inl (fun _ => 0))), (q_11, .inl (cA_3, 40, .inl (fun _ => 0))), (q_14, .inl (cA_3, 40, .inl (fun _ => 0))), (q_17, .inl (cA_3, 40, .inl (fun _ => 0))), (q_20, .inl (cA_3, 40, .inl (fun _ => 0))), (q_23, .inl (cA_3, 40, .inl (fun _ => 0))), (q_32, .inl (cA_3, 40, .inl (fun _ => 0))), (q_35, .inl (cA_3, 40, .inl (fun _ => 0))), (q_38, .inl (cA_3, 40, .inl (fun _ => 0))), (q_47, .inl (cA_3, 40, .inl (fun _ => 0))), (q_101, .inl (cA_102, 4, .inl (fun _ => 0)))] := hD
  refine va_putF (D := (dC, dI)) (ci := 6) (v := .ref q_101) (ty := .array (.int)) (C := RX6) (T := TX6) (N := 51) hx hb hts uB6 tyX6 tyX6_ok nmX6 hown hK hP hD hS 0 rfl rfl 46 (by decide) (hts _ wm_184) (fun _ h9 => h9) rfl hin rfl (by decide +kernel) rfl rfl (by rw [hlen_h0]; decide) dX6_init_285 (fun H locs hP hD hS => ?_)
  obtain ⟨fs_103, efs_103⟩ : ∃ z9, z9 = (fs_100).set 46 (.ref q_101) := ⟨_, rfl⟩
  have hP : va_P (dC, dI) vwCl [(h0, .inr (6, fs_103)), (q_2, .inl (cA_3, 8, .inl (fun _ => 0))), (q_5, .inl (cA_3, 32, .inl (fun _ => 0))), (q_8, .inl (cA_3, 100, .inl (fun _ => 0))), (q_11, .inl (cA_3, 40, .inl (fun _ => 0))), (q_14, .inl (cA_3, 40, .inl (fun _ => 0))), (q_17, .inl (cA_3, 40, .inl (fun _ => 0))), (q_20, .inl (cA_3, 40, .inl (fun _ => 0))), (q_23, .inl (cA_3, 40, .inl (fun _ => 0))), (q_32, .inl (cA_3, 40, .inl (fun _ => 0))), (q_35, .inl (cA_3, 40, .inl (fun _ => 0))), (q_38, .inl (cA_3, 40, .inl (fun _ => 0))), (q_47, .inl (cA_3, 40, .inl (fun _ => 0))), (q_101, .inl (cA_102, 4, .inl (fun _ => 0)))] H := by rw [efs_103]; exact hP
  have hD : va_D A [(h0, .inr (6, fs_103)), (q_2, .inl (cA_3, 8, .inl (fun _ => 0))), (q_5, .inl (cA_3, 32, .inl (fun _ => 0))), (q_8, .inl (cA_3, 100, .inl (fun _ => 0))), (q_11, .inl (cA_3, 40, .inl (fun _ => 0))), (q_14, .inl (cA_3, 40, .inl (fun _ => 0))), (q_17, .inl (cA_3, 40, .inl (fun _ => 0))), (q_20, .inl (cA_3, 40, .inl (fun _ => 0))), (q_23, .inl (cA_3, 40, .inl (fun _ => 0))), (q_32, .inl (cA_3, 40, .inl (fun _ => 0))), (q_35, .inl (cA_3, 40, .inl (fun _ => 0))), (q_38, .inl (cA_3, 40, .inl (fun _ => 0))), (q_47, .inl (cA_3, 40, .inl (fun _ => 0))), (q_101, .inl (cA_102, 4, .inl (fun _ => 0)))] := by rw [efs_103]; exact hD
  have hf1_h0 : fs_103[1]? = some (.int 0) := by rw [efs_103, List.getElem?_set_ne (by decide)]; exact hf1_h0
  have hf2_h0 : fs_103[2]? = some (.int 0) := by rw [efs_103, List.getElem?_set_ne (by decide)]; exact hf2_h0
  have hf3_h0 : fs_103[3]? = some (.int 0) := by rw [efs_103, List.getElem?_set_ne (by decide)]; exact hf3_h0
  have hf5_h0 : fs_103[5]? = some (.int 0) := by rw [efs_103, List.getElem?_set_ne (by decide)]; exact hf5_h0
  have hf9_h0 : fs_103[9]? = some (.int 0) := by rw [efs_103, List.getElem?_set_ne (by decide)]; exact hf9_h0
  have hf25_h0 : fs_103[25]? = some (.int 0) := by rw [efs_103, List.getElem?_set_ne (by decide)]; exact hf25_h0
  have hf6_h0 : fs_103[6]? = some (.ref q_2) := by rw [efs_103, List.getElem?_set_ne (by decide)]; exact hf6_h0
  have hf7_h0 : fs_103[7]? = some (.ref q_5) := by rw [efs_103, List.getElem?_set_ne (by decide)]; exact hf7_h0
  have hf8_h0 : fs_103[8]? = some (.ref q_8) := by rw [efs_103, List.getElem?_set_ne (by decide)]; exact hf8_h0
  have hf10_h0 : fs_103[10]? = some (.ref q_11) := by rw [efs_103, List.getElem?_set_ne (by decide)]; exact hf10_h0
  have hf11_h0 : fs_103[11]? = some (.ref q_14) := by rw [efs_103, List.getElem?_set_ne (by decide)]; exact hf11_h0
  have hf12_h0 : fs_103[12]? = some (.ref q_17) := by rw [efs_103, List.getElem?_set_ne (by decide)]; exact hf12_h0
  have hf13_h0 : fs_103[13]? = some (.ref q_20) := by rw [efs_103, List.getElem?_set_ne (by decide)]; exact hf13_h0
  have hf14_h0 : fs_103[14]? = some (.ref q_23) := by rw [efs_103, List.getElem?_set_ne (by decide)]; exact hf14_h0
  have hf17_h0 : fs_103[17]? = some (.ref q_32) := by rw [efs_103, List.getElem?_set_ne (by decide)]; exact hf17_h0
  have hf18_h0 : fs_103[18]? = some (.ref q_35) := by rw [efs_103, List.getElem?_set_ne (by decide)]; exact hf18_h0
  have hf19_h0 : fs_103[19]? = some (.ref q_38) := by rw [efs_103, List.getElem?_set_ne (by decide)]; exact hf19_h0
  have hf22_h0 : fs_103[22]? = some (.ref q_47) := by rw [efs_103, List.getElem?_set_ne (by decide)]; exact hf22_h0
  have hlen_h0 : fs_103.length = 51 := by rw [efs_103, List.length_set]; exact hlen_h0
  have hK := hK.sub (tys' := [(cA_3, .int)]) [0] rfl
  have hP := hP.sub (ws' := [(h0, .inr (6, fs_103)), (q_2, .inl (cA_3, 8, .inl (fun _ => 0))), (q_5, .inl (cA_3, 32, .inl (fun _ => 0))), (q_8, .inl (cA_3, 100, .inl (fun _ => 0))), (q_11, .inl (cA_3, 40, .inl (fun _ => 0))), (q_14, .inl (cA_3, 40, .inl (fun _ => 0))), (q_17, .inl (cA_3, 40, .inl (fun _ => 0))), (q_20, .inl (cA_3, 40, .inl (fun _ => 0))), (q_23, .inl (cA_3, 40, .inl (fun _ => 0))), (q_32, .inl (cA_3, 40, .inl (fun _ => 0))), (q_35, .inl (cA_3, 40, .inl (fun _ => 0))), (q_38, .inl (cA_3, 40, .inl (fun _ => 0))), (q_47, .inl (cA_3, 40, .inl (fun _ => 0)))]) [0, 1, 2, 3, 4, 5, 6, 7, 8, 9, 10, 11, 12] rfl
  have hD := hD.sub (ws' := [(h0, .inr (6, fs_103)), (q_2, .inl (cA_3, 8, .inl (fun _ => 0))), (q_5, .inl (cA_3, 32, .inl (fun _ => 0))), (q_8, .inl (cA_3, 100, .inl (fun _ => 0))), (q_11, .inl (cA_3, 40, .inl (fun _ => 0))), (q_14, .inl (cA_3, 40, .inl (fun _ => 0))), (q_17, .inl (cA_3, 40, .inl (fun _ => 0))), (q_20, .inl (cA_3, 40, .inl (fun _ => 0))), (q_23, .inl (cA_3, 40, .inl (fun _ => 0))), (q_32, .inl (cA_3, 40, .inl (fun _ => 0))), (q_35, .inl (cA_3, 40, .inl (fun _ => 0))), (q_38, .inl (cA_3, 40, .inl (fun _ => 0))), (q_47, .inl (cA_3, 40, .inl (fun _ => 0)))]) [0, 1, 2, 3, 4, 5, 6, 7, 8, 9, 10, 11, 12] (by decide) rfl
  refine lv_aload_n hx hb dX6_init_288 rfl (lv_at hl 0 rfl) ?_
  refine lv_bipush (v := 40) hx hb dX6_init_289 (by decide) ?_
  refine va_newa (atype := .int) (N' := 40) (a0 := (40, .inl (fun _ => 0))) hx hb (hts _ wm_80) rfl hK hP hD hS hA (fun _ => rfl) (by decide) rfl (Nat.le_of_ble_eq_true rfl) (Nat.le_of_ble_eq_true rfl) (Nat.le_of_ble_eq_true rfl) dX6_init_291 (fun q_104 cA_105 H hK hP hD hS => ?_)
  have hK : va_K (dC, dI) vwCl [(cA_3, .int), (cA_105, .int)] s := hK
  have hP : va_P (dC, dI) vwCl [(h0, .inr (6, fs_103)), (q_2, .inl (cA_3, 8, .inl (fun _ => 0))), (q_5, .inl (cA_3, 32, .inl (fun _ => 0))), (q_8, .inl (cA_3, 100, .inl (fun _ => 0))), (q_11, .inl (cA_3, 40, .inl (fun _ => 0))), (q_14, .inl (cA_3, 40, .inl (fun _ => 0))), (q_17, .inl (cA_3, 40, .inl (fun _ => 0))), (q_20, .inl (cA_3, 40, .inl (fun _ => 0))), (q_23, .inl (cA_3, 40, .inl (fun _ => 0))), (q_32, .inl (cA_3, 40, .inl (fun _ => 0))), (q_35, .inl (cA_3, 40, .inl (fun _ => 0))), (q_38, .inl (cA_3, 40, .inl (fun _ => 0))), (q_47, .inl (cA_3, 40, .inl (fun _ => 0))), (q_104, .inl (cA_105, 40, .inl (fun _ => 0)))] H := hP
  have hD : va_D A [(h0, .inr (6, fs_103)), (q_2, .inl (cA_3, 8, .inl (fun _ => 0))), (q_5, .inl (cA_3, 32, .inl (fun _ => 0))), (q_8, .inl (cA_3, 100, .inl (fun _ => 0))), (q_11, .inl (cA_3, 40, .inl (fun _ => 0))), (q_14, .inl (cA_3, 40, .inl (fun _ => 0))), (q_17, .inl (cA_3, 40, .inl (fun _ => 0))), (q_20, .inl (cA_3, 40, .inl (fun _ => 0))), (q_23, .inl (cA_3, 40, .inl (fun _ => 0))), (q_32, .inl (cA_3, 40, .inl (fun _ => 0))), (q_35, .inl (cA_3, 40, .inl (fun _ => 0))), (q_38, .inl (cA_3, 40, .inl (fun _ => 0))), (q_47, .inl (cA_3, 40, .inl (fun _ => 0))), (q_104, .inl (cA_105, 40, .inl (fun _ => 0)))] := hD
  refine va_putF (D := (dC, dI)) (ci := 6) (v := .ref q_104) (ty := .array (.int)) (C := RX6) (T := TX6) (N := 51) hx hb hts uB6 tyX6 tyX6_ok nmX6 hown hK hP hD hS 0 rfl rfl 47 (by decide) (hts _ wm_185) (fun _ h9 => h9) rfl hin rfl (by decide +kernel) rfl rfl (by rw [hlen_h0]; decide) dX6_init_293 (fun H locs hP hD hS => ?_)
  obtain ⟨fs_106, efs_106⟩ : ∃ z9, z9 = (fs_103).set 47 (.ref q_104) := ⟨_, rfl⟩
  have hP : va_P (dC, dI) vwCl [(h0, .inr (6, fs_106)), (q_2, .inl (cA_3, 8, .inl (fun _ => 0))), (q_5, .inl (cA_3, 32, .inl (fun _ => 0))), (q_8, .inl (cA_3, 100, .inl (fun _ => 0))), (q_11, .inl (cA_3, 40, .inl (fun _ => 0))), (q_14, .inl (cA_3, 40, .inl (fun _ => 0))), (q_17, .inl (cA_3, 40, .inl (fun _ => 0))), (q_20, .inl (cA_3, 40, .inl (fun _ => 0))), (q_23, .inl (cA_3, 40, .inl (fun _ => 0))), (q_32, .inl (cA_3, 40, .inl (fun _ => 0))), (q_35, .inl (cA_3, 40, .inl (fun _ => 0))), (q_38, .inl (cA_3, 40, .inl (fun _ => 0))), (q_47, .inl (cA_3, 40, .inl (fun _ => 0))), (q_104, .inl (cA_105, 40, .inl (fun _ => 0)))] H := by rw [efs_106]; exact hP
  have hD : va_D A [(h0, .inr (6, fs_106)), (q_2, .inl (cA_3, 8, .inl (fun _ => 0))), (q_5, .inl (cA_3, 32, .inl (fun _ => 0))), (q_8, .inl (cA_3, 100, .inl (fun _ => 0))), (q_11, .inl (cA_3, 40, .inl (fun _ => 0))), (q_14, .inl (cA_3, 40, .inl (fun _ => 0))), (q_17, .inl (cA_3, 40, .inl (fun _ => 0))), (q_20, .inl (cA_3, 40, .inl (fun _ => 0))), (q_23, .inl (cA_3, 40, .inl (fun _ => 0))), (q_32, .inl (cA_3, 40, .inl (fun _ => 0))), (q_35, .inl (cA_3, 40, .inl (fun _ => 0))), (q_38, .inl (cA_3, 40, .inl (fun _ => 0))), (q_47, .inl (cA_3, 40, .inl (fun _ => 0))), (q_104, .inl (cA_105, 40, .inl (fun _ => 0)))] := by rw [efs_106]; exact hD
  have hf1_h0 : fs_106[1]? = some (.int 0) := by rw [efs_106, List.getElem?_set_ne (by decide)]; exact hf1_h0
  have hf2_h0 : fs_106[2]? = some (.int 0) := by rw [efs_106, List.getElem?_set_ne (by decide)]; exact hf2_h0
  have hf3_h0 : fs_106[3]? = some (.int 0) := by rw [efs_106, List.getElem?_set_ne (by decide)]; exact hf3_h0
  have hf5_h0 : fs_106[5]? = some (.int 0) := by rw [efs_106, List.getElem?_set_ne (by decide)]; exact hf5_h0
  have hf9_h0 : fs_106[9]? = some (.int 0) := by rw [efs_106, List.getElem?_set_ne (by decide)]; exact hf9_h0
  have hf25_h0 : fs_106[25]? = some (.int 0) := by rw [efs_106, List.getElem?_set_ne (by decide)]; exact hf25_h0
  have hf6_h0 : fs_106[6]? = some (.ref q_2) := by rw [efs_106, List.getElem?_set_ne (by decide)]; exact hf6_h0
  have hf7_h0 : fs_106[7]? = some (.ref q_5) := by rw [efs_106, List.getElem?_set_ne (by decide)]; exact hf7_h0
  have hf8_h0 : fs_106[8]? = some (.ref q_8) := by rw [efs_106, List.getElem?_set_ne (by decide)]; exact hf8_h0
  have hf10_h0 : fs_106[10]? = some (.ref q_11) := by rw [efs_106, List.getElem?_set_ne (by decide)]; exact hf10_h0
  have hf11_h0 : fs_106[11]? = some (.ref q_14) := by rw [efs_106, List.getElem?_set_ne (by decide)]; exact hf11_h0
  have hf12_h0 : fs_106[12]? = some (.ref q_17) := by rw [efs_106, List.getElem?_set_ne (by decide)]; exact hf12_h0
  have hf13_h0 : fs_106[13]? = some (.ref q_20) := by rw [efs_106, List.getElem?_set_ne (by decide)]; exact hf13_h0
  have hf14_h0 : fs_106[14]? = some (.ref q_23) := by rw [efs_106, List.getElem?_set_ne (by decide)]; exact hf14_h0
  have hf17_h0 : fs_106[17]? = some (.ref q_32) := by rw [efs_106, List.getElem?_set_ne (by decide)]; exact hf17_h0
  have hf18_h0 : fs_106[18]? = some (.ref q_35) := by rw [efs_106, List.getElem?_set_ne (by decide)]; exact hf18_h0
  have hf19_h0 : fs_106[19]? = some (.ref q_38) := by rw [efs_106, List.getElem?_set_ne (by decide)]; exact hf19_h0
  have hf22_h0 : fs_106[22]? = some (.ref q_47) := by rw [efs_106, List.getElem?_set_ne (by decide)]; exact hf22_h0
  have hlen_h0 : fs_106.length = 51 := by rw [efs_106, List.length_set]; exact hlen_h0
  have hK := hK.sub (tys' := [(cA_3, .int)]) [0] rfl
  have hP := hP.sub (ws' := [(h0, .inr (6, fs_106)), (q_2, .inl (cA_3, 8, .inl (fun _ => 0))), (q_5, .inl (cA_3, 32, .inl (fun _ => 0))), (q_8, .inl (cA_3, 100, .inl (fun _ => 0))), (q_11, .inl (cA_3, 40, .inl (fun _ => 0))), (q_14, .inl (cA_3, 40, .inl (fun _ => 0))), (q_17, .inl (cA_3, 40, .inl (fun _ => 0))), (q_20, .inl (cA_3, 40, .inl (fun _ => 0))), (q_23, .inl (cA_3, 40, .inl (fun _ => 0))), (q_32, .inl (cA_3, 40, .inl (fun _ => 0))), (q_35, .inl (cA_3, 40, .inl (fun _ => 0))), (q_38, .inl (cA_3, 40, .inl (fun _ => 0))), (q_47, .inl (cA_3, 40, .inl (fun _ => 0)))]) [0, 1, 2, 3, 4, 5, 6, 7, 8, 9, 10, 11, 12] rfl
  have hD := hD.sub (ws' := [(h0, .inr (6, fs_106)), (q_2, .inl (cA_3, 8, .inl (fun _ => 0))), (q_5, .inl (cA_3, 32, .inl (fun _ => 0))), (q_8, .inl (cA_3, 100, .inl (fun _ => 0))), (q_11, .inl (cA_3, 40, .inl (fun _ => 0))), (q_14, .inl (cA_3, 40, .inl (fun _ => 0))), (q_17, .inl (cA_3, 40, .inl (fun _ => 0))), (q_20, .inl (cA_3, 40, .inl (fun _ => 0))), (q_23, .inl (cA_3, 40, .inl (fun _ => 0))), (q_32, .inl (cA_3, 40, .inl (fun _ => 0))), (q_35, .inl (cA_3, 40, .inl (fun _ => 0))), (q_38, .inl (cA_3, 40, .inl (fun _ => 0))), (q_47, .inl (cA_3, 40, .inl (fun _ => 0)))]) [0, 1, 2, 3, 4, 5, 6, 7, 8, 9, 10, 11, 12] (by decide) rfl
  refine lv_aload_n hx hb dX6_init_296 rfl (lv_at hl 0 rfl) ?_
  refine lv_iconst (v := 5) hx hb dX6_init_297 (by decide) ?_
  refine va_newa (atype := .int) (N' := 5) (a0 := (5, .inl (fun _ => 0))) hx hb (hts _ wm_80) rfl hK hP hD hS hA (fun _ => rfl) (by decide) rfl (Nat.le_of_ble_eq_true rfl) (Nat.le_of_ble_eq_true rfl) (Nat.le_of_ble_eq_true rfl) dX6_init_298 (fun q_107 cA_108 H hK hP hD hS => ?_)
  have hK : va_K (dC, dI) vwCl [(cA_3, .int), (cA_108, .int)] s := hK
  have hP : va_P (dC, dI) vwCl [(h0, .inr (6, fs_106)), (q_2, .inl (cA_3, 8, .inl (fun _ => 0))), (q_5, .inl (cA_3, 32, .inl (fun _ => 0))), (q_8, .inl (cA_3, 100, .inl (fun _ => 0))), (q_11, .inl (cA_3, 40, .inl (fun _ => 0))), (q_14, .inl (cA_3, 40, .inl (fun _ => 0))), (q_17, .inl (cA_3, 40, .inl (fun _ => 0))), (q_20, .inl (cA_3, 40, .inl (fun _ => 0))), (q_23, .inl (cA_3, 40, .inl (fun _ => 0))), (q_32, .inl (cA_3, 40, .inl (fun _ => 0))), (q_35, .inl (cA_3, 40, .inl (fun _ => 0))), (q_38, .inl (cA_3, 40, .inl (fun _ => 0))), (q_47, .inl (cA_3, 40, .inl (fun _ => 0))), (q_107, .inl (cA_108, 5, .inl (fun _ => 0)))] H := hP
  have hD : va_D A [(h0, .inr (6, fs_106)), (q_2, .inl (cA_3, 8, .inl (fun _ => 0))), (q_5, .inl (cA_3, 32, .inl (fun _ => 0))), (q_8, .inl (cA_3, 100, .inl (fun _ => 0))), (q_11, .inl (cA_3, 40, .inl (fun _ => 0))), (q_14, .inl (cA_3, 40, .inl (fun _ => 0))), (q_17, .inl (cA_3, 40, .inl (fun _ => 0))), (q_20, .inl (cA_3, 40, .inl (fun _ => 0))), (q_23, .inl (cA_3, 40, .inl (fun _ => 0))), (q_32, .inl (cA_3, 40, .inl (fun _ => 0))), (q_35, .inl (cA_3, 40, .inl (fun _ => 0))), (q_38, .inl (cA_3, 40, .inl (fun _ => 0))), (q_47, .inl (cA_3, 40, .inl (fun _ => 0))), (q_107, .inl (cA_108, 5, .inl (fun _ => 0)))] := hD
  refine va_putF (D := (dC, dI)) (ci := 6) (v := .ref q_107) (ty := .array (.int)) (C := RX6) (T := TX6) (N := 51) hx hb hts uB6 tyX6 tyX6_ok nmX6 hown hK hP hD hS 0 rfl rfl 48 (by decide) (hts _ wm_186) (fun _ h9 => h9) rfl hin rfl (by decide +kernel) rfl rfl (by rw [hlen_h0]; decide) dX6_init_300 (fun H locs hP hD hS => ?_)
  obtain ⟨fs_109, efs_109⟩ : ∃ z9, z9 = (fs_106).set 48 (.ref q_107) := ⟨_, rfl⟩
  have hP : va_P (dC, dI) vwCl [(h0, .inr (6, fs_109)), (q_2, .inl (cA_3, 8, .inl (fun _ => 0))), (q_5, .inl (cA_3, 32, .inl (fun _ => 0))), (q_8, .inl (cA_3, 100, .inl (fun _ => 0))), (q_11, .inl (cA_3, 40, .inl (fun _ => 0))), (q_14, .inl (cA_3, 40, .inl (fun _ => 0))), (q_17, .inl (cA_3, 40, .inl (fun _ => 0))), (q_20, .inl (cA_3, 40, .inl (fun _ => 0))), (q_23, .inl (cA_3, 40, .inl (fun _ => 0))), (q_32, .inl (cA_3, 40, .inl (fun _ => 0))), (q_35, .inl (cA_3, 40, .inl (fun _ => 0))), (q_38, .inl (cA_3, 40, .inl (fun _ => 0))), (q_47, .inl (cA_3, 40, .inl (fun _ => 0))), (q_107, .inl (cA_108, 5, .inl (fun _ => 0)))] H := by rw [efs_109]; exact hP
  have hD : va_D A [(h0, .inr (6, fs_109)), (q_2, .inl (cA_3, 8, .inl (fun _ => 0))), (q_5, .inl (cA_3, 32, .inl (fun _ => 0))), (q_8, .inl (cA_3, 100, .inl (fun _ => 0))), (q_11, .inl (cA_3, 40, .inl (fun _ => 0))), (q_14, .inl (cA_3, 40, .inl (fun _ => 0))), (q_17, .inl (cA_3, 40, .inl (fun _ => 0))), (q_20, .inl (cA_3, 40, .inl (fun _ => 0))), (q_23, .inl (cA_3, 40, .inl (fun _ => 0))), (q_32, .inl (cA_3, 40, .inl (fun _ => 0))), (q_35, .inl (cA_3, 40, .inl (fun _ => 0))), (q_38, .inl (cA_3, 40, .inl (fun _ => 0))), (q_47, .inl (cA_3, 40, .inl (fun _ => 0))), (q_107, .inl (cA_108, 5, .inl (fun _ => 0)))] := by rw [efs_109]; exact hD
  have hf1_h0 : fs_109[1]? = some (.int 0) := by rw [efs_109, List.getElem?_set_ne (by decide)]; exact hf1_h0
  have hf2_h0 : fs_109[2]? = some (.int 0) := by rw [efs_109, List.getElem?_set_ne (by decide)]; exact hf2_h0
  have hf3_h0 : fs_109[3]? = some (.int 0) := by rw [efs_109, List.getElem?_set_ne (by decide)]; exact hf3_h0
  have hf5_h0 : fs_109[5]? = some (.int 0) := by rw [efs_109, List.getElem?_set_ne (by decide)]; exact hf5_h0
  have hf9_h0 : fs_109[9]? = some (.int 0) := by rw [efs_109, List.getElem?_set_ne (by decide)]; exact hf9_h0
  have hf25_h0 : fs_109[25]? = some (.int 0) := by rw [efs_109, List.getElem?_set_ne (by decide)]; exact hf25_h0
  have hf6_h0 : fs_109[6]? = some (.ref q_2) := by rw [efs_109, List.getElem?_set_ne (by decide)]; exact hf6_h0
  have hf7_h0 : fs_109[7]? = some (.ref q_5) := by rw [efs_109, List.getElem?_set_ne (by decide)]; exact hf7_h0
  have hf8_h0 : fs_109[8]? = some (.ref q_8) := by rw [efs_109, List.getElem?_set_ne (by decide)]; exact hf8_h0
  have hf10_h0 : fs_109[10]? = some (.ref q_11) := by rw [efs_109, List.getElem?_set_ne (by decide)]; exact hf10_h0
  have hf11_h0 : fs_109[11]? = some (.ref q_14) := by rw [efs_109, List.getElem?_set_ne (by decide)]; exact hf11_h0
  have hf12_h0 : fs_109[12]? = some (.ref q_17) := by rw [efs_109, List.getElem?_set_ne (by decide)]; exact hf12_h0
  have hf13_h0 : fs_109[13]? = some (.ref q_20) := by rw [efs_109, List.getElem?_set_ne (by decide)]; exact hf13_h0
  have hf14_h0 : fs_109[14]? = some (.ref q_23) := by rw [efs_109, List.getElem?_set_ne (by decide)]; exact hf14_h0
  have hf17_h0 : fs_109[17]? = some (.ref q_32) := by rw [efs_109, List.getElem?_set_ne (by decide)]; exact hf17_h0
  have hf18_h0 : fs_109[18]? = some (.ref q_35) := by rw [efs_109, List.getElem?_set_ne (by decide)]; exact hf18_h0
  have hf19_h0 : fs_109[19]? = some (.ref q_38) := by rw [efs_109, List.getElem?_set_ne (by decide)]; exact hf19_h0
  have hf22_h0 : fs_109[22]? = some (.ref q_47) := by rw [efs_109, List.getElem?_set_ne (by decide)]; exact hf22_h0
  have hlen_h0 : fs_109.length = 51 := by rw [efs_109, List.length_set]; exact hlen_h0
  have hK := hK.sub (tys' := [(cA_3, .int)]) [0] rfl
  have hP := hP.sub (ws' := [(h0, .inr (6, fs_109)), (q_2, .inl (cA_3, 8, .inl (fun _ => 0))), (q_5, .inl (cA_3, 32, .inl (fun _ => 0))), (q_8, .inl (cA_3, 100, .inl (fun _ => 0))), (q_11, .inl (cA_3, 40, .inl (fun _ => 0))), (q_14, .inl (cA_3, 40, .inl (fun _ => 0))), (q_17, .inl (cA_3, 40, .inl (fun _ => 0))), (q_20, .inl (cA_3, 40, .inl (fun _ => 0))), (q_23, .inl (cA_3, 40, .inl (fun _ => 0))), (q_32, .inl (cA_3, 40, .inl (fun _ => 0))), (q_35, .inl (cA_3, 40, .inl (fun _ => 0))), (q_38, .inl (cA_3, 40, .inl (fun _ => 0))), (q_47, .inl (cA_3, 40, .inl (fun _ => 0)))]) [0, 1, 2, 3, 4, 5, 6, 7, 8, 9, 10, 11, 12] rfl
  have hD := hD.sub (ws' := [(h0, .inr (6, fs_109)), (q_2, .inl (cA_3, 8, .inl (fun _ => 0))), (q_5, .inl (cA_3, 32, .inl (fun _ => 0))), (q_8, .inl (cA_3, 100, .inl (fun _ => 0))), (q_11, .inl (cA_3, 40, .inl (fun _ => 0))), (q_14, .inl (cA_3, 40, .inl (fun _ => 0))), (q_17, .inl (cA_3, 40, .inl (fun _ => 0))), (q_20, .inl (cA_3, 40, .inl (fun _ => 0))), (q_23, .inl (cA_3, 40, .inl (fun _ => 0))), (q_32, .inl (cA_3, 40, .inl (fun _ => 0))), (q_35, .inl (cA_3, 40, .inl (fun _ => 0))), (q_38, .inl (cA_3, 40, .inl (fun _ => 0))), (q_47, .inl (cA_3, 40, .inl (fun _ => 0)))]) [0, 1, 2, 3, 4, 5, 6, 7, 8, 9, 10, 11, 12] (by decide) rfl
  refine lv_aload_n hx hb dX6_init_303 rfl (lv_at hl 0 rfl) ?_
  refine lv_iconst (v := 4) hx hb dX6_init_304 (by decide) ?_
  refine va_newa (atype := .int) (N' := 4) (a0 := (4, .inl (fun _ => 0))) hx hb (hts _ wm_80) rfl hK hP hD hS hA (fun _ => rfl) (by decide) rfl (Nat.le_of_ble_eq_true rfl) (Nat.le_of_ble_eq_true rfl) (Nat.le_of_ble_eq_true rfl) dX6_init_305 (fun q_110 cA_111 H hK hP hD hS => ?_)
  have hK : va_K (dC, dI) vwCl [(cA_3, .int), (cA_111, .int)] s := hK
  have hP : va_P (dC, dI) vwCl [(h0, .inr (6, fs_109)), (q_2, .inl (cA_3, 8, .inl (fun _ => 0))), (q_5, .inl (cA_3, 32, .inl (fun _ => 0))), (q_8, .inl (cA_3, 100, .inl (fun _ => 0))), (q_11, .inl (cA_3, 40, .inl (fun _ => 0))), (q_14, .inl (cA_3, 40, .inl (fun _ => 0))), (q_17, .inl (cA_3, 40, .inl (fun _ => 0))), (q_20, .inl (cA_3, 40, .inl (fun _ => 0))), (q_23, .inl (cA_3, 40, .inl (fun _ => 0))), (q_32, .inl (cA_3, 40, .inl (fun _ => 0))), (q_35, .inl (cA_3, 40, .inl (fun _ => 0))), (q_38, .inl (cA_3, 40, .inl (fun _ => 0))), (q_47, .inl (cA_3, 40, .inl (fun _ => 0))), (q_110, .inl (cA_111, 4, .inl (fun _ => 0)))] H := hP
  have hD : va_D A [(h0, .inr (6, fs_109)), (q_2, .inl (cA_3, 8, .inl (fun _ => 0))), (q_5, .inl (cA_3, 32, .inl (fun _ => 0))), (q_8, .inl (cA_3, 100, .inl (fun _ => 0))), (q_11, .inl (cA_3, 40, .inl (fun _ => 0))), (q_14, .inl (cA_3, 40, .inl (fun _ => 0))), (q_17, .inl (cA_3, 40, .inl (fun _ => 0))), (q_20, .inl (cA_3, 40, .inl (fun _ => 0))), (q_23, .inl (cA_3, 40, .inl (fun _ => 0))), (q_32, .inl (cA_3, 40, .inl (fun _ => 0))), (q_35, .inl (cA_3, 40, .inl (fun _ => 0))), (q_38, .inl (cA_3, 40, .inl (fun _ => 0))), (q_47, .inl (cA_3, 40, .inl (fun _ => 0))), (q_110, .inl (cA_111, 4, .inl (fun _ => 0)))] := hD
  refine va_putF (D := (dC, dI)) (ci := 6) (v := .ref q_110) (ty := .array (.int)) (C := RX6) (T := TX6) (N := 51) hx hb hts uB6 tyX6 tyX6_ok nmX6 hown hK hP hD hS 0 rfl rfl 49 (by decide) (hts _ wm_187) (fun _ h9 => h9) rfl hin rfl (by decide +kernel) rfl rfl (by rw [hlen_h0]; decide) dX6_init_307 (fun H locs hP hD hS => ?_)
  obtain ⟨fs_112, efs_112⟩ : ∃ z9, z9 = (fs_109).set 49 (.ref q_110) := ⟨_, rfl⟩
  have hP : va_P (dC, dI) vwCl [(h0, .inr (6, fs_112)), (q_2, .inl (cA_3, 8, .inl (fun _ => 0))), (q_5, .inl (cA_3, 32, .inl (fun _ => 0))), (q_8, .inl (cA_3, 100, .inl (fun _ => 0))), (q_11, .inl (cA_3, 40, .inl (fun _ => 0))), (q_14, .inl (cA_3, 40, .inl (fun _ => 0))), (q_17, .inl (cA_3, 40, .inl (fun _ => 0))), (q_20, .inl (cA_3, 40, .inl (fun _ => 0))), (q_23, .inl (cA_3, 40, .inl (fun _ => 0))), (q_32, .inl (cA_3, 40, .inl (fun _ => 0))), (q_35, .inl (cA_3, 40, .inl (fun _ => 0))), (q_38, .inl (cA_3, 40, .inl (fun _ => 0))), (q_47, .inl (cA_3, 40, .inl (fun _ => 0))), (q_110, .inl (cA_111, 4, .inl (fun _ => 0)))] H := by rw [efs_112]; exact hP
  have hD : va_D A [(h0, .inr (6, fs_112)), (q_2, .inl (cA_3, 8, .inl (fun _ => 0))), (q_5, .inl (cA_3, 32, .inl (fun _ => 0))), (q_8, .inl (cA_3, 100, .inl (fun _ => 0))), (q_11, .inl (cA_3, 40, .inl (fun _ => 0))), (q_14, .inl (cA_3, 40, .inl (fun _ => 0))), (q_17, .inl (cA_3, 40, .inl (fun _ => 0))), (q_20, .inl (cA_3, 40, .inl (fun _ => 0))), (q_23, .inl (cA_3, 40, .inl (fun _ => 0))), (q_32, .inl (cA_3, 40, .inl (fun _ => 0))), (q_35, .inl (cA_3, 40, .inl (fun _ => 0))), (q_38, .inl (cA_3, 40, .inl (fun _ => 0))), (q_47, .inl (cA_3, 40, .inl (fun _ => 0))), (q_110, .inl (cA_111, 4, .inl (fun _ => 0)))] := by rw [efs_112]; exact hD
  have hf1_h0 : fs_112[1]? = some (.int 0) := by rw [efs_112, List.getElem?_set_ne (by decide)]; exact hf1_h0
  have hf2_h0 : fs_112[2]? = some (.int 0) := by rw [efs_112, List.getElem?_set_ne (by decide)]; exact hf2_h0
  have hf3_h0 : fs_112[3]? = some (.int 0) := by rw [efs_112, List.getElem?_set_ne (by decide)]; exact hf3_h0
  have hf5_h0 : fs_112[5]? = some (.int 0) := by rw [efs_112, List.getElem?_set_ne (by decide)]; exact hf5_h0
  have hf9_h0 : fs_112[9]? = some (.int 0) := by rw [efs_112, List.getElem?_set_ne (by decide)]; exact hf9_h0
  have hf25_h0 : fs_112[25]? = some (.int 0) := by rw [efs_112, List.getElem?_set_ne (by decide)]; exact hf25_h0
  have hf6_h0 : fs_112[6]? = some (.ref q_2) := by rw [efs_112, List.getElem?_set_ne (by decide)]; exact hf6_h0
  have hf7_h0 : fs_112[7]? = some (.ref q_5) := by rw [efs_112, List.getElem?_set_ne (by decide)]; exact hf7_h0
  have hf8_h0 : fs_112[8]? = some (.ref q_8) := by rw [efs_112, List.getElem?_set_ne (by decide)]; exact hf8_h0
  have hf10_h0 : fs_112[10]? = some (.ref q_11) := by rw [efs_112, List.getElem?_set_ne (by decide)]; exact hf10_h0
  have hf11_h0 : fs_112[11]? = some (.ref q_14) := by rw [efs_112, List.getElem?_set_ne (by decide)]; exact hf11_h0
  have hf12_h0 : fs_112[12]? = some (.ref q_17) := by rw [efs_112, List.getElem?_set_ne (by decide)]; exact hf12_h0
  have hf13_h0 : fs_112[13]? = some (.ref q_20) := by rw [efs_112, List.getElem?_set_ne (by decide)]; exact hf13_h0
  have hf14_h0 : fs_112[14]? = some (.ref q_23) := by rw [efs_112, List.getElem?_set_ne (by decide)]; exact hf14_h0
  have hf17_h0 : fs_112[17]? = some (.ref q_32) := by rw [efs_112, List.getElem?_set_ne (by decide)]; exact hf17_h0
  have hf18_h0 : fs_112[18]? = some (.ref q_35) := by rw [efs_112, List.getElem?_set_ne (by decide)]; exact hf18_h0
  have hf19_h0 : fs_112[19]? = some (.ref q_38) := by rw [efs_112, List.getElem?_set_ne (by decide)]; exact hf19_h0
  have hf22_h0 : fs_112[22]? = some (.ref q_47) := by rw [efs_112, List.getElem?_set_ne (by decide)]; exact hf22_h0
  have hlen_h0 : fs_112.length = 51 := by rw [efs_112, List.length_set]; exact hlen_h0
  have hK := hK.sub (tys' := [(cA_3, .int)]) [0] rfl
  have hP := hP.sub (ws' := [(h0, .inr (6, fs_112)), (q_2, .inl (cA_3, 8, .inl (fun _ => 0))), (q_5, .inl (cA_3, 32, .inl (fun _ => 0))), (q_8, .inl (cA_3, 100, .inl (fun _ => 0))), (q_11, .inl (cA_3, 40, .inl (fun _ => 0))), (q_14, .inl (cA_3, 40, .inl (fun _ => 0))), (q_17, .inl (cA_3, 40, .inl (fun _ => 0))), (q_20, .inl (cA_3, 40, .inl (fun _ => 0))), (q_23, .inl (cA_3, 40, .inl (fun _ => 0))), (q_32, .inl (cA_3, 40, .inl (fun _ => 0))), (q_35, .inl (cA_3, 40, .inl (fun _ => 0))), (q_38, .inl (cA_3, 40, .inl (fun _ => 0))), (q_47, .inl (cA_3, 40, .inl (fun _ => 0)))]) [0, 1, 2, 3, 4, 5, 6, 7, 8, 9, 10, 11, 12] rfl
  have hD := hD.sub (ws' := [(h0, .inr (6, fs_112)), (q_2, .inl (cA_3, 8, .inl (fun _ => 0))), (q_5, .inl (cA_3, 32, .inl (fun _ => 0))), (q_8, .inl (cA_3, 100, .inl (fun _ => 0))), (q_11, .inl (cA_3, 40, .inl (fun _ => 0))), (q_14, .inl (cA_3, 40, .inl (fun _ => 0))), (q_17, .inl (cA_3, 40, .inl (fun _ => 0))), (q_20, .inl (cA_3, 40, .inl (fun _ => 0))), (q_23, .inl (cA_3, 40, .inl (fun _ => 0))), (q_32, .inl (cA_3, 40, .inl (fun _ => 0))), (q_35, .inl (cA_3, 40, .inl (fun _ => 0))), (q_38, .inl (cA_3, 40, .inl (fun _ => 0))), (q_47, .inl (cA_3, 40, .inl (fun _ => 0)))]) [0, 1, 2, 3, 4, 5, 6, 7, 8, 9, 10, 11, 12] (by decide) rfl
  refine lv_aload_n hx hb dX6_init_310 rfl (lv_at hl 0 rfl) ?_
  refine lv_iconst (v := 4) hx hb dX6_init_311 (by decide) ?_
  refine va_newa (atype := .int) (N' := 4) (a0 := (4, .inl (fun _ => 0))) hx hb (hts _ wm_80) rfl hK hP hD hS hA (fun _ => rfl) (by decide) rfl (Nat.le_of_ble_eq_true rfl) (Nat.le_of_ble_eq_true rfl) (Nat.le_of_ble_eq_true rfl) dX6_init_312 (fun q_113 cA_114 H hK hP hD hS => ?_)
  have hK : va_K (dC, dI) vwCl [(cA_3, .int), (cA_114, .int)] s := hK
  have hP : va_P (dC, dI) vwCl [(h0, .inr (6, fs_112)), (q_2, .inl (cA_3, 8, .inl (fun _ => 0))), (q_5, .inl (cA_3, 32, .inl (fun _ => 0))), (q_8, .inl (cA_3, 100, .inl (fun _ => 0))), (q_11, .inl (cA_3, 40, .inl (fun _ => 0))), (q_14, .inl (cA_3, 40, .inl (fun _ => 0))), (q_17, .inl (cA_3, 40, .inl (fun _ => 0))), (q_20, .inl (cA_3, 40, .inl (fun _ => 0))), (q_23, .inl (cA_3, 40, .inl (fun _ => 0))), (q_32, .inl (cA_3, 40, .inl (fun _ => 0))), (q_35, .inl (cA_3, 40, .inl (fun _ => 0))), (q_38, .inl (cA_3, 40, .inl (fun _ => 0))), (q_47, .inl (cA_3, 40, .inl (fun _ => 0))), (q_113, .inl (cA_114, 4, .inl (fun _ => 0)))] H := hP
  have hD : va_D A [(h0, .inr (6, fs_112)), (q_2, .inl (cA_3, 8, .inl (fun _ => 0))), (q_5, .inl (cA_3, 32, .inl (fun _ => 0))), (q_8, .inl (cA_3, 100, .inl (fun _ => 0))), (q_11, .inl (cA_3, 40, .inl (fun _ => 0))), (q_14, .inl (cA_3, 40, .inl (fun _ => 0))), (q_17, .inl (cA_3, 40, .inl (fun _ => 0))), (q_20, .inl (cA_3, 40, .inl (fun _ => 0))), (q_23, .inl (cA_3, 40, .inl (fun _ => 0))), (q_32, .inl (cA_3, 40, .inl (fun _ => 0))), (q_35, .inl (cA_3, 40, .inl (fun _ => 0))), (q_38, .inl (cA_3, 40, .inl (fun _ => 0))), (q_47, .inl (cA_3, 40, .inl (fun _ => 0))), (q_113, .inl (cA_114, 4, .inl (fun _ => 0)))] := hD
  refine va_putF (D := (dC, dI)) (ci := 6) (v := .ref q_113) (ty := .array (.int)) (C := RX6) (T := TX6) (N := 51) hx hb hts uB6 tyX6 tyX6_ok nmX6 hown hK hP hD hS 0 rfl rfl 50 (by decide) (hts _ wm_188) (fun _ h9 => h9) rfl hin rfl (by decide +kernel) rfl rfl (by rw [hlen_h0]; decide) dX6_init_314 (fun H locs hP hD hS => ?_)
  obtain ⟨fs_115, efs_115⟩ : ∃ z9, z9 = (fs_112).set 50 (.ref q_113) := ⟨_, rfl⟩
  have hP : va_P (dC, dI) vwCl [(h0, .inr (6, fs_115)), (q_2, .inl (cA_3, 8, .inl (fun _ => 0))), (q_5, .inl (cA_3, 32, .inl (fun _ => 0))), (q_8, .inl (cA_3, 100, .inl (fun _ => 0))), (q_11, .inl (cA_3, 40, .inl (fun _ => 0))), (q_14, .inl (cA_3, 40, .inl (fun _ => 0))), (q_17, .inl (cA_3, 40, .inl (fun _ => 0))), (q_20, .inl (cA_3, 40, .inl (fun _ => 0))), (q_23, .inl (cA_3, 40, .inl (fun _ => 0))), (q_32, .inl (cA_3, 40, .inl (fun _ => 0))), (q_35, .inl (cA_3, 40, .inl (fun _ => 0))), (q_38, .inl (cA_3, 40, .inl (fun _ => 0))), (q_47, .inl (cA_3, 40, .inl (fun _ => 0))), (q_113, .inl (cA_114, 4, .inl (fun _ => 0)))] H := by rw [efs_115]; exact hP
  have hD : va_D A [(h0, .inr (6, fs_115)), (q_2, .inl (cA_3, 8, .inl (fun _ => 0))), (q_5, .inl (cA_3, 32, .inl (fun _ => 0))), (q_8, .inl (cA_3, 100, .inl (fun _ => 0))), (q_11, .inl (cA_3, 40, .inl (fun _ => 0))), (q_14, .inl (cA_3, 40, .inl (fun _ => 0))), (q_17, .inl (cA_3, 40, .inl (fun _ => 0))), (q_20, .inl (cA_3, 40, .inl (fun _ => 0))), (q_23, .inl (cA_3, 40, .inl (fun _ => 0))), (q_32, .inl (cA_3, 40, .inl (fun _ => 0))), (q_35, .inl (cA_3, 40, .inl (fun _ => 0))), (q_38, .inl (cA_3, 40, .inl (fun _ => 0))), (q_47, .inl (cA_3, 40, .inl (fun _ => 0))), (q_113, .inl (cA_114, 4, .inl (fun _ => 0)))] := by rw [efs_115]; exact hD
  have hf1_h0 : fs_115[1]? = some (.int 0) := by rw [efs_115, List.getElem?_set_ne (by decide)]; exact hf1_h0
  have hf2_h0 : fs_115[2]? = some (.int 0) := by rw [efs_115, List.getElem?_set_ne (by decide)]; exact hf2_h0
  have hf3_h0 : fs_115[3]? = some (.int 0) := by rw [efs_115, List.getElem?_set_ne (by decide)]; exact hf3_h0
  have hf5_h0 : fs_115[5]? = some (.int 0) := by rw [efs_115, List.getElem?_set_ne (by decide)]; exact hf5_h0
  have hf9_h0 : fs_115[9]? = some (.int 0) := by rw [efs_115, List.getElem?_set_ne (by decide)]; exact hf9_h0
  have hf25_h0 : fs_115[25]? = some (.int 0) := by rw [efs_115, List.getElem?_set_ne (by decide)]; exact hf25_h0
  have hf6_h0 : fs_115[6]? = some (.ref q_2) := by rw [efs_115, List.getElem?_set_ne (by decide)]; exact hf6_h0
  have hf7_h0 : fs_115[7]? = some (.ref q_5) := by rw [efs_115, List.getElem?_set_ne (by decide)]; exact hf7_h0
  have hf8_h0 : fs_115[8]? = some (.ref q_8) := by rw [efs_115, List.getElem?_set_ne (by decide)]; exact hf8_h0
  have hf10_h0 : fs_115[10]? = some (.ref q_11) := by rw [efs_115, List.getElem?_set_ne (by decide)]; exact hf10_h0
  have hf11_h0 : fs_115[11]? = some (.ref q_14) := by rw [efs_115, List.getElem?_set_ne (by decide)]; exact hf11_h0
  have hf12_h0 : fs_115[12]? = some (.ref q_17) := by rw [efs_115, List.getElem?_set_ne (by decide)]; exact hf12_h0
  have hf13_h0 : fs_115[13]? = some (.ref q_20) := by rw [efs_115, List.getElem?_set_ne (by decide)]; exact hf13_h0
  have hf14_h0 : fs_115[14]? = some (.ref q_23) := by rw [efs_115, List.getElem?_set_ne (by decide)]; exact hf14_h0
  have hf17_h0 : fs_115[17]? = some (.ref q_32) := by rw [efs_115, List.getElem?_set_ne (by decide)]; exact hf17_h0
  have hf18_h0 : fs_115[18]? = some (.ref q_35) := by rw [efs_115, List.getElem?_set_ne (by decide)]; exact hf18_h0
  have hf19_h0 : fs_115[19]? = some (.ref q_38) := by rw [efs_115, List.getElem?_set_ne (by decide)]; exact hf19_h0
  have hf22_h0 : fs_115[22]? = some (.ref q_47) := by rw [efs_115, List.getElem?_set_ne (by decide)]; exact hf22_h0
  have hlen_h0 : fs_115.length = 51 := by rw [efs_115, List.length_set]; exact hlen_h0
  have hK := hK.sub (tys' := [(cA_3, .int)]) [0] rfl
  have hP := hP.sub (ws' := [(h0, .inr (6, fs_115)), (q_2, .inl (cA_3, 8, .inl (fun _ => 0))), (q_5, .inl (cA_3, 32, .inl (fun _ => 0))), (q_8, .inl (cA_3, 100, .inl (fun _ => 0))), (q_11, .inl (cA_3, 40, .inl (fun _ => 0))), (q_14, .inl (cA_3, 40, .inl (fun _ => 0))), (q_17, .inl (cA_3, 40, .inl (fun _ => 0))), (q_20, .inl (cA_3, 40, .inl (fun _ => 0))), (q_23, .inl (cA_3, 40, .inl (fun _ => 0))), (q_32, .inl (cA_3, 40, .inl (fun _ => 0))), (q_35, .inl (cA_3, 40, .inl (fun _ => 0))), (q_38, .inl (cA_3, 40, .inl (fun _ => 0))), (q_47, .inl (cA_3, 40, .inl (fun _ => 0)))]) [0, 1, 2, 3, 4, 5, 6, 7, 8, 9, 10, 11, 12] rfl
  have hD := hD.sub (ws' := [(h0, .inr (6, fs_115)), (q_2, .inl (cA_3, 8, .inl (fun _ => 0))), (q_5, .inl (cA_3, 32, .inl (fun _ => 0))), (q_8, .inl (cA_3, 100, .inl (fun _ => 0))), (q_11, .inl (cA_3, 40, .inl (fun _ => 0))), (q_14, .inl (cA_3, 40, .inl (fun _ => 0))), (q_17, .inl (cA_3, 40, .inl (fun _ => 0))), (q_20, .inl (cA_3, 40, .inl (fun _ => 0))), (q_23, .inl (cA_3, 40, .inl (fun _ => 0))), (q_32, .inl (cA_3, 40, .inl (fun _ => 0))), (q_35, .inl (cA_3, 40, .inl (fun _ => 0))), (q_38, .inl (cA_3, 40, .inl (fun _ => 0))), (q_47, .inl (cA_3, 40, .inl (fun _ => 0)))]) [0, 1, 2, 3, 4, 5, 6, 7, 8, 9, 10, 11, 12] (by decide) rfl
  exact W.vret hx hb hr (fun t ht hW => ⟨⟨(fs_115, q_2, q_5, q_8, q_11, q_14, q_17, q_20, q_23, q_32, q_35, q_38, q_47, cA_3), rfl, ⟨hlen_h0, hf6_h0, hf7_h0, hf8_h0, hf10_h0, hf11_h0, hf12_h0, hf13_h0, hf14_h0, hf17_h0, hf18_h0, hf19_h0, hf22_h0, hf1_h0, hf2_h0, hf3_h0, hf5_h0, hf9_h0, hf25_h0⟩, by show va_P (dC, dI) vwCl [(h0, .inr (6, fs_115)), (q_2, .inl (cA_3, 8, .inl (fun _ => 0))), (q_5, .inl (cA_3, 32, .inl (fun _ => 0))), (q_8, .inl (cA_3, 100, .inl (fun _ => 0))), (q_11, .inl (cA_3, 40, .inl (fun _ => 0))), (q_14, .inl (cA_3, 40, .inl (fun _ => 0))), (q_17, .inl (cA_3, 40, .inl (fun _ => 0))), (q_20, .inl (cA_3, 40, .inl (fun _ => 0))), (q_23, .inl (cA_3, 40, .inl (fun _ => 0))), (q_32, .inl (cA_3, 40, .inl (fun _ => 0))), (q_35, .inl (cA_3, 40, .inl (fun _ => 0))), (q_38, .inl (cA_3, 40, .inl (fun _ => 0))), (q_47, .inl (cA_3, 40, .inl (fun _ => 0)))] t.heap; rw [ht]; exact hP, va_K.moved hW.alike hK, hD⟩, hS.F ht⟩) hS.2.2 dX6_init_317
