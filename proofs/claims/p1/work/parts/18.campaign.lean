set_option maxHeartbeats 4000000 in
set_option maxRecDepth 100000 in
theorem o_Tally (l : Launch) (dC : Nat → ClassId) (dI : Nat → Nat → Nat) (sz : Nat) (h0 : Nat) (fs : List Value)  (hlen_h0 : fs.length = 8) : mOv l yX4_init cX4_init 1 1 0 0 (dC, dI) h0 4 fs sz [] (fun _ => True) [.ref h0] (fun _ => True) := by
  refine Met.ofW (cc := cX4_init) (maxL := 1) (ret := none) (by decide) rfl ?_
  intro p e s m args below meth c s₁ B hml hv
  obtain ⟨rfl, hsz, hP, hK, hex⟩ := hv
  subst hsz
  have hx := B.exec
  have hb := B.bytes
  have hr := B.returns
  have hlocks := B.notSynchronized
  have hts0 := atoms_spec (ws := Cond.code yX4_init cX4_init 1 none :: lw_B) B.pre
  have hts : ∀ w ∈ lw_B, w.before _ s = true := fun w h => hts0 w (List.mem_cons_of_mem _ h)
  have hown : s.vm.findClass RX4 = some m.cls := findClass_of_methodNamed B.named
  have hin : meth.name = "<init>" := (name_of_methodNamed B.named B.method).1
  have hD : va_D (aO h0 s.heap.size) [(h0, .inr (4, fs))] := ⟨fun i j p q h1 h2 _ => by have a1 := (List.getElem?_eq_some_iff.mp h1).1; have a2 := (List.getElem?_eq_some_iff.mp h2).1; simp at a1 a2; omega, fun k q h => by have a1 := (List.getElem?_eq_some_iff.mp h).1; simp at a1; subst a1; cases h; exact Or.inl rfl⟩
  generalize hAe : aO h0 s.heap.size = A at hD ⊢
  have hA : ∀ q : Nat, s.heap.size ≤ q → A q := fun q h => by rw [← hAe]; exact Or.inr h
  have hS : va_S A s.heap s.heap [] := va_S.rf
  have hl := lv_entry ([.ref h0]) (n := 1) (Nat.le_of_ble_eq_true rfl)
  rw [lg_entry_eq]
  generalize (lg_sl ([.ref h0]) ++ List.replicate (1 - (lg_sl ([.ref h0])).length) Slot.unset).toArray = ls at hl ⊢
  have hl : lv_has ls 1 [(0, .ref h0)] := hl
  refine lv_aload_n hx hb dX4_init_0 rfl (lv_at hl 0 rfl) ?_
  refine W.objInit hx hb hown (hts _ wm_97) (hts _ wm_78) (hts _ wm_79) rfl (by rw [hml]; exact hl.1) rfl dX4_init_1 (Nat.le_of_ble_eq_true rfl) (Nat.le_of_ble_eq_true rfl) ?_
  refine W.eq (g2 := F0 m 4 ls []) rfl ?_
  exact W.vret hx hb hr (fun t ht hW => ⟨⟨fs, rfl, trivial, by show va_P (dC, dI) vwCl [(h0, .inr (4, fs))] t.heap; rw [ht]; exact hP.sub [0] rfl⟩, hS.F ht⟩) hS.2.2 dX4_init_4
set_option maxHeartbeats 4000000 in
set_option maxRecDepth 100000 in
theorem o_Campaign (l : Launch) (dC : Nat → ClassId) (dI : Nat → Nat → Nat) (sz : Nat) (h0 : Nat) (fs : List Value) (x y z : Int32) (hlen_h0 : fs.length = 16) : mOv l yX0_init cX0_init 4 2 1 8 (dC, dI) h0 0 fs sz [] (va_Nw (.methodLinkNest RX0 11 yX4_init "NoticeMarket")) [.ref h0, .int x, .int y, .int z] (fun _ => True) := by
  refine Met.ofW (cc := cX0_init) (maxL := 4) (ret := none) (by decide) rfl ?_
  intro p e s m args below meth c s₁ B hml hv
  obtain ⟨rfl, hsz, hP, hK, hex⟩ := hv
  subst hsz
  have hx := B.exec
  have hb := B.bytes
  have hr := B.returns
  have hlocks := B.notSynchronized
  have hts0 := atoms_spec (ws := Cond.code yX0_init cX0_init 4 none :: lw_B) B.pre
  have hts : ∀ w ∈ lw_B, w.before _ s = true := fun w h => hts0 w (List.mem_cons_of_mem _ h)
  have hown : s.vm.findClass RX0 = some m.cls := findClass_of_methodNamed B.named
  have hin : meth.name = "<init>" := (name_of_methodNamed B.named B.method).1
  have hD : va_D (aO h0 s.heap.size) [(h0, .inr (0, fs))] := ⟨fun i j p q h1 h2 _ => by have a1 := (List.getElem?_eq_some_iff.mp h1).1; have a2 := (List.getElem?_eq_some_iff.mp h2).1; simp at a1 a2; omega, fun k q h => by have a1 := (List.getElem?_eq_some_iff.mp h).1; simp at a1; subst a1; cases h; exact Or.inl rfl⟩
  generalize hAe : aO h0 s.heap.size = A at hD ⊢
  have hA : ∀ q : Nat, s.heap.size ≤ q → A q := fun q h => by rw [← hAe]; exact Or.inr h
  have hS : va_S A s.heap s.heap [] := va_S.rf
  have hl := lv_entry ([.ref h0, .int x, .int y, .int z]) (n := 4) (Nat.le_of_ble_eq_true rfl)
  rw [lg_entry_eq]
  generalize (lg_sl ([.ref h0, .int x, .int y, .int z]) ++ List.replicate (4 - (lg_sl ([.ref h0, .int x, .int y, .int z])).length) Slot.unset).toArray = ls at hl ⊢
  have hl : lv_has ls 4 [(0, .ref h0), (1, .int x), (2, .int y), (3, .int z)] := hl
  refine lv_aload_n hx hb dX0_init_0 rfl (lv_at hl 0 rfl) ?_
  refine W.objInit hx hb hown (hts _ wm_98) (hts _ wm_78) (hts _ wm_79) rfl (by rw [hml]; exact hl.1) rfl dX0_init_1 (Nat.le_of_ble_eq_true rfl) (Nat.le_of_ble_eq_true rfl) ?_
  refine W.eq (g2 := F0 m 4 ls []) rfl ?_
  refine lv_aload_n hx hb dX0_init_4 rfl (lv_at hl 0 rfl) ?_
  refine va_new (ci := 4) (fs := [.int 0, .int 0, .int 0, .int 0, .int 0, .int 0, .int 0, .null]) (C := RX4) (T := TX4) (N := 8) hx hb hts uB4 tyX4 tyX4_ok hown (hts _ wm_99) (hts _ wm_100) (hts _ wm_101) hK hP hD hS hA rfl (by decide +kernel) (Nat.le_of_ble_eq_true rfl) (Nat.le_of_ble_eq_true rfl) dX0_init_5 (fun q_1 H hP hD hS => ?_)
  have hP : va_P (dC, dI) vwCl [(h0, .inr (0, fs)), (q_1, .inr (4, [.int 0, .int 0, .int 0, .int 0, .int 0, .int 0, .int 0, .null]))] H := hP
  have hD : va_D A [(h0, .inr (0, fs)), (q_1, .inr (4, [.int 0, .int 0, .int 0, .int 0, .int 0, .int 0, .int 0, .null]))] := hD
  refine lv_dup hx hb dX0_init_8 rfl ?_
  refine k_OIN (ci := 4) (q0 := 1) (tc := []) (ex := (fun _ => True)) ⟨hx, hb, hml, hown, hts⟩ (o_Tally l dC dI H.size q_1 [.int 0, .int 0, .int 0, .int 0, .int 0, .int 0, .int 0, .null] rfl) 0 hex wm_102 wm_101 wm_103 rfl (by decide +kernel) ⟨Nat.le_of_ble_eq_true rfl, Nat.le_of_ble_eq_true rfl⟩ (hK.sub (tys' := []) [] rfl) exT rfl rfl hl.1 rfl (Nat.le_of_ble_eq_true rfl) dX0_init_9 ⟨Nat.le_of_ble_eq_true rfl, Nat.le_of_ble_eq_true rfl⟩ hP hD hS hA (fun fs_2 H locs efs_2 hP hD hS => ?_)
  have hP : va_P (dC, dI) vwCl [(h0, .inr (0, fs)), (q_1, .inr (4, fs_2))] H := hP
  have hD : va_D A [(h0, .inr (0, fs)), (q_1, .inr (4, fs_2))] := hD
  refine va_putF (D := (dC, dI)) (ci := 0) (v := .ref q_1) (ty := .object "NoticeMarket$Tally") (C := RX0) (T := TX0) (N := 16) hx hb hts uB0 tyX0 tyX0_ok nmX0 hown hK hP hD hS 0 rfl rfl 5 (by decide) (hts _ wm_104) (fun _ h9 => h9) rfl hin rfl (by decide +kernel) rfl rfl (by rw [hlen_h0]; decide) dX0_init_12 (fun H locs hP hD hS => ?_)
  obtain ⟨fs_3, efs_3⟩ : ∃ z9, z9 = (fs).set 5 (.ref q_1) := ⟨_, rfl⟩
  have hP : va_P (dC, dI) vwCl [(h0, .inr (0, fs_3)), (q_1, .inr (4, fs_2))] H := by rw [efs_3]; exact hP
  have hD : va_D A [(h0, .inr (0, fs_3)), (q_1, .inr (4, fs_2))] := by rw [efs_3]; exact hD
  have hf5_h0 : fs_3[5]? = some (.ref q_1) := by rw [efs_3]; exact List.getElem?_set_self (by rw [hlen_h0]; decide)
  have hlen_h0 : fs_3.length = 16 := by rw [efs_3, List.length_set]; exact hlen_h0
  refine lv_aload_n hx hb dX0_init_15 rfl (lv_at hl 0 rfl) ?_
  refine lv_bipush (v := 9) hx hb dX0_init_16 (by decide) ?_
  refine va_put (D := (dC, dI)) (ci := 0) (v := .int 9) (ty := .int) (C := RX0) (T := TX0) (N := 16) hx hb hts uB0 tyX0 tyX0_ok nmX0 hown hK hP hD hS 0 rfl rfl 8 (by decide) (hts _ wm_105) (fun _ h9 => h9) rfl (by decide +kernel) rfl rfl (by rw [hlen_h0]; decide) dX0_init_18 (fun H locs hP hD hS => ?_)
  obtain ⟨fs_4, efs_4⟩ : ∃ z9, z9 = (fs_3).set 8 (.int 9) := ⟨_, rfl⟩
  have hP : va_P (dC, dI) vwCl [(h0, .inr (0, fs_4)), (q_1, .inr (4, fs_2))] H := by rw [efs_4]; exact hP
  have hD : va_D A [(h0, .inr (0, fs_4)), (q_1, .inr (4, fs_2))] := by rw [efs_4]; exact hD
  have hf5_h0 : fs_4[5]? = some (.ref q_1) := by rw [efs_4, List.getElem?_set_ne (by decide)]; exact hf5_h0
  have hf8_h0 : fs_4[8]? = some (.int 9) := by rw [efs_4]; exact List.getElem?_set_self (by rw [hlen_h0]; decide)
  have hlen_h0 : fs_4.length = 16 := by rw [efs_4, List.length_set]; exact hlen_h0
  refine lv_aload_n hx hb dX0_init_21 rfl (lv_at hl 0 rfl) ?_
  refine lv_iconst (v := 1) hx hb dX0_init_22 (by decide) ?_
  refine va_put (D := (dC, dI)) (ci := 0) (v := .int 1) (ty := .int) (C := RX0) (T := TX0) (N := 16) hx hb hts uB0 tyX0 tyX0_ok nmX0 hown hK hP hD hS 0 rfl rfl 9 (by decide) (hts _ wm_106) (fun _ h9 => h9) rfl (by decide +kernel) rfl rfl (by rw [hlen_h0]; decide) dX0_init_23 (fun H locs hP hD hS => ?_)
  obtain ⟨fs_5, efs_5⟩ : ∃ z9, z9 = (fs_4).set 9 (.int 1) := ⟨_, rfl⟩
  have hP : va_P (dC, dI) vwCl [(h0, .inr (0, fs_5)), (q_1, .inr (4, fs_2))] H := by rw [efs_5]; exact hP
  have hD : va_D A [(h0, .inr (0, fs_5)), (q_1, .inr (4, fs_2))] := by rw [efs_5]; exact hD
  have hf5_h0 : fs_5[5]? = some (.ref q_1) := by rw [efs_5, List.getElem?_set_ne (by decide)]; exact hf5_h0
  have hf8_h0 : fs_5[8]? = some (.int 9) := by rw [efs_5, List.getElem?_set_ne (by decide)]; exact hf8_h0
  have hf9_h0 : fs_5[9]? = some (.int 1) := by rw [efs_5]; exact List.getElem?_set_self (by rw [hlen_h0]; decide)
  have hlen_h0 : fs_5.length = 16 := by rw [efs_5, List.length_set]; exact hlen_h0
  refine lv_aload_n hx hb dX0_init_26 rfl (lv_at hl 0 rfl) ?_
  refine lv_sipush (v := 1000) hx hb dX0_init_27 (by decide) ?_
  refine va_put (D := (dC, dI)) (ci := 0) (v := .int 1000) (ty := .int) (C := RX0) (T := TX0) (N := 16) hx hb hts uB0 tyX0 tyX0_ok nmX0 hown hK hP hD hS 0 rfl rfl 10 (by decide) (hts _ wm_107) (fun _ h9 => h9) rfl (by decide +kernel) rfl rfl (by rw [hlen_h0]; decide) dX0_init_30 (fun H locs hP hD hS => ?_)
  obtain ⟨fs_6, efs_6⟩ : ∃ z9, z9 = (fs_5).set 10 (.int 1000) := ⟨_, rfl⟩
  have hP : va_P (dC, dI) vwCl [(h0, .inr (0, fs_6)), (q_1, .inr (4, fs_2))] H := by rw [efs_6]; exact hP
  have hD : va_D A [(h0, .inr (0, fs_6)), (q_1, .inr (4, fs_2))] := by rw [efs_6]; exact hD
  have hf5_h0 : fs_6[5]? = some (.ref q_1) := by rw [efs_6, List.getElem?_set_ne (by decide)]; exact hf5_h0
  have hf8_h0 : fs_6[8]? = some (.int 9) := by rw [efs_6, List.getElem?_set_ne (by decide)]; exact hf8_h0
  have hf9_h0 : fs_6[9]? = some (.int 1) := by rw [efs_6, List.getElem?_set_ne (by decide)]; exact hf9_h0
  have hf10_h0 : fs_6[10]? = some (.int 1000) := by rw [efs_6]; exact List.getElem?_set_self (by rw [hlen_h0]; decide)
  have hlen_h0 : fs_6.length = 16 := by rw [efs_6, List.length_set]; exact hlen_h0
  refine lv_aload_n hx hb dX0_init_33 rfl (lv_at hl 0 rfl) ?_
  refine lv_iload_n hx hb dX0_init_34 rfl (lv_at hl 1 rfl) ?_
  refine lv_bipush (v := 10) hx hb dX0_init_35 (by decide) ?_
  refine lv_idiv hx hb dX0_init_37 (by decide) ?_
  refine lv_topi (fun x_7 ex_7 => ?_)
  refine va_putF (D := (dC, dI)) (ci := 0) (v := .int x_7) (ty := .int) (C := RX0) (T := TX0) (N := 16) hx hb hts uB0 tyX0 tyX0_ok nmX0 hown hK hP hD hS 0 rfl rfl 0 (by decide) (hts _ wm_108) (fun _ h9 => h9) rfl hin rfl (by decide +kernel) rfl rfl (by rw [hlen_h0]; decide) dX0_init_38 (fun H locs hP hD hS => ?_)
  obtain ⟨fs_8, efs_8⟩ : ∃ z9, z9 = (fs_6).set 0 (.int x_7) := ⟨_, rfl⟩
  have hP : va_P (dC, dI) vwCl [(h0, .inr (0, fs_8)), (q_1, .inr (4, fs_2))] H := by rw [efs_8]; exact hP
  have hD : va_D A [(h0, .inr (0, fs_8)), (q_1, .inr (4, fs_2))] := by rw [efs_8]; exact hD
  have hf5_h0 : fs_8[5]? = some (.ref q_1) := by rw [efs_8, List.getElem?_set_ne (by decide)]; exact hf5_h0
  have hf8_h0 : fs_8[8]? = some (.int 9) := by rw [efs_8, List.getElem?_set_ne (by decide)]; exact hf8_h0
  have hf9_h0 : fs_8[9]? = some (.int 1) := by rw [efs_8, List.getElem?_set_ne (by decide)]; exact hf9_h0
  have hf10_h0 : fs_8[10]? = some (.int 1000) := by rw [efs_8, List.getElem?_set_ne (by decide)]; exact hf10_h0
  have hf0_h0 : fs_8[0]? = some (.int x_7) := by rw [efs_8]; exact List.getElem?_set_self (by rw [hlen_h0]; decide)
  have hlen_h0 : fs_8.length = 16 := by rw [efs_8, List.length_set]; exact hlen_h0
  refine lv_aload_n hx hb dX0_init_41 rfl (lv_at hl 0 rfl) ?_
  refine lv_iload_n hx hb dX0_init_42 rfl (lv_at hl 1 rfl) ?_
  refine lv_bipush (v := 10) hx hb dX0_init_43 (by decide) ?_
  refine lv_irem hx hb dX0_init_45 (by decide) ?_
  refine lv_topi (fun x_9 ex_9 => ?_)
  refine lv_iconst (v := 1) hx hb dX0_init_46 (by decide) ?_
  refine lv_icmp_ne (tgt := 54) hx hb dX0_init_47 (by decide) (fun c_10 => ?_) (fun c_10 => ?_)
  · skip
    refine lv_iconst (v := 0) hx hb dX0_init_54 (by decide) ?_
    refine va_putF (D := (dC, dI)) (ci := 0) (v := .int 0) (ty := .boolean) (C := RX0) (T := TX0) (N := 16) hx hb hts uB0 tyX0 tyX0_ok nmX0 hown hK hP hD hS 0 rfl rfl 1 (by decide) (hts _ wm_109) (fun _ h9 => h9) rfl hin rfl (by decide +kernel) rfl rfl (by rw [hlen_h0]; decide) dX0_init_55 (fun H locs hP hD hS => ?_)
    obtain ⟨fs_11, efs_11⟩ : ∃ z9, z9 = (fs_8).set 1 (.int 0) := ⟨_, rfl⟩
    have hP : va_P (dC, dI) vwCl [(h0, .inr (0, fs_11)), (q_1, .inr (4, fs_2))] H := by rw [efs_11]; exact hP
    have hD : va_D A [(h0, .inr (0, fs_11)), (q_1, .inr (4, fs_2))] := by rw [efs_11]; exact hD
    have hf5_h0 : fs_11[5]? = some (.ref q_1) := by rw [efs_11, List.getElem?_set_ne (by decide)]; exact hf5_h0
    have hf8_h0 : fs_11[8]? = some (.int 9) := by rw [efs_11, List.getElem?_set_ne (by decide)]; exact hf8_h0
    have hf9_h0 : fs_11[9]? = some (.int 1) := by rw [efs_11, List.getElem?_set_ne (by decide)]; exact hf9_h0
    have hf10_h0 : fs_11[10]? = some (.int 1000) := by rw [efs_11, List.getElem?_set_ne (by decide)]; exact hf10_h0
    have hf0_h0 : fs_11[0]? = some (.int x_7) := by rw [efs_11, List.getElem?_set_ne (by decide)]; exact hf0_h0
    have hf1_h0 : fs_11[1]? = some (.int 0) := by rw [efs_11]; exact List.getElem?_set_self (by rw [hlen_h0]; decide)
    have hlen_h0 : fs_11.length = 16 := by rw [efs_11, List.length_set]; exact hlen_h0
    refine lv_aload_n hx hb dX0_init_58 rfl (lv_at hl 0 rfl) ?_
    refine lv_iload_n hx hb dX0_init_59 rfl (lv_at hl 2 rfl) ?_
    refine lv_sipush (v := 4096) hx hb dX0_init_60 (by decide) ?_
    refine lv_idiv hx hb dX0_init_63 (by decide) ?_
    refine lv_topi (fun x_12 ex_12 => ?_)
    refine va_putF (D := (dC, dI)) (ci := 0) (v := .int x_12) (ty := .int) (C := RX0) (T := TX0) (N := 16) hx hb hts uB0 tyX0 tyX0_ok nmX0 hown hK hP hD hS 0 rfl rfl 2 (by decide) (hts _ wm_110) (fun _ h9 => h9) rfl hin rfl (by decide +kernel) rfl rfl (by rw [hlen_h0]; decide) dX0_init_64 (fun H locs hP hD hS => ?_)
    obtain ⟨fs_13, efs_13⟩ : ∃ z9, z9 = (fs_11).set 2 (.int x_12) := ⟨_, rfl⟩
    have hP : va_P (dC, dI) vwCl [(h0, .inr (0, fs_13)), (q_1, .inr (4, fs_2))] H := by rw [efs_13]; exact hP
    have hD : va_D A [(h0, .inr (0, fs_13)), (q_1, .inr (4, fs_2))] := by rw [efs_13]; exact hD
    have hf5_h0 : fs_13[5]? = some (.ref q_1) := by rw [efs_13, List.getElem?_set_ne (by decide)]; exact hf5_h0
    have hf8_h0 : fs_13[8]? = some (.int 9) := by rw [efs_13, List.getElem?_set_ne (by decide)]; exact hf8_h0
    have hf9_h0 : fs_13[9]? = some (.int 1) := by rw [efs_13, List.getElem?_set_ne (by decide)]; exact hf9_h0
    have hf10_h0 : fs_13[10]? = some (.int 1000) := by rw [efs_13, List.getElem?_set_ne (by decide)]; exact hf10_h0
    have hf0_h0 : fs_13[0]? = some (.int x_7) := by rw [efs_13, List.getElem?_set_ne (by decide)]; exact hf0_h0
    have hf1_h0 : fs_13[1]? = some (.int 0) := by rw [efs_13, List.getElem?_set_ne (by decide)]; exact hf1_h0
    have hf2_h0 : fs_13[2]? = some (.int x_12) := by rw [efs_13]; exact List.getElem?_set_self (by rw [hlen_h0]; decide)
    have hlen_h0 : fs_13.length = 16 := by rw [efs_13, List.length_set]; exact hlen_h0
    refine lv_aload_n hx hb dX0_init_67 rfl (lv_at hl 0 rfl) ?_
    refine lv_iload_n hx hb dX0_init_68 rfl (lv_at hl 2 rfl) ?_
    refine lv_sipush (v := 4096) hx hb dX0_init_69 (by decide) ?_
    refine lv_irem hx hb dX0_init_72 (by decide) ?_
    refine lv_topi (fun x_14 ex_14 => ?_)
    refine va_putF (D := (dC, dI)) (ci := 0) (v := .int x_14) (ty := .int) (C := RX0) (T := TX0) (N := 16) hx hb hts uB0 tyX0 tyX0_ok nmX0 hown hK hP hD hS 0 rfl rfl 3 (by decide) (hts _ wm_111) (fun _ h9 => h9) rfl hin rfl (by decide +kernel) rfl rfl (by rw [hlen_h0]; decide) dX0_init_73 (fun H locs hP hD hS => ?_)
    obtain ⟨fs_15, efs_15⟩ : ∃ z9, z9 = (fs_13).set 3 (.int x_14) := ⟨_, rfl⟩
    have hP : va_P (dC, dI) vwCl [(h0, .inr (0, fs_15)), (q_1, .inr (4, fs_2))] H := by rw [efs_15]; exact hP
    have hD : va_D A [(h0, .inr (0, fs_15)), (q_1, .inr (4, fs_2))] := by rw [efs_15]; exact hD
    have hf5_h0 : fs_15[5]? = some (.ref q_1) := by rw [efs_15, List.getElem?_set_ne (by decide)]; exact hf5_h0
    have hf8_h0 : fs_15[8]? = some (.int 9) := by rw [efs_15, List.getElem?_set_ne (by decide)]; exact hf8_h0
    have hf9_h0 : fs_15[9]? = some (.int 1) := by rw [efs_15, List.getElem?_set_ne (by decide)]; exact hf9_h0
    have hf10_h0 : fs_15[10]? = some (.int 1000) := by rw [efs_15, List.getElem?_set_ne (by decide)]; exact hf10_h0
    have hf0_h0 : fs_15[0]? = some (.int x_7) := by rw [efs_15, List.getElem?_set_ne (by decide)]; exact hf0_h0
    have hf1_h0 : fs_15[1]? = some (.int 0) := by rw [efs_15, List.getElem?_set_ne (by decide)]; exact hf1_h0
    have hf2_h0 : fs_15[2]? = some (.int x_12) := by rw [efs_15, List.getElem?_set_ne (by decide)]; exact hf2_h0
    have hf3_h0 : fs_15[3]? = some (.int x_14) := by rw [efs_15]; exact List.getElem?_set_self (by rw [hlen_h0]; decide)
    have hlen_h0 : fs_15.length = 16 := by rw [efs_15, List.length_set]; exact hlen_h0
    refine lv_aload_n hx hb dX0_init_76 rfl (lv_at hl 0 rfl) ?_
    refine lv_iload_n hx hb dX0_init_77 rfl (lv_at hl 3 rfl) ?_
    refine va_putF (D := (dC, dI)) (ci := 0) (v := .int z) (ty := .int) (C := RX0) (T := TX0) (N := 16) hx hb hts uB0 tyX0 tyX0_ok nmX0 hown hK hP hD hS 0 rfl rfl 4 (by decide) (hts _ wm_112) (fun _ h9 => h9) rfl hin rfl (by decide +kernel) rfl rfl (by rw [hlen_h0]; decide) dX0_init_78 (fun H locs hP hD hS => ?_)
    obtain ⟨fs_16, efs_16⟩ : ∃ z9, z9 = (fs_15).set 4 (.int z) := ⟨_, rfl⟩
    have hP : va_P (dC, dI) vwCl [(h0, .inr (0, fs_16)), (q_1, .inr (4, fs_2))] H := by rw [efs_16]; exact hP
    have hD : va_D A [(h0, .inr (0, fs_16)), (q_1, .inr (4, fs_2))] := by rw [efs_16]; exact hD
    have hf5_h0 : fs_16[5]? = some (.ref q_1) := by rw [efs_16, List.getElem?_set_ne (by decide)]; exact hf5_h0
    have hf8_h0 : fs_16[8]? = some (.int 9) := by rw [efs_16, List.getElem?_set_ne (by decide)]; exact hf8_h0
    have hf9_h0 : fs_16[9]? = some (.int 1) := by rw [efs_16, List.getElem?_set_ne (by decide)]; exact hf9_h0
    have hf10_h0 : fs_16[10]? = some (.int 1000) := by rw [efs_16, List.getElem?_set_ne (by decide)]; exact hf10_h0
    have hf0_h0 : fs_16[0]? = some (.int x_7) := by rw [efs_16, List.getElem?_set_ne (by decide)]; exact hf0_h0
    have hf1_h0 : fs_16[1]? = some (.int 0) := by rw [efs_16, List.getElem?_set_ne (by decide)]; exact hf1_h0
    have hf2_h0 : fs_16[2]? = some (.int x_12) := by rw [efs_16, List.getElem?_set_ne (by decide)]; exact hf2_h0
    have hf3_h0 : fs_16[3]? = some (.int x_14) := by rw [efs_16, List.getElem?_set_ne (by decide)]; exact hf3_h0
    have hf4_h0 : fs_16[4]? = some (.int z) := by rw [efs_16]; exact List.getElem?_set_self (by rw [hlen_h0]; decide)
    have hlen_h0 : fs_16.length = 16 := by rw [efs_16, List.length_set]; exact hlen_h0
    exact W.vret hx hb hr (fun t ht hW => ⟨⟨fs_16, rfl, trivial, by show va_P (dC, dI) vwCl [(h0, .inr (0, fs_16))] t.heap; rw [ht]; exact hP.sub [0] rfl⟩, hS.F ht⟩) hS.2.2 dX0_init_81
  · skip
    refine lv_iconst (v := 1) hx hb dX0_init_50 (by decide) ?_
    refine lv_goto (tgt := 55) hx hb dX0_init_51 (by decide) ?_
    refine va_putF (D := (dC, dI)) (ci := 0) (v := .int 1) (ty := .boolean) (C := RX0) (T := TX0) (N := 16) hx hb hts uB0 tyX0 tyX0_ok nmX0 hown hK hP hD hS 0 rfl rfl 1 (by decide) (hts _ wm_109) (fun _ h9 => h9) rfl hin rfl (by decide +kernel) rfl rfl (by rw [hlen_h0]; decide) dX0_init_55 (fun H locs hP hD hS => ?_)
    obtain ⟨fs_17, efs_17⟩ : ∃ z9, z9 = (fs_8).set 1 (.int 1) := ⟨_, rfl⟩
    have hP : va_P (dC, dI) vwCl [(h0, .inr (0, fs_17)), (q_1, .inr (4, fs_2))] H := by rw [efs_17]; exact hP
    have hD : va_D A [(h0, .inr (0, fs_17)), (q_1, .inr (4, fs_2))] := by rw [efs_17]; exact hD
    have hf5_h0 : fs_17[5]? = some (.ref q_1) := by rw [efs_17, List.getElem?_set_ne (by decide)]; exact hf5_h0
    have hf8_h0 : fs_17[8]? = some (.int 9) := by rw [efs_17, List.getElem?_set_ne (by decide)]; exact hf8_h0
    have hf9_h0 : fs_17[9]? = some (.int 1) := by rw [efs_17, List.getElem?_set_ne (by decide)]; exact hf9_h0
    have hf10_h0 : fs_17[10]? = some (.int 1000) := by rw [efs_17, List.getElem?_set_ne (by decide)]; exact hf10_h0
    have hf0_h0 : fs_17[0]? = some (.int x_7) := by rw [efs_17, List.getElem?_set_ne (by decide)]; exact hf0_h0
    have hf1_h0 : fs_17[1]? = some (.int 1) := by rw [efs_17]; exact List.getElem?_set_self (by rw [hlen_h0]; decide)
    have hlen_h0 : fs_17.length = 16 := by rw [efs_17, List.length_set]; exact hlen_h0
    refine lv_aload_n hx hb dX0_init_58 rfl (lv_at hl 0 rfl) ?_
    refine lv_iload_n hx hb dX0_init_59 rfl (lv_at hl 2 rfl) ?_
    refine lv_sipush (v := 4096) hx hb dX0_init_60 (by decide) ?_
    refine lv_idiv hx hb dX0_init_63 (by decide) ?_
    refine lv_topi (fun x_18 ex_18 => ?_)
    refine va_putF (D := (dC, dI)) (ci := 0) (v := .int x_18) (ty := .int) (C := RX0) (T := TX0) (N := 16) hx hb hts uB0 tyX0 tyX0_ok nmX0 hown hK hP hD hS 0 rfl rfl 2 (by decide) (hts _ wm_110) (fun _ h9 => h9) rfl hin rfl (by decide +kernel) rfl rfl (by rw [hlen_h0]; decide) dX0_init_64 (fun H locs hP hD hS => ?_)
    obtain ⟨fs_19, efs_19⟩ : ∃ z9, z9 = (fs_17).set 2 (.int x_18) := ⟨_, rfl⟩
    have hP : va_P (dC, dI) vwCl [(h0, .inr (0, fs_19)), (q_1, .inr (4, fs_2))] H := by rw [efs_19]; exact hP
    have hD : va_D A [(h0, .inr (0, fs_19)), (q_1, .inr (4, fs_2))] := by rw [efs_19]; exact hD
    have hf5_h0 : fs_19[5]? = some (.ref q_1) := by rw [efs_19, List.getElem?_set_ne (by decide)]; exact hf5_h0
    have hf8_h0 : fs_19[8]? = some (.int 9) := by rw [efs_19, List.getElem?_set_ne (by decide)]; exact hf8_h0
    have hf9_h0 : fs_19[9]? = some (.int 1) := by rw [efs_19, List.getElem?_set_ne (by decide)]; exact hf9_h0
    have hf10_h0 : fs_19[10]? = some (.int 1000) := by rw [efs_19, List.getElem?_set_ne (by decide)]; exact hf10_h0
    have hf0_h0 : fs_19[0]? = some (.int x_7) := by rw [efs_19, List.getElem?_set_ne (by decide)]; exact hf0_h0
    have hf1_h0 : fs_19[1]? = some (.int 1) := by rw [efs_19, List.getElem?_set_ne (by decide)]; exact hf1_h0
    have hf2_h0 : fs_19[2]? = some (.int x_18) := by rw [efs_19]; exact List.getElem?_set_self (by rw [hlen_h0]; decide)
    have hlen_h0 : fs_19.length = 16 := by rw [efs_19, List.length_set]; exact hlen_h0
    refine lv_aload_n hx hb dX0_init_67 rfl (lv_at hl 0 rfl) ?_
    refine lv_iload_n hx hb dX0_init_68 rfl (lv_at hl 2 rfl) ?_
    refine lv_sipush (v := 4096) hx hb dX0_init_69 (by decide) ?_
    refine lv_irem hx hb dX0_init_72 (by decide) ?_
    refine lv_topi (fun x_20 ex_20 => ?_)
    refine va_putF (D := (dC, dI)) (ci := 0) (v := .int x_20) (ty := .int) (C := RX0) (T := TX0) (N := 16) hx hb hts uB0 tyX0 tyX0_ok nmX0 hown hK hP hD hS 0 rfl rfl 3 (by decide) (hts _ wm_111) (fun _ h9 => h9) rfl hin rfl (by decide +kernel) rfl rfl (by rw [hlen_h0]; decide) dX0_init_73 (fun H locs hP hD hS => ?_)
    obtain ⟨fs_21, efs_21⟩ : ∃ z9, z9 = (fs_19).set 3 (.int x_20) := ⟨_, rfl⟩
    have hP : va_P (dC, dI) vwCl [(h0, .inr (0, fs_21)), (q_1, .inr (4, fs_2))] H := by rw [efs_21]; exact hP
    have hD : va_D A [(h0, .inr (0, fs_21)), (q_1, .inr (4, fs_2))] := by rw [efs_21]; exact hD
    have hf5_h0 : fs_21[5]? = some (.ref q_1) := by rw [efs_21, List.getElem?_set_ne (by decide)]; exact hf5_h0
    have hf8_h0 : fs_21[8]? = some (.int 9) := by rw [efs_21, List.getElem?_set_ne (by decide)]; exact hf8_h0
    have hf9_h0 : fs_21[9]? = some (.int 1) := by rw [efs_21, List.getElem?_set_ne (by decide)]; exact hf9_h0
    have hf10_h0 : fs_21[10]? = some (.int 1000) := by rw [efs_21, List.getElem?_set_ne (by decide)]; exact hf10_h0
    have hf0_h0 : fs_21[0]? = some (.int x_7) := by rw [efs_21, List.getElem?_set_ne (by decide)]; exact hf0_h0
    have hf1_h0 : fs_21[1]? = some (.int 1) := by rw [efs_21, List.getElem?_set_ne (by decide)]; exact hf1_h0
    have hf2_h0 : fs_21[2]? = some (.int x_18) := by rw [efs_21, List.getElem?_set_ne (by decide)]; exact hf2_h0
    have hf3_h0 : fs_21[3]? = some (.int x_20) := by rw [efs_21]; exact List.getElem?_set_self (by rw [hlen_h0]; decide)
    have hlen_h0 : fs_21.length = 16 := by rw [efs_21, List.length_set]; exact hlen_h0
    refine lv_aload_n hx hb dX0_init_76 rfl (lv_at hl 0 rfl) ?_
    refine lv_iload_n hx hb dX0_init_77 rfl (lv_at hl 3 rfl) ?_
    refine va_putF (D := (dC, dI)) (ci := 0) (v := .int z) (ty := .int) (C := RX0) (T := TX0) (N := 16) hx hb hts uB0 tyX0 tyX0_ok nmX0 hown hK hP hD hS 0 rfl rfl 4 (by decide) (hts _ wm_112) (fun _ h9 => h9) rfl hin rfl (by decide +kernel) rfl rfl (by rw [hlen_h0]; decide) dX0_init_78 (fun H locs hP hD hS => ?_)
    obtain ⟨fs_22, efs_22⟩ : ∃ z9, z9 = (fs_21).set 4 (.int z) := ⟨_, rfl⟩
    have hP : va_P (dC, dI) vwCl [(h0, .inr (0, fs_22)), (q_1, .inr (4, fs_2))] H := by rw [efs_22]; exact hP
    have hD : va_D A [(h0, .inr (0, fs_22)), (q_1, .inr (4, fs_2))] := by rw [efs_22]; exact hD
    have hf5_h0 : fs_22[5]? = some (.ref q_1) := by rw [efs_22, List.getElem?_set_ne (by decide)]; exact hf5_h0
    have hf8_h0 : fs_22[8]? = some (.int 9) := by rw [efs_22, List.getElem?_set_ne (by decide)]; exact hf8_h0
    have hf9_h0 : fs_22[9]? = some (.int 1) := by rw [efs_22, List.getElem?_set_ne (by decide)]; exact hf9_h0
    have hf10_h0 : fs_22[10]? = some (.int 1000) := by rw [efs_22, List.getElem?_set_ne (by decide)]; exact hf10_h0
    have hf0_h0 : fs_22[0]? = some (.int x_7) := by rw [efs_22, List.getElem?_set_ne (by decide)]; exact hf0_h0
    have hf1_h0 : fs_22[1]? = some (.int 1) := by rw [efs_22, List.getElem?_set_ne (by decide)]; exact hf1_h0
    have hf2_h0 : fs_22[2]? = some (.int x_18) := by rw [efs_22, List.getElem?_set_ne (by decide)]; exact hf2_h0
    have hf3_h0 : fs_22[3]? = some (.int x_20) := by rw [efs_22, List.getElem?_set_ne (by decide)]; exact hf3_h0
    have hf4_h0 : fs_22[4]? = some (.int z) := by rw [efs_22]; exact List.getElem?_set_self (by rw [hlen_h0]; decide)
    have hlen_h0 : fs_22.length = 16 := by rw [efs_22, List.length_set]; exact hlen_h0
    exact W.vret hx hb hr (fun t ht hW => ⟨⟨fs_22, rfl, trivial, by show va_P (dC, dI) vwCl [(h0, .inr (0, fs_22))] t.heap; rw [ht]; exact hP.sub [0] rfl⟩, hS.F ht⟩) hS.2.2 dX0_init_81
set_option maxHeartbeats 4000000 in
set_option maxRecDepth 100000 in
theorem f_campaign (l : Launch) (dC : Nat → ClassId) (dI : Nat → Nat → Nat) (sz : Nat) (h0 : Nat) (fs : List Value) (qc : Nat) (cC : ClassId) (x y z : Int32) (hf1 : fs[1]? = some (.ref qc)) (hf8 : fs[8]? = some (.int 0)) (hlen_h0 : fs.length = 17)  : mFi l yX5_campaign cX5_campaign 4 3 2 24 (dC, dI) [(h0, .inr (5, fs)), (qc, .inl (cC, 40, .inr (.inr (.inr (.inr (fun _ => none))))))] sz [(cC, .object RX0)] (va_Nw (.methodLinkNest RX0 11 yX4_init "NoticeMarket")) [.ref h0, .int x, .int y, .int z] (fun r => r = if cpOk x y z then 0 else (-1)) := by
  refine Met.ofW (cc := cX5_campaign) (maxL := 4) (ret := some .int) (by decide) rfl ?_
  intro p e s m args below meth c s₁ B hml hv
  obtain ⟨rfl, hsz, hP, hK, hD0, hex⟩ := hv
  subst hsz
  have hx := B.exec
  have hb := B.bytes
  have hr := B.returns
  have hlocks := B.notSynchronized
  have hts0 := atoms_spec (ws := Cond.code yX5_campaign cX5_campaign 4 (some .int) :: lw_B) B.pre
  have hts : ∀ w ∈ lw_B, w.before _ s = true := fun w h => hts0 w (List.mem_cons_of_mem _ h)
  have hown : s.vm.findClass RX5 = some m.cls := findClass_of_methodNamed B.named
  have hD := hD0.self (sz := s.heap.size)
  generalize hAe : va_A [(h0, .inr (5, fs)), (qc, .inl (cC, 40, .inr (.inr (.inr (.inr (fun _ => none))))))] s.heap.size = A at hD ⊢
  have hA : ∀ q : Nat, s.heap.size ≤ q → A q := fun q h => by rw [← hAe]; exact Or.inr h
  have hS : va_S A s.heap s.heap [] := va_S.rf
  have hl := lv_entry ([.ref h0, .int x, .int y, .int z]) (n := 4) (Nat.le_of_ble_eq_true rfl)
  rw [lg_entry_eq]
  generalize (lg_sl ([.ref h0, .int x, .int y, .int z]) ++ List.replicate (4 - (lg_sl ([.ref h0, .int x, .int y, .int z])).length) Slot.unset).toArray = ls at hl ⊢
  have hl : lv_has ls 4 [(0, .ref h0), (1, .int x), (2, .int y), (3, .int z)] := hl
  refine lv_iload_n hx hb dX5_campaign_0 rfl (lv_at hl 1 rfl) ?_
  refine k_S ⟨hx, hb, hml, hown, hts⟩ (c_isSort l x) 1 wm_113 wm_114 wm_2 wm_115 (by decide +kernel) ⟨Nat.le_of_ble_eq_true rfl, Nat.le_of_ble_eq_true rfl⟩ rfl hl.1 rfl (Nat.le_of_ble_eq_true rfl) dX5_campaign_1 ⟨Nat.le_of_ble_eq_true rfl, Nat.le_of_ble_eq_true rfl⟩ hS hP (fun r_1 H locs hpr_1 hP hS => ?_)
  refine lv_if_eq (tgt := 25) hx hb dX5_campaign_4 (by decide) (fun c_2 => ?_) (fun c_2 => ?_)
  · skip
    have g_2 := k_ff hpr_1 c_2
    refine lv_iconst (v := (-1)) hx hb dX5_campaign_25 (by decide) ?_
    refine W.widen (k := 2) (n := 24) (Nat.le_of_ble_eq_true rfl) (Nat.le_of_ble_eq_true rfl) ?_
    exact W.iret (v := (-1)) hx hb hr (fun t ht hW => ⟨⟨(-1), (), rfl, (by exact (if_neg (fun q => g_2 q.1)).symm), trivial⟩, hS.F ht⟩) hS.2.2 dX5_campaign_26
  · skip
    have g_2 := k_ft hpr_1 c_2
    refine lv_iload_n hx hb dX5_campaign_7 rfl (lv_at hl 2 rfl) ?_
    refine k_S ⟨hx, hb, hml, hown, hts⟩ (c_isWish l y) 1 wm_116 wm_117 wm_2 wm_118 (by decide +kernel) ⟨Nat.le_of_ble_eq_true rfl, Nat.le_of_ble_eq_true rfl⟩ rfl hl.1 rfl (Nat.le_of_ble_eq_true rfl) dX5_campaign_8 ⟨Nat.le_of_ble_eq_true rfl, Nat.le_of_ble_eq_true rfl⟩ hS hP (fun r_3 H locs hpr_3 hP hS => ?_)
    refine lv_if_eq (tgt := 25) hx hb dX5_campaign_11 (by decide) (fun c_4 => ?_) (fun c_4 => ?_)
    · skip
      have g_4 := k_ff hpr_3 c_4
      refine lv_iconst (v := (-1)) hx hb dX5_campaign_25 (by decide) ?_
      refine W.widen (k := 2) (n := 24) (Nat.le_of_ble_eq_true rfl) (Nat.le_of_ble_eq_true rfl) ?_
      exact W.iret (v := (-1)) hx hb hr (fun t ht hW => ⟨⟨(-1), (), rfl, (by exact (if_neg (fun q => g_4 q.2.1)).symm), trivial⟩, hS.F ht⟩) hS.2.2 dX5_campaign_26
    · skip
      have g_4 := k_ft hpr_3 c_4
      refine lv_iload_n hx hb dX5_campaign_14 rfl (lv_at hl 1 rfl) ?_
      refine lv_bipush (v := 10) hx hb dX5_campaign_15 (by decide) ?_
      refine lv_idiv hx hb dX5_campaign_17 (by decide) ?_
      refine lv_topi (fun x_5 ex_5 => ?_)
      refine lv_iload_n hx hb dX5_campaign_18 rfl (lv_at hl 3 rfl) ?_
      refine k_S ⟨hx, hb, hml, hown, hts⟩ (c_isBid l x_5 z) 2 wm_119 wm_120 wm_2 wm_121 (by decide +kernel) ⟨Nat.le_of_ble_eq_true rfl, Nat.le_of_ble_eq_true rfl⟩ rfl hl.1 rfl (Nat.le_of_ble_eq_true rfl) dX5_campaign_19 ⟨Nat.le_of_ble_eq_true rfl, Nat.le_of_ble_eq_true rfl⟩ hS hP (fun r_6 H locs hpr_6 hP hS => ?_)
      refine lv_if_ne (tgt := 27) hx hb dX5_campaign_22 (by decide) (fun c_7 => ?_) (fun c_7 => ?_)
      · skip
        have g_7 := k_ft hpr_6 c_7
        refine lv_aload_n hx hb dX5_campaign_27 rfl (lv_at hl 0 rfl) ?_
        refine va_get (D := (dC, dI)) (ci := 5) (v := .int 0) (C := RX5) (T := TX5) (N := 17) hx hb hts uB5 hown hK hP 0 rfl rfl 8 (by decide) (hts _ wm_9) (fun _ h9 => h9) hf8 dX5_campaign_28 ?_
        refine lv_bipush (v := 40) hx hb dX5_campaign_31 (by decide) ?_
        refine lv_icmp_lt (tgt := 39) hx hb dX5_campaign_33 (by decide) (fun _ => ?_) (fun h9 => absurd (by decide) h9)
        refine lv_aload_n hx hb dX5_campaign_39 rfl (lv_at hl 0 rfl) ?_
        refine va_get (D := (dC, dI)) (ci := 5) (v := .ref qc) (C := RX5) (T := TX5) (N := 17) hx hb hts uB5 hown hK hP 0 rfl rfl 1 (by decide) (hts _ wm_122) (fun _ h9 => h9) hf1 dX5_campaign_40 ?_
        refine lv_aload_n hx hb dX5_campaign_43 rfl (lv_at hl 0 rfl) ?_
        refine va_get (D := (dC, dI)) (ci := 5) (v := .int 0) (C := RX5) (T := TX5) (N := 17) hx hb hts uB5 hown hK hP 0 rfl rfl 8 (by decide) (hts _ wm_9) (fun _ h9 => h9) hf8 dX5_campaign_44 ?_
        refine va_new (ci := 0) (fs := [.int 0, .int 0, .int 0, .int 0, .int 0, .null, .int 0, .int 0, .int 0, .int 0, .int 0, .int 0, .long 0, .int 0, .int 0, .long 0]) (C := RX0) (T := TX0) (N := 16) hx hb hts uB0 tyX0 tyX0_ok hown (hts _ wm_123) (hts _ wm_124) (hts _ wm_125) hK hP hD hS hA rfl (by decide +kernel) (Nat.le_of_ble_eq_true rfl) (Nat.le_of_ble_eq_true rfl) dX5_campaign_47 (fun q_8 H hP hD hS => ?_)
        have hP : va_P (dC, dI) vwCl [(h0, .inr (5, fs)), (qc, .inl (cC, 40, .inr (.inr (.inr (.inr (fun _ => none)))))), (q_8, .inr (0, [.int 0, .int 0, .int 0, .int 0, .int 0, .null, .int 0, .int 0, .int 0, .int 0, .int 0, .int 0, .long 0, .int 0, .int 0, .long 0]))] H := hP
        have hD : va_D A [(h0, .inr (5, fs)), (qc, .inl (cC, 40, .inr (.inr (.inr (.inr (fun _ => none)))))), (q_8, .inr (0, [.int 0, .int 0, .int 0, .int 0, .int 0, .null, .int 0, .int 0, .int 0, .int 0, .int 0, .int 0, .long 0, .int 0, .int 0, .long 0]))] := hD
        refine lv_dup hx hb dX5_campaign_50 rfl ?_
        refine lv_iload_n hx hb dX5_campaign_51 rfl (lv_at hl 1 rfl) ?_
        refine lv_iload_n hx hb dX5_campaign_52 rfl (lv_at hl 2 rfl) ?_
        refine lv_iload_n hx hb dX5_campaign_53 rfl (lv_at hl 3 rfl) ?_
        refine k_OI (ci := 0) (q0 := 2) (tc := []) (ex := (va_Nw (.methodLinkNest RX0 11 yX4_init "NoticeMarket"))) ⟨hx, hb, hml, hown, hts⟩ (o_Campaign l dC dI H.size q_8 [.int 0, .int 0, .int 0, .int 0, .int 0, .null, .int 0, .int 0, .int 0, .int 0, .int 0, .int 0, .long 0, .int 0, .int 0, .long 0] x y z rfl) 3 wm_126 wm_127 wm_125 wm_128 rfl (by decide +kernel) ⟨Nat.le_of_ble_eq_true rfl, Nat.le_of_ble_eq_true rfl⟩ (hK.sub (tys' := []) [] rfl) (exNw hex) rfl rfl hl.1 rfl (Nat.le_of_ble_eq_true rfl) dX5_campaign_54 ⟨Nat.le_of_ble_eq_true rfl, Nat.le_of_ble_eq_true rfl⟩ hP hD hS hA (fun fs_9 H locs efs_9 hP hD hS => ?_)
        have hP : va_P (dC, dI) vwCl [(h0, .inr (5, fs)), (qc, .inl (cC, 40, .inr (.inr (.inr (.inr (fun _ => none)))))), (q_8, .inr (0, fs_9))] H := hP
        have hD : va_D A [(h0, .inr (5, fs)), (qc, .inl (cC, 40, .inr (.inr (.inr (.inr (fun _ => none)))))), (q_8, .inr (0, fs_9))] := hD
        refine va_astq hx hb hK hP hD hS 1 0 2 0 rfl rfl rfl rfl (vp_in_iff.mpr (by decide)) dX5_campaign_57 (fun H locs hP hD hS => ?_)
        obtain ⟨f_10, ef_10⟩ : ∃ z9, z9 = va_up (fun _ => none) (Int32.toNatClampNeg 0) (some q_8) := ⟨_, rfl⟩
        have hP : va_P (dC, dI) vwCl [(h0, .inr (5, fs)), (qc, .inl (cC, 40, .inr (.inr (.inr (.inr f_10))))), (q_8, .inr (0, fs_9))] H := by rw [ef_10]; exact hP
        have hD : va_D A [(h0, .inr (5, fs)), (qc, .inl (cC, 40, .inr (.inr (.inr (.inr f_10))))), (q_8, .inr (0, fs_9))] := by rw [ef_10]; exact hD
        refine lv_aload_n hx hb dX5_campaign_58 rfl (lv_at hl 0 rfl) ?_
        refine lv_dup hx hb dX5_campaign_59 rfl ?_
        refine va_get (D := (dC, dI)) (ci := 5) (v := .int 0) (C := RX5) (T := TX5) (N := 17) hx hb hts uB5 hown hK hP 0 rfl rfl 8 (by decide) (hts _ wm_9) (fun _ h9 => h9) hf8 dX5_campaign_60 ?_
        refine lv_iconst (v := 1) hx hb dX5_campaign_63 (by decide) ?_
        refine lv_iadd hx hb dX5_campaign_64 ?_
        refine lv_topi (fun x_11 ex_11 => ?_)
        obtain rfl : x_11 = 1 := ex_11.trans (by decide)
        refine va_put (D := (dC, dI)) (ci := 5) (v := .int 1) (ty := .int) (C := RX5) (T := TX5) (N := 17) hx hb hts uB5 tyX5 tyX5_ok nmX5 hown hK hP hD hS 0 rfl rfl 8 (by decide) (hts _ wm_9) (fun _ h9 => h9) rfl (by decide +kernel) rfl rfl (by rw [hlen_h0]; decide) dX5_campaign_65 (fun H locs hP hD hS => ?_)
        obtain ⟨fs_12, efs_12⟩ : ∃ z9, z9 = (fs).set 8 (.int 1) := ⟨_, rfl⟩
        have hP : va_P (dC, dI) vwCl [(h0, .inr (5, fs_12)), (qc, .inl (cC, 40, .inr (.inr (.inr (.inr f_10))))), (q_8, .inr (0, fs_9))] H := by rw [efs_12]; exact hP
        have hD : va_D A [(h0, .inr (5, fs_12)), (qc, .inl (cC, 40, .inr (.inr (.inr (.inr f_10))))), (q_8, .inr (0, fs_9))] := by rw [efs_12]; exact hD
        have hf1 : fs_12[1]? = some (.ref qc) := by rw [efs_12, List.getElem?_set_ne (by decide)]; exact hf1
        have hf8 : fs_12[8]? = some (.int 1) := by rw [efs_12]; exact List.getElem?_set_self (by rw [hlen_h0]; decide)
        have hlen_h0 : fs_12.length = 17 := by rw [efs_12, List.length_set]; exact hlen_h0
        refine lv_aload_n hx hb dX5_campaign_68 rfl (lv_at hl 0 rfl) ?_
        refine va_get (D := (dC, dI)) (ci := 5) (v := .int 1) (C := RX5) (T := TX5) (N := 17) hx hb hts uB5 hown hK hP 0 rfl rfl 8 (by decide) (hts _ wm_9) (fun _ h9 => h9) hf8 dX5_campaign_69 ?_
        refine lv_iconst (v := 1) hx hb dX5_campaign_72 (by decide) ?_
        refine lv_isub hx hb dX5_campaign_73 ?_
        refine lv_topi (fun x_13 ex_13 => ?_)
        obtain rfl : x_13 = 0 := ex_13.trans (by decide)
        refine W.widen (k := 2) (n := 24) (Nat.le_of_ble_eq_true rfl) (Nat.le_of_ble_eq_true rfl) ?_
        exact W.iret (v := 0) hx hb hr (fun t ht hW => ⟨⟨0, (), rfl, (by subst ex_5; exact (if_pos ⟨g_2, g_4, g_7⟩).symm), trivial⟩, hS.F ht⟩) hS.2.2 dX5_campaign_74
      · skip
        have g_7 := k_ff hpr_6 c_7
        refine lv_iconst (v := (-1)) hx hb dX5_campaign_25 (by decide) ?_
        refine W.widen (k := 2) (n := 24) (Nat.le_of_ble_eq_true rfl) (Nat.le_of_ble_eq_true rfl) ?_
        exact W.iret (v := (-1)) hx hb hr (fun t ht hW => ⟨⟨(-1), (), rfl, (by subst ex_5; exact (if_neg (fun q => g_7 q.2.2)).symm), trivial⟩, hS.F ht⟩) hS.2.2 dX5_campaign_26
set_option maxHeartbeats 4000000 in
set_option maxRecDepth 100000 in
theorem f_mcampaign (l : Launch) (dC : Nat → ClassId) (dI : Nat → Nat → Nat) (sz : Nat) (h0 : Nat) (fs : List Value) (q_sort q_pays q_must q_never q_bid q_cap q_span q_throttle q_promised : Nat) (cI : ClassId) (x y z : Int32) (hfc : fs[9]? = some (.int 0)) (hf_sort : fs[10]? = some (.ref q_sort)) (hf_pays : fs[11]? = some (.ref q_pays)) (hf_must : fs[12]? = some (.ref q_must)) (hf_never : fs[13]? = some (.ref q_never)) (hf_bid : fs[14]? = some (.ref q_bid)) (hf_cap : fs[17]? = some (.ref q_cap)) (hf_span : fs[18]? = some (.ref q_span)) (hf_throttle : fs[19]? = some (.ref q_throttle)) (hf_promised : fs[22]? = some (.ref q_promised)) (hlen_h0 : fs.length = 51)  : mFi l yX6_campaign cX6_campaign 7 1 0 0 (dC, dI) [(h0, .inr (6, fs)), (q_sort, .inl (cI, 40, .inl (fun _ => 0))), (q_pays, .inl (cI, 40, .inl (fun _ => 0))), (q_must, .inl (cI, 40, .inl (fun _ => 0))), (q_never, .inl (cI, 40, .inl (fun _ => 0))), (q_bid, .inl (cI, 40, .inl (fun _ => 0))), (q_cap, .inl (cI, 40, .inl (fun _ => 0))), (q_span, .inl (cI, 40, .inl (fun _ => 0))), (q_throttle, .inl (cI, 40, .inl (fun _ => 0))), (q_promised, .inl (cI, 40, .inl (fun _ => 0)))] sz [(cI, .int)] (fun _ => True) [.ref h0, .int x, .int y, .int z] (fun r => r = if cpOk x y z then 0 else (-1)) := by
  refine Met.ofW (cc := cX6_campaign) (maxL := 7) (ret := some .int) (by decide) rfl ?_
  intro p e s m args below meth c s₁ B hml hv
  obtain ⟨rfl, hsz, hP, hK, hD0, hex⟩ := hv
  subst hsz
  have hx := B.exec
  have hb := B.bytes
  have hr := B.returns
  have hlocks := B.notSynchronized
  have hts0 := atoms_spec (ws := Cond.code yX6_campaign cX6_campaign 7 (some .int) :: lw_B) B.pre
  have hts : ∀ w ∈ lw_B, w.before _ s = true := fun w h => hts0 w (List.mem_cons_of_mem _ h)
  have hown : s.vm.findClass RX6 = some m.cls := findClass_of_methodNamed B.named
  have hD := hD0.self (sz := s.heap.size)
  generalize hAe : va_A [(h0, .inr (6, fs)), (q_sort, .inl (cI, 40, .inl (fun _ => 0))), (q_pays, .inl (cI, 40, .inl (fun _ => 0))), (q_must, .inl (cI, 40, .inl (fun _ => 0))), (q_never, .inl (cI, 40, .inl (fun _ => 0))), (q_bid, .inl (cI, 40, .inl (fun _ => 0))), (q_cap, .inl (cI, 40, .inl (fun _ => 0))), (q_span, .inl (cI, 40, .inl (fun _ => 0))), (q_throttle, .inl (cI, 40, .inl (fun _ => 0))), (q_promised, .inl (cI, 40, .inl (fun _ => 0)))] s.heap.size = A at hD ⊢
  have hA : ∀ q : Nat, s.heap.size ≤ q → A q := fun q h => by rw [← hAe]; exact Or.inr h
  have hS : va_S A s.heap s.heap [] := va_S.rf
  have hl := lv_entry ([.ref h0, .int x, .int y, .int z]) (n := 7) (Nat.le_of_ble_eq_true rfl)
  rw [lg_entry_eq]
  generalize (lg_sl ([.ref h0, .int x, .int y, .int z]) ++ List.replicate (7 - (lg_sl ([.ref h0, .int x, .int y, .int z])).length) Slot.unset).toArray = ls at hl ⊢
  have hl : lv_has ls 7 [(0, .ref h0), (1, .int x), (2, .int y), (3, .int z)] := hl
  refine lv_iload_n hx hb dX6_campaign_0 rfl (lv_at hl 1 rfl) ?_
  refine lv_bipush (v := 10) hx hb dX6_campaign_1 (by decide) ?_
  refine lv_idiv hx hb dX6_campaign_3 (by decide) ?_
  refine lv_topi (fun x_1 ex_1 => ?_)
  refine lv_istore (lv' := [(4, .int x_1), (0, .ref h0), (1, .int x), (2, .int y), (3, .int z)]) hx hb dX6_campaign_4 hl (by decide) rfl (fun ls hl => ?_)
  refine lv_iload_n hx hb dX6_campaign_6 rfl (lv_at hl 2 rfl) ?_
  refine lv_if_lt (tgt := 79) hx hb dX6_campaign_7 (by decide) (fun c_2 => ?_) (fun c_2 => ?_)
  · skip
    refine lv_iconst (v := 0) hx hb dX6_campaign_79 (by decide) ?_
    refine lv_istore (lv' := [(5, .int 0), (4, .int x_1), (0, .ref h0), (1, .int x), (2, .int y), (3, .int z)]) hx hb dX6_campaign_80 hl (by decide) rfl (fun ls hl => ?_)
    refine lv_iload hx hb dX6_campaign_82 (lv_at hl 0 rfl) ?_
    refine lv_if_eq (tgt := 101) hx hb dX6_campaign_84 (by decide) (fun _ => ?_) (fun h9 => absurd (by decide) h9)
    refine lv_iconst (v := (-1)) hx hb dX6_campaign_101 (by decide) ?_
    exact W.iret (v := (-1)) hx hb hr (fun t ht hW => ⟨⟨(-1), (), rfl, (by subst ex_1; have h1 := k_cp1 x; have h2 := k_cp2 y; simp only [Int32.lt_iff_toInt_lt, Int32.le_iff_toInt_le, ← Int32.toInt_inj, Int32.reduceToInt] at h1 h2 c_2; exact (if_neg (by unfold cpOk; simp only [Int32.lt_iff_toInt_lt, Int32.le_iff_toInt_le, ← Int32.toInt_inj, Int32.reduceToInt]; omega)).symm), trivial⟩, hS.F ht⟩) hS.2.2 dX6_campaign_102
  · skip
    refine lv_iload hx hb dX6_campaign_10 (lv_at hl 0 rfl) ?_
    refine lv_iconst (v := 0) hx hb dX6_campaign_12 (by decide) ?_
    refine lv_iconst (v := 2) hx hb dX6_campaign_13 (by decide) ?_
    refine k_S ⟨hx, hb, hml, hown, hts⟩ (c_in l x_1 0 2) 3 wm_4 wm_5 wm_6 wm_7 (by decide +kernel) ⟨Nat.le_of_ble_eq_true rfl, Nat.le_of_ble_eq_true rfl⟩ rfl hl.1 rfl (Nat.le_of_ble_eq_true rfl) dX6_campaign_14 ⟨Nat.le_of_ble_eq_true rfl, Nat.le_of_ble_eq_true rfl⟩ hS hP (fun r_3 H locs hpr_3 hP hS => ?_)
    refine lv_if_eq (tgt := 79) hx hb dX6_campaign_17 (by decide) (fun c_4 => ?_) (fun c_4 => ?_)
    · skip
      have g_4 := k_ff hpr_3 c_4
      refine lv_iconst (v := 0) hx hb dX6_campaign_79 (by decide) ?_
      refine lv_istore (lv' := [(5, .int 0), (4, .int x_1), (0, .ref h0), (1, .int x), (2, .int y), (3, .int z)]) hx hb dX6_campaign_80 hl (by decide) rfl (fun ls hl => ?_)
      refine lv_iload hx hb dX6_campaign_82 (lv_at hl 0 rfl) ?_
      refine lv_if_eq (tgt := 101) hx hb dX6_campaign_84 (by decide) (fun _ => ?_) (fun h9 => absurd (by decide) h9)
      refine lv_iconst (v := (-1)) hx hb dX6_campaign_101 (by decide) ?_
      exact W.iret (v := (-1)) hx hb hr (fun t ht hW => ⟨⟨(-1), (), rfl, (by subst ex_1; have h1 := k_cp1 x; have h2 := k_cp2 y; simp only [Int32.lt_iff_toInt_lt, Int32.le_iff_toInt_le, ← Int32.toInt_inj, Int32.reduceToInt] at h1 h2 c_2 g_4; exact (if_neg (by unfold cpOk; simp only [Int32.lt_iff_toInt_lt, Int32.le_iff_toInt_le, ← Int32.toInt_inj, Int32.reduceToInt]; omega)).symm), trivial⟩, hS.F ht⟩) hS.2.2 dX6_campaign_102
    · skip
      have g_4 := k_ft hpr_3 c_4
      refine lv_iload_n hx hb dX6_campaign_20 rfl (lv_at hl 2 rfl) ?_
      refine lv_bipush (v := 10) hx hb dX6_campaign_21 (by decide) ?_
      refine lv_irem hx hb dX6_campaign_23 (by decide) ?_
      refine lv_topi (fun x_5 ex_5 => ?_)
      refine lv_iconst (v := 0) hx hb dX6_campaign_24 (by decide) ?_
      refine lv_iload hx hb dX6_campaign_25 (lv_at hl 0 rfl) ?_
      refine lv_if_ne (tgt := 34) hx hb dX6_campaign_27 (by decide) (fun c_6 => ?_) (fun c_6 => ?_)
      · skip
        refine lv_iconst (v := 0) hx hb dX6_campaign_34 (by decide) ?_
        refine k_S ⟨hx, hb, hml, hown, hts⟩ (c_in l x_5 0 0) 3 wm_4 wm_5 wm_6 wm_7 (by decide +kernel) ⟨Nat.le_of_ble_eq_true rfl, Nat.le_of_ble_eq_true rfl⟩ rfl hl.1 rfl (Nat.le_of_ble_eq_true rfl) dX6_campaign_35 ⟨Nat.le_of_ble_eq_true rfl, Nat.le_of_ble_eq_true rfl⟩ hS hP (fun r_7 H locs hpr_7 hP hS => ?_)
        refine lv_if_eq (tgt := 79) hx hb dX6_campaign_38 (by decide) (fun c_8 => ?_) (fun c_8 => ?_)
        · skip
          have g_8 := k_ff hpr_7 c_8
          refine lv_iconst (v := 0) hx hb dX6_campaign_79 (by decide) ?_
          refine lv_istore (lv' := [(5, .int 0), (4, .int x_1), (0, .ref h0), (1, .int x), (2, .int y), (3, .int z)]) hx hb dX6_campaign_80 hl (by decide) rfl (fun ls hl => ?_)
          refine lv_iload hx hb dX6_campaign_82 (lv_at hl 0 rfl) ?_
          refine lv_if_eq (tgt := 101) hx hb dX6_campaign_84 (by decide) (fun _ => ?_) (fun h9 => absurd (by decide) h9)
          refine lv_iconst (v := (-1)) hx hb dX6_campaign_101 (by decide) ?_
          exact W.iret (v := (-1)) hx hb hr (fun t ht hW => ⟨⟨(-1), (), rfl, (by subst ex_1 ex_5; have h1 := k_cp1 x; have h2 := k_cp2 y; simp only [Int32.lt_iff_toInt_lt, Int32.le_iff_toInt_le, ← Int32.toInt_inj, Int32.reduceToInt] at h1 h2 c_2 g_4 c_6 g_8; exact (if_neg (by unfold cpOk; simp only [Int32.lt_iff_toInt_lt, Int32.le_iff_toInt_le, ← Int32.toInt_inj, Int32.reduceToInt]; omega)).symm), trivial⟩, hS.F ht⟩) hS.2.2 dX6_campaign_102
        · skip
          have g_8 := k_ft hpr_7 c_8
          refine lv_iload_n hx hb dX6_campaign_41 rfl (lv_at hl 3 rfl) ?_
          refine lv_iconst (v := 0) hx hb dX6_campaign_42 (by decide) ?_
          refine lv_ldc (v := 16777215) hx hb hown (hts _ wm_129) dX6_campaign_43 ?_
          refine k_S ⟨hx, hb, hml, hown, hts⟩ (c_in l y 0 16777215) 3 wm_4 wm_5 wm_6 wm_7 (by decide +kernel) ⟨Nat.le_of_ble_eq_true rfl, Nat.le_of_ble_eq_true rfl⟩ rfl hl.1 rfl (Nat.le_of_ble_eq_true rfl) dX6_campaign_45 ⟨Nat.le_of_ble_eq_true rfl, Nat.le_of_ble_eq_true rfl⟩ hS hP (fun r_9 H locs hpr_9 hP hS => ?_)
          refine lv_if_eq (tgt := 79) hx hb dX6_campaign_48 (by decide) (fun c_10 => ?_) (fun c_10 => ?_)
          · skip
            have g_10 := k_ff hpr_9 c_10
            refine lv_iconst (v := 0) hx hb dX6_campaign_79 (by decide) ?_
            refine lv_istore (lv' := [(5, .int 0), (4, .int x_1), (0, .ref h0), (1, .int x), (2, .int y), (3, .int z)]) hx hb dX6_campaign_80 hl (by decide) rfl (fun ls hl => ?_)
            refine lv_iload hx hb dX6_campaign_82 (lv_at hl 0 rfl) ?_
            refine lv_if_eq (tgt := 101) hx hb dX6_campaign_84 (by decide) (fun _ => ?_) (fun h9 => absurd (by decide) h9)
            refine lv_iconst (v := (-1)) hx hb dX6_campaign_101 (by decide) ?_
            exact W.iret (v := (-1)) hx hb hr (fun t ht hW => ⟨⟨(-1), (), rfl, (by subst ex_1 ex_5; have h1 := k_cp1 x; have h2 := k_cp2 y; simp only [Int32.lt_iff_toInt_lt, Int32.le_iff_toInt_le, ← Int32.toInt_inj, Int32.reduceToInt] at h1 h2 c_2 g_4 c_6 g_8 g_10; exact (if_neg (by unfold cpOk; simp only [Int32.lt_iff_toInt_lt, Int32.le_iff_toInt_le, ← Int32.toInt_inj, Int32.reduceToInt]; omega)).symm), trivial⟩, hS.F ht⟩) hS.2.2 dX6_campaign_102
          · skip
            have g_10 := k_ft hpr_9 c_10
            refine lv_iload hx hb dX6_campaign_51 (lv_at hl 0 rfl) ?_
            refine lv_iconst (v := 2) hx hb dX6_campaign_53 (by decide) ?_
            refine lv_icmp_ne (tgt := 64) hx hb dX6_campaign_54 (by decide) (fun c_11 => ?_) (fun c_11 => ?_)
            · skip
              refine lv_iload_n hx hb dX6_campaign_64 rfl (lv_at hl 4 rfl) ?_
              refine lv_iconst (v := 1) hx hb dX6_campaign_65 (by decide) ?_
              refine lv_sipush (v := 1000) hx hb dX6_campaign_66 (by decide) ?_
              refine k_S ⟨hx, hb, hml, hown, hts⟩ (c_in l z 1 1000) 3 wm_4 wm_5 wm_6 wm_7 (by decide +kernel) ⟨Nat.le_of_ble_eq_true rfl, Nat.le_of_ble_eq_true rfl⟩ rfl hl.1 rfl (Nat.le_of_ble_eq_true rfl) dX6_campaign_69 ⟨Nat.le_of_ble_eq_true rfl, Nat.le_of_ble_eq_true rfl⟩ hS hP (fun r_12 H locs hpr_12 hP hS => ?_)
              refine lv_if_eq (tgt := 79) hx hb dX6_campaign_72 (by decide) (fun c_13 => ?_) (fun c_13 => ?_)
              · skip
                have g_13 := k_ff hpr_12 c_13
                refine lv_iconst (v := 0) hx hb dX6_campaign_79 (by decide) ?_
                refine lv_istore (lv' := [(5, .int 0), (4, .int x_1), (0, .ref h0), (1, .int x), (2, .int y), (3, .int z)]) hx hb dX6_campaign_80 hl (by decide) rfl (fun ls hl => ?_)
                refine lv_iload hx hb dX6_campaign_82 (lv_at hl 0 rfl) ?_
                refine lv_if_eq (tgt := 101) hx hb dX6_campaign_84 (by decide) (fun _ => ?_) (fun h9 => absurd (by decide) h9)
                refine lv_iconst (v := (-1)) hx hb dX6_campaign_101 (by decide) ?_
                exact W.iret (v := (-1)) hx hb hr (fun t ht hW => ⟨⟨(-1), (), rfl, (by subst ex_1 ex_5; have h1 := k_cp1 x; have h2 := k_cp2 y; simp only [Int32.lt_iff_toInt_lt, Int32.le_iff_toInt_le, ← Int32.toInt_inj, Int32.reduceToInt] at h1 h2 c_2 g_4 c_6 g_8 g_10 c_11 g_13; exact (if_neg (by unfold cpOk; simp only [Int32.lt_iff_toInt_lt, Int32.le_iff_toInt_le, ← Int32.toInt_inj, Int32.reduceToInt]; omega)).symm), trivial⟩, hS.F ht⟩) hS.2.2 dX6_campaign_102
              · skip
                have g_13 := k_ft hpr_12 c_13
                refine lv_iconst (v := 1) hx hb dX6_campaign_75 (by decide) ?_
                refine lv_goto (tgt := 80) hx hb dX6_campaign_76 (by decide) ?_
                refine lv_istore (lv' := [(5, .int 1), (4, .int x_1), (0, .ref h0), (1, .int x), (2, .int y), (3, .int z)]) hx hb dX6_campaign_80 hl (by decide) rfl (fun ls hl => ?_)
                refine lv_iload hx hb dX6_campaign_82 (lv_at hl 0 rfl) ?_
                refine lv_if_eq (tgt := 101) hx hb dX6_campaign_84 (by decide) (fun h9 => absurd h9 (by decide)) (fun _ => ?_)
                refine lv_iload_n hx hb dX6_campaign_87 rfl (lv_at hl 4 rfl) ?_
                refine lv_sipush (v := 4096) hx hb dX6_campaign_88 (by decide) ?_
                refine lv_idiv hx hb dX6_campaign_91 (by decide) ?_
                refine lv_topi (fun x_14 ex_14 => ?_)
                refine lv_iload_n hx hb dX6_campaign_92 rfl (lv_at hl 4 rfl) ?_
                refine lv_sipush (v := 4096) hx hb dX6_campaign_93 (by decide) ?_
                refine lv_irem hx hb dX6_campaign_96 (by decide) ?_
                refine lv_topi (fun x_15 ex_15 => ?_)
                refine lv_iand hx hb dX6_campaign_97 ?_
                refine lv_topi (fun x_16 ex_16 => ?_)
                refine lv_if_eq (tgt := 103) hx hb dX6_campaign_98 (by decide) (fun c_17 => ?_) (fun c_17 => ?_)
                · skip
                  refine lv_aload_n hx hb dX6_campaign_103 rfl (lv_at hl 2 rfl) ?_
                  refine va_get (D := (dC, dI)) (ci := 6) (v := .int 0) (C := RX6) (T := TX6) (N := 51) hx hb hts uB6 hown hK hP 0 rfl rfl 9 (by decide) (hts _ wm_12) (fun _ h9 => h9) hfc dX6_campaign_104 ?_
                  refine lv_bipush (v := 40) hx hb dX6_campaign_107 (by decide) ?_
                  refine lv_icmp_ne (tgt := 115) hx hb dX6_campaign_109 (by decide) (fun _ => ?_) (fun h9 => absurd h9 (by decide))
                  refine lv_aload_n hx hb dX6_campaign_115 rfl (lv_at hl 2 rfl) ?_
                  refine va_get (D := (dC, dI)) (ci := 6) (v := .int 0) (C := RX6) (T := TX6) (N := 51) hx hb hts uB6 hown hK hP 0 rfl rfl 9 (by decide) (hts _ wm_12) (fun _ h9 => h9) hfc dX6_campaign_116 ?_
                  refine lv_istore (lv' := [(6, .int 0), (5, .int 1), (4, .int x_1), (0, .ref h0), (1, .int x), (2, .int y), (3, .int z)]) hx hb dX6_campaign_119 hl (by decide) rfl (fun ls hl => ?_)
                  refine lv_aload_n hx hb dX6_campaign_121 rfl (lv_at hl 3 rfl) ?_
                  refine va_get (D := (dC, dI)) (ci := 6) (v := .ref q_sort) (C := RX6) (T := TX6) (N := 51) hx hb hts uB6 hown hK hP 0 rfl rfl 10 (by decide) (hts _ wm_130) (fun _ h9 => h9) hf_sort dX6_campaign_122 ?_
                  refine lv_iload hx hb dX6_campaign_125 (lv_at hl 0 rfl) ?_
                  refine lv_iload hx hb dX6_campaign_127 (lv_at hl 2 rfl) ?_
                  refine va_iast hx hb hK hP hD hS 1 0 rfl rfl (vp_in_iff.mpr (by decide)) dX6_campaign_129 (fun H locs hP hD hS => ?_)
                  obtain ⟨f_18, ef_18⟩ : ∃ z9, z9 = upd (fun _ => 0) (Int32.toNatClampNeg 0) x_1 := ⟨_, rfl⟩
                  have hP : va_P (dC, dI) vwCl [(h0, .inr (6, fs)), (q_sort, .inl (cI, 40, .inl f_18)), (q_pays, .inl (cI, 40, .inl (fun _ => 0))), (q_must, .inl (cI, 40, .inl (fun _ => 0))), (q_never, .inl (cI, 40, .inl (fun _ => 0))), (q_bid, .inl (cI, 40, .inl (fun _ => 0))), (q_cap, .inl (cI, 40, .inl (fun _ => 0))), (q_span, .inl (cI, 40, .inl (fun _ => 0))), (q_throttle, .inl (cI, 40, .inl (fun _ => 0))), (q_promised, .inl (cI, 40, .inl (fun _ => 0)))] H := by rw [ef_18]; exact hP
                  have hD : va_D A [(h0, .inr (6, fs)), (q_sort, .inl (cI, 40, .inl f_18)), (q_pays, .inl (cI, 40, .inl (fun _ => 0))), (q_must, .inl (cI, 40, .inl (fun _ => 0))), (q_never, .inl (cI, 40, .inl (fun _ => 0))), (q_bid, .inl (cI, 40, .inl (fun _ => 0))), (q_cap, .inl (cI, 40, .inl (fun _ => 0))), (q_span, .inl (cI, 40, .inl (fun _ => 0))), (q_throttle, .inl (cI, 40, .inl (fun _ => 0))), (q_promised, .inl (cI, 40, .inl (fun _ => 0)))] := by rw [ef_18]; exact hD
                  refine lv_aload_n hx hb dX6_campaign_130 rfl (lv_at hl 3 rfl) ?_
                  refine va_get (D := (dC, dI)) (ci := 6) (v := .ref q_pays) (C := RX6) (T := TX6) (N := 51) hx hb hts uB6 hown hK hP 0 rfl rfl 11 (by decide) (hts _ wm_131) (fun _ h9 => h9) hf_pays dX6_campaign_131 ?_
                  refine lv_iload hx hb dX6_campaign_134 (lv_at hl 0 rfl) ?_
                  refine lv_iload_n hx hb dX6_campaign_136 rfl (lv_at hl 4 rfl) ?_
                  refine lv_bipush (v := 10) hx hb dX6_campaign_137 (by decide) ?_
                  refine lv_irem hx hb dX6_campaign_139 (by decide) ?_
                  refine lv_topi (fun x_19 ex_19 => ?_)
                  refine va_iast hx hb hK hP hD hS 2 0 rfl rfl (vp_in_iff.mpr (by decide)) dX6_campaign_140 (fun H locs hP hD hS => ?_)
                  obtain ⟨f_20, ef_20⟩ : ∃ z9, z9 = upd (fun _ => 0) (Int32.toNatClampNeg 0) x_19 := ⟨_, rfl⟩
                  have hP : va_P (dC, dI) vwCl [(h0, .inr (6, fs)), (q_sort, .inl (cI, 40, .inl f_18)), (q_pays, .inl (cI, 40, .inl f_20)), (q_must, .inl (cI, 40, .inl (fun _ => 0))), (q_never, .inl (cI, 40, .inl (fun _ => 0))), (q_bid, .inl (cI, 40, .inl (fun _ => 0))), (q_cap, .inl (cI, 40, .inl (fun _ => 0))), (q_span, .inl (cI, 40, .inl (fun _ => 0))), (q_throttle, .inl (cI, 40, .inl (fun _ => 0))), (q_promised, .inl (cI, 40, .inl (fun _ => 0)))] H := by rw [ef_20]; exact hP
                  have hD : va_D A [(h0, .inr (6, fs)), (q_sort, .inl (cI, 40, .inl f_18)), (q_pays, .inl (cI, 40, .inl f_20)), (q_must, .inl (cI, 40, .inl (fun _ => 0))), (q_never, .inl (cI, 40, .inl (fun _ => 0))), (q_bid, .inl (cI, 40, .inl (fun _ => 0))), (q_cap, .inl (cI, 40, .inl (fun _ => 0))), (q_span, .inl (cI, 40, .inl (fun _ => 0))), (q_throttle, .inl (cI, 40, .inl (fun _ => 0))), (q_promised, .inl (cI, 40, .inl (fun _ => 0)))] := by rw [ef_20]; exact hD
                  refine lv_aload_n hx hb dX6_campaign_141 rfl (lv_at hl 3 rfl) ?_
                  refine va_get (D := (dC, dI)) (ci := 6) (v := .ref q_must) (C := RX6) (T := TX6) (N := 51) hx hb hts uB6 hown hK hP 0 rfl rfl 12 (by decide) (hts _ wm_132) (fun _ h9 => h9) hf_must dX6_campaign_142 ?_
                  refine lv_iload hx hb dX6_campaign_145 (lv_at hl 0 rfl) ?_
                  refine lv_iload_n hx hb dX6_campaign_147 rfl (lv_at hl 5 rfl) ?_
                  refine lv_sipush (v := 4096) hx hb dX6_campaign_148 (by decide) ?_
                  refine lv_idiv hx hb dX6_campaign_151 (by decide) ?_
                  refine lv_topi (fun x_21 ex_21 => ?_)
                  refine va_iast hx hb hK hP hD hS 3 0 rfl rfl (vp_in_iff.mpr (by decide)) dX6_campaign_152 (fun H locs hP hD hS => ?_)
                  obtain ⟨f_22, ef_22⟩ : ∃ z9, z9 = upd (fun _ => 0) (Int32.toNatClampNeg 0) x_21 := ⟨_, rfl⟩
                  have hP : va_P (dC, dI) vwCl [(h0, .inr (6, fs)), (q_sort, .inl (cI, 40, .inl f_18)), (q_pays, .inl (cI, 40, .inl f_20)), (q_must, .inl (cI, 40, .inl f_22)), (q_never, .inl (cI, 40, .inl (fun _ => 0))), (q_bid, .inl (cI, 40, .inl (fun _ => 0))), (q_cap, .inl (cI, 40, .inl (fun _ => 0))), (q_span, .inl (cI, 40, .inl (fun _ => 0))), (q_throttle, .inl (cI, 40, .inl (fun _ => 0))), (q_promised, .inl (cI, 40, .inl (fun _ => 0)))] H := by rw [ef_22]; exact hP
                  have hD : va_D A [(h0, .inr (6, fs)), (q_sort, .inl (cI, 40, .inl f_18)), (q_pays, .inl (cI, 40, .inl f_20)), (q_must, .inl (cI, 40, .inl f_22)), (q_never, .inl (cI, 40, .inl (fun _ => 0))), (q_bid, .inl (cI, 40, .inl (fun _ => 0))), (q_cap, .inl (cI, 40, .inl (fun _ => 0))), (q_span, .inl (cI, 40, .inl (fun _ => 0))), (q_throttle, .inl (cI, 40, .inl (fun _ => 0))), (q_promised, .inl (cI, 40, .inl (fun _ => 0)))] := by rw [ef_22]; exact hD
                  refine lv_aload_n hx hb dX6_campaign_153 rfl (lv_at hl 3 rfl) ?_
                  refine va_get (D := (dC, dI)) (ci := 6) (v := .ref q_never) (C := RX6) (T := TX6) (N := 51) hx hb hts uB6 hown hK hP 0 rfl rfl 13 (by decide) (hts _ wm_133) (fun _ h9 => h9) hf_never dX6_campaign_154 ?_
                  refine lv_iload hx hb dX6_campaign_157 (lv_at hl 0 rfl) ?_
                  refine lv_iload_n hx hb dX6_campaign_159 rfl (lv_at hl 5 rfl) ?_
                  refine lv_sipush (v := 4096) hx hb dX6_campaign_160 (by decide) ?_
                  refine lv_irem hx hb dX6_campaign_163 (by decide) ?_
                  refine lv_topi (fun x_23 ex_23 => ?_)
                  refine va_iast hx hb hK hP hD hS 4 0 rfl rfl (vp_in_iff.mpr (by decide)) dX6_campaign_164 (fun H locs hP hD hS => ?_)
                  obtain ⟨f_24, ef_24⟩ : ∃ z9, z9 = upd (fun _ => 0) (Int32.toNatClampNeg 0) x_23 := ⟨_, rfl⟩
                  have hP : va_P (dC, dI) vwCl [(h0, .inr (6, fs)), (q_sort, .inl (cI, 40, .inl f_18)), (q_pays, .inl (cI, 40, .inl f_20)), (q_must, .inl (cI, 40, .inl f_22)), (q_never, .inl (cI, 40, .inl f_24)), (q_bid, .inl (cI, 40, .inl (fun _ => 0))), (q_cap, .inl (cI, 40, .inl (fun _ => 0))), (q_span, .inl (cI, 40, .inl (fun _ => 0))), (q_throttle, .inl (cI, 40, .inl (fun _ => 0))), (q_promised, .inl (cI, 40, .inl (fun _ => 0)))] H := by rw [ef_24]; exact hP
                  have hD : va_D A [(h0, .inr (6, fs)), (q_sort, .inl (cI, 40, .inl f_18)), (q_pays, .inl (cI, 40, .inl f_20)), (q_must, .inl (cI, 40, .inl f_22)), (q_never, .inl (cI, 40, .inl f_24)), (q_bid, .inl (cI, 40, .inl (fun _ => 0))), (q_cap, .inl (cI, 40, .inl (fun _ => 0))), (q_span, .inl (cI, 40, .inl (fun _ => 0))), (q_throttle, .inl (cI, 40, .inl (fun _ => 0))), (q_promised, .inl (cI, 40, .inl (fun _ => 0)))] := by rw [ef_24]; exact hD
                  refine lv_aload_n hx hb dX6_campaign_165 rfl (lv_at hl 3 rfl) ?_
                  refine va_get (D := (dC, dI)) (ci := 6) (v := .ref q_bid) (C := RX6) (T := TX6) (N := 51) hx hb hts uB6 hown hK hP 0 rfl rfl 14 (by decide) (hts _ wm_134) (fun _ h9 => h9) hf_bid dX6_campaign_166 ?_
                  refine lv_iload hx hb dX6_campaign_169 (lv_at hl 0 rfl) ?_
                  refine lv_iload_n hx hb dX6_campaign_171 rfl (lv_at hl 6 rfl) ?_
                  refine va_iast hx hb hK hP hD hS 5 0 rfl rfl (vp_in_iff.mpr (by decide)) dX6_campaign_172 (fun H locs hP hD hS => ?_)
                  obtain ⟨f_25, ef_25⟩ : ∃ z9, z9 = upd (fun _ => 0) (Int32.toNatClampNeg 0) z := ⟨_, rfl⟩
                  have hP : va_P (dC, dI) vwCl [(h0, .inr (6, fs)), (q_sort, .inl (cI, 40, .inl f_18)), (q_pays, .inl (cI, 40, .inl f_20)), (q_must, .inl (cI, 40, .inl f_22)), (q_never, .inl (cI, 40, .inl f_24)), (q_bid, .inl (cI, 40, .inl f_25)), (q_cap, .inl (cI, 40, .inl (fun _ => 0))), (q_span, .inl (cI, 40, .inl (fun _ => 0))), (q_throttle, .inl (cI, 40, .inl (fun _ => 0))), (q_promised, .inl (cI, 40, .inl (fun _ => 0)))] H := by rw [ef_25]; exact hP
                  have hD : va_D A [(h0, .inr (6, fs)), (q_sort, .inl (cI, 40, .inl f_18)), (q_pays, .inl (cI, 40, .inl f_20)), (q_must, .inl (cI, 40, .inl f_22)), (q_never, .inl (cI, 40, .inl f_24)), (q_bid, .inl (cI, 40, .inl f_25)), (q_cap, .inl (cI, 40, .inl (fun _ => 0))), (q_span, .inl (cI, 40, .inl (fun _ => 0))), (q_throttle, .inl (cI, 40, .inl (fun _ => 0))), (q_promised, .inl (cI, 40, .inl (fun _ => 0)))] := by rw [ef_25]; exact hD
                  refine lv_aload_n hx hb dX6_campaign_173 rfl (lv_at hl 3 rfl) ?_
                  refine va_get (D := (dC, dI)) (ci := 6) (v := .ref q_cap) (C := RX6) (T := TX6) (N := 51) hx hb hts uB6 hown hK hP 0 rfl rfl 17 (by decide) (hts _ wm_135) (fun _ h9 => h9) hf_cap dX6_campaign_174 ?_
                  refine lv_iload hx hb dX6_campaign_177 (lv_at hl 0 rfl) ?_
                  refine lv_bipush (v := 9) hx hb dX6_campaign_179 (by decide) ?_
                  refine va_iast hx hb hK hP hD hS 6 0 rfl rfl (vp_in_iff.mpr (by decide)) dX6_campaign_181 (fun H locs hP hD hS => ?_)
                  obtain ⟨f_26, ef_26⟩ : ∃ z9, z9 = upd (fun _ => 0) (Int32.toNatClampNeg 0) 9 := ⟨_, rfl⟩
                  have hP : va_P (dC, dI) vwCl [(h0, .inr (6, fs)), (q_sort, .inl (cI, 40, .inl f_18)), (q_pays, .inl (cI, 40, .inl f_20)), (q_must, .inl (cI, 40, .inl f_22)), (q_never, .inl (cI, 40, .inl f_24)), (q_bid, .inl (cI, 40, .inl f_25)), (q_cap, .inl (cI, 40, .inl f_26)), (q_span, .inl (cI, 40, .inl (fun _ => 0))), (q_throttle, .inl (cI, 40, .inl (fun _ => 0))), (q_promised, .inl (cI, 40, .inl (fun _ => 0)))] H := by rw [ef_26]; exact hP
                  have hD : va_D A [(h0, .inr (6, fs)), (q_sort, .inl (cI, 40, .inl f_18)), (q_pays, .inl (cI, 40, .inl f_20)), (q_must, .inl (cI, 40, .inl f_22)), (q_never, .inl (cI, 40, .inl f_24)), (q_bid, .inl (cI, 40, .inl f_25)), (q_cap, .inl (cI, 40, .inl f_26)), (q_span, .inl (cI, 40, .inl (fun _ => 0))), (q_throttle, .inl (cI, 40, .inl (fun _ => 0))), (q_promised, .inl (cI, 40, .inl (fun _ => 0)))] := by rw [ef_26]; exact hD
                  refine lv_aload_n hx hb dX6_campaign_182 rfl (lv_at hl 3 rfl) ?_
                  refine va_get (D := (dC, dI)) (ci := 6) (v := .ref q_span) (C := RX6) (T := TX6) (N := 51) hx hb hts uB6 hown hK hP 0 rfl rfl 18 (by decide) (hts _ wm_136) (fun _ h9 => h9) hf_span dX6_campaign_183 ?_
                  refine lv_iload hx hb dX6_campaign_186 (lv_at hl 0 rfl) ?_
                  refine lv_iconst (v := 1) hx hb dX6_campaign_188 (by decide) ?_
                  refine va_iast hx hb hK hP hD hS 7 0 rfl rfl (vp_in_iff.mpr (by decide)) dX6_campaign_189 (fun H locs hP hD hS => ?_)
                  obtain ⟨f_27, ef_27⟩ : ∃ z9, z9 = upd (fun _ => 0) (Int32.toNatClampNeg 0) 1 := ⟨_, rfl⟩
                  have hP : va_P (dC, dI) vwCl [(h0, .inr (6, fs)), (q_sort, .inl (cI, 40, .inl f_18)), (q_pays, .inl (cI, 40, .inl f_20)), (q_must, .inl (cI, 40, .inl f_22)), (q_never, .inl (cI, 40, .inl f_24)), (q_bid, .inl (cI, 40, .inl f_25)), (q_cap, .inl (cI, 40, .inl f_26)), (q_span, .inl (cI, 40, .inl f_27)), (q_throttle, .inl (cI, 40, .inl (fun _ => 0))), (q_promised, .inl (cI, 40, .inl (fun _ => 0)))] H := by rw [ef_27]; exact hP
                  have hD : va_D A [(h0, .inr (6, fs)), (q_sort, .inl (cI, 40, .inl f_18)), (q_pays, .inl (cI, 40, .inl f_20)), (q_must, .inl (cI, 40, .inl f_22)), (q_never, .inl (cI, 40, .inl f_24)), (q_bid, .inl (cI, 40, .inl f_25)), (q_cap, .inl (cI, 40, .inl f_26)), (q_span, .inl (cI, 40, .inl f_27)), (q_throttle, .inl (cI, 40, .inl (fun _ => 0))), (q_promised, .inl (cI, 40, .inl (fun _ => 0)))] := by rw [ef_27]; exact hD
                  refine lv_aload_n hx hb dX6_campaign_190 rfl (lv_at hl 3 rfl) ?_
                  refine va_get (D := (dC, dI)) (ci := 6) (v := .ref q_throttle) (C := RX6) (T := TX6) (N := 51) hx hb hts uB6 hown hK hP 0 rfl rfl 19 (by decide) (hts _ wm_137) (fun _ h9 => h9) hf_throttle dX6_campaign_191 ?_
                  refine lv_iload hx hb dX6_campaign_194 (lv_at hl 0 rfl) ?_
                  refine lv_sipush (v := 1000) hx hb dX6_campaign_196 (by decide) ?_
                  refine va_iast hx hb hK hP hD hS 8 0 rfl rfl (vp_in_iff.mpr (by decide)) dX6_campaign_199 (fun H locs hP hD hS => ?_)
                  obtain ⟨f_28, ef_28⟩ : ∃ z9, z9 = upd (fun _ => 0) (Int32.toNatClampNeg 0) 1000 := ⟨_, rfl⟩
                  have hP : va_P (dC, dI) vwCl [(h0, .inr (6, fs)), (q_sort, .inl (cI, 40, .inl f_18)), (q_pays, .inl (cI, 40, .inl f_20)), (q_must, .inl (cI, 40, .inl f_22)), (q_never, .inl (cI, 40, .inl f_24)), (q_bid, .inl (cI, 40, .inl f_25)), (q_cap, .inl (cI, 40, .inl f_26)), (q_span, .inl (cI, 40, .inl f_27)), (q_throttle, .inl (cI, 40, .inl f_28)), (q_promised, .inl (cI, 40, .inl (fun _ => 0)))] H := by rw [ef_28]; exact hP
                  have hD : va_D A [(h0, .inr (6, fs)), (q_sort, .inl (cI, 40, .inl f_18)), (q_pays, .inl (cI, 40, .inl f_20)), (q_must, .inl (cI, 40, .inl f_22)), (q_never, .inl (cI, 40, .inl f_24)), (q_bid, .inl (cI, 40, .inl f_25)), (q_cap, .inl (cI, 40, .inl f_26)), (q_span, .inl (cI, 40, .inl f_27)), (q_throttle, .inl (cI, 40, .inl f_28)), (q_promised, .inl (cI, 40, .inl (fun _ => 0)))] := by rw [ef_28]; exact hD
                  refine lv_aload_n hx hb dX6_campaign_200 rfl (lv_at hl 3 rfl) ?_
                  refine va_get (D := (dC, dI)) (ci := 6) (v := .ref q_promised) (C := RX6) (T := TX6) (N := 51) hx hb hts uB6 hown hK hP 0 rfl rfl 22 (by decide) (hts _ wm_138) (fun _ h9 => h9) hf_promised dX6_campaign_201 ?_
                  refine lv_iload hx hb dX6_campaign_204 (lv_at hl 0 rfl) ?_
                  refine lv_iconst (v := 0) hx hb dX6_campaign_206 (by decide) ?_
                  refine va_iast hx hb hK hP hD hS 9 0 rfl rfl (vp_in_iff.mpr (by decide)) dX6_campaign_207 (fun H locs hP hD hS => ?_)
                  obtain ⟨f_29, ef_29⟩ : ∃ z9, z9 = upd (fun _ => 0) (Int32.toNatClampNeg 0) 0 := ⟨_, rfl⟩
                  have hP : va_P (dC, dI) vwCl [(h0, .inr (6, fs)), (q_sort, .inl (cI, 40, .inl f_18)), (q_pays, .inl (cI, 40, .inl f_20)), (q_must, .inl (cI, 40, .inl f_22)), (q_never, .inl (cI, 40, .inl f_24)), (q_bid, .inl (cI, 40, .inl f_25)), (q_cap, .inl (cI, 40, .inl f_26)), (q_span, .inl (cI, 40, .inl f_27)), (q_throttle, .inl (cI, 40, .inl f_28)), (q_promised, .inl (cI, 40, .inl f_29))] H := by rw [ef_29]; exact hP
                  have hD : va_D A [(h0, .inr (6, fs)), (q_sort, .inl (cI, 40, .inl f_18)), (q_pays, .inl (cI, 40, .inl f_20)), (q_must, .inl (cI, 40, .inl f_22)), (q_never, .inl (cI, 40, .inl f_24)), (q_bid, .inl (cI, 40, .inl f_25)), (q_cap, .inl (cI, 40, .inl f_26)), (q_span, .inl (cI, 40, .inl f_27)), (q_throttle, .inl (cI, 40, .inl f_28)), (q_promised, .inl (cI, 40, .inl f_29))] := by rw [ef_29]; exact hD
                  refine lv_aload_n hx hb dX6_campaign_208 rfl (lv_at hl 3 rfl) ?_
                  refine lv_dup hx hb dX6_campaign_209 rfl ?_
                  refine va_get (D := (dC, dI)) (ci := 6) (v := .int 0) (C := RX6) (T := TX6) (N := 51) hx hb hts uB6 hown hK hP 0 rfl rfl 9 (by decide) (hts _ wm_12) (fun _ h9 => h9) hfc dX6_campaign_210 ?_
                  refine lv_iconst (v := 1) hx hb dX6_campaign_213 (by decide) ?_
                  refine lv_iadd hx hb dX6_campaign_214 ?_
                  refine lv_topi (fun x_30 ex_30 => ?_)
                  obtain rfl : x_30 = 1 := ex_30.trans (by decide)
                  refine va_put (D := (dC, dI)) (ci := 6) (v := .int 1) (ty := .int) (C := RX6) (T := TX6) (N := 51) hx hb hts uB6 tyX6 tyX6_ok nmX6 hown hK hP hD hS 0 rfl rfl 9 (by decide) (hts _ wm_12) (fun _ h9 => h9) rfl (by decide +kernel) rfl rfl (by rw [hlen_h0]; decide) dX6_campaign_215 (fun H locs hP hD hS => ?_)
                  obtain ⟨fs_31, efs_31⟩ : ∃ z9, z9 = (fs).set 9 (.int 1) := ⟨_, rfl⟩
                  have hP : va_P (dC, dI) vwCl [(h0, .inr (6, fs_31)), (q_sort, .inl (cI, 40, .inl f_18)), (q_pays, .inl (cI, 40, .inl f_20)), (q_must, .inl (cI, 40, .inl f_22)), (q_never, .inl (cI, 40, .inl f_24)), (q_bid, .inl (cI, 40, .inl f_25)), (q_cap, .inl (cI, 40, .inl f_26)), (q_span, .inl (cI, 40, .inl f_27)), (q_throttle, .inl (cI, 40, .inl f_28)), (q_promised, .inl (cI, 40, .inl f_29))] H := by rw [efs_31]; exact hP
                  have hD : va_D A [(h0, .inr (6, fs_31)), (q_sort, .inl (cI, 40, .inl f_18)), (q_pays, .inl (cI, 40, .inl f_20)), (q_must, .inl (cI, 40, .inl f_22)), (q_never, .inl (cI, 40, .inl f_24)), (q_bid, .inl (cI, 40, .inl f_25)), (q_cap, .inl (cI, 40, .inl f_26)), (q_span, .inl (cI, 40, .inl f_27)), (q_throttle, .inl (cI, 40, .inl f_28)), (q_promised, .inl (cI, 40, .inl f_29))] := by rw [efs_31]; exact hD
                  have hf_sort : fs_31[10]? = some (.ref q_sort) := by rw [efs_31, List.getElem?_set_ne (by decide)]; exact hf_sort
                  have hf_pays : fs_31[11]? = some (.ref q_pays) := by rw [efs_31, List.getElem?_set_ne (by decide)]; exact hf_pays
                  have hf_must : fs_31[12]? = some (.ref q_must) := by rw [efs_31, List.getElem?_set_ne (by decide)]; exact hf_must
                  have hf_never : fs_31[13]? = some (.ref q_never) := by rw [efs_31, List.getElem?_set_ne (by decide)]; exact hf_never
                  have hf_bid : fs_31[14]? = some (.ref q_bid) := by rw [efs_31, List.getElem?_set_ne (by decide)]; exact hf_bid
                  have hf_cap : fs_31[17]? = some (.ref q_cap) := by rw [efs_31, List.getElem?_set_ne (by decide)]; exact hf_cap
                  have hf_span : fs_31[18]? = some (.ref q_span) := by rw [efs_31, List.getElem?_set_ne (by decide)]; exact hf_span
                  have hf_throttle : fs_31[19]? = some (.ref q_throttle) := by rw [efs_31, List.getElem?_set_ne (by decide)]; exact hf_throttle
                  have hf_promised : fs_31[22]? = some (.ref q_promised) := by rw [efs_31, List.getElem?_set_ne (by decide)]; exact hf_promised
                  have hfc : fs_31[9]? = some (.int 1) := by rw [efs_31]; exact List.getElem?_set_self (by rw [hlen_h0]; decide)
                  have hlen_h0 : fs_31.length = 51 := by rw [efs_31, List.length_set]; exact hlen_h0
                  refine lv_iload hx hb dX6_campaign_218 (lv_at hl 0 rfl) ?_
                  exact W.iret (v := 0) hx hb hr (fun t ht hW => ⟨⟨0, (), rfl, (by subst ex_1 ex_5 ex_14 ex_15 ex_16 ex_19 ex_21 ex_23; have h1 := k_cp1 x; have h2 := k_cp2 y; simp only [Int32.lt_iff_toInt_lt, Int32.le_iff_toInt_le, ← Int32.toInt_inj, Int32.reduceToInt] at h1 h2 c_2 g_4 c_6 g_8 g_10 c_11 g_13 c_17; exact (if_pos (by unfold cpOk; simp only [Int32.lt_iff_toInt_lt, Int32.le_iff_toInt_le, ← Int32.toInt_inj, Int32.reduceToInt]; omega)).symm), trivial⟩, hS.F ht⟩) hS.2.2 dX6_campaign_220
                · skip
                  refine lv_iconst (v := (-1)) hx hb dX6_campaign_101 (by decide) ?_
                  exact W.iret (v := (-1)) hx hb hr (fun t ht hW => ⟨⟨(-1), (), rfl, (by subst ex_1 ex_5 ex_14 ex_15 ex_16; have h1 := k_cp1 x; have h2 := k_cp2 y; simp only [Int32.lt_iff_toInt_lt, Int32.le_iff_toInt_le, ← Int32.toInt_inj, Int32.reduceToInt] at h1 h2 c_2 g_4 c_6 g_8 g_10 c_11 g_13 c_17; exact (if_neg (by unfold cpOk; simp only [Int32.lt_iff_toInt_lt, Int32.le_iff_toInt_le, ← Int32.toInt_inj, Int32.reduceToInt]; omega)).symm), trivial⟩, hS.F ht⟩) hS.2.2 dX6_campaign_102
            · skip
              refine lv_iload_n hx hb dX6_campaign_57 rfl (lv_at hl 4 rfl) ?_
              refine lv_if_ne (tgt := 79) hx hb dX6_campaign_58 (by decide) (fun c_32 => ?_) (fun c_32 => ?_)
              · skip
                refine lv_iconst (v := 0) hx hb dX6_campaign_79 (by decide) ?_
                refine lv_istore (lv' := [(5, .int 0), (4, .int x_1), (0, .ref h0), (1, .int x), (2, .int y), (3, .int z)]) hx hb dX6_campaign_80 hl (by decide) rfl (fun ls hl => ?_)
                refine lv_iload hx hb dX6_campaign_82 (lv_at hl 0 rfl) ?_
                refine lv_if_eq (tgt := 101) hx hb dX6_campaign_84 (by decide) (fun _ => ?_) (fun h9 => absurd (by decide) h9)
                refine lv_iconst (v := (-1)) hx hb dX6_campaign_101 (by decide) ?_
                exact W.iret (v := (-1)) hx hb hr (fun t ht hW => ⟨⟨(-1), (), rfl, (by subst ex_1 ex_5; have h1 := k_cp1 x; have h2 := k_cp2 y; simp only [Int32.lt_iff_toInt_lt, Int32.le_iff_toInt_le, ← Int32.toInt_inj, Int32.reduceToInt] at h1 h2 c_2 g_4 c_6 g_8 g_10 c_11 c_32; exact (if_neg (by unfold cpOk; simp only [Int32.lt_iff_toInt_lt, Int32.le_iff_toInt_le, ← Int32.toInt_inj, Int32.reduceToInt]; omega)).symm), trivial⟩, hS.F ht⟩) hS.2.2 dX6_campaign_102
              · skip
                refine lv_goto (tgt := 75) hx hb dX6_campaign_61 (by decide) ?_
                refine lv_iconst (v := 1) hx hb dX6_campaign_75 (by decide) ?_
                refine lv_goto (tgt := 80) hx hb dX6_campaign_76 (by decide) ?_
                refine lv_istore (lv' := [(5, .int 1), (4, .int x_1), (0, .ref h0), (1, .int x), (2, .int y), (3, .int z)]) hx hb dX6_campaign_80 hl (by decide) rfl (fun ls hl => ?_)
                refine lv_iload hx hb dX6_campaign_82 (lv_at hl 0 rfl) ?_
                refine lv_if_eq (tgt := 101) hx hb dX6_campaign_84 (by decide) (fun h9 => absurd h9 (by decide)) (fun _ => ?_)
                refine lv_iload_n hx hb dX6_campaign_87 rfl (lv_at hl 4 rfl) ?_
                refine lv_sipush (v := 4096) hx hb dX6_campaign_88 (by decide) ?_
                refine lv_idiv hx hb dX6_campaign_91 (by decide) ?_
                refine lv_topi (fun x_33 ex_33 => ?_)
                refine lv_iload_n hx hb dX6_campaign_92 rfl (lv_at hl 4 rfl) ?_
                refine lv_sipush (v := 4096) hx hb dX6_campaign_93 (by decide) ?_
                refine lv_irem hx hb dX6_campaign_96 (by decide) ?_
                refine lv_topi (fun x_34 ex_34 => ?_)
                refine lv_iand hx hb dX6_campaign_97 ?_
                refine lv_topi (fun x_35 ex_35 => ?_)
                refine lv_if_eq (tgt := 103) hx hb dX6_campaign_98 (by decide) (fun c_36 => ?_) (fun c_36 => ?_)
                · skip
                  refine lv_aload_n hx hb dX6_campaign_103 rfl (lv_at hl 2 rfl) ?_
                  refine va_get (D := (dC, dI)) (ci := 6) (v := .int 0) (C := RX6) (T := TX6) (N := 51) hx hb hts uB6 hown hK hP 0 rfl rfl 9 (by decide) (hts _ wm_12) (fun _ h9 => h9) hfc dX6_campaign_104 ?_
                  refine lv_bipush (v := 40) hx hb dX6_campaign_107 (by decide) ?_
                  refine lv_icmp_ne (tgt := 115) hx hb dX6_campaign_109 (by decide) (fun _ => ?_) (fun h9 => absurd h9 (by decide))
                  refine lv_aload_n hx hb dX6_campaign_115 rfl (lv_at hl 2 rfl) ?_
                  refine va_get (D := (dC, dI)) (ci := 6) (v := .int 0) (C := RX6) (T := TX6) (N := 51) hx hb hts uB6 hown hK hP 0 rfl rfl 9 (by decide) (hts _ wm_12) (fun _ h9 => h9) hfc dX6_campaign_116 ?_
                  refine lv_istore (lv' := [(6, .int 0), (5, .int 1), (4, .int x_1), (0, .ref h0), (1, .int x), (2, .int y), (3, .int z)]) hx hb dX6_campaign_119 hl (by decide) rfl (fun ls hl => ?_)
                  refine lv_aload_n hx hb dX6_campaign_121 rfl (lv_at hl 3 rfl) ?_
                  refine va_get (D := (dC, dI)) (ci := 6) (v := .ref q_sort) (C := RX6) (T := TX6) (N := 51) hx hb hts uB6 hown hK hP 0 rfl rfl 10 (by decide) (hts _ wm_130) (fun _ h9 => h9) hf_sort dX6_campaign_122 ?_
                  refine lv_iload hx hb dX6_campaign_125 (lv_at hl 0 rfl) ?_
                  refine lv_iload hx hb dX6_campaign_127 (lv_at hl 2 rfl) ?_
                  refine va_iast hx hb hK hP hD hS 1 0 rfl rfl (vp_in_iff.mpr (by decide)) dX6_campaign_129 (fun H locs hP hD hS => ?_)
                  obtain ⟨f_37, ef_37⟩ : ∃ z9, z9 = upd (fun _ => 0) (Int32.toNatClampNeg 0) x_1 := ⟨_, rfl⟩
                  have hP : va_P (dC, dI) vwCl [(h0, .inr (6, fs)), (q_sort, .inl (cI, 40, .inl f_37)), (q_pays, .inl (cI, 40, .inl (fun _ => 0))), (q_must, .inl (cI, 40, .inl (fun _ => 0))), (q_never, .inl (cI, 40, .inl (fun _ => 0))), (q_bid, .inl (cI, 40, .inl (fun _ => 0))), (q_cap, .inl (cI, 40, .inl (fun _ => 0))), (q_span, .inl (cI, 40, .inl (fun _ => 0))), (q_throttle, .inl (cI, 40, .inl (fun _ => 0))), (q_promised, .inl (cI, 40, .inl (fun _ => 0)))] H := by rw [ef_37]; exact hP
                  have hD : va_D A [(h0, .inr (6, fs)), (q_sort, .inl (cI, 40, .inl f_37)), (q_pays, .inl (cI, 40, .inl (fun _ => 0))), (q_must, .inl (cI, 40, .inl (fun _ => 0))), (q_never, .inl (cI, 40, .inl (fun _ => 0))), (q_bid, .inl (cI, 40, .inl (fun _ => 0))), (q_cap, .inl (cI, 40, .inl (fun _ => 0))), (q_span, .inl (cI, 40, .inl (fun _ => 0))), (q_throttle, .inl (cI, 40, .inl (fun _ => 0))), (q_promised, .inl (cI, 40, .inl (fun _ => 0)))] := by rw [ef_37]; exact hD
                  refine lv_aload_n hx hb dX6_campaign_130 rfl (lv_at hl 3 rfl) ?_
                  refine va_get (D := (dC, dI)) (ci := 6) (v := .ref q_pays) (C := RX6) (T := TX6) (N := 51) hx hb hts uB6 hown hK hP 0 rfl rfl 11 (by decide) (hts _ wm_131) (fun _ h9 => h9) hf_pays dX6_campaign_131 ?_
                  refine lv_iload hx hb dX6_campaign_134 (lv_at hl 0 rfl) ?_
                  refine lv_iload_n hx hb dX6_campaign_136 rfl (lv_at hl 4 rfl) ?_
                  refine lv_bipush (v := 10) hx hb dX6_campaign_137 (by decide) ?_
                  refine lv_irem hx hb dX6_campaign_139 (by decide) ?_
                  refine lv_topi (fun x_38 ex_38 => ?_)
                  refine va_iast hx hb hK hP hD hS 2 0 rfl rfl (vp_in_iff.mpr (by decide)) dX6_campaign_140 (fun H locs hP hD hS => ?_)
                  obtain ⟨f_39, ef_39⟩ : ∃ z9, z9 = upd (fun _ => 0) (Int32.toNatClampNeg 0) x_38 := ⟨_, rfl⟩
                  have hP : va_P (dC, dI) vwCl [(h0, .inr (6, fs)), (q_sort, .inl (cI, 40, .inl f_37)), (q_pays, .inl (cI, 40, .inl f_39)), (q_must, .inl (cI, 40, .inl (fun _ => 0))), (q_never, .inl (cI, 40, .inl (fun _ => 0))), (q_bid, .inl (cI, 40, .inl (fun _ => 0))), (q_cap, .inl (cI, 40, .inl (fun _ => 0))), (q_span, .inl (cI, 40, .inl (fun _ => 0))), (q_throttle, .inl (cI, 40, .inl (fun _ => 0))), (q_promised, .inl (cI, 40, .inl (fun _ => 0)))] H := by rw [ef_39]; exact hP
                  have hD : va_D A [(h0, .inr (6, fs)), (q_sort, .inl (cI, 40, .inl f_37)), (q_pays, .inl (cI, 40, .inl f_39)), (q_must, .inl (cI, 40, .inl (fun _ => 0))), (q_never, .inl (cI, 40, .inl (fun _ => 0))), (q_bid, .inl (cI, 40, .inl (fun _ => 0))), (q_cap, .inl (cI, 40, .inl (fun _ => 0))), (q_span, .inl (cI, 40, .inl (fun _ => 0))), (q_throttle, .inl (cI, 40, .inl (fun _ => 0))), (q_promised, .inl (cI, 40, .inl (fun _ => 0)))] := by rw [ef_39]; exact hD
                  refine lv_aload_n hx hb dX6_campaign_141 rfl (lv_at hl 3 rfl) ?_
                  refine va_get (D := (dC, dI)) (ci := 6) (v := .ref q_must) (C := RX6) (T := TX6) (N := 51) hx hb hts uB6 hown hK hP 0 rfl rfl 12 (by decide) (hts _ wm_132) (fun _ h9 => h9) hf_must dX6_campaign_142 ?_
                  refine lv_iload hx hb dX6_campaign_145 (lv_at hl 0 rfl) ?_
                  refine lv_iload_n hx hb dX6_campaign_147 rfl (lv_at hl 5 rfl) ?_
                  refine lv_sipush (v := 4096) hx hb dX6_campaign_148 (by decide) ?_
                  refine lv_idiv hx hb dX6_campaign_151 (by decide) ?_
                  refine lv_topi (fun x_40 ex_40 => ?_)
                  refine va_iast hx hb hK hP hD hS 3 0 rfl rfl (vp_in_iff.mpr (by decide)) dX6_campaign_152 (fun H locs hP hD hS => ?_)
                  obtain ⟨f_41, ef_41⟩ : ∃ z9, z9 = upd (fun _ => 0) (Int32.toNatClampNeg 0) x_40 := ⟨_, rfl⟩
                  have hP : va_P (dC, dI) vwCl [(h0, .inr (6, fs)), (q_sort, .inl (cI, 40, .inl f_37)), (q_pays, .inl (cI, 40, .inl f_39)), (q_must, .inl (cI, 40, .inl f_41)), (q_never, .inl (cI, 40, .inl (fun _ => 0))), (q_bid, .inl (cI, 40, .inl (fun _ => 0))), (q_cap, .inl (cI, 40, .inl (fun _ => 0))), (q_span, .inl (cI, 40, .inl (fun _ => 0))), (q_throttle, .inl (cI, 40, .inl (fun _ => 0))), (q_promised, .inl (cI, 40, .inl (fun _ => 0)))] H := by rw [ef_41]; exact hP
                  have hD : va_D A [(h0, .inr (6, fs)), (q_sort, .inl (cI, 40, .inl f_37)), (q_pays, .inl (cI, 40, .inl f_39)), (q_must, .inl (cI, 40, .inl f_41)), (q_never, .inl (cI, 40, .inl (fun _ => 0))), (q_bid, .inl (cI, 40, .inl (fun _ => 0))), (q_cap, .inl (cI, 40, .inl (fun _ => 0))), (q_span, .inl (cI, 40, .inl (fun _ => 0))), (q_throttle, .inl (cI, 40, .inl (fun _ => 0))), (q_promised, .inl (cI, 40, .inl (fun _ => 0)))] := by rw [ef_41]; exact hD
                  refine lv_aload_n hx hb dX6_campaign_153 rfl (lv_at hl 3 rfl) ?_
                  refine va_get (D := (dC, dI)) (ci := 6) (v := .ref q_never) (C := RX6) (T := TX6) (N := 51) hx hb hts uB6 hown hK hP 0 rfl rfl 13 (by decide) (hts _ wm_133) (fun _ h9 => h9) hf_never dX6_campaign_154 ?_
                  refine lv_iload hx hb dX6_campaign_157 (lv_at hl 0 rfl) ?_
                  refine lv_iload_n hx hb dX6_campaign_159 rfl (lv_at hl 5 rfl) ?_
                  refine lv_sipush (v := 4096) hx hb dX6_campaign_160 (by decide) ?_
                  refine lv_irem hx hb dX6_campaign_163 (by decide) ?_
                  refine lv_topi (fun x_42 ex_42 => ?_)
                  refine va_iast hx hb hK hP hD hS 4 0 rfl rfl (vp_in_iff.mpr (by decide)) dX6_campaign_164 (fun H locs hP hD hS => ?_)
                  obtain ⟨f_43, ef_43⟩ : ∃ z9, z9 = upd (fun _ => 0) (Int32.toNatClampNeg 0) x_42 := ⟨_, rfl⟩
                  have hP : va_P (dC, dI) vwCl [(h0, .inr (6, fs)), (q_sort, .inl (cI, 40, .inl f_37)), (q_pays, .inl (cI, 40, .inl f_39)), (q_must, .inl (cI, 40, .inl f_41)), (q_never, .inl (cI, 40, .inl f_43)), (q_bid, .inl (cI, 40, .inl (fun _ => 0))), (q_cap, .inl (cI, 40, .inl (fun _ => 0))), (q_span, .inl (cI, 40, .inl (fun _ => 0))), (q_throttle, .inl (cI, 40, .inl (fun _ => 0))), (q_promised, .inl (cI, 40, .inl (fun _ => 0)))] H := by rw [ef_43]; exact hP
                  have hD : va_D A [(h0, .inr (6, fs)), (q_sort, .inl (cI, 40, .inl f_37)), (q_pays, .inl (cI, 40, .inl f_39)), (q_must, .inl (cI, 40, .inl f_41)), (q_never, .inl (cI, 40, .inl f_43)), (q_bid, .inl (cI, 40, .inl (fun _ => 0))), (q_cap, .inl (cI, 40, .inl (fun _ => 0))), (q_span, .inl (cI, 40, .inl (fun _ => 0))), (q_throttle, .inl (cI, 40, .inl (fun _ => 0))), (q_promised, .inl (cI, 40, .inl (fun _ => 0)))] := by rw [ef_43]; exact hD
                  refine lv_aload_n hx hb dX6_campaign_165 rfl (lv_at hl 3 rfl) ?_
                  refine va_get (D := (dC, dI)) (ci := 6) (v := .ref q_bid) (C := RX6) (T := TX6) (N := 51) hx hb hts uB6 hown hK hP 0 rfl rfl 14 (by decide) (hts _ wm_134) (fun _ h9 => h9) hf_bid dX6_campaign_166 ?_
                  refine lv_iload hx hb dX6_campaign_169 (lv_at hl 0 rfl) ?_
                  refine lv_iload_n hx hb dX6_campaign_171 rfl (lv_at hl 6 rfl) ?_
                  refine va_iast hx hb hK hP hD hS 5 0 rfl rfl (vp_in_iff.mpr (by decide)) dX6_campaign_172 (fun H locs hP hD hS => ?_)
                  obtain ⟨f_44, ef_44⟩ : ∃ z9, z9 = upd (fun _ => 0) (Int32.toNatClampNeg 0) z := ⟨_, rfl⟩
                  have hP : va_P (dC, dI) vwCl [(h0, .inr (6, fs)), (q_sort, .inl (cI, 40, .inl f_37)), (q_pays, .inl (cI, 40, .inl f_39)), (q_must, .inl (cI, 40, .inl f_41)), (q_never, .inl (cI, 40, .inl f_43)), (q_bid, .inl (cI, 40, .inl f_44)), (q_cap, .inl (cI, 40, .inl (fun _ => 0))), (q_span, .inl (cI, 40, .inl (fun _ => 0))), (q_throttle, .inl (cI, 40, .inl (fun _ => 0))), (q_promised, .inl (cI, 40, .inl (fun _ => 0)))] H := by rw [ef_44]; exact hP
                  have hD : va_D A [(h0, .inr (6, fs)), (q_sort, .inl (cI, 40, .inl f_37)), (q_pays, .inl (cI, 40, .inl f_39)), (q_must, .inl (cI, 40, .inl f_41)), (q_never, .inl (cI, 40, .inl f_43)), (q_bid, .inl (cI, 40, .inl f_44)), (q_cap, .inl (cI, 40, .inl (fun _ => 0))), (q_span, .inl (cI, 40, .inl (fun _ => 0))), (q_throttle, .inl (cI, 40, .inl (fun _ => 0))), (q_promised, .inl (cI, 40, .inl (fun _ => 0)))] := by rw [ef_44]; exact hD
                  refine lv_aload_n hx hb dX6_campaign_173 rfl (lv_at hl 3 rfl) ?_
                  refine va_get (D := (dC, dI)) (ci := 6) (v := .ref q_cap) (C := RX6) (T := TX6) (N := 51) hx hb hts uB6 hown hK hP 0 rfl rfl 17 (by decide) (hts _ wm_135) (fun _ h9 => h9) hf_cap dX6_campaign_174 ?_
                  refine lv_iload hx hb dX6_campaign_177 (lv_at hl 0 rfl) ?_
                  refine lv_bipush (v := 9) hx hb dX6_campaign_179 (by decide) ?_
                  refine va_iast hx hb hK hP hD hS 6 0 rfl rfl (vp_in_iff.mpr (by decide)) dX6_campaign_181 (fun H locs hP hD hS => ?_)
                  obtain ⟨f_45, ef_45⟩ : ∃ z9, z9 = upd (fun _ => 0) (Int32.toNatClampNeg 0) 9 := ⟨_, rfl⟩
                  have hP : va_P (dC, dI) vwCl [(h0, .inr (6, fs)), (q_sort, .inl (cI, 40, .inl f_37)), (q_pays, .inl (cI, 40, .inl f_39)), (q_must, .inl (cI, 40, .inl f_41)), (q_never, .inl (cI, 40, .inl f_43)), (q_bid, .inl (cI, 40, .inl f_44)), (q_cap, .inl (cI, 40, .inl f_45)), (q_span, .inl (cI, 40, .inl (fun _ => 0))), (q_throttle, .inl (cI, 40, .inl (fun _ => 0))), (q_promised, .inl (cI, 40, .inl (fun _ => 0)))] H := by rw [ef_45]; exact hP
                  have hD : va_D A [(h0, .inr (6, fs)), (q_sort, .inl (cI, 40, .inl f_37)), (q_pays, .inl (cI, 40, .inl f_39)), (q_must, .inl (cI, 40, .inl f_41)), (q_never, .inl (cI, 40, .inl f_43)), (q_bid, .inl (cI, 40, .inl f_44)), (q_cap, .inl (cI, 40, .inl f_45)), (q_span, .inl (cI, 40, .inl (fun _ => 0))), (q_throttle, .inl (cI, 40, .inl (fun _ => 0))), (q_promised, .inl (cI, 40, .inl (fun _ => 0)))] := by rw [ef_45]; exact hD
                  refine lv_aload_n hx hb dX6_campaign_182 rfl (lv_at hl 3 rfl) ?_
                  refine va_get (D := (dC, dI)) (ci := 6) (v := .ref q_span) (C := RX6) (T := TX6) (N := 51) hx hb hts uB6 hown hK hP 0 rfl rfl 18 (by decide) (hts _ wm_136) (fun _ h9 => h9) hf_span dX6_campaign_183 ?_
                  refine lv_iload hx hb dX6_campaign_186 (lv_at hl 0 rfl) ?_
                  refine lv_iconst (v := 1) hx hb dX6_campaign_188 (by decide) ?_
                  refine va_iast hx hb hK hP hD hS 7 0 rfl rfl (vp_in_iff.mpr (by decide)) dX6_campaign_189 (fun H locs hP hD hS => ?_)
                  obtain ⟨f_46, ef_46⟩ : ∃ z9, z9 = upd (fun _ => 0) (Int32.toNatClampNeg 0) 1 := ⟨_, rfl⟩
                  have hP : va_P (dC, dI) vwCl [(h0, .inr (6, fs)), (q_sort, .inl (cI, 40, .inl f_37)), (q_pays, .inl (cI, 40, .inl f_39)), (q_must, .inl (cI, 40, .inl f_41)), (q_never, .inl (cI, 40, .inl f_43)), (q_bid, .inl (cI, 40, .inl f_44)), (q_cap, .inl (cI, 40, .inl f_45)), (q_span, .inl (cI, 40, .inl f_46)), (q_throttle, .inl (cI, 40, .inl (fun _ => 0))), (q_promised, .inl (cI, 40, .inl (fun _ => 0)))] H := by rw [ef_46]; exact hP
                  have hD : va_D A [(h0, .inr (6, fs)), (q_sort, .inl (cI, 40, .inl f_37)), (q_pays, .inl (cI, 40, .inl f_39)), (q_must, .inl (cI, 40, .inl f_41)), (q_never, .inl (cI, 40, .inl f_43)), (q_bid, .inl (cI, 40, .inl f_44)), (q_cap, .inl (cI, 40, .inl f_45)), (q_span, .inl (cI, 40, .inl f_46)), (q_throttle, .inl (cI, 40, .inl (fun _ => 0))), (q_promised, .inl (cI, 40, .inl (fun _ => 0)))] := by rw [ef_46]; exact hD
                  refine lv_aload_n hx hb dX6_campaign_190 rfl (lv_at hl 3 rfl) ?_
                  refine va_get (D := (dC, dI)) (ci := 6) (v := .ref q_throttle) (C := RX6) (T := TX6) (N := 51) hx hb hts uB6 hown hK hP 0 rfl rfl 19 (by decide) (hts _ wm_137) (fun _ h9 => h9) hf_throttle dX6_campaign_191 ?_
                  refine lv_iload hx hb dX6_campaign_194 (lv_at hl 0 rfl) ?_
                  refine lv_sipush (v := 1000) hx hb dX6_campaign_196 (by decide) ?_
                  refine va_iast hx hb hK hP hD hS 8 0 rfl rfl (vp_in_iff.mpr (by decide)) dX6_campaign_199 (fun H locs hP hD hS => ?_)
                  obtain ⟨f_47, ef_47⟩ : ∃ z9, z9 = upd (fun _ => 0) (Int32.toNatClampNeg 0) 1000 := ⟨_, rfl⟩
                  have hP : va_P (dC, dI) vwCl [(h0, .inr (6, fs)), (q_sort, .inl (cI, 40, .inl f_37)), (q_pays, .inl (cI, 40, .inl f_39)), (q_must, .inl (cI, 40, .inl f_41)), (q_never, .inl (cI, 40, .inl f_43)), (q_bid, .inl (cI, 40, .inl f_44)), (q_cap, .inl (cI, 40, .inl f_45)), (q_span, .inl (cI, 40, .inl f_46)), (q_throttle, .inl (cI, 40, .inl f_47)), (q_promised, .inl (cI, 40, .inl (fun _ => 0)))] H := by rw [ef_47]; exact hP
                  have hD : va_D A [(h0, .inr (6, fs)), (q_sort, .inl (cI, 40, .inl f_37)), (q_pays, .inl (cI, 40, .inl f_39)), (q_must, .inl (cI, 40, .inl f_41)), (q_never, .inl (cI, 40, .inl f_43)), (q_bid, .inl (cI, 40, .inl f_44)), (q_cap, .inl (cI, 40, .inl f_45)), (q_span, .inl (cI, 40, .inl f_46)), (q_throttle, .inl (cI, 40, .inl f_47)), (q_promised, .inl (cI, 40, .inl (fun _ => 0)))] := by rw [ef_47]; exact hD
                  refine lv_aload_n hx hb dX6_campaign_200 rfl (lv_at hl 3 rfl) ?_
                  refine va_get (D := (dC, dI)) (ci := 6) (v := .ref q_promised) (C := RX6) (T := TX6) (N := 51) hx hb hts uB6 hown hK hP 0 rfl rfl 22 (by decide) (hts _ wm_138) (fun _ h9 => h9) hf_promised dX6_campaign_201 ?_
                  refine lv_iload hx hb dX6_campaign_204 (lv_at hl 0 rfl) ?_
                  refine lv_iconst (v := 0) hx hb dX6_campaign_206 (by decide) ?_
                  refine va_iast hx hb hK hP hD hS 9 0 rfl rfl (vp_in_iff.mpr (by decide)) dX6_campaign_207 (fun H locs hP hD hS => ?_)
                  obtain ⟨f_48, ef_48⟩ : ∃ z9, z9 = upd (fun _ => 0) (Int32.toNatClampNeg 0) 0 := ⟨_, rfl⟩
                  have hP : va_P (dC, dI) vwCl [(h0, .inr (6, fs)), (q_sort, .inl (cI, 40, .inl f_37)), (q_pays, .inl (cI, 40, .inl f_39)), (q_must, .inl (cI, 40, .inl f_41)), (q_never, .inl (cI, 40, .inl f_43)), (q_bid, .inl (cI, 40, .inl f_44)), (q_cap, .inl (cI, 40, .inl f_45)), (q_span, .inl (cI, 40, .inl f_46)), (q_throttle, .inl (cI, 40, .inl f_47)), (q_promised, .inl (cI, 40, .inl f_48))] H := by rw [ef_48]; exact hP
                  have hD : va_D A [(h0, .inr (6, fs)), (q_sort, .inl (cI, 40, .inl f_37)), (q_pays, .inl (cI, 40, .inl f_39)), (q_must, .inl (cI, 40, .inl f_41)), (q_never, .inl (cI, 40, .inl f_43)), (q_bid, .inl (cI, 40, .inl f_44)), (q_cap, .inl (cI, 40, .inl f_45)), (q_span, .inl (cI, 40, .inl f_46)), (q_throttle, .inl (cI, 40, .inl f_47)), (q_promised, .inl (cI, 40, .inl f_48))] := by rw [ef_48]; exact hD
                  refine lv_aload_n hx hb dX6_campaign_208 rfl (lv_at hl 3 rfl) ?_
                  refine lv_dup hx hb dX6_campaign_209 rfl ?_
                  refine va_get (D := (dC, dI)) (ci := 6) (v := .int 0) (C := RX6) (T := TX6) (N := 51) hx hb hts uB6 hown hK hP 0 rfl rfl 9 (by decide) (hts _ wm_12) (fun _ h9 => h9) hfc dX6_campaign_210 ?_
                  refine lv_iconst (v := 1) hx hb dX6_campaign_213 (by decide) ?_
                  refine lv_iadd hx hb dX6_campaign_214 ?_
                  refine lv_topi (fun x_49 ex_49 => ?_)
                  obtain rfl : x_49 = 1 := ex_49.trans (by decide)
                  refine va_put (D := (dC, dI)) (ci := 6) (v := .int 1) (ty := .int) (C := RX6) (T := TX6) (N := 51) hx hb hts uB6 tyX6 tyX6_ok nmX6 hown hK hP hD hS 0 rfl rfl 9 (by decide) (hts _ wm_12) (fun _ h9 => h9) rfl (by decide +kernel) rfl rfl (by rw [hlen_h0]; decide) dX6_campaign_215 (fun H locs hP hD hS => ?_)
                  obtain ⟨fs_50, efs_50⟩ : ∃ z9, z9 = (fs).set 9 (.int 1) := ⟨_, rfl⟩
                  have hP : va_P (dC, dI) vwCl [(h0, .inr (6, fs_50)), (q_sort, .inl (cI, 40, .inl f_37)), (q_pays, .inl (cI, 40, .inl f_39)), (q_must, .inl (cI, 40, .inl f_41)), (q_never, .inl (cI, 40, .inl f_43)), (q_bid, .inl (cI, 40, .inl f_44)), (q_cap, .inl (cI, 40, .inl f_45)), (q_span, .inl (cI, 40, .inl f_46)), (q_throttle, .inl (cI, 40, .inl f_47)), (q_promised, .inl (cI, 40, .inl f_48))] H := by rw [efs_50]; exact hP
                  have hD : va_D A [(h0, .inr (6, fs_50)), (q_sort, .inl (cI, 40, .inl f_37)), (q_pays, .inl (cI, 40, .inl f_39)), (q_must, .inl (cI, 40, .inl f_41)), (q_never, .inl (cI, 40, .inl f_43)), (q_bid, .inl (cI, 40, .inl f_44)), (q_cap, .inl (cI, 40, .inl f_45)), (q_span, .inl (cI, 40, .inl f_46)), (q_throttle, .inl (cI, 40, .inl f_47)), (q_promised, .inl (cI, 40, .inl f_48))] := by rw [efs_50]; exact hD
                  have hf_sort : fs_50[10]? = some (.ref q_sort) := by rw [efs_50, List.getElem?_set_ne (by decide)]; exact hf_sort
                  have hf_pays : fs_50[11]? = some (.ref q_pays) := by rw [efs_50, List.getElem?_set_ne (by decide)]; exact hf_pays
                  have hf_must : fs_50[12]? = some (.ref q_must) := by rw [efs_50, List.getElem?_set_ne (by decide)]; exact hf_must
                  have hf_never : fs_50[13]? = some (.ref q_never) := by rw [efs_50, List.getElem?_set_ne (by decide)]; exact hf_never
                  have hf_bid : fs_50[14]? = some (.ref q_bid) := by rw [efs_50, List.getElem?_set_ne (by decide)]; exact hf_bid
                  have hf_cap : fs_50[17]? = some (.ref q_cap) := by rw [efs_50, List.getElem?_set_ne (by decide)]; exact hf_cap
                  have hf_span : fs_50[18]? = some (.ref q_span) := by rw [efs_50, List.getElem?_set_ne (by decide)]; exact hf_span
                  have hf_throttle : fs_50[19]? = some (.ref q_throttle) := by rw [efs_50, List.getElem?_set_ne (by decide)]; exact hf_throttle
                  have hf_promised : fs_50[22]? = some (.ref q_promised) := by rw [efs_50, List.getElem?_set_ne (by decide)]; exact hf_promised
                  have hfc : fs_50[9]? = some (.int 1) := by rw [efs_50]; exact List.getElem?_set_self (by rw [hlen_h0]; decide)
                  have hlen_h0 : fs_50.length = 51 := by rw [efs_50, List.length_set]; exact hlen_h0
                  refine lv_iload hx hb dX6_campaign_218 (lv_at hl 0 rfl) ?_
                  exact W.iret (v := 0) hx hb hr (fun t ht hW => ⟨⟨0, (), rfl, (by subst ex_1 ex_5 ex_33 ex_34 ex_35 ex_38 ex_40 ex_42; have h1 := k_cp1 x; have h2 := k_cp2 y; simp only [Int32.lt_iff_toInt_lt, Int32.le_iff_toInt_le, ← Int32.toInt_inj, Int32.reduceToInt] at h1 h2 c_2 g_4 c_6 g_8 g_10 c_11 c_32 c_36; exact (if_pos (by unfold cpOk; simp only [Int32.lt_iff_toInt_lt, Int32.le_iff_toInt_le, ← Int32.toInt_inj, Int32.reduceToInt]; omega)).symm), trivial⟩, hS.F ht⟩) hS.2.2 dX6_campaign_220
                · skip
                  refine lv_iconst (v := (-1)) hx hb dX6_campaign_101 (by decide) ?_
                  exact W.iret (v := (-1)) hx hb hr (fun t ht hW => ⟨⟨(-1), (), rfl, (by subst ex_1 ex_5 ex_33 ex_34 ex_35; have h1 := k_cp1 x; have h2 := k_cp2 y; simp only [Int32.lt_iff_toInt_lt, Int32.le_iff_toInt_le, ← Int32.toInt_inj, Int32.reduceToInt] at h1 h2 c_2 g_4 c_6 g_8 g_10 c_11 c_32 c_36; exact (if_neg (by unfold cpOk; simp only [Int32.lt_iff_toInt_lt, Int32.le_iff_toInt_le, ← Int32.toInt_inj, Int32.reduceToInt]; omega)).symm), trivial⟩, hS.F ht⟩) hS.2.2 dX6_campaign_102
      · skip
        refine lv_iconst (v := 1) hx hb dX6_campaign_30 (by decide) ?_
        refine lv_goto (tgt := 35) hx hb dX6_campaign_31 (by decide) ?_
        refine k_S ⟨hx, hb, hml, hown, hts⟩ (c_in l x_5 0 1) 3 wm_4 wm_5 wm_6 wm_7 (by decide +kernel) ⟨Nat.le_of_ble_eq_true rfl, Nat.le_of_ble_eq_true rfl⟩ rfl hl.1 rfl (Nat.le_of_ble_eq_true rfl) dX6_campaign_35 ⟨Nat.le_of_ble_eq_true rfl, Nat.le_of_ble_eq_true rfl⟩ hS hP (fun r_51 H locs hpr_51 hP hS => ?_)
        refine lv_if_eq (tgt := 79) hx hb dX6_campaign_38 (by decide) (fun c_52 => ?_) (fun c_52 => ?_)
        · skip
          have g_52 := k_ff hpr_51 c_52
          refine lv_iconst (v := 0) hx hb dX6_campaign_79 (by decide) ?_
          refine lv_istore (lv' := [(5, .int 0), (4, .int x_1), (0, .ref h0), (1, .int x), (2, .int y), (3, .int z)]) hx hb dX6_campaign_80 hl (by decide) rfl (fun ls hl => ?_)
          refine lv_iload hx hb dX6_campaign_82 (lv_at hl 0 rfl) ?_
          refine lv_if_eq (tgt := 101) hx hb dX6_campaign_84 (by decide) (fun _ => ?_) (fun h9 => absurd (by decide) h9)
          refine lv_iconst (v := (-1)) hx hb dX6_campaign_101 (by decide) ?_
          exact W.iret (v := (-1)) hx hb hr (fun t ht hW => ⟨⟨(-1), (), rfl, (by subst ex_1 ex_5; have h1 := k_cp1 x; have h2 := k_cp2 y; simp only [Int32.lt_iff_toInt_lt, Int32.le_iff_toInt_le, ← Int32.toInt_inj, Int32.reduceToInt] at h1 h2 c_2 g_4 c_6 g_52; exact (if_neg (by unfold cpOk; simp only [Int32.lt_iff_toInt_lt, Int32.le_iff_toInt_le, ← Int32.toInt_inj, Int32.reduceToInt]; omega)).symm), trivial⟩, hS.F ht⟩) hS.2.2 dX6_campaign_102
        · skip
          have g_52 := k_ft hpr_51 c_52
          refine lv_iload_n hx hb dX6_campaign_41 rfl (lv_at hl 3 rfl) ?_
          refine lv_iconst (v := 0) hx hb dX6_campaign_42 (by decide) ?_
          refine lv_ldc (v := 16777215) hx hb hown (hts _ wm_129) dX6_campaign_43 ?_
          refine k_S ⟨hx, hb, hml, hown, hts⟩ (c_in l y 0 16777215) 3 wm_4 wm_5 wm_6 wm_7 (by decide +kernel) ⟨Nat.le_of_ble_eq_true rfl, Nat.le_of_ble_eq_true rfl⟩ rfl hl.1 rfl (Nat.le_of_ble_eq_true rfl) dX6_campaign_45 ⟨Nat.le_of_ble_eq_true rfl, Nat.le_of_ble_eq_true rfl⟩ hS hP (fun r_53 H locs hpr_53 hP hS => ?_)
          refine lv_if_eq (tgt := 79) hx hb dX6_campaign_48 (by decide) (fun c_54 => ?_) (fun c_54 => ?_)
          · skip
            have g_54 := k_ff hpr_53 c_54
            refine lv_iconst (v := 0) hx hb dX6_campaign_79 (by decide) ?_
            refine lv_istore (lv' := [(5, .int 0), (4, .int x_1), (0, .ref h0), (1, .int x), (2, .int y), (3, .int z)]) hx hb dX6_campaign_80 hl (by decide) rfl (fun ls hl => ?_)
            refine lv_iload hx hb dX6_campaign_82 (lv_at hl 0 rfl) ?_
            refine lv_if_eq (tgt := 101) hx hb dX6_campaign_84 (by decide) (fun _ => ?_) (fun h9 => absurd (by decide) h9)
            refine lv_iconst (v := (-1)) hx hb dX6_campaign_101 (by decide) ?_
            exact W.iret (v := (-1)) hx hb hr (fun t ht hW => ⟨⟨(-1), (), rfl, (by subst ex_1 ex_5; have h1 := k_cp1 x; have h2 := k_cp2 y; simp only [Int32.lt_iff_toInt_lt, Int32.le_iff_toInt_le, ← Int32.toInt_inj, Int32.reduceToInt] at h1 h2 c_2 g_4 c_6 g_52 g_54; exact (if_neg (by unfold cpOk; simp only [Int32.lt_iff_toInt_lt, Int32.le_iff_toInt_le, ← Int32.toInt_inj, Int32.reduceToInt]; omega)).symm), trivial⟩, hS.F ht⟩) hS.2.2 dX6_campaign_102
          · skip
            have g_54 := k_ft hpr_53 c_54
            refine lv_iload hx hb dX6_campaign_51 (lv_at hl 0 rfl) ?_
            refine lv_iconst (v := 2) hx hb dX6_campaign_53 (by decide) ?_
            refine lv_icmp_ne (tgt := 64) hx hb dX6_campaign_54 (by decide) (fun c_55 => ?_) (fun c_55 => ?_)
            · skip
              refine lv_iload_n hx hb dX6_campaign_64 rfl (lv_at hl 4 rfl) ?_
              refine lv_iconst (v := 1) hx hb dX6_campaign_65 (by decide) ?_
              refine lv_sipush (v := 1000) hx hb dX6_campaign_66 (by decide) ?_
              refine k_S ⟨hx, hb, hml, hown, hts⟩ (c_in l z 1 1000) 3 wm_4 wm_5 wm_6 wm_7 (by decide +kernel) ⟨Nat.le_of_ble_eq_true rfl, Nat.le_of_ble_eq_true rfl⟩ rfl hl.1 rfl (Nat.le_of_ble_eq_true rfl) dX6_campaign_69 ⟨Nat.le_of_ble_eq_true rfl, Nat.le_of_ble_eq_true rfl⟩ hS hP (fun r_56 H locs hpr_56 hP hS => ?_)
              refine lv_if_eq (tgt := 79) hx hb dX6_campaign_72 (by decide) (fun c_57 => ?_) (fun c_57 => ?_)
              · skip
                have g_57 := k_ff hpr_56 c_57
                refine lv_iconst (v := 0) hx hb dX6_campaign_79 (by decide) ?_
                refine lv_istore (lv' := [(5, .int 0), (4, .int x_1), (0, .ref h0), (1, .int x), (2, .int y), (3, .int z)]) hx hb dX6_campaign_80 hl (by decide) rfl (fun ls hl => ?_)
                refine lv_iload hx hb dX6_campaign_82 (lv_at hl 0 rfl) ?_
                refine lv_if_eq (tgt := 101) hx hb dX6_campaign_84 (by decide) (fun _ => ?_) (fun h9 => absurd (by decide) h9)
                refine lv_iconst (v := (-1)) hx hb dX6_campaign_101 (by decide) ?_
                exact W.iret (v := (-1)) hx hb hr (fun t ht hW => ⟨⟨(-1), (), rfl, (by subst ex_1 ex_5; have h1 := k_cp1 x; have h2 := k_cp2 y; simp only [Int32.lt_iff_toInt_lt, Int32.le_iff_toInt_le, ← Int32.toInt_inj, Int32.reduceToInt] at h1 h2 c_2 g_4 c_6 g_52 g_54 c_55 g_57; exact (if_neg (by unfold cpOk; simp only [Int32.lt_iff_toInt_lt, Int32.le_iff_toInt_le, ← Int32.toInt_inj, Int32.reduceToInt]; omega)).symm), trivial⟩, hS.F ht⟩) hS.2.2 dX6_campaign_102
              · skip
                have g_57 := k_ft hpr_56 c_57
                refine lv_iconst (v := 1) hx hb dX6_campaign_75 (by decide) ?_
                refine lv_goto (tgt := 80) hx hb dX6_campaign_76 (by decide) ?_
                refine lv_istore (lv' := [(5, .int 1), (4, .int x_1), (0, .ref h0), (1, .int x), (2, .int y), (3, .int z)]) hx hb dX6_campaign_80 hl (by decide) rfl (fun ls hl => ?_)
                refine lv_iload hx hb dX6_campaign_82 (lv_at hl 0 rfl) ?_
                refine lv_if_eq (tgt := 101) hx hb dX6_campaign_84 (by decide) (fun h9 => absurd h9 (by decide)) (fun _ => ?_)
                refine lv_iload_n hx hb dX6_campaign_87 rfl (lv_at hl 4 rfl) ?_
                refine lv_sipush (v := 4096) hx hb dX6_campaign_88 (by decide) ?_
                refine lv_idiv hx hb dX6_campaign_91 (by decide) ?_
                refine lv_topi (fun x_58 ex_58 => ?_)
                refine lv_iload_n hx hb dX6_campaign_92 rfl (lv_at hl 4 rfl) ?_
                refine lv_sipush (v := 4096) hx hb dX6_campaign_93 (by decide) ?_
                refine lv_irem hx hb dX6_campaign_96 (by decide) ?_
                refine lv_topi (fun x_59 ex_59 => ?_)
                refine lv_iand hx hb dX6_campaign_97 ?_
                refine lv_topi (fun x_60 ex_60 => ?_)
                refine lv_if_eq (tgt := 103) hx hb dX6_campaign_98 (by decide) (fun c_61 => ?_) (fun c_61 => ?_)
                · skip
                  refine lv_aload_n hx hb dX6_campaign_103 rfl (lv_at hl 2 rfl) ?_
                  refine va_get (D := (dC, dI)) (ci := 6) (v := .int 0) (C := RX6) (T := TX6) (N := 51) hx hb hts uB6 hown hK hP 0 rfl rfl 9 (by decide) (hts _ wm_12) (fun _ h9 => h9) hfc dX6_campaign_104 ?_
                  refine lv_bipush (v := 40) hx hb dX6_campaign_107 (by decide) ?_
                  refine lv_icmp_ne (tgt := 115) hx hb dX6_campaign_109 (by decide) (fun _ => ?_) (fun h9 => absurd h9 (by decide))
                  refine lv_aload_n hx hb dX6_campaign_115 rfl (lv_at hl 2 rfl) ?_
                  refine va_get (D := (dC, dI)) (ci := 6) (v := .int 0) (C := RX6) (T := TX6) (N := 51) hx hb hts uB6 hown hK hP 0 rfl rfl 9 (by decide) (hts _ wm_12) (fun _ h9 => h9) hfc dX6_campaign_116 ?_
                  refine lv_istore (lv' := [(6, .int 0), (5, .int 1), (4, .int x_1), (0, .ref h0), (1, .int x), (2, .int y), (3, .int z)]) hx hb dX6_campaign_119 hl (by decide) rfl (fun ls hl => ?_)
                  refine lv_aload_n hx hb dX6_campaign_121 rfl (lv_at hl 3 rfl) ?_
                  refine va_get (D := (dC, dI)) (ci := 6) (v := .ref q_sort) (C := RX6) (T := TX6) (N := 51) hx hb hts uB6 hown hK hP 0 rfl rfl 10 (by decide) (hts _ wm_130) (fun _ h9 => h9) hf_sort dX6_campaign_122 ?_
                  refine lv_iload hx hb dX6_campaign_125 (lv_at hl 0 rfl) ?_
                  refine lv_iload hx hb dX6_campaign_127 (lv_at hl 2 rfl) ?_
                  refine va_iast hx hb hK hP hD hS 1 0 rfl rfl (vp_in_iff.mpr (by decide)) dX6_campaign_129 (fun H locs hP hD hS => ?_)
                  obtain ⟨f_62, ef_62⟩ : ∃ z9, z9 = upd (fun _ => 0) (Int32.toNatClampNeg 0) x_1 := ⟨_, rfl⟩
                  have hP : va_P (dC, dI) vwCl [(h0, .inr (6, fs)), (q_sort, .inl (cI, 40, .inl f_62)), (q_pays, .inl (cI, 40, .inl (fun _ => 0))), (q_must, .inl (cI, 40, .inl (fun _ => 0))), (q_never, .inl (cI, 40, .inl (fun _ => 0))), (q_bid, .inl (cI, 40, .inl (fun _ => 0))), (q_cap, .inl (cI, 40, .inl (fun _ => 0))), (q_span, .inl (cI, 40, .inl (fun _ => 0))), (q_throttle, .inl (cI, 40, .inl (fun _ => 0))), (q_promised, .inl (cI, 40, .inl (fun _ => 0)))] H := by rw [ef_62]; exact hP
                  have hD : va_D A [(h0, .inr (6, fs)), (q_sort, .inl (cI, 40, .inl f_62)), (q_pays, .inl (cI, 40, .inl (fun _ => 0))), (q_must, .inl (cI, 40, .inl (fun _ => 0))), (q_never, .inl (cI, 40, .inl (fun _ => 0))), (q_bid, .inl (cI, 40, .inl (fun _ => 0))), (q_cap, .inl (cI, 40, .inl (fun _ => 0))), (q_span, .inl (cI, 40, .inl (fun _ => 0))), (q_throttle, .inl (cI, 40, .inl (fun _ => 0))), (q_promised, .inl (cI, 40, .inl (fun _ => 0)))] := by rw [ef_62]; exact hD
                  refine lv_aload_n hx hb dX6_campaign_130 rfl (lv_at hl 3 rfl) ?_
                  refine va_get (D := (dC, dI)) (ci := 6) (v := .ref q_pays) (C := RX6) (T := TX6) (N := 51) hx hb hts uB6 hown hK hP 0 rfl rfl 11 (by decide) (hts _ wm_131) (fun _ h9 => h9) hf_pays dX6_campaign_131 ?_
                  refine lv_iload hx hb dX6_campaign_134 (lv_at hl 0 rfl) ?_
                  refine lv_iload_n hx hb dX6_campaign_136 rfl (lv_at hl 4 rfl) ?_
                  refine lv_bipush (v := 10) hx hb dX6_campaign_137 (by decide) ?_
                  refine lv_irem hx hb dX6_campaign_139 (by decide) ?_
                  refine lv_topi (fun x_63 ex_63 => ?_)
                  refine va_iast hx hb hK hP hD hS 2 0 rfl rfl (vp_in_iff.mpr (by decide)) dX6_campaign_140 (fun H locs hP hD hS => ?_)
                  obtain ⟨f_64, ef_64⟩ : ∃ z9, z9 = upd (fun _ => 0) (Int32.toNatClampNeg 0) x_63 := ⟨_, rfl⟩
                  have hP : va_P (dC, dI) vwCl [(h0, .inr (6, fs)), (q_sort, .inl (cI, 40, .inl f_62)), (q_pays, .inl (cI, 40, .inl f_64)), (q_must, .inl (cI, 40, .inl (fun _ => 0))), (q_never, .inl (cI, 40, .inl (fun _ => 0))), (q_bid, .inl (cI, 40, .inl (fun _ => 0))), (q_cap, .inl (cI, 40, .inl (fun _ => 0))), (q_span, .inl (cI, 40, .inl (fun _ => 0))), (q_throttle, .inl (cI, 40, .inl (fun _ => 0))), (q_promised, .inl (cI, 40, .inl (fun _ => 0)))] H := by rw [ef_64]; exact hP
                  have hD : va_D A [(h0, .inr (6, fs)), (q_sort, .inl (cI, 40, .inl f_62)), (q_pays, .inl (cI, 40, .inl f_64)), (q_must, .inl (cI, 40, .inl (fun _ => 0))), (q_never, .inl (cI, 40, .inl (fun _ => 0))), (q_bid, .inl (cI, 40, .inl (fun _ => 0))), (q_cap, .inl (cI, 40, .inl (fun _ => 0))), (q_span, .inl (cI, 40, .inl (fun _ => 0))), (q_throttle, .inl (cI, 40, .inl (fun _ => 0))), (q_promised, .inl (cI, 40, .inl (fun _ => 0)))] := by rw [ef_64]; exact hD
                  refine lv_aload_n hx hb dX6_campaign_141 rfl (lv_at hl 3 rfl) ?_
                  refine va_get (D := (dC, dI)) (ci := 6) (v := .ref q_must) (C := RX6) (T := TX6) (N := 51) hx hb hts uB6 hown hK hP 0 rfl rfl 12 (by decide) (hts _ wm_132) (fun _ h9 => h9) hf_must dX6_campaign_142 ?_
                  refine lv_iload hx hb dX6_campaign_145 (lv_at hl 0 rfl) ?_
                  refine lv_iload_n hx hb dX6_campaign_147 rfl (lv_at hl 5 rfl) ?_
                  refine lv_sipush (v := 4096) hx hb dX6_campaign_148 (by decide) ?_
                  refine lv_idiv hx hb dX6_campaign_151 (by decide) ?_
                  refine lv_topi (fun x_65 ex_65 => ?_)
                  refine va_iast hx hb hK hP hD hS 3 0 rfl rfl (vp_in_iff.mpr (by decide)) dX6_campaign_152 (fun H locs hP hD hS => ?_)
                  obtain ⟨f_66, ef_66⟩ : ∃ z9, z9 = upd (fun _ => 0) (Int32.toNatClampNeg 0) x_65 := ⟨_, rfl⟩
                  have hP : va_P (dC, dI) vwCl [(h0, .inr (6, fs)), (q_sort, .inl (cI, 40, .inl f_62)), (q_pays, .inl (cI, 40, .inl f_64)), (q_must, .inl (cI, 40, .inl f_66)), (q_never, .inl (cI, 40, .inl (fun _ => 0))), (q_bid, .inl (cI, 40, .inl (fun _ => 0))), (q_cap, .inl (cI, 40, .inl (fun _ => 0))), (q_span, .inl (cI, 40, .inl (fun _ => 0))), (q_throttle, .inl (cI, 40, .inl (fun _ => 0))), (q_promised, .inl (cI, 40, .inl (fun _ => 0)))] H := by rw [ef_66]; exact hP
                  have hD : va_D A [(h0, .inr (6, fs)), (q_sort, .inl (cI, 40, .inl f_62)), (q_pays, .inl (cI, 40, .inl f_64)), (q_must, .inl (cI, 40, .inl f_66)), (q_never, .inl (cI, 40, .inl (fun _ => 0))), (q_bid, .inl (cI, 40, .inl (fun _ => 0))), (q_cap, .inl (cI, 40, .inl (fun _ => 0))), (q_span, .inl (cI, 40, .inl (fun _ => 0))), (q_throttle, .inl (cI, 40, .inl (fun _ => 0))), (q_promised, .inl (cI, 40, .inl (fun _ => 0)))] := by rw [ef_66]; exact hD
                  refine lv_aload_n hx hb dX6_campaign_153 rfl (lv_at hl 3 rfl) ?_
                  refine va_get (D := (dC, dI)) (ci := 6) (v := .ref q_never) (C := RX6) (T := TX6) (N := 51) hx hb hts uB6 hown hK hP 0 rfl rfl 13 (by decide) (hts _ wm_133) (fun _ h9 => h9) hf_never dX6_campaign_154 ?_
                  refine lv_iload hx hb dX6_campaign_157 (lv_at hl 0 rfl) ?_
                  refine lv_iload_n hx hb dX6_campaign_159 rfl (lv_at hl 5 rfl) ?_
                  refine lv_sipush (v := 4096) hx hb dX6_campaign_160 (by decide) ?_
                  refine lv_irem hx hb dX6_campaign_163 (by decide) ?_
                  refine lv_topi (fun x_67 ex_67 => ?_)
                  refine va_iast hx hb hK hP hD hS 4 0 rfl rfl (vp_in_iff.mpr (by decide)) dX6_campaign_164 (fun H locs hP hD hS => ?_)
                  obtain ⟨f_68, ef_68⟩ : ∃ z9, z9 = upd (fun _ => 0) (Int32.toNatClampNeg 0) x_67 := ⟨_, rfl⟩
                  have hP : va_P (dC, dI) vwCl [(h0, .inr (6, fs)), (q_sort, .inl (cI, 40, .inl f_62)), (q_pays, .inl (cI, 40, .inl f_64)), (q_must, .inl (cI, 40, .inl f_66)), (q_never, .inl (cI, 40, .inl f_68)), (q_bid, .inl (cI, 40, .inl (fun _ => 0))), (q_cap, .inl (cI, 40, .inl (fun _ => 0))), (q_span, .inl (cI, 40, .inl (fun _ => 0))), (q_throttle, .inl (cI, 40, .inl (fun _ => 0))), (q_promised, .inl (cI, 40, .inl (fun _ => 0)))] H := by rw [ef_68]; exact hP
                  have hD : va_D A [(h0, .inr (6, fs)), (q_sort, .inl (cI, 40, .inl f_62)), (q_pays, .inl (cI, 40, .inl f_64)), (q_must, .inl (cI, 40, .inl f_66)), (q_never, .inl (cI, 40, .inl f_68)), (q_bid, .inl (cI, 40, .inl (fun _ => 0))), (q_cap, .inl (cI, 40, .inl (fun _ => 0))), (q_span, .inl (cI, 40, .inl (fun _ => 0))), (q_throttle, .inl (cI, 40, .inl (fun _ => 0))), (q_promised, .inl (cI, 40, .inl (fun _ => 0)))] := by rw [ef_68]; exact hD
                  refine lv_aload_n hx hb dX6_campaign_165 rfl (lv_at hl 3 rfl) ?_
                  refine va_get (D := (dC, dI)) (ci := 6) (v := .ref q_bid) (C := RX6) (T := TX6) (N := 51) hx hb hts uB6 hown hK hP 0 rfl rfl 14 (by decide) (hts _ wm_134) (fun _ h9 => h9) hf_bid dX6_campaign_166 ?_
                  refine lv_iload hx hb dX6_campaign_169 (lv_at hl 0 rfl) ?_
                  refine lv_iload_n hx hb dX6_campaign_171 rfl (lv_at hl 6 rfl) ?_
                  refine va_iast hx hb hK hP hD hS 5 0 rfl rfl (vp_in_iff.mpr (by decide)) dX6_campaign_172 (fun H locs hP hD hS => ?_)
                  obtain ⟨f_69, ef_69⟩ : ∃ z9, z9 = upd (fun _ => 0) (Int32.toNatClampNeg 0) z := ⟨_, rfl⟩
                  have hP : va_P (dC, dI) vwCl [(h0, .inr (6, fs)), (q_sort, .inl (cI, 40, .inl f_62)), (q_pays, .inl (cI, 40, .inl f_64)), (q_must, .inl (cI, 40, .inl f_66)), (q_never, .inl (cI, 40, .inl f_68)), (q_bid, .inl (cI, 40, .inl f_69)), (q_cap, .inl (cI, 40, .inl (fun _ => 0))), (q_span, .inl (cI, 40, .inl (fun _ => 0))), (q_throttle, .inl (cI, 40, .inl (fun _ => 0))), (q_promised, .inl (cI, 40, .inl (fun _ => 0)))] H := by rw [ef_69]; exact hP
                  have hD : va_D A [(h0, .inr (6, fs)), (q_sort, .inl (cI, 40, .inl f_62)), (q_pays, .inl (cI, 40, .inl f_64)), (q_must, .inl (cI, 40, .inl f_66)), (q_never, .inl (cI, 40, .inl f_68)), (q_bid, .inl (cI, 40, .inl f_69)), (q_cap, .inl (cI, 40, .inl (fun _ => 0))), (q_span, .inl (cI, 40, .inl (fun _ => 0))), (q_throttle, .inl (cI, 40, .inl (fun _ => 0))), (q_promised, .inl (cI, 40, .inl (fun _ => 0)))] := by rw [ef_69]; exact hD
                  refine lv_aload_n hx hb dX6_campaign_173 rfl (lv_at hl 3 rfl) ?_
                  refine va_get (D := (dC, dI)) (ci := 6) (v := .ref q_cap) (C := RX6) (T := TX6) (N := 51) hx hb hts uB6 hown hK hP 0 rfl rfl 17 (by decide) (hts _ wm_135) (fun _ h9 => h9) hf_cap dX6_campaign_174 ?_
                  refine lv_iload hx hb dX6_campaign_177 (lv_at hl 0 rfl) ?_
                  refine lv_bipush (v := 9) hx hb dX6_campaign_179 (by decide) ?_
                  refine va_iast hx hb hK hP hD hS 6 0 rfl rfl (vp_in_iff.mpr (by decide)) dX6_campaign_181 (fun H locs hP hD hS => ?_)
                  obtain ⟨f_70, ef_70⟩ : ∃ z9, z9 = upd (fun _ => 0) (Int32.toNatClampNeg 0) 9 := ⟨_, rfl⟩
                  have hP : va_P (dC, dI) vwCl [(h0, .inr (6, fs)), (q_sort, .inl (cI, 40, .inl f_62)), (q_pays, .inl (cI, 40, .inl f_64)), (q_must, .inl (cI, 40, .inl f_66)), (q_never, .inl (cI, 40, .inl f_68)), (q_bid, .inl (cI, 40, .inl f_69)), (q_cap, .inl (cI, 40, .inl f_70)), (q_span, .inl (cI, 40, .inl (fun _ => 0))), (q_throttle, .inl (cI, 40, .inl (fun _ => 0))), (q_promised, .inl (cI, 40, .inl (fun _ => 0)))] H := by rw [ef_70]; exact hP
                  have hD : va_D A [(h0, .inr (6, fs)), (q_sort, .inl (cI, 40, .inl f_62)), (q_pays, .inl (cI, 40, .inl f_64)), (q_must, .inl (cI, 40, .inl f_66)), (q_never, .inl (cI, 40, .inl f_68)), (q_bid, .inl (cI, 40, .inl f_69)), (q_cap, .inl (cI, 40, .inl f_70)), (q_span, .inl (cI, 40, .inl (fun _ => 0))), (q_throttle, .inl (cI, 40, .inl (fun _ => 0))), (q_promised, .inl (cI, 40, .inl (fun _ => 0)))] := by rw [ef_70]; exact hD
                  refine lv_aload_n hx hb dX6_campaign_182 rfl (lv_at hl 3 rfl) ?_
                  refine va_get (D := (dC, dI)) (ci := 6) (v := .ref q_span) (C := RX6) (T := TX6) (N := 51) hx hb hts uB6 hown hK hP 0 rfl rfl 18 (by decide) (hts _ wm_136) (fun _ h9 => h9) hf_span dX6_campaign_183 ?_
                  refine lv_iload hx hb dX6_campaign_186 (lv_at hl 0 rfl) ?_
                  refine lv_iconst (v := 1) hx hb dX6_campaign_188 (by decide) ?_
                  refine va_iast hx hb hK hP hD hS 7 0 rfl rfl (vp_in_iff.mpr (by decide)) dX6_campaign_189 (fun H locs hP hD hS => ?_)
                  obtain ⟨f_71, ef_71⟩ : ∃ z9, z9 = upd (fun _ => 0) (Int32.toNatClampNeg 0) 1 := ⟨_, rfl⟩
                  have hP : va_P (dC, dI) vwCl [(h0, .inr (6, fs)), (q_sort, .inl (cI, 40, .inl f_62)), (q_pays, .inl (cI, 40, .inl f_64)), (q_must, .inl (cI, 40, .inl f_66)), (q_never, .inl (cI, 40, .inl f_68)), (q_bid, .inl (cI, 40, .inl f_69)), (q_cap, .inl (cI, 40, .inl f_70)), (q_span, .inl (cI, 40, .inl f_71)), (q_throttle, .inl (cI, 40, .inl (fun _ => 0))), (q_promised, .inl (cI, 40, .inl (fun _ => 0)))] H := by rw [ef_71]; exact hP
                  have hD : va_D A [(h0, .inr (6, fs)), (q_sort, .inl (cI, 40, .inl f_62)), (q_pays, .inl (cI, 40, .inl f_64)), (q_must, .inl (cI, 40, .inl f_66)), (q_never, .inl (cI, 40, .inl f_68)), (q_bid, .inl (cI, 40, .inl f_69)), (q_cap, .inl (cI, 40, .inl f_70)), (q_span, .inl (cI, 40, .inl f_71)), (q_throttle, .inl (cI, 40, .inl (fun _ => 0))), (q_promised, .inl (cI, 40, .inl (fun _ => 0)))] := by rw [ef_71]; exact hD
                  refine lv_aload_n hx hb dX6_campaign_190 rfl (lv_at hl 3 rfl) ?_
                  refine va_get (D := (dC, dI)) (ci := 6) (v := .ref q_throttle) (C := RX6) (T := TX6) (N := 51) hx hb hts uB6 hown hK hP 0 rfl rfl 19 (by decide) (hts _ wm_137) (fun _ h9 => h9) hf_throttle dX6_campaign_191 ?_
                  refine lv_iload hx hb dX6_campaign_194 (lv_at hl 0 rfl) ?_
                  refine lv_sipush (v := 1000) hx hb dX6_campaign_196 (by decide) ?_
                  refine va_iast hx hb hK hP hD hS 8 0 rfl rfl (vp_in_iff.mpr (by decide)) dX6_campaign_199 (fun H locs hP hD hS => ?_)
                  obtain ⟨f_72, ef_72⟩ : ∃ z9, z9 = upd (fun _ => 0) (Int32.toNatClampNeg 0) 1000 := ⟨_, rfl⟩
                  have hP : va_P (dC, dI) vwCl [(h0, .inr (6, fs)), (q_sort, .inl (cI, 40, .inl f_62)), (q_pays, .inl (cI, 40, .inl f_64)), (q_must, .inl (cI, 40, .inl f_66)), (q_never, .inl (cI, 40, .inl f_68)), (q_bid, .inl (cI, 40, .inl f_69)), (q_cap, .inl (cI, 40, .inl f_70)), (q_span, .inl (cI, 40, .inl f_71)), (q_throttle, .inl (cI, 40, .inl f_72)), (q_promised, .inl (cI, 40, .inl (fun _ => 0)))] H := by rw [ef_72]; exact hP
                  have hD : va_D A [(h0, .inr (6, fs)), (q_sort, .inl (cI, 40, .inl f_62)), (q_pays, .inl (cI, 40, .inl f_64)), (q_must, .inl (cI, 40, .inl f_66)), (q_never, .inl (cI, 40, .inl f_68)), (q_bid, .inl (cI, 40, .inl f_69)), (q_cap, .inl (cI, 40, .inl f_70)), (q_span, .inl (cI, 40, .inl f_71)), (q_throttle, .inl (cI, 40, .inl f_72)), (q_promised, .inl (cI, 40, .inl (fun _ => 0)))] := by rw [ef_72]; exact hD
                  refine lv_aload_n hx hb dX6_campaign_200 rfl (lv_at hl 3 rfl) ?_
                  refine va_get (D := (dC, dI)) (ci := 6) (v := .ref q_promised) (C := RX6) (T := TX6) (N := 51) hx hb hts uB6 hown hK hP 0 rfl rfl 22 (by decide) (hts _ wm_138) (fun _ h9 => h9) hf_promised dX6_campaign_201 ?_
                  refine lv_iload hx hb dX6_campaign_204 (lv_at hl 0 rfl) ?_
                  refine lv_iconst (v := 0) hx hb dX6_campaign_206 (by decide) ?_
                  refine va_iast hx hb hK hP hD hS 9 0 rfl rfl (vp_in_iff.mpr (by decide)) dX6_campaign_207 (fun H locs hP hD hS => ?_)
                  obtain ⟨f_73, ef_73⟩ : ∃ z9, z9 = upd (fun _ => 0) (Int32.toNatClampNeg 0) 0 := ⟨_, rfl⟩
                  have hP : va_P (dC, dI) vwCl [(h0, .inr (6, fs)), (q_sort, .inl (cI, 40, .inl f_62)), (q_pays, .inl (cI, 40, .inl f_64)), (q_must, .inl (cI, 40, .inl f_66)), (q_never, .inl (cI, 40, .inl f_68)), (q_bid, .inl (cI, 40, .inl f_69)), (q_cap, .inl (cI, 40, .inl f_70)), (q_span, .inl (cI, 40, .inl f_71)), (q_throttle, .inl (cI, 40, .inl f_72)), (q_promised, .inl (cI, 40, .inl f_73))] H := by rw [ef_73]; exact hP
                  have hD : va_D A [(h0, .inr (6, fs)), (q_sort, .inl (cI, 40, .inl f_62)), (q_pays, .inl (cI, 40, .inl f_64)), (q_must, .inl (cI, 40, .inl f_66)), (q_never, .inl (cI, 40, .inl f_68)), (q_bid, .inl (cI, 40, .inl f_69)), (q_cap, .inl (cI, 40, .inl f_70)), (q_span, .inl (cI, 40, .inl f_71)), (q_throttle, .inl (cI, 40, .inl f_72)), (q_promised, .inl (cI, 40, .inl f_73))] := by rw [ef_73]; exact hD
                  refine lv_aload_n hx hb dX6_campaign_208 rfl (lv_at hl 3 rfl) ?_
                  refine lv_dup hx hb dX6_campaign_209 rfl ?_
                  refine va_get (D := (dC, dI)) (ci := 6) (v := .int 0) (C := RX6) (T := TX6) (N := 51) hx hb hts uB6 hown hK hP 0 rfl rfl 9 (by decide) (hts _ wm_12) (fun _ h9 => h9) hfc dX6_campaign_210 ?_
                  refine lv_iconst (v := 1) hx hb dX6_campaign_213 (by decide) ?_
                  refine lv_iadd hx hb dX6_campaign_214 ?_
                  refine lv_topi (fun x_74 ex_74 => ?_)
                  obtain rfl : x_74 = 1 := ex_74.trans (by decide)
                  refine va_put (D := (dC, dI)) (ci := 6) (v := .int 1) (ty := .int) (C := RX6) (T := TX6) (N := 51) hx hb hts uB6 tyX6 tyX6_ok nmX6 hown hK hP hD hS 0 rfl rfl 9 (by decide) (hts _ wm_12) (fun _ h9 => h9) rfl (by decide +kernel) rfl rfl (by rw [hlen_h0]; decide) dX6_campaign_215 (fun H locs hP hD hS => ?_)
                  obtain ⟨fs_75, efs_75⟩ : ∃ z9, z9 = (fs).set 9 (.int 1) := ⟨_, rfl⟩
                  have hP : va_P (dC, dI) vwCl [(h0, .inr (6, fs_75)), (q_sort, .inl (cI, 40, .inl f_62)), (q_pays, .inl (cI, 40, .inl f_64)), (q_must, .inl (cI, 40, .inl f_66)), (q_never, .inl (cI, 40, .inl f_68)), (q_bid, .inl (cI, 40, .inl f_69)), (q_cap, .inl (cI, 40, .inl f_70)), (q_span, .inl (cI, 40, .inl f_71)), (q_throttle, .inl (cI, 40, .inl f_72)), (q_promised, .inl (cI, 40, .inl f_73))] H := by rw [efs_75]; exact hP
                  have hD : va_D A [(h0, .inr (6, fs_75)), (q_sort, .inl (cI, 40, .inl f_62)), (q_pays, .inl (cI, 40, .inl f_64)), (q_must, .inl (cI, 40, .inl f_66)), (q_never, .inl (cI, 40, .inl f_68)), (q_bid, .inl (cI, 40, .inl f_69)), (q_cap, .inl (cI, 40, .inl f_70)), (q_span, .inl (cI, 40, .inl f_71)), (q_throttle, .inl (cI, 40, .inl f_72)), (q_promised, .inl (cI, 40, .inl f_73))] := by rw [efs_75]; exact hD
                  have hf_sort : fs_75[10]? = some (.ref q_sort) := by rw [efs_75, List.getElem?_set_ne (by decide)]; exact hf_sort
                  have hf_pays : fs_75[11]? = some (.ref q_pays) := by rw [efs_75, List.getElem?_set_ne (by decide)]; exact hf_pays
                  have hf_must : fs_75[12]? = some (.ref q_must) := by rw [efs_75, List.getElem?_set_ne (by decide)]; exact hf_must
                  have hf_never : fs_75[13]? = some (.ref q_never) := by rw [efs_75, List.getElem?_set_ne (by decide)]; exact hf_never
                  have hf_bid : fs_75[14]? = some (.ref q_bid) := by rw [efs_75, List.getElem?_set_ne (by decide)]; exact hf_bid
                  have hf_cap : fs_75[17]? = some (.ref q_cap) := by rw [efs_75, List.getElem?_set_ne (by decide)]; exact hf_cap
                  have hf_span : fs_75[18]? = some (.ref q_span) := by rw [efs_75, List.getElem?_set_ne (by decide)]; exact hf_span
                  have hf_throttle : fs_75[19]? = some (.ref q_throttle) := by rw [efs_75, List.getElem?_set_ne (by decide)]; exact hf_throttle
                  have hf_promised : fs_75[22]? = some (.ref q_promised) := by rw [efs_75, List.getElem?_set_ne (by decide)]; exact hf_promised
                  have hfc : fs_75[9]? = some (.int 1) := by rw [efs_75]; exact List.getElem?_set_self (by rw [hlen_h0]; decide)
                  have hlen_h0 : fs_75.length = 51 := by rw [efs_75, List.length_set]; exact hlen_h0
                  refine lv_iload hx hb dX6_campaign_218 (lv_at hl 0 rfl) ?_
                  exact W.iret (v := 0) hx hb hr (fun t ht hW => ⟨⟨0, (), rfl, (by subst ex_1 ex_5 ex_58 ex_59 ex_60 ex_63 ex_65 ex_67; have h1 := k_cp1 x; have h2 := k_cp2 y; simp only [Int32.lt_iff_toInt_lt, Int32.le_iff_toInt_le, ← Int32.toInt_inj, Int32.reduceToInt] at h1 h2 c_2 g_4 c_6 g_52 g_54 c_55 g_57 c_61; exact (if_pos (by unfold cpOk; simp only [Int32.lt_iff_toInt_lt, Int32.le_iff_toInt_le, ← Int32.toInt_inj, Int32.reduceToInt]; omega)).symm), trivial⟩, hS.F ht⟩) hS.2.2 dX6_campaign_220
                · skip
                  refine lv_iconst (v := (-1)) hx hb dX6_campaign_101 (by decide) ?_
                  exact W.iret (v := (-1)) hx hb hr (fun t ht hW => ⟨⟨(-1), (), rfl, (by subst ex_1 ex_5 ex_58 ex_59 ex_60; have h1 := k_cp1 x; have h2 := k_cp2 y; simp only [Int32.lt_iff_toInt_lt, Int32.le_iff_toInt_le, ← Int32.toInt_inj, Int32.reduceToInt] at h1 h2 c_2 g_4 c_6 g_52 g_54 c_55 g_57 c_61; exact (if_neg (by unfold cpOk; simp only [Int32.lt_iff_toInt_lt, Int32.le_iff_toInt_le, ← Int32.toInt_inj, Int32.reduceToInt]; omega)).symm), trivial⟩, hS.F ht⟩) hS.2.2 dX6_campaign_102
            · skip
              refine lv_iload_n hx hb dX6_campaign_57 rfl (lv_at hl 4 rfl) ?_
              refine lv_if_ne (tgt := 79) hx hb dX6_campaign_58 (by decide) (fun c_76 => ?_) (fun c_76 => ?_)
              · skip
                refine lv_iconst (v := 0) hx hb dX6_campaign_79 (by decide) ?_
                refine lv_istore (lv' := [(5, .int 0), (4, .int x_1), (0, .ref h0), (1, .int x), (2, .int y), (3, .int z)]) hx hb dX6_campaign_80 hl (by decide) rfl (fun ls hl => ?_)
                refine lv_iload hx hb dX6_campaign_82 (lv_at hl 0 rfl) ?_
                refine lv_if_eq (tgt := 101) hx hb dX6_campaign_84 (by decide) (fun _ => ?_) (fun h9 => absurd (by decide) h9)
                refine lv_iconst (v := (-1)) hx hb dX6_campaign_101 (by decide) ?_
                exact W.iret (v := (-1)) hx hb hr (fun t ht hW => ⟨⟨(-1), (), rfl, (by subst ex_1 ex_5; have h1 := k_cp1 x; have h2 := k_cp2 y; simp only [Int32.lt_iff_toInt_lt, Int32.le_iff_toInt_le, ← Int32.toInt_inj, Int32.reduceToInt] at h1 h2 c_2 g_4 c_6 g_52 g_54 c_55 c_76; exact (if_neg (by unfold cpOk; simp only [Int32.lt_iff_toInt_lt, Int32.le_iff_toInt_le, ← Int32.toInt_inj, Int32.reduceToInt]; omega)).symm), trivial⟩, hS.F ht⟩) hS.2.2 dX6_campaign_102
              · skip
                refine lv_goto (tgt := 75) hx hb dX6_campaign_61 (by decide) ?_
                refine lv_iconst (v := 1) hx hb dX6_campaign_75 (by decide) ?_
                refine lv_goto (tgt := 80) hx hb dX6_campaign_76 (by decide) ?_
                refine lv_istore (lv' := [(5, .int 1), (4, .int x_1), (0, .ref h0), (1, .int x), (2, .int y), (3, .int z)]) hx hb dX6_campaign_80 hl (by decide) rfl (fun ls hl => ?_)
                refine lv_iload hx hb dX6_campaign_82 (lv_at hl 0 rfl) ?_
                refine lv_if_eq (tgt := 101) hx hb dX6_campaign_84 (by decide) (fun h9 => absurd h9 (by decide)) (fun _ => ?_)
                refine lv_iload_n hx hb dX6_campaign_87 rfl (lv_at hl 4 rfl) ?_
                refine lv_sipush (v := 4096) hx hb dX6_campaign_88 (by decide) ?_
                refine lv_idiv hx hb dX6_campaign_91 (by decide) ?_
                refine lv_topi (fun x_77 ex_77 => ?_)
                refine lv_iload_n hx hb dX6_campaign_92 rfl (lv_at hl 4 rfl) ?_
                refine lv_sipush (v := 4096) hx hb dX6_campaign_93 (by decide) ?_
                refine lv_irem hx hb dX6_campaign_96 (by decide) ?_
                refine lv_topi (fun x_78 ex_78 => ?_)
                refine lv_iand hx hb dX6_campaign_97 ?_
                refine lv_topi (fun x_79 ex_79 => ?_)
                refine lv_if_eq (tgt := 103) hx hb dX6_campaign_98 (by decide) (fun c_80 => ?_) (fun c_80 => ?_)
                · skip
                  refine lv_aload_n hx hb dX6_campaign_103 rfl (lv_at hl 2 rfl) ?_
                  refine va_get (D := (dC, dI)) (ci := 6) (v := .int 0) (C := RX6) (T := TX6) (N := 51) hx hb hts uB6 hown hK hP 0 rfl rfl 9 (by decide) (hts _ wm_12) (fun _ h9 => h9) hfc dX6_campaign_104 ?_
                  refine lv_bipush (v := 40) hx hb dX6_campaign_107 (by decide) ?_
                  refine lv_icmp_ne (tgt := 115) hx hb dX6_campaign_109 (by decide) (fun _ => ?_) (fun h9 => absurd h9 (by decide))
                  refine lv_aload_n hx hb dX6_campaign_115 rfl (lv_at hl 2 rfl) ?_
                  refine va_get (D := (dC, dI)) (ci := 6) (v := .int 0) (C := RX6) (T := TX6) (N := 51) hx hb hts uB6 hown hK hP 0 rfl rfl 9 (by decide) (hts _ wm_12) (fun _ h9 => h9) hfc dX6_campaign_116 ?_
                  refine lv_istore (lv' := [(6, .int 0), (5, .int 1), (4, .int x_1), (0, .ref h0), (1, .int x), (2, .int y), (3, .int z)]) hx hb dX6_campaign_119 hl (by decide) rfl (fun ls hl => ?_)
                  refine lv_aload_n hx hb dX6_campaign_121 rfl (lv_at hl 3 rfl) ?_
                  refine va_get (D := (dC, dI)) (ci := 6) (v := .ref q_sort) (C := RX6) (T := TX6) (N := 51) hx hb hts uB6 hown hK hP 0 rfl rfl 10 (by decide) (hts _ wm_130) (fun _ h9 => h9) hf_sort dX6_campaign_122 ?_
                  refine lv_iload hx hb dX6_campaign_125 (lv_at hl 0 rfl) ?_
                  refine lv_iload hx hb dX6_campaign_127 (lv_at hl 2 rfl) ?_
                  refine va_iast hx hb hK hP hD hS 1 0 rfl rfl (vp_in_iff.mpr (by decide)) dX6_campaign_129 (fun H locs hP hD hS => ?_)
                  obtain ⟨f_81, ef_81⟩ : ∃ z9, z9 = upd (fun _ => 0) (Int32.toNatClampNeg 0) x_1 := ⟨_, rfl⟩
                  have hP : va_P (dC, dI) vwCl [(h0, .inr (6, fs)), (q_sort, .inl (cI, 40, .inl f_81)), (q_pays, .inl (cI, 40, .inl (fun _ => 0))), (q_must, .inl (cI, 40, .inl (fun _ => 0))), (q_never, .inl (cI, 40, .inl (fun _ => 0))), (q_bid, .inl (cI, 40, .inl (fun _ => 0))), (q_cap, .inl (cI, 40, .inl (fun _ => 0))), (q_span, .inl (cI, 40, .inl (fun _ => 0))), (q_throttle, .inl (cI, 40, .inl (fun _ => 0))), (q_promised, .inl (cI, 40, .inl (fun _ => 0)))] H := by rw [ef_81]; exact hP
                  have hD : va_D A [(h0, .inr (6, fs)), (q_sort, .inl (cI, 40, .inl f_81)), (q_pays, .inl (cI, 40, .inl (fun _ => 0))), (q_must, .inl (cI, 40, .inl (fun _ => 0))), (q_never, .inl (cI, 40, .inl (fun _ => 0))), (q_bid, .inl (cI, 40, .inl (fun _ => 0))), (q_cap, .inl (cI, 40, .inl (fun _ => 0))), (q_span, .inl (cI, 40, .inl (fun _ => 0))), (q_throttle, .inl (cI, 40, .inl (fun _ => 0))), (q_promised, .inl (cI, 40, .inl (fun _ => 0)))] := by rw [ef_81]; exact hD
                  refine lv_aload_n hx hb dX6_campaign_130 rfl (lv_at hl 3 rfl) ?_
                  refine va_get (D := (dC, dI)) (ci := 6) (v := .ref q_pays) (C := RX6) (T := TX6) (N := 51) hx hb hts uB6 hown hK hP 0 rfl rfl 11 (by decide) (hts _ wm_131) (fun _ h9 => h9) hf_pays dX6_campaign_131 ?_
                  refine lv_iload hx hb dX6_campaign_134 (lv_at hl 0 rfl) ?_
                  refine lv_iload_n hx hb dX6_campaign_136 rfl (lv_at hl 4 rfl) ?_
                  refine lv_bipush (v := 10) hx hb dX6_campaign_137 (by decide) ?_
                  refine lv_irem hx hb dX6_campaign_139 (by decide) ?_
                  refine lv_topi (fun x_82 ex_82 => ?_)
                  refine va_iast hx hb hK hP hD hS 2 0 rfl rfl (vp_in_iff.mpr (by decide)) dX6_campaign_140 (fun H locs hP hD hS => ?_)
                  obtain ⟨f_83, ef_83⟩ : ∃ z9, z9 = upd (fun _ => 0) (Int32.toNatClampNeg 0) x_82 := ⟨_, rfl⟩
                  have hP : va_P (dC, dI) vwCl [(h0, .inr (6, fs)), (q_sort, .inl (cI, 40, .inl f_81)), (q_pays, .inl (cI, 40, .inl f_83)), (q_must, .inl (cI, 40, .inl (fun _ => 0))), (q_never, .inl (cI, 40, .inl (fun _ => 0))), (q_bid, .inl (cI, 40, .inl (fun _ => 0))), (q_cap, .inl (cI, 40, .inl (fun _ => 0))), (q_span, .inl (cI, 40, .inl (fun _ => 0))), (q_throttle, .inl (cI, 40, .inl (fun _ => 0))), (q_promised, .inl (cI, 40, .inl (fun _ => 0)))] H := by rw [ef_83]; exact hP
                  have hD : va_D A [(h0, .inr (6, fs)), (q_sort, .inl (cI, 40, .inl f_81)), (q_pays, .inl (cI, 40, .inl f_83)), (q_must, .inl (cI, 40, .inl (fun _ => 0))), (q_never, .inl (cI, 40, .inl (fun _ => 0))), (q_bid, .inl (cI, 40, .inl (fun _ => 0))), (q_cap, .inl (cI, 40, .inl (fun _ => 0))), (q_span, .inl (cI, 40, .inl (fun _ => 0))), (q_throttle, .inl (cI, 40, .inl (fun _ => 0))), (q_promised, .inl (cI, 40, .inl (fun _ => 0)))] := by rw [ef_83]; exact hD
                  refine lv_aload_n hx hb dX6_campaign_141 rfl (lv_at hl 3 rfl) ?_
                  refine va_get (D := (dC, dI)) (ci := 6) (v := .ref q_must) (C := RX6) (T := TX6) (N := 51) hx hb hts uB6 hown hK hP 0 rfl rfl 12 (by decide) (hts _ wm_132) (fun _ h9 => h9) hf_must dX6_campaign_142 ?_
                  refine lv_iload hx hb dX6_campaign_145 (lv_at hl 0 rfl) ?_
                  refine lv_iload_n hx hb dX6_campaign_147 rfl (lv_at hl 5 rfl) ?_
                  refine lv_sipush (v := 4096) hx hb dX6_campaign_148 (by decide) ?_
                  refine lv_idiv hx hb dX6_campaign_151 (by decide) ?_
                  refine lv_topi (fun x_84 ex_84 => ?_)
                  refine va_iast hx hb hK hP hD hS 3 0 rfl rfl (vp_in_iff.mpr (by decide)) dX6_campaign_152 (fun H locs hP hD hS => ?_)
                  obtain ⟨f_85, ef_85⟩ : ∃ z9, z9 = upd (fun _ => 0) (Int32.toNatClampNeg 0) x_84 := ⟨_, rfl⟩
                  have hP : va_P (dC, dI) vwCl [(h0, .inr (6, fs)), (q_sort, .inl (cI, 40, .inl f_81)), (q_pays, .inl (cI, 40, .inl f_83)), (q_must, .inl (cI, 40, .inl f_85)), (q_never, .inl (cI, 40, .inl (fun _ => 0))), (q_bid, .inl (cI, 40, .inl (fun _ => 0))), (q_cap, .inl (cI, 40, .inl (fun _ => 0))), (q_span, .inl (cI, 40, .inl (fun _ => 0))), (q_throttle, .inl (cI, 40, .inl (fun _ => 0))), (q_promised, .inl (cI, 40, .inl (fun _ => 0)))] H := by rw [ef_85]; exact hP
                  have hD : va_D A [(h0, .inr (6, fs)), (q_sort, .inl (cI, 40, .inl f_81)), (q_pays, .inl (cI, 40, .inl f_83)), (q_must, .inl (cI, 40, .inl f_85)), (q_never, .inl (cI, 40, .inl (fun _ => 0))), (q_bid, .inl (cI, 40, .inl (fun _ => 0))), (q_cap, .inl (cI, 40, .inl (fun _ => 0))), (q_span, .inl (cI, 40, .inl (fun _ => 0))), (q_throttle, .inl (cI, 40, .inl (fun _ => 0))), (q_promised, .inl (cI, 40, .inl (fun _ => 0)))] := by rw [ef_85]; exact hD
                  refine lv_aload_n hx hb dX6_campaign_153 rfl (lv_at hl 3 rfl) ?_
                  refine va_get (D := (dC, dI)) (ci := 6) (v := .ref q_never) (C := RX6) (T := TX6) (N := 51) hx hb hts uB6 hown hK hP 0 rfl rfl 13 (by decide) (hts _ wm_133) (fun _ h9 => h9) hf_never dX6_campaign_154 ?_
                  refine lv_iload hx hb dX6_campaign_157 (lv_at hl 0 rfl) ?_
                  refine lv_iload_n hx hb dX6_campaign_159 rfl (lv_at hl 5 rfl) ?_
                  refine lv_sipush (v := 4096) hx hb dX6_campaign_160 (by decide) ?_
                  refine lv_irem hx hb dX6_campaign_163 (by decide) ?_
                  refine lv_topi (fun x_86 ex_86 => ?_)
                  refine va_iast hx hb hK hP hD hS 4 0 rfl rfl (vp_in_iff.mpr (by decide)) dX6_campaign_164 (fun H locs hP hD hS => ?_)
                  obtain ⟨f_87, ef_87⟩ : ∃ z9, z9 = upd (fun _ => 0) (Int32.toNatClampNeg 0) x_86 := ⟨_, rfl⟩
                  have hP : va_P (dC, dI) vwCl [(h0, .inr (6, fs)), (q_sort, .inl (cI, 40, .inl f_81)), (q_pays, .inl (cI, 40, .inl f_83)), (q_must, .inl (cI, 40, .inl f_85)), (q_never, .inl (cI, 40, .inl f_87)), (q_bid, .inl (cI, 40, .inl (fun _ => 0))), (q_cap, .inl (cI, 40, .inl (fun _ => 0))), (q_span, .inl (cI, 40, .inl (fun _ => 0))), (q_throttle, .inl (cI, 40, .inl (fun _ => 0))), (q_promised, .inl (cI, 40, .inl (fun _ => 0)))] H := by rw [ef_87]; exact hP
                  have hD : va_D A [(h0, .inr (6, fs)), (q_sort, .inl (cI, 40, .inl f_81)), (q_pays, .inl (cI, 40, .inl f_83)), (q_must, .inl (cI, 40, .inl f_85)), (q_never, .inl (cI, 40, .inl f_87)), (q_bid, .inl (cI, 40, .inl (fun _ => 0))), (q_cap, .inl (cI, 40, .inl (fun _ => 0))), (q_span, .inl (cI, 40, .inl (fun _ => 0))), (q_throttle, .inl (cI, 40, .inl (fun _ => 0))), (q_promised, .inl (cI, 40, .inl (fun _ => 0)))] := by rw [ef_87]; exact hD
                  refine lv_aload_n hx hb dX6_campaign_165 rfl (lv_at hl 3 rfl) ?_
                  refine va_get (D := (dC, dI)) (ci := 6) (v := .ref q_bid) (C := RX6) (T := TX6) (N := 51) hx hb hts uB6 hown hK hP 0 rfl rfl 14 (by decide) (hts _ wm_134) (fun _ h9 => h9) hf_bid dX6_campaign_166 ?_
                  refine lv_iload hx hb dX6_campaign_169 (lv_at hl 0 rfl) ?_
                  refine lv_iload_n hx hb dX6_campaign_171 rfl (lv_at hl 6 rfl) ?_
                  refine va_iast hx hb hK hP hD hS 5 0 rfl rfl (vp_in_iff.mpr (by decide)) dX6_campaign_172 (fun H locs hP hD hS => ?_)
                  obtain ⟨f_88, ef_88⟩ : ∃ z9, z9 = upd (fun _ => 0) (Int32.toNatClampNeg 0) z := ⟨_, rfl⟩
                  have hP : va_P (dC, dI) vwCl [(h0, .inr (6, fs)), (q_sort, .inl (cI, 40, .inl f_81)), (q_pays, .inl (cI, 40, .inl f_83)), (q_must, .inl (cI, 40, .inl f_85)), (q_never, .inl (cI, 40, .inl f_87)), (q_bid, .inl (cI, 40, .inl f_88)), (q_cap, .inl (cI, 40, .inl (fun _ => 0))), (q_span, .inl (cI, 40, .inl (fun _ => 0))), (q_throttle, .inl (cI, 40, .inl (fun _ => 0))), (q_promised, .inl (cI, 40, .inl (fun _ => 0)))] H := by rw [ef_88]; exact hP
                  have hD : va_D A [(h0, .inr (6, fs)), (q_sort, .inl (cI, 40, .inl f_81)), (q_pays, .inl (cI, 40, .inl f_83)), (q_must, .inl (cI, 40, .inl f_85)), (q_never, .inl (cI, 40, .inl f_87)), (q_bid, .inl (cI, 40, .inl f_88)), (q_cap, .inl (cI, 40, .inl (fun _ => 0))), (q_span, .inl (cI, 40, .inl (fun _ => 0))), (q_throttle, .inl (cI, 40, .inl (fun _ => 0))), (q_promised, .inl (cI, 40, .inl (fun _ => 0)))] := by rw [ef_88]; exact hD
                  refine lv_aload_n hx hb dX6_campaign_173 rfl (lv_at hl 3 rfl) ?_
                  refine va_get (D := (dC, dI)) (ci := 6) (v := .ref q_cap) (C := RX6) (T := TX6) (N := 51) hx hb hts uB6 hown hK hP 0 rfl rfl 17 (by decide) (hts _ wm_135) (fun _ h9 => h9) hf_cap dX6_campaign_174 ?_
                  refine lv_iload hx hb dX6_campaign_177 (lv_at hl 0 rfl) ?_
                  refine lv_bipush (v := 9) hx hb dX6_campaign_179 (by decide) ?_
                  refine va_iast hx hb hK hP hD hS 6 0 rfl rfl (vp_in_iff.mpr (by decide)) dX6_campaign_181 (fun H locs hP hD hS => ?_)
                  obtain ⟨f_89, ef_89⟩ : ∃ z9, z9 = upd (fun _ => 0) (Int32.toNatClampNeg 0) 9 := ⟨_, rfl⟩
                  have hP : va_P (dC, dI) vwCl [(h0, .inr (6, fs)), (q_sort, .inl (cI, 40, .inl f_81)), (q_pays, .inl (cI, 40, .inl f_83)), (q_must, .inl (cI, 40, .inl f_85)), (q_never, .inl (cI, 40, .inl f_87)), (q_bid, .inl (cI, 40, .inl f_88)), (q_cap, .inl (cI, 40, .inl f_89)), (q_span, .inl (cI, 40, .inl (fun _ => 0))), (q_throttle, .inl (cI, 40, .inl (fun _ => 0))), (q_promised, .inl (cI, 40, .inl (fun _ => 0)))] H := by rw [ef_89]; exact hP
                  have hD : va_D A [(h0, .inr (6, fs)), (q_sort, .inl (cI, 40, .inl f_81)), (q_pays, .inl (cI, 40, .inl f_83)), (q_must, .inl (cI, 40, .inl f_85)), (q_never, .inl (cI, 40, .inl f_87)), (q_bid, .inl (cI, 40, .inl f_88)), (q_cap, .inl (cI, 40, .inl f_89)), (q_span, .inl (cI, 40, .inl (fun _ => 0))), (q_throttle, .inl (cI, 40, .inl (fun _ => 0))), (q_promised, .inl (cI, 40, .inl (fun _ => 0)))] := by rw [ef_89]; exact hD
                  refine lv_aload_n hx hb dX6_campaign_182 rfl (lv_at hl 3 rfl) ?_
                  refine va_get (D := (dC, dI)) (ci := 6) (v := .ref q_span) (C := RX6) (T := TX6) (N := 51) hx hb hts uB6 hown hK hP 0 rfl rfl 18 (by decide) (hts _ wm_136) (fun _ h9 => h9) hf_span dX6_campaign_183 ?_
                  refine lv_iload hx hb dX6_campaign_186 (lv_at hl 0 rfl) ?_
                  refine lv_iconst (v := 1) hx hb dX6_campaign_188 (by decide) ?_
                  refine va_iast hx hb hK hP hD hS 7 0 rfl rfl (vp_in_iff.mpr (by decide)) dX6_campaign_189 (fun H locs hP hD hS => ?_)
                  obtain ⟨f_90, ef_90⟩ : ∃ z9, z9 = upd (fun _ => 0) (Int32.toNatClampNeg 0) 1 := ⟨_, rfl⟩
                  have hP : va_P (dC, dI) vwCl [(h0, .inr (6, fs)), (q_sort, .inl (cI, 40, .inl f_81)), (q_pays, .inl (cI, 40, .inl f_83)), (q_must, .inl (cI, 40, .inl f_85)), (q_never, .inl (cI, 40, .inl f_87)), (q_bid, .inl (cI, 40, .inl f_88)), (q_cap, .inl (cI, 40, .inl f_89)), (q_span, .inl (cI, 40, .inl f_90)), (q_throttle, .inl (cI, 40, .inl (fun _ => 0))), (q_promised, .inl (cI, 40, .inl (fun _ => 0)))] H := by rw [ef_90]; exact hP
                  have hD : va_D A [(h0, .inr (6, fs)), (q_sort, .inl (cI, 40, .inl f_81)), (q_pays, .inl (cI, 40, .inl f_83)), (q_must, .inl (cI, 40, .inl f_85)), (q_never, .inl (cI, 40, .inl f_87)), (q_bid, .inl (cI, 40, .inl f_88)), (q_cap, .inl (cI, 40, .inl f_89)), (q_span, .inl (cI, 40, .inl f_90)), (q_throttle, .inl (cI, 40, .inl (fun _ => 0))), (q_promised, .inl (cI, 40, .inl (fun _ => 0)))] := by rw [ef_90]; exact hD
                  refine lv_aload_n hx hb dX6_campaign_190 rfl (lv_at hl 3 rfl) ?_
                  refine va_get (D := (dC, dI)) (ci := 6) (v := .ref q_throttle) (C := RX6) (T := TX6) (N := 51) hx hb hts uB6 hown hK hP 0 rfl rfl 19 (by decide) (hts _ wm_137) (fun _ h9 => h9) hf_throttle dX6_campaign_191 ?_
                  refine lv_iload hx hb dX6_campaign_194 (lv_at hl 0 rfl) ?_
                  refine lv_sipush (v := 1000) hx hb dX6_campaign_196 (by decide) ?_
                  refine va_iast hx hb hK hP hD hS 8 0 rfl rfl (vp_in_iff.mpr (by decide)) dX6_campaign_199 (fun H locs hP hD hS => ?_)
                  obtain ⟨f_91, ef_91⟩ : ∃ z9, z9 = upd (fun _ => 0) (Int32.toNatClampNeg 0) 1000 := ⟨_, rfl⟩
                  have hP : va_P (dC, dI) vwCl [(h0, .inr (6, fs)), (q_sort, .inl (cI, 40, .inl f_81)), (q_pays, .inl (cI, 40, .inl f_83)), (q_must, .inl (cI, 40, .inl f_85)), (q_never, .inl (cI, 40, .inl f_87)), (q_bid, .inl (cI, 40, .inl f_88)), (q_cap, .inl (cI, 40, .inl f_89)), (q_span, .inl (cI, 40, .inl f_90)), (q_throttle, .inl (cI, 40, .inl f_91)), (q_promised, .inl (cI, 40, .inl (fun _ => 0)))] H := by rw [ef_91]; exact hP
                  have hD : va_D A [(h0, .inr (6, fs)), (q_sort, .inl (cI, 40, .inl f_81)), (q_pays, .inl (cI, 40, .inl f_83)), (q_must, .inl (cI, 40, .inl f_85)), (q_never, .inl (cI, 40, .inl f_87)), (q_bid, .inl (cI, 40, .inl f_88)), (q_cap, .inl (cI, 40, .inl f_89)), (q_span, .inl (cI, 40, .inl f_90)), (q_throttle, .inl (cI, 40, .inl f_91)), (q_promised, .inl (cI, 40, .inl (fun _ => 0)))] := by rw [ef_91]; exact hD
                  refine lv_aload_n hx hb dX6_campaign_200 rfl (lv_at hl 3 rfl) ?_
                  refine va_get (D := (dC, dI)) (ci := 6) (v := .ref q_promised) (C := RX6) (T := TX6) (N := 51) hx hb hts uB6 hown hK hP 0 rfl rfl 22 (by decide) (hts _ wm_138) (fun _ h9 => h9) hf_promised dX6_campaign_201 ?_
                  refine lv_iload hx hb dX6_campaign_204 (lv_at hl 0 rfl) ?_
                  refine lv_iconst (v := 0) hx hb dX6_campaign_206 (by decide) ?_
                  refine va_iast hx hb hK hP hD hS 9 0 rfl rfl (vp_in_iff.mpr (by decide)) dX6_campaign_207 (fun H locs hP hD hS => ?_)
                  obtain ⟨f_92, ef_92⟩ : ∃ z9, z9 = upd (fun _ => 0) (Int32.toNatClampNeg 0) 0 := ⟨_, rfl⟩
                  have hP : va_P (dC, dI) vwCl [(h0, .inr (6, fs)), (q_sort, .inl (cI, 40, .inl f_81)), (q_pays, .inl (cI, 40, .inl f_83)), (q_must, .inl (cI, 40, .inl f_85)), (q_never, .inl (cI, 40, .inl f_87)), (q_bid, .inl (cI, 40, .inl f_88)), (q_cap, .inl (cI, 40, .inl f_89)), (q_span, .inl (cI, 40, .inl f_90)), (q_throttle, .inl (cI, 40, .inl f_91)), (q_promised, .inl (cI, 40, .inl f_92))] H := by rw [ef_92]; exact hP
                  have hD : va_D A [(h0, .inr (6, fs)), (q_sort, .inl (cI, 40, .inl f_81)), (q_pays, .inl (cI, 40, .inl f_83)), (q_must, .inl (cI, 40, .inl f_85)), (q_never, .inl (cI, 40, .inl f_87)), (q_bid, .inl (cI, 40, .inl f_88)), (q_cap, .inl (cI, 40, .inl f_89)), (q_span, .inl (cI, 40, .inl f_90)), (q_throttle, .inl (cI, 40, .inl f_91)), (q_promised, .inl (cI, 40, .inl f_92))] := by rw [ef_92]; exact hD
                  refine lv_aload_n hx hb dX6_campaign_208 rfl (lv_at hl 3 rfl) ?_
                  refine lv_dup hx hb dX6_campaign_209 rfl ?_
                  refine va_get (D := (dC, dI)) (ci := 6) (v := .int 0) (C := RX6) (T := TX6) (N := 51) hx hb hts uB6 hown hK hP 0 rfl rfl 9 (by decide) (hts _ wm_12) (fun _ h9 => h9) hfc dX6_campaign_210 ?_
                  refine lv_iconst (v := 1) hx hb dX6_campaign_213 (by decide) ?_
                  refine lv_iadd hx hb dX6_campaign_214 ?_
                  refine lv_topi (fun x_93 ex_93 => ?_)
                  obtain rfl : x_93 = 1 := ex_93.trans (by decide)
                  refine va_put (D := (dC, dI)) (ci := 6) (v := .int 1) (ty := .int) (C := RX6) (T := TX6) (N := 51) hx hb hts uB6 tyX6 tyX6_ok nmX6 hown hK hP hD hS 0 rfl rfl 9 (by decide) (hts _ wm_12) (fun _ h9 => h9) rfl (by decide +kernel) rfl rfl (by rw [hlen_h0]; decide) dX6_campaign_215 (fun H locs hP hD hS => ?_)
                  obtain ⟨fs_94, efs_94⟩ : ∃ z9, z9 = (fs).set 9 (.int 1) := ⟨_, rfl⟩
                  have hP : va_P (dC, dI) vwCl [(h0, .inr (6, fs_94)), (q_sort, .inl (cI, 40, .inl f_81)), (q_pays, .inl (cI, 40, .inl f_83)), (q_must, .inl (cI, 40, .inl f_85)), (q_never, .inl (cI, 40, .inl f_87)), (q_bid, .inl (cI, 40, .inl f_88)), (q_cap, .inl (cI, 40, .inl f_89)), (q_span, .inl (cI, 40, .inl f_90)), (q_throttle, .inl (cI, 40, .inl f_91)), (q_promised, .inl (cI, 40, .inl f_92))] H := by rw [efs_94]; exact hP
                  have hD : va_D A [(h0, .inr (6, fs_94)), (q_sort, .inl (cI, 40, .inl f_81)), (q_pays, .inl (cI, 40, .inl f_83)), (q_must, .inl (cI, 40, .inl f_85)), (q_never, .inl (cI, 40, .inl f_87)), (q_bid, .inl (cI, 40, .inl f_88)), (q_cap, .inl (cI, 40, .inl f_89)), (q_span, .inl (cI, 40, .inl f_90)), (q_throttle, .inl (cI, 40, .inl f_91)), (q_promised, .inl (cI, 40, .inl f_92))] := by rw [efs_94]; exact hD
                  have hf_sort : fs_94[10]? = some (.ref q_sort) := by rw [efs_94, List.getElem?_set_ne (by decide)]; exact hf_sort
                  have hf_pays : fs_94[11]? = some (.ref q_pays) := by rw [efs_94, List.getElem?_set_ne (by decide)]; exact hf_pays
                  have hf_must : fs_94[12]? = some (.ref q_must) := by rw [efs_94, List.getElem?_set_ne (by decide)]; exact hf_must
                  have hf_never : fs_94[13]? = some (.ref q_never) := by rw [efs_94, List.getElem?_set_ne (by decide)]; exact hf_never
                  have hf_bid : fs_94[14]? = some (.ref q_bid) := by rw [efs_94, List.getElem?_set_ne (by decide)]; exact hf_bid
                  have hf_cap : fs_94[17]? = some (.ref q_cap) := by rw [efs_94, List.getElem?_set_ne (by decide)]; exact hf_cap
                  have hf_span : fs_94[18]? = some (.ref q_span) := by rw [efs_94, List.getElem?_set_ne (by decide)]; exact hf_span
                  have hf_throttle : fs_94[19]? = some (.ref q_throttle) := by rw [efs_94, List.getElem?_set_ne (by decide)]; exact hf_throttle
                  have hf_promised : fs_94[22]? = some (.ref q_promised) := by rw [efs_94, List.getElem?_set_ne (by decide)]; exact hf_promised
                  have hfc : fs_94[9]? = some (.int 1) := by rw [efs_94]; exact List.getElem?_set_self (by rw [hlen_h0]; decide)
                  have hlen_h0 : fs_94.length = 51 := by rw [efs_94, List.length_set]; exact hlen_h0
                  refine lv_iload hx hb dX6_campaign_218 (lv_at hl 0 rfl) ?_
                  exact W.iret (v := 0) hx hb hr (fun t ht hW => ⟨⟨0, (), rfl, (by subst ex_1 ex_5 ex_77 ex_78 ex_79 ex_82 ex_84 ex_86; have h1 := k_cp1 x; have h2 := k_cp2 y; simp only [Int32.lt_iff_toInt_lt, Int32.le_iff_toInt_le, ← Int32.toInt_inj, Int32.reduceToInt] at h1 h2 c_2 g_4 c_6 g_52 g_54 c_55 c_76 c_80; exact (if_pos (by unfold cpOk; simp only [Int32.lt_iff_toInt_lt, Int32.le_iff_toInt_le, ← Int32.toInt_inj, Int32.reduceToInt]; omega)).symm), trivial⟩, hS.F ht⟩) hS.2.2 dX6_campaign_220
                · skip
                  refine lv_iconst (v := (-1)) hx hb dX6_campaign_101 (by decide) ?_
                  exact W.iret (v := (-1)) hx hb hr (fun t ht hW => ⟨⟨(-1), (), rfl, (by subst ex_1 ex_5 ex_77 ex_78 ex_79; have h1 := k_cp1 x; have h2 := k_cp2 y; simp only [Int32.lt_iff_toInt_lt, Int32.le_iff_toInt_le, ← Int32.toInt_inj, Int32.reduceToInt] at h1 h2 c_2 g_4 c_6 g_52 g_54 c_55 c_76 c_80; exact (if_neg (by unfold cpOk; simp only [Int32.lt_iff_toInt_lt, Int32.le_iff_toInt_le, ← Int32.toInt_inj, Int32.reduceToInt]; omega)).symm), trivial⟩, hS.F ht⟩) hS.2.2 dX6_campaign_102
