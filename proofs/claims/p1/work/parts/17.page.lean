set_option maxHeartbeats 4000000 in
set_option maxRecDepth 100000 in
theorem o_Page (l : Launch) (dC : Nat → ClassId) (dI : Nat → Nat → Nat) (sz : Nat) (h0 : Nat) (fs : List Value) (x : Int32) (k : Nat) (hlen_h0 : fs.length = 4) (hk1 : 1 ≤ k) (hk4 : k ≤ 4) : mOv l yX2_init cX2_init 5 2 1 4 (dC, dI) h0 2 fs sz [] (fun _ => True) [.ref h0, .int x, .int (nI k)] (fun _ => True) := by
  refine Met.ofW (cc := cX2_init) (maxL := 5) (ret := none) (by decide) rfl ?_
  intro p e s m args below meth c s₁ B hml hv
  obtain ⟨rfl, hsz, hP, hK, hex⟩ := hv
  subst hsz
  have hx := B.exec
  have hb := B.bytes
  have hr := B.returns
  have hlocks := B.notSynchronized
  have hts0 := atoms_spec (ws := Cond.code yX2_init cX2_init 5 none :: lw_B) B.pre
  have hts : ∀ w ∈ lw_B, w.before _ s = true := fun w h => hts0 w (List.mem_cons_of_mem _ h)
  have hown : s.vm.findClass RX2 = some m.cls := findClass_of_methodNamed B.named
  have hin : meth.name = "<init>" := (name_of_methodNamed B.named B.method).1
  have hD : va_D (aO h0 s.heap.size) [(h0, .inr (2, fs))] := ⟨fun i j p q h1 h2 _ => by have a1 := (List.getElem?_eq_some_iff.mp h1).1; have a2 := (List.getElem?_eq_some_iff.mp h2).1; simp at a1 a2; omega, fun k q h => by have a1 := (List.getElem?_eq_some_iff.mp h).1; simp at a1; subst a1; cases h; exact Or.inl rfl⟩
  generalize hAe : aO h0 s.heap.size = A at hD ⊢
  have hA : ∀ q : Nat, s.heap.size ≤ q → A q := fun q h => by rw [← hAe]; exact Or.inr h
  have hS : va_S A s.heap s.heap [] := va_S.rf
  have hl := lv_entry ([.ref h0, .int x, .int (nI k)]) (n := 5) (Nat.le_of_ble_eq_true rfl)
  rw [lg_entry_eq]
  generalize (lg_sl ([.ref h0, .int x, .int (nI k)]) ++ List.replicate (5 - (lg_sl ([.ref h0, .int x, .int (nI k)])).length) Slot.unset).toArray = ls at hl ⊢
  have hl : lv_has ls 5 [(0, .ref h0), (1, .int x), (2, .int (nI k))] := hl
  refine lv_aload_n hx hb dX2_init_0 rfl (lv_at hl 0 rfl) ?_
  refine W.objInit hx hb hown (hts _ wm_77) (hts _ wm_78) (hts _ wm_79) rfl (by rw [hml]; exact hl.1) rfl dX2_init_1 (Nat.le_of_ble_eq_true rfl) (Nat.le_of_ble_eq_true rfl) ?_
  refine W.eq (g2 := F0 m 4 ls []) rfl ?_
  refine lv_aload_n hx hb dX2_init_4 rfl (lv_at hl 0 rfl) ?_
  refine lv_iconst (v := 4) hx hb dX2_init_5 (by decide) ?_
  refine va_newa (atype := .int) (N' := 4) (a0 := (4, .inl (fun _ => 0))) hx hb (hts _ wm_80) rfl hK hP hD hS hA (fun _ => rfl) (by decide) rfl (Nat.le_of_ble_eq_true rfl) (Nat.le_of_ble_eq_true rfl) (Nat.le_of_ble_eq_true rfl) dX2_init_6 (fun q_1 cA_2 H hK hP hD hS => ?_)
  have hK : va_K (dC, dI) vwCl [(cA_2, .int)] s := hK
  have hP : va_P (dC, dI) vwCl [(h0, .inr (2, fs)), (q_1, .inl (cA_2, 4, .inl (fun _ => 0)))] H := hP
  have hD : va_D A [(h0, .inr (2, fs)), (q_1, .inl (cA_2, 4, .inl (fun _ => 0)))] := hD
  refine va_putF (D := (dC, dI)) (ci := 2) (v := .ref q_1) (ty := .array (.int)) (C := RX2) (T := TX2) (N := 4) hx hb hts uB2 tyX2 tyX2_ok nmX2 hown hK hP hD hS 0 rfl rfl 0 (by decide) (hts _ wm_81) (fun _ h9 => h9) rfl hin rfl (by decide +kernel) rfl rfl (by rw [hlen_h0]; decide) dX2_init_8 (fun H locs hP hD hS => ?_)
  obtain ⟨fs_3, efs_3⟩ : ∃ z9, z9 = (fs).set 0 (.ref q_1) := ⟨_, rfl⟩
  have hP : va_P (dC, dI) vwCl [(h0, .inr (2, fs_3)), (q_1, .inl (cA_2, 4, .inl (fun _ => 0)))] H := by rw [efs_3]; exact hP
  have hD : va_D A [(h0, .inr (2, fs_3)), (q_1, .inl (cA_2, 4, .inl (fun _ => 0)))] := by rw [efs_3]; exact hD
  have hf0_h0 : fs_3[0]? = some (.ref q_1) := by rw [efs_3]; exact List.getElem?_set_self (by rw [hlen_h0]; decide)
  have hlen_h0 : fs_3.length = 4 := by rw [efs_3, List.length_set]; exact hlen_h0
  refine lv_aload_n hx hb dX2_init_11 rfl (lv_at hl 0 rfl) ?_
  refine lv_iload_n hx hb dX2_init_12 rfl (lv_at hl 2 rfl) ?_
  refine va_putF (D := (dC, dI)) (ci := 2) (v := .int (nI k)) (ty := .int) (C := RX2) (T := TX2) (N := 4) hx hb hts uB2 tyX2 tyX2_ok nmX2 hown hK hP hD hS 0 rfl rfl 1 (by decide) (hts _ wm_82) (fun _ h9 => h9) rfl hin rfl (by decide +kernel) rfl rfl (by rw [hlen_h0]; decide) dX2_init_13 (fun H locs hP hD hS => ?_)
  obtain ⟨fs_4, efs_4⟩ : ∃ z9, z9 = (fs_3).set 1 (.int (nI k)) := ⟨_, rfl⟩
  have hP : va_P (dC, dI) vwCl [(h0, .inr (2, fs_4)), (q_1, .inl (cA_2, 4, .inl (fun _ => 0)))] H := by rw [efs_4]; exact hP
  have hD : va_D A [(h0, .inr (2, fs_4)), (q_1, .inl (cA_2, 4, .inl (fun _ => 0)))] := by rw [efs_4]; exact hD
  have hf0_h0 : fs_4[0]? = some (.ref q_1) := by rw [efs_4, List.getElem?_set_ne (by decide)]; exact hf0_h0
  have hf1_h0 : fs_4[1]? = some (.int (nI k)) := by rw [efs_4]; exact List.getElem?_set_self (by rw [hlen_h0]; decide)
  have hlen_h0 : fs_4.length = 4 := by rw [efs_4, List.length_set]; exact hlen_h0
  refine lv_iload_n hx hb dX2_init_16 rfl (lv_at hl 1 rfl) ?_
  refine lv_istore_n (lv' := [(3, .int x), (0, .ref h0), (1, .int x), (2, .int (nI k))]) hx hb dX2_init_17 rfl hl (by decide) rfl (fun ls hl => ?_)
  refine lv_iload_n hx hb dX2_init_18 rfl (lv_at hl 3 rfl) ?_
  refine lv_iconst (v := 4) hx hb dX2_init_19 (by decide) ?_
  refine va_mmin hx hb (by rw [hml]; exact hl.1.symm) hown (hts _ wm_83) (hts _ wm_84) (hts _ wm_85) (hts _ wm_86) (Nat.le_of_ble_eq_true rfl) (Nat.le_of_ble_eq_true rfl) (Nat.le_of_ble_eq_true rfl) (Nat.le_of_ble_eq_true rfl) dX2_init_20 ?_
  refine lv_topi (fun x_5 ex_5 => ?_)
  obtain rfl : x_5 = nI k := ex_5.trans (if_neg (show ¬ nI 4 < nI k from fun q => absurd ((nI_ltI (by decide) (by omega)).mp q) (by omega)))
  refine lv_iconst (v := 1) hx hb dX2_init_23 (by decide) ?_
  refine lv_isub hx hb dX2_init_24 ?_
  refine lv_topi (fun x_6 ex_6 => ?_)
  refine lv_istore (lv' := [(4, .int x_6), (3, .int x), (0, .ref h0), (1, .int x), (2, .int (nI k))]) hx hb dX2_init_25 hl (by decide) rfl (fun ls hl => ?_)
  subst ex_6
  refine k_loop (fun n H locs ls => ∃ (r : Int32) (f : Nat → Int32), n ≤ 4 ∧ va_P (dC, dI) vwCl [(h0, .inr (2, fs_4)), (q_1, .inl (cA_2, 4, .inl f))] H ∧ va_D A [(h0, .inr (2, fs_4)), (q_1, .inl (cA_2, 4, .inl f))] ∧ va_S A s.heap H locs ∧ lv_has ls 5 [(0, .ref h0), (3, .int r), (4, .int (nI n - 1))]) (fun H locs ls hI => ?_) (fun n H locs ls hI ih => ?_) k _ _ _ ⟨x, _, hk4, hP, hD, hS, lv_sub hl [2, 1, 0] rfl⟩
  · skip
    obtain ⟨r, f, hn4, hP, hD, hS, hl⟩ := hI
    rw [show nI 0 - 1 = (-1 : Int32) from by decide] at hl
    refine lv_iload hx hb dX2_init_27 (lv_at hl 2 rfl) ?_
    refine lv_if_lt (tgt := 56) hx hb dX2_init_29 (by decide) (fun _ => ?_) (fun h9 => absurd (by decide) h9)
    exact W.vret hx hb hr (fun t ht hW => ⟨⟨fs_4, rfl, trivial, by show va_P (dC, dI) vwCl [(h0, .inr (2, fs_4))] t.heap; rw [ht]; exact hP.sub [0] rfl⟩, hS.F ht⟩) hS.2.2 dX2_init_56
  · skip
    obtain ⟨r, f, hn4, hP, hD, hS, hl⟩ := hI
    rw [nI_pred] at hl
    refine lv_iload hx hb dX2_init_27 (lv_at hl 2 rfl) ?_
    refine lv_if_lt (tgt := 56) hx hb dX2_init_29 (by decide) (fun c_7 => ?_) (fun c_7 => ?_)
    · skip
      exact absurd c_7 (nI_pos (by omega))
    · skip
      refine lv_aload_n hx hb dX2_init_32 rfl (lv_at hl 0 rfl) ?_
      refine va_get (D := (dC, dI)) (ci := 2) (v := .ref q_1) (C := RX2) (T := TX2) (N := 4) hx hb hts uB2 hown hK hP 0 rfl rfl 0 (by decide) (hts _ wm_81) (fun _ h9 => h9) hf0_h0 dX2_init_33 ?_
      refine lv_iload hx hb dX2_init_36 (lv_at hl 2 rfl) ?_
      refine lv_iload_n hx hb dX2_init_38 rfl (lv_at hl 1 rfl) ?_
      refine lv_sipush (v := 128) hx hb dX2_init_39 (by decide) ?_
      refine lv_irem hx hb dX2_init_42 (by decide) ?_
      refine lv_topi (fun x_8 ex_8 => ?_)
      refine va_iast hx hb hK hP hD hS 1 0 rfl rfl (vp_in_nI (by omega) (by decide)) dX2_init_43 (fun H locs hP hD hS => ?_)
      obtain ⟨f_9, ef_9⟩ : ∃ z9, z9 = upd f (Int32.toNatClampNeg (nI n)) x_8 := ⟨_, rfl⟩
      have hP : va_P (dC, dI) vwCl [(h0, .inr (2, fs_4)), (q_1, .inl (cA_2, 4, .inl f_9))] H := by rw [ef_9]; exact hP
      have hD : va_D A [(h0, .inr (2, fs_4)), (q_1, .inl (cA_2, 4, .inl f_9))] := by rw [ef_9]; exact hD
      refine lv_iload_n hx hb dX2_init_44 rfl (lv_at hl 1 rfl) ?_
      refine lv_sipush (v := 128) hx hb dX2_init_45 (by decide) ?_
      refine lv_idiv hx hb dX2_init_48 (by decide) ?_
      refine lv_topi (fun x_10 ex_10 => ?_)
      refine lv_istore_n (lv' := [(3, .int x_10), (0, .ref h0), (4, .int (nI n))]) hx hb dX2_init_49 rfl hl (by decide) rfl (fun ls hl => ?_)
      obtain ⟨x_11, ex_11⟩ : ∃ y : Int32, y = (nI n) + (-1) := ⟨_, rfl⟩
      refine lv_iinc (v := x_11) (lv' := [(4, .int x_11), (3, .int x_10), (0, .ref h0)]) hx hb dX2_init_50 hl (k := 2) rfl (by rw [ex_11]; rfl) (by decide) rfl (fun ls hl => ?_)
      refine lv_goto (tgt := 27) hx hb dX2_init_53 (by decide) ?_
      obtain rfl : x_11 = nI n - 1 := ex_11.trans (by rw [Int32.sub_eq_add_neg])
      exact ih _ _ _ ⟨_, _, by omega, hP, hD, hS, lv_sub hl [2, 1, 0] rfl⟩
set_option maxHeartbeats 4000000 in
set_option maxRecDepth 100000 in
theorem f_page (l : Launch) (dC : Nat → ClassId) (dI : Nat → Nat → Nat) (sz : Nat) (h0 : Nat) (fs : List Value) (qp : Nat) (cP : ClassId) (x : Int32) (hf0 : fs[0]? = some (.ref qp)) (hf7 : fs[7]? = some (.int 0)) (hlen_h0 : fs.length = 17)  : mFi l yX5_page cX5_page 3 3 2 8 (dC, dI) [(h0, .inr (5, fs)), (qp, .inl (cP, 8, .inr (.inr (.inr (.inr (fun _ => none))))))] sz [(cP, .object RX2)] (fun _ => True) [.ref h0, .int x] (fun r => r = if pgOk x then 0 else (-1)) := by
  refine Met.ofW (cc := cX5_page) (maxL := 3) (ret := some .int) (by decide) rfl ?_
  intro p e s m args below meth c s₁ B hml hv
  obtain ⟨rfl, hsz, hP, hK, hD0, hex⟩ := hv
  subst hsz
  have hx := B.exec
  have hb := B.bytes
  have hr := B.returns
  have hlocks := B.notSynchronized
  have hts0 := atoms_spec (ws := Cond.code yX5_page cX5_page 3 (some .int) :: lw_B) B.pre
  have hts : ∀ w ∈ lw_B, w.before _ s = true := fun w h => hts0 w (List.mem_cons_of_mem _ h)
  have hown : s.vm.findClass RX5 = some m.cls := findClass_of_methodNamed B.named
  have hD := hD0.self (sz := s.heap.size)
  generalize hAe : va_A [(h0, .inr (5, fs)), (qp, .inl (cP, 8, .inr (.inr (.inr (.inr (fun _ => none))))))] s.heap.size = A at hD ⊢
  have hA : ∀ q : Nat, s.heap.size ≤ q → A q := fun q h => by rw [← hAe]; exact Or.inr h
  have hS : va_S A s.heap s.heap [] := va_S.rf
  have hl := lv_entry ([.ref h0, .int x]) (n := 3) (Nat.le_of_ble_eq_true rfl)
  rw [lg_entry_eq]
  generalize (lg_sl ([.ref h0, .int x]) ++ List.replicate (3 - (lg_sl ([.ref h0, .int x])).length) Slot.unset).toArray = ls at hl ⊢
  have hl : lv_has ls 3 [(0, .ref h0), (1, .int x)] := hl
  refine lv_iload_n hx hb dX5_page_0 rfl (lv_at hl 1 rfl) ?_
  refine k_S ⟨hx, hb, hml, hown, hts⟩ (c_placesIn l x) 1 wm_87 wm_88 wm_2 wm_89 (by decide +kernel) ⟨Nat.le_of_ble_eq_true rfl, Nat.le_of_ble_eq_true rfl⟩ rfl hl.1 rfl (Nat.le_of_ble_eq_true rfl) dX5_page_1 ⟨Nat.le_of_ble_eq_true rfl, Nat.le_of_ble_eq_true rfl⟩ hS hP (fun r_1 H locs hpr_1 hP hS => ?_)
  refine lv_istore_n (lv' := [(2, .int r_1), (0, .ref h0), (1, .int x)]) hx hb dX5_page_4 rfl hl (by decide) rfl (fun ls hl => ?_)
  rcases k_pl hpr_1 with ⟨rfl, hno⟩ | ⟨hok, k, hk1, hk4, rfl⟩
  · skip
    refine lv_iload_n hx hb dX5_page_5 rfl (lv_at hl 0 rfl) ?_
    refine lv_if_ne (tgt := 11) hx hb dX5_page_6 (by decide) (fun h9 => absurd (by decide) h9) (fun _ => ?_)
    refine lv_iconst (v := (-1)) hx hb dX5_page_9 (by decide) ?_
    refine W.widen (k := 2) (n := 8) (Nat.le_of_ble_eq_true rfl) (Nat.le_of_ble_eq_true rfl) ?_
    exact W.iret (v := (-1)) hx hb hr (fun t ht hW => ⟨⟨(-1), (), rfl, (if_neg hno).symm, trivial⟩, hS.F ht⟩) hS.2.2 dX5_page_10
  · skip
    refine lv_iload_n hx hb dX5_page_5 rfl (lv_at hl 0 rfl) ?_
    refine lv_if_ne (tgt := 11) hx hb dX5_page_6 (by decide) (fun c_2 => ?_) (fun c_2 => ?_)
    · skip
      refine lv_aload_n hx hb dX5_page_11 rfl (lv_at hl 1 rfl) ?_
      refine va_get (D := (dC, dI)) (ci := 5) (v := .int 0) (C := RX5) (T := TX5) (N := 17) hx hb hts uB5 hown hK hP 0 rfl rfl 7 (by decide) (hts _ wm_8) (fun _ h9 => h9) hf7 dX5_page_12 ?_
      refine lv_bipush (v := 8) hx hb dX5_page_15 (by decide) ?_
      refine lv_icmp_lt (tgt := 23) hx hb dX5_page_17 (by decide) (fun _ => ?_) (fun h9 => absurd (by decide) h9)
      refine lv_aload_n hx hb dX5_page_23 rfl (lv_at hl 1 rfl) ?_
      refine va_get (D := (dC, dI)) (ci := 5) (v := .ref qp) (C := RX5) (T := TX5) (N := 17) hx hb hts uB5 hown hK hP 0 rfl rfl 0 (by decide) (hts _ wm_90) (fun _ h9 => h9) hf0 dX5_page_24 ?_
      refine lv_aload_n hx hb dX5_page_27 rfl (lv_at hl 1 rfl) ?_
      refine va_get (D := (dC, dI)) (ci := 5) (v := .int 0) (C := RX5) (T := TX5) (N := 17) hx hb hts uB5 hown hK hP 0 rfl rfl 7 (by decide) (hts _ wm_8) (fun _ h9 => h9) hf7 dX5_page_28 ?_
      refine va_new (ci := 2) (fs := [.null, .int 0, .int 0, .long 0]) (C := RX2) (T := TX2) (N := 4) hx hb hts uB2 tyX2 tyX2_ok hown (hts _ wm_91) (hts _ wm_92) (hts _ wm_93) hK hP hD hS hA rfl (by decide +kernel) (Nat.le_of_ble_eq_true rfl) (Nat.le_of_ble_eq_true rfl) dX5_page_31 (fun q_3 H hP hD hS => ?_)
      have hP : va_P (dC, dI) vwCl [(h0, .inr (5, fs)), (qp, .inl (cP, 8, .inr (.inr (.inr (.inr (fun _ => none)))))), (q_3, .inr (2, [.null, .int 0, .int 0, .long 0]))] H := hP
      have hD : va_D A [(h0, .inr (5, fs)), (qp, .inl (cP, 8, .inr (.inr (.inr (.inr (fun _ => none)))))), (q_3, .inr (2, [.null, .int 0, .int 0, .long 0]))] := hD
      refine lv_dup hx hb dX5_page_34 rfl ?_
      refine lv_iload_n hx hb dX5_page_35 rfl (lv_at hl 2 rfl) ?_
      refine lv_iload_n hx hb dX5_page_36 rfl (lv_at hl 0 rfl) ?_
      refine k_OI (ci := 2) (q0 := 2) (tc := []) (ex := (fun _ => True)) ⟨hx, hb, hml, hown, hts⟩ (o_Page l dC dI H.size q_3 [.null, .int 0, .int 0, .long 0] x k rfl hk1 hk4) 2 wm_94 wm_95 wm_93 wm_96 rfl (by decide +kernel) ⟨Nat.le_of_ble_eq_true rfl, Nat.le_of_ble_eq_true rfl⟩ (hK.sub (tys' := []) [] rfl) exT rfl rfl hl.1 rfl (Nat.le_of_ble_eq_true rfl) dX5_page_37 ⟨Nat.le_of_ble_eq_true rfl, Nat.le_of_ble_eq_true rfl⟩ hP hD hS hA (fun fs_4 H locs efs_4 hP hD hS => ?_)
      have hP : va_P (dC, dI) vwCl [(h0, .inr (5, fs)), (qp, .inl (cP, 8, .inr (.inr (.inr (.inr (fun _ => none)))))), (q_3, .inr (2, fs_4))] H := hP
      have hD : va_D A [(h0, .inr (5, fs)), (qp, .inl (cP, 8, .inr (.inr (.inr (.inr (fun _ => none)))))), (q_3, .inr (2, fs_4))] := hD
      refine va_astq hx hb hK hP hD hS 1 0 2 2 rfl rfl rfl rfl (vp_in_iff.mpr (by decide)) dX5_page_40 (fun H locs hP hD hS => ?_)
      obtain ⟨f_5, ef_5⟩ : ∃ z9, z9 = va_up (fun _ => none) (Int32.toNatClampNeg 0) (some q_3) := ⟨_, rfl⟩
      have hP : va_P (dC, dI) vwCl [(h0, .inr (5, fs)), (qp, .inl (cP, 8, .inr (.inr (.inr (.inr f_5))))), (q_3, .inr (2, fs_4))] H := by rw [ef_5]; exact hP
      have hD : va_D A [(h0, .inr (5, fs)), (qp, .inl (cP, 8, .inr (.inr (.inr (.inr f_5))))), (q_3, .inr (2, fs_4))] := by rw [ef_5]; exact hD
      refine lv_aload_n hx hb dX5_page_41 rfl (lv_at hl 1 rfl) ?_
      refine lv_dup hx hb dX5_page_42 rfl ?_
      refine va_get (D := (dC, dI)) (ci := 5) (v := .int 0) (C := RX5) (T := TX5) (N := 17) hx hb hts uB5 hown hK hP 0 rfl rfl 7 (by decide) (hts _ wm_8) (fun _ h9 => h9) hf7 dX5_page_43 ?_
      refine lv_iconst (v := 1) hx hb dX5_page_46 (by decide) ?_
      refine lv_iadd hx hb dX5_page_47 ?_
      refine lv_topi (fun x_6 ex_6 => ?_)
      obtain rfl : x_6 = 1 := ex_6.trans (by decide)
      refine va_put (D := (dC, dI)) (ci := 5) (v := .int 1) (ty := .int) (C := RX5) (T := TX5) (N := 17) hx hb hts uB5 tyX5 tyX5_ok nmX5 hown hK hP hD hS 0 rfl rfl 7 (by decide) (hts _ wm_8) (fun _ h9 => h9) rfl (by decide +kernel) rfl rfl (by rw [hlen_h0]; decide) dX5_page_48 (fun H locs hP hD hS => ?_)
      obtain ⟨fs_7, efs_7⟩ : ∃ z9, z9 = (fs).set 7 (.int 1) := ⟨_, rfl⟩
      have hP : va_P (dC, dI) vwCl [(h0, .inr (5, fs_7)), (qp, .inl (cP, 8, .inr (.inr (.inr (.inr f_5))))), (q_3, .inr (2, fs_4))] H := by rw [efs_7]; exact hP
      have hD : va_D A [(h0, .inr (5, fs_7)), (qp, .inl (cP, 8, .inr (.inr (.inr (.inr f_5))))), (q_3, .inr (2, fs_4))] := by rw [efs_7]; exact hD
      have hf0 : fs_7[0]? = some (.ref qp) := by rw [efs_7, List.getElem?_set_ne (by decide)]; exact hf0
      have hf7 : fs_7[7]? = some (.int 1) := by rw [efs_7]; exact List.getElem?_set_self (by rw [hlen_h0]; decide)
      have hlen_h0 : fs_7.length = 17 := by rw [efs_7, List.length_set]; exact hlen_h0
      refine lv_aload_n hx hb dX5_page_51 rfl (lv_at hl 1 rfl) ?_
      refine va_get (D := (dC, dI)) (ci := 5) (v := .int 1) (C := RX5) (T := TX5) (N := 17) hx hb hts uB5 hown hK hP 0 rfl rfl 7 (by decide) (hts _ wm_8) (fun _ h9 => h9) hf7 dX5_page_52 ?_
      refine lv_iconst (v := 1) hx hb dX5_page_55 (by decide) ?_
      refine lv_isub hx hb dX5_page_56 ?_
      refine lv_topi (fun x_8 ex_8 => ?_)
      obtain rfl : x_8 = 0 := ex_8.trans (by decide)
      refine W.widen (k := 2) (n := 8) (Nat.le_of_ble_eq_true rfl) (Nat.le_of_ble_eq_true rfl) ?_
      exact W.iret (v := 0) hx hb hr (fun t ht hW => ⟨⟨0, (), rfl, (if_pos hok).symm, trivial⟩, hS.F ht⟩) hS.2.2 dX5_page_57
    · skip
      exact absurd c_2 (nI_ne0 (by omega) (by omega))
