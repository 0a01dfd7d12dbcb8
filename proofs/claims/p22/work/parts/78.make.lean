theorem cI.l20 {K : Nat → ClassId} {np nc ns lk lc tp cp gp : Nat} {G J mk st : Nat → Int32} {ap : Nat → Int64} {kd sn : Nat → Nat} {L : List Nat} {f : Nat → va_E} {a : Nat} (h : cI K np nc ns lk lc tp cp gp G J mk st ap kd sn L f) (hm : a ∈ L) (hk : kd a = 20) : sn a < lc := (h.at hm hk).2.2.2.2.2.2.2.2.2.2.2.2.2.2.2 rfl
section KLC
variable {p : Program} {l : Launch} {e : Env} {R : Room} {s : State} {m : MethodId} {args : Array Value} {below : List Frame} {meth : Method} {c : Code} {Q : State → Prop} {pc pcx : Nat} {cx sx : Nat}
/-- a loop whose rounds may make cells: cl, sl cells and slots while n are left -/
theorem k_lxc (cl sl : Nat → Nat) (I : Nat → Heap → List Loc → Array Slot → Prop) (E : Heap → List Loc → Array Slot → Prop)
    (exit : ∀ (H : Heap) (locs : List Loc) (ls : Array Slot), E H locs ls → W p l e R s m args below meth c H locs cx sx Q (F0 m pcx ls []))
    (step : ∀ (n : Nat) (H : Heap) (locs : List Loc) (ls : Array Slot), I n H locs ls → (∀ (H1 : Heap) (locs1 : List Loc) (ls1 : Array Slot), E H1 locs1 ls1 → W p l e R s m args below meth c H1 locs1 cx sx Q (F0 m pcx ls1 [])) → (∀ (k : Nat), k < n → ∀ (H1 : Heap) (locs1 : List Loc) (ls1 : Array Slot), I k H1 locs1 ls1 → W p l e R s m args below meth c H1 locs1 (cl k) (sl k) Q (F0 m pc ls1 [])) → W p l e R s m args below meth c H locs (cl n) (sl n) Q (F0 m pc ls [])) :
    ∀ (n : Nat) (H : Heap) (locs : List Loc) (ls : Array Slot), I n H locs ls → W p l e R s m args below meth c H locs (cl n) (sl n) Q (F0 m pc ls []) := by
  intro n
  induction n using Nat.strongRecOn with
  | ind n ih => exact fun H locs ls h => step n H locs ls h exit ih
end KLC
set_option maxHeartbeats 4000000 in
set_option maxRecDepth 100000 in
theorem c_placesIn (l : Launch) (x : Int32) : mS l yX5_placesIn cX5_placesIn 3 .int 1 [.int x] (fun r => (x ≤ 0 → r = 0) ∧ (∀ X : Nat, X < 2 ^ 31 → x = nI X → r = nI (plc 4 0 X))) := by
  refine Met.ofW (cc := cX5_placesIn) (maxL := 3) (ret := some .int) (by decide) rfl ?_
  intro p e s m args below meth c s₁ B hml hv
  obtain ⟨rfl, -⟩ := hv
  have hx := B.exec
  have hb := B.bytes
  have hr := B.returns
  have hlocks := B.notSynchronized
  have hts0 := atoms_spec (ws := Cond.code yX5_placesIn cX5_placesIn 3 (some .int) :: lw_B) B.pre
  have hts : ∀ w ∈ lw_B, w.before _ s = true := fun w h => hts0 w (List.mem_cons_of_mem _ h)
  have hown : s.vm.findClass RX5 = some m.cls := findClass_of_methodNamed B.named
  have hS : va_S (fun _ => False) s.heap s.heap [] := va_S.rf
  have hP : va_P (fun _ => 0, fun _ _ => 0) vwCl [] s.heap := fun k q h => by simp at h
  have hl := lv_entry ([.int x]) (n := 3) (Nat.le_of_ble_eq_true rfl)
  rw [lg_entry_eq]
  generalize (lg_sl ([.int x]) ++ List.replicate (3 - (lg_sl ([.int x])).length) Slot.unset).toArray = ls at hl ⊢
  have hl : lv_has ls 3 [(0, .int x)] := hl
  refine lv_iconst (v := 0) hx hb dX5_placesIn_0 (by decide) ?_
  refine lv_istore_n (lv' := [(1, .int 0), (0, .int x)]) hx hb dX5_placesIn_1 rfl hl (by decide) rfl (fun ls hl => ?_)
  refine lv_iload_n hx hb dX5_placesIn_2 rfl (lv_at hl 1 rfl) ?_
  refine lv_istore_n (lv' := [(2, .int x), (1, .int 0), (0, .int x)]) hx hb dX5_placesIn_3 rfl hl (by decide) rfl (fun ls hl => ?_)
  by_cases hneg : x ≤ 0
  · skip
    refine lv_iload_n hx hb dX5_placesIn_4 rfl (lv_at hl 0 rfl) ?_
    refine lv_if_le (tgt := 41) hx hb dX5_placesIn_5 (by decide) (fun c_1 => ?_) (fun c_1 => ?_)
    · skip
      refine lv_iload_n hx hb dX5_placesIn_41 rfl (lv_at hl 0 rfl) ?_
      refine lv_if_ne (tgt := 49) hx hb dX5_placesIn_42 (by decide) (fun c_2 => ?_) (fun c_2 => ?_)
      · skip
        refine lv_iconst (v := 0) hx hb dX5_placesIn_49 (by decide) ?_
        exact W.iret (v := 0) hx hb hr (fun t ht hW => ⟨⟨0, (), rfl, ⟨fun _ => rfl, fun X hX e9 => by subst e9; rw [show X = 0 from (by rcases Nat.eq_zero_or_pos X with q | q; exact q; exact absurd hneg (nI_nle q hX))]; rfl⟩, trivial⟩, hS.F ht⟩) hS.2.2 dX5_placesIn_50
      · skip
        refine lv_iload_n hx hb dX5_placesIn_45 rfl (lv_at hl 1 rfl) ?_
        refine lv_goto (tgt := 50) hx hb dX5_placesIn_46 (by decide) ?_
        exact W.iret (v := 0) hx hb hr (fun t ht hW => ⟨⟨0, (), rfl, ⟨fun _ => rfl, fun X hX e9 => by subst e9; rw [show X = 0 from (by rcases Nat.eq_zero_or_pos X with q | q; exact q; exact absurd hneg (nI_nle q hX))]; rfl⟩, trivial⟩, hS.F ht⟩) hS.2.2 dX5_placesIn_50
    · skip
      exact absurd hneg c_1
  · skip
    obtain ⟨X, hX, hX0, rfl⟩ := k_pos hneg
    refine k_lx (pcx := 41) (fun r H locs ls => ∃ k : Nat, k ≤ 4 ∧ r < 2 ^ 31 ∧ plc (4 - k) k r = plc 4 0 X ∧ va_P (fun _ => 0, fun _ _ => 0) vwCl [] H ∧ va_S (fun _ => False) s.heap H locs ∧ lv_has ls 3 [(0, .int (nI X)), (1, .int (nI k)), (2, .int (nI r))]) (fun H locs ls => ∃ r k : Nat, k ≤ 4 ∧ r < 2 ^ 31 ∧ (if r = 0 then k else 0) = plc 4 0 X ∧ va_P (fun _ => 0, fun _ _ => 0) vwCl [] H ∧ va_S (fun _ => False) s.heap H locs ∧ lv_has ls 3 [(0, .int (nI X)), (1, .int (nI k)), (2, .int (nI r))]) (fun H locs ls hI => ?_) (fun r H locs ls hI hE ih => ?_) X _ _ _ ⟨0, by omega, hX, rfl, hP, hS, lv_sub hl [2, 1, 0] rfl⟩
    · skip
      obtain ⟨r, k, hk, hr31, hv9, hP, hS, hl⟩ := hI
      refine lv_iload_n hx hb dX5_placesIn_41 rfl (lv_at hl 2 rfl) ?_
      refine lv_if_ne (tgt := 49) hx hb dX5_placesIn_42 (by decide) (fun c_3 => ?_) (fun c_3 => ?_)
      · skip
        refine lv_iconst (v := 0) hx hb dX5_placesIn_49 (by decide) ?_
        exact W.iret (v := 0) hx hb hr (fun t ht hW => ⟨⟨0, (), rfl, ⟨fun q => absurd q hneg, fun Y hY e9 => by rw [← (nI_eq hX hY).mp e9]; exact (show _ = nI (plc 4 0 X) from by rw [← hv9, if_neg (fun q => c_3 (by rw [q]; rfl))]; rfl)⟩, trivial⟩, hS.F ht⟩) hS.2.2 dX5_placesIn_50
      · skip
        refine lv_iload_n hx hb dX5_placesIn_45 rfl (lv_at hl 1 rfl) ?_
        refine lv_goto (tgt := 50) hx hb dX5_placesIn_46 (by decide) ?_
        exact W.iret (v := nI k) hx hb hr (fun t ht hW => ⟨⟨nI k, (), rfl, ⟨fun q => absurd q hneg, fun Y hY e9 => by rw [← (nI_eq hX hY).mp e9]; exact (show _ = nI (plc 4 0 X) from by rw [← hv9, if_pos ((nI_eq hr31 (by decide)).mp c_3)])⟩, trivial⟩, hS.F ht⟩) hS.2.2 dX5_placesIn_50
    · skip
      obtain ⟨k, hk, hr31, hv9, hP, hS, hl⟩ := hI
      refine lv_iload_n hx hb dX5_placesIn_4 rfl (lv_at hl 2 rfl) ?_
      refine lv_if_le (tgt := 41) hx hb dX5_placesIn_5 (by decide) (fun c_4 => ?_) (fun c_4 => ?_)
      · skip
        exact hE _ _ _ ⟨r, k, hk, hr31, by rw [← hv9]; have q : r = 0 := by { rcases Nat.eq_zero_or_pos r with q | q; exact q; exact absurd c_4 (nI_nle q hr31) }; subst q; rw [if_pos rfl]; cases (4 - k) <;> simp [plc], hP, hS, lv_sub hl [0, 1, 2] rfl⟩
      · skip
        have hr0 : ¬ r = 0 := fun q => c_4 (by rw [q]; decide)
        refine lv_iload_n hx hb dX5_placesIn_8 rfl (lv_at hl 1 rfl) ?_
        refine lv_iconst (v := 4) hx hb dX5_placesIn_9 (by decide) ?_
        refine lv_icmp_ge (tgt := 41) hx hb dX5_placesIn_10 (by decide) (fun c_5 => ?_) (fun c_5 => ?_)
        · skip
          have hk4 : k = 4 := by have := (nI_leI (a := 4) (b := k) (by decide) (by omega)).mp c_5; omega
          exact hE _ _ _ ⟨r, k, hk, hr31, by rw [← hv9, hk4, if_neg hr0]; show 0 = plc 0 4 r; rw [plc, if_neg hr0], hP, hS, lv_sub hl [0, 1, 2] rfl⟩
        · skip
          have hk4 : k < 4 := by rcases Nat.lt_or_ge k 4 with q | q; exact q; exact absurd (nI_le q (by omega)) c_5
          refine lv_iload_n hx hb dX5_placesIn_13 rfl (lv_at hl 2 rfl) ?_
          refine lv_sipush (v := 128) hx hb dX5_placesIn_14 (by decide) ?_
          refine lv_irem hx hb dX5_placesIn_17 (by decide) ?_
          refine lv_topi (fun x_6 ex_6 => ?_)
          obtain rfl : x_6 = nI (r % 128) := ex_6.trans (k_128r hr31)
          refine lv_iconst (v := 1) hx hb dX5_placesIn_18 (by decide) ?_
          refine lv_bipush (v := 100) hx hb dX5_placesIn_19 (by decide) ?_
          refine k_S ⟨hx, hb, hml, hown, hts⟩ (c_isWithin l (nI (r % 128)) 1 100) 3 wm_65 wm_66 wm_67 wm_68 (by decide +kernel) ⟨Nat.le_of_ble_eq_true rfl, Nat.le_of_ble_eq_true rfl⟩ rfl hl.1 rfl (Nat.le_of_ble_eq_true rfl) dX5_placesIn_21 ⟨Nat.le_of_ble_eq_true rfl, Nat.le_of_ble_eq_true rfl⟩ hS hP (fun r_7 H locs hpr_7 hP hS => ?_)
          refine lv_if_ne (tgt := 29) hx hb dX5_placesIn_24 (by decide) (fun c_8 => ?_) (fun c_8 => ?_)
          · skip
            have g_8 := k_ft hpr_7 c_8
            refine lv_iload_n hx hb dX5_placesIn_29 rfl (lv_at hl 2 rfl) ?_
            refine lv_sipush (v := 128) hx hb dX5_placesIn_30 (by decide) ?_
            refine lv_idiv hx hb dX5_placesIn_33 (by decide) ?_
            refine lv_topi (fun x_9 ex_9 => ?_)
            obtain rfl : x_9 = nI (r / 128) := ex_9.trans (k_128d hr31)
            refine lv_istore_n (lv' := [(2, .int (nI (r / 128))), (0, .int (nI X)), (1, .int (nI k))]) hx hb dX5_placesIn_34 rfl hl (by decide) rfl (fun ls hl => ?_)
            obtain ⟨x_10, ex_10⟩ : ∃ y : Int32, y = (nI k) + 1 := ⟨_, rfl⟩
            refine lv_iinc (v := x_10) (lv' := [(1, .int x_10), (2, .int (nI (r / 128))), (0, .int (nI X))]) hx hb dX5_placesIn_35 hl (k := 2) rfl (by rw [ex_10]; rfl) (by decide) rfl (fun ls hl => ?_)
            refine lv_goto (tgt := 4) hx hb dX5_placesIn_38 (by decide) ?_
            obtain rfl : x_10 = nI (k + 1) := ex_10.trans (nI_1 k)
            have hgY : 1 ≤ r % 128 ∧ r % 128 ≤ 100 := (k_rg (by omega) (by decide) (by decide)).mp g_8
            exact ih (r / 128) (by omega) _ _ _ ⟨k + 1, by omega, by omega, by rw [← hv9, show 4 - k = (4 - (k + 1)) + 1 by omega, plc, if_neg hr0, if_pos hgY], hP, hS, lv_sub hl [2, 0, 1] rfl⟩
          · skip
            have g_8 := k_ff hpr_7 c_8
            refine lv_iconst (v := 0) hx hb dX5_placesIn_27 (by decide) ?_
            have hgN : ¬ (1 ≤ r % 128 ∧ r % 128 ≤ 100) := fun q => g_8 ((k_rg (by omega) (by decide) (by decide)).mpr q)
            have hv0 : plc 4 0 X = 0 := by rw [← hv9, show 4 - k = (3 - k) + 1 by omega, plc, if_neg hr0, if_neg hgN]
            exact W.iret (v := 0) hx hb hr (fun t ht hW => ⟨⟨0, (), rfl, ⟨fun q => absurd q hneg, fun Y hY e9 => by rw [← (nI_eq hX hY).mp e9, hv0]; rfl⟩, trivial⟩, hS.F ht⟩) hS.2.2 dX5_placesIn_28
set_option maxHeartbeats 4000000 in
set_option maxRecDepth 100000 in
theorem k_X5_page (l : Launch) (dC : Nat → ClassId) (dI : Nat → Nat → Nat) (K : Nat → ClassId) (L : List Nat) (f : Nat → va_E) {np nc ns lk lc tp cp gp : Nat} {G J mk st : Nat → Int32} {ap : Nat → Int64} {kd sn : Nat → Nat} (hI : cI K np nc ns lk lc tp cp gp G J mk st ap kd sn L f) (h0 : Nat) (hm_h0 : h0 ∈ L) (hk_h0 : kd h0 = 1) (x : Int32) (hg7 : G 7 = nI np) (hnp : np ≤ 8) (hLn : gN L) (sz : Nat) : gAi l yX5_page cX5_page 3 3 2 8 (dC, dI) K L f sz (fun _ => True) [.ref h0, .int x] (fun r L' f' => ∃ (G2 : Nat → Int32) (np2 : Nat) (kd2 : Nat → Nat) (sn2 : Nat → Nat), cI K np2 nc ns lk lc tp cp gp G2 J mk st ap kd2 sn2 L' f' ∧ cE L L' kd kd2 sn sn2 ∧ gN L' ∧ (∀ a ∈ L', a ∈ L ∨ sz ≤ a) ∧ (gS [7] G G2) ∧ (G2 7 = nI np2) ∧ ((¬ pgOk x ∧ r = (-1) ∧ np2 = np) ∨ (pgOk x ∧ np = 8 ∧ r = (-3) ∧ np2 = np) ∨ (pgOk x ∧ np < 8 ∧ r = nI np ∧ np2 = np + 1))) := by
  refine Met.ofW (cc := cX5_page) (maxL := 3) (ret := (some .int)) (by decide) rfl ?_
  intro p e s m args below meth c s₁ B hml hv
  obtain ⟨rfl, hsz, hP, hK, hex⟩ := hv
  subst hsz
  have hD : va_D (fun q : Nat => q ∈ L ∨ s.heap.size ≤ q) (va_pl L f) := g_D hLn (fun a h => Or.inl h) f
  generalize hAe : (fun q : Nat => q ∈ L ∨ s.heap.size ≤ q) = A at hD ⊢
  have hA : ∀ q : Nat, s.heap.size ≤ q → A q := fun q h => by rw [← hAe]; exact Or.inr h
  have hLA : ∀ a ∈ L, A a := fun a h => by rw [← hAe]; exact Or.inl h
  have hCE : cE L L kd kd sn sn := cE.rf
  have hx := B.exec
  have hb := B.bytes
  have hr := B.returns
  have hlocks := B.notSynchronized
  have hts0 := atoms_spec (ws := Cond.code yX5_page cX5_page 3 (some .int) :: lw_B) B.pre
  have hts : ∀ w ∈ lw_B, w.before _ s = true := fun w h => hts0 w (List.mem_cons_of_mem _ h)
  have hown : s.vm.findClass RX5 = some m.cls := findClass_of_methodNamed B.named
  have hS : va_S A s.heap s.heap [] := va_S.rf
  have hGS : gS [7] G G := gS.rf
  have hl := lv_entry ([.ref h0, .int x]) (n := 3) (Nat.le_of_ble_eq_true rfl)
  rw [lg_entry_eq]
  generalize (lg_sl ([.ref h0, .int x]) ++ List.replicate (3 - (lg_sl ([.ref h0, .int x])).length) Slot.unset).toArray = ls at hl ⊢
  have hl : lv_has ls 3 [(0, .ref h0), (1, .int x)] := hl
  refine lv_iload_n hx hb dX5_page_0 rfl (lv_at hl 1 rfl) ?_
  refine k_S ⟨hx, hb, hml, hown, hts⟩ (c_placesIn l x) 1 wm_481 wm_482 wm_67 wm_483 (by decide +kernel) ⟨Nat.le_of_ble_eq_true rfl, Nat.le_of_ble_eq_true rfl⟩ rfl hl.1 rfl (Nat.le_of_ble_eq_true rfl) dX5_page_1 ⟨Nat.le_of_ble_eq_true rfl, Nat.le_of_ble_eq_true rfl⟩ hS hP (fun r_1 H locs hpr_1 hP hS => ?_)
  refine lv_istore_n (lv' := [(2, .int r_1), (0, .ref h0), (1, .int x)]) hx hb dX5_page_4 rfl hl (by decide) rfl (fun ls hl => ?_)
  rcases k_pl hpr_1 with ⟨rfl, hno⟩ | ⟨hok, k, hk1, hk4, rfl⟩
  · skip
    refine lv_iload_n hx hb dX5_page_5 rfl (lv_at hl 0 rfl) ?_
    refine lv_if_ne (tgt := 11) hx hb dX5_page_6 (by decide) (fun h9 => absurd (by decide) h9) (fun _ => ?_)
    refine lv_iconst (v := (-1)) hx hb dX5_page_9 (by decide) ?_
    refine W.widen (k := 2) (n := 8) (Nat.le_of_ble_eq_true rfl) (Nat.le_of_ble_eq_true rfl) ?_
    exact W.iret (v := (-1)) hx hb hr (fun t ht hW => ⟨⟨(-1), (L, f), rfl, ⟨G, np, kd, sn, hI, hCE, hLn, (fun a h => by have h9 := hLA a h; rw [← hAe] at h9; exact h9), hGS, hg7, (Or.inl ⟨hno, rfl, rfl⟩)⟩, by show va_P (dC, dI) vwCl (va_pl L f) t.heap; rw [ht]; exact hP⟩, hS.F ht⟩) hS.2.2 dX5_page_10
  · skip
    refine lv_iload_n hx hb dX5_page_5 rfl (lv_at hl 0 rfl) ?_
    refine lv_if_ne (tgt := 11) hx hb dX5_page_6 (by decide) (fun c_2 => ?_) (fun c_2 => ?_)
    · skip
      have nc_2 : ¬ (k = 0) := fun q => c_2 (show nI k = nI 0 from (bn_eq (a := k) (b := 0) (by omega) (by omega)).mpr q)
      refine lv_aload_n hx hb dX5_page_11 rfl (lv_at hl 1 rfl) ?_
      obtain ⟨fs3, hF3, hv3⟩ := hI.gG hm_h0 hk_h0 7 (ci := 5) ⟨rfl, rfl, by decide, rfl⟩
      rw [hg7] at hv3
      refine g_get (ci := 5) (v := .int (nI np)) (C := RX5) (T := TX5) (N := 17) hx hb hts uB5 hown hK hP hm_h0 hF3 rfl 7 (by decide) wm_72 hv3 dX5_page_12 ?_
      refine lv_bipush (v := 8) hx hb dX5_page_15 (by decide) ?_
      refine lv_icmp_lt (tgt := 23) hx hb dX5_page_17 (by decide) (fun c_4 => ?_) (fun c_4 => ?_)
      · skip
        have nc_4 : np < 8 := (bn_lt (a := np) (b := 8) (by omega) (by omega)).mp (show nI np < nI 8 from c_4)
        refine lv_aload_n hx hb dX5_page_23 rfl (lv_at hl 1 rfl) ?_
        obtain ⟨fs5, b_6, hF5, hv5, hm_b_6, hk_b_6⟩ := hI.gR hm_h0 hk_h0 0 (ci := 5) (t := 2) ⟨rfl, rfl, by decide, rfl⟩
        refine g_get (ci := 5) (v := .ref b_6) (C := RX5) (T := TX5) (N := 17) hx hb hts uB5 hown hK hP hm_h0 hF5 rfl 0 (by decide) wm_292 hv5 dX5_page_24 ?_
        refine lv_aload_n hx hb dX5_page_27 rfl (lv_at hl 1 rfl) ?_
        obtain ⟨fs7, hF7, hv7⟩ := hI.gG hm_h0 hk_h0 7 (ci := 5) ⟨rfl, rfl, by decide, rfl⟩
        rw [hg7] at hv7
        refine g_get (ci := 5) (v := .int (nI np)) (C := RX5) (T := TX5) (N := 17) hx hb hts uB5 hown hK hP hm_h0 hF7 rfl 7 (by decide) wm_72 hv7 dX5_page_28 ?_
        refine g_new (ci := 2) (fs := [.null, .int 0, .int 0, .long 0]) (C := RX2) (T := TX2) (N := 4) hx hb hts uB2 tyX2 tyX2_ok hown (hts _ wm_484) (hts _ wm_485) (hts _ wm_486) hK hP hLn hLA hS hA rfl (by decide +kernel) (Nat.le_of_ble_eq_true rfl) (Nat.le_of_ble_eq_true rfl) dX5_page_31 (fun q_8 H hq_q_8 hLn hLA hP hS => ?_)
        obtain ⟨L_9, eL_9⟩ : ∃ z9, z9 = L ++ [q_8] := ⟨_, rfl⟩
        obtain ⟨kd_10, ekd_10⟩ : ∃ z9, z9 = va_up kd q_8 0 := ⟨_, rfl⟩
        obtain ⟨f_11, ef_11⟩ : ∃ z9, z9 = va_up f q_8 (.inr (2, [.null, .int 0, .int 0, .long 0])) := ⟨_, rfl⟩
        have hI := hI.n0 hq_q_8 (.inr (2, [.null, .int 0, .int 0, .long 0]))
        rw [← ekd_10, ← eL_9, ← ef_11] at hI
        rw [← eL_9, ← ef_11] at hP
        rw [← eL_9] at hLn hLA
        have hCE := hCE.push hq_q_8 0 (sn q_8)
        rw [← ekd_10, ← eL_9, up_id] at hCE
        have hk_h0 : kd_10 h0 = 1 := by rw [ekd_10, va_up_ne _ _ (fun z => hq_q_8 (by rw [← z]; exact hm_h0))]; exact hk_h0
        have hk_b_6 : kd_10 b_6 = 2 := by rw [ekd_10, va_up_ne _ _ (fun z => hq_q_8 (by rw [← z]; exact hm_b_6))]; exact hk_b_6
        have hm_h0 : h0 ∈ L_9 := by rw [eL_9]; exact List.mem_append_left _ hm_h0
        have hm_b_6 : b_6 ∈ L_9 := by rw [eL_9]; exact List.mem_append_left _ hm_b_6
        have hm_q_8 : q_8 ∈ L_9 := by rw [eL_9]; exact List.mem_append_right _ (List.mem_singleton.mpr rfl)
        have hk_q_8 : kd_10 q_8 = 0 := by rw [ekd_10, va_up_self]
        have hD : va_D A (va_pl L_9 f_11) := g_D hLn hLA f_11
        have hF_q_8 : f_11 q_8 = .inr (2, [.null, .int 0, .int 0, .long 0]) := by rw [ef_11, va_up_self]
        refine lv_dup hx hb dX5_page_34 rfl ?_
        refine lv_iload_n hx hb dX5_page_35 rfl (lv_at hl 2 rfl) ?_
        refine lv_iload_n hx hb dX5_page_36 rfl (lv_at hl 0 rfl) ?_
        have hSz := hS.1
        refine gc_AI ⟨hx, hb, hml, hown, hts⟩ (k_X2_init l dC dI K L_9 f_11 hI q_8 hm_q_8 hk_q_8 hF_q_8 x k hk1 hk4 hLn H.size) exT 2 wm_487 wm_488 wm_486 wm_489 rfl (by decide +kernel) ⟨Nat.le_of_ble_eq_true rfl, Nat.le_of_ble_eq_true rfl⟩ hK rfl hl.1 rfl (Nat.le_of_ble_eq_true rfl) dX5_page_37 ⟨Nat.le_of_ble_eq_true rfl, Nat.le_of_ble_eq_true rfl⟩ hLA hA hS hP (fun L912 f912 H locs hpw hP hS => ?_)
        obtain ⟨kd9, sn9, fs9, b9, hI, hCE9, hLn9, hLB9, hF9, hl9, h90, hm9, hk9, h91, h92, h93, hk0⟩ := hpw
        have hx_h0 := (hCE9 h0 hm_h0).2 (by rw [hk_h0]; decide)
        have hk_h0 : kd9 h0 = 1 := hx_h0.1.trans hk_h0
        have hx_b_6 := (hCE9 b_6 hm_b_6).2 (by rw [hk_b_6]; decide)
        have hk_b_6 : kd9 b_6 = 2 := hx_b_6.1.trans hk_b_6
        have hm_h0 := (hCE9 h0 hm_h0).1
        have hm_b_6 := (hCE9 b_6 hm_b_6).1
        have hm_q_8 := (hCE9 q_8 hm_q_8).1
        have hCE := hCE.tr hCE9
        have hLA : ∀ a ∈ L912, A a := fun a h => (hLB9 a h).elim (hLA a) (fun h => hA a (Nat.le_trans hSz h))
        have hLn := hLn9
        have hD : va_D A (va_pl L912 f912) := g_D hLn hLA f912
        have hk_q_8 := hk0
        have hb9 : ¬ b9 = q_8 := fun z => by rw [z, hk0] at hk9; exact absurd hk9 (by decide)
        obtain ⟨kd_13, ekd_13⟩ : ∃ z9, z9 = va_up kd9 q_8 16 := ⟨_, rfl⟩
        obtain ⟨sn_14, esn_14⟩ : ∃ z9, z9 = va_up sn9 q_8 k := ⟨_, rfl⟩
        have hI := hI.rk hm_q_8 hk_q_8 16 k (by decide) (lk' := lk) (lc' := lc) (Nat.le_refl _) (Nat.le_refl _) (st' := st) (ap' := ap) (fun _ _ _ => rfl) (fun _ _ _ => rfl) (fun z => absurd z (by decide)) (by rw [hF9]; exact page_ok hl9 h90 hm9 (by rw [va_up_ne _ _ hb9]; exact hk9) (by rw [va_up_self]; exact h91) (by rw [va_up_self]; exact hk1) (by rw [va_up_self]; exact hk4) h92 h93)
        rw [← ekd_13, ← esn_14] at hI
        have hCE := hCE.rk hk_q_8 16 k
        rw [← ekd_13, ← esn_14] at hCE
        have hk_h0 : kd_13 h0 = 1 := by rw [ekd_13, va_up_ne _ _ (fun z => by rw [z, hk_q_8] at hk_h0; exact absurd hk_h0 (by decide))]; exact hk_h0
        have hk_b_6 : kd_13 b_6 = 2 := by rw [ekd_13, va_up_ne _ _ (fun z => by rw [z, hk_q_8] at hk_b_6; exact absurd hk_b_6 (by decide))]; exact hk_b_6
        have hs_q_8 : sn_14 q_8 = k := by rw [esn_14, va_up_self]
        have hk_q_8 : kd_13 q_8 = 16 := by rw [ekd_13, va_up_self]
        obtain ⟨g15, hF15, hgz15⟩ := hI.a2 hm_b_6 hk_b_6
        obtain ⟨fsv15, hFv15, -, -⟩ := hI.o hm_q_8 hk_q_8 rfl (ci := 2) rfl rfl
        refine g_astR (t := 3) hx hb hK hP hD hS hm_b_6 hF15 hm_q_8 hFv15 rfl rfl (vp_in_nI (by omega) (by decide)) dX5_page_40 (fun H locs hP hD hS => ?_)
        rw [nI_clamp (by omega)] at hP hD
        obtain ⟨f_16, ef_16⟩ : ∃ z9, z9 = va_up f912 b_6 (.inl (K 3, 8, .inr (.inr (.inr (.inr (va_up g15 np (some q_8))))))) := ⟨_, rfl⟩
        have hI := hI.s2 hm_b_6 hk_b_6 hgz15 hm_q_8 hk_q_8
        rw [← ef_16] at hP hD hI
        refine lv_aload_n hx hb dX5_page_41 rfl (lv_at hl 1 rfl) ?_
        refine lv_dup hx hb dX5_page_42 rfl ?_
        obtain ⟨fs17, hF17, hv17⟩ := hI.gG hm_h0 hk_h0 7 (ci := 5) ⟨rfl, rfl, by decide, rfl⟩
        rw [hg7] at hv17
        refine g_get (ci := 5) (v := .int (nI np)) (C := RX5) (T := TX5) (N := 17) hx hb hts uB5 hown hK hP hm_h0 hF17 rfl 7 (by decide) wm_72 hv17 dX5_page_43 ?_
        refine lv_iconst (v := 1) hx hb dX5_page_46 (by decide) ?_
        refine lv_iadd hx hb dX5_page_47 ?_
        refine lv_topi (fun x_18 ex_18 => ?_)
        obtain rfl : x_18 = nI (np + 1) := ex_18.trans (nI_add np 1)
        obtain ⟨fs19, hF19, hn19, -⟩ := hI.o hm_h0 hk_h0 rfl (ci := 5) rfl (n := 17) rfl
        refine g_put (ci := 5) (v := .int (nI (np + 1))) (ty := .int) (C := RX5) (T := TX5) (N := 17) hx hb hts uB5 tyX5 tyX5_ok nmX5 hown hK hP hD hS hm_h0 hF19 rfl 7 (by decide) wm_72 rfl (by decide +kernel) rfl rfl (by rw [hn19]; decide) dX5_page_48 (fun H locs hP hD hS => ?_)
        obtain ⟨f_20, ef_20⟩ : ∃ z9, z9 = va_up f_16 h0 (.inr (5, List.set fs19 7 (.int (nI (np + 1))))) := ⟨_, rfl⟩
        have hI := hI.pG hm_h0 hk_h0 7 (by decide) hF19 (nI (np + 1))
        rw [← ef_20] at hP hD hI
        obtain ⟨G_21, eG_21⟩ : ∃ z9, z9 = va_up G 7 (nI (np + 1)) := ⟨_, rfl⟩
        rw [← eG_21] at hI
        have hg7 : G_21 7 = nI (np + 1) := by rw [eG_21, va_up_self]
        have hGS : gS [7] G G_21 := by rw [eG_21]; exact hGS.up (by decide) _
        refine lv_aload_n hx hb dX5_page_51 rfl (lv_at hl 1 rfl) ?_
        obtain ⟨fs22, hF22, hv22⟩ := hI.gG hm_h0 hk_h0 7 (ci := 5) ⟨rfl, rfl, by decide, rfl⟩
        rw [hg7] at hv22
        refine g_get (ci := 5) (v := .int (nI (np + 1))) (C := RX5) (T := TX5) (N := 17) hx hb hts uB5 hown hK hP hm_h0 hF22 rfl 7 (by decide) wm_72 hv22 dX5_page_52 ?_
        refine lv_iconst (v := 1) hx hb dX5_page_55 (by decide) ?_
        refine lv_isub hx hb dX5_page_56 ?_
        refine lv_topi (fun x_23 ex_23 => ?_)
        obtain rfl : x_23 = nI ((np + 1) - 1) := ex_23.trans (pk_sub (a := (np + 1)) (b := 1) (by omega))
        refine W.widen (k := 2) (n := 8) (Nat.le_of_ble_eq_true rfl) (Nat.le_of_ble_eq_true rfl) ?_
        exact W.iret (v := nI ((np + 1) - 1)) hx hb hr (fun t ht hW => ⟨⟨nI ((np + 1) - 1), (L912, f_20), rfl, ⟨G_21, np + 1, kd_13, sn_14, hI, hCE, hLn, (fun a h => by have h9 := hLA a h; rw [← hAe] at h9; exact h9), hGS, hg7, (Or.inr (Or.inr ⟨hok, by omega, by rw [Nat.add_sub_cancel], rfl⟩))⟩, by show va_P (dC, dI) vwCl (va_pl L912 f_20) t.heap; rw [ht]; exact hP⟩, hS.F ht⟩) hS.2.2 dX5_page_57
      · skip
        have nc_4 : ¬ (np < 8) := fun q => c_4 (show nI np < nI 8 from (bn_lt (a := np) (b := 8) (by omega) (by omega)).mpr q)
        refine lv_bipush (v := (-3)) hx hb dX5_page_20 (by decide) ?_
        refine W.widen (k := 2) (n := 8) (Nat.le_of_ble_eq_true rfl) (Nat.le_of_ble_eq_true rfl) ?_
        exact W.iret (v := (-3)) hx hb hr (fun t ht hW => ⟨⟨(-3), (L, f), rfl, ⟨G, np, kd, sn, hI, hCE, hLn, (fun a h => by have h9 := hLA a h; rw [← hAe] at h9; exact h9), hGS, hg7, (Or.inr (Or.inl ⟨hok, by omega, rfl, rfl⟩))⟩, by show va_P (dC, dI) vwCl (va_pl L f) t.heap; rw [ht]; exact hP⟩, hS.F ht⟩) hS.2.2 dX5_page_22
    · skip
      have nc_2 : k = 0 := (bn_eq (a := k) (b := 0) (by omega) (by omega)).mp (show nI k = nI 0 from c_2)
      exact (show False by omega).elim
set_option maxHeartbeats 4000000 in
set_option maxRecDepth 100000 in
theorem k_X5_campaign (l : Launch) (dC : Nat → ClassId) (dI : Nat → Nat → Nat) (K : Nat → ClassId) (L : List Nat) (f : Nat → va_E) {np nc ns lk lc tp cp gp : Nat} {G J mk st : Nat → Int32} {ap : Nat → Int64} {kd sn : Nat → Nat} (hI : cI K np nc ns lk lc tp cp gp G J mk st ap kd sn L f) (h0 : Nat) (hm_h0 : h0 ∈ L) (hk_h0 : kd h0 = 1) (x : Int32) (y : Int32) (z : Int32) (hg8 : G 8 = nI nc) (hnc : nc ≤ 40) (hlc : lc = nc) (hLn : gN L) (sz : Nat) : gAi l yX5_campaign cX5_campaign 4 3 2 24 (dC, dI) K L f sz (va_Nw (.methodLinkNest RX0 11 yX4_init "NoticeMarket")) [.ref h0, .int x, .int y, .int z] (fun r L' f' => ∃ (G2 : Nat → Int32) (nc2 : Nat) (lc2 : Nat) (st2 : Nat → Int32) (ap2 : Nat → Int64) (kd2 : Nat → Nat) (sn2 : Nat → Nat), cI K np nc2 ns lk lc2 tp cp gp G2 J mk st2 ap2 kd2 sn2 L' f' ∧ cE L L' kd kd2 sn sn2 ∧ gN L' ∧ (∀ a ∈ L', a ∈ L ∨ sz ≤ a) ∧ (gS [8] G G2) ∧ (lc2 = nc2) ∧ (G2 8 = nI nc2) ∧ ((¬ cpOk x y z ∧ r = (-1) ∧ nc2 = nc ∧ st2 = st ∧ ap2 = ap) ∨ (cpOk x y z ∧ nc = 40 ∧ r = (-3) ∧ nc2 = nc ∧ st2 = st ∧ ap2 = ap) ∨ (cpOk x y z ∧ nc < 40 ∧ r = nI nc ∧ nc2 = nc + 1 ∧ st2 = va_up st nc 0 ∧ ap2 = va_up ap nc 0))) := by
  refine Met.ofW (cc := cX5_campaign) (maxL := 4) (ret := (some .int)) (by decide) rfl ?_
  intro p e s m args below meth c s₁ B hml hv
  obtain ⟨rfl, hsz, hP, hK, hex⟩ := hv
  subst hsz
  have hD : va_D (fun q : Nat => q ∈ L ∨ s.heap.size ≤ q) (va_pl L f) := g_D hLn (fun a h => Or.inl h) f
  generalize hAe : (fun q : Nat => q ∈ L ∨ s.heap.size ≤ q) = A at hD ⊢
  have hA : ∀ q : Nat, s.heap.size ≤ q → A q := fun q h => by rw [← hAe]; exact Or.inr h
  have hLA : ∀ a ∈ L, A a := fun a h => by rw [← hAe]; exact Or.inl h
  have hCE : cE L L kd kd sn sn := cE.rf
  have hx := B.exec
  have hb := B.bytes
  have hr := B.returns
  have hlocks := B.notSynchronized
  have hts0 := atoms_spec (ws := Cond.code yX5_campaign cX5_campaign 4 (some .int) :: lw_B) B.pre
  have hts : ∀ w ∈ lw_B, w.before _ s = true := fun w h => hts0 w (List.mem_cons_of_mem _ h)
  have hown : s.vm.findClass RX5 = some m.cls := findClass_of_methodNamed B.named
  have hS : va_S A s.heap s.heap [] := va_S.rf
  have hGS : gS [8] G G := gS.rf
  have hl := lv_entry ([.ref h0, .int x, .int y, .int z]) (n := 4) (Nat.le_of_ble_eq_true rfl)
  rw [lg_entry_eq]
  generalize (lg_sl ([.ref h0, .int x, .int y, .int z]) ++ List.replicate (4 - (lg_sl ([.ref h0, .int x, .int y, .int z])).length) Slot.unset).toArray = ls at hl ⊢
  have hl : lv_has ls 4 [(0, .ref h0), (1, .int x), (2, .int y), (3, .int z)] := hl
  refine lv_iload_n hx hb dX5_campaign_0 rfl (lv_at hl 1 rfl) ?_
  refine k_S ⟨hx, hb, hml, hown, hts⟩ (c_isSort l x) 1 wm_490 wm_491 wm_67 wm_492 (by decide +kernel) ⟨Nat.le_of_ble_eq_true rfl, Nat.le_of_ble_eq_true rfl⟩ rfl hl.1 rfl (Nat.le_of_ble_eq_true rfl) dX5_campaign_1 ⟨Nat.le_of_ble_eq_true rfl, Nat.le_of_ble_eq_true rfl⟩ hS hP (fun r_1 H locs hpr_1 hP hS => ?_)
  refine lv_if_eq (tgt := 25) hx hb dX5_campaign_4 (by decide) (fun c_2 => ?_) (fun c_2 => ?_)
  · skip
    have g_2 := k_ff hpr_1 c_2
    refine lv_iconst (v := (-1)) hx hb dX5_campaign_25 (by decide) ?_
    refine W.widen (k := 2) (n := 24) (Nat.le_of_ble_eq_true rfl) (Nat.le_of_ble_eq_true rfl) ?_
    exact W.iret (v := (-1)) hx hb hr (fun t ht hW => ⟨⟨(-1), (L, f), rfl, ⟨G, nc, lc, st, ap, kd, sn, hI, hCE, hLn, (fun a h => by have h9 := hLA a h; rw [← hAe] at h9; exact h9), hGS, hlc, hg8, (Or.inl ⟨by exact fun q => g_2 q.1, rfl, rfl, rfl, rfl⟩)⟩, by show va_P (dC, dI) vwCl (va_pl L f) t.heap; rw [ht]; exact hP⟩, hS.F ht⟩) hS.2.2 dX5_campaign_26
  · skip
    have g_2 := k_ft hpr_1 c_2
    refine lv_iload_n hx hb dX5_campaign_7 rfl (lv_at hl 2 rfl) ?_
    refine k_S ⟨hx, hb, hml, hown, hts⟩ (c_isWish l y) 1 wm_493 wm_494 wm_67 wm_495 (by decide +kernel) ⟨Nat.le_of_ble_eq_true rfl, Nat.le_of_ble_eq_true rfl⟩ rfl hl.1 rfl (Nat.le_of_ble_eq_true rfl) dX5_campaign_8 ⟨Nat.le_of_ble_eq_true rfl, Nat.le_of_ble_eq_true rfl⟩ hS hP (fun r_3 H locs hpr_3 hP hS => ?_)
    refine lv_if_eq (tgt := 25) hx hb dX5_campaign_11 (by decide) (fun c_4 => ?_) (fun c_4 => ?_)
    · skip
      have g_4 := k_ff hpr_3 c_4
      refine lv_iconst (v := (-1)) hx hb dX5_campaign_25 (by decide) ?_
      refine W.widen (k := 2) (n := 24) (Nat.le_of_ble_eq_true rfl) (Nat.le_of_ble_eq_true rfl) ?_
      exact W.iret (v := (-1)) hx hb hr (fun t ht hW => ⟨⟨(-1), (L, f), rfl, ⟨G, nc, lc, st, ap, kd, sn, hI, hCE, hLn, (fun a h => by have h9 := hLA a h; rw [← hAe] at h9; exact h9), hGS, hlc, hg8, (Or.inl ⟨by exact fun q => g_4 q.2.1, rfl, rfl, rfl, rfl⟩)⟩, by show va_P (dC, dI) vwCl (va_pl L f) t.heap; rw [ht]; exact hP⟩, hS.F ht⟩) hS.2.2 dX5_campaign_26
    · skip
      have g_4 := k_ft hpr_3 c_4
      refine lv_iload_n hx hb dX5_campaign_14 rfl (lv_at hl 1 rfl) ?_
      refine lv_bipush (v := 10) hx hb dX5_campaign_15 (by decide) ?_
      refine lv_idiv hx hb dX5_campaign_17 (by decide) ?_
      refine lv_topi (fun x_5 ex_5 => ?_)
      refine lv_iload_n hx hb dX5_campaign_18 rfl (lv_at hl 3 rfl) ?_
      refine k_S ⟨hx, hb, hml, hown, hts⟩ (c_isBid l x_5 z) 2 wm_496 wm_497 wm_67 wm_498 (by decide +kernel) ⟨Nat.le_of_ble_eq_true rfl, Nat.le_of_ble_eq_true rfl⟩ rfl hl.1 rfl (Nat.le_of_ble_eq_true rfl) dX5_campaign_19 ⟨Nat.le_of_ble_eq_true rfl, Nat.le_of_ble_eq_true rfl⟩ hS hP (fun r_6 H locs hpr_6 hP hS => ?_)
      refine lv_if_ne (tgt := 27) hx hb dX5_campaign_22 (by decide) (fun c_7 => ?_) (fun c_7 => ?_)
      · skip
        have g_7 := k_ft hpr_6 c_7
        refine lv_aload_n hx hb dX5_campaign_27 rfl (lv_at hl 0 rfl) ?_
        obtain ⟨fs8, hF8, hv8⟩ := hI.gG hm_h0 hk_h0 8 (ci := 5) ⟨rfl, rfl, by decide, rfl⟩
        rw [hg8] at hv8
        refine g_get (ci := 5) (v := .int (nI nc)) (C := RX5) (T := TX5) (N := 17) hx hb hts uB5 hown hK hP hm_h0 hF8 rfl 8 (by decide) wm_73 hv8 dX5_campaign_28 ?_
        refine lv_bipush (v := 40) hx hb dX5_campaign_31 (by decide) ?_
        refine lv_icmp_lt (tgt := 39) hx hb dX5_campaign_33 (by decide) (fun c_9 => ?_) (fun c_9 => ?_)
        · skip
          have nc_9 : nc < 40 := (bn_lt (a := nc) (b := 40) (by omega) (by omega)).mp (show nI nc < nI 40 from c_9)
          refine lv_aload_n hx hb dX5_campaign_39 rfl (lv_at hl 0 rfl) ?_
          obtain ⟨fs10, b_11, hF10, hv10, hm_b_11, hk_b_11⟩ := hI.gR hm_h0 hk_h0 1 (ci := 5) (t := 3) ⟨rfl, rfl, by decide, rfl⟩
          refine g_get (ci := 5) (v := .ref b_11) (C := RX5) (T := TX5) (N := 17) hx hb hts uB5 hown hK hP hm_h0 hF10 rfl 1 (by decide) wm_270 hv10 dX5_campaign_40 ?_
          refine lv_aload_n hx hb dX5_campaign_43 rfl (lv_at hl 0 rfl) ?_
          obtain ⟨fs12, hF12, hv12⟩ := hI.gG hm_h0 hk_h0 8 (ci := 5) ⟨rfl, rfl, by decide, rfl⟩
          rw [hg8] at hv12
          refine g_get (ci := 5) (v := .int (nI nc)) (C := RX5) (T := TX5) (N := 17) hx hb hts uB5 hown hK hP hm_h0 hF12 rfl 8 (by decide) wm_73 hv12 dX5_campaign_44 ?_
          refine g_new (ci := 0) (fs := [.int 0, .int 0, .int 0, .int 0, .int 0, .null, .int 0, .int 0, .int 0, .int 0, .int 0, .int 0, .long 0, .int 0, .int 0, .long 0]) (C := RX0) (T := TX0) (N := 16) hx hb hts uB0 tyX0 tyX0_ok hown (hts _ wm_499) (hts _ wm_500) (hts _ wm_205) hK hP hLn hLA hS hA rfl (by decide +kernel) (Nat.le_of_ble_eq_true rfl) (Nat.le_of_ble_eq_true rfl) dX5_campaign_47 (fun q_13 H hq_q_13 hLn hLA hP hS => ?_)
          obtain ⟨L_14, eL_14⟩ : ∃ z9, z9 = L ++ [q_13] := ⟨_, rfl⟩
          obtain ⟨kd_15, ekd_15⟩ : ∃ z9, z9 = va_up kd q_13 0 := ⟨_, rfl⟩
          obtain ⟨f_16, ef_16⟩ : ∃ z9, z9 = va_up f q_13 (.inr (0, [.int 0, .int 0, .int 0, .int 0, .int 0, .null, .int 0, .int 0, .int 0, .int 0, .int 0, .int 0, .long 0, .int 0, .int 0, .long 0])) := ⟨_, rfl⟩
          have hI := hI.n0 hq_q_13 (.inr (0, [.int 0, .int 0, .int 0, .int 0, .int 0, .null, .int 0, .int 0, .int 0, .int 0, .int 0, .int 0, .long 0, .int 0, .int 0, .long 0]))
          rw [← ekd_15, ← eL_14, ← ef_16] at hI
          rw [← eL_14, ← ef_16] at hP
          rw [← eL_14] at hLn hLA
          have hCE := hCE.push hq_q_13 0 (sn q_13)
          rw [← ekd_15, ← eL_14, up_id] at hCE
          have hk_h0 : kd_15 h0 = 1 := by rw [ekd_15, va_up_ne _ _ (fun z => hq_q_13 (by rw [← z]; exact hm_h0))]; exact hk_h0
          have hk_b_11 : kd_15 b_11 = 3 := by rw [ekd_15, va_up_ne _ _ (fun z => hq_q_13 (by rw [← z]; exact hm_b_11))]; exact hk_b_11
          have hm_h0 : h0 ∈ L_14 := by rw [eL_14]; exact List.mem_append_left _ hm_h0
          have hm_b_11 : b_11 ∈ L_14 := by rw [eL_14]; exact List.mem_append_left _ hm_b_11
          have hm_q_13 : q_13 ∈ L_14 := by rw [eL_14]; exact List.mem_append_right _ (List.mem_singleton.mpr rfl)
          have hk_q_13 : kd_15 q_13 = 0 := by rw [ekd_15, va_up_self]
          have hD : va_D A (va_pl L_14 f_16) := g_D hLn hLA f_16
          have hF_q_13 : f_16 q_13 = .inr (0, [.int 0, .int 0, .int 0, .int 0, .int 0, .null, .int 0, .int 0, .int 0, .int 0, .int 0, .int 0, .long 0, .int 0, .int 0, .long 0]) := by rw [ef_16, va_up_self]
          refine lv_dup hx hb dX5_campaign_50 rfl ?_
          refine lv_iload_n hx hb dX5_campaign_51 rfl (lv_at hl 1 rfl) ?_
          refine lv_iload_n hx hb dX5_campaign_52 rfl (lv_at hl 2 rfl) ?_
          refine lv_iload_n hx hb dX5_campaign_53 rfl (lv_at hl 3 rfl) ?_
          have hSz := hS.1
          refine gc_AI ⟨hx, hb, hml, hown, hts⟩ (k_X0_init l dC dI K L_14 f_16 hI q_13 hm_q_13 hk_q_13 hF_q_13 x y z hLn H.size) (exNw hex) 3 wm_501 wm_502 wm_205 wm_503 rfl (by decide +kernel) ⟨Nat.le_of_ble_eq_true rfl, Nat.le_of_ble_eq_true rfl⟩ hK rfl hl.1 rfl (Nat.le_of_ble_eq_true rfl) dX5_campaign_54 ⟨Nat.le_of_ble_eq_true rfl, Nat.le_of_ble_eq_true rfl⟩ hLA hA hS hP (fun L917 f917 H locs hpw hP hS => ?_)
          obtain ⟨kd9, sn9, fs9, b9, x09, x19, x29, x39, x49, x69, x79, x89, x99, x109, x139, x149, x159, hI, hCE9, hLn9, hLB9, hF9, hl9, h90, h91, h92, h93, h94, h96, h97, h98, h99, h910, h913, h914, h95, hm9, hk9, h911, h912, h915, hk0⟩ := hpw
          have hx_h0 := (hCE9 h0 hm_h0).2 (by rw [hk_h0]; decide)
          have hk_h0 : kd9 h0 = 1 := hx_h0.1.trans hk_h0
          have hx_b_11 := (hCE9 b_11 hm_b_11).2 (by rw [hk_b_11]; decide)
          have hk_b_11 : kd9 b_11 = 3 := hx_b_11.1.trans hk_b_11
          have hm_h0 := (hCE9 h0 hm_h0).1
          have hm_b_11 := (hCE9 b_11 hm_b_11).1
          have hm_q_13 := (hCE9 q_13 hm_q_13).1
          have hCE := hCE.tr hCE9
          have hLA : ∀ a ∈ L917, A a := fun a h => (hLB9 a h).elim (hLA a) (fun h => hA a (Nat.le_trans hSz h))
          have hLn := hLn9
          have hD : va_D A (va_pl L917 f917) := g_D hLn hLA f917
          have hk_q_13 := hk0
          have hb9 : ¬ b9 = q_13 := fun z => by rw [z, hk0] at hk9; exact absurd hk9 (by decide)
          obtain ⟨kd_18, ekd_18⟩ : ∃ z9, z9 = va_up kd9 q_13 20 := ⟨_, rfl⟩
          obtain ⟨sn_19, esn_19⟩ : ∃ z9, z9 = va_up sn9 q_13 nc := ⟨_, rfl⟩
          have hI := hI.rk hm_q_13 hk_q_13 20 nc (by decide) (lk' := lk) (lc' := (nc + 1)) (Nat.le_refl _) (by omega) (st' := (va_up st nc 0)) (ap' := (va_up ap nc 0)) (fun b hb hk => va_up_ne _ _ (by have := hI.l20 hb hk; omega)) (fun b hb hk => va_up_ne _ _ (by have := hI.l20 hb hk; omega)) (fun _ b hb hk => by have := hI.l20 hb hk; omega) (by rw [hF9]; exact camp_ok hl9 h90 h91 h92 h93 h94 h95 hm9 (by rw [va_up_ne _ _ hb9]; exact hk9) h96 h97 h98 h99 h910 (by rw [va_up_self, va_up_self]; exact h911) (by rw [va_up_self, va_up_self]; exact h912) h913 h914 h915 (by rw [va_up_self]; exact Nat.lt_succ_self _))
          rw [← ekd_18, ← esn_19] at hI
          have hCE := hCE.rk hk_q_13 20 nc
          rw [← ekd_18, ← esn_19] at hCE
          have hk_h0 : kd_18 h0 = 1 := by rw [ekd_18, va_up_ne _ _ (fun z => by rw [z, hk_q_13] at hk_h0; exact absurd hk_h0 (by decide))]; exact hk_h0
          have hk_b_11 : kd_18 b_11 = 3 := by rw [ekd_18, va_up_ne _ _ (fun z => by rw [z, hk_q_13] at hk_b_11; exact absurd hk_b_11 (by decide))]; exact hk_b_11
          have hs_q_13 : sn_19 q_13 = nc := by rw [esn_19, va_up_self]
          have hk_q_13 : kd_18 q_13 = 20 := by rw [ekd_18, va_up_self]
          obtain ⟨g20, hF20, hgz20⟩ := hI.a3 hm_b_11 hk_b_11
          obtain ⟨fsv20, hFv20, -, -⟩ := hI.o hm_q_13 hk_q_13 rfl (ci := 0) rfl rfl
          refine g_astR (t := 4) hx hb hK hP hD hS hm_b_11 hF20 hm_q_13 hFv20 rfl rfl (vp_in_nI (by omega) (by decide)) dX5_campaign_57 (fun H locs hP hD hS => ?_)
          rw [nI_clamp (by omega)] at hP hD
          obtain ⟨f_21, ef_21⟩ : ∃ z9, z9 = va_up f917 b_11 (.inl (K 4, 40, .inr (.inr (.inr (.inr (va_up g20 nc (some q_13))))))) := ⟨_, rfl⟩
          have hI := hI.s3 hm_b_11 hk_b_11 hgz20 hm_q_13 hk_q_13 hs_q_13
          rw [← ef_21] at hP hD hI
          refine lv_aload_n hx hb dX5_campaign_58 rfl (lv_at hl 0 rfl) ?_
          refine lv_dup hx hb dX5_campaign_59 rfl ?_
          obtain ⟨fs22, hF22, hv22⟩ := hI.gG hm_h0 hk_h0 8 (ci := 5) ⟨rfl, rfl, by decide, rfl⟩
          rw [hg8] at hv22
          refine g_get (ci := 5) (v := .int (nI nc)) (C := RX5) (T := TX5) (N := 17) hx hb hts uB5 hown hK hP hm_h0 hF22 rfl 8 (by decide) wm_73 hv22 dX5_campaign_60 ?_
          refine lv_iconst (v := 1) hx hb dX5_campaign_63 (by decide) ?_
          refine lv_iadd hx hb dX5_campaign_64 ?_
          refine lv_topi (fun x_23 ex_23 => ?_)
          obtain rfl : x_23 = nI (nc + 1) := ex_23.trans (nI_add nc 1)
          obtain ⟨fs24, hF24, hn24, -⟩ := hI.o hm_h0 hk_h0 rfl (ci := 5) rfl (n := 17) rfl
          refine g_put (ci := 5) (v := .int (nI (nc + 1))) (ty := .int) (C := RX5) (T := TX5) (N := 17) hx hb hts uB5 tyX5 tyX5_ok nmX5 hown hK hP hD hS hm_h0 hF24 rfl 8 (by decide) wm_73 rfl (by decide +kernel) rfl rfl (by rw [hn24]; decide) dX5_campaign_65 (fun H locs hP hD hS => ?_)
          obtain ⟨f_25, ef_25⟩ : ∃ z9, z9 = va_up f_21 h0 (.inr (5, List.set fs24 8 (.int (nI (nc + 1))))) := ⟨_, rfl⟩
          have hI := hI.pG hm_h0 hk_h0 8 (by decide) hF24 (nI (nc + 1))
          rw [← ef_25] at hP hD hI
          obtain ⟨G_26, eG_26⟩ : ∃ z9, z9 = va_up G 8 (nI (nc + 1)) := ⟨_, rfl⟩
          rw [← eG_26] at hI
          have hg8 : G_26 8 = nI (nc + 1) := by rw [eG_26, va_up_self]
          have hGS : gS [8] G G_26 := by rw [eG_26]; exact hGS.up (by decide) _
          refine lv_aload_n hx hb dX5_campaign_68 rfl (lv_at hl 0 rfl) ?_
          obtain ⟨fs27, hF27, hv27⟩ := hI.gG hm_h0 hk_h0 8 (ci := 5) ⟨rfl, rfl, by decide, rfl⟩
          rw [hg8] at hv27
          refine g_get (ci := 5) (v := .int (nI (nc + 1))) (C := RX5) (T := TX5) (N := 17) hx hb hts uB5 hown hK hP hm_h0 hF27 rfl 8 (by decide) wm_73 hv27 dX5_campaign_69 ?_
          refine lv_iconst (v := 1) hx hb dX5_campaign_72 (by decide) ?_
          refine lv_isub hx hb dX5_campaign_73 ?_
          refine lv_topi (fun x_28 ex_28 => ?_)
          obtain rfl : x_28 = nI ((nc + 1) - 1) := ex_28.trans (pk_sub (a := (nc + 1)) (b := 1) (by omega))
          refine W.widen (k := 2) (n := 24) (Nat.le_of_ble_eq_true rfl) (Nat.le_of_ble_eq_true rfl) ?_
          exact W.iret (v := nI ((nc + 1) - 1)) hx hb hr (fun t ht hW => ⟨⟨nI ((nc + 1) - 1), (L917, f_25), rfl, ⟨G_26, nc + 1, nc + 1, va_up st nc 0, va_up ap nc 0, kd_18, sn_19, hI, hCE, hLn, (fun a h => by have h9 := hLA a h; rw [← hAe] at h9; exact h9), hGS, rfl, hg8, (Or.inr (Or.inr ⟨by subst ex_5; exact ⟨g_2, g_4, g_7⟩, by omega, by rw [Nat.add_sub_cancel], rfl, rfl, rfl⟩))⟩, by show va_P (dC, dI) vwCl (va_pl L917 f_25) t.heap; rw [ht]; exact hP⟩, hS.F ht⟩) hS.2.2 dX5_campaign_74
        · skip
          have nc_9 : ¬ (nc < 40) := fun q => c_9 (show nI nc < nI 40 from (bn_lt (a := nc) (b := 40) (by omega) (by omega)).mpr q)
          refine lv_bipush (v := (-3)) hx hb dX5_campaign_36 (by decide) ?_
          refine W.widen (k := 2) (n := 24) (Nat.le_of_ble_eq_true rfl) (Nat.le_of_ble_eq_true rfl) ?_
          exact W.iret (v := (-3)) hx hb hr (fun t ht hW => ⟨⟨(-3), (L, f), rfl, ⟨G, nc, lc, st, ap, kd, sn, hI, hCE, hLn, (fun a h => by have h9 := hLA a h; rw [← hAe] at h9; exact h9), hGS, hlc, hg8, (Or.inr (Or.inl ⟨by subst ex_5; exact ⟨g_2, g_4, g_7⟩, by omega, rfl, rfl, rfl, rfl⟩))⟩, by show va_P (dC, dI) vwCl (va_pl L f) t.heap; rw [ht]; exact hP⟩, hS.F ht⟩) hS.2.2 dX5_campaign_38
      · skip
        have g_7 := k_ff hpr_6 c_7
        refine lv_iconst (v := (-1)) hx hb dX5_campaign_25 (by decide) ?_
        refine W.widen (k := 2) (n := 24) (Nat.le_of_ble_eq_true rfl) (Nat.le_of_ble_eq_true rfl) ?_
        exact W.iret (v := (-1)) hx hb hr (fun t ht hW => ⟨⟨(-1), (L, f), rfl, ⟨G, nc, lc, st, ap, kd, sn, hI, hCE, hLn, (fun a h => by have h9 := hLA a h; rw [← hAe] at h9; exact h9), hGS, hlc, hg8, (Or.inl ⟨by subst ex_5; exact fun q => g_7 q.2.2, rfl, rfl, rfl, rfl⟩)⟩, by show va_P (dC, dI) vwCl (va_pl L f) t.heap; rw [ht]; exact hP⟩, hS.F ht⟩) hS.2.2 dX5_campaign_26
set_option maxHeartbeats 4000000 in
set_option maxRecDepth 100000 in
theorem k_X5_sell (l : Launch) (dC : Nat → ClassId) (dI : Nat → Nat → Nat) (K : Nat → ClassId) (L : List Nat) (f : Nat → va_E) {np nc ns lk lc tp cp gp : Nat} {G J mk st : Nat → Int32} {ap : Nat → Int64} {kd sn : Nat → Nat} {tk : Nat} (hI : cI K np nc ns lk lc tp cp gp G J mk st ap kd sn L f) (h0 : Nat) (hm_h0 : h0 ∈ L) (hk_h0 : kd h0 = 1) (x : Int32) (pg : Nat) (pl : Nat) (hg9 : G 9 = nI ns) (hg12 : G 12 = nI tk) (hnp : np ≤ 8) (hnc : nc ≤ 40) (hns1 : ns < 1000) (hpg : pg < np) (hpl : pl < 4) (a7 : Nat) (hm_a7 : a7 ∈ L) (hk_a7 : kd a7 = 7) (gg : Nat → Int32) (hF7 : f a7 = .inl (K 0, 4, .inl gg)) (cn : Nat) (hgg : gg pl = nI cn) (hcn : cn < nc) (hLn : gN L) (sz : Nat) : gAv l yX5_sell cX5_sell 7 3 1 12 (dC, dI) K L f sz (fun _ => True) [.ref h0, .int x, .int (nI pg), .int (nI pl)] (fun L' f' => ∃ (G2 : Nat → Int32) (lk2 : Nat) (kd2 : Nat → Nat) (sn2 : Nat → Nat), cI K np nc (ns + 1) lk2 lc tp cp gp G2 J mk st ap kd2 sn2 L' f' ∧ cE L L' kd kd2 sn sn2 ∧ gN L' ∧ (∀ a ∈ L', a ∈ L ∨ sz ≤ a) ∧ (gS [9, 11, 16] G G2) ∧ (G2 9 = nI (ns + 1))) := by
  refine Met.ofW (cc := cX5_sell) (maxL := 7) (ret := none) (by decide) rfl ?_
  intro p e s m args below meth c s₁ B hml hv
  obtain ⟨rfl, hsz, hP, hK, hex⟩ := hv
  subst hsz
  have hD : va_D (fun q : Nat => q ∈ L ∨ s.heap.size ≤ q) (va_pl L f) := g_D hLn (fun a h => Or.inl h) f
  generalize hAe : (fun q : Nat => q ∈ L ∨ s.heap.size ≤ q) = A at hD ⊢
  have hA : ∀ q : Nat, s.heap.size ≤ q → A q := fun q h => by rw [← hAe]; exact Or.inr h
  have hLA : ∀ a ∈ L, A a := fun a h => by rw [← hAe]; exact Or.inl h
  have hCE : cE L L kd kd sn sn := cE.rf
  have hx := B.exec
  have hb := B.bytes
  have hr := B.returns
  have hlocks := B.notSynchronized
  have hts0 := atoms_spec (ws := Cond.code yX5_sell cX5_sell 7 none :: lw_B) B.pre
  have hts : ∀ w ∈ lw_B, w.before _ s = true := fun w h => hts0 w (List.mem_cons_of_mem _ h)
  have hown : s.vm.findClass RX5 = some m.cls := findClass_of_methodNamed B.named
  have hS : va_S A s.heap s.heap [] := va_S.rf
  have hGS : gS [9, 11, 16] G G := gS.rf
  have hl := lv_entry ([.ref h0, .int x, .int (nI pg), .int (nI pl)]) (n := 7) (Nat.le_of_ble_eq_true rfl)
  rw [lg_entry_eq]
  generalize (lg_sl ([.ref h0, .int x, .int (nI pg), .int (nI pl)]) ++ List.replicate (7 - (lg_sl ([.ref h0, .int x, .int (nI pg), .int (nI pl)])).length) Slot.unset).toArray = ls at hl ⊢
  have hl : lv_has ls 7 [(0, .ref h0), (1, .int x), (2, .int (nI pg)), (3, .int (nI pl))] := hl
  refine lv_aload_n hx hb dX5_sell_0 rfl (lv_at hl 0 rfl) ?_
  obtain ⟨fs1, b_2, hF1, hv1, hm_b_2, hk_b_2⟩ := hI.gR hm_h0 hk_h0 5 (ci := 5) (t := 7) ⟨rfl, rfl, by decide, rfl⟩
  obtain rfl : b_2 = a7 := hI.2.1 b_2 hm_b_2 a7 hm_a7 (hk_b_2.trans hk_a7.symm) (by rw [hk_b_2]; decide) (by rw [hk_b_2]; decide)
  refine g_get (ci := 5) (v := .ref b_2) (C := RX5) (T := TX5) (N := 17) hx hb hts uB5 hown hK hP hm_h0 hF1 rfl 5 (by decide) wm_424 hv1 dX5_sell_1 ?_
  refine lv_iload_n hx hb dX5_sell_4 rfl (lv_at hl 3 rfl) ?_
  have hF3 := hF7
  refine g_iald hx hb hK hP hm_b_2 hF3 (vp_in_nI (by omega) (by decide)) dX5_sell_5 ?_
  refine lv_topi (fun x_4 ex_4 => ?_)
  rw [nI_clamp (by omega)] at ex_4
  obtain rfl : x_4 = nI (cn) := ex_4.trans hgg
  refine lv_istore (lv' := [(4, .int (nI cn)), (0, .ref h0), (1, .int x), (2, .int (nI pg)), (3, .int (nI pl))]) hx hb dX5_sell_6 hl (by decide) rfl (fun ls hl => ?_)
  refine lv_aload_n hx hb dX5_sell_8 rfl (lv_at hl 1 rfl) ?_
  obtain ⟨fs5, b_6, hF5, hv5, hm_b_6, hk_b_6⟩ := hI.gR hm_h0 hk_h0 1 (ci := 5) (t := 3) ⟨rfl, rfl, by decide, rfl⟩
  refine g_get (ci := 5) (v := .ref b_6) (C := RX5) (T := TX5) (N := 17) hx hb hts uB5 hown hK hP hm_h0 hF5 rfl 1 (by decide) wm_270 hv5 dX5_sell_9 ?_
  refine lv_iload hx hb dX5_sell_12 (lv_at hl 0 rfl) ?_
  obtain ⟨g7, hF7, hgz7⟩ := hI.a3 hm_b_6 hk_b_6
  obtain ⟨b_8, hm_b_8, hk_b_8, hs_b_8, hv7⟩ := hgz7 cn (by omega)
  refine g_aldR (t := 4) hx hb hK hP hm_b_6 hF7 rfl (vp_in_nI (by omega) (by decide)) (by rw [nI_clamp (by omega)]; exact hv7) dX5_sell_14 ?_
  refine lv_astore (lv' := [(5, .ref b_8), (4, .int (nI cn)), (0, .ref h0), (1, .int x), (2, .int (nI pg)), (3, .int (nI pl))]) hx hb dX5_sell_15 hl (by decide) rfl (fun ls hl => ?_)
  refine g_new (ci := 3) (fs := [.int 0, .int 0, .int 0, .int 0, .int 0, .int 0, .int 0, .int 0, .int 0, .int 0, .int 0, .null]) (C := RX3) (T := TX3) (N := 12) hx hb hts uB3 tyX3 tyX3_ok hown (hts _ wm_504) (hts _ wm_505) (hts _ wm_506) hK hP hLn hLA hS hA rfl (by decide +kernel) (Nat.le_of_ble_eq_true rfl) (Nat.le_of_ble_eq_true rfl) dX5_sell_17 (fun q_9 H hq_q_9 hLn hLA hP hS => ?_)
  obtain ⟨L_10, eL_10⟩ : ∃ z9, z9 = L ++ [q_9] := ⟨_, rfl⟩
  obtain ⟨kd_11, ekd_11⟩ : ∃ z9, z9 = va_up kd q_9 18 := ⟨_, rfl⟩
  obtain ⟨f_12, ef_12⟩ : ∃ z9, z9 = va_up f q_9 (.inr (3, [.int 0, .int 0, .int 0, .int 0, .int 0, .int 0, .int 0, .int 0, .int 0, .int 0, .int 0, .null])) := ⟨_, rfl⟩
  have hI := hI.nk hq_q_9 18 lk (by decide) (by decide) (sale_ok (by omega) (by omega))
  obtain ⟨sn_13, esn_13⟩ : ∃ z9, z9 = va_up sn q_9 lk := ⟨_, rfl⟩
  rw [← esn_13, ← ekd_11, ← eL_10, ← ef_12] at hI
  rw [← eL_10, ← ef_12] at hP
  rw [← eL_10] at hLn hLA
  have hCE := hCE.push hq_q_9 18 lk
  rw [← ekd_11, ← eL_10, ← esn_13] at hCE
  have hk_h0 : kd_11 h0 = 1 := by rw [ekd_11, va_up_ne _ _ (fun z => hq_q_9 (by rw [← z]; exact hm_h0))]; exact hk_h0
  have hk_b_2 : kd_11 b_2 = 7 := by rw [ekd_11, va_up_ne _ _ (fun z => hq_q_9 (by rw [← z]; exact hm_b_2))]; exact hk_b_2
  have hk_b_6 : kd_11 b_6 = 3 := by rw [ekd_11, va_up_ne _ _ (fun z => hq_q_9 (by rw [← z]; exact hm_b_6))]; exact hk_b_6
  have hk_b_8 : kd_11 b_8 = 20 := by rw [ekd_11, va_up_ne _ _ (fun z => hq_q_9 (by rw [← z]; exact hm_b_8))]; exact hk_b_8
  have hs_b_8 : sn_13 b_8 = cn := by rw [esn_13, va_up_ne _ _ (fun z => hq_q_9 (by rw [← z]; exact hm_b_8))]; exact hs_b_8
  have hm_h0 : h0 ∈ L_10 := by rw [eL_10]; exact List.mem_append_left _ hm_h0
  have hm_b_2 : b_2 ∈ L_10 := by rw [eL_10]; exact List.mem_append_left _ hm_b_2
  have hm_b_6 : b_6 ∈ L_10 := by rw [eL_10]; exact List.mem_append_left _ hm_b_6
  have hm_b_8 : b_8 ∈ L_10 := by rw [eL_10]; exact List.mem_append_left _ hm_b_8
  have hm_q_9 : q_9 ∈ L_10 := by rw [eL_10]; exact List.mem_append_right _ (List.mem_singleton.mpr rfl)
  have hk_q_9 : kd_11 q_9 = 18 := by rw [ekd_11, va_up_self]
  have hsn_q_9 : sn_13 q_9 = lk := by rw [esn_13, va_up_self]
  have hD : va_D A (va_pl L_10 f_12) := g_D hLn hLA f_12
  refine lv_dup hx hb dX5_sell_20 rfl ?_
  refine lv_aload_n hx hb dX5_sell_21 rfl (lv_at hl 2 rfl) ?_
  obtain ⟨fs14, hF14, hv14⟩ := hI.gG hm_h0 hk_h0 12 (ci := 5) ⟨rfl, rfl, by decide, rfl⟩
  rw [hg12] at hv14
  refine g_get (ci := 5) (v := .int (nI tk)) (C := RX5) (T := TX5) (N := 17) hx hb hts uB5 hown hK hP hm_h0 hF14 rfl 12 (by decide) wm_265 hv14 dX5_sell_22 ?_
  refine lv_iload_n hx hb dX5_sell_25 rfl (lv_at hl 3 rfl) ?_
  refine lv_iload_n hx hb dX5_sell_26 rfl (lv_at hl 4 rfl) ?_
  refine lv_iload_n hx hb dX5_sell_27 rfl (lv_at hl 5 rfl) ?_
  refine lv_iload hx hb dX5_sell_28 (lv_at hl 1 rfl) ?_
  have hSz := hS.1
  refine gc_AI ⟨hx, hb, hml, hown, hts⟩ (k_X3_init l dC dI K L_10 f_12 hI q_9 hm_q_9 hk_q_9 (nI tk) x pg (nI pl) cn hpg hcn hLn H.size) exT 5 wm_507 wm_508 wm_506 wm_509 rfl (by decide +kernel) ⟨Nat.le_of_ble_eq_true rfl, Nat.le_of_ble_eq_true rfl⟩ hK rfl hl.1 rfl (Nat.le_of_ble_eq_true rfl) dX5_sell_30 ⟨Nat.le_of_ble_eq_true rfl, Nat.le_of_ble_eq_true rfl⟩ hLA hA hS hP (fun L915 f915 H locs hpw hP hS => ?_)
  obtain ⟨hI9, hCE9, hLn9, hLB9, hLL⟩ := hpw
  have hP9 := hP
  have hS9 := hS
  subst hLL
  have hP := hP9
  have hS := hS9
  have hI := hI9
  have hD : va_D A (va_pl L915 f915) := g_D hLn hLA f915
  refine lv_astore (lv' := [(6, .ref q_9), (5, .ref b_8), (4, .int (nI cn)), (0, .ref h0), (1, .int x), (2, .int (nI pg)), (3, .int (nI pl))]) hx hb dX5_sell_33 hl (by decide) rfl (fun ls hl => ?_)
  refine lv_aload hx hb dX5_sell_35 (lv_at hl 0 rfl) ?_
  refine lv_aload_n hx hb dX5_sell_37 rfl (lv_at hl 3 rfl) ?_
  obtain ⟨fs16, b_17, hF16, hv16, hm_b_17, hk_b_17⟩ := hI.gR hm_h0 hk_h0 6 (ci := 5) (t := 8) ⟨rfl, rfl, by decide, rfl⟩
  refine g_get (ci := 5) (v := .ref b_17) (C := RX5) (T := TX5) (N := 17) hx hb hts uB5 hown hK hP hm_h0 hF16 rfl 6 (by decide) wm_438 hv16 dX5_sell_38 ?_
  refine lv_iload_n hx hb dX5_sell_41 rfl (lv_at hl 6 rfl) ?_
  obtain ⟨g18, hF18⟩ := hI.a8 hm_b_17 hk_b_17
  refine g_iald hx hb hK hP hm_b_17 hF18 (vp_in_nI (by omega) (by decide)) dX5_sell_42 ?_
  refine lv_topi (fun x_19 ex_19 => ?_)
  rw [nI_clamp (by omega)] at ex_19
  obtain ⟨fs20, hF20, hn20, -⟩ := hI.o hm_q_9 hk_q_9 rfl (ci := 3) rfl (n := 12) rfl
  refine g_put (ci := 3) (v := .int x_19) (ty := .int) (C := RX3) (T := TX3) (N := 12) hx hb hts uB3 tyX3 tyX3_ok nmX3 hown hK hP hD hS hm_q_9 hF20 rfl 5 (by decide) wm_296 rfl (by decide +kernel) rfl rfl (by rw [hn20]; decide) dX5_sell_43 (fun H locs hP hD hS => ?_)
  obtain ⟨f_21, ef_21⟩ : ∃ z9, z9 = va_up f915 q_9 (.inr (3, List.set fs20 5 (.int x_19))) := ⟨_, rfl⟩
  have hI := hI.p hm_q_9 hk_q_9 5 (ci := 3) (t := 1) (v := .int x_19) ⟨rfl, rfl, by decide, rfl⟩ hF20 fv1
  rw [← ef_21] at hP hD hI
  refine lv_aload hx hb dX5_sell_46 (lv_at hl 0 rfl) ?_
  refine lv_aload_n hx hb dX5_sell_48 rfl (lv_at hl 3 rfl) ?_
  obtain ⟨fs22, hF22, hv22⟩ := hI.gG hm_h0 hk_h0 12 (ci := 5) ⟨rfl, rfl, by decide, rfl⟩
  rw [hg12] at hv22
  refine g_get (ci := 5) (v := .int (nI tk)) (C := RX5) (T := TX5) (N := 17) hx hb hts uB5 hown hK hP hm_h0 hF22 rfl 12 (by decide) wm_265 hv22 dX5_sell_49 ?_
  refine lv_aload_n hx hb dX5_sell_52 rfl (lv_at hl 3 rfl) ?_
  obtain ⟨fs23, hF23, hv23⟩ := hI.gG hm_h0 hk_h0 15 (ci := 5) ⟨rfl, rfl, by decide, rfl⟩
  refine g_get (ci := 5) (v := .int (G 15)) (C := RX5) (T := TX5) (N := 17) hx hb hts uB5 hown hK hP hm_h0 hF23 rfl 15 (by decide) wm_284 hv23 dX5_sell_53 ?_
  refine lv_iadd hx hb dX5_sell_56 ?_
  refine lv_topi (fun x_24 ex_24 => ?_)
  obtain ⟨fs25, hF25, hn25, -⟩ := hI.o hm_q_9 hk_q_9 rfl (ci := 3) rfl (n := 12) rfl
  refine g_put (ci := 3) (v := .int x_24) (ty := .int) (C := RX3) (T := TX3) (N := 12) hx hb hts uB3 tyX3 tyX3_ok nmX3 hown hK hP hD hS hm_q_9 hF25 rfl 7 (by decide) wm_322 rfl (by decide +kernel) rfl rfl (by rw [hn25]; decide) dX5_sell_57 (fun H locs hP hD hS => ?_)
  obtain ⟨f_26, ef_26⟩ : ∃ z9, z9 = va_up f_21 q_9 (.inr (3, List.set fs25 7 (.int x_24))) := ⟨_, rfl⟩
  have hI := hI.p hm_q_9 hk_q_9 7 (ci := 3) (t := 1) (v := .int x_24) ⟨rfl, rfl, by decide, rfl⟩ hF25 fv1
  rw [← ef_26] at hP hD hI
  refine lv_aload_n hx hb dX5_sell_60 rfl (lv_at hl 3 rfl) ?_
  obtain ⟨fs27, b_28, hF27, hv27, hm_b_28, hk_b_28⟩ := hI.gR hm_h0 hk_h0 2 (ci := 5) (t := 4) ⟨rfl, rfl, by decide, rfl⟩
  refine g_get (ci := 5) (v := .ref b_28) (C := RX5) (T := TX5) (N := 17) hx hb hts uB5 hown hK hP hm_h0 hF27 rfl 2 (by decide) wm_332 hv27 dX5_sell_61 ?_
  refine lv_aload_n hx hb dX5_sell_64 rfl (lv_at hl 3 rfl) ?_
  obtain ⟨fs29, hF29, hv29⟩ := hI.gG hm_h0 hk_h0 9 (ci := 5) ⟨rfl, rfl, by decide, rfl⟩
  rw [hg9] at hv29
  refine g_get (ci := 5) (v := .int (nI ns)) (C := RX5) (T := TX5) (N := 17) hx hb hts uB5 hown hK hP hm_h0 hF29 rfl 9 (by decide) wm_74 hv29 dX5_sell_65 ?_
  refine lv_aload hx hb dX5_sell_68 (lv_at hl 0 rfl) ?_
  obtain ⟨g30, hF30, hgz30⟩ := hI.a4 hm_b_28 hk_b_28
  obtain ⟨fsv30, hFv30, -, -⟩ := hI.o hm_q_9 hk_q_9 rfl (ci := 3) rfl rfl
  refine g_astR (t := 5) hx hb hK hP hD hS hm_b_28 hF30 hm_q_9 hFv30 rfl rfl (vp_in_nI (by omega) (by decide)) dX5_sell_70 (fun H locs hP hD hS => ?_)
  rw [nI_clamp (by omega)] at hP hD
  obtain ⟨f_31, ef_31⟩ : ∃ z9, z9 = va_up f_26 b_28 (.inl (K 5, 1000, .inr (.inr (.inr (.inr (va_up g30 ns (some q_9))))))) := ⟨_, rfl⟩
  have hI := hI.s4 hm_b_28 hk_b_28 hgz30 hm_q_9 hk_q_9
  rw [← ef_31] at hP hD hI
  refine lv_aload_n hx hb dX5_sell_71 rfl (lv_at hl 3 rfl) ?_
  refine lv_dup hx hb dX5_sell_72 rfl ?_
  obtain ⟨fs32, hF32, hv32⟩ := hI.gG hm_h0 hk_h0 9 (ci := 5) ⟨rfl, rfl, by decide, rfl⟩
  rw [hg9] at hv32
  refine g_get (ci := 5) (v := .int (nI ns)) (C := RX5) (T := TX5) (N := 17) hx hb hts uB5 hown hK hP hm_h0 hF32 rfl 9 (by decide) wm_74 hv32 dX5_sell_73 ?_
  refine lv_iconst (v := 1) hx hb dX5_sell_76 (by decide) ?_
  refine lv_iadd hx hb dX5_sell_77 ?_
  refine lv_topi (fun x_33 ex_33 => ?_)
  obtain rfl : x_33 = nI (ns + 1) := ex_33.trans (nI_add ns 1)
  obtain ⟨fs34, hF34, hn34, -⟩ := hI.o hm_h0 hk_h0 rfl (ci := 5) rfl (n := 17) rfl
  refine g_put (ci := 5) (v := .int (nI (ns + 1))) (ty := .int) (C := RX5) (T := TX5) (N := 17) hx hb hts uB5 tyX5 tyX5_ok nmX5 hown hK hP hD hS hm_h0 hF34 rfl 9 (by decide) wm_74 rfl (by decide +kernel) rfl rfl (by rw [hn34]; decide) dX5_sell_78 (fun H locs hP hD hS => ?_)
  obtain ⟨f_35, ef_35⟩ : ∃ z9, z9 = va_up f_31 h0 (.inr (5, List.set fs34 9 (.int (nI (ns + 1))))) := ⟨_, rfl⟩
  have hI := hI.pG hm_h0 hk_h0 9 (by decide) hF34 (nI (ns + 1))
  rw [← ef_35] at hP hD hI
  obtain ⟨G_36, eG_36⟩ : ∃ z9, z9 = va_up G 9 (nI (ns + 1)) := ⟨_, rfl⟩
  rw [← eG_36] at hI
  have hg12 : G_36 12 = nI tk := by rw [eG_36, va_up_ne _ _ (by decide)]; exact hg12
  have hg9 : G_36 9 = nI (ns + 1) := by rw [eG_36, va_up_self]
  have hGS : gS [9, 11, 16] G G_36 := by rw [eG_36]; exact hGS.up (by decide) _
  refine lv_aload_n hx hb dX5_sell_81 rfl (lv_at hl 3 rfl) ?_
  obtain ⟨fs37, b_38, hF37, hv37, hm_b_38, hk_b_38⟩ := hI.gR hm_h0 hk_h0 0 (ci := 5) (t := 2) ⟨rfl, rfl, by decide, rfl⟩
  refine g_get (ci := 5) (v := .ref b_38) (C := RX5) (T := TX5) (N := 17) hx hb hts uB5 hown hK hP hm_h0 hF37 rfl 0 (by decide) wm_292 hv37 dX5_sell_82 ?_
  refine lv_iload_n hx hb dX5_sell_85 rfl (lv_at hl 5 rfl) ?_
  obtain ⟨g39, hF39, hgz39⟩ := hI.a2 hm_b_38 hk_b_38
  obtain ⟨b_40, hm_b_40, hk_b_40, hv39⟩ := hgz39 pg (by omega)
  refine g_aldR (t := 3) hx hb hK hP hm_b_38 hF39 rfl (vp_in_nI (by omega) (by decide)) (by rw [nI_clamp (by omega)]; exact hv39) dX5_sell_86 ?_
  refine lv_dup hx hb dX5_sell_87 rfl ?_
  obtain ⟨fs41, x_41, hF41, hv41⟩ := hI.gL hm_b_40 hk_b_40 3 (ci := 2) ⟨rfl, rfl, by decide, rfl⟩
  refine g_get (ci := 2) (v := .long x_41) (C := RX2) (T := TX2) (N := 4) hx hb hts uB2 hown hK hP hm_b_40 hF41 rfl 3 (by decide) wm_320 hv41 dX5_sell_88 ?_
  refine lv_lconst (v := 1) hx hb dX5_sell_91 rfl ?_
  refine lv_iload hx hb dX5_sell_92 (lv_at hl 2 rfl) ?_
  refine lv_lshl hx hb dX5_sell_94 rfl ?_
  refine lv_topl (fun x_42 ex_42 => ?_)
  refine lv_lor hx hb dX5_sell_95 ?_
  refine lv_topl (fun x_43 ex_43 => ?_)
  obtain ⟨fs44, hF44, hn44, -⟩ := hI.o hm_b_40 hk_b_40 rfl (ci := 2) rfl (n := 4) rfl
  refine g_put (ci := 2) (v := .long x_43) (ty := .long) (C := RX2) (T := TX2) (N := 4) hx hb hts uB2 tyX2 tyX2_ok nmX2 hown hK hP hD hS hm_b_40 hF44 rfl 3 (by decide) wm_320 rfl (by decide +kernel) rfl rfl (by rw [hn44]; decide) dX5_sell_96 (fun H locs hP hD hS => ?_)
  obtain ⟨f_45, ef_45⟩ : ∃ z9, z9 = va_up f_35 b_40 (.inr (2, List.set fs44 3 (.long x_43))) := ⟨_, rfl⟩
  have hI := hI.p hm_b_40 hk_b_40 3 (ci := 2) (t := 2) (v := .long x_43) ⟨rfl, rfl, by decide, rfl⟩ hF44 fv2
  rw [← ef_45] at hP hD hI
  refine lv_aload hx hb dX5_sell_99 (lv_at hl 1 rfl) ?_
  obtain ⟨fs46, b_47, hF46, hv46, hm_b_47, hk_b_47⟩ := hI.gR hm_b_8 hk_b_8 5 (ci := 0) (t := 19) ⟨rfl, rfl, by decide, rfl⟩
  refine g_get (ci := 0) (v := .ref b_47) (C := RX0) (T := TX0) (N := 16) hx hb hts uB0 hown hK hP hm_b_8 hF46 rfl 5 (by decide) wm_290 hv46 dX5_sell_101 ?_
  refine lv_aload hx hb dX5_sell_104 (lv_at hl 0 rfl) ?_
  obtain ⟨fs48, hF48, -, -⟩ := hI.o hm_b_47 hk_b_47 rfl (ci := 4) rfl rfl
  refine gc_Mv (ci := 4) ⟨hx, hb, hml, hown, hts⟩ (k_X4_addShowing l dC dI K L915 f_45 hI b_47 hm_b_47 hk_b_47 q_9 hm_q_9 hk_q_9 (by rw [hsn_q_9]; exact Nat.le_refl _) hLn) 1 wm_510 wm_511 wm_512 wm_215 wm_513 (by decide +kernel) ⟨Nat.le_of_ble_eq_true rfl, Nat.le_of_ble_eq_true rfl⟩ hK rfl hm_b_47 hF48 rfl hl.1 rfl (Nat.le_of_ble_eq_true rfl) dX5_sell_106 ⟨Nat.le_of_ble_eq_true rfl, Nat.le_of_ble_eq_true rfl⟩ hLA hS hP (fun fw_49 H locs hpw hP hS => ?_)
  have hI := hpw
  have hD : va_D A (va_pl L915 fw_49) := g_D hLn hLA fw_49
  refine lv_aload hx hb dX5_sell_109 (lv_at hl 1 rfl) ?_
  obtain ⟨fs50, b_51, hF50, hv50, hm_b_51, hk_b_51⟩ := hI.gR hm_b_8 hk_b_8 5 (ci := 0) (t := 19) ⟨rfl, rfl, by decide, rfl⟩
  refine g_get (ci := 0) (v := .ref b_51) (C := RX0) (T := TX0) (N := 16) hx hb hts uB0 hown hK hP hm_b_8 hF50 rfl 5 (by decide) wm_290 hv50 dX5_sell_111 ?_
  refine lv_dup hx hb dX5_sell_114 rfl ?_
  obtain ⟨fs52, x_52, hF52, hv52⟩ := hI.gI hm_b_51 hk_b_51 2 (ci := 4) ⟨rfl, rfl, by decide, rfl⟩
  refine g_get (ci := 4) (v := .int x_52) (C := RX4) (T := TX4) (N := 8) hx hb hts uB4 hown hK hP hm_b_51 hF52 rfl 2 (by decide) wm_309 hv52 dX5_sell_115 ?_
  refine lv_aload hx hb dX5_sell_118 (lv_at hl 0 rfl) ?_
  obtain ⟨fs53, x_53, hF53, hv53⟩ := hI.gI hm_q_9 hk_q_9 5 (ci := 3) ⟨rfl, rfl, by decide, rfl⟩
  refine g_get (ci := 3) (v := .int x_53) (C := RX3) (T := TX3) (N := 12) hx hb hts uB3 hown hK hP hm_q_9 hF53 rfl 5 (by decide) wm_296 hv53 dX5_sell_120 ?_
  refine lv_iadd hx hb dX5_sell_123 ?_
  refine lv_topi (fun x_54 ex_54 => ?_)
  obtain ⟨fs55, hF55, hn55, -⟩ := hI.o hm_b_51 hk_b_51 rfl (ci := 4) rfl (n := 8) rfl
  refine g_put (ci := 4) (v := .int x_54) (ty := .int) (C := RX4) (T := TX4) (N := 8) hx hb hts uB4 tyX4 tyX4_ok nmX4 hown hK hP hD hS hm_b_51 hF55 rfl 2 (by decide) wm_309 rfl (by decide +kernel) rfl rfl (by rw [hn55]; decide) dX5_sell_124 (fun H locs hP hD hS => ?_)
  obtain ⟨f_56, ef_56⟩ : ∃ z9, z9 = va_up fw_49 b_51 (.inr (4, List.set fs55 2 (.int x_54))) := ⟨_, rfl⟩
  have hI := hI.p hm_b_51 hk_b_51 2 (ci := 4) (t := 1) (v := .int x_54) ⟨rfl, rfl, by decide, rfl⟩ hF55 fv1
  rw [← ef_56] at hP hD hI
  refine lv_aload hx hb dX5_sell_127 (lv_at hl 1 rfl) ?_
  obtain ⟨fs57, x_57, hF57, hv57⟩ := hI.gI hm_b_8 hk_b_8 1 (ci := 0) ⟨rfl, rfl, by decide, rfl⟩
  refine g_get (ci := 0) (v := .int x_57) (C := RX0) (T := TX0) (N := 16) hx hb hts uB0 hown hK hP hm_b_8 hF57 rfl 1 (by decide) wm_447 hv57 dX5_sell_129 ?_
  refine lv_if_eq (tgt := 144) hx hb dX5_sell_132 (by decide) (fun c_58 => ?_) (fun c_58 => ?_)
  · skip
    refine lv_aload_n hx hb dX5_sell_144 rfl (lv_at hl 3 rfl) ?_
    refine lv_aload hx hb dX5_sell_145 (lv_at hl 0 rfl) ?_
    obtain ⟨fs59, hF59, -, -⟩ := hI.o hm_h0 hk_h0 rfl (ci := 5) rfl rfl
    refine gc_Mv (ci := 5) ⟨hx, hb, hml, hown, hts⟩ (k_X5_spend l dC dI K L915 f_56 hI h0 hm_h0 hk_h0 q_9 hm_q_9 hk_q_9 hnp hnc hLn) 1 wm_304 wm_305 wm_306 wm_67 wm_307 (by decide +kernel) ⟨Nat.le_of_ble_eq_true rfl, Nat.le_of_ble_eq_true rfl⟩ hK rfl hm_h0 hF59 rfl hl.1 rfl (Nat.le_of_ble_eq_true rfl) dX5_sell_147 ⟨Nat.le_of_ble_eq_true rfl, Nat.le_of_ble_eq_true rfl⟩ hLA hS hP (fun fw_60 H locs hpw hP hS => ?_)
    obtain ⟨G_61, hI, hGSC⟩ := hpw
    have hD : va_D A (va_pl L915 fw_60) := g_D hLn hLA fw_60
    have hg12 := (hGSC 12 (by decide)).trans hg12
    have hg9 := (hGSC 9 (by decide)).trans hg9
    have hGS : gS [9, 11, 16] G G_61 := hGS.tr hGSC (by decide) (by decide)
    refine W.widen (k := 1) (n := 12) (Nat.le_of_ble_eq_true rfl) (Nat.le_of_ble_eq_true rfl) ?_
    exact W.vret hx hb hr (fun t ht hW => ⟨⟨(L915, fw_60), rfl, ⟨G_61, sn_13 q_9 + 1, kd_11, sn_13, hI, hCE, hLn, (fun a h => by have h9 := hLA a h; rw [← hAe] at h9; exact h9), hGS, hg9⟩, by show va_P (dC, dI) vwCl (va_pl L915 fw_60) t.heap; rw [ht]; exact hP⟩, hS.F ht⟩) hS.2.2 dX5_sell_150
  · skip
    refine lv_aload_n hx hb dX5_sell_135 rfl (lv_at hl 3 rfl) ?_
    refine lv_aload hx hb dX5_sell_136 (lv_at hl 0 rfl) ?_
    obtain ⟨fs62, hF62, -, -⟩ := hI.o hm_h0 hk_h0 rfl (ci := 5) rfl rfl
    refine gc_Mv (ci := 5) ⟨hx, hb, hml, hown, hts⟩ (k_X5_hold l dC dI K L915 f_56 hI h0 hm_h0 hk_h0 q_9 hm_q_9 hk_q_9 hnc hLn) 1 wm_514 wm_515 wm_516 wm_67 wm_517 (by decide +kernel) ⟨Nat.le_of_ble_eq_true rfl, Nat.le_of_ble_eq_true rfl⟩ hK rfl hm_h0 hF62 rfl hl.1 rfl (Nat.le_of_ble_eq_true rfl) dX5_sell_138 ⟨Nat.le_of_ble_eq_true rfl, Nat.le_of_ble_eq_true rfl⟩ hLA hS hP (fun fw_63 H locs hpw hP hS => ?_)
    obtain ⟨G_64, hI, hGSC⟩ := hpw
    have hD : va_D A (va_pl L915 fw_63) := g_D hLn hLA fw_63
    have hg12 := (hGSC 12 (by decide)).trans hg12
    have hg9 := (hGSC 9 (by decide)).trans hg9
    have hGS : gS [9, 11, 16] G G_64 := hGS.tr hGSC (by decide) (by decide)
    refine lv_goto (tgt := 150) hx hb dX5_sell_141 (by decide) ?_
    refine W.widen (k := 1) (n := 12) (Nat.le_of_ble_eq_true rfl) (Nat.le_of_ble_eq_true rfl) ?_
    exact W.vret hx hb hr (fun t ht hW => ⟨⟨(L915, fw_63), rfl, ⟨G_64, sn_13 q_9 + 1, kd_11, sn_13, hI, hCE, hLn, (fun a h => by have h9 := hLA a h; rw [← hAe] at h9; exact h9), hGS, hg9⟩, by show va_P (dC, dI) vwCl (va_pl L915 fw_63) t.heap; rw [ht]; exact hP⟩, hS.F ht⟩) hS.2.2 dX5_sell_150
