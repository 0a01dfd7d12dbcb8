theorem up3 {f : Nat → va_E} {a b c : Nat} (hab : a ≠ b) (hac : a ≠ c) (hbc : b ≠ c) (x x' y y' z : va_E) : va_up (va_up (va_up (va_up (va_up f a x) b y) c z) a x') b y' = va_up (va_up (va_up f a x') b y') c z := by
  funext q; simp only [va_up]; by_cases h1 : q = b <;> by_cases h2 : q = a <;> by_cases h3 : q = c <;> simp_all
theorem up3z {f : Nat → va_E} {a b c : Nat} (hab : a ≠ b) (hac : a ≠ c) (hbc : b ≠ c) (x x' y y' z z' : va_E) : va_up (va_up (va_up (va_up (va_up (va_up f a x) b y) c z) a x') b y') c z' = va_up (va_up (va_up f a x') b y') c z' := by
  funext q; simp only [va_up]; by_cases h1 : q = b <;> by_cases h2 : q = a <;> by_cases h3 : q = c <;> simp_all
theorem up3i {f : Nat → va_E} {a b c : Nat} {x y z : va_E} (ha : f a = x) (hb : f b = y) (hc : f c = z) : f = va_up (va_up (va_up f a x) b y) c z := by
  rw [← g_upself ha, ← g_upself hb, ← g_upself hc]
theorem set_self9 {l : List Value} {i : Nat} {v : Value} (h : l[i]? = some v) : l.set i v = l := by
  apply List.ext_getElem?
  intro j
  by_cases q : i = j
  · subst q
    rw [List.getElem?_set_self (List.getElem?_eq_some_iff.mp h).1]; exact h.symm
  · rw [List.getElem?_set_ne q]

set_option maxHeartbeats 4000000 in
set_option maxRecDepth 100000 in
theorem um_tick (l : Launch) (dC : Nat → ClassId) (dI : Nat → Nat → Nat) (K : Nat → ClassId) (L : List Nat) (f : Nat → va_E) (rt : Nat → Nat) {fm : List Value} (hC : mC rt L f fm) {g_state : Nat → Int32} (F_state : f (rt 32) = .inl (K 0, 1000, .inl g_state)) {g_saleTick : Nat → Int32} (F_saleTick : f (rt 26) = .inl (K 0, 1000, .inl g_saleTick)) {g_saleWait : Nat → Int32} (F_saleWait : f (rt 33) = .inl (K 0, 1000, .inl g_saleWait)) {g_sort : Nat → Int32} (F_sort : f (rt 10) = .inl (K 0, 40, .inl g_sort)) {g_dayBudget : Nat → Int32} (F_dayBudget : f (rt 15) = .inl (K 0, 40, .inl g_dayBudget)) {g_throttle : Nat → Int32} (F_throttle : f (rt 19) = .inl (K 0, 40, .inl g_throttle)) {g_saleOf : Nat → Int32} (F_saleOf : f (rt 30) = .inl (K 0, 1000, .inl g_saleOf)) {g_pays : Nat → Int32} (F_pays : f (rt 11) = .inl (K 0, 40, .inl g_pays)) {g_price : Nat → Int32} (F_price : f (rt 31) = .inl (K 0, 1000, .inl g_price)) {ns nc tk : Nat} {pc9 : Int32} (I_sales : fm[25]? = some (.int (nI ns))) (I_campaigns : fm[9]? = some (.int (nI nc))) (I_tick : fm[1]? = some (.int (nI tk))) (I_pace : fm[3]? = some (.int pc9)) (x : Int32) (hns : ns ≤ 1000) (hso : ∀ j, j < ns → vp_in (g_saleOf j) 40) (hnc : nc ≤ 40) (htk : tk ≤ 10000) (hLn : gN L) : gMi l yX6_tick cX6_tick 3 3 (dC, dI) K L f [.ref (rt 51), .int x] (fun r f' => (¬ ((1 ≤ x ∧ x ≤ 100) ∧ nI tk + x ≤ 10000) ∧ r = (-1) ∧ f' = f) ∨ (((1 ≤ x ∧ x ≤ 100) ∧ nI tk + x ≤ 10000) ∧ ∃ N : Nat, N ≤ 100 ∧ x = nI N ∧ tk + N ≤ 10000 ∧ r = nI (tk + N) ∧ ∃ g1 g2 : Nat → Int32, f' = va_up (va_up (va_up f (rt 51) (.inr (6, List.set fm 1 (.int (nI (tk + N)))))) (rt 32) (.inl (K 0, 1000, .inl g1))) (rt 19) (.inl (K 0, 40, .inl g2)))) := by
  refine Met.ofW (cc := cX6_tick) (maxL := 3) (ret := (some .int)) (by decide) rfl ?_
  intro p e s m args below meth c s₁ B hml hv
  obtain ⟨rfl, hP, hK⟩ := hv
  have F_m := hC.2.1
  have hD : va_D (fun q : Nat => q ∈ L) (va_pl L f) := g_D hLn (fun a h => h) f
  generalize hAe : (fun q : Nat => q ∈ L) = A at hD ⊢
  have hx := B.exec
  have hb := B.bytes
  have hr := B.returns
  have hlocks := B.notSynchronized
  have hts0 := atoms_spec (ws := Cond.code yX6_tick cX6_tick 3 (some .int) :: lw_B) B.pre
  have hts : ∀ w ∈ lw_B, w.before _ s = true := fun w h => hts0 w (List.mem_cons_of_mem _ h)
  have hown : s.vm.findClass RX6 = some m.cls := findClass_of_methodNamed B.named
  have hS : va_S A s.heap s.heap [] := va_S.rf
  have hl := lv_entry ([.ref (rt 51), .int x]) (n := 3) (Nat.le_of_ble_eq_true rfl)
  rw [lg_entry_eq]
  generalize (lg_sl ([.ref (rt 51), .int x]) ++ List.replicate (3 - (lg_sl ([.ref (rt 51), .int x])).length) Slot.unset).toArray = ls at hl ⊢
  have hl : lv_has ls 3 [(0, .ref (rt 51)), (1, .int x)] := hl
  refine lv_iload_n hx hb dX6_tick_0 rfl (lv_at hl 1 rfl) ?_
  refine lv_iconst (v := 1) hx hb dX6_tick_1 (by decide) ?_
  refine lv_bipush (v := 100) hx hb dX6_tick_2 (by decide) ?_
  refine k_S ⟨hx, hb, hml, hown, hts⟩ (c_in l x 1 100) 3 wm_69 wm_70 wm_8 wm_71 (by decide +kernel) ⟨Nat.le_of_ble_eq_true rfl, Nat.le_of_ble_eq_true rfl⟩ rfl hl.1 rfl (Nat.le_of_ble_eq_true rfl) dX6_tick_4 ⟨Nat.le_of_ble_eq_true rfl, Nat.le_of_ble_eq_true rfl⟩ hS hP (fun r_1 H locs hpr_1 hP hS => ?_)
  refine lv_if_eq (tgt := 22) hx hb dX6_tick_7 (by decide) (fun c_2 => ?_) (fun c_2 => ?_)
  · skip
    have g_2 := k_ff hpr_1 c_2
    refine lv_iconst (v := (-1)) hx hb dX6_tick_22 (by decide) ?_
    exact W.iret (v := (-1)) hx hb hr (fun t ht hW => ⟨⟨(-1), f, rfl, (Or.inl ⟨by simp only [Int32.lt_iff_toInt_lt, Int32.le_iff_toInt_le, ← Int32.toInt_inj, Int32.reduceToInt] at g_2 ⊢; omega, rfl, rfl⟩), by show va_P (dC, dI) vwCl (va_pl L f) t.heap; rw [ht]; exact hP⟩, hS.F ht⟩) hS.2.2 dX6_tick_23
  · skip
    have g_2 := k_ft hpr_1 c_2
    obtain ⟨N, hN1, hN, rfl⟩ := k_r100 g_2
    refine lv_aload_n hx hb dX6_tick_10 rfl (lv_at hl 0 rfl) ?_
    refine g_get (ci := 6) (v := .int (nI tk)) (C := RX6) (T := TX6) (N := 51) hx hb hts uB6 hown hK hP (hC.1.1 51 (by decide)) F_m rfl 1 (by decide) wm_13 I_tick dX6_tick_11 ?_
    refine lv_iload_n hx hb dX6_tick_14 rfl (lv_at hl 1 rfl) ?_
    refine lv_iadd hx hb dX6_tick_15 ?_
    refine lv_topi (fun x_3 ex_3 => ?_)
    refine lv_sipush (v := 10000) hx hb dX6_tick_16 (by decide) ?_
    refine lv_icmp_le (tgt := 24) hx hb dX6_tick_19 (by decide) (fun c_4 => ?_) (fun c_4 => ?_)
    · skip
      rw [ex_3] at c_4
      refine lv_iconst (v := 0) hx hb dX6_tick_24 (by decide) ?_
      refine lv_istore_n (lv' := [(2, .int 0), (0, .ref (rt 51)), (1, .int (nI N))]) hx hb dX6_tick_25 rfl hl (by decide) rfl (fun ls hl => ?_)
      have hn1 : rt 51 ≠ rt 32 := (fun q => absurd (hC.1.2 51 (by decide) 32 (by decide) q) (by decide))
      have hn2 : rt 51 ≠ rt 19 := (fun q => absurd (hC.1.2 51 (by decide) 19 (by decide) q) (by decide))
      have hn3 : rt 32 ≠ rt 19 := (fun q => absurd (hC.1.2 32 (by decide) 19 (by decide) q) (by decide))
      refine k_loop (fun n H locs ls => ∃ (j : Nat) (fv : Nat → va_E) (g1 g2 : Nat → Int32), j + n = N ∧ fv = va_up (va_up (va_up f (rt 51) (.inr (6, List.set fm 1 (.int (nI (tk + j)))))) (rt 32) (.inl (K 0, 1000, .inl g1))) (rt 19) (.inl (K 0, 40, .inl g2)) ∧ va_P (dC, dI) vwCl (va_pl L fv) H ∧ va_S A s.heap H locs ∧ lv_has ls 3 [(0, .ref (rt 51)), (1, .int (nI N)), (2, .int (nI j))]) (fun H locs ls hI => ?_) (fun n H locs ls hI ih => ?_) N _ _ _ ⟨0, f, _, _, by omega, up3i (by rw [Nat.add_zero, set_self9 I_tick]; exact F_m) F_state F_throttle, hP, hS, lv_sub hl [1, 2, 0] rfl⟩
      · skip
        obtain ⟨j, fv, g1, g2, hjn, efv, hP, hS, hl⟩ := hI
        obtain ⟨fmj, efm⟩ : ∃ z9, z9 = List.set fm 1 (.int (nI (tk + j))) := ⟨_, rfl⟩
        rw [← efm] at efv
        have F_saleTick : fv (rt 26) = .inl (K 0, 1000, .inl g_saleTick) := by rw [efv, va_up_ne _ _ (fun q => absurd (hC.1.2 26 (by decide) 19 (by decide) q) (by decide)), va_up_ne _ _ (fun q => absurd (hC.1.2 26 (by decide) 32 (by decide) q) (by decide)), va_up_ne _ _ (fun q => absurd (hC.1.2 26 (by decide) 51 (by decide) q) (by decide))]; exact F_saleTick
        have F_saleWait : fv (rt 33) = .inl (K 0, 1000, .inl g_saleWait) := by rw [efv, va_up_ne _ _ (fun q => absurd (hC.1.2 33 (by decide) 19 (by decide) q) (by decide)), va_up_ne _ _ (fun q => absurd (hC.1.2 33 (by decide) 32 (by decide) q) (by decide)), va_up_ne _ _ (fun q => absurd (hC.1.2 33 (by decide) 51 (by decide) q) (by decide))]; exact F_saleWait
        have F_sort : fv (rt 10) = .inl (K 0, 40, .inl g_sort) := by rw [efv, va_up_ne _ _ (fun q => absurd (hC.1.2 10 (by decide) 19 (by decide) q) (by decide)), va_up_ne _ _ (fun q => absurd (hC.1.2 10 (by decide) 32 (by decide) q) (by decide)), va_up_ne _ _ (fun q => absurd (hC.1.2 10 (by decide) 51 (by decide) q) (by decide))]; exact F_sort
        have F_dayBudget : fv (rt 15) = .inl (K 0, 40, .inl g_dayBudget) := by rw [efv, va_up_ne _ _ (fun q => absurd (hC.1.2 15 (by decide) 19 (by decide) q) (by decide)), va_up_ne _ _ (fun q => absurd (hC.1.2 15 (by decide) 32 (by decide) q) (by decide)), va_up_ne _ _ (fun q => absurd (hC.1.2 15 (by decide) 51 (by decide) q) (by decide))]; exact F_dayBudget
        have F_saleOf : fv (rt 30) = .inl (K 0, 1000, .inl g_saleOf) := by rw [efv, va_up_ne _ _ (fun q => absurd (hC.1.2 30 (by decide) 19 (by decide) q) (by decide)), va_up_ne _ _ (fun q => absurd (hC.1.2 30 (by decide) 32 (by decide) q) (by decide)), va_up_ne _ _ (fun q => absurd (hC.1.2 30 (by decide) 51 (by decide) q) (by decide))]; exact F_saleOf
        have F_pays : fv (rt 11) = .inl (K 0, 40, .inl g_pays) := by rw [efv, va_up_ne _ _ (fun q => absurd (hC.1.2 11 (by decide) 19 (by decide) q) (by decide)), va_up_ne _ _ (fun q => absurd (hC.1.2 11 (by decide) 32 (by decide) q) (by decide)), va_up_ne _ _ (fun q => absurd (hC.1.2 11 (by decide) 51 (by decide) q) (by decide))]; exact F_pays
        have F_price : fv (rt 31) = .inl (K 0, 1000, .inl g_price) := by rw [efv, va_up_ne _ _ (fun q => absurd (hC.1.2 31 (by decide) 19 (by decide) q) (by decide)), va_up_ne _ _ (fun q => absurd (hC.1.2 31 (by decide) 32 (by decide) q) (by decide)), va_up_ne _ _ (fun q => absurd (hC.1.2 31 (by decide) 51 (by decide) q) (by decide))]; exact F_price
        have F_m : fv (rt 51) = .inr (6, fmj) := by rw [efv, va_up_ne _ _ hn2, va_up_ne _ _ hn1, va_up_self]
        have F_state : fv (rt 32) = .inl (K 0, 1000, .inl g1) := by rw [efv, va_up_ne _ _ hn3, va_up_self]
        have F_throttle : fv (rt 19) = .inl (K 0, 40, .inl g2) := by rw [efv, va_up_self]
        have I_sales : fmj[25]? = some (.int (nI ns)) := by rw [efm, List.getElem?_set_ne (by decide)]; exact I_sales
        have I_campaigns : fmj[9]? = some (.int (nI nc)) := by rw [efm, List.getElem?_set_ne (by decide)]; exact I_campaigns
        have I_pace : fmj[3]? = some (.int pc9) := by rw [efm, List.getElem?_set_ne (by decide)]; exact I_pace
        have I_tick : fmj[1]? = some (.int (nI (tk + j))) := by rw [efm]; exact List.getElem?_set_self (by rw [hC.2.2.1]; decide)
        have hC : mC rt L fv fmj := ⟨hC.1, F_m, by rw [efm, List.length_set]; exact hC.2.2.1, fun k h => by rw [efm, List.getElem?_set_ne (fun q => by rw [← q] at h; exact absurd h (by decide))]; exact hC.2.2.2 k h⟩
        refine lv_iload_n hx hb dX6_tick_26 rfl (lv_at hl 2 rfl) ?_
        refine lv_iload_n hx hb dX6_tick_27 rfl (lv_at hl 1 rfl) ?_
        refine lv_icmp_ge (tgt := 41) hx hb dX6_tick_28 (by decide) (fun c_5 => ?_) (fun c_5 => ?_)
        · skip
          refine lv_aload_n hx hb dX6_tick_41 rfl (lv_at hl 0 rfl) ?_
          refine g_get (ci := 6) (v := .int (nI (tk + j))) (C := RX6) (T := TX6) (N := 51) hx hb hts uB6 hown hK hP (hC.1.1 51 (by decide)) F_m rfl 1 (by decide) wm_13 I_tick dX6_tick_42 ?_
          exact W.iret (v := nI (tk + j)) hx hb hr (fun t ht hW => ⟨⟨nI (tk + j), fv, rfl, (Or.inr ⟨⟨g_2, c_4⟩, N, hN, rfl, (nI_leI (b := 10000) (by omega) (by decide)).mp (by rw [← nI_add]; exact c_4), by rw [show j = N by omega], g1, g2, by rw [efv, efm, show j = N by omega]⟩), by show va_P (dC, dI) vwCl (va_pl L fv) t.heap; rw [ht]; exact hP⟩, hS.F ht⟩) hS.2.2 dX6_tick_45
        · skip
          exact absurd (nI_le (by omega) (by omega)) c_5
      · skip
        obtain ⟨j, fv, g1, g2, hjn, efv, hP, hS, hl⟩ := hI
        obtain ⟨fmj, efm⟩ : ∃ z9, z9 = List.set fm 1 (.int (nI (tk + j))) := ⟨_, rfl⟩
        rw [← efm] at efv
        have F_saleTick : fv (rt 26) = .inl (K 0, 1000, .inl g_saleTick) := by rw [efv, va_up_ne _ _ (fun q => absurd (hC.1.2 26 (by decide) 19 (by decide) q) (by decide)), va_up_ne _ _ (fun q => absurd (hC.1.2 26 (by decide) 32 (by decide) q) (by decide)), va_up_ne _ _ (fun q => absurd (hC.1.2 26 (by decide) 51 (by decide) q) (by decide))]; exact F_saleTick
        have F_saleWait : fv (rt 33) = .inl (K 0, 1000, .inl g_saleWait) := by rw [efv, va_up_ne _ _ (fun q => absurd (hC.1.2 33 (by decide) 19 (by decide) q) (by decide)), va_up_ne _ _ (fun q => absurd (hC.1.2 33 (by decide) 32 (by decide) q) (by decide)), va_up_ne _ _ (fun q => absurd (hC.1.2 33 (by decide) 51 (by decide) q) (by decide))]; exact F_saleWait
        have F_sort : fv (rt 10) = .inl (K 0, 40, .inl g_sort) := by rw [efv, va_up_ne _ _ (fun q => absurd (hC.1.2 10 (by decide) 19 (by decide) q) (by decide)), va_up_ne _ _ (fun q => absurd (hC.1.2 10 (by decide) 32 (by decide) q) (by decide)), va_up_ne _ _ (fun q => absurd (hC.1.2 10 (by decide) 51 (by decide) q) (by decide))]; exact F_sort
        have F_dayBudget : fv (rt 15) = .inl (K 0, 40, .inl g_dayBudget) := by rw [efv, va_up_ne _ _ (fun q => absurd (hC.1.2 15 (by decide) 19 (by decide) q) (by decide)), va_up_ne _ _ (fun q => absurd (hC.1.2 15 (by decide) 32 (by decide) q) (by decide)), va_up_ne _ _ (fun q => absurd (hC.1.2 15 (by decide) 51 (by decide) q) (by decide))]; exact F_dayBudget
        have F_saleOf : fv (rt 30) = .inl (K 0, 1000, .inl g_saleOf) := by rw [efv, va_up_ne _ _ (fun q => absurd (hC.1.2 30 (by decide) 19 (by decide) q) (by decide)), va_up_ne _ _ (fun q => absurd (hC.1.2 30 (by decide) 32 (by decide) q) (by decide)), va_up_ne _ _ (fun q => absurd (hC.1.2 30 (by decide) 51 (by decide) q) (by decide))]; exact F_saleOf
        have F_pays : fv (rt 11) = .inl (K 0, 40, .inl g_pays) := by rw [efv, va_up_ne _ _ (fun q => absurd (hC.1.2 11 (by decide) 19 (by decide) q) (by decide)), va_up_ne _ _ (fun q => absurd (hC.1.2 11 (by decide) 32 (by decide) q) (by decide)), va_up_ne _ _ (fun q => absurd (hC.1.2 11 (by decide) 51 (by decide) q) (by decide))]; exact F_pays
        have F_price : fv (rt 31) = .inl (K 0, 1000, .inl g_price) := by rw [efv, va_up_ne _ _ (fun q => absurd (hC.1.2 31 (by decide) 19 (by decide) q) (by decide)), va_up_ne _ _ (fun q => absurd (hC.1.2 31 (by decide) 32 (by decide) q) (by decide)), va_up_ne _ _ (fun q => absurd (hC.1.2 31 (by decide) 51 (by decide) q) (by decide))]; exact F_price
        have F_m : fv (rt 51) = .inr (6, fmj) := by rw [efv, va_up_ne _ _ hn2, va_up_ne _ _ hn1, va_up_self]
        have F_state : fv (rt 32) = .inl (K 0, 1000, .inl g1) := by rw [efv, va_up_ne _ _ hn3, va_up_self]
        have F_throttle : fv (rt 19) = .inl (K 0, 40, .inl g2) := by rw [efv, va_up_self]
        have I_sales : fmj[25]? = some (.int (nI ns)) := by rw [efm, List.getElem?_set_ne (by decide)]; exact I_sales
        have I_campaigns : fmj[9]? = some (.int (nI nc)) := by rw [efm, List.getElem?_set_ne (by decide)]; exact I_campaigns
        have I_pace : fmj[3]? = some (.int pc9) := by rw [efm, List.getElem?_set_ne (by decide)]; exact I_pace
        have I_tick : fmj[1]? = some (.int (nI (tk + j))) := by rw [efm]; exact List.getElem?_set_self (by rw [hC.2.2.1]; decide)
        have hC : mC rt L fv fmj := ⟨hC.1, F_m, by rw [efm, List.length_set]; exact hC.2.2.1, fun k h => by rw [efm, List.getElem?_set_ne (fun q => by rw [← q] at h; exact absurd h (by decide))]; exact hC.2.2.2 k h⟩
        refine lv_iload_n hx hb dX6_tick_26 rfl (lv_at hl 2 rfl) ?_
        refine lv_iload_n hx hb dX6_tick_27 rfl (lv_at hl 1 rfl) ?_
        refine lv_icmp_ge (tgt := 41) hx hb dX6_tick_28 (by decide) (fun c_6 => ?_) (fun c_6 => ?_)
        · skip
          exact absurd c_6 (nI_ge (by omega) (by omega))
        · skip
          refine lv_aload_n hx hb dX6_tick_31 rfl (lv_at hl 0 rfl) ?_
          refine gc_Mv (ci := 6) ⟨hx, hb, hml, hown, hts⟩ (um_goesBy l dC dI K L fv rt hC F_state F_saleTick F_saleWait F_sort F_dayBudget F_throttle F_saleOf F_pays F_price I_sales I_campaigns I_tick I_pace hns hso hnc hLn) 0 wm_126 wm_127 wm_128 wm_8 wm_129 (by decide +kernel) ⟨Nat.le_of_ble_eq_true rfl, Nat.le_of_ble_eq_true rfl⟩ hK rfl (hC.1.1 51 (by decide)) F_m rfl hl.1 rfl (Nat.le_of_ble_eq_true rfl) dX6_tick_32 ⟨Nat.le_of_ble_eq_true rfl, Nat.le_of_ble_eq_true rfl⟩ (fun a h => by rw [← hAe]; exact h) hS hP (fun fw H locs hpw hP hS => ?_)
          obtain ⟨g3, g4, efw⟩ : ∃ g3 g4 : Nat → Int32, fw = va_up (va_up (va_up f (rt 51) (.inr (6, List.set fm 1 (.int (nI (tk + (j + 1))))))) (rt 32) (.inl (K 0, 1000, .inl g3))) (rt 19) (.inl (K 0, 40, .inl g4)) := by
            rcases hpw with ⟨g3, hpw⟩ | ⟨g3, g4, hpw⟩
            · exact ⟨g3, _, by rw [hpw, efv, efm, List.set_set]; exact up3 hn1 hn2 hn3 _ _ _ _ _⟩
            · exact ⟨g3, g4, by rw [hpw, efv, efm, List.set_set]; exact up3z hn1 hn2 hn3 _ _ _ _ _ _⟩
          obtain ⟨x_7, ex_7⟩ : ∃ y : Int32, y = (nI j) + 1 := ⟨_, rfl⟩
          refine lv_iinc (v := x_7) (lv' := [(2, .int x_7), (0, .ref (rt 51)), (1, .int (nI N))]) hx hb dX6_tick_35 hl (k := 2) rfl (by rw [ex_7]; rfl) (by decide) rfl (fun ls hl => ?_)
          refine lv_goto (tgt := 26) hx hb dX6_tick_38 (by decide) ?_
          obtain rfl : x_7 = nI (j + 1) := ex_7.trans (nI_1 j)
          exact ih _ _ _ ⟨j + 1, fw, g3, g4, by omega, efw, hP, hS, lv_sub hl [1, 2, 0] rfl⟩
    · skip
      rw [ex_3] at c_4
      refine lv_iconst (v := (-1)) hx hb dX6_tick_22 (by decide) ?_
      exact W.iret (v := (-1)) hx hb hr (fun t ht hW => ⟨⟨(-1), f, rfl, (Or.inl ⟨by simp only [Int32.lt_iff_toInt_lt, Int32.le_iff_toInt_le, ← Int32.toInt_inj, Int32.reduceToInt] at g_2 c_4 ⊢; omega, rfl, rfl⟩), by show va_P (dC, dI) vwCl (va_pl L f) t.heap; rw [ht]; exact hP⟩, hS.F ht⟩) hS.2.2 dX6_tick_23
