theorem k_ix {x : Int32} {n : Nat} (h : 0 ≤ x ∧ x ≤ nI n - 1) (hn : n ≤ 1000) : ∃ q : Nat, q < n ∧ x = nI q := by
  obtain ⟨j, hj, rfl⟩ := nI_of (x := x) (by have h1 := h.1; simp only [Int32.lt_iff_toInt_lt, Int32.le_iff_toInt_le] at h1 ⊢; omega)
  have h2 := h.2
  rcases Nat.eq_zero_or_pos n with q | q
  · subst q
    rw [show nI 0 - 1 = (-1 : Int32) from by decide] at h2
    have h1 := h.1
    simp only [Int32.le_iff_toInt_le, Int32.reduceToInt] at h1 h2
    have := (show (-1 : Int32).toInt = -1 from rfl)
    omega
  · obtain ⟨n9, rfl⟩ : ∃ n9, n = n9 + 1 := ⟨n - 1, by omega⟩
    rw [nI_pred] at h2
    exact ⟨j, by have := (nI_leI hj (by omega)).mp h2; omega, rfl⟩
set_option maxHeartbeats 4000000 in
set_option maxRecDepth 100000 in
theorem m_isPage (l : Launch) (dC : Nat → ClassId) (dI : Nat → Nat → Nat) (K : Nat → ClassId) (L : List Nat) (f : Nat → va_E) (rt : Nat → Nat) {fm : List Value} (hC : mC rt L f fm) {n9 : Int32} (I_pages : fm[5]? = some (.int n9)) (x : Int32) : gR l yX6_isPage cX6_isPage 2 .boolean 1 (dC, dI) K L f [.ref (rt 51), .int x] (fun r => r = if 0 ≤ x ∧ x ≤ n9 - 1 then 1 else 0) := by
  refine Met.ofW (cc := cX6_isPage) (maxL := 2) (ret := some .boolean) (by decide) rfl ?_
  intro p e s m args below meth c s₁ B hml hv
  obtain ⟨rfl, hP, hK⟩ := hv
  have F_m := hC.2.1
  have hx := B.exec
  have hb := B.bytes
  have hr := B.returns
  have hlocks := B.notSynchronized
  have hts0 := atoms_spec (ws := Cond.code yX6_isPage cX6_isPage 2 (some .boolean) :: lw_B) B.pre
  have hts : ∀ w ∈ lw_B, w.before _ s = true := fun w h => hts0 w (List.mem_cons_of_mem _ h)
  have hown : s.vm.findClass RX6 = some m.cls := findClass_of_methodNamed B.named
  have hS : va_S (fun _ => False) s.heap s.heap [] := va_S.rf
  have hl := lv_entry ([.ref (rt 51), .int x]) (n := 2) (Nat.le_of_ble_eq_true rfl)
  rw [lg_entry_eq]
  generalize (lg_sl ([.ref (rt 51), .int x]) ++ List.replicate (2 - (lg_sl ([.ref (rt 51), .int x])).length) Slot.unset).toArray = ls at hl ⊢
  have hl : lv_has ls 2 [(0, .ref (rt 51)), (1, .int x)] := hl
  refine lv_iload_n hx hb dX6_isPage_0 rfl (lv_at hl 1 rfl) ?_
  refine lv_iconst (v := 0) hx hb dX6_isPage_1 (by decide) ?_
  refine lv_aload_n hx hb dX6_isPage_2 rfl (lv_at hl 0 rfl) ?_
  refine g_get (ci := 6) (v := .int n9) (C := RX6) (T := TX6) (N := 51) hx hb hts uB6 hown hK hP (hC.1.1 51 (by decide)) F_m rfl 5 (by decide) wm_75 I_pages dX6_isPage_3 ?_
  refine lv_iconst (v := 1) hx hb dX6_isPage_6 (by decide) ?_
  refine lv_isub hx hb dX6_isPage_7 ?_
  refine lv_topi (fun x_1 ex_1 => ?_)
  refine k_S ⟨hx, hb, hml, hown, hts⟩ (c_in l x 0 x_1) 3 wm_69 wm_70 wm_8 wm_71 (by decide +kernel) ⟨Nat.le_of_ble_eq_true rfl, Nat.le_of_ble_eq_true rfl⟩ rfl hl.1 rfl (Nat.le_of_ble_eq_true rfl) dX6_isPage_8 ⟨Nat.le_of_ble_eq_true rfl, Nat.le_of_ble_eq_true rfl⟩ hS hP (fun r_2 H locs hpr_2 hP hS => ?_)
  exact W.zret (v := r_2) hx hb hr (by rw [hpr_2]; split <;> rfl) (fun t ht hW => ⟨⟨r_2, (), rfl, (by rw [hpr_2, ex_1]), trivial⟩, hS.F ht⟩) hS.2.2 dX6_isPage_11
set_option maxHeartbeats 4000000 in
set_option maxRecDepth 100000 in
theorem m_isCampaign (l : Launch) (dC : Nat → ClassId) (dI : Nat → Nat → Nat) (K : Nat → ClassId) (L : List Nat) (f : Nat → va_E) (rt : Nat → Nat) {fm : List Value} (hC : mC rt L f fm) {n9 : Int32} (I_campaigns : fm[9]? = some (.int n9)) (x : Int32) : gR l yX6_isCampaign cX6_isCampaign 2 .boolean 1 (dC, dI) K L f [.ref (rt 51), .int x] (fun r => r = if 0 ≤ x ∧ x ≤ n9 - 1 then 1 else 0) := by
  refine Met.ofW (cc := cX6_isCampaign) (maxL := 2) (ret := some .boolean) (by decide) rfl ?_
  intro p e s m args below meth c s₁ B hml hv
  obtain ⟨rfl, hP, hK⟩ := hv
  have F_m := hC.2.1
  have hx := B.exec
  have hb := B.bytes
  have hr := B.returns
  have hlocks := B.notSynchronized
  have hts0 := atoms_spec (ws := Cond.code yX6_isCampaign cX6_isCampaign 2 (some .boolean) :: lw_B) B.pre
  have hts : ∀ w ∈ lw_B, w.before _ s = true := fun w h => hts0 w (List.mem_cons_of_mem _ h)
  have hown : s.vm.findClass RX6 = some m.cls := findClass_of_methodNamed B.named
  have hS : va_S (fun _ => False) s.heap s.heap [] := va_S.rf
  have hl := lv_entry ([.ref (rt 51), .int x]) (n := 2) (Nat.le_of_ble_eq_true rfl)
  rw [lg_entry_eq]
  generalize (lg_sl ([.ref (rt 51), .int x]) ++ List.replicate (2 - (lg_sl ([.ref (rt 51), .int x])).length) Slot.unset).toArray = ls at hl ⊢
  have hl : lv_has ls 2 [(0, .ref (rt 51)), (1, .int x)] := hl
  refine lv_iload_n hx hb dX6_isCampaign_0 rfl (lv_at hl 1 rfl) ?_
  refine lv_iconst (v := 0) hx hb dX6_isCampaign_1 (by decide) ?_
  refine lv_aload_n hx hb dX6_isCampaign_2 rfl (lv_at hl 0 rfl) ?_
  refine g_get (ci := 6) (v := .int n9) (C := RX6) (T := TX6) (N := 51) hx hb hts uB6 hown hK hP (hC.1.1 51 (by decide)) F_m rfl 9 (by decide) wm_76 I_campaigns dX6_isCampaign_3 ?_
  refine lv_iconst (v := 1) hx hb dX6_isCampaign_6 (by decide) ?_
  refine lv_isub hx hb dX6_isCampaign_7 ?_
  refine lv_topi (fun x_1 ex_1 => ?_)
  refine k_S ⟨hx, hb, hml, hown, hts⟩ (c_in l x 0 x_1) 3 wm_69 wm_70 wm_8 wm_71 (by decide +kernel) ⟨Nat.le_of_ble_eq_true rfl, Nat.le_of_ble_eq_true rfl⟩ rfl hl.1 rfl (Nat.le_of_ble_eq_true rfl) dX6_isCampaign_8 ⟨Nat.le_of_ble_eq_true rfl, Nat.le_of_ble_eq_true rfl⟩ hS hP (fun r_2 H locs hpr_2 hP hS => ?_)
  exact W.zret (v := r_2) hx hb hr (by rw [hpr_2]; split <;> rfl) (fun t ht hW => ⟨⟨r_2, (), rfl, (by rw [hpr_2, ex_1]), trivial⟩, hS.F ht⟩) hS.2.2 dX6_isCampaign_11
set_option maxHeartbeats 4000000 in
set_option maxRecDepth 100000 in
theorem m_isSale (l : Launch) (dC : Nat → ClassId) (dI : Nat → Nat → Nat) (K : Nat → ClassId) (L : List Nat) (f : Nat → va_E) (rt : Nat → Nat) {fm : List Value} (hC : mC rt L f fm) {n9 : Int32} (I_sales : fm[25]? = some (.int n9)) (x : Int32) : gR l yX6_isSale cX6_isSale 2 .boolean 1 (dC, dI) K L f [.ref (rt 51), .int x] (fun r => r = if 0 ≤ x ∧ x ≤ n9 - 1 then 1 else 0) := by
  refine Met.ofW (cc := cX6_isSale) (maxL := 2) (ret := some .boolean) (by decide) rfl ?_
  intro p e s m args below meth c s₁ B hml hv
  obtain ⟨rfl, hP, hK⟩ := hv
  have F_m := hC.2.1
  have hx := B.exec
  have hb := B.bytes
  have hr := B.returns
  have hlocks := B.notSynchronized
  have hts0 := atoms_spec (ws := Cond.code yX6_isSale cX6_isSale 2 (some .boolean) :: lw_B) B.pre
  have hts : ∀ w ∈ lw_B, w.before _ s = true := fun w h => hts0 w (List.mem_cons_of_mem _ h)
  have hown : s.vm.findClass RX6 = some m.cls := findClass_of_methodNamed B.named
  have hS : va_S (fun _ => False) s.heap s.heap [] := va_S.rf
  have hl := lv_entry ([.ref (rt 51), .int x]) (n := 2) (Nat.le_of_ble_eq_true rfl)
  rw [lg_entry_eq]
  generalize (lg_sl ([.ref (rt 51), .int x]) ++ List.replicate (2 - (lg_sl ([.ref (rt 51), .int x])).length) Slot.unset).toArray = ls at hl ⊢
  have hl : lv_has ls 2 [(0, .ref (rt 51)), (1, .int x)] := hl
  refine lv_iload_n hx hb dX6_isSale_0 rfl (lv_at hl 1 rfl) ?_
  refine lv_iconst (v := 0) hx hb dX6_isSale_1 (by decide) ?_
  refine lv_aload_n hx hb dX6_isSale_2 rfl (lv_at hl 0 rfl) ?_
  refine g_get (ci := 6) (v := .int n9) (C := RX6) (T := TX6) (N := 51) hx hb hts uB6 hown hK hP (hC.1.1 51 (by decide)) F_m rfl 25 (by decide) wm_4 I_sales dX6_isSale_3 ?_
  refine lv_iconst (v := 1) hx hb dX6_isSale_6 (by decide) ?_
  refine lv_isub hx hb dX6_isSale_7 ?_
  refine lv_topi (fun x_1 ex_1 => ?_)
  refine k_S ⟨hx, hb, hml, hown, hts⟩ (c_in l x 0 x_1) 3 wm_69 wm_70 wm_8 wm_71 (by decide +kernel) ⟨Nat.le_of_ble_eq_true rfl, Nat.le_of_ble_eq_true rfl⟩ rfl hl.1 rfl (Nat.le_of_ble_eq_true rfl) dX6_isSale_8 ⟨Nat.le_of_ble_eq_true rfl, Nat.le_of_ble_eq_true rfl⟩ hS hP (fun r_2 H locs hpr_2 hP hS => ?_)
  exact W.zret (v := r_2) hx hb hr (by rw [hpr_2]; split <;> rfl) (fun t ht hW => ⟨⟨r_2, (), rfl, (by rw [hpr_2, ex_1]), trivial⟩, hS.F ht⟩) hS.2.2 dX6_isSale_11
set_option maxHeartbeats 4000000 in
set_option maxRecDepth 100000 in
theorem um_budget (l : Launch) (dC : Nat → ClassId) (dI : Nat → Nat → Nat) (K : Nat → ClassId) (L : List Nat) (f : Nat → va_E) (rt : Nat → Nat) {fm : List Value} (hC : mC rt L f fm) {g_dayBudget : Nat → Int32} (F_dayBudget : f (rt 15) = .inl (K 0, 40, .inl g_dayBudget)) {g_allBudget : Nat → Int32} (F_allBudget : f (rt 16) = .inl (K 0, 40, .inl g_allBudget)) {nc : Nat} (I_campaigns : fm[9]? = some (.int (nI nc))) (x : Int32) (y : Int32) (z : Int32) (hnc : nc ≤ 40) (hLn : gN L) : gMi l yX6_budget cX6_budget 4 2 (dC, dI) K L f [.ref (rt 51), .int x, .int y, .int z] (fun r f' => (¬ ((0 ≤ x ∧ x ≤ nI nc - 1) ∧ (0 ≤ y ∧ y ≤ 1000000) ∧ (0 ≤ z ∧ z ≤ 1000000)) ∧ r = (-1) ∧ f' = f) ∨ (((0 ≤ x ∧ x ≤ nI nc - 1) ∧ (0 ≤ y ∧ y ≤ 1000000) ∧ (0 ≤ z ∧ z ≤ 1000000)) ∧ r = 1 ∧ f' = va_up (va_up (f) (rt 15) (.inl (K 0, 40, .inl (upd g_dayBudget (Int32.toNatClampNeg x) y)))) (rt 16) (.inl (K 0, 40, .inl (upd g_allBudget (Int32.toNatClampNeg x) z))))) := by
  refine Met.ofW (cc := cX6_budget) (maxL := 4) (ret := (some .int)) (by decide) rfl ?_
  intro p e s m args below meth c s₁ B hml hv
  obtain ⟨rfl, hP, hK⟩ := hv
  have F_m := hC.2.1
  have hD : va_D (fun q : Nat => q ∈ L) (va_pl L f) := g_D hLn (fun a h => h) f
  generalize hAe : (fun q : Nat => q ∈ L) = A at hD ⊢
  have hx := B.exec
  have hb := B.bytes
  have hr := B.returns
  have hlocks := B.notSynchronized
  have hts0 := atoms_spec (ws := Cond.code yX6_budget cX6_budget 4 (some .int) :: lw_B) B.pre
  have hts : ∀ w ∈ lw_B, w.before _ s = true := fun w h => hts0 w (List.mem_cons_of_mem _ h)
  have hown : s.vm.findClass RX6 = some m.cls := findClass_of_methodNamed B.named
  have hS : va_S A s.heap s.heap [] := va_S.rf
  have hl := lv_entry ([.ref (rt 51), .int x, .int y, .int z]) (n := 4) (Nat.le_of_ble_eq_true rfl)
  rw [lg_entry_eq]
  generalize (lg_sl ([.ref (rt 51), .int x, .int y, .int z]) ++ List.replicate (4 - (lg_sl ([.ref (rt 51), .int x, .int y, .int z])).length) Slot.unset).toArray = ls at hl ⊢
  have hl : lv_has ls 4 [(0, .ref (rt 51)), (1, .int x), (2, .int y), (3, .int z)] := hl
  refine lv_aload_n hx hb dX6_budget_0 rfl (lv_at hl 0 rfl) ?_
  refine lv_iload_n hx hb dX6_budget_1 rfl (lv_at hl 1 rfl) ?_
  refine gc_R (ci := 6) ⟨hx, hb, hml, hown, hts⟩ (m_isCampaign l dC dI K L f rt hC I_campaigns x) 1 wm_81 wm_82 wm_83 wm_8 wm_84 (by decide +kernel) ⟨Nat.le_of_ble_eq_true rfl, Nat.le_of_ble_eq_true rfl⟩ hK rfl (hC.1.1 51 (by decide)) F_m rfl hl.1 rfl (Nat.le_of_ble_eq_true rfl) dX6_budget_2 ⟨Nat.le_of_ble_eq_true rfl, Nat.le_of_ble_eq_true rfl⟩ hS hP (fun r_1 H locs hpr_1 hP hS => ?_)
  refine lv_if_eq (tgt := 28) hx hb dX6_budget_5 (by decide) (fun c_2 => ?_) (fun c_2 => ?_)
  · skip
    have g_2 := k_ff hpr_1 c_2
    refine lv_iconst (v := (-1)) hx hb dX6_budget_28 (by decide) ?_
    exact W.iret (v := (-1)) hx hb hr (fun t ht hW => ⟨⟨(-1), f, rfl, (Or.inl ⟨by simp only [Int32.lt_iff_toInt_lt, Int32.le_iff_toInt_le, ← Int32.toInt_inj, Int32.reduceToInt] at g_2 ⊢; omega, rfl, rfl⟩), by show va_P (dC, dI) vwCl (va_pl L f) t.heap; rw [ht]; exact hP⟩, hS.F ht⟩) hS.2.2 dX6_budget_29
  · skip
    have g_2 := k_ft hpr_1 c_2
    obtain ⟨cn, hcn, rfl⟩ := k_ix g_2 (by omega)
    refine lv_iload_n hx hb dX6_budget_8 rfl (lv_at hl 2 rfl) ?_
    refine lv_iconst (v := 0) hx hb dX6_budget_9 (by decide) ?_
    refine lv_ldc (v := 1000000) hx hb hown (hts _ wm_111) dX6_budget_10 ?_
    refine k_S ⟨hx, hb, hml, hown, hts⟩ (c_in l y 0 1000000) 3 wm_69 wm_70 wm_8 wm_71 (by decide +kernel) ⟨Nat.le_of_ble_eq_true rfl, Nat.le_of_ble_eq_true rfl⟩ rfl hl.1 rfl (Nat.le_of_ble_eq_true rfl) dX6_budget_12 ⟨Nat.le_of_ble_eq_true rfl, Nat.le_of_ble_eq_true rfl⟩ hS hP (fun r_3 H locs hpr_3 hP hS => ?_)
    refine lv_if_eq (tgt := 28) hx hb dX6_budget_15 (by decide) (fun c_4 => ?_) (fun c_4 => ?_)
    · skip
      have g_4 := k_ff hpr_3 c_4
      refine lv_iconst (v := (-1)) hx hb dX6_budget_28 (by decide) ?_
      exact W.iret (v := (-1)) hx hb hr (fun t ht hW => ⟨⟨(-1), f, rfl, (Or.inl ⟨by simp only [Int32.lt_iff_toInt_lt, Int32.le_iff_toInt_le, ← Int32.toInt_inj, Int32.reduceToInt] at g_2 g_4 ⊢; omega, rfl, rfl⟩), by show va_P (dC, dI) vwCl (va_pl L f) t.heap; rw [ht]; exact hP⟩, hS.F ht⟩) hS.2.2 dX6_budget_29
    · skip
      have g_4 := k_ft hpr_3 c_4
      refine lv_iload_n hx hb dX6_budget_18 rfl (lv_at hl 3 rfl) ?_
      refine lv_iconst (v := 0) hx hb dX6_budget_19 (by decide) ?_
      refine lv_ldc (v := 1000000) hx hb hown (hts _ wm_111) dX6_budget_20 ?_
      refine k_S ⟨hx, hb, hml, hown, hts⟩ (c_in l z 0 1000000) 3 wm_69 wm_70 wm_8 wm_71 (by decide +kernel) ⟨Nat.le_of_ble_eq_true rfl, Nat.le_of_ble_eq_true rfl⟩ rfl hl.1 rfl (Nat.le_of_ble_eq_true rfl) dX6_budget_22 ⟨Nat.le_of_ble_eq_true rfl, Nat.le_of_ble_eq_true rfl⟩ hS hP (fun r_5 H locs hpr_5 hP hS => ?_)
      refine lv_if_ne (tgt := 30) hx hb dX6_budget_25 (by decide) (fun c_6 => ?_) (fun c_6 => ?_)
      · skip
        have g_6 := k_ft hpr_5 c_6
        refine lv_aload_n hx hb dX6_budget_30 rfl (lv_at hl 0 rfl) ?_
        refine g_get (ci := 6) (v := .ref (rt 15)) (C := RX6) (T := TX6) (N := 51) hx hb hts uB6 hown hK hP (hC.1.1 51 (by decide)) F_m rfl 15 (by decide) wm_12 (hC.2.2.2 15 (by decide)) dX6_budget_31 ?_
        refine lv_iload_n hx hb dX6_budget_34 rfl (lv_at hl 1 rfl) ?_
        refine lv_iload_n hx hb dX6_budget_35 rfl (lv_at hl 2 rfl) ?_
        refine g_iast hx hb hK hP hD hS (hC.1.1 15 (by decide)) F_dayBudget (vp_in_nI (by omega) (by decide)) dX6_budget_36 (fun H locs hP hD hS => ?_)
        obtain ⟨g_7, eg_7⟩ : ∃ z9, z9 = upd g_dayBudget (Int32.toNatClampNeg (nI cn)) y := ⟨_, rfl⟩
        rw [← eg_7] at hP hD
        obtain ⟨f_8, ef_8⟩ : ∃ z9, z9 = va_up f (rt 15) (.inl (K 0, 40, .inl g_7)) := ⟨_, rfl⟩
        have hP : va_P (dC, dI) vwCl (va_pl L f_8) H := by rw [ef_8]; exact hP
        have hD : va_D A (va_pl L f_8) := by rw [ef_8]; exact hD
        have F_m_ : f_8 (rt 51) = .inr (6, fm) := by rw [ef_8, va_up_ne _ _ (fun q => absurd (hC.1.2 51 (by decide) 15 (by decide) q) (by decide))]; exact F_m
        have F_allBudget_ : f_8 (rt 16) = .inl (K 0, 40, .inl g_allBudget) := by rw [ef_8, va_up_ne _ _ (fun q => absurd (hC.1.2 16 (by decide) 15 (by decide) q) (by decide))]; exact F_allBudget
        have F_m := F_m_
        have F_allBudget := F_allBudget_
        have F_dayBudget : f_8 (rt 15) = .inl (K 0, 40, .inl g_7) := by rw [ef_8, va_up_self]
        have hC : mC rt L f_8 fm := ⟨hC.1, F_m, hC.2.2.1, hC.2.2.2⟩
        refine lv_aload_n hx hb dX6_budget_37 rfl (lv_at hl 0 rfl) ?_
        refine g_get (ci := 6) (v := .ref (rt 16)) (C := RX6) (T := TX6) (N := 51) hx hb hts uB6 hown hK hP (hC.1.1 51 (by decide)) F_m rfl 16 (by decide) wm_18 (hC.2.2.2 16 (by decide)) dX6_budget_38 ?_
        refine lv_iload_n hx hb dX6_budget_41 rfl (lv_at hl 1 rfl) ?_
        refine lv_iload_n hx hb dX6_budget_42 rfl (lv_at hl 3 rfl) ?_
        refine g_iast hx hb hK hP hD hS (hC.1.1 16 (by decide)) F_allBudget (vp_in_nI (by omega) (by decide)) dX6_budget_43 (fun H locs hP hD hS => ?_)
        obtain ⟨g_9, eg_9⟩ : ∃ z9, z9 = upd g_allBudget (Int32.toNatClampNeg (nI cn)) z := ⟨_, rfl⟩
        rw [← eg_9] at hP hD
        obtain ⟨f_10, ef_10⟩ : ∃ z9, z9 = va_up f_8 (rt 16) (.inl (K 0, 40, .inl g_9)) := ⟨_, rfl⟩
        have hP : va_P (dC, dI) vwCl (va_pl L f_10) H := by rw [ef_10]; exact hP
        have hD : va_D A (va_pl L f_10) := by rw [ef_10]; exact hD
        have F_m_ : f_10 (rt 51) = .inr (6, fm) := by rw [ef_10, va_up_ne _ _ (fun q => absurd (hC.1.2 51 (by decide) 16 (by decide) q) (by decide))]; exact F_m
        have F_dayBudget_ : f_10 (rt 15) = .inl (K 0, 40, .inl g_7) := by rw [ef_10, va_up_ne _ _ (fun q => absurd (hC.1.2 15 (by decide) 16 (by decide) q) (by decide))]; exact F_dayBudget
        have F_m := F_m_
        have F_dayBudget := F_dayBudget_
        have F_allBudget : f_10 (rt 16) = .inl (K 0, 40, .inl g_9) := by rw [ef_10, va_up_self]
        have hC : mC rt L f_10 fm := ⟨hC.1, F_m, hC.2.2.1, hC.2.2.2⟩
        refine lv_iconst (v := 1) hx hb dX6_budget_44 (by decide) ?_
        exact W.iret (v := 1) hx hb hr (fun t ht hW => ⟨⟨1, f_10, rfl, (Or.inr ⟨by simp only [Int32.lt_iff_toInt_lt, Int32.le_iff_toInt_le, ← Int32.toInt_inj, Int32.reduceToInt] at g_2 g_4 g_6 ⊢; omega, rfl, by rw [ef_10, eg_9, ef_8, eg_7]⟩), by show va_P (dC, dI) vwCl (va_pl L f_10) t.heap; rw [ht]; exact hP⟩, hS.F ht⟩) hS.2.2 dX6_budget_45
      · skip
        have g_6 := k_ff hpr_5 c_6
        refine lv_iconst (v := (-1)) hx hb dX6_budget_28 (by decide) ?_
        exact W.iret (v := (-1)) hx hb hr (fun t ht hW => ⟨⟨(-1), f, rfl, (Or.inl ⟨by simp only [Int32.lt_iff_toInt_lt, Int32.le_iff_toInt_le, ← Int32.toInt_inj, Int32.reduceToInt] at g_2 g_4 g_6 ⊢; omega, rfl, rfl⟩), by show va_P (dC, dI) vwCl (va_pl L f) t.heap; rw [ht]; exact hP⟩, hS.F ht⟩) hS.2.2 dX6_budget_29
set_option maxHeartbeats 4000000 in
set_option maxRecDepth 100000 in
theorem um_cap (l : Launch) (dC : Nat → ClassId) (dI : Nat → Nat → Nat) (K : Nat → ClassId) (L : List Nat) (f : Nat → va_E) (rt : Nat → Nat) {fm : List Value} (hC : mC rt L f fm) {g_cap : Nat → Int32} (F_cap : f (rt 17) = .inl (K 0, 40, .inl g_cap)) {g_span : Nat → Int32} (F_span : f (rt 18) = .inl (K 0, 40, .inl g_span)) {nc : Nat} (I_campaigns : fm[9]? = some (.int (nI nc))) (x : Int32) (y : Int32) (z : Int32) (hnc : nc ≤ 40) (hLn : gN L) : gMi l yX6_cap cX6_cap 4 2 (dC, dI) K L f [.ref (rt 51), .int x, .int y, .int z] (fun r f' => (¬ ((0 ≤ x ∧ x ≤ nI nc - 1) ∧ (1 ≤ y ∧ y ≤ 9) ∧ (1 ≤ z ∧ z ≤ 1000)) ∧ r = (-1) ∧ f' = f) ∨ (((0 ≤ x ∧ x ≤ nI nc - 1) ∧ (1 ≤ y ∧ y ≤ 9) ∧ (1 ≤ z ∧ z ≤ 1000)) ∧ r = 1 ∧ f' = va_up (va_up (f) (rt 17) (.inl (K 0, 40, .inl (upd g_cap (Int32.toNatClampNeg x) y)))) (rt 18) (.inl (K 0, 40, .inl (upd g_span (Int32.toNatClampNeg x) z))))) := by
  refine Met.ofW (cc := cX6_cap) (maxL := 4) (ret := (some .int)) (by decide) rfl ?_
  intro p e s m args below meth c s₁ B hml hv
  obtain ⟨rfl, hP, hK⟩ := hv
  have F_m := hC.2.1
  have hD : va_D (fun q : Nat => q ∈ L) (va_pl L f) := g_D hLn (fun a h => h) f
  generalize hAe : (fun q : Nat => q ∈ L) = A at hD ⊢
  have hx := B.exec
  have hb := B.bytes
  have hr := B.returns
  have hlocks := B.notSynchronized
  have hts0 := atoms_spec (ws := Cond.code yX6_cap cX6_cap 4 (some .int) :: lw_B) B.pre
  have hts : ∀ w ∈ lw_B, w.before _ s = true := fun w h => hts0 w (List.mem_cons_of_mem _ h)
  have hown : s.vm.findClass RX6 = some m.cls := findClass_of_methodNamed B.named
  have hS : va_S A s.heap s.heap [] := va_S.rf
  have hl := lv_entry ([.ref (rt 51), .int x, .int y, .int z]) (n := 4) (Nat.le_of_ble_eq_true rfl)
  rw [lg_entry_eq]
  generalize (lg_sl ([.ref (rt 51), .int x, .int y, .int z]) ++ List.replicate (4 - (lg_sl ([.ref (rt 51), .int x, .int y, .int z])).length) Slot.unset).toArray = ls at hl ⊢
  have hl : lv_has ls 4 [(0, .ref (rt 51)), (1, .int x), (2, .int y), (3, .int z)] := hl
  refine lv_aload_n hx hb dX6_cap_0 rfl (lv_at hl 0 rfl) ?_
  refine lv_iload_n hx hb dX6_cap_1 rfl (lv_at hl 1 rfl) ?_
  refine gc_R (ci := 6) ⟨hx, hb, hml, hown, hts⟩ (m_isCampaign l dC dI K L f rt hC I_campaigns x) 1 wm_81 wm_82 wm_83 wm_8 wm_84 (by decide +kernel) ⟨Nat.le_of_ble_eq_true rfl, Nat.le_of_ble_eq_true rfl⟩ hK rfl (hC.1.1 51 (by decide)) F_m rfl hl.1 rfl (Nat.le_of_ble_eq_true rfl) dX6_cap_2 ⟨Nat.le_of_ble_eq_true rfl, Nat.le_of_ble_eq_true rfl⟩ hS hP (fun r_1 H locs hpr_1 hP hS => ?_)
  refine lv_if_eq (tgt := 29) hx hb dX6_cap_5 (by decide) (fun c_2 => ?_) (fun c_2 => ?_)
  · skip
    have g_2 := k_ff hpr_1 c_2
    refine lv_iconst (v := (-1)) hx hb dX6_cap_29 (by decide) ?_
    exact W.iret (v := (-1)) hx hb hr (fun t ht hW => ⟨⟨(-1), f, rfl, (Or.inl ⟨by simp only [Int32.lt_iff_toInt_lt, Int32.le_iff_toInt_le, ← Int32.toInt_inj, Int32.reduceToInt] at g_2 ⊢; omega, rfl, rfl⟩), by show va_P (dC, dI) vwCl (va_pl L f) t.heap; rw [ht]; exact hP⟩, hS.F ht⟩) hS.2.2 dX6_cap_30
  · skip
    have g_2 := k_ft hpr_1 c_2
    obtain ⟨cn, hcn, rfl⟩ := k_ix g_2 (by omega)
    refine lv_iload_n hx hb dX6_cap_8 rfl (lv_at hl 2 rfl) ?_
    refine lv_iconst (v := 1) hx hb dX6_cap_9 (by decide) ?_
    refine lv_bipush (v := 9) hx hb dX6_cap_10 (by decide) ?_
    refine k_S ⟨hx, hb, hml, hown, hts⟩ (c_in l y 1 9) 3 wm_69 wm_70 wm_8 wm_71 (by decide +kernel) ⟨Nat.le_of_ble_eq_true rfl, Nat.le_of_ble_eq_true rfl⟩ rfl hl.1 rfl (Nat.le_of_ble_eq_true rfl) dX6_cap_12 ⟨Nat.le_of_ble_eq_true rfl, Nat.le_of_ble_eq_true rfl⟩ hS hP (fun r_3 H locs hpr_3 hP hS => ?_)
    refine lv_if_eq (tgt := 29) hx hb dX6_cap_15 (by decide) (fun c_4 => ?_) (fun c_4 => ?_)
    · skip
      have g_4 := k_ff hpr_3 c_4
      refine lv_iconst (v := (-1)) hx hb dX6_cap_29 (by decide) ?_
      exact W.iret (v := (-1)) hx hb hr (fun t ht hW => ⟨⟨(-1), f, rfl, (Or.inl ⟨by simp only [Int32.lt_iff_toInt_lt, Int32.le_iff_toInt_le, ← Int32.toInt_inj, Int32.reduceToInt] at g_2 g_4 ⊢; omega, rfl, rfl⟩), by show va_P (dC, dI) vwCl (va_pl L f) t.heap; rw [ht]; exact hP⟩, hS.F ht⟩) hS.2.2 dX6_cap_30
    · skip
      have g_4 := k_ft hpr_3 c_4
      refine lv_iload_n hx hb dX6_cap_18 rfl (lv_at hl 3 rfl) ?_
      refine lv_iconst (v := 1) hx hb dX6_cap_19 (by decide) ?_
      refine lv_sipush (v := 1000) hx hb dX6_cap_20 (by decide) ?_
      refine k_S ⟨hx, hb, hml, hown, hts⟩ (c_in l z 1 1000) 3 wm_69 wm_70 wm_8 wm_71 (by decide +kernel) ⟨Nat.le_of_ble_eq_true rfl, Nat.le_of_ble_eq_true rfl⟩ rfl hl.1 rfl (Nat.le_of_ble_eq_true rfl) dX6_cap_23 ⟨Nat.le_of_ble_eq_true rfl, Nat.le_of_ble_eq_true rfl⟩ hS hP (fun r_5 H locs hpr_5 hP hS => ?_)
      refine lv_if_ne (tgt := 31) hx hb dX6_cap_26 (by decide) (fun c_6 => ?_) (fun c_6 => ?_)
      · skip
        have g_6 := k_ft hpr_5 c_6
        refine lv_aload_n hx hb dX6_cap_31 rfl (lv_at hl 0 rfl) ?_
        refine g_get (ci := 6) (v := .ref (rt 17)) (C := RX6) (T := TX6) (N := 51) hx hb hts uB6 hown hK hP (hC.1.1 51 (by decide)) F_m rfl 17 (by decide) wm_33 (hC.2.2.2 17 (by decide)) dX6_cap_32 ?_
        refine lv_iload_n hx hb dX6_cap_35 rfl (lv_at hl 1 rfl) ?_
        refine lv_iload_n hx hb dX6_cap_36 rfl (lv_at hl 2 rfl) ?_
        refine g_iast hx hb hK hP hD hS (hC.1.1 17 (by decide)) F_cap (vp_in_nI (by omega) (by decide)) dX6_cap_37 (fun H locs hP hD hS => ?_)
        obtain ⟨g_7, eg_7⟩ : ∃ z9, z9 = upd g_cap (Int32.toNatClampNeg (nI cn)) y := ⟨_, rfl⟩
        rw [← eg_7] at hP hD
        obtain ⟨f_8, ef_8⟩ : ∃ z9, z9 = va_up f (rt 17) (.inl (K 0, 40, .inl g_7)) := ⟨_, rfl⟩
        have hP : va_P (dC, dI) vwCl (va_pl L f_8) H := by rw [ef_8]; exact hP
        have hD : va_D A (va_pl L f_8) := by rw [ef_8]; exact hD
        have F_m_ : f_8 (rt 51) = .inr (6, fm) := by rw [ef_8, va_up_ne _ _ (fun q => absurd (hC.1.2 51 (by decide) 17 (by decide) q) (by decide))]; exact F_m
        have F_span_ : f_8 (rt 18) = .inl (K 0, 40, .inl g_span) := by rw [ef_8, va_up_ne _ _ (fun q => absurd (hC.1.2 18 (by decide) 17 (by decide) q) (by decide))]; exact F_span
        have F_m := F_m_
        have F_span := F_span_
        have F_cap : f_8 (rt 17) = .inl (K 0, 40, .inl g_7) := by rw [ef_8, va_up_self]
        have hC : mC rt L f_8 fm := ⟨hC.1, F_m, hC.2.2.1, hC.2.2.2⟩
        refine lv_aload_n hx hb dX6_cap_38 rfl (lv_at hl 0 rfl) ?_
        refine g_get (ci := 6) (v := .ref (rt 18)) (C := RX6) (T := TX6) (N := 51) hx hb hts uB6 hown hK hP (hC.1.1 51 (by decide)) F_m rfl 18 (by decide) wm_51 (hC.2.2.2 18 (by decide)) dX6_cap_39 ?_
        refine lv_iload_n hx hb dX6_cap_42 rfl (lv_at hl 1 rfl) ?_
        refine lv_iload_n hx hb dX6_cap_43 rfl (lv_at hl 3 rfl) ?_
        refine g_iast hx hb hK hP hD hS (hC.1.1 18 (by decide)) F_span (vp_in_nI (by omega) (by decide)) dX6_cap_44 (fun H locs hP hD hS => ?_)
        obtain ⟨g_9, eg_9⟩ : ∃ z9, z9 = upd g_span (Int32.toNatClampNeg (nI cn)) z := ⟨_, rfl⟩
        rw [← eg_9] at hP hD
        obtain ⟨f_10, ef_10⟩ : ∃ z9, z9 = va_up f_8 (rt 18) (.inl (K 0, 40, .inl g_9)) := ⟨_, rfl⟩
        have hP : va_P (dC, dI) vwCl (va_pl L f_10) H := by rw [ef_10]; exact hP
        have hD : va_D A (va_pl L f_10) := by rw [ef_10]; exact hD
        have F_m_ : f_10 (rt 51) = .inr (6, fm) := by rw [ef_10, va_up_ne _ _ (fun q => absurd (hC.1.2 51 (by decide) 18 (by decide) q) (by decide))]; exact F_m
        have F_cap_ : f_10 (rt 17) = .inl (K 0, 40, .inl g_7) := by rw [ef_10, va_up_ne _ _ (fun q => absurd (hC.1.2 17 (by decide) 18 (by decide) q) (by decide))]; exact F_cap
        have F_m := F_m_
        have F_cap := F_cap_
        have F_span : f_10 (rt 18) = .inl (K 0, 40, .inl g_9) := by rw [ef_10, va_up_self]
        have hC : mC rt L f_10 fm := ⟨hC.1, F_m, hC.2.2.1, hC.2.2.2⟩
        refine lv_iconst (v := 1) hx hb dX6_cap_45 (by decide) ?_
        exact W.iret (v := 1) hx hb hr (fun t ht hW => ⟨⟨1, f_10, rfl, (Or.inr ⟨by simp only [Int32.lt_iff_toInt_lt, Int32.le_iff_toInt_le, ← Int32.toInt_inj, Int32.reduceToInt] at g_2 g_4 g_6 ⊢; omega, rfl, by rw [ef_10, eg_9, ef_8, eg_7]⟩), by show va_P (dC, dI) vwCl (va_pl L f_10) t.heap; rw [ht]; exact hP⟩, hS.F ht⟩) hS.2.2 dX6_cap_46
      · skip
        have g_6 := k_ff hpr_5 c_6
        refine lv_iconst (v := (-1)) hx hb dX6_cap_29 (by decide) ?_
        exact W.iret (v := (-1)) hx hb hr (fun t ht hW => ⟨⟨(-1), f, rfl, (Or.inl ⟨by simp only [Int32.lt_iff_toInt_lt, Int32.le_iff_toInt_le, ← Int32.toInt_inj, Int32.reduceToInt] at g_2 g_4 g_6 ⊢; omega, rfl, rfl⟩), by show va_P (dC, dI) vwCl (va_pl L f) t.heap; rw [ht]; exact hP⟩, hS.F ht⟩) hS.2.2 dX6_cap_30
