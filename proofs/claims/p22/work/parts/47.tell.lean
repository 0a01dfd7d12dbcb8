theorem k_sw6 (x : Int32) : (x.toInt < 0 ∨ 6 < x.toInt) ∨ x = 0 ∨ x = 1 ∨ x = 2 ∨ x = 3 ∨ x = 4 ∨ x = 5 ∨ x = 6 := by
  simp only [← Int32.toInt_inj, Int32.reduceToInt]; omega
theorem k_sw9 (x : Int32) : (x.toInt < 0 ∨ 9 < x.toInt) ∨ x = 0 ∨ x = 1 ∨ x = 2 ∨ x = 3 ∨ x = 4 ∨ x = 5 ∨ x = 6 ∨ x = 7 ∨ x = 8 ∨ x = 9 := by
  simp only [← Int32.toInt_inj, Int32.reduceToInt]; omega
set_option maxHeartbeats 4000000 in
set_option maxRecDepth 100000 in
theorem m_sale (l : Launch) (dC : Nat → ClassId) (dI : Nat → Nat → Nat) (K : Nat → ClassId) (L : List Nat) (f : Nat → va_E) (rt : Nat → Nat) {fm : List Value} (hC : mC rt L f fm) {g_saleTick : Nat → Int32} (F_saleTick : f (rt 26) = .inl (K 0, 1000, .inl g_saleTick)) {g_saleReader : Nat → Int32} (F_saleReader : f (rt 27) = .inl (K 0, 1000, .inl g_saleReader)) {g_salePage : Nat → Int32} (F_salePage : f (rt 28) = .inl (K 0, 1000, .inl g_salePage)) {g_salePlace : Nat → Int32} (F_salePlace : f (rt 29) = .inl (K 0, 1000, .inl g_salePlace)) {g_saleOf : Nat → Int32} (F_saleOf : f (rt 30) = .inl (K 0, 1000, .inl g_saleOf)) {g_price : Nat → Int32} (F_price : f (rt 31) = .inl (K 0, 1000, .inl g_price)) {g_state : Nat → Int32} (F_state : f (rt 32) = .inl (K 0, 1000, .inl g_state)) {ns : Nat} (I_sales : fm[25]? = some (.int (nI ns))) (x : Int32) (y : Int32) (hns : ns ≤ 1000) : gR l yX6_sale cX6_sale 3 .int 2 (dC, dI) K L f [.ref (rt 51), .int x, .int y] (fun _ => True) := by
  refine Met.ofW (cc := cX6_sale) (maxL := 3) (ret := some .int) (by decide) rfl ?_
  intro p e s m args below meth c s₁ B hml hv
  obtain ⟨rfl, hP, hK⟩ := hv
  have F_m := hC.2.1
  have hx := B.exec
  have hb := B.bytes
  have hr := B.returns
  have hlocks := B.notSynchronized
  have hts0 := atoms_spec (ws := Cond.code yX6_sale cX6_sale 3 (some .int) :: lw_B) B.pre
  have hts : ∀ w ∈ lw_B, w.before _ s = true := fun w h => hts0 w (List.mem_cons_of_mem _ h)
  have hown : s.vm.findClass RX6 = some m.cls := findClass_of_methodNamed B.named
  have hS : va_S (fun _ => False) s.heap s.heap [] := va_S.rf
  have hl := lv_entry ([.ref (rt 51), .int x, .int y]) (n := 3) (Nat.le_of_ble_eq_true rfl)
  rw [lg_entry_eq]
  generalize (lg_sl ([.ref (rt 51), .int x, .int y]) ++ List.replicate (3 - (lg_sl ([.ref (rt 51), .int x, .int y])).length) Slot.unset).toArray = ls at hl ⊢
  have hl : lv_has ls 3 [(0, .ref (rt 51)), (1, .int x), (2, .int y)] := hl
  refine lv_aload_n hx hb dX6_sale_0 rfl (lv_at hl 0 rfl) ?_
  refine lv_iload_n hx hb dX6_sale_1 rfl (lv_at hl 1 rfl) ?_
  refine gc_R (ci := 6) ⟨hx, hb, hml, hown, hts⟩ (m_isSale l dC dI K L f rt hC I_sales x) 1 wm_105 wm_106 wm_107 wm_8 wm_108 (by decide +kernel) ⟨Nat.le_of_ble_eq_true rfl, Nat.le_of_ble_eq_true rfl⟩ hK rfl (hC.1.1 51 (by decide)) F_m rfl hl.1 rfl (Nat.le_of_ble_eq_true rfl) dX6_sale_2 ⟨Nat.le_of_ble_eq_true rfl, Nat.le_of_ble_eq_true rfl⟩ hS hP (fun r_1 H locs hpr_1 hP hS => ?_)
  refine lv_if_ne (tgt := 10) hx hb dX6_sale_5 (by decide) (fun c_2 => ?_) (fun c_2 => ?_)
  · skip
    have g_2 := k_ft hpr_1 c_2
    have hcd_sn := g_2
    obtain ⟨sn, hsn, rfl⟩ := k_ix g_2 (by omega)
    refine lv_iload_n hx hb dX6_sale_10 rfl (lv_at hl 2 rfl) ?_
    rcases k_sw6 y with h9 | rfl | rfl | rfl | rfl | rfl | rfl | rfl
    · skip
      refine lv_tableOut (tgt := 101) hx hb dX6_sale_11 h9 (by decide) ?_
      refine lv_iconst (v := (-1)) hx hb dX6_sale_101 (by decide) ?_
      exact W.iret (v := (-1)) hx hb hr (fun t ht hW => ⟨⟨(-1), (), rfl, trivial, trivial⟩, hS.F ht⟩) hS.2.2 dX6_sale_102
    · skip
      refine lv_tableIn (off := 41) (tgt := 52) hx hb dX6_sale_11 (by decide) (by decide) rfl (by decide) ?_
      refine lv_aload_n hx hb dX6_sale_52 rfl (lv_at hl 0 rfl) ?_
      refine g_get (ci := 6) (v := .ref (rt 26)) (C := RX6) (T := TX6) (N := 51) hx hb hts uB6 hown hK hP (hC.1.1 51 (by decide)) F_m rfl 26 (by decide) wm_10 (hC.2.2.2 26 (by decide)) dX6_sale_53 ?_
      refine lv_iload_n hx hb dX6_sale_56 rfl (lv_at hl 1 rfl) ?_
      refine g_iald hx hb hK hP (hC.1.1 26 (by decide)) F_saleTick (vp_in_nI (by omega) (by decide)) dX6_sale_57 ?_
      refine lv_topi (fun x_3 ex_3 => ?_)
      rw [nI_clamp (by omega)] at ex_3
      exact W.iret (v := x_3) hx hb hr (fun t ht hW => ⟨⟨x_3, (), rfl, trivial, trivial⟩, hS.F ht⟩) hS.2.2 dX6_sale_58
    · skip
      refine lv_tableIn (off := 48) (tgt := 59) hx hb dX6_sale_11 (by decide) (by decide) rfl (by decide) ?_
      refine lv_aload_n hx hb dX6_sale_59 rfl (lv_at hl 0 rfl) ?_
      refine g_get (ci := 6) (v := .ref (rt 27)) (C := RX6) (T := TX6) (N := 51) hx hb hts uB6 hown hK hP (hC.1.1 51 (by decide)) F_m rfl 27 (by decide) wm_50 (hC.2.2.2 27 (by decide)) dX6_sale_60 ?_
      refine lv_iload_n hx hb dX6_sale_63 rfl (lv_at hl 1 rfl) ?_
      refine g_iald hx hb hK hP (hC.1.1 27 (by decide)) F_saleReader (vp_in_nI (by omega) (by decide)) dX6_sale_64 ?_
      refine lv_topi (fun x_4 ex_4 => ?_)
      rw [nI_clamp (by omega)] at ex_4
      exact W.iret (v := x_4) hx hb hr (fun t ht hW => ⟨⟨x_4, (), rfl, trivial, trivial⟩, hS.F ht⟩) hS.2.2 dX6_sale_65
    · skip
      refine lv_tableIn (off := 55) (tgt := 66) hx hb dX6_sale_11 (by decide) (by decide) rfl (by decide) ?_
      refine lv_aload_n hx hb dX6_sale_66 rfl (lv_at hl 0 rfl) ?_
      refine g_get (ci := 6) (v := .ref (rt 28)) (C := RX6) (T := TX6) (N := 51) hx hb hts uB6 hown hK hP (hC.1.1 51 (by decide)) F_m rfl 28 (by decide) wm_48 (hC.2.2.2 28 (by decide)) dX6_sale_67 ?_
      refine lv_iload_n hx hb dX6_sale_70 rfl (lv_at hl 1 rfl) ?_
      refine g_iald hx hb hK hP (hC.1.1 28 (by decide)) F_salePage (vp_in_nI (by omega) (by decide)) dX6_sale_71 ?_
      refine lv_topi (fun x_5 ex_5 => ?_)
      rw [nI_clamp (by omega)] at ex_5
      exact W.iret (v := x_5) hx hb hr (fun t ht hW => ⟨⟨x_5, (), rfl, trivial, trivial⟩, hS.F ht⟩) hS.2.2 dX6_sale_72
    · skip
      refine lv_tableIn (off := 62) (tgt := 73) hx hb dX6_sale_11 (by decide) (by decide) rfl (by decide) ?_
      refine lv_aload_n hx hb dX6_sale_73 rfl (lv_at hl 0 rfl) ?_
      refine g_get (ci := 6) (v := .ref (rt 29)) (C := RX6) (T := TX6) (N := 51) hx hb hts uB6 hown hK hP (hC.1.1 51 (by decide)) F_m rfl 29 (by decide) wm_116 (hC.2.2.2 29 (by decide)) dX6_sale_74 ?_
      refine lv_iload_n hx hb dX6_sale_77 rfl (lv_at hl 1 rfl) ?_
      refine g_iald hx hb hK hP (hC.1.1 29 (by decide)) F_salePlace (vp_in_nI (by omega) (by decide)) dX6_sale_78 ?_
      refine lv_topi (fun x_6 ex_6 => ?_)
      rw [nI_clamp (by omega)] at ex_6
      exact W.iret (v := x_6) hx hb hr (fun t ht hW => ⟨⟨x_6, (), rfl, trivial, trivial⟩, hS.F ht⟩) hS.2.2 dX6_sale_79
    · skip
      refine lv_tableIn (off := 69) (tgt := 80) hx hb dX6_sale_11 (by decide) (by decide) rfl (by decide) ?_
      refine lv_aload_n hx hb dX6_sale_80 rfl (lv_at hl 0 rfl) ?_
      refine g_get (ci := 6) (v := .ref (rt 30)) (C := RX6) (T := TX6) (N := 51) hx hb hts uB6 hown hK hP (hC.1.1 51 (by decide)) F_m rfl 30 (by decide) wm_2 (hC.2.2.2 30 (by decide)) dX6_sale_81 ?_
      refine lv_iload_n hx hb dX6_sale_84 rfl (lv_at hl 1 rfl) ?_
      refine g_iald hx hb hK hP (hC.1.1 30 (by decide)) F_saleOf (vp_in_nI (by omega) (by decide)) dX6_sale_85 ?_
      refine lv_topi (fun x_7 ex_7 => ?_)
      rw [nI_clamp (by omega)] at ex_7
      exact W.iret (v := x_7) hx hb hr (fun t ht hW => ⟨⟨x_7, (), rfl, trivial, trivial⟩, hS.F ht⟩) hS.2.2 dX6_sale_86
    · skip
      refine lv_tableIn (off := 76) (tgt := 87) hx hb dX6_sale_11 (by decide) (by decide) rfl (by decide) ?_
      refine lv_aload_n hx hb dX6_sale_87 rfl (lv_at hl 0 rfl) ?_
      refine g_get (ci := 6) (v := .ref (rt 31)) (C := RX6) (T := TX6) (N := 51) hx hb hts uB6 hown hK hP (hC.1.1 51 (by decide)) F_m rfl 31 (by decide) wm_3 (hC.2.2.2 31 (by decide)) dX6_sale_88 ?_
      refine lv_iload_n hx hb dX6_sale_91 rfl (lv_at hl 1 rfl) ?_
      refine g_iald hx hb hK hP (hC.1.1 31 (by decide)) F_price (vp_in_nI (by omega) (by decide)) dX6_sale_92 ?_
      refine lv_topi (fun x_8 ex_8 => ?_)
      rw [nI_clamp (by omega)] at ex_8
      exact W.iret (v := x_8) hx hb hr (fun t ht hW => ⟨⟨x_8, (), rfl, trivial, trivial⟩, hS.F ht⟩) hS.2.2 dX6_sale_93
    · skip
      refine lv_tableIn (off := 83) (tgt := 94) hx hb dX6_sale_11 (by decide) (by decide) rfl (by decide) ?_
      refine lv_aload_n hx hb dX6_sale_94 rfl (lv_at hl 0 rfl) ?_
      refine g_get (ci := 6) (v := .ref (rt 32)) (C := RX6) (T := TX6) (N := 51) hx hb hts uB6 hown hK hP (hC.1.1 51 (by decide)) F_m rfl 32 (by decide) wm_0 (hC.2.2.2 32 (by decide)) dX6_sale_95 ?_
      refine lv_iload_n hx hb dX6_sale_98 rfl (lv_at hl 1 rfl) ?_
      refine g_iald hx hb hK hP (hC.1.1 32 (by decide)) F_state (vp_in_nI (by omega) (by decide)) dX6_sale_99 ?_
      refine lv_topi (fun x_9 ex_9 => ?_)
      rw [nI_clamp (by omega)] at ex_9
      exact W.iret (v := x_9) hx hb hr (fun t ht hW => ⟨⟨x_9, (), rfl, trivial, trivial⟩, hS.F ht⟩) hS.2.2 dX6_sale_100
  · skip
    have g_2 := k_ff hpr_1 c_2
    refine lv_iconst (v := (-1)) hx hb dX6_sale_8 (by decide) ?_
    exact W.iret (v := (-1)) hx hb hr (fun t ht hW => ⟨⟨(-1), (), rfl, trivial, trivial⟩, hS.F ht⟩) hS.2.2 dX6_sale_9
set_option maxHeartbeats 4000000 in
set_option maxRecDepth 100000 in
theorem m_told (l : Launch) (dC : Nat → ClassId) (dI : Nat → Nat → Nat) (K : Nat → ClassId) (L : List Nat) (f : Nat → va_E) (rt : Nat → Nat) {fm : List Value} (hC : mC rt L f fm) {g_stopped : Nat → Int32} (F_stopped : f (rt 20) = .inl (K 2, 40, .inl g_stopped)) {g_throttle : Nat → Int32} (F_throttle : f (rt 19) = .inl (K 0, 40, .inl g_throttle)) {g_dayBudget : Nat → Int32} (F_dayBudget : f (rt 15) = .inl (K 0, 40, .inl g_dayBudget)) {g_allBudget : Nat → Int32} (F_allBudget : f (rt 16) = .inl (K 0, 40, .inl g_allBudget)) {g_sort : Nat → Int32} (F_sort : f (rt 10) = .inl (K 0, 40, .inl g_sort)) {g_promised : Nat → Int32} (F_promised : f (rt 22) = .inl (K 0, 40, .inl g_promised)) {g_promiseDay : Nat → Int32} (F_promiseDay : f (rt 23) = .inl (K 0, 40, .inl g_promiseDay)) {g_promiseFrom : Nat → Int32} (F_promiseFrom : f (rt 24) = .inl (K 0, 40, .inl g_promiseFrom)) {g_pressTick : Nat → Int32} (F_pressTick : f (rt 34) = .inl (K 0, 1000, .inl g_pressTick)) {g_saleOf : Nat → Int32} (F_saleOf : f (rt 30) = .inl (K 0, 1000, .inl g_saleOf)) {g_saleTick : Nat → Int32} (F_saleTick : f (rt 26) = .inl (K 0, 1000, .inl g_saleTick)) {g_state : Nat → Int32} (F_state : f (rt 32) = .inl (K 0, 1000, .inl g_state)) {g_pays : Nat → Int32} (F_pays : f (rt 11) = .inl (K 0, 40, .inl g_pays)) {g_price : Nat → Int32} (F_price : f (rt 31) = .inl (K 0, 1000, .inl g_price)) {nc ns : Nat} {t : Int32} (I_campaigns : fm[9]? = some (.int (nI nc))) (I_sales : fm[25]? = some (.int (nI ns))) (I_tick : fm[1]? = some (.int t)) (x : Int32) (y : Int32) (hnc : nc ≤ 40) (hns : ns ≤ 1000) (hso : ∀ j, j < ns → vp_in (g_saleOf j) 40) (hpb : ∀ c, c < 40 → g_promised c = 0 ∨ ∃ a d : Nat, d ≤ 100 ∧ a < 100 * d + 100 ∧ g_promiseDay c = nI d ∧ g_promiseFrom c = nI a) : gR l yX6_told cX6_told 3 .int 3 (dC, dI) K L f [.ref (rt 51), .int x, .int y] (fun _ => True) := by
  refine Met.ofW (cc := cX6_told) (maxL := 3) (ret := some .int) (by decide) rfl ?_
  intro p e s m args below meth c s₁ B hml hv
  obtain ⟨rfl, hP, hK⟩ := hv
  have F_m := hC.2.1
  have hx := B.exec
  have hb := B.bytes
  have hr := B.returns
  have hlocks := B.notSynchronized
  have hts0 := atoms_spec (ws := Cond.code yX6_told cX6_told 3 (some .int) :: lw_B) B.pre
  have hts : ∀ w ∈ lw_B, w.before _ s = true := fun w h => hts0 w (List.mem_cons_of_mem _ h)
  have hown : s.vm.findClass RX6 = some m.cls := findClass_of_methodNamed B.named
  have hS : va_S (fun _ => False) s.heap s.heap [] := va_S.rf
  have hl := lv_entry ([.ref (rt 51), .int x, .int y]) (n := 3) (Nat.le_of_ble_eq_true rfl)
  rw [lg_entry_eq]
  generalize (lg_sl ([.ref (rt 51), .int x, .int y]) ++ List.replicate (3 - (lg_sl ([.ref (rt 51), .int x, .int y])).length) Slot.unset).toArray = ls at hl ⊢
  have hl : lv_has ls 3 [(0, .ref (rt 51)), (1, .int x), (2, .int y)] := hl
  refine lv_aload_n hx hb dX6_told_0 rfl (lv_at hl 0 rfl) ?_
  refine lv_iload_n hx hb dX6_told_1 rfl (lv_at hl 1 rfl) ?_
  refine gc_R (ci := 6) ⟨hx, hb, hml, hown, hts⟩ (m_isCampaign l dC dI K L f rt hC I_campaigns x) 1 wm_81 wm_82 wm_83 wm_8 wm_84 (by decide +kernel) ⟨Nat.le_of_ble_eq_true rfl, Nat.le_of_ble_eq_true rfl⟩ hK rfl (hC.1.1 51 (by decide)) F_m rfl hl.1 rfl (Nat.le_of_ble_eq_true rfl) dX6_told_2 ⟨Nat.le_of_ble_eq_true rfl, Nat.le_of_ble_eq_true rfl⟩ hS hP (fun r_1 H locs hpr_1 hP hS => ?_)
  refine lv_if_ne (tgt := 12) hx hb dX6_told_5 (by decide) (fun c_2 => ?_) (fun c_2 => ?_)
  · skip
    have g_2 := k_ft hpr_1 c_2
    have hcd_cn := g_2
    obtain ⟨cn, hcn, rfl⟩ := k_ix g_2 (by omega)
    refine lv_iload_n hx hb dX6_told_12 rfl (lv_at hl 2 rfl) ?_
    rcases k_sw9 y with h9 | rfl | rfl | rfl | rfl | rfl | rfl | rfl | rfl | rfl | rfl
    · skip
      refine lv_tableOut (tgt := 191) hx hb dX6_told_13 h9 (by decide) ?_
      refine lv_ldcw (v := (-2000000)) hx hb hown (hts _ wm_110) dX6_told_191 ?_
      exact W.iret (v := (-2000000)) hx hb hr (fun t ht hW => ⟨⟨(-2000000), (), rfl, trivial, trivial⟩, hS.F ht⟩) hS.2.2 dX6_told_194
    · skip
      refine lv_tableIn (off := 55) (tgt := 68) hx hb dX6_told_13 (by decide) (by decide) rfl (by decide) ?_
      refine lv_aload_n hx hb dX6_told_68 rfl (lv_at hl 0 rfl) ?_
      refine lv_iload_n hx hb dX6_told_69 rfl (lv_at hl 1 rfl) ?_
      refine lv_iconst (v := (-1)) hx hb dX6_told_70 (by decide) ?_
      refine lv_iconst (v := 1) hx hb dX6_told_71 (by decide) ?_
      refine lv_iconst (v := 0) hx hb dX6_told_72 (by decide) ?_
      refine gc_R (ci := 6) ⟨hx, hb, hml, hown, hts⟩ (m_sum l dC dI K L f rt hC F_saleOf F_saleTick F_state F_pays F_price I_sales (nI cn) (-1) 1 0 hns hso) 4 wm_14 wm_15 wm_16 wm_8 wm_17 (by decide +kernel) ⟨Nat.le_of_ble_eq_true rfl, Nat.le_of_ble_eq_true rfl⟩ hK rfl (hC.1.1 51 (by decide)) F_m rfl hl.1 rfl (Nat.le_of_ble_eq_true rfl) dX6_told_73 ⟨Nat.le_of_ble_eq_true rfl, Nat.le_of_ble_eq_true rfl⟩ hS hP (fun r_3 H locs hpr_3 hP hS => ?_)
      exact W.iret (v := r_3) hx hb hr (fun t ht hW => ⟨⟨r_3, (), rfl, trivial, trivial⟩, hS.F ht⟩) hS.2.2 dX6_told_76
    · skip
      refine lv_tableIn (off := 64) (tgt := 77) hx hb dX6_told_13 (by decide) (by decide) rfl (by decide) ?_
      refine lv_aload_n hx hb dX6_told_77 rfl (lv_at hl 0 rfl) ?_
      refine lv_iload_n hx hb dX6_told_78 rfl (lv_at hl 1 rfl) ?_
      refine lv_aload_n hx hb dX6_told_79 rfl (lv_at hl 0 rfl) ?_
      refine g_get (ci := 6) (v := .int t) (C := RX6) (T := TX6) (N := 51) hx hb hts uB6 hown hK hP (hC.1.1 51 (by decide)) F_m rfl 1 (by decide) wm_13 I_tick dX6_told_80 ?_
      refine lv_bipush (v := 100) hx hb dX6_told_83 (by decide) ?_
      refine lv_idiv hx hb dX6_told_85 (by decide) ?_
      refine lv_topi (fun x_4 ex_4 => ?_)
      refine lv_iconst (v := 1) hx hb dX6_told_86 (by decide) ?_
      refine lv_iconst (v := 1) hx hb dX6_told_87 (by decide) ?_
      refine gc_R (ci := 6) ⟨hx, hb, hml, hown, hts⟩ (m_sum l dC dI K L f rt hC F_saleOf F_saleTick F_state F_pays F_price I_sales (nI cn) x_4 1 1 hns hso) 4 wm_14 wm_15 wm_16 wm_8 wm_17 (by decide +kernel) ⟨Nat.le_of_ble_eq_true rfl, Nat.le_of_ble_eq_true rfl⟩ hK rfl (hC.1.1 51 (by decide)) F_m rfl hl.1 rfl (Nat.le_of_ble_eq_true rfl) dX6_told_88 ⟨Nat.le_of_ble_eq_true rfl, Nat.le_of_ble_eq_true rfl⟩ hS hP (fun r_5 H locs hpr_5 hP hS => ?_)
      exact W.iret (v := r_5) hx hb hr (fun t ht hW => ⟨⟨r_5, (), rfl, trivial, trivial⟩, hS.F ht⟩) hS.2.2 dX6_told_91
    · skip
      refine lv_tableIn (off := 79) (tgt := 92) hx hb dX6_told_13 (by decide) (by decide) rfl (by decide) ?_
      refine lv_aload_n hx hb dX6_told_92 rfl (lv_at hl 0 rfl) ?_
      refine lv_iload_n hx hb dX6_told_93 rfl (lv_at hl 1 rfl) ?_
      refine lv_iconst (v := (-1)) hx hb dX6_told_94 (by decide) ?_
      refine lv_iconst (v := 0) hx hb dX6_told_95 (by decide) ?_
      refine lv_iconst (v := 1) hx hb dX6_told_96 (by decide) ?_
      refine gc_R (ci := 6) ⟨hx, hb, hml, hown, hts⟩ (m_sum l dC dI K L f rt hC F_saleOf F_saleTick F_state F_pays F_price I_sales (nI cn) (-1) 0 1 hns hso) 4 wm_14 wm_15 wm_16 wm_8 wm_17 (by decide +kernel) ⟨Nat.le_of_ble_eq_true rfl, Nat.le_of_ble_eq_true rfl⟩ hK rfl (hC.1.1 51 (by decide)) F_m rfl hl.1 rfl (Nat.le_of_ble_eq_true rfl) dX6_told_97 ⟨Nat.le_of_ble_eq_true rfl, Nat.le_of_ble_eq_true rfl⟩ hS hP (fun r_6 H locs hpr_6 hP hS => ?_)
      exact W.iret (v := r_6) hx hb hr (fun t ht hW => ⟨⟨r_6, (), rfl, trivial, trivial⟩, hS.F ht⟩) hS.2.2 dX6_told_100
    · skip
      refine lv_tableIn (off := 88) (tgt := 101) hx hb dX6_told_13 (by decide) (by decide) rfl (by decide) ?_
      refine lv_aload_n hx hb dX6_told_101 rfl (lv_at hl 0 rfl) ?_
      refine lv_iload_n hx hb dX6_told_102 rfl (lv_at hl 1 rfl) ?_
      refine lv_sipush (v := 10001) hx hb dX6_told_103 (by decide) ?_
      refine gc_R (ci := 6) ⟨hx, hb, hml, hown, hts⟩ (m_showings l dC dI K L f rt hC F_saleOf F_state F_saleTick I_sales (nI cn) 10001 hns) 2 wm_23 wm_24 wm_25 wm_8 wm_26 (by decide +kernel) ⟨Nat.le_of_ble_eq_true rfl, Nat.le_of_ble_eq_true rfl⟩ hK rfl (hC.1.1 51 (by decide)) F_m rfl hl.1 rfl (Nat.le_of_ble_eq_true rfl) dX6_told_106 ⟨Nat.le_of_ble_eq_true rfl, Nat.le_of_ble_eq_true rfl⟩ hS hP (fun r_7 H locs hpr_7 hP hS => ?_)
      exact W.iret (v := r_7) hx hb hr (fun t ht hW => ⟨⟨r_7, (), rfl, trivial, trivial⟩, hS.F ht⟩) hS.2.2 dX6_told_109
    · skip
      refine lv_tableIn (off := 97) (tgt := 110) hx hb dX6_told_13 (by decide) (by decide) rfl (by decide) ?_
      refine lv_aload_n hx hb dX6_told_110 rfl (lv_at hl 0 rfl) ?_
      refine lv_iload_n hx hb dX6_told_111 rfl (lv_at hl 1 rfl) ?_
      refine lv_sipush (v := 10001) hx hb dX6_told_112 (by decide) ?_
      refine gc_R (ci := 6) ⟨hx, hb, hml, hown, hts⟩ (m_presses l dC dI K L f rt hC F_saleOf F_state F_pressTick I_sales (nI cn) 10001 hns) 2 wm_58 wm_59 wm_60 wm_8 wm_61 (by decide +kernel) ⟨Nat.le_of_ble_eq_true rfl, Nat.le_of_ble_eq_true rfl⟩ hK rfl (hC.1.1 51 (by decide)) F_m rfl hl.1 rfl (Nat.le_of_ble_eq_true rfl) dX6_told_115 ⟨Nat.le_of_ble_eq_true rfl, Nat.le_of_ble_eq_true rfl⟩ hS hP (fun r_8 H locs hpr_8 hP hS => ?_)
      exact W.iret (v := r_8) hx hb hr (fun t ht hW => ⟨⟨r_8, (), rfl, trivial, trivial⟩, hS.F ht⟩) hS.2.2 dX6_told_118
    · skip
      refine lv_tableIn (off := 106) (tgt := 119) hx hb dX6_told_13 (by decide) (by decide) rfl (by decide) ?_
      refine lv_aload_n hx hb dX6_told_119 rfl (lv_at hl 0 rfl) ?_
      refine g_get (ci := 6) (v := .ref (rt 19)) (C := RX6) (T := TX6) (N := 51) hx hb hts uB6 hown hK hP (hC.1.1 51 (by decide)) F_m rfl 19 (by decide) wm_38 (hC.2.2.2 19 (by decide)) dX6_told_120 ?_
      refine lv_iload_n hx hb dX6_told_123 rfl (lv_at hl 1 rfl) ?_
      refine g_iald hx hb hK hP (hC.1.1 19 (by decide)) F_throttle (vp_in_nI (by omega) (by decide)) dX6_told_124 ?_
      refine lv_topi (fun x_9 ex_9 => ?_)
      rw [nI_clamp (by omega)] at ex_9
      exact W.iret (v := x_9) hx hb hr (fun t ht hW => ⟨⟨x_9, (), rfl, trivial, trivial⟩, hS.F ht⟩) hS.2.2 dX6_told_125
    · skip
      refine lv_tableIn (off := 113) (tgt := 126) hx hb dX6_told_13 (by decide) (by decide) rfl (by decide) ?_
      refine lv_aload_n hx hb dX6_told_126 rfl (lv_at hl 0 rfl) ?_
      refine lv_iload_n hx hb dX6_told_127 rfl (lv_at hl 1 rfl) ?_
      refine gc_R (ci := 6) ⟨hx, hb, hml, hown, hts⟩ (m_isBehind l dC dI K L f rt hC F_sort F_promised F_promiseDay F_promiseFrom F_saleOf F_state F_saleTick I_sales I_tick cn hns hpb (by omega)) 1 wm_53 wm_54 wm_55 wm_8 wm_56 (by decide +kernel) ⟨Nat.le_of_ble_eq_true rfl, Nat.le_of_ble_eq_true rfl⟩ hK rfl (hC.1.1 51 (by decide)) F_m rfl hl.1 rfl (Nat.le_of_ble_eq_true rfl) dX6_told_128 ⟨Nat.le_of_ble_eq_true rfl, Nat.le_of_ble_eq_true rfl⟩ hS hP (fun r_10 H locs hpr_10 hP hS => ?_)
      refine lv_if_eq (tgt := 138) hx hb dX6_told_131 (by decide) (fun c_11 => ?_) (fun c_11 => ?_)
      · skip
        refine lv_iconst (v := 0) hx hb dX6_told_138 (by decide) ?_
        exact W.iret (v := 0) hx hb hr (fun t ht hW => ⟨⟨0, (), rfl, trivial, trivial⟩, hS.F ht⟩) hS.2.2 dX6_told_139
      · skip
        refine lv_iconst (v := 1) hx hb dX6_told_134 (by decide) ?_
        refine lv_goto (tgt := 139) hx hb dX6_told_135 (by decide) ?_
        exact W.iret (v := 1) hx hb hr (fun t ht hW => ⟨⟨1, (), rfl, trivial, trivial⟩, hS.F ht⟩) hS.2.2 dX6_told_139
    · skip
      refine lv_tableIn (off := 127) (tgt := 140) hx hb dX6_told_13 (by decide) (by decide) rfl (by decide) ?_
      refine lv_aload_n hx hb dX6_told_140 rfl (lv_at hl 0 rfl) ?_
      refine lv_iload_n hx hb dX6_told_141 rfl (lv_at hl 1 rfl) ?_
      refine gc_R (ci := 6) ⟨hx, hb, hml, hown, hts⟩ (m_leftOfDay l dC dI K L f rt hC F_dayBudget F_saleOf F_saleTick F_state F_pays F_price I_sales I_tick cn hns hso (by omega)) 1 wm_39 wm_40 wm_41 wm_8 wm_42 (by decide +kernel) ⟨Nat.le_of_ble_eq_true rfl, Nat.le_of_ble_eq_true rfl⟩ hK rfl (hC.1.1 51 (by decide)) F_m rfl hl.1 rfl (Nat.le_of_ble_eq_true rfl) dX6_told_142 ⟨Nat.le_of_ble_eq_true rfl, Nat.le_of_ble_eq_true rfl⟩ hS hP (fun r_12 H locs hpr_12 hP hS => ?_)
      refine lv_if_ge (tgt := 152) hx hb dX6_told_145 (by decide) (fun c_13 => ?_) (fun c_13 => ?_)
      · skip
        refine lv_aload_n hx hb dX6_told_152 rfl (lv_at hl 0 rfl) ?_
        refine lv_iload_n hx hb dX6_told_153 rfl (lv_at hl 1 rfl) ?_
        refine gc_R (ci := 6) ⟨hx, hb, hml, hown, hts⟩ (m_leftOfDay l dC dI K L f rt hC F_dayBudget F_saleOf F_saleTick F_state F_pays F_price I_sales I_tick cn hns hso (by omega)) 1 wm_39 wm_40 wm_41 wm_8 wm_42 (by decide +kernel) ⟨Nat.le_of_ble_eq_true rfl, Nat.le_of_ble_eq_true rfl⟩ hK rfl (hC.1.1 51 (by decide)) F_m rfl hl.1 rfl (Nat.le_of_ble_eq_true rfl) dX6_told_154 ⟨Nat.le_of_ble_eq_true rfl, Nat.le_of_ble_eq_true rfl⟩ hS hP (fun r_14 H locs hpr_14 hP hS => ?_)
        exact W.iret (v := r_14) hx hb hr (fun t ht hW => ⟨⟨r_14, (), rfl, trivial, trivial⟩, hS.F ht⟩) hS.2.2 dX6_told_157
      · skip
        refine lv_iconst (v := 0) hx hb dX6_told_148 (by decide) ?_
        refine lv_goto (tgt := 157) hx hb dX6_told_149 (by decide) ?_
        exact W.iret (v := 0) hx hb hr (fun t ht hW => ⟨⟨0, (), rfl, trivial, trivial⟩, hS.F ht⟩) hS.2.2 dX6_told_157
    · skip
      refine lv_tableIn (off := 145) (tgt := 158) hx hb dX6_told_13 (by decide) (by decide) rfl (by decide) ?_
      refine lv_aload_n hx hb dX6_told_158 rfl (lv_at hl 0 rfl) ?_
      refine lv_iload_n hx hb dX6_told_159 rfl (lv_at hl 1 rfl) ?_
      refine gc_R (ci := 6) ⟨hx, hb, hml, hown, hts⟩ (m_leftInAll l dC dI K L f rt hC F_allBudget F_saleOf F_saleTick F_state F_pays F_price I_sales cn hns hso (by omega)) 1 wm_44 wm_45 wm_46 wm_8 wm_47 (by decide +kernel) ⟨Nat.le_of_ble_eq_true rfl, Nat.le_of_ble_eq_true rfl⟩ hK rfl (hC.1.1 51 (by decide)) F_m rfl hl.1 rfl (Nat.le_of_ble_eq_true rfl) dX6_told_160 ⟨Nat.le_of_ble_eq_true rfl, Nat.le_of_ble_eq_true rfl⟩ hS hP (fun r_15 H locs hpr_15 hP hS => ?_)
      refine lv_if_ge (tgt := 170) hx hb dX6_told_163 (by decide) (fun c_16 => ?_) (fun c_16 => ?_)
      · skip
        refine lv_aload_n hx hb dX6_told_170 rfl (lv_at hl 0 rfl) ?_
        refine lv_iload_n hx hb dX6_told_171 rfl (lv_at hl 1 rfl) ?_
        refine gc_R (ci := 6) ⟨hx, hb, hml, hown, hts⟩ (m_leftInAll l dC dI K L f rt hC F_allBudget F_saleOf F_saleTick F_state F_pays F_price I_sales cn hns hso (by omega)) 1 wm_44 wm_45 wm_46 wm_8 wm_47 (by decide +kernel) ⟨Nat.le_of_ble_eq_true rfl, Nat.le_of_ble_eq_true rfl⟩ hK rfl (hC.1.1 51 (by decide)) F_m rfl hl.1 rfl (Nat.le_of_ble_eq_true rfl) dX6_told_172 ⟨Nat.le_of_ble_eq_true rfl, Nat.le_of_ble_eq_true rfl⟩ hS hP (fun r_17 H locs hpr_17 hP hS => ?_)
        exact W.iret (v := r_17) hx hb hr (fun t ht hW => ⟨⟨r_17, (), rfl, trivial, trivial⟩, hS.F ht⟩) hS.2.2 dX6_told_175
      · skip
        refine lv_iconst (v := 0) hx hb dX6_told_166 (by decide) ?_
        refine lv_goto (tgt := 175) hx hb dX6_told_167 (by decide) ?_
        exact W.iret (v := 0) hx hb hr (fun t ht hW => ⟨⟨0, (), rfl, trivial, trivial⟩, hS.F ht⟩) hS.2.2 dX6_told_175
    · skip
      refine lv_tableIn (off := 163) (tgt := 176) hx hb dX6_told_13 (by decide) (by decide) rfl (by decide) ?_
      refine lv_aload_n hx hb dX6_told_176 rfl (lv_at hl 0 rfl) ?_
      refine g_get (ci := 6) (v := .ref (rt 20)) (C := RX6) (T := TX6) (N := 51) hx hb hts uB6 hown hK hP (hC.1.1 51 (by decide)) F_m rfl 20 (by decide) wm_29 (hC.2.2.2 20 (by decide)) dX6_told_177 ?_
      refine lv_iload_n hx hb dX6_told_180 rfl (lv_at hl 1 rfl) ?_
      refine g_zald hx hb hK hP (hC.1.1 20 (by decide)) F_stopped (vp_in_nI (by omega) (by decide)) dX6_told_181 ?_
      refine lv_topi (fun x_18 ex_18 => ?_)
      rw [nI_clamp (by omega)] at ex_18
      refine lv_if_eq (tgt := 189) hx hb dX6_told_182 (by decide) (fun c_19 => ?_) (fun c_19 => ?_)
      · skip
        refine lv_iconst (v := 0) hx hb dX6_told_189 (by decide) ?_
        exact W.iret (v := 0) hx hb hr (fun t ht hW => ⟨⟨0, (), rfl, trivial, trivial⟩, hS.F ht⟩) hS.2.2 dX6_told_190
      · skip
        refine lv_iconst (v := 1) hx hb dX6_told_185 (by decide) ?_
        refine lv_goto (tgt := 190) hx hb dX6_told_186 (by decide) ?_
        exact W.iret (v := 1) hx hb hr (fun t ht hW => ⟨⟨1, (), rfl, trivial, trivial⟩, hS.F ht⟩) hS.2.2 dX6_told_190
  · skip
    have g_2 := k_ff hpr_1 c_2
    refine lv_ldcw (v := (-2000000)) hx hb hown (hts _ wm_110) dX6_told_8 ?_
    exact W.iret (v := (-2000000)) hx hb hr (fun t ht hW => ⟨⟨(-2000000), (), rfl, trivial, trivial⟩, hS.F ht⟩) hS.2.2 dX6_told_11
set_option maxHeartbeats 4000000 in
set_option maxRecDepth 100000 in
theorem m_chance (l : Launch) (dC : Nat → ClassId) (dI : Nat → Nat → Nat) (K : Nat → ClassId) (L : List Nat) (f : Nat → va_E) (rt : Nat → Nat) {fm : List Value} (hC : mC rt L f fm) {g_saleOf : Nat → Int32} (F_saleOf : f (rt 30) = .inl (K 0, 1000, .inl g_saleOf)) {g_state : Nat → Int32} (F_state : f (rt 32) = .inl (K 0, 1000, .inl g_state)) {g_saleTick : Nat → Int32} (F_saleTick : f (rt 26) = .inl (K 0, 1000, .inl g_saleTick)) {g_pressTick : Nat → Int32} (F_pressTick : f (rt 34) = .inl (K 0, 1000, .inl g_pressTick)) {nc ns : Nat} {t : Int32} (I_campaigns : fm[9]? = some (.int (nI nc))) (I_sales : fm[25]? = some (.int (nI ns))) (I_tick : fm[1]? = some (.int t)) (x : Int32) (hnc : nc ≤ 40) (hns : ns ≤ 1000) : gR l yX6_chance cX6_chance 2 .int 2 (dC, dI) K L f [.ref (rt 51), .int x] (fun _ => True) := by
  refine Met.ofW (cc := cX6_chance) (maxL := 2) (ret := some .int) (by decide) rfl ?_
  intro p e s m args below meth c s₁ B hml hv
  obtain ⟨rfl, hP, hK⟩ := hv
  have F_m := hC.2.1
  have hx := B.exec
  have hb := B.bytes
  have hr := B.returns
  have hlocks := B.notSynchronized
  have hts0 := atoms_spec (ws := Cond.code yX6_chance cX6_chance 2 (some .int) :: lw_B) B.pre
  have hts : ∀ w ∈ lw_B, w.before _ s = true := fun w h => hts0 w (List.mem_cons_of_mem _ h)
  have hown : s.vm.findClass RX6 = some m.cls := findClass_of_methodNamed B.named
  have hS : va_S (fun _ => False) s.heap s.heap [] := va_S.rf
  have hl := lv_entry ([.ref (rt 51), .int x]) (n := 2) (Nat.le_of_ble_eq_true rfl)
  rw [lg_entry_eq]
  generalize (lg_sl ([.ref (rt 51), .int x]) ++ List.replicate (2 - (lg_sl ([.ref (rt 51), .int x])).length) Slot.unset).toArray = ls at hl ⊢
  have hl : lv_has ls 2 [(0, .ref (rt 51)), (1, .int x)] := hl
  refine lv_aload_n hx hb dX6_chance_0 rfl (lv_at hl 0 rfl) ?_
  refine lv_iload_n hx hb dX6_chance_1 rfl (lv_at hl 1 rfl) ?_
  refine gc_R (ci := 6) ⟨hx, hb, hml, hown, hts⟩ (m_isCampaign l dC dI K L f rt hC I_campaigns x) 1 wm_81 wm_82 wm_83 wm_8 wm_84 (by decide +kernel) ⟨Nat.le_of_ble_eq_true rfl, Nat.le_of_ble_eq_true rfl⟩ hK rfl (hC.1.1 51 (by decide)) F_m rfl hl.1 rfl (Nat.le_of_ble_eq_true rfl) dX6_chance_2 ⟨Nat.le_of_ble_eq_true rfl, Nat.le_of_ble_eq_true rfl⟩ hS hP (fun r_1 H locs hpr_1 hP hS => ?_)
  refine lv_if_eq (tgt := 42) hx hb dX6_chance_5 (by decide) (fun c_2 => ?_) (fun c_2 => ?_)
  · skip
    have g_2 := k_ff hpr_1 c_2
    refine lv_iconst (v := (-1)) hx hb dX6_chance_42 (by decide) ?_
    exact W.iret (v := (-1)) hx hb hr (fun t ht hW => ⟨⟨(-1), (), rfl, trivial, trivial⟩, hS.F ht⟩) hS.2.2 dX6_chance_43
  · skip
    have g_2 := k_ft hpr_1 c_2
    have hcd_cn := g_2
    obtain ⟨cn, hcn, rfl⟩ := k_ix g_2 (by omega)
    refine lv_aload_n hx hb dX6_chance_8 rfl (lv_at hl 0 rfl) ?_
    refine lv_iload_n hx hb dX6_chance_9 rfl (lv_at hl 1 rfl) ?_
    refine lv_aload_n hx hb dX6_chance_10 rfl (lv_at hl 0 rfl) ?_
    refine g_get (ci := 6) (v := .int t) (C := RX6) (T := TX6) (N := 51) hx hb hts uB6 hown hK hP (hC.1.1 51 (by decide)) F_m rfl 1 (by decide) wm_13 I_tick dX6_chance_11 ?_
    refine gc_R (ci := 6) ⟨hx, hb, hml, hown, hts⟩ (m_presses l dC dI K L f rt hC F_saleOf F_state F_pressTick I_sales (nI cn) t hns) 2 wm_58 wm_59 wm_60 wm_8 wm_61 (by decide +kernel) ⟨Nat.le_of_ble_eq_true rfl, Nat.le_of_ble_eq_true rfl⟩ hK rfl (hC.1.1 51 (by decide)) F_m rfl hl.1 rfl (Nat.le_of_ble_eq_true rfl) dX6_chance_14 ⟨Nat.le_of_ble_eq_true rfl, Nat.le_of_ble_eq_true rfl⟩ hS hP (fun r_3 H locs hpr_3 hP hS => ?_)
    refine lv_iconst (v := 1) hx hb dX6_chance_17 (by decide) ?_
    refine lv_iadd hx hb dX6_chance_18 ?_
    refine lv_topi (fun x_4 ex_4 => ?_)
    refine lv_i2l hx hb dX6_chance_19 rfl ?_
    refine lv_topl (fun x_5 ex_5 => ?_)
    refine lv_ldc2 (v := 1000000) hx hb hown (hts _ wm_117) dX6_chance_20 ?_
    refine lv_lmul hx hb dX6_chance_23 ?_
    refine lv_topl (fun x_6 ex_6 => ?_)
    refine lv_aload_n hx hb dX6_chance_24 rfl (lv_at hl 0 rfl) ?_
    refine lv_iload_n hx hb dX6_chance_25 rfl (lv_at hl 1 rfl) ?_
    refine lv_aload_n hx hb dX6_chance_26 rfl (lv_at hl 0 rfl) ?_
    refine g_get (ci := 6) (v := .int t) (C := RX6) (T := TX6) (N := 51) hx hb hts uB6 hown hK hP (hC.1.1 51 (by decide)) F_m rfl 1 (by decide) wm_13 I_tick dX6_chance_27 ?_
    refine gc_R (ci := 6) ⟨hx, hb, hml, hown, hts⟩ (m_showings l dC dI K L f rt hC F_saleOf F_state F_saleTick I_sales (nI cn) t hns) 2 wm_23 wm_24 wm_25 wm_8 wm_26 (by decide +kernel) ⟨Nat.le_of_ble_eq_true rfl, Nat.le_of_ble_eq_true rfl⟩ hK rfl (hC.1.1 51 (by decide)) F_m rfl hl.1 rfl (Nat.le_of_ble_eq_true rfl) dX6_chance_30 ⟨Nat.le_of_ble_eq_true rfl, Nat.le_of_ble_eq_true rfl⟩ hS hP (fun r_7 H locs hpr_7 hP hS => ?_)
    obtain ⟨q2, hq2, rfl⟩ := hpr_7
    refine lv_bipush (v := 20) hx hb dX6_chance_33 (by decide) ?_
    refine lv_iadd hx hb dX6_chance_35 ?_
    refine lv_topi (fun x_8 ex_8 => ?_)
    refine lv_i2l hx hb dX6_chance_36 rfl ?_
    refine lv_topl (fun x_9 ex_9 => ?_)
    refine lv_ldiv hx hb dX6_chance_37 (by subst ex_9 ex_8; exact k_20 (by omega)) ?_
    refine lv_topl (fun x_10 ex_10 => ?_)
    refine lv_l2i hx hb dX6_chance_38 rfl ?_
    refine lv_topi (fun x_11 ex_11 => ?_)
    refine lv_goto (tgt := 43) hx hb dX6_chance_39 (by decide) ?_
    exact W.iret (v := x_11) hx hb hr (fun t ht hW => ⟨⟨x_11, (), rfl, trivial, trivial⟩, hS.F ht⟩) hS.2.2 dX6_chance_43
set_option maxHeartbeats 4000000 in
set_option maxRecDepth 100000 in
theorem m_draw (l : Launch) (dC : Nat → ClassId) (dI : Nat → Nat → Nat) (K : Nat → ClassId) (L : List Nat) (f : Nat → va_E) (rt : Nat → Nat) {fm : List Value} (hC : mC rt L f fm) {nc : Nat} {t : Int32} (I_campaigns : fm[9]? = some (.int (nI nc))) (I_tick : fm[1]? = some (.int t)) (x : Int32) (y : Int32) (hnc : nc ≤ 40) : gR l yX6_draw cX6_draw 3 .int 2 (dC, dI) K L f [.ref (rt 51), .int x, .int y] (fun r => r = if (0 ≤ x ∧ x ≤ nI nc - 1) ∧ (0 ≤ y ∧ y ≤ 99) then drw t y x else (-1)) := by
  refine Met.ofW (cc := cX6_draw) (maxL := 3) (ret := some .int) (by decide) rfl ?_
  intro p e s m args below meth c s₁ B hml hv
  obtain ⟨rfl, hP, hK⟩ := hv
  have F_m := hC.2.1
  have hx := B.exec
  have hb := B.bytes
  have hr := B.returns
  have hlocks := B.notSynchronized
  have hts0 := atoms_spec (ws := Cond.code yX6_draw cX6_draw 3 (some .int) :: lw_B) B.pre
  have hts : ∀ w ∈ lw_B, w.before _ s = true := fun w h => hts0 w (List.mem_cons_of_mem _ h)
  have hown : s.vm.findClass RX6 = some m.cls := findClass_of_methodNamed B.named
  have hS : va_S (fun _ => False) s.heap s.heap [] := va_S.rf
  have hl := lv_entry ([.ref (rt 51), .int x, .int y]) (n := 3) (Nat.le_of_ble_eq_true rfl)
  rw [lg_entry_eq]
  generalize (lg_sl ([.ref (rt 51), .int x, .int y]) ++ List.replicate (3 - (lg_sl ([.ref (rt 51), .int x, .int y])).length) Slot.unset).toArray = ls at hl ⊢
  have hl : lv_has ls 3 [(0, .ref (rt 51)), (1, .int x), (2, .int y)] := hl
  refine lv_aload_n hx hb dX6_draw_0 rfl (lv_at hl 0 rfl) ?_
  refine lv_iload_n hx hb dX6_draw_1 rfl (lv_at hl 1 rfl) ?_
  refine gc_R (ci := 6) ⟨hx, hb, hml, hown, hts⟩ (m_isCampaign l dC dI K L f rt hC I_campaigns x) 1 wm_81 wm_82 wm_83 wm_8 wm_84 (by decide +kernel) ⟨Nat.le_of_ble_eq_true rfl, Nat.le_of_ble_eq_true rfl⟩ hK rfl (hC.1.1 51 (by decide)) F_m rfl hl.1 rfl (Nat.le_of_ble_eq_true rfl) dX6_draw_2 ⟨Nat.le_of_ble_eq_true rfl, Nat.le_of_ble_eq_true rfl⟩ hS hP (fun r_1 H locs hpr_1 hP hS => ?_)
  refine lv_if_eq (tgt := 24) hx hb dX6_draw_5 (by decide) (fun c_2 => ?_) (fun c_2 => ?_)
  · skip
    have g_2 := k_ff hpr_1 c_2
    refine lv_iconst (v := (-1)) hx hb dX6_draw_24 (by decide) ?_
    exact W.iret (v := (-1)) hx hb hr (fun t ht hW => ⟨⟨(-1), (), rfl, (if_neg (by simp only [Int32.lt_iff_toInt_lt, Int32.le_iff_toInt_le, ← Int32.toInt_inj, Int32.reduceToInt] at g_2 ⊢; omega)).symm, trivial⟩, hS.F ht⟩) hS.2.2 dX6_draw_25
  · skip
    have g_2 := k_ft hpr_1 c_2
    refine lv_iload_n hx hb dX6_draw_8 rfl (lv_at hl 2 rfl) ?_
    refine k_S ⟨hx, hb, hml, hown, hts⟩ (c_mReader l y) 1 wm_92 wm_93 wm_8 wm_94 (by decide +kernel) ⟨Nat.le_of_ble_eq_true rfl, Nat.le_of_ble_eq_true rfl⟩ rfl hl.1 rfl (Nat.le_of_ble_eq_true rfl) dX6_draw_9 ⟨Nat.le_of_ble_eq_true rfl, Nat.le_of_ble_eq_true rfl⟩ hS hP (fun r_3 H locs hpr_3 hP hS => ?_)
    refine lv_if_eq (tgt := 24) hx hb dX6_draw_12 (by decide) (fun c_4 => ?_) (fun c_4 => ?_)
    · skip
      have g_4 := k_ff hpr_3 c_4
      refine lv_iconst (v := (-1)) hx hb dX6_draw_24 (by decide) ?_
      exact W.iret (v := (-1)) hx hb hr (fun t ht hW => ⟨⟨(-1), (), rfl, (if_neg (by simp only [Int32.lt_iff_toInt_lt, Int32.le_iff_toInt_le, ← Int32.toInt_inj, Int32.reduceToInt] at g_2 g_4 ⊢; omega)).symm, trivial⟩, hS.F ht⟩) hS.2.2 dX6_draw_25
    · skip
      have g_4 := k_ft hpr_3 c_4
      refine lv_aload_n hx hb dX6_draw_15 rfl (lv_at hl 0 rfl) ?_
      refine lv_iload_n hx hb dX6_draw_16 rfl (lv_at hl 1 rfl) ?_
      refine lv_iload_n hx hb dX6_draw_17 rfl (lv_at hl 2 rfl) ?_
      refine gc_R (ci := 6) ⟨hx, hb, hml, hown, hts⟩ (m_drawOf l dC dI K L f rt hC I_tick x y) 2 wm_34 wm_35 wm_36 wm_8 wm_37 (by decide +kernel) ⟨Nat.le_of_ble_eq_true rfl, Nat.le_of_ble_eq_true rfl⟩ hK rfl (hC.1.1 51 (by decide)) F_m rfl hl.1 rfl (Nat.le_of_ble_eq_true rfl) dX6_draw_18 ⟨Nat.le_of_ble_eq_true rfl, Nat.le_of_ble_eq_true rfl⟩ hS hP (fun r_5 H locs hpr_5 hP hS => ?_)
      refine lv_goto (tgt := 25) hx hb dX6_draw_21 (by decide) ?_
      exact W.iret (v := r_5) hx hb hr (fun t ht hW => ⟨⟨r_5, (), rfl, (hpr_5.trans (if_pos (by simp only [Int32.lt_iff_toInt_lt, Int32.le_iff_toInt_le, ← Int32.toInt_inj, Int32.reduceToInt] at g_2 g_4 ⊢; omega)).symm), trivial⟩, hS.F ht⟩) hS.2.2 dX6_draw_25
set_option maxHeartbeats 4000000 in
set_option maxRecDepth 100000 in
theorem m_income (l : Launch) (dC : Nat → ClassId) (dI : Nat → Nat → Nat) (K : Nat → ClassId) (L : List Nat) (f : Nat → va_E) (rt : Nat → Nat) {fm : List Value} (hC : mC rt L f fm) {g_salePage : Nat → Int32} (F_salePage : f (rt 28) = .inl (K 0, 1000, .inl g_salePage)) {g_state : Nat → Int32} (F_state : f (rt 32) = .inl (K 0, 1000, .inl g_state)) {g_saleOf : Nat → Int32} (F_saleOf : f (rt 30) = .inl (K 0, 1000, .inl g_saleOf)) {g_pays : Nat → Int32} (F_pays : f (rt 11) = .inl (K 0, 40, .inl g_pays)) {g_price : Nat → Int32} (F_price : f (rt 31) = .inl (K 0, 1000, .inl g_price)) {np ns : Nat} (I_pages : fm[5]? = some (.int (nI np))) (I_sales : fm[25]? = some (.int (nI ns))) (x : Int32) (hns : ns ≤ 1000) (hso : ∀ j, j < ns → vp_in (g_saleOf j) 40) : gR l yX6_income cX6_income 4 .int 2 (dC, dI) K L f [.ref (rt 51), .int x] (fun _ => True) := by
  refine Met.ofW (cc := cX6_income) (maxL := 4) (ret := some .int) (by decide) rfl ?_
  intro p e s m args below meth c s₁ B hml hv
  obtain ⟨rfl, hP, hK⟩ := hv
  have F_m := hC.2.1
  have hx := B.exec
  have hb := B.bytes
  have hr := B.returns
  have hlocks := B.notSynchronized
  have hts0 := atoms_spec (ws := Cond.code yX6_income cX6_income 4 (some .int) :: lw_B) B.pre
  have hts : ∀ w ∈ lw_B, w.before _ s = true := fun w h => hts0 w (List.mem_cons_of_mem _ h)
  have hown : s.vm.findClass RX6 = some m.cls := findClass_of_methodNamed B.named
  have hS : va_S (fun _ => False) s.heap s.heap [] := va_S.rf
  have hl := lv_entry ([.ref (rt 51), .int x]) (n := 4) (Nat.le_of_ble_eq_true rfl)
  rw [lg_entry_eq]
  generalize (lg_sl ([.ref (rt 51), .int x]) ++ List.replicate (4 - (lg_sl ([.ref (rt 51), .int x])).length) Slot.unset).toArray = ls at hl ⊢
  have hl : lv_has ls 4 [(0, .ref (rt 51)), (1, .int x)] := hl
  refine lv_aload_n hx hb dX6_income_0 rfl (lv_at hl 0 rfl) ?_
  refine lv_iload_n hx hb dX6_income_1 rfl (lv_at hl 1 rfl) ?_
  refine gc_R (ci := 6) ⟨hx, hb, hml, hown, hts⟩ (m_isPage l dC dI K L f rt hC I_pages x) 1 wm_95 wm_96 wm_97 wm_8 wm_98 (by decide +kernel) ⟨Nat.le_of_ble_eq_true rfl, Nat.le_of_ble_eq_true rfl⟩ hK rfl (hC.1.1 51 (by decide)) F_m rfl hl.1 rfl (Nat.le_of_ble_eq_true rfl) dX6_income_2 ⟨Nat.le_of_ble_eq_true rfl, Nat.le_of_ble_eq_true rfl⟩ hS hP (fun r_1 H locs hpr_1 hP hS => ?_)
  refine lv_if_ne (tgt := 10) hx hb dX6_income_5 (by decide) (fun c_2 => ?_) (fun c_2 => ?_)
  · skip
    have g_2 := k_ft hpr_1 c_2
    refine lv_iconst (v := 0) hx hb dX6_income_10 (by decide) ?_
    refine lv_istore_n (lv' := [(2, .int 0), (0, .ref (rt 51)), (1, .int x)]) hx hb dX6_income_11 rfl hl (by decide) rfl (fun ls hl => ?_)
    refine lv_iconst (v := 0) hx hb dX6_income_12 (by decide) ?_
    refine lv_istore_n (lv' := [(3, .int 0), (2, .int 0), (0, .ref (rt 51)), (1, .int x)]) hx hb dX6_income_13 rfl hl (by decide) rfl (fun ls hl => ?_)
    refine k_lx (pcx := 51) (fun n H locs ls => ∃ (j : Nat) (acc : Int32), j + n = ns ∧ True ∧ va_P (dC, dI) vwCl (va_pl L f) H ∧ va_S (fun _ => False) s.heap H locs ∧ lv_has ls 4 [(0, .ref (rt 51)), (1, .int x), (2, .int acc), (3, .int (nI j))]) (fun H locs ls => ∃ (j : Nat) (acc : Int32), j = ns ∧ True ∧ va_P (dC, dI) vwCl (va_pl L f) H ∧ va_S (fun _ => False) s.heap H locs ∧ lv_has ls 4 [(0, .ref (rt 51)), (1, .int x), (2, .int acc), (3, .int (nI j))]) (fun H locs ls hI => ?_) (fun n H locs ls hI hE ih => ?_) ns _ _ _ ⟨0, _, by omega, trivial, hP, hS, lv_sub hl [2, 3, 1, 0] rfl⟩
    · skip
      obtain ⟨j, acc, hj, hacc, hP, hS, hl⟩ := hI
      refine lv_iload_n hx hb dX6_income_51 rfl (lv_at hl 2 rfl) ?_
      exact W.iret (v := acc) hx hb hr (fun t ht hW => ⟨⟨acc, (), rfl, trivial, trivial⟩, hS.F ht⟩) hS.2.2 dX6_income_52
    · skip
      obtain ⟨j, acc, hj, hacc, hP, hS, hl⟩ := hI
      refine lv_iload_n hx hb dX6_income_14 rfl (lv_at hl 3 rfl) ?_
      refine lv_aload_n hx hb dX6_income_15 rfl (lv_at hl 0 rfl) ?_
      refine g_get (ci := 6) (v := .int (nI ns)) (C := RX6) (T := TX6) (N := 51) hx hb hts uB6 hown hK hP (hC.1.1 51 (by decide)) F_m rfl 25 (by decide) wm_4 I_sales dX6_income_16 ?_
      refine lv_icmp_ge (tgt := 51) hx hb dX6_income_19 (by decide) (fun c_3 => ?_) (fun c_3 => ?_)
      · skip
        have hjn : j = ns := by have := (nI_leI (a := ns) (b := j) (by omega) (by omega)).mp c_3; omega
        exact hE _ _ _ ⟨j, _, by omega, hacc, hP, hS, lv_sub hl [0, 1, 2, 3] rfl⟩
      · skip
        have hjn : j < ns := by rcases Nat.lt_or_ge j ns with q | q; exact q; exact absurd (nI_le q (by omega)) c_3
        refine lv_iload_n hx hb dX6_income_22 rfl (lv_at hl 2 rfl) ?_
        refine lv_aload_n hx hb dX6_income_23 rfl (lv_at hl 0 rfl) ?_
        refine g_get (ci := 6) (v := .ref (rt 28)) (C := RX6) (T := TX6) (N := 51) hx hb hts uB6 hown hK hP (hC.1.1 51 (by decide)) F_m rfl 28 (by decide) wm_48 (hC.2.2.2 28 (by decide)) dX6_income_24 ?_
        refine lv_iload_n hx hb dX6_income_27 rfl (lv_at hl 3 rfl) ?_
        refine g_iald hx hb hK hP (hC.1.1 28 (by decide)) F_salePage (vp_in_nI (by omega) (by decide)) dX6_income_28 ?_
        refine lv_topi (fun x_4 ex_4 => ?_)
        rw [nI_clamp (by omega)] at ex_4
        refine lv_iload_n hx hb dX6_income_29 rfl (lv_at hl 1 rfl) ?_
        refine lv_icmp_ne (tgt := 42) hx hb dX6_income_30 (by decide) (fun c_5 => ?_) (fun c_5 => ?_)
        · skip
          refine lv_iconst (v := 0) hx hb dX6_income_42 (by decide) ?_
          refine lv_iadd hx hb dX6_income_43 ?_
          refine lv_topi (fun x_6 ex_6 => ?_)
          refine lv_istore_n (lv' := [(2, .int x_6), (0, .ref (rt 51)), (1, .int x), (3, .int (nI j))]) hx hb dX6_income_44 rfl hl (by decide) rfl (fun ls hl => ?_)
          obtain ⟨x_7, ex_7⟩ : ∃ y : Int32, y = (nI j) + 1 := ⟨_, rfl⟩
          refine lv_iinc (v := x_7) (lv' := [(3, .int x_7), (2, .int x_6), (0, .ref (rt 51)), (1, .int x)]) hx hb dX6_income_45 hl (k := 3) rfl (by rw [ex_7]; rfl) (by decide) rfl (fun ls hl => ?_)
          refine lv_goto (tgt := 14) hx hb dX6_income_48 (by decide) ?_
          obtain rfl : x_7 = nI (j + 1) := ex_7.trans (nI_1 j)
          exact ih (n - 1) (by omega) _ _ _ ⟨j + 1, _, by omega, trivial, hP, hS, lv_sub hl [2, 3, 1, 0] rfl⟩
        · skip
          refine lv_aload_n hx hb dX6_income_33 rfl (lv_at hl 0 rfl) ?_
          refine lv_iload_n hx hb dX6_income_34 rfl (lv_at hl 3 rfl) ?_
          refine lv_iconst (v := 0) hx hb dX6_income_35 (by decide) ?_
          refine gc_R (ci := 6) ⟨hx, hb, hml, hown, hts⟩ (m_coins l dC dI K L f rt hC F_state F_saleOf F_pays F_price j 0 hns hso hjn) 2 wm_5 wm_6 wm_7 wm_8 wm_9 (by decide +kernel) ⟨Nat.le_of_ble_eq_true rfl, Nat.le_of_ble_eq_true rfl⟩ hK rfl (hC.1.1 51 (by decide)) F_m rfl hl.1 rfl (Nat.le_of_ble_eq_true rfl) dX6_income_36 ⟨Nat.le_of_ble_eq_true rfl, Nat.le_of_ble_eq_true rfl⟩ hS hP (fun r_8 H locs hpr_8 hP hS => ?_)
          refine lv_goto (tgt := 43) hx hb dX6_income_39 (by decide) ?_
          refine lv_iadd hx hb dX6_income_43 ?_
          refine lv_topi (fun x_9 ex_9 => ?_)
          refine lv_istore_n (lv' := [(2, .int x_9), (0, .ref (rt 51)), (1, .int x), (3, .int (nI j))]) hx hb dX6_income_44 rfl hl (by decide) rfl (fun ls hl => ?_)
          obtain ⟨x_10, ex_10⟩ : ∃ y : Int32, y = (nI j) + 1 := ⟨_, rfl⟩
          refine lv_iinc (v := x_10) (lv' := [(3, .int x_10), (2, .int x_9), (0, .ref (rt 51)), (1, .int x)]) hx hb dX6_income_45 hl (k := 3) rfl (by rw [ex_10]; rfl) (by decide) rfl (fun ls hl => ?_)
          refine lv_goto (tgt := 14) hx hb dX6_income_48 (by decide) ?_
          obtain rfl : x_10 = nI (j + 1) := ex_10.trans (nI_1 j)
          exact ih (n - 1) (by omega) _ _ _ ⟨j + 1, _, by omega, trivial, hP, hS, lv_sub hl [2, 3, 1, 0] rfl⟩
  · skip
    have g_2 := k_ff hpr_1 c_2
    refine lv_iconst (v := (-1)) hx hb dX6_income_8 (by decide) ?_
    exact W.iret (v := (-1)) hx hb hr (fun t ht hW => ⟨⟨(-1), (), rfl, trivial, trivial⟩, hS.F ht⟩) hS.2.2 dX6_income_9
set_option maxHeartbeats 4000000 in
set_option maxRecDepth 100000 in
theorem m_why (l : Launch) (dC : Nat → ClassId) (dI : Nat → Nat → Nat) (K : Nat → ClassId) (L : List Nat) (f : Nat → va_E) (rt : Nat → Nat) {fm : List Value} (hC : mC rt L f fm) {g_stopped : Nat → Int32} (F_stopped : f (rt 20) = .inl (K 2, 40, .inl g_stopped)) {g_marks : Nat → Int32} (F_marks : f (rt 8) = .inl (K 0, 100, .inl g_marks)) {g_must : Nat → Int32} (F_must : f (rt 12) = .inl (K 0, 40, .inl g_must)) {g_never : Nat → Int32} (F_never : f (rt 13) = .inl (K 0, 40, .inl g_never)) {g_saleOf : Nat → Int32} (F_saleOf : f (rt 30) = .inl (K 0, 1000, .inl g_saleOf)) {g_saleReader : Nat → Int32} (F_saleReader : f (rt 27) = .inl (K 0, 1000, .inl g_saleReader)) {g_saleTick : Nat → Int32} (F_saleTick : f (rt 26) = .inl (K 0, 1000, .inl g_saleTick)) {g_salePage : Nat → Int32} (F_salePage : f (rt 28) = .inl (K 0, 1000, .inl g_salePage)) {g_state : Nat → Int32} (F_state : f (rt 32) = .inl (K 0, 1000, .inl g_state)) {g_span : Nat → Int32} (F_span : f (rt 18) = .inl (K 0, 40, .inl g_span)) {g_apart : Nat → Int32} (F_apart : f (rt 21) = .inl (K 2, 1600, .inl g_apart)) {g_cap : Nat → Int32} (F_cap : f (rt 17) = .inl (K 0, 40, .inl g_cap)) {g_sort : Nat → Int32} (F_sort : f (rt 10) = .inl (K 0, 40, .inl g_sort)) {g_bid : Nat → Int32} (F_bid : f (rt 14) = .inl (K 0, 40, .inl g_bid)) {g_throttle : Nat → Int32} (F_throttle : f (rt 19) = .inl (K 0, 40, .inl g_throttle)) {g_dayBudget : Nat → Int32} (F_dayBudget : f (rt 15) = .inl (K 0, 40, .inl g_dayBudget)) {g_allBudget : Nat → Int32} (F_allBudget : f (rt 16) = .inl (K 0, 40, .inl g_allBudget)) {g_pays : Nat → Int32} (F_pays : f (rt 11) = .inl (K 0, 40, .inl g_pays)) {g_price : Nat → Int32} (F_price : f (rt 31) = .inl (K 0, 1000, .inl g_price)) {nc np ns : Nat} {t : Int32} (I_campaigns : fm[9]? = some (.int (nI nc))) (I_pages : fm[5]? = some (.int (nI np))) (I_sales : fm[25]? = some (.int (nI ns))) (I_tick : fm[1]? = some (.int t)) (x : Int32) (y : Int32) (z : Int32) (hnc : nc ≤ 40) (hns : ns ≤ 1000) (hso : ∀ j, j < ns → vp_in (g_saleOf j) 40) : gR l yX6_why cX6_why 4 .int 4 (dC, dI) K L f [.ref (rt 51), .int x, .int y, .int z] (fun _ => True) := by
  refine Met.ofW (cc := cX6_why) (maxL := 4) (ret := some .int) (by decide) rfl ?_
  intro p e s m args below meth c s₁ B hml hv
  obtain ⟨rfl, hP, hK⟩ := hv
  have F_m := hC.2.1
  have hx := B.exec
  have hb := B.bytes
  have hr := B.returns
  have hlocks := B.notSynchronized
  have hts0 := atoms_spec (ws := Cond.code yX6_why cX6_why 4 (some .int) :: lw_B) B.pre
  have hts : ∀ w ∈ lw_B, w.before _ s = true := fun w h => hts0 w (List.mem_cons_of_mem _ h)
  have hown : s.vm.findClass RX6 = some m.cls := findClass_of_methodNamed B.named
  have hS : va_S (fun _ => False) s.heap s.heap [] := va_S.rf
  have hl := lv_entry ([.ref (rt 51), .int x, .int y, .int z]) (n := 4) (Nat.le_of_ble_eq_true rfl)
  rw [lg_entry_eq]
  generalize (lg_sl ([.ref (rt 51), .int x, .int y, .int z]) ++ List.replicate (4 - (lg_sl ([.ref (rt 51), .int x, .int y, .int z])).length) Slot.unset).toArray = ls at hl ⊢
  have hl : lv_has ls 4 [(0, .ref (rt 51)), (1, .int x), (2, .int y), (3, .int z)] := hl
  refine lv_aload_n hx hb dX6_why_0 rfl (lv_at hl 0 rfl) ?_
  refine lv_iload_n hx hb dX6_why_1 rfl (lv_at hl 1 rfl) ?_
  refine gc_R (ci := 6) ⟨hx, hb, hml, hown, hts⟩ (m_isCampaign l dC dI K L f rt hC I_campaigns x) 1 wm_81 wm_82 wm_83 wm_8 wm_84 (by decide +kernel) ⟨Nat.le_of_ble_eq_true rfl, Nat.le_of_ble_eq_true rfl⟩ hK rfl (hC.1.1 51 (by decide)) F_m rfl hl.1 rfl (Nat.le_of_ble_eq_true rfl) dX6_why_2 ⟨Nat.le_of_ble_eq_true rfl, Nat.le_of_ble_eq_true rfl⟩ hS hP (fun r_1 H locs hpr_1 hP hS => ?_)
  refine lv_if_eq (tgt := 33) hx hb dX6_why_5 (by decide) (fun c_2 => ?_) (fun c_2 => ?_)
  · skip
    have g_2 := k_ff hpr_1 c_2
    refine lv_iconst (v := (-1)) hx hb dX6_why_33 (by decide) ?_
    exact W.iret (v := (-1)) hx hb hr (fun t ht hW => ⟨⟨(-1), (), rfl, trivial, trivial⟩, hS.F ht⟩) hS.2.2 dX6_why_34
  · skip
    have g_2 := k_ft hpr_1 c_2
    have hcd_cn := g_2
    obtain ⟨cn, hcn, rfl⟩ := k_ix g_2 (by omega)
    refine lv_iload_n hx hb dX6_why_8 rfl (lv_at hl 2 rfl) ?_
    refine k_S ⟨hx, hb, hml, hown, hts⟩ (c_mReader l y) 1 wm_92 wm_93 wm_8 wm_94 (by decide +kernel) ⟨Nat.le_of_ble_eq_true rfl, Nat.le_of_ble_eq_true rfl⟩ rfl hl.1 rfl (Nat.le_of_ble_eq_true rfl) dX6_why_9 ⟨Nat.le_of_ble_eq_true rfl, Nat.le_of_ble_eq_true rfl⟩ hS hP (fun r_3 H locs hpr_3 hP hS => ?_)
    refine lv_if_eq (tgt := 33) hx hb dX6_why_12 (by decide) (fun c_4 => ?_) (fun c_4 => ?_)
    · skip
      have g_4 := k_ff hpr_3 c_4
      refine lv_iconst (v := (-1)) hx hb dX6_why_33 (by decide) ?_
      exact W.iret (v := (-1)) hx hb hr (fun t ht hW => ⟨⟨(-1), (), rfl, trivial, trivial⟩, hS.F ht⟩) hS.2.2 dX6_why_34
    · skip
      have g_4 := k_ft hpr_3 c_4
      obtain ⟨rd, hrd, rfl⟩ := k_ix (n := 100) (x := y) g_4 (by omega)
      refine lv_aload_n hx hb dX6_why_15 rfl (lv_at hl 0 rfl) ?_
      refine lv_iload_n hx hb dX6_why_16 rfl (lv_at hl 3 rfl) ?_
      refine gc_R (ci := 6) ⟨hx, hb, hml, hown, hts⟩ (m_isPage l dC dI K L f rt hC I_pages z) 1 wm_95 wm_96 wm_97 wm_8 wm_98 (by decide +kernel) ⟨Nat.le_of_ble_eq_true rfl, Nat.le_of_ble_eq_true rfl⟩ hK rfl (hC.1.1 51 (by decide)) F_m rfl hl.1 rfl (Nat.le_of_ble_eq_true rfl) dX6_why_17 ⟨Nat.le_of_ble_eq_true rfl, Nat.le_of_ble_eq_true rfl⟩ hS hP (fun r_5 H locs hpr_5 hP hS => ?_)
      refine lv_if_eq (tgt := 33) hx hb dX6_why_20 (by decide) (fun c_6 => ?_) (fun c_6 => ?_)
      · skip
        have g_6 := k_ff hpr_5 c_6
        refine lv_iconst (v := (-1)) hx hb dX6_why_33 (by decide) ?_
        exact W.iret (v := (-1)) hx hb hr (fun t ht hW => ⟨⟨(-1), (), rfl, trivial, trivial⟩, hS.F ht⟩) hS.2.2 dX6_why_34
      · skip
        have g_6 := k_ft hpr_5 c_6
        refine lv_aload_n hx hb dX6_why_23 rfl (lv_at hl 0 rfl) ?_
        refine lv_iload_n hx hb dX6_why_24 rfl (lv_at hl 1 rfl) ?_
        refine lv_iload_n hx hb dX6_why_25 rfl (lv_at hl 2 rfl) ?_
        refine lv_iload_n hx hb dX6_why_26 rfl (lv_at hl 3 rfl) ?_
        refine gc_R (ci := 6) ⟨hx, hb, hml, hown, hts⟩ (m_hinders l dC dI K L f rt hC F_stopped F_marks F_must F_never F_saleOf F_saleReader F_saleTick F_salePage F_state F_span F_apart F_cap F_sort F_bid F_throttle F_dayBudget F_allBudget F_pays F_price I_sales I_tick cn rd z hns hso (by omega) (by omega)) 3 wm_118 wm_119 wm_120 wm_8 wm_121 (by decide +kernel) ⟨Nat.le_of_ble_eq_true rfl, Nat.le_of_ble_eq_true rfl⟩ hK rfl (hC.1.1 51 (by decide)) F_m rfl hl.1 rfl (Nat.le_of_ble_eq_true rfl) dX6_why_27 ⟨Nat.le_of_ble_eq_true rfl, Nat.le_of_ble_eq_true rfl⟩ hS hP (fun r_7 H locs hpr_7 hP hS => ?_)
        refine lv_goto (tgt := 34) hx hb dX6_why_30 (by decide) ?_
        exact W.iret (v := r_7) hx hb hr (fun t ht hW => ⟨⟨r_7, (), rfl, trivial, trivial⟩, hS.F ht⟩) hS.2.2 dX6_why_34
