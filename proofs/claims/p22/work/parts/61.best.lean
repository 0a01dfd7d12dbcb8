set_option maxHeartbeats 4000000 in
set_option maxRecDepth 100000 in
theorem um_best (l : Launch) (dC : Nat → ClassId) (dI : Nat → Nat → Nat) (K : Nat → ClassId) (L : List Nat) (f : Nat → va_E) (rt : Nat → Nat) {fm : List Value} (hC : mC rt L f fm) {g_stopped : Nat → Int32} (F_stopped : f (rt 20) = .inl (K 2, 40, .inl g_stopped)) {g_marks : Nat → Int32} (F_marks : f (rt 8) = .inl (K 0, 100, .inl g_marks)) {g_must : Nat → Int32} (F_must : f (rt 12) = .inl (K 0, 40, .inl g_must)) {g_never : Nat → Int32} (F_never : f (rt 13) = .inl (K 0, 40, .inl g_never)) {g_saleOf : Nat → Int32} (F_saleOf : f (rt 30) = .inl (K 0, 1000, .inl g_saleOf)) {g_saleReader : Nat → Int32} (F_saleReader : f (rt 27) = .inl (K 0, 1000, .inl g_saleReader)) {g_saleTick : Nat → Int32} (F_saleTick : f (rt 26) = .inl (K 0, 1000, .inl g_saleTick)) {g_salePage : Nat → Int32} (F_salePage : f (rt 28) = .inl (K 0, 1000, .inl g_salePage)) {g_state : Nat → Int32} (F_state : f (rt 32) = .inl (K 0, 1000, .inl g_state)) {g_span : Nat → Int32} (F_span : f (rt 18) = .inl (K 0, 40, .inl g_span)) {g_apart : Nat → Int32} (F_apart : f (rt 21) = .inl (K 2, 1600, .inl g_apart)) {g_cap : Nat → Int32} (F_cap : f (rt 17) = .inl (K 0, 40, .inl g_cap)) {g_sort : Nat → Int32} (F_sort : f (rt 10) = .inl (K 0, 40, .inl g_sort)) {g_bid : Nat → Int32} (F_bid : f (rt 14) = .inl (K 0, 40, .inl g_bid)) {g_throttle : Nat → Int32} (F_throttle : f (rt 19) = .inl (K 0, 40, .inl g_throttle)) {g_dayBudget : Nat → Int32} (F_dayBudget : f (rt 15) = .inl (K 0, 40, .inl g_dayBudget)) {g_allBudget : Nat → Int32} (F_allBudget : f (rt 16) = .inl (K 0, 40, .inl g_allBudget)) {g_pays : Nat → Int32} (F_pays : f (rt 11) = .inl (K 0, 40, .inl g_pays)) {g_price : Nat → Int32} (F_price : f (rt 31) = .inl (K 0, 1000, .inl g_price)) {g_promised : Nat → Int32} (F_promised : f (rt 22) = .inl (K 0, 40, .inl g_promised)) {g_promiseDay : Nat → Int32} (F_promiseDay : f (rt 23) = .inl (K 0, 40, .inl g_promiseDay)) {g_promiseFrom : Nat → Int32} (F_promiseFrom : f (rt 24) = .inl (K 0, 40, .inl g_promiseFrom)) {g_pressTick : Nat → Int32} (F_pressTick : f (rt 34) = .inl (K 0, 1000, .inl g_pressTick)) {g_places : Nat → Int32} (F_places : f (rt 6) = .inl (K 0, 8, .inl g_places)) {g_sizes : Nat → Int32} (F_sizes : f (rt 7) = .inl (K 0, 32, .inl g_sizes)) {g_mayBe : Nat → Int32} (F_mayBe : f (rt 36) = .inl (K 0, 40, .inl g_mayBe)) {g_worth : Nat → Int64} (F_worth : f (rt 37) = .inl (K 1, 160, .inr (.inl g_worth))) {g_mostAt : Nat → Int64} (F_mostAt : f (rt 38) = .inl (K 1, 5, .inr (.inl g_mostAt))) {g_order : Nat → Int32} (F_order : f (rt 47) = .inl (K 0, 40, .inl g_order)) {g_next : Nat → Int32} (F_next : f (rt 48) = .inl (K 0, 5, .inl g_next)) {g_upTo : Nat → Int64} (F_upTo : f (rt 41) = .inl (K 1, 5, .inr (.inl g_upTo))) {g_filledTo : Nat → Int32} (F_filledTo : f (rt 42) = .inl (K 0, 5, .inl g_filledTo)) {g_at : Nat → Int32} (F_at : f (rt 40) = .inl (K 0, 5, .inl g_at)) {g_given : Nat → Int32} (F_given : f (rt 46) = .inl (K 0, 4, .inl g_given)) {ns nc np : Nat} {t v1 v2 v3 : Int32} {v4 : Int64} {v5 : Int32} (I_sales : fm[25]? = some (.int (nI ns))) (I_campaigns : fm[9]? = some (.int (nI nc))) (I_tick : fm[1]? = some (.int t)) (I_may : fm[35]? = some (.int v1)) (I_spots : fm[39]? = some (.int v2)) (I_hasBest : fm[45]? = some (.int v3)) (I_bestSum : fm[43]? = some (.long v4)) (I_bestFilled : fm[44]? = some (.int v5)) (I_pages : fm[5]? = some (.int (nI np))) (x : Int32) (y : Int32) (hns : ns ≤ 1000) (hso : ∀ j, j < ns → vp_in (g_saleOf j) 40) (hnc : nc ≤ 40) (hpb : ∀ c, c < 40 → g_promised c = 0 ∨ ∃ a d : Nat, d ≤ 100 ∧ a < 100 * d + 100 ∧ g_promiseDay c = nI d ∧ g_promiseFrom c = nI a) (hbd : ∀ c, c < 40 → ∃ b : Nat, b ≤ 1000 ∧ g_bid c = nI b) (hsz : ∀ i, i < 32 → ∃ z : Nat, z ≤ 127 ∧ g_sizes i = nI z) (hnp : np ≤ 8) (hpls : ∀ i, i < np → ∃ q : Nat, 1 ≤ q ∧ q ≤ 4 ∧ g_places i = nI q) (hLn : gN L) : gMl l yX6_best cX6_best 3 6 (dC, dI) K L f [.ref (rt 51), .int x, .int y] (fun _ f' => f' = f ∨ ∃ (fm' : List Value) (gb : Nat → Int32) (gw : Nat → Int64) (gm : Nat → Int64) (go : Nat → Int32) (gn : Nat → Int32) (gu : Nat → Int64) (gf : Nat → Int32) (ga : Nat → Int32) (gg : Nat → Int32), gSm rt [36, 37, 38, 40, 41, 42, 46, 47, 48, 51] f f' ∧ fmS [35, 39, 43, 44, 45] fm fm' ∧ mC rt L f' fm' ∧ f' (rt 36) = .inl (K 0, 40, .inl gb) ∧ f' (rt 37) = .inl (K 1, 160, .inr (.inl gw)) ∧ f' (rt 38) = .inl (K 1, 5, .inr (.inl gm)) ∧ f' (rt 47) = .inl (K 0, 40, .inl go) ∧ f' (rt 48) = .inl (K 0, 5, .inl gn) ∧ f' (rt 41) = .inl (K 1, 5, .inr (.inl gu)) ∧ f' (rt 42) = .inl (K 0, 5, .inl gf) ∧ f' (rt 40) = .inl (K 0, 5, .inl ga) ∧ f' (rt 46) = .inl (K 0, 4, .inl gg) ∧ (∃ v, fm'[35]? = some (.int v)) ∧ (∃ v, fm'[39]? = some (.int v)) ∧ (∃ v, fm'[45]? = some (.int v)) ∧ (∃ v, fm'[43]? = some (.long v)) ∧ (∃ v, fm'[44]? = some (.int v))) := by
  refine Met.ofW (cc := cX6_best) (maxL := 3) (ret := (some .long)) (by decide) rfl ?_
  intro p e s m args below meth c s₁ B hml hv
  obtain ⟨rfl, hP, hK⟩ := hv
  have F_m := hC.2.1
  have hD : va_D (fun q : Nat => q ∈ L) (va_pl L f) := g_D hLn (fun a h => h) f
  generalize hAe : (fun q : Nat => q ∈ L) = A at hD ⊢
  have hx := B.exec
  have hb := B.bytes
  have hr := B.returns
  have hlocks := B.notSynchronized
  have hts0 := atoms_spec (ws := Cond.code yX6_best cX6_best 3 (some .long) :: lw_B) B.pre
  have hts : ∀ w ∈ lw_B, w.before _ s = true := fun w h => hts0 w (List.mem_cons_of_mem _ h)
  have hown : s.vm.findClass RX6 = some m.cls := findClass_of_methodNamed B.named
  have hS : va_S A s.heap s.heap [] := va_S.rf
  have hl := lv_entry ([.ref (rt 51), .int x, .int y]) (n := 3) (Nat.le_of_ble_eq_true rfl)
  rw [lg_entry_eq]
  generalize (lg_sl ([.ref (rt 51), .int x, .int y]) ++ List.replicate (3 - (lg_sl ([.ref (rt 51), .int x, .int y])).length) Slot.unset).toArray = ls at hl ⊢
  have hl : lv_has ls 3 [(0, .ref (rt 51)), (1, .int x), (2, .int y)] := hl
  have hSm : gSm rt [36, 37, 38, 40, 41, 42, 46, 47, 48, 51] f f := gSm.rf
  have hFs : fmS [35, 39, 43, 44, 45] fm fm := fmS.rf
  refine lv_iload_n hx hb dX6_best_0 rfl (lv_at hl 1 rfl) ?_
  refine k_S ⟨hx, hb, hml, hown, hts⟩ (c_mReader l x) 1 wm_92 wm_93 wm_8 wm_94 (by decide +kernel) ⟨Nat.le_of_ble_eq_true rfl, Nat.le_of_ble_eq_true rfl⟩ rfl hl.1 rfl (Nat.le_of_ble_eq_true rfl) dX6_best_1 ⟨Nat.le_of_ble_eq_true rfl, Nat.le_of_ble_eq_true rfl⟩ hS hP (fun r_1 H locs hpr_1 hP hS => ?_)
  refine lv_if_eq (tgt := 24) hx hb dX6_best_4 (by decide) (fun c_2 => ?_) (fun c_2 => ?_)
  · skip
    refine lv_ldc2 (v := (-1)) hx hb hown (hts _ wm_100) dX6_best_24 ?_
    exact W.lret (v := (-1)) hx hb hr (fun t ht hW => ⟨⟨(-1), f, rfl, (Or.inl rfl), by show va_P (dC, dI) vwCl (va_pl L f) t.heap; rw [ht]; exact hP⟩, hS.F ht⟩) hS.2.2 dX6_best_27
  · skip
    obtain ⟨rd, hrd, rfl⟩ := k_ix (n := 100) (x := x) (k_ft hpr_1 c_2) (by omega)
    refine lv_aload_n hx hb dX6_best_7 rfl (lv_at hl 0 rfl) ?_
    refine lv_iload_n hx hb dX6_best_8 rfl (lv_at hl 2 rfl) ?_
    refine gc_R (ci := 6) ⟨hx, hb, hml, hown, hts⟩ (m_isPage l dC dI K L f rt hC I_pages y) 1 wm_95 wm_96 wm_97 wm_8 wm_98 (by decide +kernel) ⟨Nat.le_of_ble_eq_true rfl, Nat.le_of_ble_eq_true rfl⟩ hK rfl (hC.1.1 51 (by decide)) F_m rfl hl.1 rfl (Nat.le_of_ble_eq_true rfl) dX6_best_9 ⟨Nat.le_of_ble_eq_true rfl, Nat.le_of_ble_eq_true rfl⟩ hS hP (fun r_3 H locs hpr_3 hP hS => ?_)
    refine lv_if_eq (tgt := 24) hx hb dX6_best_12 (by decide) (fun c_4 => ?_) (fun c_4 => ?_)
    · skip
      refine lv_ldc2 (v := (-1)) hx hb hown (hts _ wm_100) dX6_best_24 ?_
      exact W.lret (v := (-1)) hx hb hr (fun t ht hW => ⟨⟨(-1), f, rfl, (Or.inl rfl), by show va_P (dC, dI) vwCl (va_pl L f) t.heap; rw [ht]; exact hP⟩, hS.F ht⟩) hS.2.2 dX6_best_27
    · skip
      obtain ⟨pg, hpg, rfl⟩ := k_ix (k_ft hpr_3 c_4) (by omega)
      obtain ⟨sp, hsp1, hsp, hplq⟩ := hpls pg hpg
      refine lv_aload_n hx hb dX6_best_15 rfl (lv_at hl 0 rfl) ?_
      refine lv_iload_n hx hb dX6_best_16 rfl (lv_at hl 1 rfl) ?_
      refine lv_iload_n hx hb dX6_best_17 rfl (lv_at hl 2 rfl) ?_
      refine gc_Ml (ci := 6) ⟨hx, hb, hml, hown, hts⟩ (um_find l dC dI K L f rt hC ((hSm.at hC.1 (by decide) (by decide)).trans F_stopped) ((hSm.at hC.1 (by decide) (by decide)).trans F_marks) ((hSm.at hC.1 (by decide) (by decide)).trans F_must) ((hSm.at hC.1 (by decide) (by decide)).trans F_never) ((hSm.at hC.1 (by decide) (by decide)).trans F_saleOf) ((hSm.at hC.1 (by decide) (by decide)).trans F_saleReader) ((hSm.at hC.1 (by decide) (by decide)).trans F_saleTick) ((hSm.at hC.1 (by decide) (by decide)).trans F_salePage) ((hSm.at hC.1 (by decide) (by decide)).trans F_state) ((hSm.at hC.1 (by decide) (by decide)).trans F_span) ((hSm.at hC.1 (by decide) (by decide)).trans F_apart) ((hSm.at hC.1 (by decide) (by decide)).trans F_cap) ((hSm.at hC.1 (by decide) (by decide)).trans F_sort) ((hSm.at hC.1 (by decide) (by decide)).trans F_bid) ((hSm.at hC.1 (by decide) (by decide)).trans F_throttle) ((hSm.at hC.1 (by decide) (by decide)).trans F_dayBudget) ((hSm.at hC.1 (by decide) (by decide)).trans F_allBudget) ((hSm.at hC.1 (by decide) (by decide)).trans F_pays) ((hSm.at hC.1 (by decide) (by decide)).trans F_price) ((hSm.at hC.1 (by decide) (by decide)).trans F_promised) ((hSm.at hC.1 (by decide) (by decide)).trans F_promiseDay) ((hSm.at hC.1 (by decide) (by decide)).trans F_promiseFrom) ((hSm.at hC.1 (by decide) (by decide)).trans F_pressTick) ((hSm.at hC.1 (by decide) (by decide)).trans F_places) ((hSm.at hC.1 (by decide) (by decide)).trans F_sizes) F_mayBe F_worth F_mostAt F_order F_next F_upTo F_filledTo F_at F_given I_sales I_campaigns I_tick I_may I_spots I_hasBest I_bestSum I_bestFilled rd pg hns hso hnc hpb hbd hsz hrd (by omega) hplq hsp1 hsp hLn) 2 wm_167 wm_168 wm_169 wm_8 wm_170 (by decide +kernel) ⟨Nat.le_of_ble_eq_true rfl, Nat.le_of_ble_eq_true rfl⟩ hK rfl (hC.1.1 51 (by decide)) F_m rfl hl.1 rfl (Nat.le_of_ble_eq_true rfl) dX6_best_18 ⟨Nat.le_of_ble_eq_true rfl, Nat.le_of_ble_eq_true rfl⟩ (fun a h => by rw [← hAe]; exact h) hS hP (fun r_6 fw_5 H locs hpw hP hS => ?_)
      obtain ⟨fm1, mm, gb, gw, gm, go, gn, gu, gf, ga, gg, hSmC, hFsC, hCC, F_mayBe, F_worth, F_mostAt, F_order, F_next, F_upTo, F_filledTo, F_at, F_given, I_may, I_spots, ⟨b3, I_hasBest⟩, ⟨b4, I_bestSum⟩, ⟨b5, I_bestFilled⟩, hmnc, hmb, hww, hgg⟩ := hpw
      have hC := hCC
      have F_m : fw_5 (rt 51) = .inr (6, fm1) := hC.2.1
      have hSm : gSm rt [36, 37, 38, 40, 41, 42, 46, 47, 48, 51] f fw_5 := hSm.tr hSmC (by decide) (by decide)
      have I_sales : fm1[25]? = some (.int (nI ns)) := (hFsC.2 25 (by decide)).trans I_sales
      have I_campaigns : fm1[9]? = some (.int (nI nc)) := (hFsC.2 9 (by decide)).trans I_campaigns
      have I_tick : fm1[1]? = some (.int t) := (hFsC.2 1 (by decide)).trans I_tick
      have I_pages : fm1[5]? = some (.int (nI np)) := (hFsC.2 5 (by decide)).trans I_pages
      have hFs : fmS [35, 39, 43, 44, 45] fm fm1 := hFs.tr hFsC (by decide) (by decide)
      have hD : va_D A (va_pl L fw_5) := g_D hLn (fun a h => by rw [← hAe]; exact h) fw_5
      refine lv_goto (tgt := 27) hx hb dX6_best_21 (by decide) ?_
      exact W.lret (v := r_6) hx hb hr (fun t ht hW => ⟨⟨r_6, fw_5, rfl, (Or.inr ⟨fm1, _, _, _, _, _, _, _, _, _, hSm, hFs, hC, F_mayBe, F_worth, F_mostAt, F_order, F_next, F_upTo, F_filledTo, F_at, F_given, ⟨_, I_may⟩, ⟨_, I_spots⟩, ⟨_, I_hasBest⟩, ⟨_, I_bestSum⟩, ⟨_, I_bestFilled⟩⟩), by show va_P (dC, dI) vwCl (va_pl L fw_5) t.heap; rw [ht]; exact hP⟩, hS.F ht⟩) hS.2.2 dX6_best_27
set_option maxHeartbeats 4000000 in
set_option maxRecDepth 100000 in
theorem um_give (l : Launch) (dC : Nat → ClassId) (dI : Nat → Nat → Nat) (K : Nat → ClassId) (L : List Nat) (f : Nat → va_E) (rt : Nat → Nat) {fm : List Value} (hC : mC rt L f fm) {g_stopped : Nat → Int32} (F_stopped : f (rt 20) = .inl (K 2, 40, .inl g_stopped)) {g_marks : Nat → Int32} (F_marks : f (rt 8) = .inl (K 0, 100, .inl g_marks)) {g_must : Nat → Int32} (F_must : f (rt 12) = .inl (K 0, 40, .inl g_must)) {g_never : Nat → Int32} (F_never : f (rt 13) = .inl (K 0, 40, .inl g_never)) {g_saleOf : Nat → Int32} (F_saleOf : f (rt 30) = .inl (K 0, 1000, .inl g_saleOf)) {g_saleReader : Nat → Int32} (F_saleReader : f (rt 27) = .inl (K 0, 1000, .inl g_saleReader)) {g_saleTick : Nat → Int32} (F_saleTick : f (rt 26) = .inl (K 0, 1000, .inl g_saleTick)) {g_salePage : Nat → Int32} (F_salePage : f (rt 28) = .inl (K 0, 1000, .inl g_salePage)) {g_state : Nat → Int32} (F_state : f (rt 32) = .inl (K 0, 1000, .inl g_state)) {g_span : Nat → Int32} (F_span : f (rt 18) = .inl (K 0, 40, .inl g_span)) {g_apart : Nat → Int32} (F_apart : f (rt 21) = .inl (K 2, 1600, .inl g_apart)) {g_cap : Nat → Int32} (F_cap : f (rt 17) = .inl (K 0, 40, .inl g_cap)) {g_sort : Nat → Int32} (F_sort : f (rt 10) = .inl (K 0, 40, .inl g_sort)) {g_bid : Nat → Int32} (F_bid : f (rt 14) = .inl (K 0, 40, .inl g_bid)) {g_throttle : Nat → Int32} (F_throttle : f (rt 19) = .inl (K 0, 40, .inl g_throttle)) {g_dayBudget : Nat → Int32} (F_dayBudget : f (rt 15) = .inl (K 0, 40, .inl g_dayBudget)) {g_allBudget : Nat → Int32} (F_allBudget : f (rt 16) = .inl (K 0, 40, .inl g_allBudget)) {g_pays : Nat → Int32} (F_pays : f (rt 11) = .inl (K 0, 40, .inl g_pays)) {g_price : Nat → Int32} (F_price : f (rt 31) = .inl (K 0, 1000, .inl g_price)) {g_promised : Nat → Int32} (F_promised : f (rt 22) = .inl (K 0, 40, .inl g_promised)) {g_promiseDay : Nat → Int32} (F_promiseDay : f (rt 23) = .inl (K 0, 40, .inl g_promiseDay)) {g_promiseFrom : Nat → Int32} (F_promiseFrom : f (rt 24) = .inl (K 0, 40, .inl g_promiseFrom)) {g_pressTick : Nat → Int32} (F_pressTick : f (rt 34) = .inl (K 0, 1000, .inl g_pressTick)) {g_places : Nat → Int32} (F_places : f (rt 6) = .inl (K 0, 8, .inl g_places)) {g_sizes : Nat → Int32} (F_sizes : f (rt 7) = .inl (K 0, 32, .inl g_sizes)) {g_mayBe : Nat → Int32} (F_mayBe : f (rt 36) = .inl (K 0, 40, .inl g_mayBe)) {g_worth : Nat → Int64} (F_worth : f (rt 37) = .inl (K 1, 160, .inr (.inl g_worth))) {g_mostAt : Nat → Int64} (F_mostAt : f (rt 38) = .inl (K 1, 5, .inr (.inl g_mostAt))) {g_order : Nat → Int32} (F_order : f (rt 47) = .inl (K 0, 40, .inl g_order)) {g_next : Nat → Int32} (F_next : f (rt 48) = .inl (K 0, 5, .inl g_next)) {g_upTo : Nat → Int64} (F_upTo : f (rt 41) = .inl (K 1, 5, .inr (.inl g_upTo))) {g_filledTo : Nat → Int32} (F_filledTo : f (rt 42) = .inl (K 0, 5, .inl g_filledTo)) {g_at : Nat → Int32} (F_at : f (rt 40) = .inl (K 0, 5, .inl g_at)) {g_given : Nat → Int32} (F_given : f (rt 46) = .inl (K 0, 4, .inl g_given)) {ns nc np : Nat} {t v1 v2 v3 : Int32} {v4 : Int64} {v5 : Int32} (I_sales : fm[25]? = some (.int (nI ns))) (I_campaigns : fm[9]? = some (.int (nI nc))) (I_tick : fm[1]? = some (.int t)) (I_may : fm[35]? = some (.int v1)) (I_spots : fm[39]? = some (.int v2)) (I_hasBest : fm[45]? = some (.int v3)) (I_bestSum : fm[43]? = some (.long v4)) (I_bestFilled : fm[44]? = some (.int v5)) (I_pages : fm[5]? = some (.int (nI np))) (x : Int32) (y : Int32) (z : Int32) (hns : ns ≤ 1000) (hso : ∀ j, j < ns → vp_in (g_saleOf j) 40) (hnc : nc ≤ 40) (hpb : ∀ c, c < 40 → g_promised c = 0 ∨ ∃ a d : Nat, d ≤ 100 ∧ a < 100 * d + 100 ∧ g_promiseDay c = nI d ∧ g_promiseFrom c = nI a) (hbd : ∀ c, c < 40 → ∃ b : Nat, b ≤ 1000 ∧ g_bid c = nI b) (hsz : ∀ i, i < 32 → ∃ z : Nat, z ≤ 127 ∧ g_sizes i = nI z) (hnp : np ≤ 8) (hpls : ∀ i, i < np → ∃ q : Nat, 1 ≤ q ∧ q ≤ 4 ∧ g_places i = nI q) (hLn : gN L) : gMi l yX6_give cX6_give 6 6 (dC, dI) K L f [.ref (rt 51), .int x, .int y, .int z] (fun _ f' => f' = f ∨ ∃ (fm' : List Value) (gb : Nat → Int32) (gw : Nat → Int64) (gm : Nat → Int64) (go : Nat → Int32) (gn : Nat → Int32) (gu : Nat → Int64) (gf : Nat → Int32) (ga : Nat → Int32) (gg : Nat → Int32), gSm rt [36, 37, 38, 40, 41, 42, 46, 47, 48, 51] f f' ∧ fmS [35, 39, 43, 44, 45] fm fm' ∧ mC rt L f' fm' ∧ f' (rt 36) = .inl (K 0, 40, .inl gb) ∧ f' (rt 37) = .inl (K 1, 160, .inr (.inl gw)) ∧ f' (rt 38) = .inl (K 1, 5, .inr (.inl gm)) ∧ f' (rt 47) = .inl (K 0, 40, .inl go) ∧ f' (rt 48) = .inl (K 0, 5, .inl gn) ∧ f' (rt 41) = .inl (K 1, 5, .inr (.inl gu)) ∧ f' (rt 42) = .inl (K 0, 5, .inl gf) ∧ f' (rt 40) = .inl (K 0, 5, .inl ga) ∧ f' (rt 46) = .inl (K 0, 4, .inl gg) ∧ (∃ v, fm'[35]? = some (.int v)) ∧ (∃ v, fm'[39]? = some (.int v)) ∧ (∃ v, fm'[45]? = some (.int v)) ∧ (∃ v, fm'[43]? = some (.long v)) ∧ (∃ v, fm'[44]? = some (.int v))) := by
  refine Met.ofW (cc := cX6_give) (maxL := 6) (ret := (some .int)) (by decide) rfl ?_
  intro p e s m args below meth c s₁ B hml hv
  obtain ⟨rfl, hP, hK⟩ := hv
  have F_m := hC.2.1
  have hD : va_D (fun q : Nat => q ∈ L) (va_pl L f) := g_D hLn (fun a h => h) f
  generalize hAe : (fun q : Nat => q ∈ L) = A at hD ⊢
  have hx := B.exec
  have hb := B.bytes
  have hr := B.returns
  have hlocks := B.notSynchronized
  have hts0 := atoms_spec (ws := Cond.code yX6_give cX6_give 6 (some .int) :: lw_B) B.pre
  have hts : ∀ w ∈ lw_B, w.before _ s = true := fun w h => hts0 w (List.mem_cons_of_mem _ h)
  have hown : s.vm.findClass RX6 = some m.cls := findClass_of_methodNamed B.named
  have hS : va_S A s.heap s.heap [] := va_S.rf
  have hl := lv_entry ([.ref (rt 51), .int x, .int y, .int z]) (n := 6) (Nat.le_of_ble_eq_true rfl)
  rw [lg_entry_eq]
  generalize (lg_sl ([.ref (rt 51), .int x, .int y, .int z]) ++ List.replicate (6 - (lg_sl ([.ref (rt 51), .int x, .int y, .int z])).length) Slot.unset).toArray = ls at hl ⊢
  have hl : lv_has ls 6 [(0, .ref (rt 51)), (1, .int x), (2, .int y), (3, .int z)] := hl
  have hSm : gSm rt [36, 37, 38, 40, 41, 42, 46, 47, 48, 51] f f := gSm.rf
  have hFs : fmS [35, 39, 43, 44, 45] fm fm := fmS.rf
  refine lv_iload_n hx hb dX6_give_0 rfl (lv_at hl 1 rfl) ?_
  refine k_S ⟨hx, hb, hml, hown, hts⟩ (c_mReader l x) 1 wm_92 wm_93 wm_8 wm_94 (by decide +kernel) ⟨Nat.le_of_ble_eq_true rfl, Nat.le_of_ble_eq_true rfl⟩ rfl hl.1 rfl (Nat.le_of_ble_eq_true rfl) dX6_give_1 ⟨Nat.le_of_ble_eq_true rfl, Nat.le_of_ble_eq_true rfl⟩ hS hP (fun r_1 H locs hpr_1 hP hS => ?_)
  refine lv_if_eq (tgt := 31) hx hb dX6_give_4 (by decide) (fun c_2 => ?_) (fun c_2 => ?_)
  · skip
    refine lv_iconst (v := (-1)) hx hb dX6_give_31 (by decide) ?_
    exact W.iret (v := (-1)) hx hb hr (fun t ht hW => ⟨⟨(-1), f, rfl, (Or.inl rfl), by show va_P (dC, dI) vwCl (va_pl L f) t.heap; rw [ht]; exact hP⟩, hS.F ht⟩) hS.2.2 dX6_give_32
  · skip
    obtain ⟨rd, hrd, rfl⟩ := k_ix (n := 100) (x := x) (k_ft hpr_1 c_2) (by omega)
    refine lv_aload_n hx hb dX6_give_7 rfl (lv_at hl 0 rfl) ?_
    refine lv_iload_n hx hb dX6_give_8 rfl (lv_at hl 2 rfl) ?_
    refine gc_R (ci := 6) ⟨hx, hb, hml, hown, hts⟩ (m_isPage l dC dI K L f rt hC I_pages y) 1 wm_95 wm_96 wm_97 wm_8 wm_98 (by decide +kernel) ⟨Nat.le_of_ble_eq_true rfl, Nat.le_of_ble_eq_true rfl⟩ hK rfl (hC.1.1 51 (by decide)) F_m rfl hl.1 rfl (Nat.le_of_ble_eq_true rfl) dX6_give_9 ⟨Nat.le_of_ble_eq_true rfl, Nat.le_of_ble_eq_true rfl⟩ hS hP (fun r_3 H locs hpr_3 hP hS => ?_)
    refine lv_if_eq (tgt := 31) hx hb dX6_give_12 (by decide) (fun c_4 => ?_) (fun c_4 => ?_)
    · skip
      refine lv_iconst (v := (-1)) hx hb dX6_give_31 (by decide) ?_
      exact W.iret (v := (-1)) hx hb hr (fun t ht hW => ⟨⟨(-1), f, rfl, (Or.inl rfl), by show va_P (dC, dI) vwCl (va_pl L f) t.heap; rw [ht]; exact hP⟩, hS.F ht⟩) hS.2.2 dX6_give_32
    · skip
      obtain ⟨pg, hpg, rfl⟩ := k_ix (k_ft hpr_3 c_4) (by omega)
      obtain ⟨sp, hsp1, hsp, hplq⟩ := hpls pg hpg
      refine lv_iload_n hx hb dX6_give_15 rfl (lv_at hl 3 rfl) ?_
      refine lv_iconst (v := 0) hx hb dX6_give_16 (by decide) ?_
      refine lv_aload_n hx hb dX6_give_17 rfl (lv_at hl 0 rfl) ?_
      refine g_get (ci := 6) (v := .ref (rt 6)) (C := RX6) (T := TX6) (N := 51) hx hb hts uB6 hown hK hP (hC.1.1 51 (by decide)) F_m rfl 6 (by decide) wm_134 (hC.2.2.2 6 (by decide)) dX6_give_18 ?_
      refine lv_iload_n hx hb dX6_give_21 rfl (lv_at hl 2 rfl) ?_
      refine g_iald hx hb hK hP (hC.1.1 6 (by decide)) ((hSm.at hC.1 (by decide) (by decide)).trans F_places) (vp_in_nI (by omega) (by decide)) dX6_give_22 ?_
      refine lv_topi (fun x_5 ex_5 => ?_)
      rw [nI_clamp (by omega)] at ex_5
      obtain rfl : x_5 = nI (sp) := ex_5.trans hplq
      refine lv_iconst (v := 1) hx hb dX6_give_23 (by decide) ?_
      refine lv_isub hx hb dX6_give_24 ?_
      refine lv_topi (fun x_6 ex_6 => ?_)
      refine k_S ⟨hx, hb, hml, hown, hts⟩ (c_in l z 0 x_6) 3 wm_69 wm_70 wm_8 wm_71 (by decide +kernel) ⟨Nat.le_of_ble_eq_true rfl, Nat.le_of_ble_eq_true rfl⟩ rfl hl.1 rfl (Nat.le_of_ble_eq_true rfl) dX6_give_25 ⟨Nat.le_of_ble_eq_true rfl, Nat.le_of_ble_eq_true rfl⟩ hS hP (fun r_7 H locs hpr_7 hP hS => ?_)
      refine lv_if_ne (tgt := 33) hx hb dX6_give_28 (by decide) (fun c_8 => ?_) (fun c_8 => ?_)
      · skip
        obtain ⟨pc9, hpc9, rfl⟩ := k_ix (n := sp) (x := z) (by have h9 := k_ft hpr_7 c_8; rw [ex_6] at h9; exact h9) (by omega)
        refine lv_aload_n hx hb dX6_give_33 rfl (lv_at hl 0 rfl) ?_
        refine lv_iload_n hx hb dX6_give_34 rfl (lv_at hl 1 rfl) ?_
        refine lv_iload_n hx hb dX6_give_35 rfl (lv_at hl 2 rfl) ?_
        refine gc_Ml (ci := 6) ⟨hx, hb, hml, hown, hts⟩ (um_find l dC dI K L f rt hC ((hSm.at hC.1 (by decide) (by decide)).trans F_stopped) ((hSm.at hC.1 (by decide) (by decide)).trans F_marks) ((hSm.at hC.1 (by decide) (by decide)).trans F_must) ((hSm.at hC.1 (by decide) (by decide)).trans F_never) ((hSm.at hC.1 (by decide) (by decide)).trans F_saleOf) ((hSm.at hC.1 (by decide) (by decide)).trans F_saleReader) ((hSm.at hC.1 (by decide) (by decide)).trans F_saleTick) ((hSm.at hC.1 (by decide) (by decide)).trans F_salePage) ((hSm.at hC.1 (by decide) (by decide)).trans F_state) ((hSm.at hC.1 (by decide) (by decide)).trans F_span) ((hSm.at hC.1 (by decide) (by decide)).trans F_apart) ((hSm.at hC.1 (by decide) (by decide)).trans F_cap) ((hSm.at hC.1 (by decide) (by decide)).trans F_sort) ((hSm.at hC.1 (by decide) (by decide)).trans F_bid) ((hSm.at hC.1 (by decide) (by decide)).trans F_throttle) ((hSm.at hC.1 (by decide) (by decide)).trans F_dayBudget) ((hSm.at hC.1 (by decide) (by decide)).trans F_allBudget) ((hSm.at hC.1 (by decide) (by decide)).trans F_pays) ((hSm.at hC.1 (by decide) (by decide)).trans F_price) ((hSm.at hC.1 (by decide) (by decide)).trans F_promised) ((hSm.at hC.1 (by decide) (by decide)).trans F_promiseDay) ((hSm.at hC.1 (by decide) (by decide)).trans F_promiseFrom) ((hSm.at hC.1 (by decide) (by decide)).trans F_pressTick) ((hSm.at hC.1 (by decide) (by decide)).trans F_places) ((hSm.at hC.1 (by decide) (by decide)).trans F_sizes) F_mayBe F_worth F_mostAt F_order F_next F_upTo F_filledTo F_at F_given I_sales I_campaigns I_tick I_may I_spots I_hasBest I_bestSum I_bestFilled rd pg hns hso hnc hpb hbd hsz hrd (by omega) hplq hsp1 hsp hLn) 2 wm_167 wm_168 wm_169 wm_8 wm_170 (by decide +kernel) ⟨Nat.le_of_ble_eq_true rfl, Nat.le_of_ble_eq_true rfl⟩ hK rfl (hC.1.1 51 (by decide)) F_m rfl hl.1 rfl (Nat.le_of_ble_eq_true rfl) dX6_give_36 ⟨Nat.le_of_ble_eq_true rfl, Nat.le_of_ble_eq_true rfl⟩ (fun a h => by rw [← hAe]; exact h) hS hP (fun r_10 fw_9 H locs hpw hP hS => ?_)
        obtain ⟨fm1, mm, gb, gw, gm, go, gn, gu, gf, ga, gg, hSmC, hFsC, hCC, F_mayBe, F_worth, F_mostAt, F_order, F_next, F_upTo, F_filledTo, F_at, F_given, I_may, I_spots, ⟨b3, I_hasBest⟩, ⟨b4, I_bestSum⟩, ⟨b5, I_bestFilled⟩, hmnc, hmb, hww, hgg⟩ := hpw
        have hC := hCC
        have F_m : fw_9 (rt 51) = .inr (6, fm1) := hC.2.1
        have hSm : gSm rt [36, 37, 38, 40, 41, 42, 46, 47, 48, 51] f fw_9 := hSm.tr hSmC (by decide) (by decide)
        have I_sales : fm1[25]? = some (.int (nI ns)) := (hFsC.2 25 (by decide)).trans I_sales
        have I_campaigns : fm1[9]? = some (.int (nI nc)) := (hFsC.2 9 (by decide)).trans I_campaigns
        have I_tick : fm1[1]? = some (.int t) := (hFsC.2 1 (by decide)).trans I_tick
        have I_pages : fm1[5]? = some (.int (nI np)) := (hFsC.2 5 (by decide)).trans I_pages
        have hFs : fmS [35, 39, 43, 44, 45] fm fm1 := hFs.tr hFsC (by decide) (by decide)
        have hD : va_D A (va_pl L fw_9) := g_D hLn (fun a h => by rw [← hAe]; exact h) fw_9
        refine lv_lstore (lv' := [(4, .long r_10), (0, .ref (rt 51)), (1, .int (nI rd)), (2, .int (nI pg)), (3, .int (nI pc9))]) hx hb dX6_give_39 hl (by decide) rfl (fun ls hl => ?_)
        refine lv_aload_n hx hb dX6_give_41 rfl (lv_at hl 1 rfl) ?_
        refine g_get (ci := 6) (v := .ref (rt 46)) (C := RX6) (T := TX6) (N := 51) hx hb hts uB6 hown hK hP (hC.1.1 51 (by decide)) F_m rfl 46 (by decide) wm_150 (hC.2.2.2 46 (by decide)) dX6_give_42 ?_
        refine lv_iload_n hx hb dX6_give_45 rfl (lv_at hl 4 rfl) ?_
        refine g_iald hx hb hK hP (hC.1.1 46 (by decide)) F_given (vp_in_nI (by omega) (by decide)) dX6_give_46 ?_
        refine lv_topi (fun x_11 ex_11 => ?_)
        rw [nI_clamp (by omega)] at ex_11
        exact W.iret (v := x_11) hx hb hr (fun t ht hW => ⟨⟨x_11, fw_9, rfl, (Or.inr ⟨fm1, _, _, _, _, _, _, _, _, _, hSm, hFs, hC, F_mayBe, F_worth, F_mostAt, F_order, F_next, F_upTo, F_filledTo, F_at, F_given, ⟨_, I_may⟩, ⟨_, I_spots⟩, ⟨_, I_hasBest⟩, ⟨_, I_bestSum⟩, ⟨_, I_bestFilled⟩⟩), by show va_P (dC, dI) vwCl (va_pl L fw_9) t.heap; rw [ht]; exact hP⟩, hS.F ht⟩) hS.2.2 dX6_give_47
      · skip
        refine lv_iconst (v := (-1)) hx hb dX6_give_31 (by decide) ?_
        exact W.iret (v := (-1)) hx hb hr (fun t ht hW => ⟨⟨(-1), f, rfl, (Or.inl rfl), by show va_P (dC, dI) vwCl (va_pl L f) t.heap; rw [ht]; exact hP⟩, hS.F ht⟩) hS.2.2 dX6_give_32
