theorem wOk.fn {g : Nat → Int64} {mm sp : Nat} (h : wOk g mm sp 0) : ∃ wn : Nat → Nat → Nat, ∀ i k, i < mm → k < sp → g (4 * i + k) = lN (wn i k) ∧ wn i k ≤ 1272270000000 := by
  refine ⟨fun i k => (g (4 * i + k)).toInt.toNat, fun i k hi hk => ?_⟩
  obtain ⟨w9, h1, h2⟩ := h i k (Or.inl ⟨hi, hk⟩)
  show g (4 * i + k) = lN (g (4 * i + k)).toInt.toNat ∧ (g (4 * i + k)).toInt.toNat ≤ 1272270000000
  rw [h2, pk_lT (by omega), Int.toNat_natCast]
  exact ⟨rfl, h1⟩
theorem mb_in {nc mm : Nat} {g : Nat → Int32} (hn : nc ≤ 40) (h : ∀ k, k < mm → ∃ q : Nat, q < nc ∧ g k = nI q) : ∀ k, k < mm → vp_in (g k) 40 := fun k hk => by
  obtain ⟨q, h1, h2⟩ := h k hk
  rw [h2]; exact vp_in_nI (by omega) (by decide)
theorem nI_nm1 {i : Nat} (h : i < 2 ^ 31) : ¬ nI i = (-1) := fun q => by
  have h1 := nI_pos' h
  rw [q] at h1
  exact absurd h1 (by decide)
set_option maxHeartbeats 4000000 in
set_option maxRecDepth 100000 in
theorem um_find (l : Launch) (dC : Nat → ClassId) (dI : Nat → Nat → Nat) (K : Nat → ClassId) (L : List Nat) (f : Nat → va_E) (rt : Nat → Nat) {fm : List Value} (hC : mC rt L f fm) {g_stopped : Nat → Int32} (F_stopped : f (rt 20) = .inl (K 2, 40, .inl g_stopped)) {g_marks : Nat → Int32} (F_marks : f (rt 8) = .inl (K 0, 100, .inl g_marks)) {g_must : Nat → Int32} (F_must : f (rt 12) = .inl (K 0, 40, .inl g_must)) {g_never : Nat → Int32} (F_never : f (rt 13) = .inl (K 0, 40, .inl g_never)) {g_saleOf : Nat → Int32} (F_saleOf : f (rt 30) = .inl (K 0, 1000, .inl g_saleOf)) {g_saleReader : Nat → Int32} (F_saleReader : f (rt 27) = .inl (K 0, 1000, .inl g_saleReader)) {g_saleTick : Nat → Int32} (F_saleTick : f (rt 26) = .inl (K 0, 1000, .inl g_saleTick)) {g_salePage : Nat → Int32} (F_salePage : f (rt 28) = .inl (K 0, 1000, .inl g_salePage)) {g_state : Nat → Int32} (F_state : f (rt 32) = .inl (K 0, 1000, .inl g_state)) {g_span : Nat → Int32} (F_span : f (rt 18) = .inl (K 0, 40, .inl g_span)) {g_apart : Nat → Int32} (F_apart : f (rt 21) = .inl (K 2, 1600, .inl g_apart)) {g_cap : Nat → Int32} (F_cap : f (rt 17) = .inl (K 0, 40, .inl g_cap)) {g_sort : Nat → Int32} (F_sort : f (rt 10) = .inl (K 0, 40, .inl g_sort)) {g_bid : Nat → Int32} (F_bid : f (rt 14) = .inl (K 0, 40, .inl g_bid)) {g_throttle : Nat → Int32} (F_throttle : f (rt 19) = .inl (K 0, 40, .inl g_throttle)) {g_dayBudget : Nat → Int32} (F_dayBudget : f (rt 15) = .inl (K 0, 40, .inl g_dayBudget)) {g_allBudget : Nat → Int32} (F_allBudget : f (rt 16) = .inl (K 0, 40, .inl g_allBudget)) {g_pays : Nat → Int32} (F_pays : f (rt 11) = .inl (K 0, 40, .inl g_pays)) {g_price : Nat → Int32} (F_price : f (rt 31) = .inl (K 0, 1000, .inl g_price)) {g_promised : Nat → Int32} (F_promised : f (rt 22) = .inl (K 0, 40, .inl g_promised)) {g_promiseDay : Nat → Int32} (F_promiseDay : f (rt 23) = .inl (K 0, 40, .inl g_promiseDay)) {g_promiseFrom : Nat → Int32} (F_promiseFrom : f (rt 24) = .inl (K 0, 40, .inl g_promiseFrom)) {g_pressTick : Nat → Int32} (F_pressTick : f (rt 34) = .inl (K 0, 1000, .inl g_pressTick)) {g_places : Nat → Int32} (F_places : f (rt 6) = .inl (K 0, 8, .inl g_places)) {g_sizes : Nat → Int32} (F_sizes : f (rt 7) = .inl (K 0, 32, .inl g_sizes)) {g_mayBe : Nat → Int32} (F_mayBe : f (rt 36) = .inl (K 0, 40, .inl g_mayBe)) {g_worth : Nat → Int64} (F_worth : f (rt 37) = .inl (K 1, 160, .inr (.inl g_worth))) {g_mostAt : Nat → Int64} (F_mostAt : f (rt 38) = .inl (K 1, 5, .inr (.inl g_mostAt))) {g_order : Nat → Int32} (F_order : f (rt 47) = .inl (K 0, 40, .inl g_order)) {g_next : Nat → Int32} (F_next : f (rt 48) = .inl (K 0, 5, .inl g_next)) {g_upTo : Nat → Int64} (F_upTo : f (rt 41) = .inl (K 1, 5, .inr (.inl g_upTo))) {g_filledTo : Nat → Int32} (F_filledTo : f (rt 42) = .inl (K 0, 5, .inl g_filledTo)) {g_at : Nat → Int32} (F_at : f (rt 40) = .inl (K 0, 5, .inl g_at)) {g_given : Nat → Int32} (F_given : f (rt 46) = .inl (K 0, 4, .inl g_given)) {ns nc sp : Nat} {t v1 v2 v3 : Int32} {v4 : Int64} {v5 : Int32} (I_sales : fm[25]? = some (.int (nI ns))) (I_campaigns : fm[9]? = some (.int (nI nc))) (I_tick : fm[1]? = some (.int t)) (I_may : fm[35]? = some (.int v1)) (I_spots : fm[39]? = some (.int v2)) (I_hasBest : fm[45]? = some (.int v3)) (I_bestSum : fm[43]? = some (.long v4)) (I_bestFilled : fm[44]? = some (.int v5)) (rd : Nat) (pg : Nat) (hns : ns ≤ 1000) (hso : ∀ j, j < ns → vp_in (g_saleOf j) 40) (hnc : nc ≤ 40) (hpb : ∀ c, c < 40 → g_promised c = 0 ∨ ∃ a d : Nat, d ≤ 100 ∧ a < 100 * d + 100 ∧ g_promiseDay c = nI d ∧ g_promiseFrom c = nI a) (hbd : ∀ c, c < 40 → ∃ b : Nat, b ≤ 1000 ∧ g_bid c = nI b) (hsz : ∀ i, i < 32 → ∃ z : Nat, z ≤ 127 ∧ g_sizes i = nI z) (hrd : rd < 100) (hpg : pg < 8) (hpl : g_places pg = nI sp) (hsp1 : 1 ≤ sp) (hsp : sp ≤ 4) (hLn : gN L) : gMl l yX6_find cX6_find 3 5 (dC, dI) K L f [.ref (rt 51), .int (nI rd), .int (nI pg)] (fun _ f' => ∃ (fm' : List Value) (mm : Nat) (gb : Nat → Int32) (gw : Nat → Int64) (gm : Nat → Int64) (go : Nat → Int32) (gn : Nat → Int32) (gu : Nat → Int64) (gf : Nat → Int32) (ga : Nat → Int32) (gg : Nat → Int32), gSm rt [36, 37, 38, 40, 41, 42, 46, 47, 48, 51] f f' ∧ fmS [35, 39, 43, 44, 45] fm fm' ∧ mC rt L f' fm' ∧ f' (rt 36) = .inl (K 0, 40, .inl gb) ∧ f' (rt 37) = .inl (K 1, 160, .inr (.inl gw)) ∧ f' (rt 38) = .inl (K 1, 5, .inr (.inl gm)) ∧ f' (rt 47) = .inl (K 0, 40, .inl go) ∧ f' (rt 48) = .inl (K 0, 5, .inl gn) ∧ f' (rt 41) = .inl (K 1, 5, .inr (.inl gu)) ∧ f' (rt 42) = .inl (K 0, 5, .inl gf) ∧ f' (rt 40) = .inl (K 0, 5, .inl ga) ∧ f' (rt 46) = .inl (K 0, 4, .inl gg) ∧ fm'[35]? = some (.int (nI mm)) ∧ fm'[39]? = some (.int (nI sp)) ∧ (∃ v, fm'[45]? = some (.int v)) ∧ (∃ v, fm'[43]? = some (.long v)) ∧ (∃ v, fm'[44]? = some (.int v)) ∧ mm ≤ nc ∧ (∀ k, k < mm → ∃ q : Nat, q < nc ∧ gb k = nI q) ∧ wOk gw mm sp 0 ∧ (∀ k, k < sp → gg k = (-2) ∨ ∃ i : Nat, i < mm ∧ gg k = gb i)) := by
  refine Met.ofW (cc := cX6_find) (maxL := 3) (ret := (some .long)) (by decide) rfl ?_
  intro p e s m args below meth c s₁ B hml hv
  obtain ⟨rfl, hP, hK⟩ := hv
  have F_m := hC.2.1
  have hD : va_D (fun q : Nat => q ∈ L) (va_pl L f) := g_D hLn (fun a h => h) f
  generalize hAe : (fun q : Nat => q ∈ L) = A at hD ⊢
  have hx := B.exec
  have hb := B.bytes
  have hr := B.returns
  have hlocks := B.notSynchronized
  have hts0 := atoms_spec (ws := Cond.code yX6_find cX6_find 3 (some .long) :: lw_B) B.pre
  have hts : ∀ w ∈ lw_B, w.before _ s = true := fun w h => hts0 w (List.mem_cons_of_mem _ h)
  have hown : s.vm.findClass RX6 = some m.cls := findClass_of_methodNamed B.named
  have hS : va_S A s.heap s.heap [] := va_S.rf
  have hl := lv_entry ([.ref (rt 51), .int (nI rd), .int (nI pg)]) (n := 3) (Nat.le_of_ble_eq_true rfl)
  rw [lg_entry_eq]
  generalize (lg_sl ([.ref (rt 51), .int (nI rd), .int (nI pg)]) ++ List.replicate (3 - (lg_sl ([.ref (rt 51), .int (nI rd), .int (nI pg)])).length) Slot.unset).toArray = ls at hl ⊢
  have hl : lv_has ls 3 [(0, .ref (rt 51)), (1, .int (nI rd)), (2, .int (nI pg))] := hl
  have hSm : gSm rt [36, 37, 38, 40, 41, 42, 46, 47, 48, 51] f f := gSm.rf
  have hFs : fmS [35, 39, 43, 44, 45] fm fm := fmS.rf
  refine lv_aload_n hx hb dX6_find_0 rfl (lv_at hl 0 rfl) ?_
  refine lv_iload_n hx hb dX6_find_1 rfl (lv_at hl 1 rfl) ?_
  refine lv_iload_n hx hb dX6_find_2 rfl (lv_at hl 2 rfl) ?_
  refine gc_Mv (ci := 6) ⟨hx, hb, hml, hown, hts⟩ (um_gather l dC dI K L f rt hC ((hSm.at hC.1 (by decide) (by decide)).trans F_stopped) ((hSm.at hC.1 (by decide) (by decide)).trans F_marks) ((hSm.at hC.1 (by decide) (by decide)).trans F_must) ((hSm.at hC.1 (by decide) (by decide)).trans F_never) ((hSm.at hC.1 (by decide) (by decide)).trans F_saleOf) ((hSm.at hC.1 (by decide) (by decide)).trans F_saleReader) ((hSm.at hC.1 (by decide) (by decide)).trans F_saleTick) ((hSm.at hC.1 (by decide) (by decide)).trans F_salePage) ((hSm.at hC.1 (by decide) (by decide)).trans F_state) ((hSm.at hC.1 (by decide) (by decide)).trans F_span) ((hSm.at hC.1 (by decide) (by decide)).trans F_apart) ((hSm.at hC.1 (by decide) (by decide)).trans F_cap) ((hSm.at hC.1 (by decide) (by decide)).trans F_sort) ((hSm.at hC.1 (by decide) (by decide)).trans F_bid) ((hSm.at hC.1 (by decide) (by decide)).trans F_throttle) ((hSm.at hC.1 (by decide) (by decide)).trans F_dayBudget) ((hSm.at hC.1 (by decide) (by decide)).trans F_allBudget) ((hSm.at hC.1 (by decide) (by decide)).trans F_pays) ((hSm.at hC.1 (by decide) (by decide)).trans F_price) ((hSm.at hC.1 (by decide) (by decide)).trans F_promised) ((hSm.at hC.1 (by decide) (by decide)).trans F_promiseDay) ((hSm.at hC.1 (by decide) (by decide)).trans F_promiseFrom) ((hSm.at hC.1 (by decide) (by decide)).trans F_pressTick) ((hSm.at hC.1 (by decide) (by decide)).trans F_places) ((hSm.at hC.1 (by decide) (by decide)).trans F_sizes) F_mayBe F_worth I_sales I_campaigns I_tick I_may I_spots rd pg hns hso hnc hpb hbd hsz hrd hpg hpl hsp1 hsp hLn) 2 wm_151 wm_152 wm_153 wm_8 wm_154 (by decide +kernel) ⟨Nat.le_of_ble_eq_true rfl, Nat.le_of_ble_eq_true rfl⟩ hK rfl (hC.1.1 51 (by decide)) F_m rfl hl.1 rfl (Nat.le_of_ble_eq_true rfl) dX6_find_3 ⟨Nat.le_of_ble_eq_true rfl, Nat.le_of_ble_eq_true rfl⟩ (fun a h => by rw [← hAe]; exact h) hS hP (fun fw_1 H locs hpw hP hS => ?_)
  obtain ⟨fm1, mm, gb, gw, hSmC, hFsC, hCC, F_mayBe, F_worth, I_may, I_spots, hmnc, hmb, hww⟩ := hpw
  have F_mostAt : fw_1 (rt 38) = .inl (K 1, 5, .inr (.inl g_mostAt)) := (hSmC.at hC.1 (by decide) (by decide)).trans F_mostAt
  have F_order : fw_1 (rt 47) = .inl (K 0, 40, .inl g_order) := (hSmC.at hC.1 (by decide) (by decide)).trans F_order
  have F_next : fw_1 (rt 48) = .inl (K 0, 5, .inl g_next) := (hSmC.at hC.1 (by decide) (by decide)).trans F_next
  have F_upTo : fw_1 (rt 41) = .inl (K 1, 5, .inr (.inl g_upTo)) := (hSmC.at hC.1 (by decide) (by decide)).trans F_upTo
  have F_filledTo : fw_1 (rt 42) = .inl (K 0, 5, .inl g_filledTo) := (hSmC.at hC.1 (by decide) (by decide)).trans F_filledTo
  have F_at : fw_1 (rt 40) = .inl (K 0, 5, .inl g_at) := (hSmC.at hC.1 (by decide) (by decide)).trans F_at
  have F_given : fw_1 (rt 46) = .inl (K 0, 4, .inl g_given) := (hSmC.at hC.1 (by decide) (by decide)).trans F_given
  have hC := hCC
  have F_m : fw_1 (rt 51) = .inr (6, fm1) := hC.2.1
  have hSm : gSm rt [36, 37, 38, 40, 41, 42, 46, 47, 48, 51] f fw_1 := hSm.tr hSmC (by decide) (by decide)
  have I_sales : fm1[25]? = some (.int (nI ns)) := (hFsC.2 25 (by decide)).trans I_sales
  have I_campaigns : fm1[9]? = some (.int (nI nc)) := (hFsC.2 9 (by decide)).trans I_campaigns
  have I_tick : fm1[1]? = some (.int t) := (hFsC.2 1 (by decide)).trans I_tick
  have I_hasBest : fm1[45]? = some (.int v3) := (hFsC.2 45 (by decide)).trans I_hasBest
  have I_bestSum : fm1[43]? = some (.long v4) := (hFsC.2 43 (by decide)).trans I_bestSum
  have I_bestFilled : fm1[44]? = some (.int v5) := (hFsC.2 44 (by decide)).trans I_bestFilled
  have hFs : fmS [35, 39, 43, 44, 45] fm fm1 := hFs.tr hFsC (by decide) (by decide)
  have hD : va_D A (va_pl L fw_1) := g_D hLn (fun a h => by rw [← hAe]; exact h) fw_1
  obtain ⟨wn, hw⟩ := hww.fn
  refine lv_aload_n hx hb dX6_find_6 rfl (lv_at hl 0 rfl) ?_
  refine lv_iconst (v := (-1)) hx hb dX6_find_7 (by decide) ?_
  refine gc_Mv (ci := 6) ⟨hx, hb, hml, hown, hts⟩ (um_reckon l dC dI K L fw_1 rt hC F_worth F_mostAt F_order I_may I_spots (-1) (by omega) hsp1 hsp hw hLn) 1 wm_155 wm_156 wm_157 wm_8 wm_158 (by decide +kernel) ⟨Nat.le_of_ble_eq_true rfl, Nat.le_of_ble_eq_true rfl⟩ hK rfl (hC.1.1 51 (by decide)) F_m rfl hl.1 rfl (Nat.le_of_ble_eq_true rfl) dX6_find_8 ⟨Nat.le_of_ble_eq_true rfl, Nat.le_of_ble_eq_true rfl⟩ (fun a h => by rw [← hAe]; exact h) hS hP (fun fw_2 H locs hpw hP hS => ?_)
  obtain ⟨gm, go, ma, hSmC, F_mostAt, F_order, hor, hma, hma0, hmd⟩ := hpw
  have F_next : fw_2 (rt 48) = .inl (K 0, 5, .inl g_next) := (hSmC.at hC.1 (by decide) (by decide)).trans F_next
  have F_upTo : fw_2 (rt 41) = .inl (K 1, 5, .inr (.inl g_upTo)) := (hSmC.at hC.1 (by decide) (by decide)).trans F_upTo
  have F_filledTo : fw_2 (rt 42) = .inl (K 0, 5, .inl g_filledTo) := (hSmC.at hC.1 (by decide) (by decide)).trans F_filledTo
  have F_at : fw_2 (rt 40) = .inl (K 0, 5, .inl g_at) := (hSmC.at hC.1 (by decide) (by decide)).trans F_at
  have F_given : fw_2 (rt 46) = .inl (K 0, 4, .inl g_given) := (hSmC.at hC.1 (by decide) (by decide)).trans F_given
  have F_mayBe : fw_2 (rt 36) = .inl (K 0, 40, .inl gb) := (hSmC.at hC.1 (by decide) (by decide)).trans F_mayBe
  have F_worth : fw_2 (rt 37) = .inl (K 1, 160, .inr (.inl gw)) := (hSmC.at hC.1 (by decide) (by decide)).trans F_worth
  have hCC : mC rt L fw_2 fm1 := ⟨hC.1, (hSmC.at hC.1 (by decide) (by decide)).trans hC.2.1, hC.2.2⟩
  have hC := hCC
  have F_m : fw_2 (rt 51) = .inr (6, fm1) := hC.2.1
  have hSm : gSm rt [36, 37, 38, 40, 41, 42, 46, 47, 48, 51] f fw_2 := hSm.tr hSmC (by decide) (by decide)
  have hD : va_D A (va_pl L fw_2) := g_D hLn (fun a h => by rw [← hAe]; exact h) fw_2
  refine lv_aload_n hx hb dX6_find_11 rfl (lv_at hl 0 rfl) ?_
  refine lv_iconst (v := 0) hx hb dX6_find_12 (by decide) ?_
  refine g_put (ci := 6) (v := .int 0) (ty := .boolean) (C := RX6) (T := TX6) (N := 51) hx hb hts uB6 tyX6 tyX6_ok nmX6 hown hK hP hD hS (hC.1.1 51 (by decide)) F_m rfl 45 (by decide) wm_147 rfl (by decide +kernel) rfl rfl (by rw [hC.2.2.1]; decide) dX6_find_13 (fun H locs hP hD hS => ?_)
  obtain ⟨fs_3, efs_3⟩ : ∃ z9, z9 = List.set fm1 45 (.int 0) := ⟨_, rfl⟩
  rw [← efs_3] at hP hD
  have hlen_ : fs_3.length = 51 := by rw [efs_3, List.length_set]; exact hC.2.2.1
  have I_sales : fs_3[25]? = some (.int (nI ns)) := by rw [efs_3, List.getElem?_set_ne (by decide)]; exact I_sales
  have I_campaigns : fs_3[9]? = some (.int (nI nc)) := by rw [efs_3, List.getElem?_set_ne (by decide)]; exact I_campaigns
  have I_tick : fs_3[1]? = some (.int t) := by rw [efs_3, List.getElem?_set_ne (by decide)]; exact I_tick
  have I_bestSum : fs_3[43]? = some (.long v4) := by rw [efs_3, List.getElem?_set_ne (by decide)]; exact I_bestSum
  have I_bestFilled : fs_3[44]? = some (.int v5) := by rw [efs_3, List.getElem?_set_ne (by decide)]; exact I_bestFilled
  have I_may : fs_3[35]? = some (.int (nI mm)) := by rw [efs_3, List.getElem?_set_ne (by decide)]; exact I_may
  have I_spots : fs_3[39]? = some (.int (nI sp)) := by rw [efs_3, List.getElem?_set_ne (by decide)]; exact I_spots
  have I_hasBest : fs_3[45]? = some (.int 0) := by rw [efs_3]; exact List.getElem?_set_self (by rw [hC.2.2.1]; decide)
  have hmr_ : ∀ k ∈ mArr, fs_3[k]? = some (.ref (rt k)) := fun k h => by rw [efs_3, List.getElem?_set_ne (fun q => by rw [← q] at h; exact absurd h (by decide))]; exact hC.2.2.2 k h
  obtain ⟨f_4, ef_4⟩ : ∃ z9, z9 = va_up fw_2 (rt 51) (.inr (6, fs_3)) := ⟨_, rfl⟩
  rw [← ef_4] at hP hD
  have F_next : f_4 (rt 48) = .inl (K 0, 5, .inl g_next) := by rw [ef_4, va_up_ne _ _ (fun q => absurd (hC.1.2 48 (by decide) 51 (by decide) q) (by decide))]; exact F_next
  have F_upTo : f_4 (rt 41) = .inl (K 1, 5, .inr (.inl g_upTo)) := by rw [ef_4, va_up_ne _ _ (fun q => absurd (hC.1.2 41 (by decide) 51 (by decide) q) (by decide))]; exact F_upTo
  have F_filledTo : f_4 (rt 42) = .inl (K 0, 5, .inl g_filledTo) := by rw [ef_4, va_up_ne _ _ (fun q => absurd (hC.1.2 42 (by decide) 51 (by decide) q) (by decide))]; exact F_filledTo
  have F_at : f_4 (rt 40) = .inl (K 0, 5, .inl g_at) := by rw [ef_4, va_up_ne _ _ (fun q => absurd (hC.1.2 40 (by decide) 51 (by decide) q) (by decide))]; exact F_at
  have F_given : f_4 (rt 46) = .inl (K 0, 4, .inl g_given) := by rw [ef_4, va_up_ne _ _ (fun q => absurd (hC.1.2 46 (by decide) 51 (by decide) q) (by decide))]; exact F_given
  have F_mayBe : f_4 (rt 36) = .inl (K 0, 40, .inl gb) := by rw [ef_4, va_up_ne _ _ (fun q => absurd (hC.1.2 36 (by decide) 51 (by decide) q) (by decide))]; exact F_mayBe
  have F_worth : f_4 (rt 37) = .inl (K 1, 160, .inr (.inl gw)) := by rw [ef_4, va_up_ne _ _ (fun q => absurd (hC.1.2 37 (by decide) 51 (by decide) q) (by decide))]; exact F_worth
  have F_mostAt : f_4 (rt 38) = .inl (K 1, 5, .inr (.inl gm)) := by rw [ef_4, va_up_ne _ _ (fun q => absurd (hC.1.2 38 (by decide) 51 (by decide) q) (by decide))]; exact F_mostAt
  have F_order : f_4 (rt 47) = .inl (K 0, 40, .inl go) := by rw [ef_4, va_up_ne _ _ (fun q => absurd (hC.1.2 47 (by decide) 51 (by decide) q) (by decide))]; exact F_order
  have F_m : f_4 (rt 51) = .inr (6, fs_3) := by rw [ef_4, va_up_self]
  have hSm : gSm rt [36, 37, 38, 40, 41, 42, 46, 47, 48, 51] f f_4 := by rw [ef_4]; exact hSm.up (by decide) _
  have hC : mC rt L f_4 fs_3 := ⟨hC.1, F_m, hlen_, hmr_⟩
  have hFs : fmS [35, 39, 43, 44, 45] fm fs_3 := by rw [efs_3]; exact hFs.st (by decide) _
  refine lv_aload_n hx hb dX6_find_16 rfl (lv_at hl 0 rfl) ?_
  refine lv_iconst (v := 0) hx hb dX6_find_17 (by decide) ?_
  refine lv_iconst (v := (-1)) hx hb dX6_find_18 (by decide) ?_
  refine gc_Mv (ci := 6) ⟨hx, hb, hml, hown, hts⟩ (um_goF l dC dI K L f_4 rt hC F_next F_upTo F_filledTo F_at F_order F_worth F_mostAt F_mayBe ((hSm.at hC.1 (by decide) (by decide)).trans F_apart) I_may I_spots I_hasBest I_bestSum I_bestFilled (-1) (by omega) hsp1 hsp hw hma hor (mb_in hnc hmb) hLn) 2 wm_159 wm_160 wm_161 wm_8 wm_162 (by decide +kernel) ⟨Nat.le_of_ble_eq_true rfl, Nat.le_of_ble_eq_true rfl⟩ hK rfl (hC.1.1 51 (by decide)) F_m rfl hl.1 rfl (Nat.le_of_ble_eq_true rfl) dX6_find_19 ⟨Nat.le_of_ble_eq_true rfl, Nat.le_of_ble_eq_true rfl⟩ (fun a h => by rw [← hAe]; exact h) hS hP (fun fw_5 H locs hpw hP hS => ?_)
  obtain ⟨fm3, gn, ga, gf, gu, tg, hSmC, hFsC, hCC, F_next, F_at, F_filledTo, F_upTo, I_hasBest, I_bestSum, I_bestFilled, htg⟩ := hpw
  have F_given : fw_5 (rt 46) = .inl (K 0, 4, .inl g_given) := (hSmC.at hC.1 (by decide) (by decide)).trans F_given
  have F_mayBe : fw_5 (rt 36) = .inl (K 0, 40, .inl gb) := (hSmC.at hC.1 (by decide) (by decide)).trans F_mayBe
  have F_worth : fw_5 (rt 37) = .inl (K 1, 160, .inr (.inl gw)) := (hSmC.at hC.1 (by decide) (by decide)).trans F_worth
  have F_mostAt : fw_5 (rt 38) = .inl (K 1, 5, .inr (.inl gm)) := (hSmC.at hC.1 (by decide) (by decide)).trans F_mostAt
  have F_order : fw_5 (rt 47) = .inl (K 0, 40, .inl go) := (hSmC.at hC.1 (by decide) (by decide)).trans F_order
  have hC := hCC
  have F_m : fw_5 (rt 51) = .inr (6, fm3) := hC.2.1
  have hSm : gSm rt [36, 37, 38, 40, 41, 42, 46, 47, 48, 51] f fw_5 := hSm.tr hSmC (by decide) (by decide)
  have I_sales : fm3[25]? = some (.int (nI ns)) := (hFsC.2 25 (by decide)).trans I_sales
  have I_campaigns : fm3[9]? = some (.int (nI nc)) := (hFsC.2 9 (by decide)).trans I_campaigns
  have I_tick : fm3[1]? = some (.int t) := (hFsC.2 1 (by decide)).trans I_tick
  have I_may : fm3[35]? = some (.int (nI mm)) := (hFsC.2 35 (by decide)).trans I_may
  have I_spots : fm3[39]? = some (.int (nI sp)) := (hFsC.2 39 (by decide)).trans I_spots
  have hFs : fmS [35, 39, 43, 44, 45] fm fm3 := hFs.tr hFsC (by decide) (by decide)
  have hD : va_D A (va_pl L fw_5) := g_D hLn (fun a h => by rw [← hAe]; exact h) fw_5
  refine lv_aload_n hx hb dX6_find_22 rfl (lv_at hl 0 rfl) ?_
  refine lv_iconst (v := 1) hx hb dX6_find_23 (by decide) ?_
  refine lv_iconst (v := (-1)) hx hb dX6_find_24 (by decide) ?_
  refine gc_Mv (ci := 6) ⟨hx, hb, hml, hown, hts⟩ (um_goT l dC dI K L fw_5 rt hC F_next F_upTo F_filledTo F_at F_worth F_mostAt F_mayBe ((hSm.at hC.1 (by decide) (by decide)).trans F_apart) F_given I_may I_spots I_hasBest I_bestSum I_bestFilled (-1) (by omega) hsp1 hsp hw hma (mb_in hnc hmb) (fun k hk => ⟨(hmd k hk).1, fun i hi => (hmd k hk).2 i hi (nI_nm1 (by omega))⟩) htg rfl rfl hLn) 2 wm_159 wm_160 wm_161 wm_8 wm_162 (by decide +kernel) ⟨Nat.le_of_ble_eq_true rfl, Nat.le_of_ble_eq_true rfl⟩ hK rfl (hC.1.1 51 (by decide)) F_m rfl hl.1 rfl (Nat.le_of_ble_eq_true rfl) dX6_find_25 ⟨Nat.le_of_ble_eq_true rfl, Nat.le_of_ble_eq_true rfl⟩ (fun a h => by rw [← hAe]; exact h) hS hP (fun fw_6 H locs hpw hP hS => ?_)
  obtain ⟨gn, ga, gf, gg, gu, hSmC, F_next, F_at, F_filledTo, F_given, F_upTo, hgg⟩ := hpw
  have F_mayBe : fw_6 (rt 36) = .inl (K 0, 40, .inl gb) := (hSmC.at hC.1 (by decide) (by decide)).trans F_mayBe
  have F_worth : fw_6 (rt 37) = .inl (K 1, 160, .inr (.inl gw)) := (hSmC.at hC.1 (by decide) (by decide)).trans F_worth
  have F_mostAt : fw_6 (rt 38) = .inl (K 1, 5, .inr (.inl gm)) := (hSmC.at hC.1 (by decide) (by decide)).trans F_mostAt
  have F_order : fw_6 (rt 47) = .inl (K 0, 40, .inl go) := (hSmC.at hC.1 (by decide) (by decide)).trans F_order
  have hCC : mC rt L fw_6 fm3 := ⟨hC.1, (hSmC.at hC.1 (by decide) (by decide)).trans hC.2.1, hC.2.2⟩
  have hC := hCC
  have F_m : fw_6 (rt 51) = .inr (6, fm3) := hC.2.1
  have hSm : gSm rt [36, 37, 38, 40, 41, 42, 46, 47, 48, 51] f fw_6 := hSm.tr hSmC (by decide) (by decide)
  have hD : va_D A (va_pl L fw_6) := g_D hLn (fun a h => by rw [← hAe]; exact h) fw_6
  refine lv_aload_n hx hb dX6_find_28 rfl (lv_at hl 0 rfl) ?_
  refine g_get (ci := 6) (v := .long (lN (sG wn mm tg sp))) (C := RX6) (T := TX6) (N := 51) hx hb hts uB6 hown hK hP (hC.1.1 51 (by decide)) F_m rfl 43 (by decide) wm_148 I_bestSum dX6_find_29 ?_
  exact W.lret (v := lN (sG wn mm tg sp)) hx hb hr (fun t ht hW => ⟨⟨lN (sG wn mm tg sp), fw_6, rfl, ⟨fm3, mm, _, _, _, _, _, _, _, _, _, hSm, hFs, hC, F_mayBe, F_worth, F_mostAt, F_order, F_next, F_upTo, F_filledTo, F_at, F_given, I_may, I_spots, ⟨_, I_hasBest⟩, ⟨_, I_bestSum⟩, ⟨_, I_bestFilled⟩, by omega, hmb, hww, hgg⟩, by show va_P (dC, dI) vwCl (va_pl L fw_6) t.heap; rw [ht]; exact hP⟩, hS.F ht⟩) hS.2.2 dX6_find_32
set_option maxHeartbeats 4000000 in
set_option maxRecDepth 100000 in
theorem um_sumWithout (l : Launch) (dC : Nat → ClassId) (dI : Nat → Nat → Nat) (K : Nat → ClassId) (L : List Nat) (f : Nat → va_E) (rt : Nat → Nat) {fm : List Value} (hC : mC rt L f fm) {g_mostAt : Nat → Int64} (F_mostAt : f (rt 38) = .inl (K 1, 5, .inr (.inl g_mostAt))) {g_order : Nat → Int32} (F_order : f (rt 47) = .inl (K 0, 40, .inl g_order)) {g_next : Nat → Int32} (F_next : f (rt 48) = .inl (K 0, 5, .inl g_next)) {g_upTo : Nat → Int64} (F_upTo : f (rt 41) = .inl (K 1, 5, .inr (.inl g_upTo))) {g_filledTo : Nat → Int32} (F_filledTo : f (rt 42) = .inl (K 0, 5, .inl g_filledTo)) {g_at : Nat → Int32} (F_at : f (rt 40) = .inl (K 0, 5, .inl g_at)) {g_worth : Nat → Int64} (F_worth : f (rt 37) = .inl (K 1, 160, .inr (.inl g_worth))) {g_mayBe : Nat → Int32} (F_mayBe : f (rt 36) = .inl (K 0, 40, .inl g_mayBe)) {g_apart : Nat → Int32} (F_apart : f (rt 21) = .inl (K 2, 1600, .inl g_apart)) {nc mm sp : Nat} {v3 : Int32} {v4 : Int64} {v5 : Int32} (I_may : fm[35]? = some (.int (nI mm))) (I_spots : fm[39]? = some (.int (nI sp))) (I_hasBest : fm[45]? = some (.int v3)) (I_bestSum : fm[43]? = some (.long v4)) (I_bestFilled : fm[44]? = some (.int v5)) (x : Int32) (hnc : nc ≤ 40) (hmnc : mm ≤ nc) (hsp1 : 1 ≤ sp) (hsp : sp ≤ 4) (hmb : ∀ k, k < mm → ∃ q : Nat, q < nc ∧ g_mayBe k = nI q) (hww : wOk g_worth mm sp 0) (hLn : gN L) : gMl l yX6_sumWithout cX6_sumWithout 2 2 (dC, dI) K L f [.ref (rt 51), .int x] (fun _ f' => ∃ (fm' : List Value) (gm : Nat → Int64) (go : Nat → Int32) (gn : Nat → Int32) (gu : Nat → Int64) (gf : Nat → Int32) (ga : Nat → Int32), gSm rt [38, 40, 41, 42, 47, 48, 51] f f' ∧ fmS [43, 44, 45] fm fm' ∧ mC rt L f' fm' ∧ f' (rt 38) = .inl (K 1, 5, .inr (.inl gm)) ∧ f' (rt 47) = .inl (K 0, 40, .inl go) ∧ f' (rt 48) = .inl (K 0, 5, .inl gn) ∧ f' (rt 41) = .inl (K 1, 5, .inr (.inl gu)) ∧ f' (rt 42) = .inl (K 0, 5, .inl gf) ∧ f' (rt 40) = .inl (K 0, 5, .inl ga) ∧ (∃ v, fm'[45]? = some (.int v)) ∧ (∃ v, fm'[43]? = some (.long v)) ∧ (∃ v, fm'[44]? = some (.int v))) := by
  refine Met.ofW (cc := cX6_sumWithout) (maxL := 2) (ret := (some .long)) (by decide) rfl ?_
  intro p e s m args below meth c s₁ B hml hv
  obtain ⟨rfl, hP, hK⟩ := hv
  have F_m := hC.2.1
  have hD : va_D (fun q : Nat => q ∈ L) (va_pl L f) := g_D hLn (fun a h => h) f
  generalize hAe : (fun q : Nat => q ∈ L) = A at hD ⊢
  have hx := B.exec
  have hb := B.bytes
  have hr := B.returns
  have hlocks := B.notSynchronized
  have hts0 := atoms_spec (ws := Cond.code yX6_sumWithout cX6_sumWithout 2 (some .long) :: lw_B) B.pre
  have hts : ∀ w ∈ lw_B, w.before _ s = true := fun w h => hts0 w (List.mem_cons_of_mem _ h)
  have hown : s.vm.findClass RX6 = some m.cls := findClass_of_methodNamed B.named
  have hS : va_S A s.heap s.heap [] := va_S.rf
  have hl := lv_entry ([.ref (rt 51), .int x]) (n := 2) (Nat.le_of_ble_eq_true rfl)
  rw [lg_entry_eq]
  generalize (lg_sl ([.ref (rt 51), .int x]) ++ List.replicate (2 - (lg_sl ([.ref (rt 51), .int x])).length) Slot.unset).toArray = ls at hl ⊢
  have hl : lv_has ls 2 [(0, .ref (rt 51)), (1, .int x)] := hl
  have hSm : gSm rt [38, 40, 41, 42, 47, 48, 51] f f := gSm.rf
  have hFs : fmS [43, 44, 45] fm fm := fmS.rf
  obtain ⟨wn, hw⟩ := hww.fn
  refine lv_aload_n hx hb dX6_sumWithout_0 rfl (lv_at hl 0 rfl) ?_
  refine lv_iload_n hx hb dX6_sumWithout_1 rfl (lv_at hl 1 rfl) ?_
  refine gc_Mv (ci := 6) ⟨hx, hb, hml, hown, hts⟩ (um_reckon l dC dI K L f rt hC ((hSm.at hC.1 (by decide) (by decide)).trans F_worth) F_mostAt F_order I_may I_spots x (by omega) hsp1 hsp hw hLn) 1 wm_155 wm_156 wm_157 wm_8 wm_158 (by decide +kernel) ⟨Nat.le_of_ble_eq_true rfl, Nat.le_of_ble_eq_true rfl⟩ hK rfl (hC.1.1 51 (by decide)) F_m rfl hl.1 rfl (Nat.le_of_ble_eq_true rfl) dX6_sumWithout_2 ⟨Nat.le_of_ble_eq_true rfl, Nat.le_of_ble_eq_true rfl⟩ (fun a h => by rw [← hAe]; exact h) hS hP (fun fw_1 H locs hpw hP hS => ?_)
  obtain ⟨gm, go, ma, hSmC, F_mostAt, F_order, hor, hma, hma0, hmd⟩ := hpw
  have F_next : fw_1 (rt 48) = .inl (K 0, 5, .inl g_next) := (hSmC.at hC.1 (by decide) (by decide)).trans F_next
  have F_upTo : fw_1 (rt 41) = .inl (K 1, 5, .inr (.inl g_upTo)) := (hSmC.at hC.1 (by decide) (by decide)).trans F_upTo
  have F_filledTo : fw_1 (rt 42) = .inl (K 0, 5, .inl g_filledTo) := (hSmC.at hC.1 (by decide) (by decide)).trans F_filledTo
  have F_at : fw_1 (rt 40) = .inl (K 0, 5, .inl g_at) := (hSmC.at hC.1 (by decide) (by decide)).trans F_at
  have hCC : mC rt L fw_1 fm := ⟨hC.1, (hSmC.at hC.1 (by decide) (by decide)).trans hC.2.1, hC.2.2⟩
  have hC := hCC
  have F_m : fw_1 (rt 51) = .inr (6, fm) := hC.2.1
  have hSm : gSm rt [38, 40, 41, 42, 47, 48, 51] f fw_1 := hSm.tr hSmC (by decide) (by decide)
  have hD : va_D A (va_pl L fw_1) := g_D hLn (fun a h => by rw [← hAe]; exact h) fw_1
  refine lv_aload_n hx hb dX6_sumWithout_5 rfl (lv_at hl 0 rfl) ?_
  refine lv_iconst (v := 0) hx hb dX6_sumWithout_6 (by decide) ?_
  refine g_put (ci := 6) (v := .int 0) (ty := .boolean) (C := RX6) (T := TX6) (N := 51) hx hb hts uB6 tyX6 tyX6_ok nmX6 hown hK hP hD hS (hC.1.1 51 (by decide)) F_m rfl 45 (by decide) wm_147 rfl (by decide +kernel) rfl rfl (by rw [hC.2.2.1]; decide) dX6_sumWithout_7 (fun H locs hP hD hS => ?_)
  obtain ⟨fs_2, efs_2⟩ : ∃ z9, z9 = List.set fm 45 (.int 0) := ⟨_, rfl⟩
  rw [← efs_2] at hP hD
  have hlen_ : fs_2.length = 51 := by rw [efs_2, List.length_set]; exact hC.2.2.1
  have I_may : fs_2[35]? = some (.int (nI mm)) := by rw [efs_2, List.getElem?_set_ne (by decide)]; exact I_may
  have I_spots : fs_2[39]? = some (.int (nI sp)) := by rw [efs_2, List.getElem?_set_ne (by decide)]; exact I_spots
  have I_bestSum : fs_2[43]? = some (.long v4) := by rw [efs_2, List.getElem?_set_ne (by decide)]; exact I_bestSum
  have I_bestFilled : fs_2[44]? = some (.int v5) := by rw [efs_2, List.getElem?_set_ne (by decide)]; exact I_bestFilled
  have I_hasBest : fs_2[45]? = some (.int 0) := by rw [efs_2]; exact List.getElem?_set_self (by rw [hC.2.2.1]; decide)
  have hmr_ : ∀ k ∈ mArr, fs_2[k]? = some (.ref (rt k)) := fun k h => by rw [efs_2, List.getElem?_set_ne (fun q => by rw [← q] at h; exact absurd h (by decide))]; exact hC.2.2.2 k h
  obtain ⟨f_3, ef_3⟩ : ∃ z9, z9 = va_up fw_1 (rt 51) (.inr (6, fs_2)) := ⟨_, rfl⟩
  rw [← ef_3] at hP hD
  have F_next : f_3 (rt 48) = .inl (K 0, 5, .inl g_next) := by rw [ef_3, va_up_ne _ _ (fun q => absurd (hC.1.2 48 (by decide) 51 (by decide) q) (by decide))]; exact F_next
  have F_upTo : f_3 (rt 41) = .inl (K 1, 5, .inr (.inl g_upTo)) := by rw [ef_3, va_up_ne _ _ (fun q => absurd (hC.1.2 41 (by decide) 51 (by decide) q) (by decide))]; exact F_upTo
  have F_filledTo : f_3 (rt 42) = .inl (K 0, 5, .inl g_filledTo) := by rw [ef_3, va_up_ne _ _ (fun q => absurd (hC.1.2 42 (by decide) 51 (by decide) q) (by decide))]; exact F_filledTo
  have F_at : f_3 (rt 40) = .inl (K 0, 5, .inl g_at) := by rw [ef_3, va_up_ne _ _ (fun q => absurd (hC.1.2 40 (by decide) 51 (by decide) q) (by decide))]; exact F_at
  have F_mostAt : f_3 (rt 38) = .inl (K 1, 5, .inr (.inl gm)) := by rw [ef_3, va_up_ne _ _ (fun q => absurd (hC.1.2 38 (by decide) 51 (by decide) q) (by decide))]; exact F_mostAt
  have F_order : f_3 (rt 47) = .inl (K 0, 40, .inl go) := by rw [ef_3, va_up_ne _ _ (fun q => absurd (hC.1.2 47 (by decide) 51 (by decide) q) (by decide))]; exact F_order
  have F_m : f_3 (rt 51) = .inr (6, fs_2) := by rw [ef_3, va_up_self]
  have hSm : gSm rt [38, 40, 41, 42, 47, 48, 51] f f_3 := by rw [ef_3]; exact hSm.up (by decide) _
  have hC : mC rt L f_3 fs_2 := ⟨hC.1, F_m, hlen_, hmr_⟩
  have hFs : fmS [43, 44, 45] fm fs_2 := by rw [efs_2]; exact hFs.st (by decide) _
  refine lv_aload_n hx hb dX6_sumWithout_10 rfl (lv_at hl 0 rfl) ?_
  refine lv_iconst (v := 0) hx hb dX6_sumWithout_11 (by decide) ?_
  refine lv_iload_n hx hb dX6_sumWithout_12 rfl (lv_at hl 1 rfl) ?_
  refine gc_Mv (ci := 6) ⟨hx, hb, hml, hown, hts⟩ (um_goF l dC dI K L f_3 rt hC F_next F_upTo F_filledTo F_at F_order ((hSm.at hC.1 (by decide) (by decide)).trans F_worth) F_mostAt ((hSm.at hC.1 (by decide) (by decide)).trans F_mayBe) ((hSm.at hC.1 (by decide) (by decide)).trans F_apart) I_may I_spots I_hasBest I_bestSum I_bestFilled x (by omega) hsp1 hsp hw hma hor (mb_in hnc hmb) hLn) 2 wm_159 wm_160 wm_161 wm_8 wm_162 (by decide +kernel) ⟨Nat.le_of_ble_eq_true rfl, Nat.le_of_ble_eq_true rfl⟩ hK rfl (hC.1.1 51 (by decide)) F_m rfl hl.1 rfl (Nat.le_of_ble_eq_true rfl) dX6_sumWithout_13 ⟨Nat.le_of_ble_eq_true rfl, Nat.le_of_ble_eq_true rfl⟩ (fun a h => by rw [← hAe]; exact h) hS hP (fun fw_4 H locs hpw hP hS => ?_)
  obtain ⟨fm3, gn, ga, gf, gu, tg, hSmC, hFsC, hCC, F_next, F_at, F_filledTo, F_upTo, I_hasBest, I_bestSum, I_bestFilled, htg⟩ := hpw
  have F_mostAt : fw_4 (rt 38) = .inl (K 1, 5, .inr (.inl gm)) := (hSmC.at hC.1 (by decide) (by decide)).trans F_mostAt
  have F_order : fw_4 (rt 47) = .inl (K 0, 40, .inl go) := (hSmC.at hC.1 (by decide) (by decide)).trans F_order
  have hC := hCC
  have F_m : fw_4 (rt 51) = .inr (6, fm3) := hC.2.1
  have hSm : gSm rt [38, 40, 41, 42, 47, 48, 51] f fw_4 := hSm.tr hSmC (by decide) (by decide)
  have I_may : fm3[35]? = some (.int (nI mm)) := (hFsC.2 35 (by decide)).trans I_may
  have I_spots : fm3[39]? = some (.int (nI sp)) := (hFsC.2 39 (by decide)).trans I_spots
  have hFs : fmS [43, 44, 45] fm fm3 := hFs.tr hFsC (by decide) (by decide)
  have hD : va_D A (va_pl L fw_4) := g_D hLn (fun a h => by rw [← hAe]; exact h) fw_4
  refine lv_aload_n hx hb dX6_sumWithout_16 rfl (lv_at hl 0 rfl) ?_
  refine g_get (ci := 6) (v := .long (lN (sG wn mm tg sp))) (C := RX6) (T := TX6) (N := 51) hx hb hts uB6 hown hK hP (hC.1.1 51 (by decide)) F_m rfl 43 (by decide) wm_148 I_bestSum dX6_sumWithout_17 ?_
  exact W.lret (v := lN (sG wn mm tg sp)) hx hb hr (fun t ht hW => ⟨⟨lN (sG wn mm tg sp), fw_4, rfl, ⟨fm3, _, _, _, _, _, _, hSm, hFs, hC, F_mostAt, F_order, F_next, F_upTo, F_filledTo, F_at, ⟨_, I_hasBest⟩, ⟨_, I_bestSum⟩, ⟨_, I_bestFilled⟩⟩, by show va_P (dC, dI) vwCl (va_pl L fw_4) t.heap; rw [ht]; exact hP⟩, hS.F ht⟩) hS.2.2 dX6_sumWithout_20
set_option maxHeartbeats 4000000 in
set_option maxRecDepth 100000 in
theorem um_priceOf (l : Launch) (dC : Nat → ClassId) (dI : Nat → Nat → Nat) (K : Nat → ClassId) (L : List Nat) (f : Nat → va_E) (rt : Nat → Nat) {fm : List Value} (hC : mC rt L f fm) {g_mostAt : Nat → Int64} (F_mostAt : f (rt 38) = .inl (K 1, 5, .inr (.inl g_mostAt))) {g_order : Nat → Int32} (F_order : f (rt 47) = .inl (K 0, 40, .inl g_order)) {g_next : Nat → Int32} (F_next : f (rt 48) = .inl (K 0, 5, .inl g_next)) {g_upTo : Nat → Int64} (F_upTo : f (rt 41) = .inl (K 1, 5, .inr (.inl g_upTo))) {g_filledTo : Nat → Int32} (F_filledTo : f (rt 42) = .inl (K 0, 5, .inl g_filledTo)) {g_at : Nat → Int32} (F_at : f (rt 40) = .inl (K 0, 5, .inl g_at)) {g_worth : Nat → Int64} (F_worth : f (rt 37) = .inl (K 1, 160, .inr (.inl g_worth))) {g_mayBe : Nat → Int32} (F_mayBe : f (rt 36) = .inl (K 0, 40, .inl g_mayBe)) {g_apart : Nat → Int32} (F_apart : f (rt 21) = .inl (K 2, 1600, .inl g_apart)) {g_sort : Nat → Int32} (F_sort : f (rt 10) = .inl (K 0, 40, .inl g_sort)) {g_bid : Nat → Int32} (F_bid : f (rt 14) = .inl (K 0, 40, .inl g_bid)) {g_sizes : Nat → Int32} (F_sizes : f (rt 7) = .inl (K 0, 32, .inl g_sizes)) {nc mm sp : Nat} {v3 : Int32} {v4 : Int64} {v5 ru : Int32} (I_may : fm[35]? = some (.int (nI mm))) (I_spots : fm[39]? = some (.int (nI sp))) (I_hasBest : fm[45]? = some (.int v3)) (I_bestSum : fm[43]? = some (.long v4)) (I_bestFilled : fm[44]? = some (.int v5)) (I_rule : fm[2]? = some (.int ru)) (cn : Nat) (pg : Nat) (pl : Nat) (z : Int64) (hnc : nc ≤ 40) (hmnc : mm ≤ nc) (hsp1 : 1 ≤ sp) (hsp : sp ≤ 4) (hmb : ∀ k, k < mm → ∃ q : Nat, q < nc ∧ g_mayBe k = nI q) (hww : wOk g_worth mm sp 0) (hpg : pg < 8) (hpl : pl < sp) (hcn : cn < nc) (hin : ∃ i : Nat, i < mm ∧ g_mayBe i = nI cn) (hLn : gN L) : gMi l yX6_priceOf cX6_priceOf 13 3 (dC, dI) K L f [.ref (rt 51), .int (nI cn), .int (nI pg), .int (nI pl), .long z] (fun _ f' => f' = f ∨ (∃ (fm' : List Value) (gm : Nat → Int64) (go : Nat → Int32) (gn : Nat → Int32) (gu : Nat → Int64) (gf : Nat → Int32) (ga : Nat → Int32), gSm rt [38, 40, 41, 42, 47, 48, 51] f f' ∧ fmS [43, 44, 45] fm fm' ∧ mC rt L f' fm' ∧ f' (rt 38) = .inl (K 1, 5, .inr (.inl gm)) ∧ f' (rt 47) = .inl (K 0, 40, .inl go) ∧ f' (rt 48) = .inl (K 0, 5, .inl gn) ∧ f' (rt 41) = .inl (K 1, 5, .inr (.inl gu)) ∧ f' (rt 42) = .inl (K 0, 5, .inl gf) ∧ f' (rt 40) = .inl (K 0, 5, .inl ga) ∧ (∃ v, fm'[45]? = some (.int v)) ∧ (∃ v, fm'[43]? = some (.long v)) ∧ (∃ v, fm'[44]? = some (.int v)))) := by
  refine Met.ofW (cc := cX6_priceOf) (maxL := 13) (ret := (some .int)) (by decide) rfl ?_
  intro p e s m args below meth c s₁ B hml hv
  obtain ⟨rfl, hP, hK⟩ := hv
  have F_m := hC.2.1
  have hD : va_D (fun q : Nat => q ∈ L) (va_pl L f) := g_D hLn (fun a h => h) f
  generalize hAe : (fun q : Nat => q ∈ L) = A at hD ⊢
  have hx := B.exec
  have hb := B.bytes
  have hr := B.returns
  have hlocks := B.notSynchronized
  have hts0 := atoms_spec (ws := Cond.code yX6_priceOf cX6_priceOf 13 (some .int) :: lw_B) B.pre
  have hts : ∀ w ∈ lw_B, w.before _ s = true := fun w h => hts0 w (List.mem_cons_of_mem _ h)
  have hown : s.vm.findClass RX6 = some m.cls := findClass_of_methodNamed B.named
  have hS : va_S A s.heap s.heap [] := va_S.rf
  have hl := lv_entry ([.ref (rt 51), .int (nI cn), .int (nI pg), .int (nI pl), .long z]) (n := 13) (Nat.le_of_ble_eq_true rfl)
  rw [lg_entry_eq]
  generalize (lg_sl ([.ref (rt 51), .int (nI cn), .int (nI pg), .int (nI pl), .long z]) ++ List.replicate (13 - (lg_sl ([.ref (rt 51), .int (nI cn), .int (nI pg), .int (nI pl), .long z])).length) Slot.unset).toArray = ls at hl ⊢
  have hl : lv_has ls 13 [(0, .ref (rt 51)), (1, .int (nI cn)), (2, .int (nI pg)), (3, .int (nI pl)), (4, .long z)] := hl
  have hSm : gSm rt [38, 40, 41, 42, 47, 48, 51] f f := gSm.rf
  have hFs : fmS [43, 44, 45] fm fm := fmS.rf
  refine lv_aload_n hx hb dX6_priceOf_0 rfl (lv_at hl 0 rfl) ?_
  refine g_get (ci := 6) (v := .ref (rt 10)) (C := RX6) (T := TX6) (N := 51) hx hb hts uB6 hown hK hP (hC.1.1 51 (by decide)) F_m rfl 10 (by decide) wm_21 (hC.2.2.2 10 (by decide)) dX6_priceOf_1 ?_
  refine lv_iload_n hx hb dX6_priceOf_4 rfl (lv_at hl 1 rfl) ?_
  refine g_iald hx hb hK hP (hC.1.1 10 (by decide)) ((hSm.at hC.1 (by decide) (by decide)).trans F_sort) (vp_in_nI (by omega) (by decide)) dX6_priceOf_5 ?_
  refine lv_topi (fun x_1 ex_1 => ?_)
  rw [nI_clamp (by omega)] at ex_1
  refine lv_if_eq (tgt := 11) hx hb dX6_priceOf_6 (by decide) (fun c_2 => ?_) (fun c_2 => ?_)
  · skip
    refine lv_aload_n hx hb dX6_priceOf_11 rfl (lv_at hl 0 rfl) ?_
    refine g_get (ci := 6) (v := .ref (rt 7)) (C := RX6) (T := TX6) (N := 51) hx hb hts uB6 hown hK hP (hC.1.1 51 (by decide)) F_m rfl 7 (by decide) wm_135 (hC.2.2.2 7 (by decide)) dX6_priceOf_12 ?_
    refine lv_iconst (v := 4) hx hb dX6_priceOf_15 (by decide) ?_
    refine lv_iload_n hx hb dX6_priceOf_16 rfl (lv_at hl 2 rfl) ?_
    refine lv_imul hx hb dX6_priceOf_17 ?_
    refine lv_topi (fun x_3 ex_3 => ?_)
    obtain rfl : x_3 = nI (4 * pg) := ex_3.trans (pk_mul 4 pg)
    refine lv_iload_n hx hb dX6_priceOf_18 rfl (lv_at hl 3 rfl) ?_
    refine lv_iadd hx hb dX6_priceOf_19 ?_
    refine lv_topi (fun x_4 ex_4 => ?_)
    obtain rfl : x_4 = nI ((4 * pg) + pl) := ex_4.trans (nI_add (4 * pg) pl)
    refine g_iald hx hb hK hP (hC.1.1 7 (by decide)) ((hSm.at hC.1 (by decide) (by decide)).trans F_sizes) (vp_in_nI (by omega) (by decide)) dX6_priceOf_20 ?_
    refine lv_topi (fun x_5 ex_5 => ?_)
    rw [nI_clamp (by omega)] at ex_5
    refine lv_istore (lv' := [(6, .int x_5), (0, .ref (rt 51)), (1, .int (nI cn)), (2, .int (nI pg)), (3, .int (nI pl)), (4, .long z)]) hx hb dX6_priceOf_21 hl (by decide) rfl (fun ls hl => ?_)
    refine lv_aload_n hx hb dX6_priceOf_23 rfl (lv_at hl 1 rfl) ?_
    refine g_get (ci := 6) (v := .ref (rt 14)) (C := RX6) (T := TX6) (N := 51) hx hb hts uB6 hown hK hP (hC.1.1 51 (by decide)) F_m rfl 14 (by decide) wm_43 (hC.2.2.2 14 (by decide)) dX6_priceOf_24 ?_
    refine lv_iload_n hx hb dX6_priceOf_27 rfl (lv_at hl 2 rfl) ?_
    refine g_iald hx hb hK hP (hC.1.1 14 (by decide)) ((hSm.at hC.1 (by decide) (by decide)).trans F_bid) (vp_in_nI (by omega) (by decide)) dX6_priceOf_28 ?_
    refine lv_topi (fun x_6 ex_6 => ?_)
    rw [nI_clamp (by omega)] at ex_6
    refine lv_iload hx hb dX6_priceOf_29 (lv_at hl 0 rfl) ?_
    refine lv_imul hx hb dX6_priceOf_31 ?_
    refine lv_topi (fun x_7 ex_7 => ?_)
    refine lv_bipush (v := 100) hx hb dX6_priceOf_32 (by decide) ?_
    refine lv_idiv hx hb dX6_priceOf_34 (by decide) ?_
    refine lv_topi (fun x_8 ex_8 => ?_)
    refine lv_iconst (v := 1) hx hb dX6_priceOf_35 (by decide) ?_
    refine lv_icmp_ge (tgt := 43) hx hb dX6_priceOf_36 (by decide) (fun c_9 => ?_) (fun c_9 => ?_)
    · skip
      refine lv_aload_n hx hb dX6_priceOf_43 rfl (lv_at hl 1 rfl) ?_
      refine g_get (ci := 6) (v := .ref (rt 14)) (C := RX6) (T := TX6) (N := 51) hx hb hts uB6 hown hK hP (hC.1.1 51 (by decide)) F_m rfl 14 (by decide) wm_43 (hC.2.2.2 14 (by decide)) dX6_priceOf_44 ?_
      refine lv_iload_n hx hb dX6_priceOf_47 rfl (lv_at hl 2 rfl) ?_
      refine g_iald hx hb hK hP (hC.1.1 14 (by decide)) ((hSm.at hC.1 (by decide) (by decide)).trans F_bid) (vp_in_nI (by omega) (by decide)) dX6_priceOf_48 ?_
      refine lv_topi (fun x_10 ex_10 => ?_)
      rw [nI_clamp (by omega)] at ex_10
      refine lv_iload hx hb dX6_priceOf_49 (lv_at hl 0 rfl) ?_
      refine lv_imul hx hb dX6_priceOf_51 ?_
      refine lv_topi (fun x_11 ex_11 => ?_)
      refine lv_bipush (v := 100) hx hb dX6_priceOf_52 (by decide) ?_
      refine lv_idiv hx hb dX6_priceOf_54 (by decide) ?_
      refine lv_topi (fun x_12 ex_12 => ?_)
      refine lv_istore (lv' := [(7, .int x_12), (6, .int x_5), (0, .ref (rt 51)), (1, .int (nI cn)), (2, .int (nI pg)), (3, .int (nI pl)), (4, .long z)]) hx hb dX6_priceOf_55 hl (by decide) rfl (fun ls hl => ?_)
      refine lv_aload_n hx hb dX6_priceOf_57 rfl (lv_at hl 2 rfl) ?_
      refine g_get (ci := 6) (v := .int ru) (C := RX6) (T := TX6) (N := 51) hx hb hts uB6 hown hK hP (hC.1.1 51 (by decide)) F_m rfl 2 (by decide) wm_112 I_rule dX6_priceOf_58 ?_
      refine lv_if_ne (tgt := 67) hx hb dX6_priceOf_61 (by decide) (fun c_13 => ?_) (fun c_13 => ?_)
      · skip
        refine lv_iconst (v := 0) hx hb dX6_priceOf_67 (by decide) ?_
        refine lv_istore (lv' := [(8, .int 0), (7, .int x_12), (6, .int x_5), (0, .ref (rt 51)), (1, .int (nI cn)), (2, .int (nI pg)), (3, .int (nI pl)), (4, .long z)]) hx hb dX6_priceOf_68 hl (by decide) rfl (fun ls hl => ?_)
        obtain ⟨i9, hi9, hie⟩ := hin
        obtain ⟨fi0, efi0⟩ : ∃ z9 : Int32, z9 = x_12 := ⟨_, rfl⟩
        have hSma := hSm
        have hFsa := hFs
        refine k_lx (pcx := 87) (fun n H locs ls => ∃ (fva : Nat → va_E) (fmva : List Value) (j : Nat) (fi : Int32), i9 - j = n ∧ gSm rt [] f fva ∧ fmS [] fm fmva ∧ mC rt L fva fmva ∧ (j ≤ i9) ∧ va_P (dC, dI) vwCl (va_pl L fva) H ∧ va_S A s.heap H locs ∧ lv_has ls 13 [(0, .ref (rt 51)), (1, .int (nI cn)), (2, .int (nI pg)), (3, .int (nI pl)), (4, .long z), (7, .int fi), (8, .int (nI j))]) (fun H locs ls => ∃ (fva : Nat → va_E) (fmva : List Value) (j : Nat) (fi : Int32), gSm rt [] f fva ∧ fmS [] fm fmva ∧ mC rt L fva fmva ∧ (j ≤ i9) ∧ va_P (dC, dI) vwCl (va_pl L fva) H ∧ va_S A s.heap H locs ∧ lv_has ls 13 [(0, .ref (rt 51)), (1, .int (nI cn)), (2, .int (nI pg)), (3, .int (nI pl)), (4, .long z), (7, .int fi), (8, .int (nI j))]) (fun H locs ls hI => ?_) (fun n H locs ls hI hEa iha => ?_) _ _ _ _ ⟨f, fm, 0, _, rfl, gSm.rf, fmS.rf, hC, Nat.zero_le _, hP, hS, lv_sub hl [3, 4, 5, 6, 7, 1, 0] rfl⟩
        · skip
          obtain ⟨fva, fmva, j, fi, hSm, hFs, hC, hj, hP, hS, hl⟩ := hI
          have F_mostAt : fva (rt 38) = .inl (K 1, 5, .inr (.inl g_mostAt)) := (hSm.at hC.1 (by decide) (by decide)).trans F_mostAt
          have F_order : fva (rt 47) = .inl (K 0, 40, .inl g_order) := (hSm.at hC.1 (by decide) (by decide)).trans F_order
          have F_next : fva (rt 48) = .inl (K 0, 5, .inl g_next) := (hSm.at hC.1 (by decide) (by decide)).trans F_next
          have F_upTo : fva (rt 41) = .inl (K 1, 5, .inr (.inl g_upTo)) := (hSm.at hC.1 (by decide) (by decide)).trans F_upTo
          have F_filledTo : fva (rt 42) = .inl (K 0, 5, .inl g_filledTo) := (hSm.at hC.1 (by decide) (by decide)).trans F_filledTo
          have F_at : fva (rt 40) = .inl (K 0, 5, .inl g_at) := (hSm.at hC.1 (by decide) (by decide)).trans F_at
          have F_m : fva (rt 51) = .inr (6, fmva) := hC.2.1
          have I_may : fmva[35]? = some (.int (nI mm)) := (hFs.2 35 (by decide)).trans I_may
          have I_spots : fmva[39]? = some (.int (nI sp)) := (hFs.2 39 (by decide)).trans I_spots
          have I_hasBest : fmva[45]? = some (.int v3) := (hFs.2 45 (by decide)).trans I_hasBest
          have I_bestSum : fmva[43]? = some (.long v4) := (hFs.2 43 (by decide)).trans I_bestSum
          have I_bestFilled : fmva[44]? = some (.int v5) := (hFs.2 44 (by decide)).trans I_bestFilled
          have I_rule : fmva[2]? = some (.int ru) := (hFs.2 2 (by decide)).trans I_rule
          have hD : va_D A (va_pl L fva) := g_D hLn (fun a h => by rw [← hAe]; exact h) fva
          have hSmLa := hSm
          have hSm : gSm rt [38, 40, 41, 42, 47, 48, 51] f fva := hSma.tr hSm (by decide) (by decide)
          have hFs : fmS [43, 44, 45] fm fmva := hFsa.tr hFs (by decide) (by decide)
          refine lv_lload hx hb dX6_priceOf_87 (lv_at hl 4 rfl) ?_
          refine lv_aload_n hx hb dX6_priceOf_89 rfl (lv_at hl 0 rfl) ?_
          refine g_get (ci := 6) (v := .ref (rt 37)) (C := RX6) (T := TX6) (N := 51) hx hb hts uB6 hown hK hP (hC.1.1 51 (by decide)) F_m rfl 37 (by decide) wm_133 (hC.2.2.2 37 (by decide)) dX6_priceOf_90 ?_
          refine lv_iconst (v := 4) hx hb dX6_priceOf_93 (by decide) ?_
          refine lv_iload hx hb dX6_priceOf_94 (lv_at hl 6 rfl) ?_
          refine lv_imul hx hb dX6_priceOf_96 ?_
          refine lv_topi (fun x_14 ex_14 => ?_)
          obtain rfl : x_14 = nI (4 * j) := ex_14.trans (pk_mul 4 j)
          refine lv_iload_n hx hb dX6_priceOf_97 rfl (lv_at hl 3 rfl) ?_
          refine lv_iadd hx hb dX6_priceOf_98 ?_
          refine lv_topi (fun x_15 ex_15 => ?_)
          obtain rfl : x_15 = nI ((4 * j) + pl) := ex_15.trans (nI_add (4 * j) pl)
          refine g_lald hx hb hK hP (hC.1.1 37 (by decide)) ((hSm.at hC.1 (by decide) (by decide)).trans F_worth) (vp_in_nI (by omega) (by decide)) dX6_priceOf_99 ?_
          refine lv_topl (fun x_16 ex_16 => ?_)
          rw [nI_clamp (by omega)] at ex_16
          refine lv_lsub hx hb dX6_priceOf_100 ?_
          refine lv_topl (fun x_17 ex_17 => ?_)
          refine lv_lstore (lv' := [(9, .long x_17), (0, .ref (rt 51)), (1, .int (nI cn)), (2, .int (nI pg)), (3, .int (nI pl)), (4, .long z), (7, .int fi), (8, .int (nI j))]) hx hb dX6_priceOf_101 hl (by decide) rfl (fun ls hl => ?_)
          refine lv_aload_n hx hb dX6_priceOf_103 rfl (lv_at hl 1 rfl) ?_
          refine lv_iload hx hb dX6_priceOf_104 (lv_at hl 7 rfl) ?_
          refine gc_Ml (ci := 6) ⟨hx, hb, hml, hown, hts⟩ (um_sumWithout l dC dI K L fva rt hC F_mostAt F_order F_next F_upTo F_filledTo F_at ((hSm.at hC.1 (by decide) (by decide)).trans F_worth) ((hSm.at hC.1 (by decide) (by decide)).trans F_mayBe) ((hSm.at hC.1 (by decide) (by decide)).trans F_apart) I_may I_spots I_hasBest I_bestSum I_bestFilled (nI j) hnc hmnc hsp1 hsp hmb hww hLn) 1 wm_163 wm_164 wm_165 wm_8 wm_166 (by decide +kernel) ⟨Nat.le_of_ble_eq_true rfl, Nat.le_of_ble_eq_true rfl⟩ hK rfl (hC.1.1 51 (by decide)) F_m rfl hl.1 rfl (Nat.le_of_ble_eq_true rfl) dX6_priceOf_106 ⟨Nat.le_of_ble_eq_true rfl, Nat.le_of_ble_eq_true rfl⟩ (fun a h => by rw [← hAe]; exact h) hS hP (fun r_19 fw_18 H locs hpw hP hS => ?_)
          obtain ⟨fm3, gm, go, gn, gu, gf, ga, hSmC, hFsC, hCC, F_mostAt, F_order, F_next, F_upTo, F_filledTo, F_at, ⟨b3, I_hasBest⟩, ⟨b4, I_bestSum⟩, ⟨b5, I_bestFilled⟩⟩ := hpw
          have hC := hCC
          have F_m : fw_18 (rt 51) = .inr (6, fm3) := hC.2.1
          have hSm : gSm rt [38, 40, 41, 42, 47, 48, 51] f fw_18 := hSm.tr hSmC (by decide) (by decide)
          have I_may : fm3[35]? = some (.int (nI mm)) := (hFsC.2 35 (by decide)).trans I_may
          have I_spots : fm3[39]? = some (.int (nI sp)) := (hFsC.2 39 (by decide)).trans I_spots
          have I_rule : fm3[2]? = some (.int ru) := (hFsC.2 2 (by decide)).trans I_rule
          have hFs : fmS [43, 44, 45] fm fm3 := hFs.tr hFsC (by decide) (by decide)
          have hD : va_D A (va_pl L fw_18) := g_D hLn (fun a h => by rw [← hAe]; exact h) fw_18
          refine lv_lload hx hb dX6_priceOf_109 (lv_at hl 0 rfl) ?_
          refine lv_lsub hx hb dX6_priceOf_111 ?_
          refine lv_topl (fun x_20 ex_20 => ?_)
          refine lv_ldc2 (v := 1000000) hx hb hown (hts _ wm_117) dX6_priceOf_112 ?_
          refine lv_ldiv hx hb dX6_priceOf_115 (by decide) ?_
          refine lv_topl (fun x_21 ex_21 => ?_)
          refine lv_lstore (lv' := [(11, .long x_21), (9, .long x_17), (0, .ref (rt 51)), (1, .int (nI cn)), (2, .int (nI pg)), (3, .int (nI pl)), (4, .long z), (7, .int fi), (8, .int (nI j))]) hx hb dX6_priceOf_116 hl (by decide) rfl (fun ls hl => ?_)
          refine lv_lload hx hb dX6_priceOf_118 (lv_at hl 0 rfl) ?_
          refine lv_lconst (v := 0) hx hb dX6_priceOf_120 rfl ?_
          refine W.lcmp hx hb dX6_priceOf_121 ?_
          refine lv_topi (fun x_22 ex_22 => ?_)
          refine lv_if_ge (tgt := 129) hx hb dX6_priceOf_122 (by decide) (fun c_23 => ?_) (fun c_23 => ?_)
          · skip
            refine lv_lload hx hb dX6_priceOf_129 (lv_at hl 0 rfl) ?_
            refine lv_iload hx hb dX6_priceOf_131 (lv_at hl 7 rfl) ?_
            refine lv_i2l hx hb dX6_priceOf_133 rfl ?_
            refine lv_topl (fun x_24 ex_24 => ?_)
            refine W.lcmp hx hb dX6_priceOf_134 ?_
            refine lv_topi (fun x_25 ex_25 => ?_)
            refine lv_if_le (tgt := 143) hx hb dX6_priceOf_135 (by decide) (fun c_26 => ?_) (fun c_26 => ?_)
            · skip
              refine lv_lload hx hb dX6_priceOf_143 (lv_at hl 0 rfl) ?_
              refine lv_l2i hx hb dX6_priceOf_145 rfl ?_
              refine lv_topi (fun x_27 ex_27 => ?_)
              exact W.iret (v := x_27) hx hb hr (fun t ht hW => ⟨⟨x_27, fw_18, rfl, (Or.inr ⟨fm3, _, _, _, _, _, _, hSm, hFs, hC, F_mostAt, F_order, F_next, F_upTo, F_filledTo, F_at, ⟨_, I_hasBest⟩, ⟨_, I_bestSum⟩, ⟨_, I_bestFilled⟩⟩), by show va_P (dC, dI) vwCl (va_pl L fw_18) t.heap; rw [ht]; exact hP⟩, hS.F ht⟩) hS.2.2 dX6_priceOf_146
            · skip
              refine lv_iload hx hb dX6_priceOf_138 (lv_at hl 7 rfl) ?_
              refine lv_goto (tgt := 146) hx hb dX6_priceOf_140 (by decide) ?_
              exact W.iret (v := fi) hx hb hr (fun t ht hW => ⟨⟨fi, fw_18, rfl, (Or.inr ⟨fm3, _, _, _, _, _, _, hSm, hFs, hC, F_mostAt, F_order, F_next, F_upTo, F_filledTo, F_at, ⟨_, I_hasBest⟩, ⟨_, I_bestSum⟩, ⟨_, I_bestFilled⟩⟩), by show va_P (dC, dI) vwCl (va_pl L fw_18) t.heap; rw [ht]; exact hP⟩, hS.F ht⟩) hS.2.2 dX6_priceOf_146
          · skip
            refine lv_iconst (v := 0) hx hb dX6_priceOf_125 (by decide) ?_
            refine lv_goto (tgt := 146) hx hb dX6_priceOf_126 (by decide) ?_
            exact W.iret (v := 0) hx hb hr (fun t ht hW => ⟨⟨0, fw_18, rfl, (Or.inr ⟨fm3, _, _, _, _, _, _, hSm, hFs, hC, F_mostAt, F_order, F_next, F_upTo, F_filledTo, F_at, ⟨_, I_hasBest⟩, ⟨_, I_bestSum⟩, ⟨_, I_bestFilled⟩⟩), by show va_P (dC, dI) vwCl (va_pl L fw_18) t.heap; rw [ht]; exact hP⟩, hS.F ht⟩) hS.2.2 dX6_priceOf_146
        · skip
          obtain ⟨fva, fmva, j, fi, hmua, hSm, hFs, hC, hj, hP, hS, hl⟩ := hI
          have F_m : fva (rt 51) = .inr (6, fmva) := hC.2.1
          have I_may : fmva[35]? = some (.int (nI mm)) := (hFs.2 35 (by decide)).trans I_may
          have I_spots : fmva[39]? = some (.int (nI sp)) := (hFs.2 39 (by decide)).trans I_spots
          have I_hasBest : fmva[45]? = some (.int v3) := (hFs.2 45 (by decide)).trans I_hasBest
          have I_bestSum : fmva[43]? = some (.long v4) := (hFs.2 43 (by decide)).trans I_bestSum
          have I_bestFilled : fmva[44]? = some (.int v5) := (hFs.2 44 (by decide)).trans I_bestFilled
          have I_rule : fmva[2]? = some (.int ru) := (hFs.2 2 (by decide)).trans I_rule
          have hD : va_D A (va_pl L fva) := g_D hLn (fun a h => by rw [← hAe]; exact h) fva
          refine lv_aload_n hx hb dX6_priceOf_70 rfl (lv_at hl 0 rfl) ?_
          refine g_get (ci := 6) (v := .ref (rt 36)) (C := RX6) (T := TX6) (N := 51) hx hb hts uB6 hown hK hP (hC.1.1 51 (by decide)) F_m rfl 36 (by decide) wm_64 (hC.2.2.2 36 (by decide)) dX6_priceOf_71 ?_
          refine lv_iload hx hb dX6_priceOf_74 (lv_at hl 6 rfl) ?_
          refine g_iald hx hb hK hP (hC.1.1 36 (by decide)) ((hSm.at hC.1 (by decide) (by decide)).trans ((hSma.at hC.1 (by decide) (by decide)).trans F_mayBe)) (vp_in_nI (by omega) (by decide)) dX6_priceOf_76 ?_
          refine lv_topi (fun x_28 ex_28 => ?_)
          rw [nI_clamp (by omega)] at ex_28
          refine lv_iload_n hx hb dX6_priceOf_77 rfl (lv_at hl 1 rfl) ?_
          refine lv_icmp_eq (tgt := 87) hx hb dX6_priceOf_78 (by decide) (fun c_29 => ?_) (fun c_29 => ?_)
          · skip
            exact hEa _ _ _ ⟨fva, fmva, j, fi, hSm, hFs, hC, hj, hP, hS, lv_sub hl [0, 1, 2, 3, 4, 5, 6] rfl⟩
          · skip
            have hji : j < i9 := Nat.lt_of_le_of_ne hj (fun q => c_29 (by rw [ex_28, q]; exact hie))
            refine lv_iinc (v := nI (j + 1)) (lv' := [(8, .int (nI (j + 1))), (0, .ref (rt 51)), (1, .int (nI cn)), (2, .int (nI pg)), (3, .int (nI pl)), (4, .long z), (7, .int fi)]) hx hb dX6_priceOf_81 hl (k := 6) rfl (by exact nI_1 _) (by decide) rfl (fun ls hl => ?_)
            refine lv_goto (tgt := 70) hx hb dX6_priceOf_84 (by decide) ?_
            exact iha _ (by omega) _ _ _ ⟨fva, fmva, (j + 1), fi, rfl, hSm, hFs, hC, by omega, hP, hS, lv_sub hl [1, 2, 3, 4, 5, 6, 0] rfl⟩
      · skip
        refine lv_iload hx hb dX6_priceOf_64 (lv_at hl 0 rfl) ?_
        exact W.iret (v := x_12) hx hb hr (fun t ht hW => ⟨⟨x_12, f, rfl, (Or.inl rfl), by show va_P (dC, dI) vwCl (va_pl L f) t.heap; rw [ht]; exact hP⟩, hS.F ht⟩) hS.2.2 dX6_priceOf_66
    · skip
      refine lv_iconst (v := 1) hx hb dX6_priceOf_39 (by decide) ?_
      refine lv_goto (tgt := 55) hx hb dX6_priceOf_40 (by decide) ?_
      refine lv_istore (lv' := [(7, .int 1), (6, .int x_5), (0, .ref (rt 51)), (1, .int (nI cn)), (2, .int (nI pg)), (3, .int (nI pl)), (4, .long z)]) hx hb dX6_priceOf_55 hl (by decide) rfl (fun ls hl => ?_)
      refine lv_aload_n hx hb dX6_priceOf_57 rfl (lv_at hl 2 rfl) ?_
      refine g_get (ci := 6) (v := .int ru) (C := RX6) (T := TX6) (N := 51) hx hb hts uB6 hown hK hP (hC.1.1 51 (by decide)) F_m rfl 2 (by decide) wm_112 I_rule dX6_priceOf_58 ?_
      refine lv_if_ne (tgt := 67) hx hb dX6_priceOf_61 (by decide) (fun c_30 => ?_) (fun c_30 => ?_)
      · skip
        refine lv_iconst (v := 0) hx hb dX6_priceOf_67 (by decide) ?_
        refine lv_istore (lv' := [(8, .int 0), (7, .int 1), (6, .int x_5), (0, .ref (rt 51)), (1, .int (nI cn)), (2, .int (nI pg)), (3, .int (nI pl)), (4, .long z)]) hx hb dX6_priceOf_68 hl (by decide) rfl (fun ls hl => ?_)
        obtain ⟨i9, hi9, hie⟩ := hin
        obtain ⟨fi0, efi0⟩ : ∃ z9 : Int32, z9 = 1 := ⟨_, rfl⟩
        have hSma := hSm
        have hFsa := hFs
        refine k_lx (pcx := 87) (fun n H locs ls => ∃ (fva : Nat → va_E) (fmva : List Value) (j : Nat) (fi : Int32), i9 - j = n ∧ gSm rt [] f fva ∧ fmS [] fm fmva ∧ mC rt L fva fmva ∧ (j ≤ i9) ∧ va_P (dC, dI) vwCl (va_pl L fva) H ∧ va_S A s.heap H locs ∧ lv_has ls 13 [(0, .ref (rt 51)), (1, .int (nI cn)), (2, .int (nI pg)), (3, .int (nI pl)), (4, .long z), (7, .int fi), (8, .int (nI j))]) (fun H locs ls => ∃ (fva : Nat → va_E) (fmva : List Value) (j : Nat) (fi : Int32), gSm rt [] f fva ∧ fmS [] fm fmva ∧ mC rt L fva fmva ∧ (j ≤ i9) ∧ va_P (dC, dI) vwCl (va_pl L fva) H ∧ va_S A s.heap H locs ∧ lv_has ls 13 [(0, .ref (rt 51)), (1, .int (nI cn)), (2, .int (nI pg)), (3, .int (nI pl)), (4, .long z), (7, .int fi), (8, .int (nI j))]) (fun H locs ls hI => ?_) (fun n H locs ls hI hEa iha => ?_) _ _ _ _ ⟨f, fm, 0, _, rfl, gSm.rf, fmS.rf, hC, Nat.zero_le _, hP, hS, lv_sub hl [3, 4, 5, 6, 7, 1, 0] rfl⟩
        · skip
          obtain ⟨fva, fmva, j, fi, hSm, hFs, hC, hj, hP, hS, hl⟩ := hI
          have F_mostAt : fva (rt 38) = .inl (K 1, 5, .inr (.inl g_mostAt)) := (hSm.at hC.1 (by decide) (by decide)).trans F_mostAt
          have F_order : fva (rt 47) = .inl (K 0, 40, .inl g_order) := (hSm.at hC.1 (by decide) (by decide)).trans F_order
          have F_next : fva (rt 48) = .inl (K 0, 5, .inl g_next) := (hSm.at hC.1 (by decide) (by decide)).trans F_next
          have F_upTo : fva (rt 41) = .inl (K 1, 5, .inr (.inl g_upTo)) := (hSm.at hC.1 (by decide) (by decide)).trans F_upTo
          have F_filledTo : fva (rt 42) = .inl (K 0, 5, .inl g_filledTo) := (hSm.at hC.1 (by decide) (by decide)).trans F_filledTo
          have F_at : fva (rt 40) = .inl (K 0, 5, .inl g_at) := (hSm.at hC.1 (by decide) (by decide)).trans F_at
          have F_m : fva (rt 51) = .inr (6, fmva) := hC.2.1
          have I_may : fmva[35]? = some (.int (nI mm)) := (hFs.2 35 (by decide)).trans I_may
          have I_spots : fmva[39]? = some (.int (nI sp)) := (hFs.2 39 (by decide)).trans I_spots
          have I_hasBest : fmva[45]? = some (.int v3) := (hFs.2 45 (by decide)).trans I_hasBest
          have I_bestSum : fmva[43]? = some (.long v4) := (hFs.2 43 (by decide)).trans I_bestSum
          have I_bestFilled : fmva[44]? = some (.int v5) := (hFs.2 44 (by decide)).trans I_bestFilled
          have I_rule : fmva[2]? = some (.int ru) := (hFs.2 2 (by decide)).trans I_rule
          have hD : va_D A (va_pl L fva) := g_D hLn (fun a h => by rw [← hAe]; exact h) fva
          have hSmLa := hSm
          have hSm : gSm rt [38, 40, 41, 42, 47, 48, 51] f fva := hSma.tr hSm (by decide) (by decide)
          have hFs : fmS [43, 44, 45] fm fmva := hFsa.tr hFs (by decide) (by decide)
          refine lv_lload hx hb dX6_priceOf_87 (lv_at hl 4 rfl) ?_
          refine lv_aload_n hx hb dX6_priceOf_89 rfl (lv_at hl 0 rfl) ?_
          refine g_get (ci := 6) (v := .ref (rt 37)) (C := RX6) (T := TX6) (N := 51) hx hb hts uB6 hown hK hP (hC.1.1 51 (by decide)) F_m rfl 37 (by decide) wm_133 (hC.2.2.2 37 (by decide)) dX6_priceOf_90 ?_
          refine lv_iconst (v := 4) hx hb dX6_priceOf_93 (by decide) ?_
          refine lv_iload hx hb dX6_priceOf_94 (lv_at hl 6 rfl) ?_
          refine lv_imul hx hb dX6_priceOf_96 ?_
          refine lv_topi (fun x_31 ex_31 => ?_)
          obtain rfl : x_31 = nI (4 * j) := ex_31.trans (pk_mul 4 j)
          refine lv_iload_n hx hb dX6_priceOf_97 rfl (lv_at hl 3 rfl) ?_
          refine lv_iadd hx hb dX6_priceOf_98 ?_
          refine lv_topi (fun x_32 ex_32 => ?_)
          obtain rfl : x_32 = nI ((4 * j) + pl) := ex_32.trans (nI_add (4 * j) pl)
          refine g_lald hx hb hK hP (hC.1.1 37 (by decide)) ((hSm.at hC.1 (by decide) (by decide)).trans F_worth) (vp_in_nI (by omega) (by decide)) dX6_priceOf_99 ?_
          refine lv_topl (fun x_33 ex_33 => ?_)
          rw [nI_clamp (by omega)] at ex_33
          refine lv_lsub hx hb dX6_priceOf_100 ?_
          refine lv_topl (fun x_34 ex_34 => ?_)
          refine lv_lstore (lv' := [(9, .long x_34), (0, .ref (rt 51)), (1, .int (nI cn)), (2, .int (nI pg)), (3, .int (nI pl)), (4, .long z), (7, .int fi), (8, .int (nI j))]) hx hb dX6_priceOf_101 hl (by decide) rfl (fun ls hl => ?_)
          refine lv_aload_n hx hb dX6_priceOf_103 rfl (lv_at hl 1 rfl) ?_
          refine lv_iload hx hb dX6_priceOf_104 (lv_at hl 7 rfl) ?_
          refine gc_Ml (ci := 6) ⟨hx, hb, hml, hown, hts⟩ (um_sumWithout l dC dI K L fva rt hC F_mostAt F_order F_next F_upTo F_filledTo F_at ((hSm.at hC.1 (by decide) (by decide)).trans F_worth) ((hSm.at hC.1 (by decide) (by decide)).trans F_mayBe) ((hSm.at hC.1 (by decide) (by decide)).trans F_apart) I_may I_spots I_hasBest I_bestSum I_bestFilled (nI j) hnc hmnc hsp1 hsp hmb hww hLn) 1 wm_163 wm_164 wm_165 wm_8 wm_166 (by decide +kernel) ⟨Nat.le_of_ble_eq_true rfl, Nat.le_of_ble_eq_true rfl⟩ hK rfl (hC.1.1 51 (by decide)) F_m rfl hl.1 rfl (Nat.le_of_ble_eq_true rfl) dX6_priceOf_106 ⟨Nat.le_of_ble_eq_true rfl, Nat.le_of_ble_eq_true rfl⟩ (fun a h => by rw [← hAe]; exact h) hS hP (fun r_36 fw_35 H locs hpw hP hS => ?_)
          obtain ⟨fm3, gm, go, gn, gu, gf, ga, hSmC, hFsC, hCC, F_mostAt, F_order, F_next, F_upTo, F_filledTo, F_at, ⟨b3, I_hasBest⟩, ⟨b4, I_bestSum⟩, ⟨b5, I_bestFilled⟩⟩ := hpw
          have hC := hCC
          have F_m : fw_35 (rt 51) = .inr (6, fm3) := hC.2.1
          have hSm : gSm rt [38, 40, 41, 42, 47, 48, 51] f fw_35 := hSm.tr hSmC (by decide) (by decide)
          have I_may : fm3[35]? = some (.int (nI mm)) := (hFsC.2 35 (by decide)).trans I_may
          have I_spots : fm3[39]? = some (.int (nI sp)) := (hFsC.2 39 (by decide)).trans I_spots
          have I_rule : fm3[2]? = some (.int ru) := (hFsC.2 2 (by decide)).trans I_rule
          have hFs : fmS [43, 44, 45] fm fm3 := hFs.tr hFsC (by decide) (by decide)
          have hD : va_D A (va_pl L fw_35) := g_D hLn (fun a h => by rw [← hAe]; exact h) fw_35
          refine lv_lload hx hb dX6_priceOf_109 (lv_at hl 0 rfl) ?_
          refine lv_lsub hx hb dX6_priceOf_111 ?_
          refine lv_topl (fun x_37 ex_37 => ?_)
          refine lv_ldc2 (v := 1000000) hx hb hown (hts _ wm_117) dX6_priceOf_112 ?_
          refine lv_ldiv hx hb dX6_priceOf_115 (by decide) ?_
          refine lv_topl (fun x_38 ex_38 => ?_)
          refine lv_lstore (lv' := [(11, .long x_38), (9, .long x_34), (0, .ref (rt 51)), (1, .int (nI cn)), (2, .int (nI pg)), (3, .int (nI pl)), (4, .long z), (7, .int fi), (8, .int (nI j))]) hx hb dX6_priceOf_116 hl (by decide) rfl (fun ls hl => ?_)
          refine lv_lload hx hb dX6_priceOf_118 (lv_at hl 0 rfl) ?_
          refine lv_lconst (v := 0) hx hb dX6_priceOf_120 rfl ?_
          refine W.lcmp hx hb dX6_priceOf_121 ?_
          refine lv_topi (fun x_39 ex_39 => ?_)
          refine lv_if_ge (tgt := 129) hx hb dX6_priceOf_122 (by decide) (fun c_40 => ?_) (fun c_40 => ?_)
          · skip
            refine lv_lload hx hb dX6_priceOf_129 (lv_at hl 0 rfl) ?_
            refine lv_iload hx hb dX6_priceOf_131 (lv_at hl 7 rfl) ?_
            refine lv_i2l hx hb dX6_priceOf_133 rfl ?_
            refine lv_topl (fun x_41 ex_41 => ?_)
            refine W.lcmp hx hb dX6_priceOf_134 ?_
            refine lv_topi (fun x_42 ex_42 => ?_)
            refine lv_if_le (tgt := 143) hx hb dX6_priceOf_135 (by decide) (fun c_43 => ?_) (fun c_43 => ?_)
            · skip
              refine lv_lload hx hb dX6_priceOf_143 (lv_at hl 0 rfl) ?_
              refine lv_l2i hx hb dX6_priceOf_145 rfl ?_
              refine lv_topi (fun x_44 ex_44 => ?_)
              exact W.iret (v := x_44) hx hb hr (fun t ht hW => ⟨⟨x_44, fw_35, rfl, (Or.inr ⟨fm3, _, _, _, _, _, _, hSm, hFs, hC, F_mostAt, F_order, F_next, F_upTo, F_filledTo, F_at, ⟨_, I_hasBest⟩, ⟨_, I_bestSum⟩, ⟨_, I_bestFilled⟩⟩), by show va_P (dC, dI) vwCl (va_pl L fw_35) t.heap; rw [ht]; exact hP⟩, hS.F ht⟩) hS.2.2 dX6_priceOf_146
            · skip
              refine lv_iload hx hb dX6_priceOf_138 (lv_at hl 7 rfl) ?_
              refine lv_goto (tgt := 146) hx hb dX6_priceOf_140 (by decide) ?_
              exact W.iret (v := fi) hx hb hr (fun t ht hW => ⟨⟨fi, fw_35, rfl, (Or.inr ⟨fm3, _, _, _, _, _, _, hSm, hFs, hC, F_mostAt, F_order, F_next, F_upTo, F_filledTo, F_at, ⟨_, I_hasBest⟩, ⟨_, I_bestSum⟩, ⟨_, I_bestFilled⟩⟩), by show va_P (dC, dI) vwCl (va_pl L fw_35) t.heap; rw [ht]; exact hP⟩, hS.F ht⟩) hS.2.2 dX6_priceOf_146
          · skip
            refine lv_iconst (v := 0) hx hb dX6_priceOf_125 (by decide) ?_
            refine lv_goto (tgt := 146) hx hb dX6_priceOf_126 (by decide) ?_
            exact W.iret (v := 0) hx hb hr (fun t ht hW => ⟨⟨0, fw_35, rfl, (Or.inr ⟨fm3, _, _, _, _, _, _, hSm, hFs, hC, F_mostAt, F_order, F_next, F_upTo, F_filledTo, F_at, ⟨_, I_hasBest⟩, ⟨_, I_bestSum⟩, ⟨_, I_bestFilled⟩⟩), by show va_P (dC, dI) vwCl (va_pl L fw_35) t.heap; rw [ht]; exact hP⟩, hS.F ht⟩) hS.2.2 dX6_priceOf_146
        · skip
          obtain ⟨fva, fmva, j, fi, hmua, hSm, hFs, hC, hj, hP, hS, hl⟩ := hI
          have F_m : fva (rt 51) = .inr (6, fmva) := hC.2.1
          have I_may : fmva[35]? = some (.int (nI mm)) := (hFs.2 35 (by decide)).trans I_may
          have I_spots : fmva[39]? = some (.int (nI sp)) := (hFs.2 39 (by decide)).trans I_spots
          have I_hasBest : fmva[45]? = some (.int v3) := (hFs.2 45 (by decide)).trans I_hasBest
          have I_bestSum : fmva[43]? = some (.long v4) := (hFs.2 43 (by decide)).trans I_bestSum
          have I_bestFilled : fmva[44]? = some (.int v5) := (hFs.2 44 (by decide)).trans I_bestFilled
          have I_rule : fmva[2]? = some (.int ru) := (hFs.2 2 (by decide)).trans I_rule
          have hD : va_D A (va_pl L fva) := g_D hLn (fun a h => by rw [← hAe]; exact h) fva
          refine lv_aload_n hx hb dX6_priceOf_70 rfl (lv_at hl 0 rfl) ?_
          refine g_get (ci := 6) (v := .ref (rt 36)) (C := RX6) (T := TX6) (N := 51) hx hb hts uB6 hown hK hP (hC.1.1 51 (by decide)) F_m rfl 36 (by decide) wm_64 (hC.2.2.2 36 (by decide)) dX6_priceOf_71 ?_
          refine lv_iload hx hb dX6_priceOf_74 (lv_at hl 6 rfl) ?_
          refine g_iald hx hb hK hP (hC.1.1 36 (by decide)) ((hSm.at hC.1 (by decide) (by decide)).trans ((hSma.at hC.1 (by decide) (by decide)).trans F_mayBe)) (vp_in_nI (by omega) (by decide)) dX6_priceOf_76 ?_
          refine lv_topi (fun x_45 ex_45 => ?_)
          rw [nI_clamp (by omega)] at ex_45
          refine lv_iload_n hx hb dX6_priceOf_77 rfl (lv_at hl 1 rfl) ?_
          refine lv_icmp_eq (tgt := 87) hx hb dX6_priceOf_78 (by decide) (fun c_46 => ?_) (fun c_46 => ?_)
          · skip
            exact hEa _ _ _ ⟨fva, fmva, j, fi, hSm, hFs, hC, hj, hP, hS, lv_sub hl [0, 1, 2, 3, 4, 5, 6] rfl⟩
          · skip
            have hji : j < i9 := Nat.lt_of_le_of_ne hj (fun q => c_46 (by rw [ex_45, q]; exact hie))
            refine lv_iinc (v := nI (j + 1)) (lv' := [(8, .int (nI (j + 1))), (0, .ref (rt 51)), (1, .int (nI cn)), (2, .int (nI pg)), (3, .int (nI pl)), (4, .long z), (7, .int fi)]) hx hb dX6_priceOf_81 hl (k := 6) rfl (by exact nI_1 _) (by decide) rfl (fun ls hl => ?_)
            refine lv_goto (tgt := 70) hx hb dX6_priceOf_84 (by decide) ?_
            exact iha _ (by omega) _ _ _ ⟨fva, fmva, (j + 1), fi, rfl, hSm, hFs, hC, by omega, hP, hS, lv_sub hl [1, 2, 3, 4, 5, 6, 0] rfl⟩
      · skip
        refine lv_iload hx hb dX6_priceOf_64 (lv_at hl 0 rfl) ?_
        exact W.iret (v := 1) hx hb hr (fun t ht hW => ⟨⟨1, f, rfl, (Or.inl rfl), by show va_P (dC, dI) vwCl (va_pl L f) t.heap; rw [ht]; exact hP⟩, hS.F ht⟩) hS.2.2 dX6_priceOf_66
  · skip
    refine lv_iconst (v := 0) hx hb dX6_priceOf_9 (by decide) ?_
    exact W.iret (v := 0) hx hb hr (fun t ht hW => ⟨⟨0, f, rfl, (Or.inl rfl), by show va_P (dC, dI) vwCl (va_pl L f) t.heap; rw [ht]; exact hP⟩, hS.F ht⟩) hS.2.2 dX6_priceOf_10
