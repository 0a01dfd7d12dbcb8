/-- worths are as they can be: of the first mm in all sp places, of the next one in kk -/
def wOk (g : Nat → Int64) (mm sp kk : Nat) : Prop := ∀ i k, (i < mm ∧ k < sp) ∨ (i = mm ∧ k < kk) → ∃ w9 : Nat, w9 ≤ 1272270000000 ∧ g (4 * i + k) = lN w9
theorem wOk.st {g : Nat → Int64} {mm sp kk : Nat} (h : wOk g mm sp kk) (hk : kk < sp) (hs : sp ≤ 4) {w9 : Nat} (hw : w9 ≤ 1272270000000) : wOk (vp_updL g (4 * mm + kk) (lN w9)) mm sp (kk + 1) := fun i k hi => by
  by_cases q : 4 * i + k = 4 * mm + kk
  · rw [q, pk_uLs]; exact ⟨w9, hw, rfl⟩
  · rw [pk_uLn q]
    refine h i k ?_
    rcases hi with hi | hi
    · exact Or.inl hi
    · exact Or.inr ⟨hi.1, by omega⟩
theorem wOk.nx {g : Nat → Int64} {mm sp : Nat} (h : wOk g mm sp sp) : wOk g (mm + 1) sp 0 := fun i k hi => h i k (by omega)
set_option maxHeartbeats 4000000 in
set_option maxRecDepth 100000 in
theorem um_gather (l : Launch) (dC : Nat → ClassId) (dI : Nat → Nat → Nat) (K : Nat → ClassId) (L : List Nat) (f : Nat → va_E) (rt : Nat → Nat) {fm : List Value} (hC : mC rt L f fm) {g_stopped : Nat → Int32} (F_stopped : f (rt 20) = .inl (K 2, 40, .inl g_stopped)) {g_marks : Nat → Int32} (F_marks : f (rt 8) = .inl (K 0, 100, .inl g_marks)) {g_must : Nat → Int32} (F_must : f (rt 12) = .inl (K 0, 40, .inl g_must)) {g_never : Nat → Int32} (F_never : f (rt 13) = .inl (K 0, 40, .inl g_never)) {g_saleOf : Nat → Int32} (F_saleOf : f (rt 30) = .inl (K 0, 1000, .inl g_saleOf)) {g_saleReader : Nat → Int32} (F_saleReader : f (rt 27) = .inl (K 0, 1000, .inl g_saleReader)) {g_saleTick : Nat → Int32} (F_saleTick : f (rt 26) = .inl (K 0, 1000, .inl g_saleTick)) {g_salePage : Nat → Int32} (F_salePage : f (rt 28) = .inl (K 0, 1000, .inl g_salePage)) {g_state : Nat → Int32} (F_state : f (rt 32) = .inl (K 0, 1000, .inl g_state)) {g_span : Nat → Int32} (F_span : f (rt 18) = .inl (K 0, 40, .inl g_span)) {g_apart : Nat → Int32} (F_apart : f (rt 21) = .inl (K 2, 1600, .inl g_apart)) {g_cap : Nat → Int32} (F_cap : f (rt 17) = .inl (K 0, 40, .inl g_cap)) {g_sort : Nat → Int32} (F_sort : f (rt 10) = .inl (K 0, 40, .inl g_sort)) {g_bid : Nat → Int32} (F_bid : f (rt 14) = .inl (K 0, 40, .inl g_bid)) {g_throttle : Nat → Int32} (F_throttle : f (rt 19) = .inl (K 0, 40, .inl g_throttle)) {g_dayBudget : Nat → Int32} (F_dayBudget : f (rt 15) = .inl (K 0, 40, .inl g_dayBudget)) {g_allBudget : Nat → Int32} (F_allBudget : f (rt 16) = .inl (K 0, 40, .inl g_allBudget)) {g_pays : Nat → Int32} (F_pays : f (rt 11) = .inl (K 0, 40, .inl g_pays)) {g_price : Nat → Int32} (F_price : f (rt 31) = .inl (K 0, 1000, .inl g_price)) {g_promised : Nat → Int32} (F_promised : f (rt 22) = .inl (K 0, 40, .inl g_promised)) {g_promiseDay : Nat → Int32} (F_promiseDay : f (rt 23) = .inl (K 0, 40, .inl g_promiseDay)) {g_promiseFrom : Nat → Int32} (F_promiseFrom : f (rt 24) = .inl (K 0, 40, .inl g_promiseFrom)) {g_pressTick : Nat → Int32} (F_pressTick : f (rt 34) = .inl (K 0, 1000, .inl g_pressTick)) {g_places : Nat → Int32} (F_places : f (rt 6) = .inl (K 0, 8, .inl g_places)) {g_sizes : Nat → Int32} (F_sizes : f (rt 7) = .inl (K 0, 32, .inl g_sizes)) {g_mayBe : Nat → Int32} (F_mayBe : f (rt 36) = .inl (K 0, 40, .inl g_mayBe)) {g_worth : Nat → Int64} (F_worth : f (rt 37) = .inl (K 1, 160, .inr (.inl g_worth))) {ns nc sp : Nat} {t v1 v2 : Int32} (I_sales : fm[25]? = some (.int (nI ns))) (I_campaigns : fm[9]? = some (.int (nI nc))) (I_tick : fm[1]? = some (.int t)) (I_may : fm[35]? = some (.int v1)) (I_spots : fm[39]? = some (.int v2)) (rd : Nat) (pg : Nat) (hns : ns ≤ 1000) (hso : ∀ j, j < ns → vp_in (g_saleOf j) 40) (hnc : nc ≤ 40) (hpb : ∀ c, c < 40 → g_promised c = 0 ∨ ∃ a d : Nat, d ≤ 100 ∧ a < 100 * d + 100 ∧ g_promiseDay c = nI d ∧ g_promiseFrom c = nI a) (hbd : ∀ c, c < 40 → ∃ b : Nat, b ≤ 1000 ∧ g_bid c = nI b) (hsz : ∀ i, i < 32 → ∃ z : Nat, z ≤ 127 ∧ g_sizes i = nI z) (hrd : rd < 100) (hpg : pg < 8) (hpl : g_places pg = nI sp) (hsp1 : 1 ≤ sp) (hsp : sp ≤ 4) (hLn : gN L) : gMv l yX6_gather cX6_gather 5 4 (dC, dI) K L f [.ref (rt 51), .int (nI rd), .int (nI pg)] (fun f' => ∃ (fm' : List Value) (mm : Nat) (gb : Nat → Int32) (gw : Nat → Int64), gSm rt [36, 37, 51] f f' ∧ fmS [35, 39] fm fm' ∧ mC rt L f' fm' ∧ f' (rt 36) = .inl (K 0, 40, .inl gb) ∧ f' (rt 37) = .inl (K 1, 160, .inr (.inl gw)) ∧ fm'[35]? = some (.int (nI mm)) ∧ fm'[39]? = some (.int (nI sp)) ∧ mm ≤ nc ∧ (∀ k, k < mm → ∃ q : Nat, q < nc ∧ gb k = nI q) ∧ wOk gw mm sp 0) := by
  refine Met.ofW (cc := cX6_gather) (maxL := 5) (ret := none) (by decide) rfl ?_
  intro p e s m args below meth c s₁ B hml hv
  obtain ⟨rfl, hP, hK⟩ := hv
  have F_m := hC.2.1
  have hD : va_D (fun q : Nat => q ∈ L) (va_pl L f) := g_D hLn (fun a h => h) f
  generalize hAe : (fun q : Nat => q ∈ L) = A at hD ⊢
  have hx := B.exec
  have hb := B.bytes
  have hr := B.returns
  have hlocks := B.notSynchronized
  have hts0 := atoms_spec (ws := Cond.code yX6_gather cX6_gather 5 none :: lw_B) B.pre
  have hts : ∀ w ∈ lw_B, w.before _ s = true := fun w h => hts0 w (List.mem_cons_of_mem _ h)
  have hown : s.vm.findClass RX6 = some m.cls := findClass_of_methodNamed B.named
  have hS : va_S A s.heap s.heap [] := va_S.rf
  have hl := lv_entry ([.ref (rt 51), .int (nI rd), .int (nI pg)]) (n := 5) (Nat.le_of_ble_eq_true rfl)
  rw [lg_entry_eq]
  generalize (lg_sl ([.ref (rt 51), .int (nI rd), .int (nI pg)]) ++ List.replicate (5 - (lg_sl ([.ref (rt 51), .int (nI rd), .int (nI pg)])).length) Slot.unset).toArray = ls at hl ⊢
  have hl : lv_has ls 5 [(0, .ref (rt 51)), (1, .int (nI rd)), (2, .int (nI pg))] := hl
  have hSm : gSm rt [36, 37, 51] f f := gSm.rf
  have hFs : fmS [35, 39] fm fm := fmS.rf
  refine lv_aload_n hx hb dX6_gather_0 rfl (lv_at hl 0 rfl) ?_
  refine lv_iconst (v := 0) hx hb dX6_gather_1 (by decide) ?_
  refine g_put (ci := 6) (v := .int 0) (ty := .int) (C := RX6) (T := TX6) (N := 51) hx hb hts uB6 tyX6 tyX6_ok nmX6 hown hK hP hD hS (hC.1.1 51 (by decide)) F_m rfl 35 (by decide) wm_63 rfl (by decide +kernel) rfl rfl (by rw [hC.2.2.1]; decide) dX6_gather_2 (fun H locs hP hD hS => ?_)
  obtain ⟨fs_1, efs_1⟩ : ∃ z9, z9 = List.set fm 35 (.int 0) := ⟨_, rfl⟩
  rw [← efs_1] at hP hD
  have hlen_ : fs_1.length = 51 := by rw [efs_1, List.length_set]; exact hC.2.2.1
  have I_sales : fs_1[25]? = some (.int (nI ns)) := by rw [efs_1, List.getElem?_set_ne (by decide)]; exact I_sales
  have I_campaigns : fs_1[9]? = some (.int (nI nc)) := by rw [efs_1, List.getElem?_set_ne (by decide)]; exact I_campaigns
  have I_tick : fs_1[1]? = some (.int t) := by rw [efs_1, List.getElem?_set_ne (by decide)]; exact I_tick
  have I_spots : fs_1[39]? = some (.int v2) := by rw [efs_1, List.getElem?_set_ne (by decide)]; exact I_spots
  have I_may : fs_1[35]? = some (.int 0) := by rw [efs_1]; exact List.getElem?_set_self (by rw [hC.2.2.1]; decide)
  have hmr_ : ∀ k ∈ mArr, fs_1[k]? = some (.ref (rt k)) := fun k h => by rw [efs_1, List.getElem?_set_ne (fun q => by rw [← q] at h; exact absurd h (by decide))]; exact hC.2.2.2 k h
  obtain ⟨f_2, ef_2⟩ : ∃ z9, z9 = va_up f (rt 51) (.inr (6, fs_1)) := ⟨_, rfl⟩
  rw [← ef_2] at hP hD
  have F_mayBe : f_2 (rt 36) = .inl (K 0, 40, .inl g_mayBe) := by rw [ef_2, va_up_ne _ _ (fun q => absurd (hC.1.2 36 (by decide) 51 (by decide) q) (by decide))]; exact F_mayBe
  have F_worth : f_2 (rt 37) = .inl (K 1, 160, .inr (.inl g_worth)) := by rw [ef_2, va_up_ne _ _ (fun q => absurd (hC.1.2 37 (by decide) 51 (by decide) q) (by decide))]; exact F_worth
  have F_m : f_2 (rt 51) = .inr (6, fs_1) := by rw [ef_2, va_up_self]
  have hSm : gSm rt [36, 37, 51] f f_2 := by rw [ef_2]; exact hSm.up (by decide) _
  have hC : mC rt L f_2 fs_1 := ⟨hC.1, F_m, hlen_, hmr_⟩
  have hFs : fmS [35, 39] fm fs_1 := by rw [efs_1]; exact hFs.st (by decide) _
  refine lv_aload_n hx hb dX6_gather_5 rfl (lv_at hl 0 rfl) ?_
  refine lv_aload_n hx hb dX6_gather_6 rfl (lv_at hl 0 rfl) ?_
  refine g_get (ci := 6) (v := .ref (rt 6)) (C := RX6) (T := TX6) (N := 51) hx hb hts uB6 hown hK hP (hC.1.1 51 (by decide)) F_m rfl 6 (by decide) wm_134 (hC.2.2.2 6 (by decide)) dX6_gather_7 ?_
  refine lv_iload_n hx hb dX6_gather_10 rfl (lv_at hl 2 rfl) ?_
  refine g_iald hx hb hK hP (hC.1.1 6 (by decide)) ((hSm.at hC.1 (by decide) (by decide)).trans F_places) (vp_in_nI (by omega) (by decide)) dX6_gather_11 ?_
  refine lv_topi (fun x_3 ex_3 => ?_)
  rw [nI_clamp (by omega)] at ex_3
  obtain rfl : x_3 = nI (sp) := ex_3.trans hpl
  refine g_put (ci := 6) (v := .int (nI sp)) (ty := .int) (C := RX6) (T := TX6) (N := 51) hx hb hts uB6 tyX6 tyX6_ok nmX6 hown hK hP hD hS (hC.1.1 51 (by decide)) F_m rfl 39 (by decide) wm_131 rfl (by decide +kernel) rfl rfl (by rw [hC.2.2.1]; decide) dX6_gather_12 (fun H locs hP hD hS => ?_)
  obtain ⟨fs_4, efs_4⟩ : ∃ z9, z9 = List.set fs_1 39 (.int (nI sp)) := ⟨_, rfl⟩
  rw [← efs_4] at hP hD
  have hlen_ : fs_4.length = 51 := by rw [efs_4, List.length_set]; exact hC.2.2.1
  have I_sales : fs_4[25]? = some (.int (nI ns)) := by rw [efs_4, List.getElem?_set_ne (by decide)]; exact I_sales
  have I_campaigns : fs_4[9]? = some (.int (nI nc)) := by rw [efs_4, List.getElem?_set_ne (by decide)]; exact I_campaigns
  have I_tick : fs_4[1]? = some (.int t) := by rw [efs_4, List.getElem?_set_ne (by decide)]; exact I_tick
  have I_may : fs_4[35]? = some (.int 0) := by rw [efs_4, List.getElem?_set_ne (by decide)]; exact I_may
  have I_spots : fs_4[39]? = some (.int (nI sp)) := by rw [efs_4]; exact List.getElem?_set_self (by rw [hC.2.2.1]; decide)
  have hmr_ : ∀ k ∈ mArr, fs_4[k]? = some (.ref (rt k)) := fun k h => by rw [efs_4, List.getElem?_set_ne (fun q => by rw [← q] at h; exact absurd h (by decide))]; exact hC.2.2.2 k h
  obtain ⟨f_5, ef_5⟩ : ∃ z9, z9 = va_up f_2 (rt 51) (.inr (6, fs_4)) := ⟨_, rfl⟩
  rw [← ef_5] at hP hD
  have F_mayBe : f_5 (rt 36) = .inl (K 0, 40, .inl g_mayBe) := by rw [ef_5, va_up_ne _ _ (fun q => absurd (hC.1.2 36 (by decide) 51 (by decide) q) (by decide))]; exact F_mayBe
  have F_worth : f_5 (rt 37) = .inl (K 1, 160, .inr (.inl g_worth)) := by rw [ef_5, va_up_ne _ _ (fun q => absurd (hC.1.2 37 (by decide) 51 (by decide) q) (by decide))]; exact F_worth
  have F_m : f_5 (rt 51) = .inr (6, fs_4) := by rw [ef_5, va_up_self]
  have hSm : gSm rt [36, 37, 51] f f_5 := by rw [ef_5]; exact hSm.up (by decide) _
  have hC : mC rt L f_5 fs_4 := ⟨hC.1, F_m, hlen_, hmr_⟩
  have hFs : fmS [35, 39] fm fs_4 := by rw [efs_4]; exact hFs.st (by decide) _
  refine lv_iconst (v := 0) hx hb dX6_gather_15 (by decide) ?_
  refine lv_istore_n (lv' := [(3, .int 0), (0, .ref (rt 51)), (1, .int (nI rd)), (2, .int (nI pg))]) hx hb dX6_gather_16 rfl hl (by decide) rfl (fun ls hl => ?_)
  have hSma := hSm
  have hFsa := hFs
  refine k_lx (pcx := 112) (fun n H locs ls => ∃ (fva : Nat → va_E) (fmva : List Value) (gb : Nat → Int32) (gw : Nat → Int64) (j : Nat) (mm : Nat), nc - j = n ∧ gSm rt [36, 37, 51] f_5 fva ∧ fmS [35] fs_4 fmva ∧ mC rt L fva fmva ∧ fva (rt 36) = .inl (K 0, 40, .inl gb) ∧ fva (rt 37) = .inl (K 1, 160, .inr (.inl gw)) ∧ fmva[35]? = some (.int (nI mm)) ∧ (j ≤ nc) ∧ (mm ≤ j) ∧ (∀ k, k < mm → ∃ q : Nat, q < nc ∧ gb k = nI q) ∧ (wOk gw mm sp 0) ∧ va_P (dC, dI) vwCl (va_pl L fva) H ∧ va_S A s.heap H locs ∧ lv_has ls 5 [(0, .ref (rt 51)), (1, .int (nI rd)), (2, .int (nI pg)), (3, .int (nI j))]) (fun H locs ls => ∃ (fva : Nat → va_E) (fmva : List Value) (gb : Nat → Int32) (gw : Nat → Int64) (j : Nat) (mm : Nat), gSm rt [36, 37, 51] f_5 fva ∧ fmS [35] fs_4 fmva ∧ mC rt L fva fmva ∧ fva (rt 36) = .inl (K 0, 40, .inl gb) ∧ fva (rt 37) = .inl (K 1, 160, .inr (.inl gw)) ∧ fmva[35]? = some (.int (nI mm)) ∧ (j ≤ nc) ∧ (mm ≤ j) ∧ (∀ k, k < mm → ∃ q : Nat, q < nc ∧ gb k = nI q) ∧ (wOk gw mm sp 0) ∧ va_P (dC, dI) vwCl (va_pl L fva) H ∧ va_S A s.heap H locs ∧ lv_has ls 5 [(0, .ref (rt 51)), (1, .int (nI rd)), (2, .int (nI pg)), (3, .int (nI j))]) (fun H locs ls hI => ?_) (fun n H locs ls hI hEa iha => ?_) _ _ _ _ ⟨f_5, fs_4, _, _, 0, 0, rfl, gSm.rf, fmS.rf, hC, F_mayBe, F_worth, I_may, Nat.zero_le _, Nat.zero_le _, fun k h => absurd h (Nat.not_lt_zero k), fun i k h => by omega, hP, hS, lv_sub hl [1, 2, 3, 0] rfl⟩
  · skip
    obtain ⟨fva, fmva, gb, gw, j, mm, hSm, hFs, hC, NF_mayBe, NF_worth, NI_may, hj, hmj, hmb, hww, hP, hS, hl⟩ := hI
    have F_mayBe := NF_mayBe
    have F_worth := NF_worth
    have F_m : fva (rt 51) = .inr (6, fmva) := hC.2.1
    have I_sales : fmva[25]? = some (.int (nI ns)) := (hFs.2 25 (by decide)).trans I_sales
    have I_campaigns : fmva[9]? = some (.int (nI nc)) := (hFs.2 9 (by decide)).trans I_campaigns
    have I_tick : fmva[1]? = some (.int t) := (hFs.2 1 (by decide)).trans I_tick
    have I_spots : fmva[39]? = some (.int (nI sp)) := (hFs.2 39 (by decide)).trans I_spots
    have I_may := NI_may
    have hD : va_D A (va_pl L fva) := g_D hLn (fun a h => by rw [← hAe]; exact h) fva
    have hSmLa := hSm
    have hSm : gSm rt [36, 37, 51] f fva := hSma.tr hSm (by decide) (by decide)
    have hFs : fmS [35, 39] fm fmva := hFsa.tr hFs (by decide) (by decide)
    exact W.vret hx hb hr (fun t ht hW => ⟨⟨fva, rfl, ⟨fmva, mm, _, _, hSm, hFs, hC, F_mayBe, F_worth, I_may, I_spots, by omega, hmb, hww⟩, by show va_P (dC, dI) vwCl (va_pl L fva) t.heap; rw [ht]; exact hP⟩, hS.F ht⟩) hS.2.2 dX6_gather_112
  · skip
    obtain ⟨fva, fmva, gb, gw, j, mm, hmua, hSm, hFs, hC, NF_mayBe, NF_worth, NI_may, hj, hmj, hmb, hww, hP, hS, hl⟩ := hI
    have F_mayBe := NF_mayBe
    have F_worth := NF_worth
    have F_m : fva (rt 51) = .inr (6, fmva) := hC.2.1
    have I_sales : fmva[25]? = some (.int (nI ns)) := (hFs.2 25 (by decide)).trans I_sales
    have I_campaigns : fmva[9]? = some (.int (nI nc)) := (hFs.2 9 (by decide)).trans I_campaigns
    have I_tick : fmva[1]? = some (.int t) := (hFs.2 1 (by decide)).trans I_tick
    have I_spots : fmva[39]? = some (.int (nI sp)) := (hFs.2 39 (by decide)).trans I_spots
    have I_may := NI_may
    have hD : va_D A (va_pl L fva) := g_D hLn (fun a h => by rw [← hAe]; exact h) fva
    refine lv_iload_n hx hb dX6_gather_17 rfl (lv_at hl 3 rfl) ?_
    refine lv_aload_n hx hb dX6_gather_18 rfl (lv_at hl 0 rfl) ?_
    refine g_get (ci := 6) (v := .int (nI nc)) (C := RX6) (T := TX6) (N := 51) hx hb hts uB6 hown hK hP (hC.1.1 51 (by decide)) F_m rfl 9 (by decide) wm_76 I_campaigns dX6_gather_19 ?_
    refine lv_icmp_ge (tgt := 112) hx hb dX6_gather_22 (by decide) (fun c_6 => ?_) (fun c_6 => ?_)
    · skip
      have nc_6 : nc ≤ j := (bn_le (a := nc) (b := j) (by omega) (by omega)).mp (show nI nc ≤ nI j from c_6)
      exact hEa _ _ _ ⟨fva, fmva, _, _, j, mm, hSm, hFs, hC, F_mayBe, F_worth, I_may, by omega, by omega, hmb, hww, hP, hS, lv_sub hl [0, 1, 2, 3] rfl⟩
    · skip
      have nc_6 : ¬ (nc ≤ j) := fun q => c_6 (show nI nc ≤ nI j from (bn_le (a := nc) (b := j) (by omega) (by omega)).mpr q)
      refine lv_aload_n hx hb dX6_gather_25 rfl (lv_at hl 0 rfl) ?_
      refine lv_iload_n hx hb dX6_gather_26 rfl (lv_at hl 3 rfl) ?_
      refine lv_iload_n hx hb dX6_gather_27 rfl (lv_at hl 1 rfl) ?_
      refine lv_iload_n hx hb dX6_gather_28 rfl (lv_at hl 2 rfl) ?_
      refine gc_R (ci := 6) ⟨hx, hb, hml, hown, hts⟩ (m_hinders l dC dI K L fva rt hC ((hSm.at hC.1 (by decide) (by decide)).trans ((hSma.at hC.1 (by decide) (by decide)).trans F_stopped)) ((hSm.at hC.1 (by decide) (by decide)).trans ((hSma.at hC.1 (by decide) (by decide)).trans F_marks)) ((hSm.at hC.1 (by decide) (by decide)).trans ((hSma.at hC.1 (by decide) (by decide)).trans F_must)) ((hSm.at hC.1 (by decide) (by decide)).trans ((hSma.at hC.1 (by decide) (by decide)).trans F_never)) ((hSm.at hC.1 (by decide) (by decide)).trans ((hSma.at hC.1 (by decide) (by decide)).trans F_saleOf)) ((hSm.at hC.1 (by decide) (by decide)).trans ((hSma.at hC.1 (by decide) (by decide)).trans F_saleReader)) ((hSm.at hC.1 (by decide) (by decide)).trans ((hSma.at hC.1 (by decide) (by decide)).trans F_saleTick)) ((hSm.at hC.1 (by decide) (by decide)).trans ((hSma.at hC.1 (by decide) (by decide)).trans F_salePage)) ((hSm.at hC.1 (by decide) (by decide)).trans ((hSma.at hC.1 (by decide) (by decide)).trans F_state)) ((hSm.at hC.1 (by decide) (by decide)).trans ((hSma.at hC.1 (by decide) (by decide)).trans F_span)) ((hSm.at hC.1 (by decide) (by decide)).trans ((hSma.at hC.1 (by decide) (by decide)).trans F_apart)) ((hSm.at hC.1 (by decide) (by decide)).trans ((hSma.at hC.1 (by decide) (by decide)).trans F_cap)) ((hSm.at hC.1 (by decide) (by decide)).trans ((hSma.at hC.1 (by decide) (by decide)).trans F_sort)) ((hSm.at hC.1 (by decide) (by decide)).trans ((hSma.at hC.1 (by decide) (by decide)).trans F_bid)) ((hSm.at hC.1 (by decide) (by decide)).trans ((hSma.at hC.1 (by decide) (by decide)).trans F_throttle)) ((hSm.at hC.1 (by decide) (by decide)).trans ((hSma.at hC.1 (by decide) (by decide)).trans F_dayBudget)) ((hSm.at hC.1 (by decide) (by decide)).trans ((hSma.at hC.1 (by decide) (by decide)).trans F_allBudget)) ((hSm.at hC.1 (by decide) (by decide)).trans ((hSma.at hC.1 (by decide) (by decide)).trans F_pays)) ((hSm.at hC.1 (by decide) (by decide)).trans ((hSma.at hC.1 (by decide) (by decide)).trans F_price)) I_sales I_tick j rd (nI pg) hns hso (by omega) (by omega)) 3 wm_118 wm_119 wm_120 wm_8 wm_121 (by decide +kernel) ⟨Nat.le_of_ble_eq_true rfl, Nat.le_of_ble_eq_true rfl⟩ hK rfl (hC.1.1 51 (by decide)) F_m rfl hl.1 rfl (Nat.le_of_ble_eq_true rfl) dX6_gather_29 ⟨Nat.le_of_ble_eq_true rfl, Nat.le_of_ble_eq_true rfl⟩ hS hP (fun r_7 H locs hpr_7 hP hS => ?_)
      refine lv_if_eq (tgt := 38) hx hb dX6_gather_32 (by decide) (fun c_8 => ?_) (fun c_8 => ?_)
      · skip
        refine lv_aload_n hx hb dX6_gather_38 rfl (lv_at hl 0 rfl) ?_
        refine g_get (ci := 6) (v := .ref (rt 36)) (C := RX6) (T := TX6) (N := 51) hx hb hts uB6 hown hK hP (hC.1.1 51 (by decide)) F_m rfl 36 (by decide) wm_64 (hC.2.2.2 36 (by decide)) dX6_gather_39 ?_
        refine lv_aload_n hx hb dX6_gather_42 rfl (lv_at hl 0 rfl) ?_
        refine g_get (ci := 6) (v := .int (nI mm)) (C := RX6) (T := TX6) (N := 51) hx hb hts uB6 hown hK hP (hC.1.1 51 (by decide)) F_m rfl 35 (by decide) wm_63 I_may dX6_gather_43 ?_
        refine lv_iload_n hx hb dX6_gather_46 rfl (lv_at hl 3 rfl) ?_
        refine g_iast hx hb hK hP hD hS (hC.1.1 36 (by decide)) F_mayBe (vp_in_nI (by omega) (by decide)) dX6_gather_47 (fun H locs hP hD hS => ?_)
        obtain ⟨g_9, eg_9⟩ : ∃ z9, z9 = upd gb (Int32.toNatClampNeg (nI mm)) (nI j) := ⟨_, rfl⟩
        rw [← eg_9] at hP hD
        obtain ⟨f_10, ef_10⟩ : ∃ z9, z9 = va_up fva (rt 36) (.inl (K 0, 40, .inl g_9)) := ⟨_, rfl⟩
        rw [← ef_10] at hP hD
        have F_worth : f_10 (rt 37) = .inl (K 1, 160, .inr (.inl gw)) := by rw [ef_10, va_up_ne _ _ (fun q => absurd (hC.1.2 37 (by decide) 36 (by decide) q) (by decide))]; exact F_worth
        have F_m : f_10 (rt 51) = .inr (6, fmva) := by rw [ef_10, va_up_ne _ _ (fun q => absurd (hC.1.2 51 (by decide) 36 (by decide) q) (by decide))]; exact F_m
        have F_mayBe : f_10 (rt 36) = .inl (K 0, 40, .inl g_9) := by rw [ef_10, va_up_self]
        have hC : mC rt L f_10 fmva := ⟨hC.1, F_m, hC.2.2.1, hC.2.2.2⟩
        have hSm : gSm rt [36, 37, 51] f_5 f_10 := by rw [ef_10]; exact hSm.up (by decide) _
        rw [nI_clamp (by omega)] at eg_9
        refine lv_iconst (v := 0) hx hb dX6_gather_48 (by decide) ?_
        refine lv_istore (lv' := [(4, .int 0), (0, .ref (rt 51)), (1, .int (nI rd)), (2, .int (nI pg)), (3, .int (nI j))]) hx hb dX6_gather_49 hl (by decide) rfl (fun ls hl => ?_)
        have hmb2 : ∀ k, k < mm + 1 → ∃ q : Nat, q < nc ∧ g_9 k = nI q := fun k hk => by
          by_cases q : k = mm
          · rw [q, eg_9, pk_us]; exact ⟨j, by omega, rfl⟩
          · rw [eg_9, pk_un q]; exact hmb k (by omega)
        have hSmb := hSm
        have hFsb := hFs
        refine k_lx (pcx := 96) (fun n H locs ls => ∃ (fvb : Nat → va_E) (fmvb : List Value) (gy : Nat → Int64) (kk : Nat), sp - kk = n ∧ gSm rt [37] f_10 fvb ∧ fmS [] fmva fmvb ∧ mC rt L fvb fmvb ∧ fvb (rt 37) = .inl (K 1, 160, .inr (.inl gy)) ∧ (kk ≤ sp) ∧ (wOk gy mm sp kk) ∧ va_P (dC, dI) vwCl (va_pl L fvb) H ∧ va_S A s.heap H locs ∧ lv_has ls 5 [(0, .ref (rt 51)), (1, .int (nI rd)), (2, .int (nI pg)), (3, .int (nI j)), (4, .int (nI kk))]) (fun H locs ls => ∃ (fvb : Nat → va_E) (fmvb : List Value) (gy : Nat → Int64) (kk : Nat), gSm rt [37] f_10 fvb ∧ fmS [] fmva fmvb ∧ mC rt L fvb fmvb ∧ fvb (rt 37) = .inl (K 1, 160, .inr (.inl gy)) ∧ (wOk gy mm sp sp) ∧ va_P (dC, dI) vwCl (va_pl L fvb) H ∧ va_S A s.heap H locs ∧ lv_has ls 5 [(0, .ref (rt 51)), (1, .int (nI rd)), (2, .int (nI pg)), (3, .int (nI j)), (4, .int (nI kk))]) (fun H locs ls hI => ?_) (fun n H locs ls hI hEb ihb => ?_) _ _ _ _ ⟨f_10, fmva, _, 0, rfl, gSm.rf, fmS.rf, hC, F_worth, Nat.zero_le _, hww, hP, hS, lv_sub hl [1, 2, 3, 4, 0] rfl⟩
        · skip
          obtain ⟨fvb, fmvb, gy, kk, hSm, hFs, hC, NF_worth, hww, hP, hS, hl⟩ := hI
          have F_mayBe : fvb (rt 36) = .inl (K 0, 40, .inl g_9) := (hSm.at hC.1 (by decide) (by decide)).trans F_mayBe
          have F_worth := NF_worth
          have F_m : fvb (rt 51) = .inr (6, fmvb) := hC.2.1
          have I_sales : fmvb[25]? = some (.int (nI ns)) := (hFs.2 25 (by decide)).trans I_sales
          have I_campaigns : fmvb[9]? = some (.int (nI nc)) := (hFs.2 9 (by decide)).trans I_campaigns
          have I_tick : fmvb[1]? = some (.int t) := (hFs.2 1 (by decide)).trans I_tick
          have I_spots : fmvb[39]? = some (.int (nI sp)) := (hFs.2 39 (by decide)).trans I_spots
          have I_may : fmvb[35]? = some (.int (nI mm)) := (hFs.2 35 (by decide)).trans I_may
          have hD : va_D A (va_pl L fvb) := g_D hLn (fun a h => by rw [← hAe]; exact h) fvb
          have hSmLb := hSm
          have hSm : gSm rt [36, 37, 51] f_5 fvb := hSmb.tr hSm (by decide) (by decide)
          have hFs : fmS [35] fs_4 fmvb := hFsb.tr hFs (by decide) (by decide)
          refine lv_aload_n hx hb dX6_gather_96 rfl (lv_at hl 0 rfl) ?_
          refine lv_dup hx hb dX6_gather_97 rfl ?_
          refine g_get (ci := 6) (v := .int (nI mm)) (C := RX6) (T := TX6) (N := 51) hx hb hts uB6 hown hK hP (hC.1.1 51 (by decide)) F_m rfl 35 (by decide) wm_63 I_may dX6_gather_98 ?_
          refine lv_iconst (v := 1) hx hb dX6_gather_101 (by decide) ?_
          refine lv_iadd hx hb dX6_gather_102 ?_
          refine lv_topi (fun x_11 ex_11 => ?_)
          obtain rfl : x_11 = nI (mm + 1) := ex_11.trans (nI_add mm 1)
          refine g_put (ci := 6) (v := .int (nI (mm + 1))) (ty := .int) (C := RX6) (T := TX6) (N := 51) hx hb hts uB6 tyX6 tyX6_ok nmX6 hown hK hP hD hS (hC.1.1 51 (by decide)) F_m rfl 35 (by decide) wm_63 rfl (by decide +kernel) rfl rfl (by rw [hC.2.2.1]; decide) dX6_gather_103 (fun H locs hP hD hS => ?_)
          obtain ⟨fs_12, efs_12⟩ : ∃ z9, z9 = List.set fmvb 35 (.int (nI (mm + 1))) := ⟨_, rfl⟩
          rw [← efs_12] at hP hD
          have hlen_ : fs_12.length = 51 := by rw [efs_12, List.length_set]; exact hC.2.2.1
          have I_sales : fs_12[25]? = some (.int (nI ns)) := by rw [efs_12, List.getElem?_set_ne (by decide)]; exact I_sales
          have I_campaigns : fs_12[9]? = some (.int (nI nc)) := by rw [efs_12, List.getElem?_set_ne (by decide)]; exact I_campaigns
          have I_tick : fs_12[1]? = some (.int t) := by rw [efs_12, List.getElem?_set_ne (by decide)]; exact I_tick
          have I_spots : fs_12[39]? = some (.int (nI sp)) := by rw [efs_12, List.getElem?_set_ne (by decide)]; exact I_spots
          have I_may : fs_12[35]? = some (.int (nI (mm + 1))) := by rw [efs_12]; exact List.getElem?_set_self (by rw [hC.2.2.1]; decide)
          have hmr_ : ∀ k ∈ mArr, fs_12[k]? = some (.ref (rt k)) := fun k h => by rw [efs_12, List.getElem?_set_ne (fun q => by rw [← q] at h; exact absurd h (by decide))]; exact hC.2.2.2 k h
          obtain ⟨f_13, ef_13⟩ : ∃ z9, z9 = va_up fvb (rt 51) (.inr (6, fs_12)) := ⟨_, rfl⟩
          rw [← ef_13] at hP hD
          have F_mayBe : f_13 (rt 36) = .inl (K 0, 40, .inl g_9) := by rw [ef_13, va_up_ne _ _ (fun q => absurd (hC.1.2 36 (by decide) 51 (by decide) q) (by decide))]; exact F_mayBe
          have F_worth : f_13 (rt 37) = .inl (K 1, 160, .inr (.inl gy)) := by rw [ef_13, va_up_ne _ _ (fun q => absurd (hC.1.2 37 (by decide) 51 (by decide) q) (by decide))]; exact F_worth
          have F_m : f_13 (rt 51) = .inr (6, fs_12) := by rw [ef_13, va_up_self]
          have hSm : gSm rt [36, 37, 51] f_5 f_13 := by rw [ef_13]; exact hSm.up (by decide) _
          have hC : mC rt L f_13 fs_12 := ⟨hC.1, F_m, hlen_, hmr_⟩
          have hFs : fmS [35] fs_4 fs_12 := by rw [efs_12]; exact hFs.st (by decide) _
          refine lv_iinc (v := nI (j + 1)) (lv' := [(3, .int (nI (j + 1))), (0, .ref (rt 51)), (1, .int (nI rd)), (2, .int (nI pg)), (4, .int (nI kk))]) hx hb dX6_gather_106 hl (k := 3) rfl (by exact nI_1 _) (by decide) rfl (fun ls hl => ?_)
          refine lv_goto (tgt := 17) hx hb dX6_gather_109 (by decide) ?_
          exact iha _ (by omega) _ _ _ ⟨f_13, fs_12, _, _, (j + 1), (mm + 1), rfl, hSm, hFs, hC, F_mayBe, F_worth, I_may, by omega, by omega, hmb2, hww.nx, hP, hS, lv_sub hl [1, 2, 3, 0] rfl⟩
        · skip
          obtain ⟨fvb, fmvb, gy, kk, hmub, hSm, hFs, hC, NF_worth, hkk, hww, hP, hS, hl⟩ := hI
          have F_worth := NF_worth
          have F_m : fvb (rt 51) = .inr (6, fmvb) := hC.2.1
          have I_sales : fmvb[25]? = some (.int (nI ns)) := (hFs.2 25 (by decide)).trans I_sales
          have I_campaigns : fmvb[9]? = some (.int (nI nc)) := (hFs.2 9 (by decide)).trans I_campaigns
          have I_tick : fmvb[1]? = some (.int t) := (hFs.2 1 (by decide)).trans I_tick
          have I_spots : fmvb[39]? = some (.int (nI sp)) := (hFs.2 39 (by decide)).trans I_spots
          have I_may : fmvb[35]? = some (.int (nI mm)) := (hFs.2 35 (by decide)).trans I_may
          have hD : va_D A (va_pl L fvb) := g_D hLn (fun a h => by rw [← hAe]; exact h) fvb
          refine lv_iload hx hb dX6_gather_51 (lv_at hl 4 rfl) ?_
          refine lv_aload_n hx hb dX6_gather_53 rfl (lv_at hl 0 rfl) ?_
          refine g_get (ci := 6) (v := .int (nI sp)) (C := RX6) (T := TX6) (N := 51) hx hb hts uB6 hown hK hP (hC.1.1 51 (by decide)) F_m rfl 39 (by decide) wm_131 I_spots dX6_gather_54 ?_
          refine lv_icmp_ge (tgt := 96) hx hb dX6_gather_57 (by decide) (fun c_14 => ?_) (fun c_14 => ?_)
          · skip
            have nc_14 : sp ≤ kk := (bn_le (a := sp) (b := kk) (by omega) (by omega)).mp (show nI sp ≤ nI kk from c_14)
            exact hEb _ _ _ ⟨fvb, fmvb, _, kk, hSm, hFs, hC, F_worth, (by rw [show sp = kk by omega] at hww ⊢; exact hww), hP, hS, lv_sub hl [0, 1, 2, 3, 4] rfl⟩
          · skip
            have nc_14 : ¬ (sp ≤ kk) := fun q => c_14 (show nI sp ≤ nI kk from (bn_le (a := sp) (b := kk) (by omega) (by omega)).mpr q)
            refine lv_aload_n hx hb dX6_gather_60 rfl (lv_at hl 0 rfl) ?_
            refine g_get (ci := 6) (v := .ref (rt 37)) (C := RX6) (T := TX6) (N := 51) hx hb hts uB6 hown hK hP (hC.1.1 51 (by decide)) F_m rfl 37 (by decide) wm_133 (hC.2.2.2 37 (by decide)) dX6_gather_61 ?_
            refine lv_iconst (v := 4) hx hb dX6_gather_64 (by decide) ?_
            refine lv_aload_n hx hb dX6_gather_65 rfl (lv_at hl 0 rfl) ?_
            refine g_get (ci := 6) (v := .int (nI mm)) (C := RX6) (T := TX6) (N := 51) hx hb hts uB6 hown hK hP (hC.1.1 51 (by decide)) F_m rfl 35 (by decide) wm_63 I_may dX6_gather_66 ?_
            refine lv_imul hx hb dX6_gather_69 ?_
            refine lv_topi (fun x_15 ex_15 => ?_)
            obtain rfl : x_15 = nI (4 * mm) := ex_15.trans (pk_mul 4 mm)
            refine lv_iload hx hb dX6_gather_70 (lv_at hl 4 rfl) ?_
            refine lv_iadd hx hb dX6_gather_72 ?_
            refine lv_topi (fun x_16 ex_16 => ?_)
            obtain rfl : x_16 = nI ((4 * mm) + kk) := ex_16.trans (nI_add (4 * mm) kk)
            refine lv_aload_n hx hb dX6_gather_73 rfl (lv_at hl 0 rfl) ?_
            refine lv_iload_n hx hb dX6_gather_74 rfl (lv_at hl 3 rfl) ?_
            refine lv_aload_n hx hb dX6_gather_75 rfl (lv_at hl 0 rfl) ?_
            refine g_get (ci := 6) (v := .ref (rt 7)) (C := RX6) (T := TX6) (N := 51) hx hb hts uB6 hown hK hP (hC.1.1 51 (by decide)) F_m rfl 7 (by decide) wm_135 (hC.2.2.2 7 (by decide)) dX6_gather_76 ?_
            refine lv_iconst (v := 4) hx hb dX6_gather_79 (by decide) ?_
            refine lv_iload_n hx hb dX6_gather_80 rfl (lv_at hl 2 rfl) ?_
            refine lv_imul hx hb dX6_gather_81 ?_
            refine lv_topi (fun x_17 ex_17 => ?_)
            obtain rfl : x_17 = nI (4 * pg) := ex_17.trans (pk_mul 4 pg)
            refine lv_iload hx hb dX6_gather_82 (lv_at hl 4 rfl) ?_
            refine lv_iadd hx hb dX6_gather_84 ?_
            refine lv_topi (fun x_18 ex_18 => ?_)
            obtain rfl : x_18 = nI ((4 * pg) + kk) := ex_18.trans (nI_add (4 * pg) kk)
            refine g_iald hx hb hK hP (hC.1.1 7 (by decide)) ((hSm.at hC.1 (by decide) (by decide)).trans ((hSmb.at hC.1 (by decide) (by decide)).trans ((hSma.at hC.1 (by decide) (by decide)).trans F_sizes))) (vp_in_nI (by omega) (by decide)) dX6_gather_85 ?_
            refine lv_topi (fun x_19 ex_19 => ?_)
            rw [nI_clamp (by omega)] at ex_19
            obtain ⟨z9, hz9, hze⟩ := hsz (((4 * pg) + kk)) (by omega)
            obtain rfl : x_19 = nI (z9) := ex_19.trans hze
            refine gc_Rl (ci := 6) ⟨hx, hb, hml, hown, hts⟩ (m_worthOf l dC dI K L fvb rt hC ((hSm.at hC.1 (by decide) (by decide)).trans ((hSmb.at hC.1 (by decide) (by decide)).trans ((hSma.at hC.1 (by decide) (by decide)).trans F_sort))) ((hSm.at hC.1 (by decide) (by decide)).trans ((hSmb.at hC.1 (by decide) (by decide)).trans ((hSma.at hC.1 (by decide) (by decide)).trans F_bid))) ((hSm.at hC.1 (by decide) (by decide)).trans ((hSmb.at hC.1 (by decide) (by decide)).trans ((hSma.at hC.1 (by decide) (by decide)).trans F_pays))) ((hSm.at hC.1 (by decide) (by decide)).trans ((hSmb.at hC.1 (by decide) (by decide)).trans ((hSma.at hC.1 (by decide) (by decide)).trans F_promised))) ((hSm.at hC.1 (by decide) (by decide)).trans ((hSmb.at hC.1 (by decide) (by decide)).trans ((hSma.at hC.1 (by decide) (by decide)).trans F_promiseDay))) ((hSm.at hC.1 (by decide) (by decide)).trans ((hSmb.at hC.1 (by decide) (by decide)).trans ((hSma.at hC.1 (by decide) (by decide)).trans F_promiseFrom))) ((hSm.at hC.1 (by decide) (by decide)).trans ((hSmb.at hC.1 (by decide) (by decide)).trans ((hSma.at hC.1 (by decide) (by decide)).trans F_saleOf))) ((hSm.at hC.1 (by decide) (by decide)).trans ((hSmb.at hC.1 (by decide) (by decide)).trans ((hSma.at hC.1 (by decide) (by decide)).trans F_state))) ((hSm.at hC.1 (by decide) (by decide)).trans ((hSmb.at hC.1 (by decide) (by decide)).trans ((hSma.at hC.1 (by decide) (by decide)).trans F_saleTick))) ((hSm.at hC.1 (by decide) (by decide)).trans ((hSmb.at hC.1 (by decide) (by decide)).trans ((hSma.at hC.1 (by decide) (by decide)).trans F_pressTick))) I_sales I_tick j z9 hns hpb hbd (by omega) hz9) 2 wm_136 wm_137 wm_138 wm_8 wm_139 (by decide +kernel) ⟨Nat.le_of_ble_eq_true rfl, Nat.le_of_ble_eq_true rfl⟩ hK rfl (hC.1.1 51 (by decide)) F_m rfl hl.1 rfl (Nat.le_of_ble_eq_true rfl) dX6_gather_86 ⟨Nat.le_of_ble_eq_true rfl, Nat.le_of_ble_eq_true rfl⟩ hS hP (fun r_20 H locs hpr_20 hP hS => ?_)
            obtain ⟨w99, hw99, rfl⟩ := hpr_20
            refine g_last hx hb hK hP hD hS (hC.1.1 37 (by decide)) F_worth (vp_in_nI (by omega) (by decide)) dX6_gather_89 (fun H locs hP hD hS => ?_)
            obtain ⟨g_21, eg_21⟩ : ∃ z9, z9 = vp_updL gy (Int32.toNatClampNeg (nI ((4 * mm) + kk))) (lN w99) := ⟨_, rfl⟩
            rw [← eg_21] at hP hD
            obtain ⟨f_22, ef_22⟩ : ∃ z9, z9 = va_up fvb (rt 37) (.inl (K 1, 160, .inr (.inl g_21))) := ⟨_, rfl⟩
            rw [← ef_22] at hP hD
            have F_m : f_22 (rt 51) = .inr (6, fmvb) := by rw [ef_22, va_up_ne _ _ (fun q => absurd (hC.1.2 51 (by decide) 37 (by decide) q) (by decide))]; exact F_m
            have F_worth : f_22 (rt 37) = .inl (K 1, 160, .inr (.inl g_21)) := by rw [ef_22, va_up_self]
            have hC : mC rt L f_22 fmvb := ⟨hC.1, F_m, hC.2.2.1, hC.2.2.2⟩
            have hSm : gSm rt [37] f_10 f_22 := by rw [ef_22]; exact hSm.up (by decide) _
            rw [nI_clamp (by omega)] at eg_21
            refine lv_iinc (v := nI (kk + 1)) (lv' := [(4, .int (nI (kk + 1))), (0, .ref (rt 51)), (1, .int (nI rd)), (2, .int (nI pg)), (3, .int (nI j))]) hx hb dX6_gather_90 hl (k := 4) rfl (by exact nI_1 _) (by decide) rfl (fun ls hl => ?_)
            refine lv_goto (tgt := 51) hx hb dX6_gather_93 (by decide) ?_
            exact ihb _ (by omega) _ _ _ ⟨f_22, fmvb, _, (kk + 1), rfl, hSm, hFs, hC, F_worth, by omega, (by rw [eg_21]; exact hww.st (by omega) hsp hw99), hP, hS, lv_sub hl [1, 2, 3, 4, 0] rfl⟩
      · skip
        refine lv_goto (tgt := 106) hx hb dX6_gather_35 (by decide) ?_
        refine lv_iinc (v := nI (j + 1)) (lv' := [(3, .int (nI (j + 1))), (0, .ref (rt 51)), (1, .int (nI rd)), (2, .int (nI pg))]) hx hb dX6_gather_106 hl (k := 3) rfl (by exact nI_1 _) (by decide) rfl (fun ls hl => ?_)
        refine lv_goto (tgt := 17) hx hb dX6_gather_109 (by decide) ?_
        exact iha _ (by omega) _ _ _ ⟨fva, fmva, _, _, (j + 1), mm, rfl, hSm, hFs, hC, F_mayBe, F_worth, I_may, by omega, by omega, hmb, hww, hP, hS, lv_sub hl [1, 2, 3, 0] rfl⟩
