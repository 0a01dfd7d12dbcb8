set_option maxHeartbeats 4000000 in
set_option maxRecDepth 100000 in
theorem um_sell2 (l : Launch) (dC : Nat → ClassId) (dI : Nat → Nat → Nat) (K : Nat → ClassId) (L : List Nat) (f : Nat → va_E) (rt : Nat → Nat) {fm : List Value} (hC : mC rt L f fm) {g_saleTick : Nat → Int32} (F_saleTick : f (rt 26) = .inl (K 0, 1000, .inl g_saleTick)) {g_saleReader : Nat → Int32} (F_saleReader : f (rt 27) = .inl (K 0, 1000, .inl g_saleReader)) {g_salePage : Nat → Int32} (F_salePage : f (rt 28) = .inl (K 0, 1000, .inl g_salePage)) {g_salePlace : Nat → Int32} (F_salePlace : f (rt 29) = .inl (K 0, 1000, .inl g_salePlace)) {g_saleOf : Nat → Int32} (F_saleOf : f (rt 30) = .inl (K 0, 1000, .inl g_saleOf)) {g_price : Nat → Int32} (F_price : f (rt 31) = .inl (K 0, 1000, .inl g_price)) {g_state : Nat → Int32} (F_state : f (rt 32) = .inl (K 0, 1000, .inl g_state)) {g_saleWait : Nat → Int32} (F_saleWait : f (rt 33) = .inl (K 0, 1000, .inl g_saleWait)) {g_pressTick : Nat → Int32} (F_pressTick : f (rt 34) = .inl (K 0, 1000, .inl g_pressTick)) {g_pays : Nat → Int32} (F_pays : f (rt 11) = .inl (K 0, 40, .inl g_pays)) {g_toSell : Nat → Int32} (F_toSell : f (rt 49) = .inl (K 0, 4, .inl g_toSell)) {g_toPay : Nat → Int32} (F_toPay : f (rt 50) = .inl (K 0, 4, .inl g_toPay)) {ns cn : Nat} {tk wt : Int32} (I_sales : fm[25]? = some (.int (nI ns))) (I_tick : fm[1]? = some (.int tk)) (I_wait : fm[4]? = some (.int wt)) (x : Int32) (y : Int32) (pl : Nat) (hns1 : ns < 1000) (hpl : pl < 4) (hcs : g_toSell pl = nI cn) (hcn : cn < 40) (hLn : gN L) : gMv l yX6_sell cX6_sell 6 0 (dC, dI) K L f [.ref (rt 51), .int x, .int y, .int (nI pl)] (fun f' => ∃ (fm' : List Value) (h0 : Nat → Int32) (h1 : Nat → Int32) (h2 : Nat → Int32) (h3 : Nat → Int32) (h4 : Nat → Int32) (h5 : Nat → Int32) (h6 : Nat → Int32) (h7 : Nat → Int32) (h8 : Nat → Int32), gSm rt [26, 27, 28, 29, 30, 31, 32, 33, 34, 51] f f' ∧ fmS [25] fm fm' ∧ mC rt L f' fm' ∧ f' (rt 26) = .inl (K 0, 1000, .inl h0) ∧ f' (rt 27) = .inl (K 0, 1000, .inl h1) ∧ f' (rt 28) = .inl (K 0, 1000, .inl h2) ∧ f' (rt 29) = .inl (K 0, 1000, .inl h3) ∧ f' (rt 30) = .inl (K 0, 1000, .inl h4) ∧ f' (rt 31) = .inl (K 0, 1000, .inl h5) ∧ f' (rt 32) = .inl (K 0, 1000, .inl h6) ∧ f' (rt 33) = .inl (K 0, 1000, .inl h7) ∧ f' (rt 34) = .inl (K 0, 1000, .inl h8) ∧ fm'[25]? = some (.int (nI (ns + 1))) ∧ h4 = upd g_saleOf ns (nI cn)) := by
  refine Met.ofW (cc := cX6_sell) (maxL := 6) (ret := none) (by decide) rfl ?_
  intro p e s m args below meth c s₁ B hml hv
  obtain ⟨rfl, hP, hK⟩ := hv
  have F_m := hC.2.1
  have hD : va_D (fun q : Nat => q ∈ L) (va_pl L f) := g_D hLn (fun a h => h) f
  generalize hAe : (fun q : Nat => q ∈ L) = A at hD ⊢
  have hx := B.exec
  have hb := B.bytes
  have hr := B.returns
  have hlocks := B.notSynchronized
  have hts0 := atoms_spec (ws := Cond.code yX6_sell cX6_sell 6 none :: lw_B) B.pre
  have hts : ∀ w ∈ lw_B, w.before _ s = true := fun w h => hts0 w (List.mem_cons_of_mem _ h)
  have hown : s.vm.findClass RX6 = some m.cls := findClass_of_methodNamed B.named
  have hS : va_S A s.heap s.heap [] := va_S.rf
  have hl := lv_entry ([.ref (rt 51), .int x, .int y, .int (nI pl)]) (n := 6) (Nat.le_of_ble_eq_true rfl)
  rw [lg_entry_eq]
  generalize (lg_sl ([.ref (rt 51), .int x, .int y, .int (nI pl)]) ++ List.replicate (6 - (lg_sl ([.ref (rt 51), .int x, .int y, .int (nI pl)])).length) Slot.unset).toArray = ls at hl ⊢
  have hl : lv_has ls 6 [(0, .ref (rt 51)), (1, .int x), (2, .int y), (3, .int (nI pl))] := hl
  have hSm : gSm rt [26, 27, 28, 29, 30, 31, 32, 33, 34, 51] f f := gSm.rf
  have hFs : fmS [25] fm fm := fmS.rf
  refine lv_aload_n hx hb dX6_sell_0 rfl (lv_at hl 0 rfl) ?_
  refine g_get (ci := 6) (v := .int (nI ns)) (C := RX6) (T := TX6) (N := 51) hx hb hts uB6 hown hK hP (hC.1.1 51 (by decide)) F_m rfl 25 (by decide) wm_4 I_sales dX6_sell_1 ?_
  refine lv_istore (lv' := [(4, .int (nI ns)), (0, .ref (rt 51)), (1, .int x), (2, .int y), (3, .int (nI pl))]) hx hb dX6_sell_4 hl (by decide) rfl (fun ls hl => ?_)
  refine lv_aload_n hx hb dX6_sell_6 rfl (lv_at hl 1 rfl) ?_
  refine g_get (ci := 6) (v := .ref (rt 49)) (C := RX6) (T := TX6) (N := 51) hx hb hts uB6 hown hK hP (hC.1.1 51 (by decide)) F_m rfl 49 (by decide) wm_124 (hC.2.2.2 49 (by decide)) dX6_sell_7 ?_
  refine lv_iload_n hx hb dX6_sell_10 rfl (lv_at hl 4 rfl) ?_
  refine g_iald hx hb hK hP (hC.1.1 49 (by decide)) ((hSm.at hC.1 (by decide) (by decide)).trans F_toSell) (vp_in_nI (by omega) (by decide)) dX6_sell_11 ?_
  refine lv_topi (fun x_1 ex_1 => ?_)
  rw [nI_clamp (by omega)] at ex_1
  obtain rfl : x_1 = nI (cn) := ex_1.trans hcs
  refine lv_istore (lv' := [(5, .int (nI cn)), (4, .int (nI ns)), (0, .ref (rt 51)), (1, .int x), (2, .int y), (3, .int (nI pl))]) hx hb dX6_sell_12 hl (by decide) rfl (fun ls hl => ?_)
  refine lv_aload_n hx hb dX6_sell_14 rfl (lv_at hl 2 rfl) ?_
  refine g_get (ci := 6) (v := .ref (rt 26)) (C := RX6) (T := TX6) (N := 51) hx hb hts uB6 hown hK hP (hC.1.1 51 (by decide)) F_m rfl 26 (by decide) wm_10 (hC.2.2.2 26 (by decide)) dX6_sell_15 ?_
  refine lv_iload hx hb dX6_sell_18 (lv_at hl 1 rfl) ?_
  refine lv_aload_n hx hb dX6_sell_20 rfl (lv_at hl 2 rfl) ?_
  refine g_get (ci := 6) (v := .int tk) (C := RX6) (T := TX6) (N := 51) hx hb hts uB6 hown hK hP (hC.1.1 51 (by decide)) F_m rfl 1 (by decide) wm_13 I_tick dX6_sell_21 ?_
  refine g_iast hx hb hK hP hD hS (hC.1.1 26 (by decide)) F_saleTick (vp_in_nI (by omega) (by decide)) dX6_sell_24 (fun H locs hP hD hS => ?_)
  obtain ⟨g_2, eg_2⟩ : ∃ z9, z9 = upd g_saleTick (Int32.toNatClampNeg (nI ns)) tk := ⟨_, rfl⟩
  rw [← eg_2] at hP hD
  obtain ⟨f_3, ef_3⟩ : ∃ z9, z9 = va_up f (rt 26) (.inl (K 0, 1000, .inl g_2)) := ⟨_, rfl⟩
  rw [← ef_3] at hP hD
  have F_m : f_3 (rt 51) = .inr (6, fm) := by rw [ef_3, va_up_ne _ _ (fun q => absurd (hC.1.2 51 (by decide) 26 (by decide) q) (by decide))]; exact F_m
  have F_saleReader : f_3 (rt 27) = .inl (K 0, 1000, .inl g_saleReader) := by rw [ef_3, va_up_ne _ _ (fun q => absurd (hC.1.2 27 (by decide) 26 (by decide) q) (by decide))]; exact F_saleReader
  have F_salePage : f_3 (rt 28) = .inl (K 0, 1000, .inl g_salePage) := by rw [ef_3, va_up_ne _ _ (fun q => absurd (hC.1.2 28 (by decide) 26 (by decide) q) (by decide))]; exact F_salePage
  have F_salePlace : f_3 (rt 29) = .inl (K 0, 1000, .inl g_salePlace) := by rw [ef_3, va_up_ne _ _ (fun q => absurd (hC.1.2 29 (by decide) 26 (by decide) q) (by decide))]; exact F_salePlace
  have F_saleOf : f_3 (rt 30) = .inl (K 0, 1000, .inl g_saleOf) := by rw [ef_3, va_up_ne _ _ (fun q => absurd (hC.1.2 30 (by decide) 26 (by decide) q) (by decide))]; exact F_saleOf
  have F_price : f_3 (rt 31) = .inl (K 0, 1000, .inl g_price) := by rw [ef_3, va_up_ne _ _ (fun q => absurd (hC.1.2 31 (by decide) 26 (by decide) q) (by decide))]; exact F_price
  have F_state : f_3 (rt 32) = .inl (K 0, 1000, .inl g_state) := by rw [ef_3, va_up_ne _ _ (fun q => absurd (hC.1.2 32 (by decide) 26 (by decide) q) (by decide))]; exact F_state
  have F_saleWait : f_3 (rt 33) = .inl (K 0, 1000, .inl g_saleWait) := by rw [ef_3, va_up_ne _ _ (fun q => absurd (hC.1.2 33 (by decide) 26 (by decide) q) (by decide))]; exact F_saleWait
  have F_pressTick : f_3 (rt 34) = .inl (K 0, 1000, .inl g_pressTick) := by rw [ef_3, va_up_ne _ _ (fun q => absurd (hC.1.2 34 (by decide) 26 (by decide) q) (by decide))]; exact F_pressTick
  have F_saleTick : f_3 (rt 26) = .inl (K 0, 1000, .inl g_2) := by rw [ef_3, va_up_self]
  have hC : mC rt L f_3 fm := ⟨hC.1, F_m, hC.2.2.1, hC.2.2.2⟩
  have hSm : gSm rt [26, 27, 28, 29, 30, 31, 32, 33, 34, 51] f f_3 := by rw [ef_3]; exact hSm.up (by decide) _
  rw [nI_clamp (by omega)] at eg_2
  refine lv_aload_n hx hb dX6_sell_25 rfl (lv_at hl 2 rfl) ?_
  refine g_get (ci := 6) (v := .ref (rt 27)) (C := RX6) (T := TX6) (N := 51) hx hb hts uB6 hown hK hP (hC.1.1 51 (by decide)) F_m rfl 27 (by decide) wm_50 (hC.2.2.2 27 (by decide)) dX6_sell_26 ?_
  refine lv_iload hx hb dX6_sell_29 (lv_at hl 1 rfl) ?_
  refine lv_iload_n hx hb dX6_sell_31 rfl (lv_at hl 3 rfl) ?_
  refine g_iast hx hb hK hP hD hS (hC.1.1 27 (by decide)) F_saleReader (vp_in_nI (by omega) (by decide)) dX6_sell_32 (fun H locs hP hD hS => ?_)
  obtain ⟨g_4, eg_4⟩ : ∃ z9, z9 = upd g_saleReader (Int32.toNatClampNeg (nI ns)) x := ⟨_, rfl⟩
  rw [← eg_4] at hP hD
  obtain ⟨f_5, ef_5⟩ : ∃ z9, z9 = va_up f_3 (rt 27) (.inl (K 0, 1000, .inl g_4)) := ⟨_, rfl⟩
  rw [← ef_5] at hP hD
  have F_m : f_5 (rt 51) = .inr (6, fm) := by rw [ef_5, va_up_ne _ _ (fun q => absurd (hC.1.2 51 (by decide) 27 (by decide) q) (by decide))]; exact F_m
  have F_saleTick : f_5 (rt 26) = .inl (K 0, 1000, .inl g_2) := by rw [ef_5, va_up_ne _ _ (fun q => absurd (hC.1.2 26 (by decide) 27 (by decide) q) (by decide))]; exact F_saleTick
  have F_salePage : f_5 (rt 28) = .inl (K 0, 1000, .inl g_salePage) := by rw [ef_5, va_up_ne _ _ (fun q => absurd (hC.1.2 28 (by decide) 27 (by decide) q) (by decide))]; exact F_salePage
  have F_salePlace : f_5 (rt 29) = .inl (K 0, 1000, .inl g_salePlace) := by rw [ef_5, va_up_ne _ _ (fun q => absurd (hC.1.2 29 (by decide) 27 (by decide) q) (by decide))]; exact F_salePlace
  have F_saleOf : f_5 (rt 30) = .inl (K 0, 1000, .inl g_saleOf) := by rw [ef_5, va_up_ne _ _ (fun q => absurd (hC.1.2 30 (by decide) 27 (by decide) q) (by decide))]; exact F_saleOf
  have F_price : f_5 (rt 31) = .inl (K 0, 1000, .inl g_price) := by rw [ef_5, va_up_ne _ _ (fun q => absurd (hC.1.2 31 (by decide) 27 (by decide) q) (by decide))]; exact F_price
  have F_state : f_5 (rt 32) = .inl (K 0, 1000, .inl g_state) := by rw [ef_5, va_up_ne _ _ (fun q => absurd (hC.1.2 32 (by decide) 27 (by decide) q) (by decide))]; exact F_state
  have F_saleWait : f_5 (rt 33) = .inl (K 0, 1000, .inl g_saleWait) := by rw [ef_5, va_up_ne _ _ (fun q => absurd (hC.1.2 33 (by decide) 27 (by decide) q) (by decide))]; exact F_saleWait
  have F_pressTick : f_5 (rt 34) = .inl (K 0, 1000, .inl g_pressTick) := by rw [ef_5, va_up_ne _ _ (fun q => absurd (hC.1.2 34 (by decide) 27 (by decide) q) (by decide))]; exact F_pressTick
  have F_saleReader : f_5 (rt 27) = .inl (K 0, 1000, .inl g_4) := by rw [ef_5, va_up_self]
  have hC : mC rt L f_5 fm := ⟨hC.1, F_m, hC.2.2.1, hC.2.2.2⟩
  have hSm : gSm rt [26, 27, 28, 29, 30, 31, 32, 33, 34, 51] f f_5 := by rw [ef_5]; exact hSm.up (by decide) _
  rw [nI_clamp (by omega)] at eg_4
  refine lv_aload_n hx hb dX6_sell_33 rfl (lv_at hl 2 rfl) ?_
  refine g_get (ci := 6) (v := .ref (rt 28)) (C := RX6) (T := TX6) (N := 51) hx hb hts uB6 hown hK hP (hC.1.1 51 (by decide)) F_m rfl 28 (by decide) wm_48 (hC.2.2.2 28 (by decide)) dX6_sell_34 ?_
  refine lv_iload hx hb dX6_sell_37 (lv_at hl 1 rfl) ?_
  refine lv_iload_n hx hb dX6_sell_39 rfl (lv_at hl 4 rfl) ?_
  refine g_iast hx hb hK hP hD hS (hC.1.1 28 (by decide)) F_salePage (vp_in_nI (by omega) (by decide)) dX6_sell_40 (fun H locs hP hD hS => ?_)
  obtain ⟨g_6, eg_6⟩ : ∃ z9, z9 = upd g_salePage (Int32.toNatClampNeg (nI ns)) y := ⟨_, rfl⟩
  rw [← eg_6] at hP hD
  obtain ⟨f_7, ef_7⟩ : ∃ z9, z9 = va_up f_5 (rt 28) (.inl (K 0, 1000, .inl g_6)) := ⟨_, rfl⟩
  rw [← ef_7] at hP hD
  have F_m : f_7 (rt 51) = .inr (6, fm) := by rw [ef_7, va_up_ne _ _ (fun q => absurd (hC.1.2 51 (by decide) 28 (by decide) q) (by decide))]; exact F_m
  have F_saleTick : f_7 (rt 26) = .inl (K 0, 1000, .inl g_2) := by rw [ef_7, va_up_ne _ _ (fun q => absurd (hC.1.2 26 (by decide) 28 (by decide) q) (by decide))]; exact F_saleTick
  have F_saleReader : f_7 (rt 27) = .inl (K 0, 1000, .inl g_4) := by rw [ef_7, va_up_ne _ _ (fun q => absurd (hC.1.2 27 (by decide) 28 (by decide) q) (by decide))]; exact F_saleReader
  have F_salePlace : f_7 (rt 29) = .inl (K 0, 1000, .inl g_salePlace) := by rw [ef_7, va_up_ne _ _ (fun q => absurd (hC.1.2 29 (by decide) 28 (by decide) q) (by decide))]; exact F_salePlace
  have F_saleOf : f_7 (rt 30) = .inl (K 0, 1000, .inl g_saleOf) := by rw [ef_7, va_up_ne _ _ (fun q => absurd (hC.1.2 30 (by decide) 28 (by decide) q) (by decide))]; exact F_saleOf
  have F_price : f_7 (rt 31) = .inl (K 0, 1000, .inl g_price) := by rw [ef_7, va_up_ne _ _ (fun q => absurd (hC.1.2 31 (by decide) 28 (by decide) q) (by decide))]; exact F_price
  have F_state : f_7 (rt 32) = .inl (K 0, 1000, .inl g_state) := by rw [ef_7, va_up_ne _ _ (fun q => absurd (hC.1.2 32 (by decide) 28 (by decide) q) (by decide))]; exact F_state
  have F_saleWait : f_7 (rt 33) = .inl (K 0, 1000, .inl g_saleWait) := by rw [ef_7, va_up_ne _ _ (fun q => absurd (hC.1.2 33 (by decide) 28 (by decide) q) (by decide))]; exact F_saleWait
  have F_pressTick : f_7 (rt 34) = .inl (K 0, 1000, .inl g_pressTick) := by rw [ef_7, va_up_ne _ _ (fun q => absurd (hC.1.2 34 (by decide) 28 (by decide) q) (by decide))]; exact F_pressTick
  have F_salePage : f_7 (rt 28) = .inl (K 0, 1000, .inl g_6) := by rw [ef_7, va_up_self]
  have hC : mC rt L f_7 fm := ⟨hC.1, F_m, hC.2.2.1, hC.2.2.2⟩
  have hSm : gSm rt [26, 27, 28, 29, 30, 31, 32, 33, 34, 51] f f_7 := by rw [ef_7]; exact hSm.up (by decide) _
  rw [nI_clamp (by omega)] at eg_6
  refine lv_aload_n hx hb dX6_sell_41 rfl (lv_at hl 2 rfl) ?_
  refine g_get (ci := 6) (v := .ref (rt 29)) (C := RX6) (T := TX6) (N := 51) hx hb hts uB6 hown hK hP (hC.1.1 51 (by decide)) F_m rfl 29 (by decide) wm_116 (hC.2.2.2 29 (by decide)) dX6_sell_42 ?_
  refine lv_iload hx hb dX6_sell_45 (lv_at hl 1 rfl) ?_
  refine lv_iload_n hx hb dX6_sell_47 rfl (lv_at hl 5 rfl) ?_
  refine g_iast hx hb hK hP hD hS (hC.1.1 29 (by decide)) F_salePlace (vp_in_nI (by omega) (by decide)) dX6_sell_48 (fun H locs hP hD hS => ?_)
  obtain ⟨g_8, eg_8⟩ : ∃ z9, z9 = upd g_salePlace (Int32.toNatClampNeg (nI ns)) (nI pl) := ⟨_, rfl⟩
  rw [← eg_8] at hP hD
  obtain ⟨f_9, ef_9⟩ : ∃ z9, z9 = va_up f_7 (rt 29) (.inl (K 0, 1000, .inl g_8)) := ⟨_, rfl⟩
  rw [← ef_9] at hP hD
  have F_m : f_9 (rt 51) = .inr (6, fm) := by rw [ef_9, va_up_ne _ _ (fun q => absurd (hC.1.2 51 (by decide) 29 (by decide) q) (by decide))]; exact F_m
  have F_saleTick : f_9 (rt 26) = .inl (K 0, 1000, .inl g_2) := by rw [ef_9, va_up_ne _ _ (fun q => absurd (hC.1.2 26 (by decide) 29 (by decide) q) (by decide))]; exact F_saleTick
  have F_saleReader : f_9 (rt 27) = .inl (K 0, 1000, .inl g_4) := by rw [ef_9, va_up_ne _ _ (fun q => absurd (hC.1.2 27 (by decide) 29 (by decide) q) (by decide))]; exact F_saleReader
  have F_salePage : f_9 (rt 28) = .inl (K 0, 1000, .inl g_6) := by rw [ef_9, va_up_ne _ _ (fun q => absurd (hC.1.2 28 (by decide) 29 (by decide) q) (by decide))]; exact F_salePage
  have F_saleOf : f_9 (rt 30) = .inl (K 0, 1000, .inl g_saleOf) := by rw [ef_9, va_up_ne _ _ (fun q => absurd (hC.1.2 30 (by decide) 29 (by decide) q) (by decide))]; exact F_saleOf
  have F_price : f_9 (rt 31) = .inl (K 0, 1000, .inl g_price) := by rw [ef_9, va_up_ne _ _ (fun q => absurd (hC.1.2 31 (by decide) 29 (by decide) q) (by decide))]; exact F_price
  have F_state : f_9 (rt 32) = .inl (K 0, 1000, .inl g_state) := by rw [ef_9, va_up_ne _ _ (fun q => absurd (hC.1.2 32 (by decide) 29 (by decide) q) (by decide))]; exact F_state
  have F_saleWait : f_9 (rt 33) = .inl (K 0, 1000, .inl g_saleWait) := by rw [ef_9, va_up_ne _ _ (fun q => absurd (hC.1.2 33 (by decide) 29 (by decide) q) (by decide))]; exact F_saleWait
  have F_pressTick : f_9 (rt 34) = .inl (K 0, 1000, .inl g_pressTick) := by rw [ef_9, va_up_ne _ _ (fun q => absurd (hC.1.2 34 (by decide) 29 (by decide) q) (by decide))]; exact F_pressTick
  have F_salePlace : f_9 (rt 29) = .inl (K 0, 1000, .inl g_8) := by rw [ef_9, va_up_self]
  have hC : mC rt L f_9 fm := ⟨hC.1, F_m, hC.2.2.1, hC.2.2.2⟩
  have hSm : gSm rt [26, 27, 28, 29, 30, 31, 32, 33, 34, 51] f f_9 := by rw [ef_9]; exact hSm.up (by decide) _
  rw [nI_clamp (by omega)] at eg_8
  refine lv_aload_n hx hb dX6_sell_49 rfl (lv_at hl 2 rfl) ?_
  refine g_get (ci := 6) (v := .ref (rt 30)) (C := RX6) (T := TX6) (N := 51) hx hb hts uB6 hown hK hP (hC.1.1 51 (by decide)) F_m rfl 30 (by decide) wm_2 (hC.2.2.2 30 (by decide)) dX6_sell_50 ?_
  refine lv_iload hx hb dX6_sell_53 (lv_at hl 1 rfl) ?_
  refine lv_iload hx hb dX6_sell_55 (lv_at hl 0 rfl) ?_
  refine g_iast hx hb hK hP hD hS (hC.1.1 30 (by decide)) F_saleOf (vp_in_nI (by omega) (by decide)) dX6_sell_57 (fun H locs hP hD hS => ?_)
  obtain ⟨g_10, eg_10⟩ : ∃ z9, z9 = upd g_saleOf (Int32.toNatClampNeg (nI ns)) (nI cn) := ⟨_, rfl⟩
  rw [← eg_10] at hP hD
  obtain ⟨f_11, ef_11⟩ : ∃ z9, z9 = va_up f_9 (rt 30) (.inl (K 0, 1000, .inl g_10)) := ⟨_, rfl⟩
  rw [← ef_11] at hP hD
  have F_m : f_11 (rt 51) = .inr (6, fm) := by rw [ef_11, va_up_ne _ _ (fun q => absurd (hC.1.2 51 (by decide) 30 (by decide) q) (by decide))]; exact F_m
  have F_saleTick : f_11 (rt 26) = .inl (K 0, 1000, .inl g_2) := by rw [ef_11, va_up_ne _ _ (fun q => absurd (hC.1.2 26 (by decide) 30 (by decide) q) (by decide))]; exact F_saleTick
  have F_saleReader : f_11 (rt 27) = .inl (K 0, 1000, .inl g_4) := by rw [ef_11, va_up_ne _ _ (fun q => absurd (hC.1.2 27 (by decide) 30 (by decide) q) (by decide))]; exact F_saleReader
  have F_salePage : f_11 (rt 28) = .inl (K 0, 1000, .inl g_6) := by rw [ef_11, va_up_ne _ _ (fun q => absurd (hC.1.2 28 (by decide) 30 (by decide) q) (by decide))]; exact F_salePage
  have F_salePlace : f_11 (rt 29) = .inl (K 0, 1000, .inl g_8) := by rw [ef_11, va_up_ne _ _ (fun q => absurd (hC.1.2 29 (by decide) 30 (by decide) q) (by decide))]; exact F_salePlace
  have F_price : f_11 (rt 31) = .inl (K 0, 1000, .inl g_price) := by rw [ef_11, va_up_ne _ _ (fun q => absurd (hC.1.2 31 (by decide) 30 (by decide) q) (by decide))]; exact F_price
  have F_state : f_11 (rt 32) = .inl (K 0, 1000, .inl g_state) := by rw [ef_11, va_up_ne _ _ (fun q => absurd (hC.1.2 32 (by decide) 30 (by decide) q) (by decide))]; exact F_state
  have F_saleWait : f_11 (rt 33) = .inl (K 0, 1000, .inl g_saleWait) := by rw [ef_11, va_up_ne _ _ (fun q => absurd (hC.1.2 33 (by decide) 30 (by decide) q) (by decide))]; exact F_saleWait
  have F_pressTick : f_11 (rt 34) = .inl (K 0, 1000, .inl g_pressTick) := by rw [ef_11, va_up_ne _ _ (fun q => absurd (hC.1.2 34 (by decide) 30 (by decide) q) (by decide))]; exact F_pressTick
  have F_saleOf : f_11 (rt 30) = .inl (K 0, 1000, .inl g_10) := by rw [ef_11, va_up_self]
  have hC : mC rt L f_11 fm := ⟨hC.1, F_m, hC.2.2.1, hC.2.2.2⟩
  have hSm : gSm rt [26, 27, 28, 29, 30, 31, 32, 33, 34, 51] f f_11 := by rw [ef_11]; exact hSm.up (by decide) _
  rw [nI_clamp (by omega)] at eg_10
  refine lv_aload_n hx hb dX6_sell_58 rfl (lv_at hl 2 rfl) ?_
  refine g_get (ci := 6) (v := .ref (rt 31)) (C := RX6) (T := TX6) (N := 51) hx hb hts uB6 hown hK hP (hC.1.1 51 (by decide)) F_m rfl 31 (by decide) wm_3 (hC.2.2.2 31 (by decide)) dX6_sell_59 ?_
  refine lv_iload hx hb dX6_sell_62 (lv_at hl 1 rfl) ?_
  refine lv_aload_n hx hb dX6_sell_64 rfl (lv_at hl 2 rfl) ?_
  refine g_get (ci := 6) (v := .ref (rt 50)) (C := RX6) (T := TX6) (N := 51) hx hb hts uB6 hown hK hP (hC.1.1 51 (by decide)) F_m rfl 50 (by decide) wm_125 (hC.2.2.2 50 (by decide)) dX6_sell_65 ?_
  refine lv_iload_n hx hb dX6_sell_68 rfl (lv_at hl 5 rfl) ?_
  refine g_iald hx hb hK hP (hC.1.1 50 (by decide)) ((hSm.at hC.1 (by decide) (by decide)).trans F_toPay) (vp_in_nI (by omega) (by decide)) dX6_sell_69 ?_
  refine lv_topi (fun x_12 ex_12 => ?_)
  rw [nI_clamp (by omega)] at ex_12
  refine g_iast hx hb hK hP hD hS (hC.1.1 31 (by decide)) F_price (vp_in_nI (by omega) (by decide)) dX6_sell_70 (fun H locs hP hD hS => ?_)
  obtain ⟨g_13, eg_13⟩ : ∃ z9, z9 = upd g_price (Int32.toNatClampNeg (nI ns)) x_12 := ⟨_, rfl⟩
  rw [← eg_13] at hP hD
  obtain ⟨f_14, ef_14⟩ : ∃ z9, z9 = va_up f_11 (rt 31) (.inl (K 0, 1000, .inl g_13)) := ⟨_, rfl⟩
  rw [← ef_14] at hP hD
  have F_m : f_14 (rt 51) = .inr (6, fm) := by rw [ef_14, va_up_ne _ _ (fun q => absurd (hC.1.2 51 (by decide) 31 (by decide) q) (by decide))]; exact F_m
  have F_saleTick : f_14 (rt 26) = .inl (K 0, 1000, .inl g_2) := by rw [ef_14, va_up_ne _ _ (fun q => absurd (hC.1.2 26 (by decide) 31 (by decide) q) (by decide))]; exact F_saleTick
  have F_saleReader : f_14 (rt 27) = .inl (K 0, 1000, .inl g_4) := by rw [ef_14, va_up_ne _ _ (fun q => absurd (hC.1.2 27 (by decide) 31 (by decide) q) (by decide))]; exact F_saleReader
  have F_salePage : f_14 (rt 28) = .inl (K 0, 1000, .inl g_6) := by rw [ef_14, va_up_ne _ _ (fun q => absurd (hC.1.2 28 (by decide) 31 (by decide) q) (by decide))]; exact F_salePage
  have F_salePlace : f_14 (rt 29) = .inl (K 0, 1000, .inl g_8) := by rw [ef_14, va_up_ne _ _ (fun q => absurd (hC.1.2 29 (by decide) 31 (by decide) q) (by decide))]; exact F_salePlace
  have F_saleOf : f_14 (rt 30) = .inl (K 0, 1000, .inl g_10) := by rw [ef_14, va_up_ne _ _ (fun q => absurd (hC.1.2 30 (by decide) 31 (by decide) q) (by decide))]; exact F_saleOf
  have F_state : f_14 (rt 32) = .inl (K 0, 1000, .inl g_state) := by rw [ef_14, va_up_ne _ _ (fun q => absurd (hC.1.2 32 (by decide) 31 (by decide) q) (by decide))]; exact F_state
  have F_saleWait : f_14 (rt 33) = .inl (K 0, 1000, .inl g_saleWait) := by rw [ef_14, va_up_ne _ _ (fun q => absurd (hC.1.2 33 (by decide) 31 (by decide) q) (by decide))]; exact F_saleWait
  have F_pressTick : f_14 (rt 34) = .inl (K 0, 1000, .inl g_pressTick) := by rw [ef_14, va_up_ne _ _ (fun q => absurd (hC.1.2 34 (by decide) 31 (by decide) q) (by decide))]; exact F_pressTick
  have F_price : f_14 (rt 31) = .inl (K 0, 1000, .inl g_13) := by rw [ef_14, va_up_self]
  have hC : mC rt L f_14 fm := ⟨hC.1, F_m, hC.2.2.1, hC.2.2.2⟩
  have hSm : gSm rt [26, 27, 28, 29, 30, 31, 32, 33, 34, 51] f f_14 := by rw [ef_14]; exact hSm.up (by decide) _
  rw [nI_clamp (by omega)] at eg_13
  refine lv_aload_n hx hb dX6_sell_71 rfl (lv_at hl 2 rfl) ?_
  refine g_get (ci := 6) (v := .ref (rt 32)) (C := RX6) (T := TX6) (N := 51) hx hb hts uB6 hown hK hP (hC.1.1 51 (by decide)) F_m rfl 32 (by decide) wm_0 (hC.2.2.2 32 (by decide)) dX6_sell_72 ?_
  refine lv_iload hx hb dX6_sell_75 (lv_at hl 1 rfl) ?_
  refine lv_aload_n hx hb dX6_sell_77 rfl (lv_at hl 2 rfl) ?_
  refine g_get (ci := 6) (v := .ref (rt 11)) (C := RX6) (T := TX6) (N := 51) hx hb hts uB6 hown hK hP (hC.1.1 51 (by decide)) F_m rfl 11 (by decide) wm_1 (hC.2.2.2 11 (by decide)) dX6_sell_78 ?_
  refine lv_iload hx hb dX6_sell_81 (lv_at hl 0 rfl) ?_
  refine g_iald hx hb hK hP (hC.1.1 11 (by decide)) ((hSm.at hC.1 (by decide) (by decide)).trans F_pays) (vp_in_nI (by omega) (by decide)) dX6_sell_83 ?_
  refine lv_topi (fun x_15 ex_15 => ?_)
  rw [nI_clamp (by omega)] at ex_15
  refine lv_iconst (v := 1) hx hb dX6_sell_84 (by decide) ?_
  refine lv_icmp_ne (tgt := 92) hx hb dX6_sell_85 (by decide) (fun c_16 => ?_) (fun c_16 => ?_)
  · skip
    refine lv_iconst (v := 0) hx hb dX6_sell_92 (by decide) ?_
    refine g_iast hx hb hK hP hD hS (hC.1.1 32 (by decide)) F_state (vp_in_nI (by omega) (by decide)) dX6_sell_93 (fun H locs hP hD hS => ?_)
    obtain ⟨g_17, eg_17⟩ : ∃ z9, z9 = upd g_state (Int32.toNatClampNeg (nI ns)) 0 := ⟨_, rfl⟩
    rw [← eg_17] at hP hD
    obtain ⟨f_18, ef_18⟩ : ∃ z9, z9 = va_up f_14 (rt 32) (.inl (K 0, 1000, .inl g_17)) := ⟨_, rfl⟩
    rw [← ef_18] at hP hD
    have F_m : f_18 (rt 51) = .inr (6, fm) := by rw [ef_18, va_up_ne _ _ (fun q => absurd (hC.1.2 51 (by decide) 32 (by decide) q) (by decide))]; exact F_m
    have F_saleTick : f_18 (rt 26) = .inl (K 0, 1000, .inl g_2) := by rw [ef_18, va_up_ne _ _ (fun q => absurd (hC.1.2 26 (by decide) 32 (by decide) q) (by decide))]; exact F_saleTick
    have F_saleReader : f_18 (rt 27) = .inl (K 0, 1000, .inl g_4) := by rw [ef_18, va_up_ne _ _ (fun q => absurd (hC.1.2 27 (by decide) 32 (by decide) q) (by decide))]; exact F_saleReader
    have F_salePage : f_18 (rt 28) = .inl (K 0, 1000, .inl g_6) := by rw [ef_18, va_up_ne _ _ (fun q => absurd (hC.1.2 28 (by decide) 32 (by decide) q) (by decide))]; exact F_salePage
    have F_salePlace : f_18 (rt 29) = .inl (K 0, 1000, .inl g_8) := by rw [ef_18, va_up_ne _ _ (fun q => absurd (hC.1.2 29 (by decide) 32 (by decide) q) (by decide))]; exact F_salePlace
    have F_saleOf : f_18 (rt 30) = .inl (K 0, 1000, .inl g_10) := by rw [ef_18, va_up_ne _ _ (fun q => absurd (hC.1.2 30 (by decide) 32 (by decide) q) (by decide))]; exact F_saleOf
    have F_price : f_18 (rt 31) = .inl (K 0, 1000, .inl g_13) := by rw [ef_18, va_up_ne _ _ (fun q => absurd (hC.1.2 31 (by decide) 32 (by decide) q) (by decide))]; exact F_price
    have F_saleWait : f_18 (rt 33) = .inl (K 0, 1000, .inl g_saleWait) := by rw [ef_18, va_up_ne _ _ (fun q => absurd (hC.1.2 33 (by decide) 32 (by decide) q) (by decide))]; exact F_saleWait
    have F_pressTick : f_18 (rt 34) = .inl (K 0, 1000, .inl g_pressTick) := by rw [ef_18, va_up_ne _ _ (fun q => absurd (hC.1.2 34 (by decide) 32 (by decide) q) (by decide))]; exact F_pressTick
    have F_state : f_18 (rt 32) = .inl (K 0, 1000, .inl g_17) := by rw [ef_18, va_up_self]
    have hC : mC rt L f_18 fm := ⟨hC.1, F_m, hC.2.2.1, hC.2.2.2⟩
    have hSm : gSm rt [26, 27, 28, 29, 30, 31, 32, 33, 34, 51] f f_18 := by rw [ef_18]; exact hSm.up (by decide) _
    rw [nI_clamp (by omega)] at eg_17
    refine lv_aload_n hx hb dX6_sell_94 rfl (lv_at hl 2 rfl) ?_
    refine g_get (ci := 6) (v := .ref (rt 33)) (C := RX6) (T := TX6) (N := 51) hx hb hts uB6 hown hK hP (hC.1.1 51 (by decide)) F_m rfl 33 (by decide) wm_122 (hC.2.2.2 33 (by decide)) dX6_sell_95 ?_
    refine lv_iload hx hb dX6_sell_98 (lv_at hl 1 rfl) ?_
    refine lv_aload_n hx hb dX6_sell_100 rfl (lv_at hl 2 rfl) ?_
    refine g_get (ci := 6) (v := .int wt) (C := RX6) (T := TX6) (N := 51) hx hb hts uB6 hown hK hP (hC.1.1 51 (by decide)) F_m rfl 4 (by decide) wm_114 I_wait dX6_sell_101 ?_
    refine g_iast hx hb hK hP hD hS (hC.1.1 33 (by decide)) F_saleWait (vp_in_nI (by omega) (by decide)) dX6_sell_104 (fun H locs hP hD hS => ?_)
    obtain ⟨g_19, eg_19⟩ : ∃ z9, z9 = upd g_saleWait (Int32.toNatClampNeg (nI ns)) wt := ⟨_, rfl⟩
    rw [← eg_19] at hP hD
    obtain ⟨f_20, ef_20⟩ : ∃ z9, z9 = va_up f_18 (rt 33) (.inl (K 0, 1000, .inl g_19)) := ⟨_, rfl⟩
    rw [← ef_20] at hP hD
    have F_m : f_20 (rt 51) = .inr (6, fm) := by rw [ef_20, va_up_ne _ _ (fun q => absurd (hC.1.2 51 (by decide) 33 (by decide) q) (by decide))]; exact F_m
    have F_saleTick : f_20 (rt 26) = .inl (K 0, 1000, .inl g_2) := by rw [ef_20, va_up_ne _ _ (fun q => absurd (hC.1.2 26 (by decide) 33 (by decide) q) (by decide))]; exact F_saleTick
    have F_saleReader : f_20 (rt 27) = .inl (K 0, 1000, .inl g_4) := by rw [ef_20, va_up_ne _ _ (fun q => absurd (hC.1.2 27 (by decide) 33 (by decide) q) (by decide))]; exact F_saleReader
    have F_salePage : f_20 (rt 28) = .inl (K 0, 1000, .inl g_6) := by rw [ef_20, va_up_ne _ _ (fun q => absurd (hC.1.2 28 (by decide) 33 (by decide) q) (by decide))]; exact F_salePage
    have F_salePlace : f_20 (rt 29) = .inl (K 0, 1000, .inl g_8) := by rw [ef_20, va_up_ne _ _ (fun q => absurd (hC.1.2 29 (by decide) 33 (by decide) q) (by decide))]; exact F_salePlace
    have F_saleOf : f_20 (rt 30) = .inl (K 0, 1000, .inl g_10) := by rw [ef_20, va_up_ne _ _ (fun q => absurd (hC.1.2 30 (by decide) 33 (by decide) q) (by decide))]; exact F_saleOf
    have F_price : f_20 (rt 31) = .inl (K 0, 1000, .inl g_13) := by rw [ef_20, va_up_ne _ _ (fun q => absurd (hC.1.2 31 (by decide) 33 (by decide) q) (by decide))]; exact F_price
    have F_state : f_20 (rt 32) = .inl (K 0, 1000, .inl g_17) := by rw [ef_20, va_up_ne _ _ (fun q => absurd (hC.1.2 32 (by decide) 33 (by decide) q) (by decide))]; exact F_state
    have F_pressTick : f_20 (rt 34) = .inl (K 0, 1000, .inl g_pressTick) := by rw [ef_20, va_up_ne _ _ (fun q => absurd (hC.1.2 34 (by decide) 33 (by decide) q) (by decide))]; exact F_pressTick
    have F_saleWait : f_20 (rt 33) = .inl (K 0, 1000, .inl g_19) := by rw [ef_20, va_up_self]
    have hC : mC rt L f_20 fm := ⟨hC.1, F_m, hC.2.2.1, hC.2.2.2⟩
    have hSm : gSm rt [26, 27, 28, 29, 30, 31, 32, 33, 34, 51] f f_20 := by rw [ef_20]; exact hSm.up (by decide) _
    rw [nI_clamp (by omega)] at eg_19
    refine lv_aload_n hx hb dX6_sell_105 rfl (lv_at hl 2 rfl) ?_
    refine g_get (ci := 6) (v := .ref (rt 34)) (C := RX6) (T := TX6) (N := 51) hx hb hts uB6 hown hK hP (hC.1.1 51 (by decide)) F_m rfl 34 (by decide) wm_11 (hC.2.2.2 34 (by decide)) dX6_sell_106 ?_
    refine lv_iload hx hb dX6_sell_109 (lv_at hl 1 rfl) ?_
    refine lv_iconst (v := 0) hx hb dX6_sell_111 (by decide) ?_
    refine g_iast hx hb hK hP hD hS (hC.1.1 34 (by decide)) F_pressTick (vp_in_nI (by omega) (by decide)) dX6_sell_112 (fun H locs hP hD hS => ?_)
    obtain ⟨g_21, eg_21⟩ : ∃ z9, z9 = upd g_pressTick (Int32.toNatClampNeg (nI ns)) 0 := ⟨_, rfl⟩
    rw [← eg_21] at hP hD
    obtain ⟨f_22, ef_22⟩ : ∃ z9, z9 = va_up f_20 (rt 34) (.inl (K 0, 1000, .inl g_21)) := ⟨_, rfl⟩
    rw [← ef_22] at hP hD
    have F_m : f_22 (rt 51) = .inr (6, fm) := by rw [ef_22, va_up_ne _ _ (fun q => absurd (hC.1.2 51 (by decide) 34 (by decide) q) (by decide))]; exact F_m
    have F_saleTick : f_22 (rt 26) = .inl (K 0, 1000, .inl g_2) := by rw [ef_22, va_up_ne _ _ (fun q => absurd (hC.1.2 26 (by decide) 34 (by decide) q) (by decide))]; exact F_saleTick
    have F_saleReader : f_22 (rt 27) = .inl (K 0, 1000, .inl g_4) := by rw [ef_22, va_up_ne _ _ (fun q => absurd (hC.1.2 27 (by decide) 34 (by decide) q) (by decide))]; exact F_saleReader
    have F_salePage : f_22 (rt 28) = .inl (K 0, 1000, .inl g_6) := by rw [ef_22, va_up_ne _ _ (fun q => absurd (hC.1.2 28 (by decide) 34 (by decide) q) (by decide))]; exact F_salePage
    have F_salePlace : f_22 (rt 29) = .inl (K 0, 1000, .inl g_8) := by rw [ef_22, va_up_ne _ _ (fun q => absurd (hC.1.2 29 (by decide) 34 (by decide) q) (by decide))]; exact F_salePlace
    have F_saleOf : f_22 (rt 30) = .inl (K 0, 1000, .inl g_10) := by rw [ef_22, va_up_ne _ _ (fun q => absurd (hC.1.2 30 (by decide) 34 (by decide) q) (by decide))]; exact F_saleOf
    have F_price : f_22 (rt 31) = .inl (K 0, 1000, .inl g_13) := by rw [ef_22, va_up_ne _ _ (fun q => absurd (hC.1.2 31 (by decide) 34 (by decide) q) (by decide))]; exact F_price
    have F_state : f_22 (rt 32) = .inl (K 0, 1000, .inl g_17) := by rw [ef_22, va_up_ne _ _ (fun q => absurd (hC.1.2 32 (by decide) 34 (by decide) q) (by decide))]; exact F_state
    have F_saleWait : f_22 (rt 33) = .inl (K 0, 1000, .inl g_19) := by rw [ef_22, va_up_ne _ _ (fun q => absurd (hC.1.2 33 (by decide) 34 (by decide) q) (by decide))]; exact F_saleWait
    have F_pressTick : f_22 (rt 34) = .inl (K 0, 1000, .inl g_21) := by rw [ef_22, va_up_self]
    have hC : mC rt L f_22 fm := ⟨hC.1, F_m, hC.2.2.1, hC.2.2.2⟩
    have hSm : gSm rt [26, 27, 28, 29, 30, 31, 32, 33, 34, 51] f f_22 := by rw [ef_22]; exact hSm.up (by decide) _
    rw [nI_clamp (by omega)] at eg_21
    refine lv_aload_n hx hb dX6_sell_113 rfl (lv_at hl 2 rfl) ?_
    refine lv_dup hx hb dX6_sell_114 rfl ?_
    refine g_get (ci := 6) (v := .int (nI ns)) (C := RX6) (T := TX6) (N := 51) hx hb hts uB6 hown hK hP (hC.1.1 51 (by decide)) F_m rfl 25 (by decide) wm_4 I_sales dX6_sell_115 ?_
    refine lv_iconst (v := 1) hx hb dX6_sell_118 (by decide) ?_
    refine lv_iadd hx hb dX6_sell_119 ?_
    refine lv_topi (fun x_23 ex_23 => ?_)
    obtain rfl : x_23 = nI (ns + 1) := ex_23.trans (nI_add ns 1)
    refine g_put (ci := 6) (v := .int (nI (ns + 1))) (ty := .int) (C := RX6) (T := TX6) (N := 51) hx hb hts uB6 tyX6 tyX6_ok nmX6 hown hK hP hD hS (hC.1.1 51 (by decide)) F_m rfl 25 (by decide) wm_4 rfl (by decide +kernel) rfl rfl (by rw [hC.2.2.1]; decide) dX6_sell_120 (fun H locs hP hD hS => ?_)
    obtain ⟨fs_24, efs_24⟩ : ∃ z9, z9 = List.set fm 25 (.int (nI (ns + 1))) := ⟨_, rfl⟩
    rw [← efs_24] at hP hD
    have hlen_ : fs_24.length = 51 := by rw [efs_24, List.length_set]; exact hC.2.2.1
    have I_tick : fs_24[1]? = some (.int tk) := by rw [efs_24, List.getElem?_set_ne (by decide)]; exact I_tick
    have I_wait : fs_24[4]? = some (.int wt) := by rw [efs_24, List.getElem?_set_ne (by decide)]; exact I_wait
    have I_sales : fs_24[25]? = some (.int (nI (ns + 1))) := by rw [efs_24]; exact List.getElem?_set_self (by rw [hC.2.2.1]; decide)
    have hmr_ : ∀ k ∈ mArr, fs_24[k]? = some (.ref (rt k)) := fun k h => by rw [efs_24, List.getElem?_set_ne (fun q => by rw [← q] at h; exact absurd h (by decide))]; exact hC.2.2.2 k h
    obtain ⟨f_25, ef_25⟩ : ∃ z9, z9 = va_up f_22 (rt 51) (.inr (6, fs_24)) := ⟨_, rfl⟩
    rw [← ef_25] at hP hD
    have F_saleTick : f_25 (rt 26) = .inl (K 0, 1000, .inl g_2) := by rw [ef_25, va_up_ne _ _ (fun q => absurd (hC.1.2 26 (by decide) 51 (by decide) q) (by decide))]; exact F_saleTick
    have F_saleReader : f_25 (rt 27) = .inl (K 0, 1000, .inl g_4) := by rw [ef_25, va_up_ne _ _ (fun q => absurd (hC.1.2 27 (by decide) 51 (by decide) q) (by decide))]; exact F_saleReader
    have F_salePage : f_25 (rt 28) = .inl (K 0, 1000, .inl g_6) := by rw [ef_25, va_up_ne _ _ (fun q => absurd (hC.1.2 28 (by decide) 51 (by decide) q) (by decide))]; exact F_salePage
    have F_salePlace : f_25 (rt 29) = .inl (K 0, 1000, .inl g_8) := by rw [ef_25, va_up_ne _ _ (fun q => absurd (hC.1.2 29 (by decide) 51 (by decide) q) (by decide))]; exact F_salePlace
    have F_saleOf : f_25 (rt 30) = .inl (K 0, 1000, .inl g_10) := by rw [ef_25, va_up_ne _ _ (fun q => absurd (hC.1.2 30 (by decide) 51 (by decide) q) (by decide))]; exact F_saleOf
    have F_price : f_25 (rt 31) = .inl (K 0, 1000, .inl g_13) := by rw [ef_25, va_up_ne _ _ (fun q => absurd (hC.1.2 31 (by decide) 51 (by decide) q) (by decide))]; exact F_price
    have F_state : f_25 (rt 32) = .inl (K 0, 1000, .inl g_17) := by rw [ef_25, va_up_ne _ _ (fun q => absurd (hC.1.2 32 (by decide) 51 (by decide) q) (by decide))]; exact F_state
    have F_saleWait : f_25 (rt 33) = .inl (K 0, 1000, .inl g_19) := by rw [ef_25, va_up_ne _ _ (fun q => absurd (hC.1.2 33 (by decide) 51 (by decide) q) (by decide))]; exact F_saleWait
    have F_pressTick : f_25 (rt 34) = .inl (K 0, 1000, .inl g_21) := by rw [ef_25, va_up_ne _ _ (fun q => absurd (hC.1.2 34 (by decide) 51 (by decide) q) (by decide))]; exact F_pressTick
    have F_m : f_25 (rt 51) = .inr (6, fs_24) := by rw [ef_25, va_up_self]
    have hSm : gSm rt [26, 27, 28, 29, 30, 31, 32, 33, 34, 51] f f_25 := by rw [ef_25]; exact hSm.up (by decide) _
    have hC : mC rt L f_25 fs_24 := ⟨hC.1, F_m, hlen_, hmr_⟩
    have hFs : fmS [25] fm fs_24 := by rw [efs_24]; exact hFs.st (by decide) _
    exact W.vret hx hb hr (fun t ht hW => ⟨⟨f_25, rfl, ⟨fs_24, _, _, _, _, _, _, _, _, _, hSm, hFs, hC, F_saleTick, F_saleReader, F_salePage, F_salePlace, F_saleOf, F_price, F_state, F_saleWait, F_pressTick, I_sales, eg_10⟩, by show va_P (dC, dI) vwCl (va_pl L f_25) t.heap; rw [ht]; exact hP⟩, hS.F ht⟩) hS.2.2 dX6_sell_123
  · skip
    refine lv_iconst (v := 1) hx hb dX6_sell_88 (by decide) ?_
    refine lv_goto (tgt := 93) hx hb dX6_sell_89 (by decide) ?_
    refine g_iast hx hb hK hP hD hS (hC.1.1 32 (by decide)) F_state (vp_in_nI (by omega) (by decide)) dX6_sell_93 (fun H locs hP hD hS => ?_)
    obtain ⟨g_26, eg_26⟩ : ∃ z9, z9 = upd g_state (Int32.toNatClampNeg (nI ns)) 1 := ⟨_, rfl⟩
    rw [← eg_26] at hP hD
    obtain ⟨f_27, ef_27⟩ : ∃ z9, z9 = va_up f_14 (rt 32) (.inl (K 0, 1000, .inl g_26)) := ⟨_, rfl⟩
    rw [← ef_27] at hP hD
    have F_m : f_27 (rt 51) = .inr (6, fm) := by rw [ef_27, va_up_ne _ _ (fun q => absurd (hC.1.2 51 (by decide) 32 (by decide) q) (by decide))]; exact F_m
    have F_saleTick : f_27 (rt 26) = .inl (K 0, 1000, .inl g_2) := by rw [ef_27, va_up_ne _ _ (fun q => absurd (hC.1.2 26 (by decide) 32 (by decide) q) (by decide))]; exact F_saleTick
    have F_saleReader : f_27 (rt 27) = .inl (K 0, 1000, .inl g_4) := by rw [ef_27, va_up_ne _ _ (fun q => absurd (hC.1.2 27 (by decide) 32 (by decide) q) (by decide))]; exact F_saleReader
    have F_salePage : f_27 (rt 28) = .inl (K 0, 1000, .inl g_6) := by rw [ef_27, va_up_ne _ _ (fun q => absurd (hC.1.2 28 (by decide) 32 (by decide) q) (by decide))]; exact F_salePage
    have F_salePlace : f_27 (rt 29) = .inl (K 0, 1000, .inl g_8) := by rw [ef_27, va_up_ne _ _ (fun q => absurd (hC.1.2 29 (by decide) 32 (by decide) q) (by decide))]; exact F_salePlace
    have F_saleOf : f_27 (rt 30) = .inl (K 0, 1000, .inl g_10) := by rw [ef_27, va_up_ne _ _ (fun q => absurd (hC.1.2 30 (by decide) 32 (by decide) q) (by decide))]; exact F_saleOf
    have F_price : f_27 (rt 31) = .inl (K 0, 1000, .inl g_13) := by rw [ef_27, va_up_ne _ _ (fun q => absurd (hC.1.2 31 (by decide) 32 (by decide) q) (by decide))]; exact F_price
    have F_saleWait : f_27 (rt 33) = .inl (K 0, 1000, .inl g_saleWait) := by rw [ef_27, va_up_ne _ _ (fun q => absurd (hC.1.2 33 (by decide) 32 (by decide) q) (by decide))]; exact F_saleWait
    have F_pressTick : f_27 (rt 34) = .inl (K 0, 1000, .inl g_pressTick) := by rw [ef_27, va_up_ne _ _ (fun q => absurd (hC.1.2 34 (by decide) 32 (by decide) q) (by decide))]; exact F_pressTick
    have F_state : f_27 (rt 32) = .inl (K 0, 1000, .inl g_26) := by rw [ef_27, va_up_self]
    have hC : mC rt L f_27 fm := ⟨hC.1, F_m, hC.2.2.1, hC.2.2.2⟩
    have hSm : gSm rt [26, 27, 28, 29, 30, 31, 32, 33, 34, 51] f f_27 := by rw [ef_27]; exact hSm.up (by decide) _
    rw [nI_clamp (by omega)] at eg_26
    refine lv_aload_n hx hb dX6_sell_94 rfl (lv_at hl 2 rfl) ?_
    refine g_get (ci := 6) (v := .ref (rt 33)) (C := RX6) (T := TX6) (N := 51) hx hb hts uB6 hown hK hP (hC.1.1 51 (by decide)) F_m rfl 33 (by decide) wm_122 (hC.2.2.2 33 (by decide)) dX6_sell_95 ?_
    refine lv_iload hx hb dX6_sell_98 (lv_at hl 1 rfl) ?_
    refine lv_aload_n hx hb dX6_sell_100 rfl (lv_at hl 2 rfl) ?_
    refine g_get (ci := 6) (v := .int wt) (C := RX6) (T := TX6) (N := 51) hx hb hts uB6 hown hK hP (hC.1.1 51 (by decide)) F_m rfl 4 (by decide) wm_114 I_wait dX6_sell_101 ?_
    refine g_iast hx hb hK hP hD hS (hC.1.1 33 (by decide)) F_saleWait (vp_in_nI (by omega) (by decide)) dX6_sell_104 (fun H locs hP hD hS => ?_)
    obtain ⟨g_28, eg_28⟩ : ∃ z9, z9 = upd g_saleWait (Int32.toNatClampNeg (nI ns)) wt := ⟨_, rfl⟩
    rw [← eg_28] at hP hD
    obtain ⟨f_29, ef_29⟩ : ∃ z9, z9 = va_up f_27 (rt 33) (.inl (K 0, 1000, .inl g_28)) := ⟨_, rfl⟩
    rw [← ef_29] at hP hD
    have F_m : f_29 (rt 51) = .inr (6, fm) := by rw [ef_29, va_up_ne _ _ (fun q => absurd (hC.1.2 51 (by decide) 33 (by decide) q) (by decide))]; exact F_m
    have F_saleTick : f_29 (rt 26) = .inl (K 0, 1000, .inl g_2) := by rw [ef_29, va_up_ne _ _ (fun q => absurd (hC.1.2 26 (by decide) 33 (by decide) q) (by decide))]; exact F_saleTick
    have F_saleReader : f_29 (rt 27) = .inl (K 0, 1000, .inl g_4) := by rw [ef_29, va_up_ne _ _ (fun q => absurd (hC.1.2 27 (by decide) 33 (by decide) q) (by decide))]; exact F_saleReader
    have F_salePage : f_29 (rt 28) = .inl (K 0, 1000, .inl g_6) := by rw [ef_29, va_up_ne _ _ (fun q => absurd (hC.1.2 28 (by decide) 33 (by decide) q) (by decide))]; exact F_salePage
    have F_salePlace : f_29 (rt 29) = .inl (K 0, 1000, .inl g_8) := by rw [ef_29, va_up_ne _ _ (fun q => absurd (hC.1.2 29 (by decide) 33 (by decide) q) (by decide))]; exact F_salePlace
    have F_saleOf : f_29 (rt 30) = .inl (K 0, 1000, .inl g_10) := by rw [ef_29, va_up_ne _ _ (fun q => absurd (hC.1.2 30 (by decide) 33 (by decide) q) (by decide))]; exact F_saleOf
    have F_price : f_29 (rt 31) = .inl (K 0, 1000, .inl g_13) := by rw [ef_29, va_up_ne _ _ (fun q => absurd (hC.1.2 31 (by decide) 33 (by decide) q) (by decide))]; exact F_price
    have F_state : f_29 (rt 32) = .inl (K 0, 1000, .inl g_26) := by rw [ef_29, va_up_ne _ _ (fun q => absurd (hC.1.2 32 (by decide) 33 (by decide) q) (by decide))]; exact F_state
    have F_pressTick : f_29 (rt 34) = .inl (K 0, 1000, .inl g_pressTick) := by rw [ef_29, va_up_ne _ _ (fun q => absurd (hC.1.2 34 (by decide) 33 (by decide) q) (by decide))]; exact F_pressTick
    have F_saleWait : f_29 (rt 33) = .inl (K 0, 1000, .inl g_28) := by rw [ef_29, va_up_self]
    have hC : mC rt L f_29 fm := ⟨hC.1, F_m, hC.2.2.1, hC.2.2.2⟩
    have hSm : gSm rt [26, 27, 28, 29, 30, 31, 32, 33, 34, 51] f f_29 := by rw [ef_29]; exact hSm.up (by decide) _
    rw [nI_clamp (by omega)] at eg_28
    refine lv_aload_n hx hb dX6_sell_105 rfl (lv_at hl 2 rfl) ?_
    refine g_get (ci := 6) (v := .ref (rt 34)) (C := RX6) (T := TX6) (N := 51) hx hb hts uB6 hown hK hP (hC.1.1 51 (by decide)) F_m rfl 34 (by decide) wm_11 (hC.2.2.2 34 (by decide)) dX6_sell_106 ?_
    refine lv_iload hx hb dX6_sell_109 (lv_at hl 1 rfl) ?_
    refine lv_iconst (v := 0) hx hb dX6_sell_111 (by decide) ?_
    refine g_iast hx hb hK hP hD hS (hC.1.1 34 (by decide)) F_pressTick (vp_in_nI (by omega) (by decide)) dX6_sell_112 (fun H locs hP hD hS => ?_)
    obtain ⟨g_30, eg_30⟩ : ∃ z9, z9 = upd g_pressTick (Int32.toNatClampNeg (nI ns)) 0 := ⟨_, rfl⟩
    rw [← eg_30] at hP hD
    obtain ⟨f_31, ef_31⟩ : ∃ z9, z9 = va_up f_29 (rt 34) (.inl (K 0, 1000, .inl g_30)) := ⟨_, rfl⟩
    rw [← ef_31] at hP hD
    have F_m : f_31 (rt 51) = .inr (6, fm) := by rw [ef_31, va_up_ne _ _ (fun q => absurd (hC.1.2 51 (by decide) 34 (by decide) q) (by decide))]; exact F_m
    have F_saleTick : f_31 (rt 26) = .inl (K 0, 1000, .inl g_2) := by rw [ef_31, va_up_ne _ _ (fun q => absurd (hC.1.2 26 (by decide) 34 (by decide) q) (by decide))]; exact F_saleTick
    have F_saleReader : f_31 (rt 27) = .inl (K 0, 1000, .inl g_4) := by rw [ef_31, va_up_ne _ _ (fun q => absurd (hC.1.2 27 (by decide) 34 (by decide) q) (by decide))]; exact F_saleReader
    have F_salePage : f_31 (rt 28) = .inl (K 0, 1000, .inl g_6) := by rw [ef_31, va_up_ne _ _ (fun q => absurd (hC.1.2 28 (by decide) 34 (by decide) q) (by decide))]; exact F_salePage
    have F_salePlace : f_31 (rt 29) = .inl (K 0, 1000, .inl g_8) := by rw [ef_31, va_up_ne _ _ (fun q => absurd (hC.1.2 29 (by decide) 34 (by decide) q) (by decide))]; exact F_salePlace
    have F_saleOf : f_31 (rt 30) = .inl (K 0, 1000, .inl g_10) := by rw [ef_31, va_up_ne _ _ (fun q => absurd (hC.1.2 30 (by decide) 34 (by decide) q) (by decide))]; exact F_saleOf
    have F_price : f_31 (rt 31) = .inl (K 0, 1000, .inl g_13) := by rw [ef_31, va_up_ne _ _ (fun q => absurd (hC.1.2 31 (by decide) 34 (by decide) q) (by decide))]; exact F_price
    have F_state : f_31 (rt 32) = .inl (K 0, 1000, .inl g_26) := by rw [ef_31, va_up_ne _ _ (fun q => absurd (hC.1.2 32 (by decide) 34 (by decide) q) (by decide))]; exact F_state
    have F_saleWait : f_31 (rt 33) = .inl (K 0, 1000, .inl g_28) := by rw [ef_31, va_up_ne _ _ (fun q => absurd (hC.1.2 33 (by decide) 34 (by decide) q) (by decide))]; exact F_saleWait
    have F_pressTick : f_31 (rt 34) = .inl (K 0, 1000, .inl g_30) := by rw [ef_31, va_up_self]
    have hC : mC rt L f_31 fm := ⟨hC.1, F_m, hC.2.2.1, hC.2.2.2⟩
    have hSm : gSm rt [26, 27, 28, 29, 30, 31, 32, 33, 34, 51] f f_31 := by rw [ef_31]; exact hSm.up (by decide) _
    rw [nI_clamp (by omega)] at eg_30
    refine lv_aload_n hx hb dX6_sell_113 rfl (lv_at hl 2 rfl) ?_
    refine lv_dup hx hb dX6_sell_114 rfl ?_
    refine g_get (ci := 6) (v := .int (nI ns)) (C := RX6) (T := TX6) (N := 51) hx hb hts uB6 hown hK hP (hC.1.1 51 (by decide)) F_m rfl 25 (by decide) wm_4 I_sales dX6_sell_115 ?_
    refine lv_iconst (v := 1) hx hb dX6_sell_118 (by decide) ?_
    refine lv_iadd hx hb dX6_sell_119 ?_
    refine lv_topi (fun x_32 ex_32 => ?_)
    obtain rfl : x_32 = nI (ns + 1) := ex_32.trans (nI_add ns 1)
    refine g_put (ci := 6) (v := .int (nI (ns + 1))) (ty := .int) (C := RX6) (T := TX6) (N := 51) hx hb hts uB6 tyX6 tyX6_ok nmX6 hown hK hP hD hS (hC.1.1 51 (by decide)) F_m rfl 25 (by decide) wm_4 rfl (by decide +kernel) rfl rfl (by rw [hC.2.2.1]; decide) dX6_sell_120 (fun H locs hP hD hS => ?_)
    obtain ⟨fs_33, efs_33⟩ : ∃ z9, z9 = List.set fm 25 (.int (nI (ns + 1))) := ⟨_, rfl⟩
    rw [← efs_33] at hP hD
    have hlen_ : fs_33.length = 51 := by rw [efs_33, List.length_set]; exact hC.2.2.1
    have I_tick : fs_33[1]? = some (.int tk) := by rw [efs_33, List.getElem?_set_ne (by decide)]; exact I_tick
    have I_wait : fs_33[4]? = some (.int wt) := by rw [efs_33, List.getElem?_set_ne (by decide)]; exact I_wait
    have I_sales : fs_33[25]? = some (.int (nI (ns + 1))) := by rw [efs_33]; exact List.getElem?_set_self (by rw [hC.2.2.1]; decide)
    have hmr_ : ∀ k ∈ mArr, fs_33[k]? = some (.ref (rt k)) := fun k h => by rw [efs_33, List.getElem?_set_ne (fun q => by rw [← q] at h; exact absurd h (by decide))]; exact hC.2.2.2 k h
    obtain ⟨f_34, ef_34⟩ : ∃ z9, z9 = va_up f_31 (rt 51) (.inr (6, fs_33)) := ⟨_, rfl⟩
    rw [← ef_34] at hP hD
    have F_saleTick : f_34 (rt 26) = .inl (K 0, 1000, .inl g_2) := by rw [ef_34, va_up_ne _ _ (fun q => absurd (hC.1.2 26 (by decide) 51 (by decide) q) (by decide))]; exact F_saleTick
    have F_saleReader : f_34 (rt 27) = .inl (K 0, 1000, .inl g_4) := by rw [ef_34, va_up_ne _ _ (fun q => absurd (hC.1.2 27 (by decide) 51 (by decide) q) (by decide))]; exact F_saleReader
    have F_salePage : f_34 (rt 28) = .inl (K 0, 1000, .inl g_6) := by rw [ef_34, va_up_ne _ _ (fun q => absurd (hC.1.2 28 (by decide) 51 (by decide) q) (by decide))]; exact F_salePage
    have F_salePlace : f_34 (rt 29) = .inl (K 0, 1000, .inl g_8) := by rw [ef_34, va_up_ne _ _ (fun q => absurd (hC.1.2 29 (by decide) 51 (by decide) q) (by decide))]; exact F_salePlace
    have F_saleOf : f_34 (rt 30) = .inl (K 0, 1000, .inl g_10) := by rw [ef_34, va_up_ne _ _ (fun q => absurd (hC.1.2 30 (by decide) 51 (by decide) q) (by decide))]; exact F_saleOf
    have F_price : f_34 (rt 31) = .inl (K 0, 1000, .inl g_13) := by rw [ef_34, va_up_ne _ _ (fun q => absurd (hC.1.2 31 (by decide) 51 (by decide) q) (by decide))]; exact F_price
    have F_state : f_34 (rt 32) = .inl (K 0, 1000, .inl g_26) := by rw [ef_34, va_up_ne _ _ (fun q => absurd (hC.1.2 32 (by decide) 51 (by decide) q) (by decide))]; exact F_state
    have F_saleWait : f_34 (rt 33) = .inl (K 0, 1000, .inl g_28) := by rw [ef_34, va_up_ne _ _ (fun q => absurd (hC.1.2 33 (by decide) 51 (by decide) q) (by decide))]; exact F_saleWait
    have F_pressTick : f_34 (rt 34) = .inl (K 0, 1000, .inl g_30) := by rw [ef_34, va_up_ne _ _ (fun q => absurd (hC.1.2 34 (by decide) 51 (by decide) q) (by decide))]; exact F_pressTick
    have F_m : f_34 (rt 51) = .inr (6, fs_33) := by rw [ef_34, va_up_self]
    have hSm : gSm rt [26, 27, 28, 29, 30, 31, 32, 33, 34, 51] f f_34 := by rw [ef_34]; exact hSm.up (by decide) _
    have hC : mC rt L f_34 fs_33 := ⟨hC.1, F_m, hlen_, hmr_⟩
    have hFs : fmS [25] fm fs_33 := by rw [efs_33]; exact hFs.st (by decide) _
    exact W.vret hx hb hr (fun t ht hW => ⟨⟨f_34, rfl, ⟨fs_33, _, _, _, _, _, _, _, _, _, hSm, hFs, hC, F_saleTick, F_saleReader, F_salePage, F_salePlace, F_saleOf, F_price, F_state, F_saleWait, F_pressTick, I_sales, eg_10⟩, by show va_P (dC, dI) vwCl (va_pl L f_34) t.heap; rw [ht]; exact hP⟩, hS.F ht⟩) hS.2.2 dX6_sell_123
set_option maxHeartbeats 4000000 in
set_option maxRecDepth 100000 in
theorem um_come (l : Launch) (dC : Nat → ClassId) (dI : Nat → Nat → Nat) (K : Nat → ClassId) (L : List Nat) (f : Nat → va_E) (rt : Nat → Nat) {fm : List Value} (hC : mC rt L f fm) {g_stopped : Nat → Int32} (F_stopped : f (rt 20) = .inl (K 2, 40, .inl g_stopped)) {g_marks : Nat → Int32} (F_marks : f (rt 8) = .inl (K 0, 100, .inl g_marks)) {g_must : Nat → Int32} (F_must : f (rt 12) = .inl (K 0, 40, .inl g_must)) {g_never : Nat → Int32} (F_never : f (rt 13) = .inl (K 0, 40, .inl g_never)) {g_saleOf : Nat → Int32} (F_saleOf : f (rt 30) = .inl (K 0, 1000, .inl g_saleOf)) {g_saleReader : Nat → Int32} (F_saleReader : f (rt 27) = .inl (K 0, 1000, .inl g_saleReader)) {g_saleTick : Nat → Int32} (F_saleTick : f (rt 26) = .inl (K 0, 1000, .inl g_saleTick)) {g_salePage : Nat → Int32} (F_salePage : f (rt 28) = .inl (K 0, 1000, .inl g_salePage)) {g_state : Nat → Int32} (F_state : f (rt 32) = .inl (K 0, 1000, .inl g_state)) {g_span : Nat → Int32} (F_span : f (rt 18) = .inl (K 0, 40, .inl g_span)) {g_apart : Nat → Int32} (F_apart : f (rt 21) = .inl (K 2, 1600, .inl g_apart)) {g_cap : Nat → Int32} (F_cap : f (rt 17) = .inl (K 0, 40, .inl g_cap)) {g_sort : Nat → Int32} (F_sort : f (rt 10) = .inl (K 0, 40, .inl g_sort)) {g_bid : Nat → Int32} (F_bid : f (rt 14) = .inl (K 0, 40, .inl g_bid)) {g_throttle : Nat → Int32} (F_throttle : f (rt 19) = .inl (K 0, 40, .inl g_throttle)) {g_dayBudget : Nat → Int32} (F_dayBudget : f (rt 15) = .inl (K 0, 40, .inl g_dayBudget)) {g_allBudget : Nat → Int32} (F_allBudget : f (rt 16) = .inl (K 0, 40, .inl g_allBudget)) {g_pays : Nat → Int32} (F_pays : f (rt 11) = .inl (K 0, 40, .inl g_pays)) {g_price : Nat → Int32} (F_price : f (rt 31) = .inl (K 0, 1000, .inl g_price)) {g_promised : Nat → Int32} (F_promised : f (rt 22) = .inl (K 0, 40, .inl g_promised)) {g_promiseDay : Nat → Int32} (F_promiseDay : f (rt 23) = .inl (K 0, 40, .inl g_promiseDay)) {g_promiseFrom : Nat → Int32} (F_promiseFrom : f (rt 24) = .inl (K 0, 40, .inl g_promiseFrom)) {g_pressTick : Nat → Int32} (F_pressTick : f (rt 34) = .inl (K 0, 1000, .inl g_pressTick)) {g_places : Nat → Int32} (F_places : f (rt 6) = .inl (K 0, 8, .inl g_places)) {g_sizes : Nat → Int32} (F_sizes : f (rt 7) = .inl (K 0, 32, .inl g_sizes)) {g_mayBe : Nat → Int32} (F_mayBe : f (rt 36) = .inl (K 0, 40, .inl g_mayBe)) {g_worth : Nat → Int64} (F_worth : f (rt 37) = .inl (K 1, 160, .inr (.inl g_worth))) {g_mostAt : Nat → Int64} (F_mostAt : f (rt 38) = .inl (K 1, 5, .inr (.inl g_mostAt))) {g_order : Nat → Int32} (F_order : f (rt 47) = .inl (K 0, 40, .inl g_order)) {g_next : Nat → Int32} (F_next : f (rt 48) = .inl (K 0, 5, .inl g_next)) {g_upTo : Nat → Int64} (F_upTo : f (rt 41) = .inl (K 1, 5, .inr (.inl g_upTo))) {g_filledTo : Nat → Int32} (F_filledTo : f (rt 42) = .inl (K 0, 5, .inl g_filledTo)) {g_at : Nat → Int32} (F_at : f (rt 40) = .inl (K 0, 5, .inl g_at)) {g_given : Nat → Int32} (F_given : f (rt 46) = .inl (K 0, 4, .inl g_given)) {g_salePlace : Nat → Int32} (F_salePlace : f (rt 29) = .inl (K 0, 1000, .inl g_salePlace)) {g_saleWait : Nat → Int32} (F_saleWait : f (rt 33) = .inl (K 0, 1000, .inl g_saleWait)) {g_toSell : Nat → Int32} (F_toSell : f (rt 49) = .inl (K 0, 4, .inl g_toSell)) {g_toPay : Nat → Int32} (F_toPay : f (rt 50) = .inl (K 0, 4, .inl g_toPay)) {ns nc np : Nat} {t v1 v2 v3 : Int32} {v4 : Int64} {v5 ru wt : Int32} (I_sales : fm[25]? = some (.int (nI ns))) (I_campaigns : fm[9]? = some (.int (nI nc))) (I_tick : fm[1]? = some (.int t)) (I_may : fm[35]? = some (.int v1)) (I_spots : fm[39]? = some (.int v2)) (I_hasBest : fm[45]? = some (.int v3)) (I_bestSum : fm[43]? = some (.long v4)) (I_bestFilled : fm[44]? = some (.int v5)) (I_pages : fm[5]? = some (.int (nI np))) (I_rule : fm[2]? = some (.int ru)) (I_wait : fm[4]? = some (.int wt)) (x : Int32) (y : Int32) (hns : ns ≤ 1000) (hso : ∀ j, j < ns → vp_in (g_saleOf j) 40) (hnc : nc ≤ 40) (hpb : ∀ c, c < 40 → g_promised c = 0 ∨ ∃ a d : Nat, d ≤ 100 ∧ a < 100 * d + 100 ∧ g_promiseDay c = nI d ∧ g_promiseFrom c = nI a) (hbd : ∀ c, c < 40 → ∃ b : Nat, b ≤ 1000 ∧ g_bid c = nI b) (hsz : ∀ i, i < 32 → ∃ z : Nat, z ≤ 127 ∧ g_sizes i = nI z) (hnp : np ≤ 8) (hpls : ∀ i, i < np → ∃ q : Nat, 1 ≤ q ∧ q ≤ 4 ∧ g_places i = nI q) (hLn : gN L) : gMi l yX6_come cX6_come 7 6 (dC, dI) K L f [.ref (rt 51), .int x, .int y] (fun _ f' => f' = f ∨ ∃ (fm' : List Value) (ns2 : Nat) (gb : Nat → Int32) (gw : Nat → Int64) (gm : Nat → Int64) (go : Nat → Int32) (gn : Nat → Int32) (gu : Nat → Int64) (gf : Nat → Int32) (ga : Nat → Int32) (gg : Nat → Int32) (h0 : Nat → Int32) (h1 : Nat → Int32) (h2 : Nat → Int32) (h3 : Nat → Int32) (h4 : Nat → Int32) (h5 : Nat → Int32) (h6 : Nat → Int32) (h7 : Nat → Int32) (h8 : Nat → Int32) (ts : Nat → Int32) (tp : Nat → Int32), gSm rt [26, 27, 28, 29, 30, 31, 32, 33, 34, 36, 37, 38, 40, 41, 42, 46, 47, 48, 49, 50, 51] f f' ∧ fmS [25, 35, 39, 43, 44, 45] fm fm' ∧ mC rt L f' fm' ∧ f' (rt 36) = .inl (K 0, 40, .inl gb) ∧ f' (rt 37) = .inl (K 1, 160, .inr (.inl gw)) ∧ f' (rt 38) = .inl (K 1, 5, .inr (.inl gm)) ∧ f' (rt 47) = .inl (K 0, 40, .inl go) ∧ f' (rt 48) = .inl (K 0, 5, .inl gn) ∧ f' (rt 41) = .inl (K 1, 5, .inr (.inl gu)) ∧ f' (rt 42) = .inl (K 0, 5, .inl gf) ∧ f' (rt 40) = .inl (K 0, 5, .inl ga) ∧ f' (rt 46) = .inl (K 0, 4, .inl gg) ∧ f' (rt 26) = .inl (K 0, 1000, .inl h0) ∧ f' (rt 27) = .inl (K 0, 1000, .inl h1) ∧ f' (rt 28) = .inl (K 0, 1000, .inl h2) ∧ f' (rt 29) = .inl (K 0, 1000, .inl h3) ∧ f' (rt 30) = .inl (K 0, 1000, .inl h4) ∧ f' (rt 31) = .inl (K 0, 1000, .inl h5) ∧ f' (rt 32) = .inl (K 0, 1000, .inl h6) ∧ f' (rt 33) = .inl (K 0, 1000, .inl h7) ∧ f' (rt 34) = .inl (K 0, 1000, .inl h8) ∧ f' (rt 49) = .inl (K 0, 4, .inl ts) ∧ f' (rt 50) = .inl (K 0, 4, .inl tp) ∧ fm'[25]? = some (.int (nI ns2)) ∧ (∃ v, fm'[35]? = some (.int v)) ∧ (∃ v, fm'[39]? = some (.int v)) ∧ (∃ v, fm'[45]? = some (.int v)) ∧ (∃ v, fm'[43]? = some (.long v)) ∧ (∃ v, fm'[44]? = some (.int v)) ∧ ns2 ≤ 1000 ∧ (∀ j, j < ns2 → vp_in (h4 j) 40)) := by
  refine Met.ofW (cc := cX6_come) (maxL := 7) (ret := (some .int)) (by decide) rfl ?_
  intro p e s m args below meth c s₁ B hml hv
  obtain ⟨rfl, hP, hK⟩ := hv
  have F_m := hC.2.1
  have hD : va_D (fun q : Nat => q ∈ L) (va_pl L f) := g_D hLn (fun a h => h) f
  generalize hAe : (fun q : Nat => q ∈ L) = A at hD ⊢
  have hx := B.exec
  have hb := B.bytes
  have hr := B.returns
  have hlocks := B.notSynchronized
  have hts0 := atoms_spec (ws := Cond.code yX6_come cX6_come 7 (some .int) :: lw_B) B.pre
  have hts : ∀ w ∈ lw_B, w.before _ s = true := fun w h => hts0 w (List.mem_cons_of_mem _ h)
  have hown : s.vm.findClass RX6 = some m.cls := findClass_of_methodNamed B.named
  have hS : va_S A s.heap s.heap [] := va_S.rf
  have hl := lv_entry ([.ref (rt 51), .int x, .int y]) (n := 7) (Nat.le_of_ble_eq_true rfl)
  rw [lg_entry_eq]
  generalize (lg_sl ([.ref (rt 51), .int x, .int y]) ++ List.replicate (7 - (lg_sl ([.ref (rt 51), .int x, .int y])).length) Slot.unset).toArray = ls at hl ⊢
  have hl : lv_has ls 7 [(0, .ref (rt 51)), (1, .int x), (2, .int y)] := hl
  have hSm : gSm rt [26, 27, 28, 29, 30, 31, 32, 33, 34, 36, 37, 38, 40, 41, 42, 46, 47, 48, 49, 50, 51] f f := gSm.rf
  have hFs : fmS [25, 35, 39, 43, 44, 45] fm fm := fmS.rf
  refine lv_iload_n hx hb dX6_come_0 rfl (lv_at hl 1 rfl) ?_
  refine k_S ⟨hx, hb, hml, hown, hts⟩ (c_mReader l x) 1 wm_92 wm_93 wm_8 wm_94 (by decide +kernel) ⟨Nat.le_of_ble_eq_true rfl, Nat.le_of_ble_eq_true rfl⟩ rfl hl.1 rfl (Nat.le_of_ble_eq_true rfl) dX6_come_1 ⟨Nat.le_of_ble_eq_true rfl, Nat.le_of_ble_eq_true rfl⟩ hS hP (fun r_1 H locs hpr_1 hP hS => ?_)
  refine lv_if_eq (tgt := 15) hx hb dX6_come_4 (by decide) (fun c_2 => ?_) (fun c_2 => ?_)
  · skip
    refine lv_iconst (v := (-1)) hx hb dX6_come_15 (by decide) ?_
    exact W.iret (v := (-1)) hx hb hr (fun t ht hW => ⟨⟨(-1), f, rfl, (Or.inl rfl), by show va_P (dC, dI) vwCl (va_pl L f) t.heap; rw [ht]; exact hP⟩, hS.F ht⟩) hS.2.2 dX6_come_16
  · skip
    obtain ⟨rd, hrd, rfl⟩ := k_ix (n := 100) (x := x) (k_ft hpr_1 c_2) (by omega)
    refine lv_aload_n hx hb dX6_come_7 rfl (lv_at hl 0 rfl) ?_
    refine lv_iload_n hx hb dX6_come_8 rfl (lv_at hl 2 rfl) ?_
    refine gc_R (ci := 6) ⟨hx, hb, hml, hown, hts⟩ (m_isPage l dC dI K L f rt hC I_pages y) 1 wm_95 wm_96 wm_97 wm_8 wm_98 (by decide +kernel) ⟨Nat.le_of_ble_eq_true rfl, Nat.le_of_ble_eq_true rfl⟩ hK rfl (hC.1.1 51 (by decide)) F_m rfl hl.1 rfl (Nat.le_of_ble_eq_true rfl) dX6_come_9 ⟨Nat.le_of_ble_eq_true rfl, Nat.le_of_ble_eq_true rfl⟩ hS hP (fun r_3 H locs hpr_3 hP hS => ?_)
    refine lv_if_ne (tgt := 17) hx hb dX6_come_12 (by decide) (fun c_4 => ?_) (fun c_4 => ?_)
    · skip
      obtain ⟨pg, hpg, rfl⟩ := k_ix (k_ft hpr_3 c_4) (by omega)
      obtain ⟨sp, hsp1, hsp, hplq⟩ := hpls pg hpg
      refine lv_aload_n hx hb dX6_come_17 rfl (lv_at hl 0 rfl) ?_
      refine g_get (ci := 6) (v := .int (nI ns)) (C := RX6) (T := TX6) (N := 51) hx hb hts uB6 hown hK hP (hC.1.1 51 (by decide)) F_m rfl 25 (by decide) wm_4 I_sales dX6_come_18 ?_
      refine lv_aload_n hx hb dX6_come_21 rfl (lv_at hl 0 rfl) ?_
      refine g_get (ci := 6) (v := .ref (rt 6)) (C := RX6) (T := TX6) (N := 51) hx hb hts uB6 hown hK hP (hC.1.1 51 (by decide)) F_m rfl 6 (by decide) wm_134 (hC.2.2.2 6 (by decide)) dX6_come_22 ?_
      refine lv_iload_n hx hb dX6_come_25 rfl (lv_at hl 2 rfl) ?_
      refine g_iald hx hb hK hP (hC.1.1 6 (by decide)) ((hSm.at hC.1 (by decide) (by decide)).trans F_places) (vp_in_nI (by omega) (by decide)) dX6_come_26 ?_
      refine lv_topi (fun x_5 ex_5 => ?_)
      rw [nI_clamp (by omega)] at ex_5
      obtain rfl : x_5 = nI (sp) := ex_5.trans hplq
      refine lv_iadd hx hb dX6_come_27 ?_
      refine lv_topi (fun x_6 ex_6 => ?_)
      obtain rfl : x_6 = nI (ns + sp) := ex_6.trans (nI_add ns sp)
      refine lv_sipush (v := 1000) hx hb dX6_come_28 (by decide) ?_
      refine lv_icmp_le (tgt := 37) hx hb dX6_come_31 (by decide) (fun c_7 => ?_) (fun c_7 => ?_)
      · skip
        have nc_7 : (ns + sp) ≤ 1000 := (bn_le (a := (ns + sp)) (b := 1000) (by omega) (by omega)).mp (show nI (ns + sp) ≤ nI 1000 from c_7)
        refine lv_aload_n hx hb dX6_come_37 rfl (lv_at hl 0 rfl) ?_
        refine lv_iload_n hx hb dX6_come_38 rfl (lv_at hl 1 rfl) ?_
        refine lv_iload_n hx hb dX6_come_39 rfl (lv_at hl 2 rfl) ?_
        refine gc_Ml (ci := 6) ⟨hx, hb, hml, hown, hts⟩ (um_find l dC dI K L f rt hC ((hSm.at hC.1 (by decide) (by decide)).trans F_stopped) ((hSm.at hC.1 (by decide) (by decide)).trans F_marks) ((hSm.at hC.1 (by decide) (by decide)).trans F_must) ((hSm.at hC.1 (by decide) (by decide)).trans F_never) F_saleOf F_saleReader F_saleTick F_salePage F_state ((hSm.at hC.1 (by decide) (by decide)).trans F_span) ((hSm.at hC.1 (by decide) (by decide)).trans F_apart) ((hSm.at hC.1 (by decide) (by decide)).trans F_cap) ((hSm.at hC.1 (by decide) (by decide)).trans F_sort) ((hSm.at hC.1 (by decide) (by decide)).trans F_bid) ((hSm.at hC.1 (by decide) (by decide)).trans F_throttle) ((hSm.at hC.1 (by decide) (by decide)).trans F_dayBudget) ((hSm.at hC.1 (by decide) (by decide)).trans F_allBudget) ((hSm.at hC.1 (by decide) (by decide)).trans F_pays) F_price ((hSm.at hC.1 (by decide) (by decide)).trans F_promised) ((hSm.at hC.1 (by decide) (by decide)).trans F_promiseDay) ((hSm.at hC.1 (by decide) (by decide)).trans F_promiseFrom) F_pressTick ((hSm.at hC.1 (by decide) (by decide)).trans F_places) ((hSm.at hC.1 (by decide) (by decide)).trans F_sizes) F_mayBe F_worth F_mostAt F_order F_next F_upTo F_filledTo F_at F_given I_sales I_campaigns I_tick I_may I_spots I_hasBest I_bestSum I_bestFilled rd pg hns hso hnc hpb hbd hsz hrd (by omega) hplq hsp1 hsp hLn) 2 wm_167 wm_168 wm_169 wm_8 wm_170 (by decide +kernel) ⟨Nat.le_of_ble_eq_true rfl, Nat.le_of_ble_eq_true rfl⟩ hK rfl (hC.1.1 51 (by decide)) F_m rfl hl.1 rfl (Nat.le_of_ble_eq_true rfl) dX6_come_40 ⟨Nat.le_of_ble_eq_true rfl, Nat.le_of_ble_eq_true rfl⟩ (fun a h => by rw [← hAe]; exact h) hS hP (fun r_9 fw_8 H locs hpw hP hS => ?_)
        obtain ⟨fm1, mm, gb, gw, gm, go, gn, gu, gf, ga, gg, hSmC, hFsC, hCC, F_mayBe, F_worth, F_mostAt, F_order, F_next, F_upTo, F_filledTo, F_at, F_given, I_may, I_spots, ⟨b3, I_hasBest⟩, ⟨b4, I_bestSum⟩, ⟨b5, I_bestFilled⟩, hmnc, hmb, hww, hgg⟩ := hpw
        have F_saleOf : fw_8 (rt 30) = .inl (K 0, 1000, .inl g_saleOf) := (hSmC.at hC.1 (by decide) (by decide)).trans F_saleOf
        have F_saleReader : fw_8 (rt 27) = .inl (K 0, 1000, .inl g_saleReader) := (hSmC.at hC.1 (by decide) (by decide)).trans F_saleReader
        have F_saleTick : fw_8 (rt 26) = .inl (K 0, 1000, .inl g_saleTick) := (hSmC.at hC.1 (by decide) (by decide)).trans F_saleTick
        have F_salePage : fw_8 (rt 28) = .inl (K 0, 1000, .inl g_salePage) := (hSmC.at hC.1 (by decide) (by decide)).trans F_salePage
        have F_state : fw_8 (rt 32) = .inl (K 0, 1000, .inl g_state) := (hSmC.at hC.1 (by decide) (by decide)).trans F_state
        have F_price : fw_8 (rt 31) = .inl (K 0, 1000, .inl g_price) := (hSmC.at hC.1 (by decide) (by decide)).trans F_price
        have F_pressTick : fw_8 (rt 34) = .inl (K 0, 1000, .inl g_pressTick) := (hSmC.at hC.1 (by decide) (by decide)).trans F_pressTick
        have F_salePlace : fw_8 (rt 29) = .inl (K 0, 1000, .inl g_salePlace) := (hSmC.at hC.1 (by decide) (by decide)).trans F_salePlace
        have F_saleWait : fw_8 (rt 33) = .inl (K 0, 1000, .inl g_saleWait) := (hSmC.at hC.1 (by decide) (by decide)).trans F_saleWait
        have F_toSell : fw_8 (rt 49) = .inl (K 0, 4, .inl g_toSell) := (hSmC.at hC.1 (by decide) (by decide)).trans F_toSell
        have F_toPay : fw_8 (rt 50) = .inl (K 0, 4, .inl g_toPay) := (hSmC.at hC.1 (by decide) (by decide)).trans F_toPay
        have hC := hCC
        have F_m : fw_8 (rt 51) = .inr (6, fm1) := hC.2.1
        have hSm : gSm rt [26, 27, 28, 29, 30, 31, 32, 33, 34, 36, 37, 38, 40, 41, 42, 46, 47, 48, 49, 50, 51] f fw_8 := hSm.tr hSmC (by decide) (by decide)
        have I_sales : fm1[25]? = some (.int (nI ns)) := (hFsC.2 25 (by decide)).trans I_sales
        have I_campaigns : fm1[9]? = some (.int (nI nc)) := (hFsC.2 9 (by decide)).trans I_campaigns
        have I_tick : fm1[1]? = some (.int t) := (hFsC.2 1 (by decide)).trans I_tick
        have I_pages : fm1[5]? = some (.int (nI np)) := (hFsC.2 5 (by decide)).trans I_pages
        have I_rule : fm1[2]? = some (.int ru) := (hFsC.2 2 (by decide)).trans I_rule
        have I_wait : fm1[4]? = some (.int wt) := (hFsC.2 4 (by decide)).trans I_wait
        have hFs : fmS [25, 35, 39, 43, 44, 45] fm fm1 := hFs.tr hFsC (by decide) (by decide)
        have hD : va_D A (va_pl L fw_8) := g_D hLn (fun a h => by rw [← hAe]; exact h) fw_8
        refine lv_lstore_n (lv' := [(3, .long r_9), (0, .ref (rt 51)), (1, .int (nI rd)), (2, .int (nI pg))]) hx hb dX6_come_43 rfl hl (by decide) rfl (fun ls hl => ?_)
        refine lv_iconst (v := 0) hx hb dX6_come_44 (by decide) ?_
        refine lv_istore (lv' := [(5, .int 0), (3, .long r_9), (0, .ref (rt 51)), (1, .int (nI rd)), (2, .int (nI pg))]) hx hb dX6_come_45 hl (by decide) rfl (fun ls hl => ?_)
        have hSma := hSm
        have hFsa := hFs
        refine k_lx (pcx := 76) (fun n H locs ls => ∃ (fva : Nat → va_E) (fmva : List Value) (ts : Nat → Int32) (j : Nat) (zl : Int64), sp - j = n ∧ gSm rt [49] fw_8 fva ∧ fmS [] fm1 fmva ∧ mC rt L fva fmva ∧ fva (rt 49) = .inl (K 0, 4, .inl ts) ∧ (j ≤ sp) ∧ (∀ k, k < j → ts k = (-2) ∨ ∃ i : Nat, i < mm ∧ ts k = gb i) ∧ va_P (dC, dI) vwCl (va_pl L fva) H ∧ va_S A s.heap H locs ∧ lv_has ls 7 [(0, .ref (rt 51)), (1, .int (nI rd)), (2, .int (nI pg)), (3, .long zl), (5, .int (nI j))]) (fun H locs ls => ∃ (fva : Nat → va_E) (fmva : List Value) (ts : Nat → Int32) (j : Nat) (zl : Int64), gSm rt [49] fw_8 fva ∧ fmS [] fm1 fmva ∧ mC rt L fva fmva ∧ fva (rt 49) = .inl (K 0, 4, .inl ts) ∧ (∀ k, k < sp → ts k = (-2) ∨ ∃ i : Nat, i < mm ∧ ts k = gb i) ∧ va_P (dC, dI) vwCl (va_pl L fva) H ∧ va_S A s.heap H locs ∧ lv_has ls 7 [(0, .ref (rt 51)), (1, .int (nI rd)), (2, .int (nI pg)), (3, .long zl), (5, .int (nI j))]) (fun H locs ls hI => ?_) (fun n H locs ls hI hEa iha => ?_) _ _ _ _ ⟨fw_8, fm1, _, 0, _, rfl, gSm.rf, fmS.rf, hC, F_toSell, Nat.zero_le _, fun k hk => absurd hk (Nat.not_lt_zero k), hP, hS, lv_sub hl [2, 3, 4, 1, 0] rfl⟩
        · skip
          obtain ⟨fva, fmva, ts, j, zl, hSm, hFs, hC, NF_toSell, hts9, hP, hS, hl⟩ := hI
          have F_saleOf : fva (rt 30) = .inl (K 0, 1000, .inl g_saleOf) := (hSm.at hC.1 (by decide) (by decide)).trans F_saleOf
          have F_saleReader : fva (rt 27) = .inl (K 0, 1000, .inl g_saleReader) := (hSm.at hC.1 (by decide) (by decide)).trans F_saleReader
          have F_saleTick : fva (rt 26) = .inl (K 0, 1000, .inl g_saleTick) := (hSm.at hC.1 (by decide) (by decide)).trans F_saleTick
          have F_salePage : fva (rt 28) = .inl (K 0, 1000, .inl g_salePage) := (hSm.at hC.1 (by decide) (by decide)).trans F_salePage
          have F_state : fva (rt 32) = .inl (K 0, 1000, .inl g_state) := (hSm.at hC.1 (by decide) (by decide)).trans F_state
          have F_price : fva (rt 31) = .inl (K 0, 1000, .inl g_price) := (hSm.at hC.1 (by decide) (by decide)).trans F_price
          have F_pressTick : fva (rt 34) = .inl (K 0, 1000, .inl g_pressTick) := (hSm.at hC.1 (by decide) (by decide)).trans F_pressTick
          have F_salePlace : fva (rt 29) = .inl (K 0, 1000, .inl g_salePlace) := (hSm.at hC.1 (by decide) (by decide)).trans F_salePlace
          have F_saleWait : fva (rt 33) = .inl (K 0, 1000, .inl g_saleWait) := (hSm.at hC.1 (by decide) (by decide)).trans F_saleWait
          have F_toPay : fva (rt 50) = .inl (K 0, 4, .inl g_toPay) := (hSm.at hC.1 (by decide) (by decide)).trans F_toPay
          have F_mayBe : fva (rt 36) = .inl (K 0, 40, .inl gb) := (hSm.at hC.1 (by decide) (by decide)).trans F_mayBe
          have F_worth : fva (rt 37) = .inl (K 1, 160, .inr (.inl gw)) := (hSm.at hC.1 (by decide) (by decide)).trans F_worth
          have F_mostAt : fva (rt 38) = .inl (K 1, 5, .inr (.inl gm)) := (hSm.at hC.1 (by decide) (by decide)).trans F_mostAt
          have F_order : fva (rt 47) = .inl (K 0, 40, .inl go) := (hSm.at hC.1 (by decide) (by decide)).trans F_order
          have F_next : fva (rt 48) = .inl (K 0, 5, .inl gn) := (hSm.at hC.1 (by decide) (by decide)).trans F_next
          have F_upTo : fva (rt 41) = .inl (K 1, 5, .inr (.inl gu)) := (hSm.at hC.1 (by decide) (by decide)).trans F_upTo
          have F_filledTo : fva (rt 42) = .inl (K 0, 5, .inl gf) := (hSm.at hC.1 (by decide) (by decide)).trans F_filledTo
          have F_at : fva (rt 40) = .inl (K 0, 5, .inl ga) := (hSm.at hC.1 (by decide) (by decide)).trans F_at
          have F_given : fva (rt 46) = .inl (K 0, 4, .inl gg) := (hSm.at hC.1 (by decide) (by decide)).trans F_given
          have F_toSell := NF_toSell
          have F_m : fva (rt 51) = .inr (6, fmva) := hC.2.1
          have I_sales : fmva[25]? = some (.int (nI ns)) := (hFs.2 25 (by decide)).trans I_sales
          have I_campaigns : fmva[9]? = some (.int (nI nc)) := (hFs.2 9 (by decide)).trans I_campaigns
          have I_tick : fmva[1]? = some (.int t) := (hFs.2 1 (by decide)).trans I_tick
          have I_pages : fmva[5]? = some (.int (nI np)) := (hFs.2 5 (by decide)).trans I_pages
          have I_rule : fmva[2]? = some (.int ru) := (hFs.2 2 (by decide)).trans I_rule
          have I_wait : fmva[4]? = some (.int wt) := (hFs.2 4 (by decide)).trans I_wait
          have I_may : fmva[35]? = some (.int (nI mm)) := (hFs.2 35 (by decide)).trans I_may
          have I_spots : fmva[39]? = some (.int (nI sp)) := (hFs.2 39 (by decide)).trans I_spots
          have I_hasBest : fmva[45]? = some (.int b3) := (hFs.2 45 (by decide)).trans I_hasBest
          have I_bestSum : fmva[43]? = some (.long b4) := (hFs.2 43 (by decide)).trans I_bestSum
          have I_bestFilled : fmva[44]? = some (.int b5) := (hFs.2 44 (by decide)).trans I_bestFilled
          have hD : va_D A (va_pl L fva) := g_D hLn (fun a h => by rw [← hAe]; exact h) fva
          have hSmLa := hSm
          have hSm : gSm rt [26, 27, 28, 29, 30, 31, 32, 33, 34, 36, 37, 38, 40, 41, 42, 46, 47, 48, 49, 50, 51] f fva := hSma.tr hSm (by decide) (by decide)
          have hFs : fmS [25, 35, 39, 43, 44, 45] fm fmva := hFsa.tr hFs (by decide) (by decide)
          refine lv_iconst (v := 0) hx hb dX6_come_76 (by decide) ?_
          refine lv_istore (lv' := [(5, .int 0), (0, .ref (rt 51)), (1, .int (nI rd)), (2, .int (nI pg)), (3, .long zl)]) hx hb dX6_come_77 hl (by decide) rfl (fun ls hl => ?_)
          refine lv_iconst (v := 0) hx hb dX6_come_79 (by decide) ?_
          refine lv_istore (lv' := [(6, .int 0), (5, .int 0), (0, .ref (rt 51)), (1, .int (nI rd)), (2, .int (nI pg)), (3, .long zl)]) hx hb dX6_come_80 hl (by decide) rfl (fun ls hl => ?_)
          have hSmb := hSm
          have hFsb := hFs
          refine k_lx (pcx := 135) (fun n H locs ls => ∃ (fvb : Nat → va_E) (fmvb : List Value) (gmB : Nat → Int64) (goB : Nat → Int32) (gnB : Nat → Int32) (guB : Nat → Int64) (gfB : Nat → Int32) (gaB : Nat → Int32) (tp : Nat → Int32) (j : Nat) (rn : Int32) (b3B : Int32) (b4B : Int64) (b5B : Int32), sp - j = n ∧ gSm rt [38, 40, 41, 42, 47, 48, 50, 51] fva fvb ∧ fmS [43, 44, 45] fmva fmvb ∧ mC rt L fvb fmvb ∧ fvb (rt 38) = .inl (K 1, 5, .inr (.inl gmB)) ∧ fvb (rt 47) = .inl (K 0, 40, .inl goB) ∧ fvb (rt 48) = .inl (K 0, 5, .inl gnB) ∧ fvb (rt 41) = .inl (K 1, 5, .inr (.inl guB)) ∧ fvb (rt 42) = .inl (K 0, 5, .inl gfB) ∧ fvb (rt 40) = .inl (K 0, 5, .inl gaB) ∧ fvb (rt 50) = .inl (K 0, 4, .inl tp) ∧ fmvb[45]? = some (.int b3B) ∧ fmvb[43]? = some (.long b4B) ∧ fmvb[44]? = some (.int b5B) ∧ (j ≤ sp) ∧ va_P (dC, dI) vwCl (va_pl L fvb) H ∧ va_S A s.heap H locs ∧ lv_has ls 7 [(0, .ref (rt 51)), (1, .int (nI rd)), (2, .int (nI pg)), (3, .long zl), (5, .int rn), (6, .int (nI j))]) (fun H locs ls => ∃ (fvb : Nat → va_E) (fmvb : List Value) (gmB : Nat → Int64) (goB : Nat → Int32) (gnB : Nat → Int32) (guB : Nat → Int64) (gfB : Nat → Int32) (gaB : Nat → Int32) (tp : Nat → Int32) (j : Nat) (rn : Int32) (b3B : Int32) (b4B : Int64) (b5B : Int32), gSm rt [38, 40, 41, 42, 47, 48, 50, 51] fva fvb ∧ fmS [43, 44, 45] fmva fmvb ∧ mC rt L fvb fmvb ∧ fvb (rt 38) = .inl (K 1, 5, .inr (.inl gmB)) ∧ fvb (rt 47) = .inl (K 0, 40, .inl goB) ∧ fvb (rt 48) = .inl (K 0, 5, .inl gnB) ∧ fvb (rt 41) = .inl (K 1, 5, .inr (.inl guB)) ∧ fvb (rt 42) = .inl (K 0, 5, .inl gfB) ∧ fvb (rt 40) = .inl (K 0, 5, .inl gaB) ∧ fvb (rt 50) = .inl (K 0, 4, .inl tp) ∧ fmvb[45]? = some (.int b3B) ∧ fmvb[43]? = some (.long b4B) ∧ fmvb[44]? = some (.int b5B) ∧ (j ≤ sp) ∧ va_P (dC, dI) vwCl (va_pl L fvb) H ∧ va_S A s.heap H locs ∧ lv_has ls 7 [(0, .ref (rt 51)), (1, .int (nI rd)), (2, .int (nI pg)), (3, .long zl), (5, .int rn), (6, .int (nI j))]) (fun H locs ls hI => ?_) (fun n H locs ls hI hEb ihb => ?_) _ _ _ _ ⟨fva, fmva, _, _, _, _, _, _, _, 0, _, _, _, _, rfl, gSm.rf, fmS.rf, hC, F_mostAt, F_order, F_next, F_upTo, F_filledTo, F_at, F_toPay, I_hasBest, I_bestSum, I_bestFilled, Nat.zero_le _, hP, hS, lv_sub hl [2, 3, 4, 5, 1, 0] rfl⟩
          · skip
            obtain ⟨fvb, fmvb, gmB, goB, gnB, guB, gfB, gaB, tp, j, rn, b3B, b4B, b5B, hSm, hFs, hC, NF_mostAt, NF_order, NF_next, NF_upTo, NF_filledTo, NF_at, NF_toPay, NI_hasBest, NI_bestSum, NI_bestFilled, hj, hP, hS, hl⟩ := hI
            have F_saleOf : fvb (rt 30) = .inl (K 0, 1000, .inl g_saleOf) := (hSm.at hC.1 (by decide) (by decide)).trans F_saleOf
            have F_saleReader : fvb (rt 27) = .inl (K 0, 1000, .inl g_saleReader) := (hSm.at hC.1 (by decide) (by decide)).trans F_saleReader
            have F_saleTick : fvb (rt 26) = .inl (K 0, 1000, .inl g_saleTick) := (hSm.at hC.1 (by decide) (by decide)).trans F_saleTick
            have F_salePage : fvb (rt 28) = .inl (K 0, 1000, .inl g_salePage) := (hSm.at hC.1 (by decide) (by decide)).trans F_salePage
            have F_state : fvb (rt 32) = .inl (K 0, 1000, .inl g_state) := (hSm.at hC.1 (by decide) (by decide)).trans F_state
            have F_price : fvb (rt 31) = .inl (K 0, 1000, .inl g_price) := (hSm.at hC.1 (by decide) (by decide)).trans F_price
            have F_pressTick : fvb (rt 34) = .inl (K 0, 1000, .inl g_pressTick) := (hSm.at hC.1 (by decide) (by decide)).trans F_pressTick
            have F_salePlace : fvb (rt 29) = .inl (K 0, 1000, .inl g_salePlace) := (hSm.at hC.1 (by decide) (by decide)).trans F_salePlace
            have F_saleWait : fvb (rt 33) = .inl (K 0, 1000, .inl g_saleWait) := (hSm.at hC.1 (by decide) (by decide)).trans F_saleWait
            have F_mayBe : fvb (rt 36) = .inl (K 0, 40, .inl gb) := (hSm.at hC.1 (by decide) (by decide)).trans F_mayBe
            have F_worth : fvb (rt 37) = .inl (K 1, 160, .inr (.inl gw)) := (hSm.at hC.1 (by decide) (by decide)).trans F_worth
            have F_given : fvb (rt 46) = .inl (K 0, 4, .inl gg) := (hSm.at hC.1 (by decide) (by decide)).trans F_given
            have F_toSell : fvb (rt 49) = .inl (K 0, 4, .inl ts) := (hSm.at hC.1 (by decide) (by decide)).trans F_toSell
            have F_mostAt := NF_mostAt
            have F_order := NF_order
            have F_next := NF_next
            have F_upTo := NF_upTo
            have F_filledTo := NF_filledTo
            have F_at := NF_at
            have F_toPay := NF_toPay
            have F_m : fvb (rt 51) = .inr (6, fmvb) := hC.2.1
            have I_sales : fmvb[25]? = some (.int (nI ns)) := (hFs.2 25 (by decide)).trans I_sales
            have I_campaigns : fmvb[9]? = some (.int (nI nc)) := (hFs.2 9 (by decide)).trans I_campaigns
            have I_tick : fmvb[1]? = some (.int t) := (hFs.2 1 (by decide)).trans I_tick
            have I_pages : fmvb[5]? = some (.int (nI np)) := (hFs.2 5 (by decide)).trans I_pages
            have I_rule : fmvb[2]? = some (.int ru) := (hFs.2 2 (by decide)).trans I_rule
            have I_wait : fmvb[4]? = some (.int wt) := (hFs.2 4 (by decide)).trans I_wait
            have I_may : fmvb[35]? = some (.int (nI mm)) := (hFs.2 35 (by decide)).trans I_may
            have I_spots : fmvb[39]? = some (.int (nI sp)) := (hFs.2 39 (by decide)).trans I_spots
            have I_hasBest := NI_hasBest
            have I_bestSum := NI_bestSum
            have I_bestFilled := NI_bestFilled
            have hD : va_D A (va_pl L fvb) := g_D hLn (fun a h => by rw [← hAe]; exact h) fvb
            have hSmLb := hSm
            have hSm : gSm rt [26, 27, 28, 29, 30, 31, 32, 33, 34, 36, 37, 38, 40, 41, 42, 46, 47, 48, 49, 50, 51] f fvb := hSmb.tr hSm (by decide) (by decide)
            have hFs : fmS [25, 35, 39, 43, 44, 45] fm fmvb := hFsb.tr hFs (by decide) (by decide)
            refine lv_iconst (v := 0) hx hb dX6_come_135 (by decide) ?_
            refine lv_istore (lv' := [(6, .int 0), (0, .ref (rt 51)), (1, .int (nI rd)), (2, .int (nI pg)), (3, .long zl), (5, .int rn)]) hx hb dX6_come_136 hl (by decide) rfl (fun ls hl => ?_)
            have hSmd := hSm
            have hFsd := hFs
            refine k_lx (pcx := 171) (fun n H locs ls => ∃ (fvd : Nat → va_E) (fmvd : List Value) (h0 : Nat → Int32) (h1 : Nat → Int32) (h2 : Nat → Int32) (h3 : Nat → Int32) (h4 : Nat → Int32) (h5 : Nat → Int32) (h6 : Nat → Int32) (h7 : Nat → Int32) (h8 : Nat → Int32) (j : Nat) (rn : Int32) (ns2 : Nat), sp - j = n ∧ gSm rt [26, 27, 28, 29, 30, 31, 32, 33, 34, 51] fvb fvd ∧ fmS [25] fmvb fmvd ∧ mC rt L fvd fmvd ∧ fvd (rt 26) = .inl (K 0, 1000, .inl h0) ∧ fvd (rt 27) = .inl (K 0, 1000, .inl h1) ∧ fvd (rt 28) = .inl (K 0, 1000, .inl h2) ∧ fvd (rt 29) = .inl (K 0, 1000, .inl h3) ∧ fvd (rt 30) = .inl (K 0, 1000, .inl h4) ∧ fvd (rt 31) = .inl (K 0, 1000, .inl h5) ∧ fvd (rt 32) = .inl (K 0, 1000, .inl h6) ∧ fvd (rt 33) = .inl (K 0, 1000, .inl h7) ∧ fvd (rt 34) = .inl (K 0, 1000, .inl h8) ∧ fmvd[25]? = some (.int (nI ns2)) ∧ (j ≤ sp) ∧ (ns2 + sp ≤ 1000 + j) ∧ (∀ j, j < ns2 → vp_in (h4 j) 40) ∧ va_P (dC, dI) vwCl (va_pl L fvd) H ∧ va_S A s.heap H locs ∧ lv_has ls 7 [(0, .ref (rt 51)), (1, .int (nI rd)), (2, .int (nI pg)), (5, .int rn), (6, .int (nI j))]) (fun H locs ls => ∃ (fvd : Nat → va_E) (fmvd : List Value) (h0 : Nat → Int32) (h1 : Nat → Int32) (h2 : Nat → Int32) (h3 : Nat → Int32) (h4 : Nat → Int32) (h5 : Nat → Int32) (h6 : Nat → Int32) (h7 : Nat → Int32) (h8 : Nat → Int32) (j : Nat) (rn : Int32) (ns2 : Nat), gSm rt [26, 27, 28, 29, 30, 31, 32, 33, 34, 51] fvb fvd ∧ fmS [25] fmvb fmvd ∧ mC rt L fvd fmvd ∧ fvd (rt 26) = .inl (K 0, 1000, .inl h0) ∧ fvd (rt 27) = .inl (K 0, 1000, .inl h1) ∧ fvd (rt 28) = .inl (K 0, 1000, .inl h2) ∧ fvd (rt 29) = .inl (K 0, 1000, .inl h3) ∧ fvd (rt 30) = .inl (K 0, 1000, .inl h4) ∧ fvd (rt 31) = .inl (K 0, 1000, .inl h5) ∧ fvd (rt 32) = .inl (K 0, 1000, .inl h6) ∧ fvd (rt 33) = .inl (K 0, 1000, .inl h7) ∧ fvd (rt 34) = .inl (K 0, 1000, .inl h8) ∧ fmvd[25]? = some (.int (nI ns2)) ∧ (j ≤ sp) ∧ (ns2 + sp ≤ 1000 + j) ∧ (∀ j, j < ns2 → vp_in (h4 j) 40) ∧ va_P (dC, dI) vwCl (va_pl L fvd) H ∧ va_S A s.heap H locs ∧ lv_has ls 7 [(0, .ref (rt 51)), (1, .int (nI rd)), (2, .int (nI pg)), (5, .int rn), (6, .int (nI j))]) (fun H locs ls hI => ?_) (fun n H locs ls hI hEd ihd => ?_) _ _ _ _ ⟨fvb, fmvb, _, _, _, _, _, _, _, _, _, 0, _, ns, rfl, gSm.rf, fmS.rf, hC, F_saleTick, F_saleReader, F_salePage, F_salePlace, F_saleOf, F_price, F_state, F_saleWait, F_pressTick, I_sales, Nat.zero_le _, by omega, hso, hP, hS, lv_sub hl [1, 2, 3, 5, 0] rfl⟩
            · skip
              obtain ⟨fvd, fmvd, h0, h1, h2, h3, h4, h5, h6, h7, h8, j, rn, ns2, hSm, hFs, hC, NF_saleTick, NF_saleReader, NF_salePage, NF_salePlace, NF_saleOf, NF_price, NF_state, NF_saleWait, NF_pressTick, NI_sales, hj, hns2, hso2, hP, hS, hl⟩ := hI
              have F_mayBe : fvd (rt 36) = .inl (K 0, 40, .inl gb) := (hSm.at hC.1 (by decide) (by decide)).trans F_mayBe
              have F_worth : fvd (rt 37) = .inl (K 1, 160, .inr (.inl gw)) := (hSm.at hC.1 (by decide) (by decide)).trans F_worth
              have F_given : fvd (rt 46) = .inl (K 0, 4, .inl gg) := (hSm.at hC.1 (by decide) (by decide)).trans F_given
              have F_toSell : fvd (rt 49) = .inl (K 0, 4, .inl ts) := (hSm.at hC.1 (by decide) (by decide)).trans F_toSell
              have F_mostAt : fvd (rt 38) = .inl (K 1, 5, .inr (.inl gmB)) := (hSm.at hC.1 (by decide) (by decide)).trans F_mostAt
              have F_order : fvd (rt 47) = .inl (K 0, 40, .inl goB) := (hSm.at hC.1 (by decide) (by decide)).trans F_order
              have F_next : fvd (rt 48) = .inl (K 0, 5, .inl gnB) := (hSm.at hC.1 (by decide) (by decide)).trans F_next
              have F_upTo : fvd (rt 41) = .inl (K 1, 5, .inr (.inl guB)) := (hSm.at hC.1 (by decide) (by decide)).trans F_upTo
              have F_filledTo : fvd (rt 42) = .inl (K 0, 5, .inl gfB) := (hSm.at hC.1 (by decide) (by decide)).trans F_filledTo
              have F_at : fvd (rt 40) = .inl (K 0, 5, .inl gaB) := (hSm.at hC.1 (by decide) (by decide)).trans F_at
              have F_toPay : fvd (rt 50) = .inl (K 0, 4, .inl tp) := (hSm.at hC.1 (by decide) (by decide)).trans F_toPay
              have F_saleTick := NF_saleTick
              have F_saleReader := NF_saleReader
              have F_salePage := NF_salePage
              have F_salePlace := NF_salePlace
              have F_saleOf := NF_saleOf
              have F_price := NF_price
              have F_state := NF_state
              have F_saleWait := NF_saleWait
              have F_pressTick := NF_pressTick
              have F_m : fvd (rt 51) = .inr (6, fmvd) := hC.2.1
              have I_campaigns : fmvd[9]? = some (.int (nI nc)) := (hFs.2 9 (by decide)).trans I_campaigns
              have I_tick : fmvd[1]? = some (.int t) := (hFs.2 1 (by decide)).trans I_tick
              have I_pages : fmvd[5]? = some (.int (nI np)) := (hFs.2 5 (by decide)).trans I_pages
              have I_rule : fmvd[2]? = some (.int ru) := (hFs.2 2 (by decide)).trans I_rule
              have I_wait : fmvd[4]? = some (.int wt) := (hFs.2 4 (by decide)).trans I_wait
              have I_may : fmvd[35]? = some (.int (nI mm)) := (hFs.2 35 (by decide)).trans I_may
              have I_spots : fmvd[39]? = some (.int (nI sp)) := (hFs.2 39 (by decide)).trans I_spots
              have I_hasBest : fmvd[45]? = some (.int b3B) := (hFs.2 45 (by decide)).trans I_hasBest
              have I_bestSum : fmvd[43]? = some (.long b4B) := (hFs.2 43 (by decide)).trans I_bestSum
              have I_bestFilled : fmvd[44]? = some (.int b5B) := (hFs.2 44 (by decide)).trans I_bestFilled
              have I_sales := NI_sales
              have hD : va_D A (va_pl L fvd) := g_D hLn (fun a h => by rw [← hAe]; exact h) fvd
              have hSmLd := hSm
              have hSm : gSm rt [26, 27, 28, 29, 30, 31, 32, 33, 34, 36, 37, 38, 40, 41, 42, 46, 47, 48, 49, 50, 51] f fvd := hSmd.tr hSm (by decide) (by decide)
              have hFs : fmS [25, 35, 39, 43, 44, 45] fm fmvd := hFsd.tr hFs (by decide) (by decide)
              refine lv_iload hx hb dX6_come_171 (lv_at hl 3 rfl) ?_
              exact W.iret (v := rn) hx hb hr (fun t ht hW => ⟨⟨rn, fvd, rfl, (Or.inr ⟨fmvd, ns2, _, _, _, _, _, _, _, _, _, _, _, _, _, _, _, _, _, _, _, _, hSm, hFs, hC, F_mayBe, F_worth, F_mostAt, F_order, F_next, F_upTo, F_filledTo, F_at, F_given, F_saleTick, F_saleReader, F_salePage, F_salePlace, F_saleOf, F_price, F_state, F_saleWait, F_pressTick, F_toSell, F_toPay, I_sales, ⟨_, I_may⟩, ⟨_, I_spots⟩, ⟨_, I_hasBest⟩, ⟨_, I_bestSum⟩, ⟨_, I_bestFilled⟩, by omega, hso2⟩), by show va_P (dC, dI) vwCl (va_pl L fvd) t.heap; rw [ht]; exact hP⟩, hS.F ht⟩) hS.2.2 dX6_come_173
            · skip
              obtain ⟨fvd, fmvd, h0, h1, h2, h3, h4, h5, h6, h7, h8, j, rn, ns2, hmud, hSm, hFs, hC, NF_saleTick, NF_saleReader, NF_salePage, NF_salePlace, NF_saleOf, NF_price, NF_state, NF_saleWait, NF_pressTick, NI_sales, hj, hns2, hso2, hP, hS, hl⟩ := hI
              have F_saleTick := NF_saleTick
              have F_saleReader := NF_saleReader
              have F_salePage := NF_salePage
              have F_salePlace := NF_salePlace
              have F_saleOf := NF_saleOf
              have F_price := NF_price
              have F_state := NF_state
              have F_saleWait := NF_saleWait
              have F_pressTick := NF_pressTick
              have F_m : fvd (rt 51) = .inr (6, fmvd) := hC.2.1
              have I_campaigns : fmvd[9]? = some (.int (nI nc)) := (hFs.2 9 (by decide)).trans I_campaigns
              have I_tick : fmvd[1]? = some (.int t) := (hFs.2 1 (by decide)).trans I_tick
              have I_pages : fmvd[5]? = some (.int (nI np)) := (hFs.2 5 (by decide)).trans I_pages
              have I_rule : fmvd[2]? = some (.int ru) := (hFs.2 2 (by decide)).trans I_rule
              have I_wait : fmvd[4]? = some (.int wt) := (hFs.2 4 (by decide)).trans I_wait
              have I_may : fmvd[35]? = some (.int (nI mm)) := (hFs.2 35 (by decide)).trans I_may
              have I_spots : fmvd[39]? = some (.int (nI sp)) := (hFs.2 39 (by decide)).trans I_spots
              have I_hasBest : fmvd[45]? = some (.int b3B) := (hFs.2 45 (by decide)).trans I_hasBest
              have I_bestSum : fmvd[43]? = some (.long b4B) := (hFs.2 43 (by decide)).trans I_bestSum
              have I_bestFilled : fmvd[44]? = some (.int b5B) := (hFs.2 44 (by decide)).trans I_bestFilled
              have I_sales := NI_sales
              have hD : va_D A (va_pl L fvd) := g_D hLn (fun a h => by rw [← hAe]; exact h) fvd
              refine lv_iload hx hb dX6_come_138 (lv_at hl 4 rfl) ?_
              refine lv_aload_n hx hb dX6_come_140 rfl (lv_at hl 0 rfl) ?_
              refine g_get (ci := 6) (v := .int (nI sp)) (C := RX6) (T := TX6) (N := 51) hx hb hts uB6 hown hK hP (hC.1.1 51 (by decide)) F_m rfl 39 (by decide) wm_131 I_spots dX6_come_141 ?_
              refine lv_icmp_ge (tgt := 171) hx hb dX6_come_144 (by decide) (fun c_10 => ?_) (fun c_10 => ?_)
              · skip
                have nc_10 : sp ≤ j := (bn_le (a := sp) (b := j) (by omega) (by omega)).mp (show nI sp ≤ nI j from c_10)
                exact hEd _ _ _ ⟨fvd, fmvd, _, _, _, _, _, _, _, _, _, j, _, ns2, hSm, hFs, hC, F_saleTick, F_saleReader, F_salePage, F_salePlace, F_saleOf, F_price, F_state, F_saleWait, F_pressTick, I_sales, hj, hns2, hso2, hP, hS, lv_sub hl [0, 1, 2, 3, 4] rfl⟩
              · skip
                have nc_10 : ¬ (sp ≤ j) := fun q => c_10 (show nI sp ≤ nI j from (bn_le (a := sp) (b := j) (by omega) (by omega)).mpr q)
                refine lv_aload_n hx hb dX6_come_147 rfl (lv_at hl 0 rfl) ?_
                refine g_get (ci := 6) (v := .ref (rt 49)) (C := RX6) (T := TX6) (N := 51) hx hb hts uB6 hown hK hP (hC.1.1 51 (by decide)) F_m rfl 49 (by decide) wm_124 (hC.2.2.2 49 (by decide)) dX6_come_148 ?_
                refine lv_iload hx hb dX6_come_151 (lv_at hl 4 rfl) ?_
                refine g_iald hx hb hK hP (hC.1.1 49 (by decide)) ((hSm.at hC.1 (by decide) (by decide)).trans F_toSell) (vp_in_nI (by omega) (by decide)) dX6_come_153 ?_
                refine lv_topi (fun x_11 ex_11 => ?_)
                rw [nI_clamp (by omega)] at ex_11
                refine lv_if_lt (tgt := 165) hx hb dX6_come_154 (by decide) (fun c_12 => ?_) (fun c_12 => ?_)
                · skip
                  refine lv_iinc (v := nI (j + 1)) (lv' := [(6, .int (nI (j + 1))), (0, .ref (rt 51)), (1, .int (nI rd)), (2, .int (nI pg)), (5, .int rn)]) hx hb dX6_come_165 hl (k := 4) rfl (by exact nI_1 _) (by decide) rfl (fun ls hl => ?_)
                  refine lv_goto (tgt := 138) hx hb dX6_come_168 (by decide) ?_
                  exact ihd _ (by omega) _ _ _ ⟨fvd, fmvd, _, _, _, _, _, _, _, _, _, (j + 1), _, ns2, rfl, hSm, hFs, hC, F_saleTick, F_saleReader, F_salePage, F_salePlace, F_saleOf, F_price, F_state, F_saleWait, F_pressTick, I_sales, by omega, by omega, hso2, hP, hS, lv_sub hl [1, 2, 3, 4, 0] rfl⟩
                · skip
                  obtain ⟨i8, hi8, hie8⟩ := (hts9 j (by omega)).resolve_left (fun q => by rw [ex_11, q] at c_12; exact absurd c_12 (by decide))
                  obtain ⟨cn, hcn, hce9⟩ := hmb i8 hi8
                  have hce := hie8.trans hce9
                  have hcin : ∃ i : Nat, i < mm ∧ gb i = nI cn := ⟨i8, hi8, hce9⟩
                  refine lv_aload_n hx hb dX6_come_157 rfl (lv_at hl 0 rfl) ?_
                  refine lv_iload_n hx hb dX6_come_158 rfl (lv_at hl 1 rfl) ?_
                  refine lv_iload_n hx hb dX6_come_159 rfl (lv_at hl 2 rfl) ?_
                  refine lv_iload hx hb dX6_come_160 (lv_at hl 4 rfl) ?_
                  refine gc_Mv (ci := 6) ⟨hx, hb, hml, hown, hts⟩ (um_sell2 l dC dI K L fvd rt hC F_saleTick F_saleReader F_salePage F_salePlace F_saleOf F_price F_state F_saleWait F_pressTick ((hSm.at hC.1 (by decide) (by decide)).trans ((hSmd.at hC.1 (by decide) (by decide)).trans F_pays)) ((hSm.at hC.1 (by decide) (by decide)).trans F_toSell) ((hSm.at hC.1 (by decide) (by decide)).trans F_toPay) I_sales I_tick I_wait (nI rd) (nI pg) j (by omega) (by omega) hce (by omega) hLn) 3 wm_171 wm_172 wm_173 wm_8 wm_174 (by decide +kernel) ⟨Nat.le_of_ble_eq_true rfl, Nat.le_of_ble_eq_true rfl⟩ hK rfl (hC.1.1 51 (by decide)) F_m rfl hl.1 rfl (Nat.le_of_ble_eq_true rfl) dX6_come_162 ⟨Nat.le_of_ble_eq_true rfl, Nat.le_of_ble_eq_true rfl⟩ (fun a h => by rw [← hAe]; exact h) hS hP (fun fw_13 H locs hpw hP hS => ?_)
                  obtain ⟨fm5, h0P, h1P, h2P, h3P, h4P, h5P, h6P, h7P, h8P, hSmC, hFsC, hCC, NF_saleTick, NF_saleReader, NF_salePage, NF_salePlace, NF_saleOf, NF_price, NF_state, NF_saleWait, NF_pressTick, NI_sales, eso⟩ := hpw
                  have hC := hCC
                  have F_m : fw_13 (rt 51) = .inr (6, fm5) := hC.2.1
                  have hSm : gSm rt [26, 27, 28, 29, 30, 31, 32, 33, 34, 51] fvb fw_13 := hSm.tr hSmC (by decide) (by decide)
                  have I_campaigns : fm5[9]? = some (.int (nI nc)) := (hFsC.2 9 (by decide)).trans I_campaigns
                  have I_tick : fm5[1]? = some (.int t) := (hFsC.2 1 (by decide)).trans I_tick
                  have I_pages : fm5[5]? = some (.int (nI np)) := (hFsC.2 5 (by decide)).trans I_pages
                  have I_rule : fm5[2]? = some (.int ru) := (hFsC.2 2 (by decide)).trans I_rule
                  have I_wait : fm5[4]? = some (.int wt) := (hFsC.2 4 (by decide)).trans I_wait
                  have I_may : fm5[35]? = some (.int (nI mm)) := (hFsC.2 35 (by decide)).trans I_may
                  have I_spots : fm5[39]? = some (.int (nI sp)) := (hFsC.2 39 (by decide)).trans I_spots
                  have I_hasBest : fm5[45]? = some (.int b3B) := (hFsC.2 45 (by decide)).trans I_hasBest
                  have I_bestSum : fm5[43]? = some (.long b4B) := (hFsC.2 43 (by decide)).trans I_bestSum
                  have I_bestFilled : fm5[44]? = some (.int b5B) := (hFsC.2 44 (by decide)).trans I_bestFilled
                  have hFs : fmS [25] fmvb fm5 := hFs.tr hFsC (by decide) (by decide)
                  have hD : va_D A (va_pl L fw_13) := g_D hLn (fun a h => by rw [← hAe]; exact h) fw_13
                  have F_saleTick := NF_saleTick
                  have F_saleReader := NF_saleReader
                  have F_salePage := NF_salePage
                  have F_salePlace := NF_salePlace
                  have F_saleOf := NF_saleOf
                  have F_price := NF_price
                  have F_state := NF_state
                  have F_saleWait := NF_saleWait
                  have F_pressTick := NF_pressTick
                  have I_sales := NI_sales
                  refine lv_iinc (v := nI (j + 1)) (lv' := [(6, .int (nI (j + 1))), (0, .ref (rt 51)), (1, .int (nI rd)), (2, .int (nI pg)), (5, .int rn)]) hx hb dX6_come_165 hl (k := 4) rfl (by exact nI_1 _) (by decide) rfl (fun ls hl => ?_)
                  refine lv_goto (tgt := 138) hx hb dX6_come_168 (by decide) ?_
                  have hso3 : ∀ j9, j9 < ns2 + 1 → vp_in (h4P j9) 40 := fun j9 hj9 => by
                    by_cases q : j9 = ns2
                    · rw [q, eso, pk_us]; exact vp_in_nI (by omega) (by decide)
                    · rw [eso, pk_un q]; exact hso2 j9 (by omega)
                  exact ihd _ (by omega) _ _ _ ⟨fw_13, fm5, _, _, _, _, _, _, _, _, _, (j + 1), _, (ns2 + 1), rfl, hSm, hFs, hC, F_saleTick, F_saleReader, F_salePage, F_salePlace, F_saleOf, F_price, F_state, F_saleWait, F_pressTick, I_sales, by omega, by omega, hso3, hP, hS, lv_sub hl [1, 2, 3, 4, 0] rfl⟩
          · skip
            obtain ⟨fvb, fmvb, gmB, goB, gnB, guB, gfB, gaB, tp, j, rn, b3B, b4B, b5B, hmub, hSm, hFs, hC, NF_mostAt, NF_order, NF_next, NF_upTo, NF_filledTo, NF_at, NF_toPay, NI_hasBest, NI_bestSum, NI_bestFilled, hj, hP, hS, hl⟩ := hI
            have F_mostAt := NF_mostAt
            have F_order := NF_order
            have F_next := NF_next
            have F_upTo := NF_upTo
            have F_filledTo := NF_filledTo
            have F_at := NF_at
            have F_toPay := NF_toPay
            have F_m : fvb (rt 51) = .inr (6, fmvb) := hC.2.1
            have I_sales : fmvb[25]? = some (.int (nI ns)) := (hFs.2 25 (by decide)).trans I_sales
            have I_campaigns : fmvb[9]? = some (.int (nI nc)) := (hFs.2 9 (by decide)).trans I_campaigns
            have I_tick : fmvb[1]? = some (.int t) := (hFs.2 1 (by decide)).trans I_tick
            have I_pages : fmvb[5]? = some (.int (nI np)) := (hFs.2 5 (by decide)).trans I_pages
            have I_rule : fmvb[2]? = some (.int ru) := (hFs.2 2 (by decide)).trans I_rule
            have I_wait : fmvb[4]? = some (.int wt) := (hFs.2 4 (by decide)).trans I_wait
            have I_may : fmvb[35]? = some (.int (nI mm)) := (hFs.2 35 (by decide)).trans I_may
            have I_spots : fmvb[39]? = some (.int (nI sp)) := (hFs.2 39 (by decide)).trans I_spots
            have I_hasBest := NI_hasBest
            have I_bestSum := NI_bestSum
            have I_bestFilled := NI_bestFilled
            have hD : va_D A (va_pl L fvb) := g_D hLn (fun a h => by rw [← hAe]; exact h) fvb
            refine lv_iload hx hb dX6_come_82 (lv_at hl 5 rfl) ?_
            refine lv_aload_n hx hb dX6_come_84 rfl (lv_at hl 0 rfl) ?_
            refine g_get (ci := 6) (v := .int (nI sp)) (C := RX6) (T := TX6) (N := 51) hx hb hts uB6 hown hK hP (hC.1.1 51 (by decide)) F_m rfl 39 (by decide) wm_131 I_spots dX6_come_85 ?_
            refine lv_icmp_ge (tgt := 135) hx hb dX6_come_88 (by decide) (fun c_14 => ?_) (fun c_14 => ?_)
            · skip
              have nc_14 : sp ≤ j := (bn_le (a := sp) (b := j) (by omega) (by omega)).mp (show nI sp ≤ nI j from c_14)
              exact hEb _ _ _ ⟨fvb, fmvb, _, _, _, _, _, _, _, j, _, _, _, _, hSm, hFs, hC, F_mostAt, F_order, F_next, F_upTo, F_filledTo, F_at, F_toPay, I_hasBest, I_bestSum, I_bestFilled, hj, hP, hS, lv_sub hl [0, 1, 2, 3, 4, 5] rfl⟩
            · skip
              have nc_14 : ¬ (sp ≤ j) := fun q => c_14 (show nI sp ≤ nI j from (bn_le (a := sp) (b := j) (by omega) (by omega)).mpr q)
              refine lv_aload_n hx hb dX6_come_91 rfl (lv_at hl 0 rfl) ?_
              refine g_get (ci := 6) (v := .ref (rt 49)) (C := RX6) (T := TX6) (N := 51) hx hb hts uB6 hown hK hP (hC.1.1 51 (by decide)) F_m rfl 49 (by decide) wm_124 (hC.2.2.2 49 (by decide)) dX6_come_92 ?_
              refine lv_iload hx hb dX6_come_95 (lv_at hl 5 rfl) ?_
              refine g_iald hx hb hK hP (hC.1.1 49 (by decide)) ((hSm.at hC.1 (by decide) (by decide)).trans F_toSell) (vp_in_nI (by omega) (by decide)) dX6_come_97 ?_
              refine lv_topi (fun x_15 ex_15 => ?_)
              rw [nI_clamp (by omega)] at ex_15
              refine lv_if_ge (tgt := 104) hx hb dX6_come_98 (by decide) (fun c_16 => ?_) (fun c_16 => ?_)
              · skip
                obtain ⟨i8, hi8, hie8⟩ := (hts9 j (by omega)).resolve_left (fun q => by rw [ex_15, q] at c_16; exact absurd c_16 (by decide))
                obtain ⟨cn, hcn, hce9⟩ := hmb i8 hi8
                have hce := hie8.trans hce9
                have hcin : ∃ i : Nat, i < mm ∧ gb i = nI cn := ⟨i8, hi8, hce9⟩
                refine lv_aload_n hx hb dX6_come_104 rfl (lv_at hl 0 rfl) ?_
                refine g_get (ci := 6) (v := .ref (rt 50)) (C := RX6) (T := TX6) (N := 51) hx hb hts uB6 hown hK hP (hC.1.1 51 (by decide)) F_m rfl 50 (by decide) wm_125 (hC.2.2.2 50 (by decide)) dX6_come_105 ?_
                refine lv_iload hx hb dX6_come_108 (lv_at hl 5 rfl) ?_
                refine lv_aload_n hx hb dX6_come_110 rfl (lv_at hl 0 rfl) ?_
                refine lv_aload_n hx hb dX6_come_111 rfl (lv_at hl 0 rfl) ?_
                refine g_get (ci := 6) (v := .ref (rt 49)) (C := RX6) (T := TX6) (N := 51) hx hb hts uB6 hown hK hP (hC.1.1 51 (by decide)) F_m rfl 49 (by decide) wm_124 (hC.2.2.2 49 (by decide)) dX6_come_112 ?_
                refine lv_iload hx hb dX6_come_115 (lv_at hl 5 rfl) ?_
                refine g_iald hx hb hK hP (hC.1.1 49 (by decide)) ((hSm.at hC.1 (by decide) (by decide)).trans F_toSell) (vp_in_nI (by omega) (by decide)) dX6_come_117 ?_
                refine lv_topi (fun x_17 ex_17 => ?_)
                rw [nI_clamp (by omega)] at ex_17
                obtain rfl : x_17 = nI cn := ex_17.trans hce
                refine lv_iload_n hx hb dX6_come_118 rfl (lv_at hl 2 rfl) ?_
                refine lv_iload hx hb dX6_come_119 (lv_at hl 5 rfl) ?_
                refine lv_lload_n hx hb dX6_come_121 rfl (lv_at hl 3 rfl) ?_
                refine gc_Mi (ci := 6) ⟨hx, hb, hml, hown, hts⟩ (um_priceOf l dC dI K L fvb rt hC F_mostAt F_order F_next F_upTo F_filledTo F_at ((hSm.at hC.1 (by decide) (by decide)).trans F_worth) ((hSm.at hC.1 (by decide) (by decide)).trans F_mayBe) ((hSm.at hC.1 (by decide) (by decide)).trans ((hSmb.at hC.1 (by decide) (by decide)).trans F_apart)) ((hSm.at hC.1 (by decide) (by decide)).trans ((hSmb.at hC.1 (by decide) (by decide)).trans F_sort)) ((hSm.at hC.1 (by decide) (by decide)).trans ((hSmb.at hC.1 (by decide) (by decide)).trans F_bid)) ((hSm.at hC.1 (by decide) (by decide)).trans ((hSmb.at hC.1 (by decide) (by decide)).trans F_sizes)) I_may I_spots I_hasBest I_bestSum I_bestFilled I_rule cn pg j zl hnc hmnc hsp1 hsp hmb hww (by omega) (by omega) hcn hcin hLn) 4 wm_175 wm_176 wm_177 wm_8 wm_178 (by decide +kernel) ⟨Nat.le_of_ble_eq_true rfl, Nat.le_of_ble_eq_true rfl⟩ hK rfl (hC.1.1 51 (by decide)) F_m rfl hl.1 rfl (Nat.le_of_ble_eq_true rfl) dX6_come_122 ⟨Nat.le_of_ble_eq_true rfl, Nat.le_of_ble_eq_true rfl⟩ (fun a h => by rw [← hAe]; exact h) hS hP (fun r_19 fw_18 H locs hpw hP hS => ?_)
                obtain ⟨fm4, gmP, goP, gnP, guP, gfP, gaP, hSmC, hFsC, hCC, NF_mostAt, NF_order, NF_next, NF_upTo, NF_filledTo, NF_at, ⟨b3P, NI_hasBest⟩, ⟨b4P, NI_bestSum⟩, ⟨b5P, NI_bestFilled⟩⟩ : ∃ (fm4 : List Value) (gm : Nat → Int64) (go : Nat → Int32) (gn : Nat → Int32) (gu : Nat → Int64) (gf : Nat → Int32) (ga : Nat → Int32), gSm rt [38, 40, 41, 42, 47, 48, 51] fvb fw_18 ∧ fmS [43, 44, 45] fmvb fm4 ∧ mC rt L fw_18 fm4 ∧ fw_18 (rt 38) = .inl (K 1, 5, .inr (.inl gm)) ∧ fw_18 (rt 47) = .inl (K 0, 40, .inl go) ∧ fw_18 (rt 48) = .inl (K 0, 5, .inl gn) ∧ fw_18 (rt 41) = .inl (K 1, 5, .inr (.inl gu)) ∧ fw_18 (rt 42) = .inl (K 0, 5, .inl gf) ∧ fw_18 (rt 40) = .inl (K 0, 5, .inl ga) ∧ (∃ v, fm4[45]? = some (.int v)) ∧ (∃ v, fm4[43]? = some (.long v)) ∧ (∃ v, fm4[44]? = some (.int v)) := by
                  rcases hpw with h9 | h9
                  · rw [h9]; exact ⟨fmvb, _, _, _, _, _, _, gSm.rf, fmS.rf, hC, F_mostAt, F_order, F_next, F_upTo, F_filledTo, F_at, ⟨_, I_hasBest⟩, ⟨_, I_bestSum⟩, ⟨_, I_bestFilled⟩⟩
                  · exact h9
                have F_toPay : fw_18 (rt 50) = .inl (K 0, 4, .inl tp) := (hSmC.at hC.1 (by decide) (by decide)).trans F_toPay
                have hC := hCC
                have F_m : fw_18 (rt 51) = .inr (6, fm4) := hC.2.1
                have F_mostAt := NF_mostAt
                have F_order := NF_order
                have F_next := NF_next
                have F_upTo := NF_upTo
                have F_filledTo := NF_filledTo
                have F_at := NF_at
                have hSm : gSm rt [38, 40, 41, 42, 47, 48, 50, 51] fva fw_18 := hSm.tr hSmC (by decide) (by decide)
                have I_sales : fm4[25]? = some (.int (nI ns)) := (hFsC.2 25 (by decide)).trans I_sales
                have I_campaigns : fm4[9]? = some (.int (nI nc)) := (hFsC.2 9 (by decide)).trans I_campaigns
                have I_tick : fm4[1]? = some (.int t) := (hFsC.2 1 (by decide)).trans I_tick
                have I_pages : fm4[5]? = some (.int (nI np)) := (hFsC.2 5 (by decide)).trans I_pages
                have I_rule : fm4[2]? = some (.int ru) := (hFsC.2 2 (by decide)).trans I_rule
                have I_wait : fm4[4]? = some (.int wt) := (hFsC.2 4 (by decide)).trans I_wait
                have I_may : fm4[35]? = some (.int (nI mm)) := (hFsC.2 35 (by decide)).trans I_may
                have I_spots : fm4[39]? = some (.int (nI sp)) := (hFsC.2 39 (by decide)).trans I_spots
                have I_hasBest := NI_hasBest
                have I_bestSum := NI_bestSum
                have I_bestFilled := NI_bestFilled
                have hFs : fmS [43, 44, 45] fmva fm4 := hFs.tr hFsC (by decide) (by decide)
                have hD : va_D A (va_pl L fw_18) := g_D hLn (fun a h => by rw [← hAe]; exact h) fw_18
                refine g_iast hx hb hK hP hD hS (hC.1.1 50 (by decide)) F_toPay (vp_in_nI (by omega) (by decide)) dX6_come_125 (fun H locs hP hD hS => ?_)
                obtain ⟨g_20, eg_20⟩ : ∃ z9, z9 = upd tp (Int32.toNatClampNeg (nI j)) r_19 := ⟨_, rfl⟩
                rw [← eg_20] at hP hD
                obtain ⟨f_21, ef_21⟩ : ∃ z9, z9 = va_up fw_18 (rt 50) (.inl (K 0, 4, .inl g_20)) := ⟨_, rfl⟩
                rw [← ef_21] at hP hD
                have F_m : f_21 (rt 51) = .inr (6, fm4) := by rw [ef_21, va_up_ne _ _ (fun q => absurd (hC.1.2 51 (by decide) 50 (by decide) q) (by decide))]; exact F_m
                have F_mostAt : f_21 (rt 38) = .inl (K 1, 5, .inr (.inl gmP)) := by rw [ef_21, va_up_ne _ _ (fun q => absurd (hC.1.2 38 (by decide) 50 (by decide) q) (by decide))]; exact F_mostAt
                have F_order : f_21 (rt 47) = .inl (K 0, 40, .inl goP) := by rw [ef_21, va_up_ne _ _ (fun q => absurd (hC.1.2 47 (by decide) 50 (by decide) q) (by decide))]; exact F_order
                have F_next : f_21 (rt 48) = .inl (K 0, 5, .inl gnP) := by rw [ef_21, va_up_ne _ _ (fun q => absurd (hC.1.2 48 (by decide) 50 (by decide) q) (by decide))]; exact F_next
                have F_upTo : f_21 (rt 41) = .inl (K 1, 5, .inr (.inl guP)) := by rw [ef_21, va_up_ne _ _ (fun q => absurd (hC.1.2 41 (by decide) 50 (by decide) q) (by decide))]; exact F_upTo
                have F_filledTo : f_21 (rt 42) = .inl (K 0, 5, .inl gfP) := by rw [ef_21, va_up_ne _ _ (fun q => absurd (hC.1.2 42 (by decide) 50 (by decide) q) (by decide))]; exact F_filledTo
                have F_at : f_21 (rt 40) = .inl (K 0, 5, .inl gaP) := by rw [ef_21, va_up_ne _ _ (fun q => absurd (hC.1.2 40 (by decide) 50 (by decide) q) (by decide))]; exact F_at
                have F_toPay : f_21 (rt 50) = .inl (K 0, 4, .inl g_20) := by rw [ef_21, va_up_self]
                have hC : mC rt L f_21 fm4 := ⟨hC.1, F_m, hC.2.2.1, hC.2.2.2⟩
                have hSm : gSm rt [38, 40, 41, 42, 47, 48, 50, 51] fva f_21 := by rw [ef_21]; exact hSm.up (by decide) _
                rw [nI_clamp (by omega)] at eg_20
                obtain ⟨x_22, ex_22⟩ : ∃ y : Int32, y = rn + 1 := ⟨_, rfl⟩
                refine lv_iinc (v := x_22) (lv' := [(5, .int x_22), (0, .ref (rt 51)), (1, .int (nI rd)), (2, .int (nI pg)), (3, .long zl), (6, .int (nI j))]) hx hb dX6_come_126 hl (k := 4) rfl (by rw [ex_22]; rfl) (by decide) rfl (fun ls hl => ?_)
                refine lv_iinc (v := nI (j + 1)) (lv' := [(6, .int (nI (j + 1))), (5, .int x_22), (0, .ref (rt 51)), (1, .int (nI rd)), (2, .int (nI pg)), (3, .long zl)]) hx hb dX6_come_129 hl (k := 5) rfl (by exact nI_1 _) (by decide) rfl (fun ls hl => ?_)
                refine lv_goto (tgt := 82) hx hb dX6_come_132 (by decide) ?_
                exact ihb _ (by omega) _ _ _ ⟨f_21, fm4, _, _, _, _, _, _, _, (j + 1), _, _, _, _, rfl, hSm, hFs, hC, F_mostAt, F_order, F_next, F_upTo, F_filledTo, F_at, F_toPay, I_hasBest, I_bestSum, I_bestFilled, by omega, hP, hS, lv_sub hl [2, 3, 4, 5, 1, 0] rfl⟩
              · skip
                refine lv_goto (tgt := 129) hx hb dX6_come_101 (by decide) ?_
                refine lv_iinc (v := nI (j + 1)) (lv' := [(6, .int (nI (j + 1))), (0, .ref (rt 51)), (1, .int (nI rd)), (2, .int (nI pg)), (3, .long zl), (5, .int rn)]) hx hb dX6_come_129 hl (k := 5) rfl (by exact nI_1 _) (by decide) rfl (fun ls hl => ?_)
                refine lv_goto (tgt := 82) hx hb dX6_come_132 (by decide) ?_
                exact ihb _ (by omega) _ _ _ ⟨fvb, fmvb, _, _, _, _, _, _, _, (j + 1), _, _, _, _, rfl, hSm, hFs, hC, F_mostAt, F_order, F_next, F_upTo, F_filledTo, F_at, F_toPay, I_hasBest, I_bestSum, I_bestFilled, by omega, hP, hS, lv_sub hl [1, 2, 3, 4, 5, 0] rfl⟩
        · skip
          obtain ⟨fva, fmva, ts, j, zl, hmua, hSm, hFs, hC, NF_toSell, hj, hts9, hP, hS, hl⟩ := hI
          have F_toSell := NF_toSell
          have F_m : fva (rt 51) = .inr (6, fmva) := hC.2.1
          have I_sales : fmva[25]? = some (.int (nI ns)) := (hFs.2 25 (by decide)).trans I_sales
          have I_campaigns : fmva[9]? = some (.int (nI nc)) := (hFs.2 9 (by decide)).trans I_campaigns
          have I_tick : fmva[1]? = some (.int t) := (hFs.2 1 (by decide)).trans I_tick
          have I_pages : fmva[5]? = some (.int (nI np)) := (hFs.2 5 (by decide)).trans I_pages
          have I_rule : fmva[2]? = some (.int ru) := (hFs.2 2 (by decide)).trans I_rule
          have I_wait : fmva[4]? = some (.int wt) := (hFs.2 4 (by decide)).trans I_wait
          have I_may : fmva[35]? = some (.int (nI mm)) := (hFs.2 35 (by decide)).trans I_may
          have I_spots : fmva[39]? = some (.int (nI sp)) := (hFs.2 39 (by decide)).trans I_spots
          have I_hasBest : fmva[45]? = some (.int b3) := (hFs.2 45 (by decide)).trans I_hasBest
          have I_bestSum : fmva[43]? = some (.long b4) := (hFs.2 43 (by decide)).trans I_bestSum
          have I_bestFilled : fmva[44]? = some (.int b5) := (hFs.2 44 (by decide)).trans I_bestFilled
          have hD : va_D A (va_pl L fva) := g_D hLn (fun a h => by rw [← hAe]; exact h) fva
          refine lv_iload hx hb dX6_come_47 (lv_at hl 4 rfl) ?_
          refine lv_aload_n hx hb dX6_come_49 rfl (lv_at hl 0 rfl) ?_
          refine g_get (ci := 6) (v := .int (nI sp)) (C := RX6) (T := TX6) (N := 51) hx hb hts uB6 hown hK hP (hC.1.1 51 (by decide)) F_m rfl 39 (by decide) wm_131 I_spots dX6_come_50 ?_
          refine lv_icmp_ge (tgt := 76) hx hb dX6_come_53 (by decide) (fun c_23 => ?_) (fun c_23 => ?_)
          · skip
            have nc_23 : sp ≤ j := (bn_le (a := sp) (b := j) (by omega) (by omega)).mp (show nI sp ≤ nI j from c_23)
            exact hEa _ _ _ ⟨fva, fmva, _, j, zl, hSm, hFs, hC, F_toSell, (fun k hk => hts9 k (by omega)), hP, hS, lv_sub hl [0, 1, 2, 3, 4] rfl⟩
          · skip
            have nc_23 : ¬ (sp ≤ j) := fun q => c_23 (show nI sp ≤ nI j from (bn_le (a := sp) (b := j) (by omega) (by omega)).mpr q)
            refine lv_aload_n hx hb dX6_come_56 rfl (lv_at hl 0 rfl) ?_
            refine g_get (ci := 6) (v := .ref (rt 49)) (C := RX6) (T := TX6) (N := 51) hx hb hts uB6 hown hK hP (hC.1.1 51 (by decide)) F_m rfl 49 (by decide) wm_124 (hC.2.2.2 49 (by decide)) dX6_come_57 ?_
            refine lv_iload hx hb dX6_come_60 (lv_at hl 4 rfl) ?_
            refine lv_aload_n hx hb dX6_come_62 rfl (lv_at hl 0 rfl) ?_
            refine g_get (ci := 6) (v := .ref (rt 46)) (C := RX6) (T := TX6) (N := 51) hx hb hts uB6 hown hK hP (hC.1.1 51 (by decide)) F_m rfl 46 (by decide) wm_150 (hC.2.2.2 46 (by decide)) dX6_come_63 ?_
            refine lv_iload hx hb dX6_come_66 (lv_at hl 4 rfl) ?_
            refine g_iald hx hb hK hP (hC.1.1 46 (by decide)) ((hSm.at hC.1 (by decide) (by decide)).trans F_given) (vp_in_nI (by omega) (by decide)) dX6_come_68 ?_
            refine lv_topi (fun x_24 ex_24 => ?_)
            rw [nI_clamp (by omega)] at ex_24
            refine g_iast hx hb hK hP hD hS (hC.1.1 49 (by decide)) F_toSell (vp_in_nI (by omega) (by decide)) dX6_come_69 (fun H locs hP hD hS => ?_)
            obtain ⟨g_25, eg_25⟩ : ∃ z9, z9 = upd ts (Int32.toNatClampNeg (nI j)) x_24 := ⟨_, rfl⟩
            rw [← eg_25] at hP hD
            obtain ⟨f_26, ef_26⟩ : ∃ z9, z9 = va_up fva (rt 49) (.inl (K 0, 4, .inl g_25)) := ⟨_, rfl⟩
            rw [← ef_26] at hP hD
            have F_m : f_26 (rt 51) = .inr (6, fmva) := by rw [ef_26, va_up_ne _ _ (fun q => absurd (hC.1.2 51 (by decide) 49 (by decide) q) (by decide))]; exact F_m
            have F_toSell : f_26 (rt 49) = .inl (K 0, 4, .inl g_25) := by rw [ef_26, va_up_self]
            have hC : mC rt L f_26 fmva := ⟨hC.1, F_m, hC.2.2.1, hC.2.2.2⟩
            have hSm : gSm rt [49] fw_8 f_26 := by rw [ef_26]; exact hSm.up (by decide) _
            rw [nI_clamp (by omega)] at eg_25
            refine lv_iinc (v := nI (j + 1)) (lv' := [(5, .int (nI (j + 1))), (0, .ref (rt 51)), (1, .int (nI rd)), (2, .int (nI pg)), (3, .long zl)]) hx hb dX6_come_70 hl (k := 4) rfl (by exact nI_1 _) (by decide) rfl (fun ls hl => ?_)
            refine lv_goto (tgt := 47) hx hb dX6_come_73 (by decide) ?_
            have hts2 : ∀ k, k < j + 1 → g_25 k = (-2) ∨ ∃ i : Nat, i < mm ∧ g_25 k = gb i := fun k hk => by
              by_cases q : k = j
              · rw [q, eg_25, pk_us, ex_24]; exact hgg j (by omega)
              · rw [eg_25, pk_un q]; exact hts9 k (by omega)
            exact iha _ (by omega) _ _ _ ⟨f_26, fmva, _, (j + 1), zl, rfl, hSm, hFs, hC, F_toSell, by omega, hts2, hP, hS, lv_sub hl [1, 2, 3, 4, 0] rfl⟩
      · skip
        have nc_7 : ¬ ((ns + sp) ≤ 1000) := fun q => c_7 (show nI (ns + sp) ≤ nI 1000 from (bn_le (a := (ns + sp)) (b := 1000) (by omega) (by omega)).mpr q)
        refine lv_bipush (v := (-3)) hx hb dX6_come_34 (by decide) ?_
        exact W.iret (v := (-3)) hx hb hr (fun t ht hW => ⟨⟨(-3), f, rfl, (Or.inl rfl), by show va_P (dC, dI) vwCl (va_pl L f) t.heap; rw [ht]; exact hP⟩, hS.F ht⟩) hS.2.2 dX6_come_36
    · skip
      refine lv_iconst (v := (-1)) hx hb dX6_come_15 (by decide) ?_
      exact W.iret (v := (-1)) hx hb hr (fun t ht hW => ⟨⟨(-1), f, rfl, (Or.inl rfl), by show va_P (dC, dI) vwCl (va_pl L f) t.heap; rw [ht]; exact hP⟩, hS.F ht⟩) hS.2.2 dX6_come_16
