set_option maxHeartbeats 4000000 in
set_option maxRecDepth 100000 in
theorem um_sell (l : Launch) (dC : Nat → ClassId) (dI : Nat → Nat → Nat) (K : Nat → ClassId) (L : List Nat) (f : Nat → va_E) (rt : Nat → Nat) {fm : List Value} (hC : mC rt L f fm) {g_saleTick : Nat → Int32} (F_saleTick : f (rt 26) = .inl (K 0, 1000, .inl g_saleTick)) {g_saleReader : Nat → Int32} (F_saleReader : f (rt 27) = .inl (K 0, 1000, .inl g_saleReader)) {g_salePage : Nat → Int32} (F_salePage : f (rt 28) = .inl (K 0, 1000, .inl g_salePage)) {g_salePlace : Nat → Int32} (F_salePlace : f (rt 29) = .inl (K 0, 1000, .inl g_salePlace)) {g_saleOf : Nat → Int32} (F_saleOf : f (rt 30) = .inl (K 0, 1000, .inl g_saleOf)) {g_price : Nat → Int32} (F_price : f (rt 31) = .inl (K 0, 1000, .inl g_price)) {g_state : Nat → Int32} (F_state : f (rt 32) = .inl (K 0, 1000, .inl g_state)) {g_saleWait : Nat → Int32} (F_saleWait : f (rt 33) = .inl (K 0, 1000, .inl g_saleWait)) {g_pressTick : Nat → Int32} (F_pressTick : f (rt 34) = .inl (K 0, 1000, .inl g_pressTick)) {g_pays : Nat → Int32} (F_pays : f (rt 11) = .inl (K 0, 40, .inl g_pays)) {g_toSell : Nat → Int32} (F_toSell : f (rt 49) = .inl (K 0, 4, .inl g_toSell)) {g_toPay : Nat → Int32} (F_toPay : f (rt 50) = .inl (K 0, 4, .inl g_toPay)) {ns tk cn : Nat} {wt : Int32} (I_sales : fm[25]? = some (.int (nI ns))) (I_tick : fm[1]? = some (.int (nI tk))) (I_wait : fm[4]? = some (.int wt)) (x : Int32) (y : Int32) (pl : Nat) (hns1 : ns < 1000) (hpl : pl < 4) (hcs : g_toSell pl = nI cn) (hcn : cn < 40) (hLn : gN L) : gMv l yX6_sell cX6_sell 6 0 (dC, dI) K L f [.ref (rt 51), .int x, .int y, .int (nI pl)] (fun f' => ∃ v9 : Int32, f' = va_up (va_up (va_up (va_up (va_up (va_up (va_up (va_up (va_up (va_up (f) (rt 26) (.inl (K 0, 1000, .inl (upd g_saleTick (Int32.toNatClampNeg (nI ns)) (nI tk))))) (rt 27) (.inl (K 0, 1000, .inl (upd g_saleReader (Int32.toNatClampNeg (nI ns)) x)))) (rt 28) (.inl (K 0, 1000, .inl (upd g_salePage (Int32.toNatClampNeg (nI ns)) y)))) (rt 29) (.inl (K 0, 1000, .inl (upd g_salePlace (Int32.toNatClampNeg (nI ns)) (nI pl))))) (rt 30) (.inl (K 0, 1000, .inl (upd g_saleOf (Int32.toNatClampNeg (nI ns)) (nI cn))))) (rt 31) (.inl (K 0, 1000, .inl (upd g_price (Int32.toNatClampNeg (nI ns)) (g_toPay pl))))) (rt 32) (.inl (K 0, 1000, .inl (upd g_state (Int32.toNatClampNeg (nI ns)) v9)))) (rt 33) (.inl (K 0, 1000, .inl (upd g_saleWait (Int32.toNatClampNeg (nI ns)) wt)))) (rt 34) (.inl (K 0, 1000, .inl (upd g_pressTick (Int32.toNatClampNeg (nI ns)) 0)))) (rt 51) (.inr (6, List.set fm 25 (.int (nI (ns + 1)))))) := by
  refine Met.ofW (cc := cX6_sell) (maxL := 6) (ret := none) (by decide) rfl ?_
  intro p e s m args below meth c s₁ B hml hv
  obtain ⟨rfl, hP, hK⟩ := hv
  have F_m := hC.2.1
  have hD : va_D (fun q : Nat => q ∈ L) (va_pl L f) := g_D hLn (fun a h => h) f
  generalize hAe : (fun q : Nat => q ∈ L) = A at hD ⊢
  have hx := B.exec
  have hb := B.bytes
  have hr := B.returns
  have hlocks := B.notSynchronized
  have hts0 := atoms_spec (ws := Cond.code yX6_sell cX6_sell 6 none :: lw_B) B.pre
  have hts : ∀ w ∈ lw_B, w.before _ s = true := fun w h => hts0 w (List.mem_cons_of_mem _ h)
  have hown : s.vm.findClass RX6 = some m.cls := findClass_of_methodNamed B.named
  have hS : va_S A s.heap s.heap [] := va_S.rf
  have hl := lv_entry ([.ref (rt 51), .int x, .int y, .int (nI pl)]) (n := 6) (Nat.le_of_ble_eq_true rfl)
  rw [lg_entry_eq]
  generalize (lg_sl ([.ref (rt 51), .int x, .int y, .int (nI pl)]) ++ List.replicate (6 - (lg_sl ([.ref (rt 51), .int x, .int y, .int (nI pl)])).length) Slot.unset).toArray = ls at hl ⊢
  have hl : lv_has ls 6 [(0, .ref (rt 51)), (1, .int x), (2, .int y), (3, .int (nI pl))] := hl
  refine lv_aload_n hx hb dX6_sell_0 rfl (lv_at hl 0 rfl) ?_
  refine g_get (ci := 6) (v := .int (nI ns)) (C := RX6) (T := TX6) (N := 51) hx hb hts uB6 hown hK hP (hC.1.1 51 (by decide)) F_m rfl 25 (by decide) wm_4 I_sales dX6_sell_1 ?_
  refine lv_istore (lv' := [(4, .int (nI ns)), (0, .ref (rt 51)), (1, .int x), (2, .int y), (3, .int (nI pl))]) hx hb dX6_sell_4 hl (by decide) rfl (fun ls hl => ?_)
  refine lv_aload_n hx hb dX6_sell_6 rfl (lv_at hl 1 rfl) ?_
  refine g_get (ci := 6) (v := .ref (rt 49)) (C := RX6) (T := TX6) (N := 51) hx hb hts uB6 hown hK hP (hC.1.1 51 (by decide)) F_m rfl 49 (by decide) wm_124 (hC.2.2.2 49 (by decide)) dX6_sell_7 ?_
  refine lv_iload_n hx hb dX6_sell_10 rfl (lv_at hl 4 rfl) ?_
  refine g_iald hx hb hK hP (hC.1.1 49 (by decide)) F_toSell (vp_in_nI (by omega) (by decide)) dX6_sell_11 ?_
  refine lv_topi (fun x_1 ex_1 => ?_)
  rw [nI_clamp (by omega)] at ex_1
  obtain rfl : x_1 = nI cn := ex_1.trans hcs
  refine lv_istore (lv' := [(5, .int (nI cn)), (4, .int (nI ns)), (0, .ref (rt 51)), (1, .int x), (2, .int y), (3, .int (nI pl))]) hx hb dX6_sell_12 hl (by decide) rfl (fun ls hl => ?_)
  refine lv_aload_n hx hb dX6_sell_14 rfl (lv_at hl 2 rfl) ?_
  refine g_get (ci := 6) (v := .ref (rt 26)) (C := RX6) (T := TX6) (N := 51) hx hb hts uB6 hown hK hP (hC.1.1 51 (by decide)) F_m rfl 26 (by decide) wm_10 (hC.2.2.2 26 (by decide)) dX6_sell_15 ?_
  refine lv_iload hx hb dX6_sell_18 (lv_at hl 1 rfl) ?_
  refine lv_aload_n hx hb dX6_sell_20 rfl (lv_at hl 2 rfl) ?_
  refine g_get (ci := 6) (v := .int (nI tk)) (C := RX6) (T := TX6) (N := 51) hx hb hts uB6 hown hK hP (hC.1.1 51 (by decide)) F_m rfl 1 (by decide) wm_13 I_tick dX6_sell_21 ?_
  refine g_iast hx hb hK hP hD hS (hC.1.1 26 (by decide)) F_saleTick (vp_in_nI (by omega) (by decide)) dX6_sell_24 (fun H locs hP hD hS => ?_)
  obtain ⟨g_2, eg_2⟩ : ∃ z9, z9 = upd g_saleTick (Int32.toNatClampNeg (nI ns)) (nI tk) := ⟨_, rfl⟩
  rw [← eg_2] at hP hD
  obtain ⟨f_3, ef_3⟩ : ∃ z9, z9 = va_up f (rt 26) (.inl (K 0, 1000, .inl g_2)) := ⟨_, rfl⟩
  have hP : va_P (dC, dI) vwCl (va_pl L f_3) H := by rw [ef_3]; exact hP
  have hD : va_D A (va_pl L f_3) := by rw [ef_3]; exact hD
  have F_m_ : f_3 (rt 51) = .inr (6, fm) := by rw [ef_3, va_up_ne _ _ (fun q => absurd (hC.1.2 51 (by decide) 26 (by decide) q) (by decide))]; exact F_m
  have F_saleReader_ : f_3 (rt 27) = .inl (K 0, 1000, .inl g_saleReader) := by rw [ef_3, va_up_ne _ _ (fun q => absurd (hC.1.2 27 (by decide) 26 (by decide) q) (by decide))]; exact F_saleReader
  have F_salePage_ : f_3 (rt 28) = .inl (K 0, 1000, .inl g_salePage) := by rw [ef_3, va_up_ne _ _ (fun q => absurd (hC.1.2 28 (by decide) 26 (by decide) q) (by decide))]; exact F_salePage
  have F_salePlace_ : f_3 (rt 29) = .inl (K 0, 1000, .inl g_salePlace) := by rw [ef_3, va_up_ne _ _ (fun q => absurd (hC.1.2 29 (by decide) 26 (by decide) q) (by decide))]; exact F_salePlace
  have F_saleOf_ : f_3 (rt 30) = .inl (K 0, 1000, .inl g_saleOf) := by rw [ef_3, va_up_ne _ _ (fun q => absurd (hC.1.2 30 (by decide) 26 (by decide) q) (by decide))]; exact F_saleOf
  have F_price_ : f_3 (rt 31) = .inl (K 0, 1000, .inl g_price) := by rw [ef_3, va_up_ne _ _ (fun q => absurd (hC.1.2 31 (by decide) 26 (by decide) q) (by decide))]; exact F_price
  have F_state_ : f_3 (rt 32) = .inl (K 0, 1000, .inl g_state) := by rw [ef_3, va_up_ne _ _ (fun q => absurd (hC.1.2 32 (by decide) 26 (by decide) q) (by decide))]; exact F_state
  have F_saleWait_ : f_3 (rt 33) = .inl (K 0, 1000, .inl g_saleWait) := by rw [ef_3, va_up_ne _ _ (fun q => absurd (hC.1.2 33 (by decide) 26 (by decide) q) (by decide))]; exact F_saleWait
  have F_pressTick_ : f_3 (rt 34) = .inl (K 0, 1000, .inl g_pressTick) := by rw [ef_3, va_up_ne _ _ (fun q => absurd (hC.1.2 34 (by decide) 26 (by decide) q) (by decide))]; exact F_pressTick
  have F_pays_ : f_3 (rt 11) = .inl (K 0, 40, .inl g_pays) := by rw [ef_3, va_up_ne _ _ (fun q => absurd (hC.1.2 11 (by decide) 26 (by decide) q) (by decide))]; exact F_pays
  have F_toSell_ : f_3 (rt 49) = .inl (K 0, 4, .inl g_toSell) := by rw [ef_3, va_up_ne _ _ (fun q => absurd (hC.1.2 49 (by decide) 26 (by decide) q) (by decide))]; exact F_toSell
  have F_toPay_ : f_3 (rt 50) = .inl (K 0, 4, .inl g_toPay) := by rw [ef_3, va_up_ne _ _ (fun q => absurd (hC.1.2 50 (by decide) 26 (by decide) q) (by decide))]; exact F_toPay
  have F_m := F_m_
  have F_saleReader := F_saleReader_
  have F_salePage := F_salePage_
  have F_salePlace := F_salePlace_
  have F_saleOf := F_saleOf_
  have F_price := F_price_
  have F_state := F_state_
  have F_saleWait := F_saleWait_
  have F_pressTick := F_pressTick_
  have F_pays := F_pays_
  have F_toSell := F_toSell_
  have F_toPay := F_toPay_
  have F_saleTick : f_3 (rt 26) = .inl (K 0, 1000, .inl g_2) := by rw [ef_3, va_up_self]
  have hC : mC rt L f_3 fm := ⟨hC.1, F_m, hC.2.2.1, hC.2.2.2⟩
  refine lv_aload_n hx hb dX6_sell_25 rfl (lv_at hl 2 rfl) ?_
  refine g_get (ci := 6) (v := .ref (rt 27)) (C := RX6) (T := TX6) (N := 51) hx hb hts uB6 hown hK hP (hC.1.1 51 (by decide)) F_m rfl 27 (by decide) wm_50 (hC.2.2.2 27 (by decide)) dX6_sell_26 ?_
  refine lv_iload hx hb dX6_sell_29 (lv_at hl 1 rfl) ?_
  refine lv_iload_n hx hb dX6_sell_31 rfl (lv_at hl 3 rfl) ?_
  refine g_iast hx hb hK hP hD hS (hC.1.1 27 (by decide)) F_saleReader (vp_in_nI (by omega) (by decide)) dX6_sell_32 (fun H locs hP hD hS => ?_)
  obtain ⟨g_4, eg_4⟩ : ∃ z9, z9 = upd g_saleReader (Int32.toNatClampNeg (nI ns)) x := ⟨_, rfl⟩
  rw [← eg_4] at hP hD
  obtain ⟨f_5, ef_5⟩ : ∃ z9, z9 = va_up f_3 (rt 27) (.inl (K 0, 1000, .inl g_4)) := ⟨_, rfl⟩
  have hP : va_P (dC, dI) vwCl (va_pl L f_5) H := by rw [ef_5]; exact hP
  have hD : va_D A (va_pl L f_5) := by rw [ef_5]; exact hD
  have F_m_ : f_5 (rt 51) = .inr (6, fm) := by rw [ef_5, va_up_ne _ _ (fun q => absurd (hC.1.2 51 (by decide) 27 (by decide) q) (by decide))]; exact F_m
  have F_saleTick_ : f_5 (rt 26) = .inl (K 0, 1000, .inl g_2) := by rw [ef_5, va_up_ne _ _ (fun q => absurd (hC.1.2 26 (by decide) 27 (by decide) q) (by decide))]; exact F_saleTick
  have F_salePage_ : f_5 (rt 28) = .inl (K 0, 1000, .inl g_salePage) := by rw [ef_5, va_up_ne _ _ (fun q => absurd (hC.1.2 28 (by decide) 27 (by decide) q) (by decide))]; exact F_salePage
  have F_salePlace_ : f_5 (rt 29) = .inl (K 0, 1000, .inl g_salePlace) := by rw [ef_5, va_up_ne _ _ (fun q => absurd (hC.1.2 29 (by decide) 27 (by decide) q) (by decide))]; exact F_salePlace
  have F_saleOf_ : f_5 (rt 30) = .inl (K 0, 1000, .inl g_saleOf) := by rw [ef_5, va_up_ne _ _ (fun q => absurd (hC.1.2 30 (by decide) 27 (by decide) q) (by decide))]; exact F_saleOf
  have F_price_ : f_5 (rt 31) = .inl (K 0, 1000, .inl g_price) := by rw [ef_5, va_up_ne _ _ (fun q => absurd (hC.1.2 31 (by decide) 27 (by decide) q) (by decide))]; exact F_price
  have F_state_ : f_5 (rt 32) = .inl (K 0, 1000, .inl g_state) := by rw [ef_5, va_up_ne _ _ (fun q => absurd (hC.1.2 32 (by decide) 27 (by decide) q) (by decide))]; exact F_state
  have F_saleWait_ : f_5 (rt 33) = .inl (K 0, 1000, .inl g_saleWait) := by rw [ef_5, va_up_ne _ _ (fun q => absurd (hC.1.2 33 (by decide) 27 (by decide) q) (by decide))]; exact F_saleWait
  have F_pressTick_ : f_5 (rt 34) = .inl (K 0, 1000, .inl g_pressTick) := by rw [ef_5, va_up_ne _ _ (fun q => absurd (hC.1.2 34 (by decide) 27 (by decide) q) (by decide))]; exact F_pressTick
  have F_pays_ : f_5 (rt 11) = .inl (K 0, 40, .inl g_pays) := by rw [ef_5, va_up_ne _ _ (fun q => absurd (hC.1.2 11 (by decide) 27 (by decide) q) (by decide))]; exact F_pays
  have F_toSell_ : f_5 (rt 49) = .inl (K 0, 4, .inl g_toSell) := by rw [ef_5, va_up_ne _ _ (fun q => absurd (hC.1.2 49 (by decide) 27 (by decide) q) (by decide))]; exact F_toSell
  have F_toPay_ : f_5 (rt 50) = .inl (K 0, 4, .inl g_toPay) := by rw [ef_5, va_up_ne _ _ (fun q => absurd (hC.1.2 50 (by decide) 27 (by decide) q) (by decide))]; exact F_toPay
  have F_m := F_m_
  have F_saleTick := F_saleTick_
  have F_salePage := F_salePage_
  have F_salePlace := F_salePlace_
  have F_saleOf := F_saleOf_
  have F_price := F_price_
  have F_state := F_state_
  have F_saleWait := F_saleWait_
  have F_pressTick := F_pressTick_
  have F_pays := F_pays_
  have F_toSell := F_toSell_
  have F_toPay := F_toPay_
  have F_saleReader : f_5 (rt 27) = .inl (K 0, 1000, .inl g_4) := by rw [ef_5, va_up_self]
  have hC : mC rt L f_5 fm := ⟨hC.1, F_m, hC.2.2.1, hC.2.2.2⟩
  refine lv_aload_n hx hb dX6_sell_33 rfl (lv_at hl 2 rfl) ?_
  refine g_get (ci := 6) (v := .ref (rt 28)) (C := RX6) (T := TX6) (N := 51) hx hb hts uB6 hown hK hP (hC.1.1 51 (by decide)) F_m rfl 28 (by decide) wm_48 (hC.2.2.2 28 (by decide)) dX6_sell_34 ?_
  refine lv_iload hx hb dX6_sell_37 (lv_at hl 1 rfl) ?_
  refine lv_iload_n hx hb dX6_sell_39 rfl (lv_at hl 4 rfl) ?_
  refine g_iast hx hb hK hP hD hS (hC.1.1 28 (by decide)) F_salePage (vp_in_nI (by omega) (by decide)) dX6_sell_40 (fun H locs hP hD hS => ?_)
  obtain ⟨g_6, eg_6⟩ : ∃ z9, z9 = upd g_salePage (Int32.toNatClampNeg (nI ns)) y := ⟨_, rfl⟩
  rw [← eg_6] at hP hD
  obtain ⟨f_7, ef_7⟩ : ∃ z9, z9 = va_up f_5 (rt 28) (.inl (K 0, 1000, .inl g_6)) := ⟨_, rfl⟩
  have hP : va_P (dC, dI) vwCl (va_pl L f_7) H := by rw [ef_7]; exact hP
  have hD : va_D A (va_pl L f_7) := by rw [ef_7]; exact hD
  have F_m_ : f_7 (rt 51) = .inr (6, fm) := by rw [ef_7, va_up_ne _ _ (fun q => absurd (hC.1.2 51 (by decide) 28 (by decide) q) (by decide))]; exact F_m
  have F_saleTick_ : f_7 (rt 26) = .inl (K 0, 1000, .inl g_2) := by rw [ef_7, va_up_ne _ _ (fun q => absurd (hC.1.2 26 (by decide) 28 (by decide) q) (by decide))]; exact F_saleTick
  have F_saleReader_ : f_7 (rt 27) = .inl (K 0, 1000, .inl g_4) := by rw [ef_7, va_up_ne _ _ (fun q => absurd (hC.1.2 27 (by decide) 28 (by decide) q) (by decide))]; exact F_saleReader
  have F_salePlace_ : f_7 (rt 29) = .inl (K 0, 1000, .inl g_salePlace) := by rw [ef_7, va_up_ne _ _ (fun q => absurd (hC.1.2 29 (by decide) 28 (by decide) q) (by decide))]; exact F_salePlace
  have F_saleOf_ : f_7 (rt 30) = .inl (K 0, 1000, .inl g_saleOf) := by rw [ef_7, va_up_ne _ _ (fun q => absurd (hC.1.2 30 (by decide) 28 (by decide) q) (by decide))]; exact F_saleOf
  have F_price_ : f_7 (rt 31) = .inl (K 0, 1000, .inl g_price) := by rw [ef_7, va_up_ne _ _ (fun q => absurd (hC.1.2 31 (by decide) 28 (by decide) q) (by decide))]; exact F_price
  have F_state_ : f_7 (rt 32) = .inl (K 0, 1000, .inl g_state) := by rw [ef_7, va_up_ne _ _ (fun q => absurd (hC.1.2 32 (by decide) 28 (by decide) q) (by decide))]; exact F_state
  have F_saleWait_ : f_7 (rt 33) = .inl (K 0, 1000, .inl g_saleWait) := by rw [ef_7, va_up_ne _ _ (fun q => absurd (hC.1.2 33 (by decide) 28 (by decide) q) (by decide))]; exact F_saleWait
  have F_pressTick_ : f_7 (rt 34) = .inl (K 0, 1000, .inl g_pressTick) := by rw [ef_7, va_up_ne _ _ (fun q => absurd (hC.1.2 34 (by decide) 28 (by decide) q) (by decide))]; exact F_pressTick
  have F_pays_ : f_7 (rt 11) = .inl (K 0, 40, .inl g_pays) := by rw [ef_7, va_up_ne _ _ (fun q => absurd (hC.1.2 11 (by decide) 28 (by decide) q) (by decide))]; exact F_pays
  have F_toSell_ : f_7 (rt 49) = .inl (K 0, 4, .inl g_toSell) := by rw [ef_7, va_up_ne _ _ (fun q => absurd (hC.1.2 49 (by decide) 28 (by decide) q) (by decide))]; exact F_toSell
  have F_toPay_ : f_7 (rt 50) = .inl (K 0, 4, .inl g_toPay) := by rw [ef_7, va_up_ne _ _ (fun q => absurd (hC.1.2 50 (by decide) 28 (by decide) q) (by decide))]; exact F_toPay
  have F_m := F_m_
  have F_saleTick := F_saleTick_
  have F_saleReader := F_saleReader_
  have F_salePlace := F_salePlace_
  have F_saleOf := F_saleOf_
  have F_price := F_price_
  have F_state := F_state_
  have F_saleWait := F_saleWait_
  have F_pressTick := F_pressTick_
  have F_pays := F_pays_
  have F_toSell := F_toSell_
  have F_toPay := F_toPay_
  have F_salePage : f_7 (rt 28) = .inl (K 0, 1000, .inl g_6) := by rw [ef_7, va_up_self]
  have hC : mC rt L f_7 fm := ⟨hC.1, F_m, hC.2.2.1, hC.2.2.2⟩
  refine lv_aload_n hx hb dX6_sell_41 rfl (lv_at hl 2 rfl) ?_
  refine g_get (ci := 6) (v := .ref (rt 29)) (C := RX6) (T := TX6) (N := 51) hx hb hts uB6 hown hK hP (hC.1.1 51 (by decide)) F_m rfl 29 (by decide) wm_116 (hC.2.2.2 29 (by decide)) dX6_sell_42 ?_
  refine lv_iload hx hb dX6_sell_45 (lv_at hl 1 rfl) ?_
  refine lv_iload_n hx hb dX6_sell_47 rfl (lv_at hl 5 rfl) ?_
  refine g_iast hx hb hK hP hD hS (hC.1.1 29 (by decide)) F_salePlace (vp_in_nI (by omega) (by decide)) dX6_sell_48 (fun H locs hP hD hS => ?_)
  obtain ⟨g_8, eg_8⟩ : ∃ z9, z9 = upd g_salePlace (Int32.toNatClampNeg (nI ns)) (nI pl) := ⟨_, rfl⟩
  rw [← eg_8] at hP hD
  obtain ⟨f_9, ef_9⟩ : ∃ z9, z9 = va_up f_7 (rt 29) (.inl (K 0, 1000, .inl g_8)) := ⟨_, rfl⟩
  have hP : va_P (dC, dI) vwCl (va_pl L f_9) H := by rw [ef_9]; exact hP
  have hD : va_D A (va_pl L f_9) := by rw [ef_9]; exact hD
  have F_m_ : f_9 (rt 51) = .inr (6, fm) := by rw [ef_9, va_up_ne _ _ (fun q => absurd (hC.1.2 51 (by decide) 29 (by decide) q) (by decide))]; exact F_m
  have F_saleTick_ : f_9 (rt 26) = .inl (K 0, 1000, .inl g_2) := by rw [ef_9, va_up_ne _ _ (fun q => absurd (hC.1.2 26 (by decide) 29 (by decide) q) (by decide))]; exact F_saleTick
  have F_saleReader_ : f_9 (rt 27) = .inl (K 0, 1000, .inl g_4) := by rw [ef_9, va_up_ne _ _ (fun q => absurd (hC.1.2 27 (by decide) 29 (by decide) q) (by decide))]; exact F_saleReader
  have F_salePage_ : f_9 (rt 28) = .inl (K 0, 1000, .inl g_6) := by rw [ef_9, va_up_ne _ _ (fun q => absurd (hC.1.2 28 (by decide) 29 (by decide) q) (by decide))]; exact F_salePage
  have F_saleOf_ : f_9 (rt 30) = .inl (K 0, 1000, .inl g_saleOf) := by rw [ef_9, va_up_ne _ _ (fun q => absurd (hC.1.2 30 (by decide) 29 (by decide) q) (by decide))]; exact F_saleOf
  have F_price_ : f_9 (rt 31) = .inl (K 0, 1000, .inl g_price) := by rw [ef_9, va_up_ne _ _ (fun q => absurd (hC.1.2 31 (by decide) 29 (by decide) q) (by decide))]; exact F_price
  have F_state_ : f_9 (rt 32) = .inl (K 0, 1000, .inl g_state) := by rw [ef_9, va_up_ne _ _ (fun q => absurd (hC.1.2 32 (by decide) 29 (by decide) q) (by decide))]; exact F_state
  have F_saleWait_ : f_9 (rt 33) = .inl (K 0, 1000, .inl g_saleWait) := by rw [ef_9, va_up_ne _ _ (fun q => absurd (hC.1.2 33 (by decide) 29 (by decide) q) (by decide))]; exact F_saleWait
  have F_pressTick_ : f_9 (rt 34) = .inl (K 0, 1000, .inl g_pressTick) := by rw [ef_9, va_up_ne _ _ (fun q => absurd (hC.1.2 34 (by decide) 29 (by decide) q) (by decide))]; exact F_pressTick
  have F_pays_ : f_9 (rt 11) = .inl (K 0, 40, .inl g_pays) := by rw [ef_9, va_up_ne _ _ (fun q => absurd (hC.1.2 11 (by decide) 29 (by decide) q) (by decide))]; exact F_pays
  have F_toSell_ : f_9 (rt 49) = .inl (K 0, 4, .inl g_toSell) := by rw [ef_9, va_up_ne _ _ (fun q => absurd (hC.1.2 49 (by decide) 29 (by decide) q) (by decide))]; exact F_toSell
  have F_toPay_ : f_9 (rt 50) = .inl (K 0, 4, .inl g_toPay) := by rw [ef_9, va_up_ne _ _ (fun q => absurd (hC.1.2 50 (by decide) 29 (by decide) q) (by decide))]; exact F_toPay
  have F_m := F_m_
  have F_saleTick := F_saleTick_
  have F_saleReader := F_saleReader_
  have F_salePage := F_salePage_
  have F_saleOf := F_saleOf_
  have F_price := F_price_
  have F_state := F_state_
  have F_saleWait := F_saleWait_
  have F_pressTick := F_pressTick_
  have F_pays := F_pays_
  have F_toSell := F_toSell_
  have F_toPay := F_toPay_
  have F_salePlace : f_9 (rt 29) = .inl (K 0, 1000, .inl g_8) := by rw [ef_9, va_up_self]
  have hC : mC rt L f_9 fm := ⟨hC.1, F_m, hC.2.2.1, hC.2.2.2⟩
  refine lv_aload_n hx hb dX6_sell_49 rfl (lv_at hl 2 rfl) ?_
  refine g_get (ci := 6) (v := .ref (rt 30)) (C := RX6) (T := TX6) (N := 51) hx hb hts uB6 hown hK hP (hC.1.1 51 (by decide)) F_m rfl 30 (by decide) wm_2 (hC.2.2.2 30 (by decide)) dX6_sell_50 ?_
  refine lv_iload hx hb dX6_sell_53 (lv_at hl 1 rfl) ?_
  refine lv_iload hx hb dX6_sell_55 (lv_at hl 0 rfl) ?_
  refine g_iast hx hb hK hP hD hS (hC.1.1 30 (by decide)) F_saleOf (vp_in_nI (by omega) (by decide)) dX6_sell_57 (fun H locs hP hD hS => ?_)
  obtain ⟨g_10, eg_10⟩ : ∃ z9, z9 = upd g_saleOf (Int32.toNatClampNeg (nI ns)) (nI cn) := ⟨_, rfl⟩
  rw [← eg_10] at hP hD
  obtain ⟨f_11, ef_11⟩ : ∃ z9, z9 = va_up f_9 (rt 30) (.inl (K 0, 1000, .inl g_10)) := ⟨_, rfl⟩
  have hP : va_P (dC, dI) vwCl (va_pl L f_11) H := by rw [ef_11]; exact hP
  have hD : va_D A (va_pl L f_11) := by rw [ef_11]; exact hD
  have F_m_ : f_11 (rt 51) = .inr (6, fm) := by rw [ef_11, va_up_ne _ _ (fun q => absurd (hC.1.2 51 (by decide) 30 (by decide) q) (by decide))]; exact F_m
  have F_saleTick_ : f_11 (rt 26) = .inl (K 0, 1000, .inl g_2) := by rw [ef_11, va_up_ne _ _ (fun q => absurd (hC.1.2 26 (by decide) 30 (by decide) q) (by decide))]; exact F_saleTick
  have F_saleReader_ : f_11 (rt 27) = .inl (K 0, 1000, .inl g_4) := by rw [ef_11, va_up_ne _ _ (fun q => absurd (hC.1.2 27 (by decide) 30 (by decide) q) (by decide))]; exact F_saleReader
  have F_salePage_ : f_11 (rt 28) = .inl (K 0, 1000, .inl g_6) := by rw [ef_11, va_up_ne _ _ (fun q => absurd (hC.1.2 28 (by decide) 30 (by decide) q) (by decide))]; exact F_salePage
  have F_salePlace_ : f_11 (rt 29) = .inl (K 0, 1000, .inl g_8) := by rw [ef_11, va_up_ne _ _ (fun q => absurd (hC.1.2 29 (by decide) 30 (by decide) q) (by decide))]; exact F_salePlace
  have F_price_ : f_11 (rt 31) = .inl (K 0, 1000, .inl g_price) := by rw [ef_11, va_up_ne _ _ (fun q => absurd (hC.1.2 31 (by decide) 30 (by decide) q) (by decide))]; exact F_price
  have F_state_ : f_11 (rt 32) = .inl (K 0, 1000, .inl g_state) := by rw [ef_11, va_up_ne _ _ (fun q => absurd (hC.1.2 32 (by decide) 30 (by decide) q) (by decide))]; exact F_state
  have F_saleWait_ : f_11 (rt 33) = .inl (K 0, 1000, .inl g_saleWait) := by rw [ef_11, va_up_ne _ _ (fun q => absurd (hC.1.2 33 (by decide) 30 (by decide) q) (by decide))]; exact F_saleWait
  have F_pressTick_ : f_11 (rt 34) = .inl (K 0, 1000, .inl g_pressTick) := by rw [ef_11, va_up_ne _ _ (fun q => absurd (hC.1.2 34 (by decide) 30 (by decide) q) (by decide))]; exact F_pressTick
  have F_pays_ : f_11 (rt 11) = .inl (K 0, 40, .inl g_pays) := by rw [ef_11, va_up_ne _ _ (fun q => absurd (hC.1.2 11 (by decide) 30 (by decide) q) (by decide))]; exact F_pays
  have F_toSell_ : f_11 (rt 49) = .inl (K 0, 4, .inl g_toSell) := by rw [ef_11, va_up_ne _ _ (fun q => absurd (hC.1.2 49 (by decide) 30 (by decide) q) (by decide))]; exact F_toSell
  have F_toPay_ : f_11 (rt 50) = .inl (K 0, 4, .inl g_toPay) := by rw [ef_11, va_up_ne _ _ (fun q => absurd (hC.1.2 50 (by decide) 30 (by decide) q) (by decide))]; exact F_toPay
  have F_m := F_m_
  have F_saleTick := F_saleTick_
  have F_saleReader := F_saleReader_
  have F_salePage := F_salePage_
  have F_salePlace := F_salePlace_
  have F_price := F_price_
  have F_state := F_state_
  have F_saleWait := F_saleWait_
  have F_pressTick := F_pressTick_
  have F_pays := F_pays_
  have F_toSell := F_toSell_
  have F_toPay := F_toPay_
  have F_saleOf : f_11 (rt 30) = .inl (K 0, 1000, .inl g_10) := by rw [ef_11, va_up_self]
  have hC : mC rt L f_11 fm := ⟨hC.1, F_m, hC.2.2.1, hC.2.2.2⟩
  refine lv_aload_n hx hb dX6_sell_58 rfl (lv_at hl 2 rfl) ?_
  refine g_get (ci := 6) (v := .ref (rt 31)) (C := RX6) (T := TX6) (N := 51) hx hb hts uB6 hown hK hP (hC.1.1 51 (by decide)) F_m rfl 31 (by decide) wm_3 (hC.2.2.2 31 (by decide)) dX6_sell_59 ?_
  refine lv_iload hx hb dX6_sell_62 (lv_at hl 1 rfl) ?_
  refine lv_aload_n hx hb dX6_sell_64 rfl (lv_at hl 2 rfl) ?_
  refine g_get (ci := 6) (v := .ref (rt 50)) (C := RX6) (T := TX6) (N := 51) hx hb hts uB6 hown hK hP (hC.1.1 51 (by decide)) F_m rfl 50 (by decide) wm_125 (hC.2.2.2 50 (by decide)) dX6_sell_65 ?_
  refine lv_iload_n hx hb dX6_sell_68 rfl (lv_at hl 5 rfl) ?_
  refine g_iald hx hb hK hP (hC.1.1 50 (by decide)) F_toPay (vp_in_nI (by omega) (by decide)) dX6_sell_69 ?_
  refine lv_topi (fun x_12 ex_12 => ?_)
  rw [nI_clamp (by omega)] at ex_12
  refine g_iast hx hb hK hP hD hS (hC.1.1 31 (by decide)) F_price (vp_in_nI (by omega) (by decide)) dX6_sell_70 (fun H locs hP hD hS => ?_)
  obtain ⟨g_13, eg_13⟩ : ∃ z9, z9 = upd g_price (Int32.toNatClampNeg (nI ns)) x_12 := ⟨_, rfl⟩
  rw [← eg_13] at hP hD
  obtain ⟨f_14, ef_14⟩ : ∃ z9, z9 = va_up f_11 (rt 31) (.inl (K 0, 1000, .inl g_13)) := ⟨_, rfl⟩
  have hP : va_P (dC, dI) vwCl (va_pl L f_14) H := by rw [ef_14]; exact hP
  have hD : va_D A (va_pl L f_14) := by rw [ef_14]; exact hD
  have F_m_ : f_14 (rt 51) = .inr (6, fm) := by rw [ef_14, va_up_ne _ _ (fun q => absurd (hC.1.2 51 (by decide) 31 (by decide) q) (by decide))]; exact F_m
  have F_saleTick_ : f_14 (rt 26) = .inl (K 0, 1000, .inl g_2) := by rw [ef_14, va_up_ne _ _ (fun q => absurd (hC.1.2 26 (by decide) 31 (by decide) q) (by decide))]; exact F_saleTick
  have F_saleReader_ : f_14 (rt 27) = .inl (K 0, 1000, .inl g_4) := by rw [ef_14, va_up_ne _ _ (fun q => absurd (hC.1.2 27 (by decide) 31 (by decide) q) (by decide))]; exact F_saleReader
  have F_salePage_ : f_14 (rt 28) = .inl (K 0, 1000, .inl g_6) := by rw [ef_14, va_up_ne _ _ (fun q => absurd (hC.1.2 28 (by decide) 31 (by decide) q) (by decide))]; exact F_salePage
  have F_salePlace_ : f_14 (rt 29) = .inl (K 0, 1000, .inl g_8) := by rw [ef_14, va_up_ne _ _ (fun q => absurd (hC.1.2 29 (by decide) 31 (by decide) q) (by decide))]; exact F_salePlace
  have F_saleOf_ : f_14 (rt 30) = .inl (K 0, 1000, .inl g_10) := by rw [ef_14, va_up_ne _ _ (fun q => absurd (hC.1.2 30 (by decide) 31 (by decide) q) (by decide))]; exact F_saleOf
  have F_state_ : f_14 (rt 32) = .inl (K 0, 1000, .inl g_state) := by rw [ef_14, va_up_ne _ _ (fun q => absurd (hC.1.2 32 (by decide) 31 (by decide) q) (by decide))]; exact F_state
  have F_saleWait_ : f_14 (rt 33) = .inl (K 0, 1000, .inl g_saleWait) := by rw [ef_14, va_up_ne _ _ (fun q => absurd (hC.1.2 33 (by decide) 31 (by decide) q) (by decide))]; exact F_saleWait
  have F_pressTick_ : f_14 (rt 34) = .inl (K 0, 1000, .inl g_pressTick) := by rw [ef_14, va_up_ne _ _ (fun q => absurd (hC.1.2 34 (by decide) 31 (by decide) q) (by decide))]; exact F_pressTick
  have F_pays_ : f_14 (rt 11) = .inl (K 0, 40, .inl g_pays) := by rw [ef_14, va_up_ne _ _ (fun q => absurd (hC.1.2 11 (by decide) 31 (by decide) q) (by decide))]; exact F_pays
  have F_toSell_ : f_14 (rt 49) = .inl (K 0, 4, .inl g_toSell) := by rw [ef_14, va_up_ne _ _ (fun q => absurd (hC.1.2 49 (by decide) 31 (by decide) q) (by decide))]; exact F_toSell
  have F_toPay_ : f_14 (rt 50) = .inl (K 0, 4, .inl g_toPay) := by rw [ef_14, va_up_ne _ _ (fun q => absurd (hC.1.2 50 (by decide) 31 (by decide) q) (by decide))]; exact F_toPay
  have F_m := F_m_
  have F_saleTick := F_saleTick_
  have F_saleReader := F_saleReader_
  have F_salePage := F_salePage_
  have F_salePlace := F_salePlace_
  have F_saleOf := F_saleOf_
  have F_state := F_state_
  have F_saleWait := F_saleWait_
  have F_pressTick := F_pressTick_
  have F_pays := F_pays_
  have F_toSell := F_toSell_
  have F_toPay := F_toPay_
  have F_price : f_14 (rt 31) = .inl (K 0, 1000, .inl g_13) := by rw [ef_14, va_up_self]
  have hC : mC rt L f_14 fm := ⟨hC.1, F_m, hC.2.2.1, hC.2.2.2⟩
  refine lv_aload_n hx hb dX6_sell_71 rfl (lv_at hl 2 rfl) ?_
  refine g_get (ci := 6) (v := .ref (rt 32)) (C := RX6) (T := TX6) (N := 51) hx hb hts uB6 hown hK hP (hC.1.1 51 (by decide)) F_m rfl 32 (by decide) wm_0 (hC.2.2.2 32 (by decide)) dX6_sell_72 ?_
  refine lv_iload hx hb dX6_sell_75 (lv_at hl 1 rfl) ?_
  refine lv_aload_n hx hb dX6_sell_77 rfl (lv_at hl 2 rfl) ?_
  refine g_get (ci := 6) (v := .ref (rt 11)) (C := RX6) (T := TX6) (N := 51) hx hb hts uB6 hown hK hP (hC.1.1 51 (by decide)) F_m rfl 11 (by decide) wm_1 (hC.2.2.2 11 (by decide)) dX6_sell_78 ?_
  refine lv_iload hx hb dX6_sell_81 (lv_at hl 0 rfl) ?_
  refine g_iald hx hb hK hP (hC.1.1 11 (by decide)) F_pays (vp_in_nI (by omega) (by decide)) dX6_sell_83 ?_
  refine lv_topi (fun x_15 ex_15 => ?_)
  rw [nI_clamp (by omega)] at ex_15
  refine lv_iconst (v := 1) hx hb dX6_sell_84 (by decide) ?_
  refine lv_icmp_ne (tgt := 92) hx hb dX6_sell_85 (by decide) (fun c_16 => ?_) (fun c_16 => ?_)
  · skip
    refine lv_iconst (v := 0) hx hb dX6_sell_92 (by decide) ?_
    refine g_iast hx hb hK hP hD hS (hC.1.1 32 (by decide)) F_state (vp_in_nI (by omega) (by decide)) dX6_sell_93 (fun H locs hP hD hS => ?_)
    obtain ⟨g_17, eg_17⟩ : ∃ z9, z9 = upd g_state (Int32.toNatClampNeg (nI ns)) 0 := ⟨_, rfl⟩
    rw [← eg_17] at hP hD
    obtain ⟨f_18, ef_18⟩ : ∃ z9, z9 = va_up f_14 (rt 32) (.inl (K 0, 1000, .inl g_17)) := ⟨_, rfl⟩
    have hP : va_P (dC, dI) vwCl (va_pl L f_18) H := by rw [ef_18]; exact hP
    have hD : va_D A (va_pl L f_18) := by rw [ef_18]; exact hD
    have F_m_ : f_18 (rt 51) = .inr (6, fm) := by rw [ef_18, va_up_ne _ _ (fun q => absurd (hC.1.2 51 (by decide) 32 (by decide) q) (by decide))]; exact F_m
    have F_saleTick_ : f_18 (rt 26) = .inl (K 0, 1000, .inl g_2) := by rw [ef_18, va_up_ne _ _ (fun q => absurd (hC.1.2 26 (by decide) 32 (by decide) q) (by decide))]; exact F_saleTick
    have F_saleReader_ : f_18 (rt 27) = .inl (K 0, 1000, .inl g_4) := by rw [ef_18, va_up_ne _ _ (fun q => absurd (hC.1.2 27 (by decide) 32 (by decide) q) (by decide))]; exact F_saleReader
    have F_salePage_ : f_18 (rt 28) = .inl (K 0, 1000, .inl g_6) := by rw [ef_18, va_up_ne _ _ (fun q => absurd (hC.1.2 28 (by decide) 32 (by decide) q) (by decide))]; exact F_salePage
    have F_salePlace_ : f_18 (rt 29) = .inl (K 0, 1000, .inl g_8) := by rw [ef_18, va_up_ne _ _ (fun q => absurd (hC.1.2 29 (by decide) 32 (by decide) q) (by decide))]; exact F_salePlace
    have F_saleOf_ : f_18 (rt 30) = .inl (K 0, 1000, .inl g_10) := by rw [ef_18, va_up_ne _ _ (fun q => absurd (hC.1.2 30 (by decide) 32 (by decide) q) (by decide))]; exact F_saleOf
    have F_price_ : f_18 (rt 31) = .inl (K 0, 1000, .inl g_13) := by rw [ef_18, va_up_ne _ _ (fun q => absurd (hC.1.2 31 (by decide) 32 (by decide) q) (by decide))]; exact F_price
    have F_saleWait_ : f_18 (rt 33) = .inl (K 0, 1000, .inl g_saleWait) := by rw [ef_18, va_up_ne _ _ (fun q => absurd (hC.1.2 33 (by decide) 32 (by decide) q) (by decide))]; exact F_saleWait
    have F_pressTick_ : f_18 (rt 34) = .inl (K 0, 1000, .inl g_pressTick) := by rw [ef_18, va_up_ne _ _ (fun q => absurd (hC.1.2 34 (by decide) 32 (by decide) q) (by decide))]; exact F_pressTick
    have F_pays_ : f_18 (rt 11) = .inl (K 0, 40, .inl g_pays) := by rw [ef_18, va_up_ne _ _ (fun q => absurd (hC.1.2 11 (by decide) 32 (by decide) q) (by decide))]; exact F_pays
    have F_toSell_ : f_18 (rt 49) = .inl (K 0, 4, .inl g_toSell) := by rw [ef_18, va_up_ne _ _ (fun q => absurd (hC.1.2 49 (by decide) 32 (by decide) q) (by decide))]; exact F_toSell
    have F_toPay_ : f_18 (rt 50) = .inl (K 0, 4, .inl g_toPay) := by rw [ef_18, va_up_ne _ _ (fun q => absurd (hC.1.2 50 (by decide) 32 (by decide) q) (by decide))]; exact F_toPay
    have F_m := F_m_
    have F_saleTick := F_saleTick_
    have F_saleReader := F_saleReader_
    have F_salePage := F_salePage_
    have F_salePlace := F_salePlace_
    have F_saleOf := F_saleOf_
    have F_price := F_price_
    have F_saleWait := F_saleWait_
    have F_pressTick := F_pressTick_
    have F_pays := F_pays_
    have F_toSell := F_toSell_
    have F_toPay := F_toPay_
    have F_state : f_18 (rt 32) = .inl (K 0, 1000, .inl g_17) := by rw [ef_18, va_up_self]
    have hC : mC rt L f_18 fm := ⟨hC.1, F_m, hC.2.2.1, hC.2.2.2⟩
    refine lv_aload_n hx hb dX6_sell_94 rfl (lv_at hl 2 rfl) ?_
    refine g_get (ci := 6) (v := .ref (rt 33)) (C := RX6) (T := TX6) (N := 51) hx hb hts uB6 hown hK hP (hC.1.1 51 (by decide)) F_m rfl 33 (by decide) wm_122 (hC.2.2.2 33 (by decide)) dX6_sell_95 ?_
    refine lv_iload hx hb dX6_sell_98 (lv_at hl 1 rfl) ?_
    refine lv_aload_n hx hb dX6_sell_100 rfl (lv_at hl 2 rfl) ?_
    refine g_get (ci := 6) (v := .int wt) (C := RX6) (T := TX6) (N := 51) hx hb hts uB6 hown hK hP (hC.1.1 51 (by decide)) F_m rfl 4 (by decide) wm_114 I_wait dX6_sell_101 ?_
    refine g_iast hx hb hK hP hD hS (hC.1.1 33 (by decide)) F_saleWait (vp_in_nI (by omega) (by decide)) dX6_sell_104 (fun H locs hP hD hS => ?_)
    obtain ⟨g_19, eg_19⟩ : ∃ z9, z9 = upd g_saleWait (Int32.toNatClampNeg (nI ns)) wt := ⟨_, rfl⟩
    rw [← eg_19] at hP hD
    obtain ⟨f_20, ef_20⟩ : ∃ z9, z9 = va_up f_18 (rt 33) (.inl (K 0, 1000, .inl g_19)) := ⟨_, rfl⟩
    have hP : va_P (dC, dI) vwCl (va_pl L f_20) H := by rw [ef_20]; exact hP
    have hD : va_D A (va_pl L f_20) := by rw [ef_20]; exact hD
    have F_m_ : f_20 (rt 51) = .inr (6, fm) := by rw [ef_20, va_up_ne _ _ (fun q => absurd (hC.1.2 51 (by decide) 33 (by decide) q) (by decide))]; exact F_m
    have F_saleTick_ : f_20 (rt 26) = .inl (K 0, 1000, .inl g_2) := by rw [ef_20, va_up_ne _ _ (fun q => absurd (hC.1.2 26 (by decide) 33 (by decide) q) (by decide))]; exact F_saleTick
    have F_saleReader_ : f_20 (rt 27) = .inl (K 0, 1000, .inl g_4) := by rw [ef_20, va_up_ne _ _ (fun q => absurd (hC.1.2 27 (by decide) 33 (by decide) q) (by decide))]; exact F_saleReader
    have F_salePage_ : f_20 (rt 28) = .inl (K 0, 1000, .inl g_6) := by rw [ef_20, va_up_ne _ _ (fun q => absurd (hC.1.2 28 (by decide) 33 (by decide) q) (by decide))]; exact F_salePage
    have F_salePlace_ : f_20 (rt 29) = .inl (K 0, 1000, .inl g_8) := by rw [ef_20, va_up_ne _ _ (fun q => absurd (hC.1.2 29 (by decide) 33 (by decide) q) (by decide))]; exact F_salePlace
    have F_saleOf_ : f_20 (rt 30) = .inl (K 0, 1000, .inl g_10) := by rw [ef_20, va_up_ne _ _ (fun q => absurd (hC.1.2 30 (by decide) 33 (by decide) q) (by decide))]; exact F_saleOf
    have F_price_ : f_20 (rt 31) = .inl (K 0, 1000, .inl g_13) := by rw [ef_20, va_up_ne _ _ (fun q => absurd (hC.1.2 31 (by decide) 33 (by decide) q) (by decide))]; exact F_price
    have F_state_ : f_20 (rt 32) = .inl (K 0, 1000, .inl g_17) := by rw [ef_20, va_up_ne _ _ (fun q => absurd (hC.1.2 32 (by decide) 33 (by decide) q) (by decide))]; exact F_state
    have F_pressTick_ : f_20 (rt 34) = .inl (K 0, 1000, .inl g_pressTick) := by rw [ef_20, va_up_ne _ _ (fun q => absurd (hC.1.2 34 (by decide) 33 (by decide) q) (by decide))]; exact F_pressTick
    have F_pays_ : f_20 (rt 11) = .inl (K 0, 40, .inl g_pays) := by rw [ef_20, va_up_ne _ _ (fun q => absurd (hC.1.2 11 (by decide) 33 (by decide) q) (by decide))]; exact F_pays
    have F_toSell_ : f_20 (rt 49) = .inl (K 0, 4, .inl g_toSell) := by rw [ef_20, va_up_ne _ _ (fun q => absurd (hC.1.2 49 (by decide) 33 (by decide) q) (by decide))]; exact F_toSell
    have F_toPay_ : f_20 (rt 50) = .inl (K 0, 4, .inl g_toPay) := by rw [ef_20, va_up_ne _ _ (fun q => absurd (hC.1.2 50 (by decide) 33 (by decide) q) (by decide))]; exact F_toPay
    have F_m := F_m_
    have F_saleTick := F_saleTick_
    have F_saleReader := F_saleReader_
    have F_salePage := F_salePage_
    have F_salePlace := F_salePlace_
    have F_saleOf := F_saleOf_
    have F_price := F_price_
    have F_state := F_state_
    have F_pressTick := F_pressTick_
    have F_pays := F_pays_
    have F_toSell := F_toSell_
    have F_toPay := F_toPay_
    have F_saleWait : f_20 (rt 33) = .inl (K 0, 1000, .inl g_19) := by rw [ef_20, va_up_self]
    have hC : mC rt L f_20 fm := ⟨hC.1, F_m, hC.2.2.1, hC.2.2.2⟩
    refine lv_aload_n hx hb dX6_sell_105 rfl (lv_at hl 2 rfl) ?_
    refine g_get (ci := 6) (v := .ref (rt 34)) (C := RX6) (T := TX6) (N := 51) hx hb hts uB6 hown hK hP (hC.1.1 51 (by decide)) F_m rfl 34 (by decide) wm_11 (hC.2.2.2 34 (by decide)) dX6_sell_106 ?_
    refine lv_iload hx hb dX6_sell_109 (lv_at hl 1 rfl) ?_
    refine lv_iconst (v := 0) hx hb dX6_sell_111 (by decide) ?_
    refine g_iast hx hb hK hP hD hS (hC.1.1 34 (by decide)) F_pressTick (vp_in_nI (by omega) (by decide)) dX6_sell_112 (fun H locs hP hD hS => ?_)
    obtain ⟨g_21, eg_21⟩ : ∃ z9, z9 = upd g_pressTick (Int32.toNatClampNeg (nI ns)) 0 := ⟨_, rfl⟩
    rw [← eg_21] at hP hD
    obtain ⟨f_22, ef_22⟩ : ∃ z9, z9 = va_up f_20 (rt 34) (.inl (K 0, 1000, .inl g_21)) := ⟨_, rfl⟩
    have hP : va_P (dC, dI) vwCl (va_pl L f_22) H := by rw [ef_22]; exact hP
    have hD : va_D A (va_pl L f_22) := by rw [ef_22]; exact hD
    have F_m_ : f_22 (rt 51) = .inr (6, fm) := by rw [ef_22, va_up_ne _ _ (fun q => absurd (hC.1.2 51 (by decide) 34 (by decide) q) (by decide))]; exact F_m
    have F_saleTick_ : f_22 (rt 26) = .inl (K 0, 1000, .inl g_2) := by rw [ef_22, va_up_ne _ _ (fun q => absurd (hC.1.2 26 (by decide) 34 (by decide) q) (by decide))]; exact F_saleTick
    have F_saleReader_ : f_22 (rt 27) = .inl (K 0, 1000, .inl g_4) := by rw [ef_22, va_up_ne _ _ (fun q => absurd (hC.1.2 27 (by decide) 34 (by decide) q) (by decide))]; exact F_saleReader
    have F_salePage_ : f_22 (rt 28) = .inl (K 0, 1000, .inl g_6) := by rw [ef_22, va_up_ne _ _ (fun q => absurd (hC.1.2 28 (by decide) 34 (by decide) q) (by decide))]; exact F_salePage
    have F_salePlace_ : f_22 (rt 29) = .inl (K 0, 1000, .inl g_8) := by rw [ef_22, va_up_ne _ _ (fun q => absurd (hC.1.2 29 (by decide) 34 (by decide) q) (by decide))]; exact F_salePlace
    have F_saleOf_ : f_22 (rt 30) = .inl (K 0, 1000, .inl g_10) := by rw [ef_22, va_up_ne _ _ (fun q => absurd (hC.1.2 30 (by decide) 34 (by decide) q) (by decide))]; exact F_saleOf
    have F_price_ : f_22 (rt 31) = .inl (K 0, 1000, .inl g_13) := by rw [ef_22, va_up_ne _ _ (fun q => absurd (hC.1.2 31 (by decide) 34 (by decide) q) (by decide))]; exact F_price
    have F_state_ : f_22 (rt 32) = .inl (K 0, 1000, .inl g_17) := by rw [ef_22, va_up_ne _ _ (fun q => absurd (hC.1.2 32 (by decide) 34 (by decide) q) (by decide))]; exact F_state
    have F_saleWait_ : f_22 (rt 33) = .inl (K 0, 1000, .inl g_19) := by rw [ef_22, va_up_ne _ _ (fun q => absurd (hC.1.2 33 (by decide) 34 (by decide) q) (by decide))]; exact F_saleWait
    have F_pays_ : f_22 (rt 11) = .inl (K 0, 40, .inl g_pays) := by rw [ef_22, va_up_ne _ _ (fun q => absurd (hC.1.2 11 (by decide) 34 (by decide) q) (by decide))]; exact F_pays
    have F_toSell_ : f_22 (rt 49) = .inl (K 0, 4, .inl g_toSell) := by rw [ef_22, va_up_ne _ _ (fun q => absurd (hC.1.2 49 (by decide) 34 (by decide) q) (by decide))]; exact F_toSell
    have F_toPay_ : f_22 (rt 50) = .inl (K 0, 4, .inl g_toPay) := by rw [ef_22, va_up_ne _ _ (fun q => absurd (hC.1.2 50 (by decide) 34 (by decide) q) (by decide))]; exact F_toPay
    have F_m := F_m_
    have F_saleTick := F_saleTick_
    have F_saleReader := F_saleReader_
    have F_salePage := F_salePage_
    have F_salePlace := F_salePlace_
    have F_saleOf := F_saleOf_
    have F_price := F_price_
    have F_state := F_state_
    have F_saleWait := F_saleWait_
    have F_pays := F_pays_
    have F_toSell := F_toSell_
    have F_toPay := F_toPay_
    have F_pressTick : f_22 (rt 34) = .inl (K 0, 1000, .inl g_21) := by rw [ef_22, va_up_self]
    have hC : mC rt L f_22 fm := ⟨hC.1, F_m, hC.2.2.1, hC.2.2.2⟩
    refine lv_aload_n hx hb dX6_sell_113 rfl (lv_at hl 2 rfl) ?_
    refine lv_dup hx hb dX6_sell_114 rfl ?_
    refine g_get (ci := 6) (v := .int (nI ns)) (C := RX6) (T := TX6) (N := 51) hx hb hts uB6 hown hK hP (hC.1.1 51 (by decide)) F_m rfl 25 (by decide) wm_4 I_sales dX6_sell_115 ?_
    refine lv_iconst (v := 1) hx hb dX6_sell_118 (by decide) ?_
    refine lv_iadd hx hb dX6_sell_119 ?_
    refine lv_topi (fun x_23 ex_23 => ?_)
    obtain rfl : x_23 = nI (ns + 1) := ex_23.trans (nI_1 ns)
    refine g_put (ci := 6) (v := .int (nI (ns + 1))) (ty := .int) (C := RX6) (T := TX6) (N := 51) hx hb hts uB6 tyX6 tyX6_ok nmX6 hown hK hP hD hS (hC.1.1 51 (by decide)) F_m rfl 25 (by decide) wm_4 rfl (by decide +kernel) rfl rfl (by rw [hC.2.2.1]; decide) dX6_sell_120 (fun H locs hP hD hS => ?_)
    obtain ⟨fs_24, efs_24⟩ : ∃ z9, z9 = List.set fm 25 (.int (nI (ns + 1))) := ⟨_, rfl⟩
    rw [← efs_24] at hP hD
    have hlen_ : fs_24.length = 51 := by rw [efs_24, List.length_set]; exact hC.2.2.1
    have I_tick : fs_24[1]? = some (.int (nI tk)) := by rw [efs_24, List.getElem?_set_ne (by decide)]; exact I_tick
    have I_wait : fs_24[4]? = some (.int wt) := by rw [efs_24, List.getElem?_set_ne (by decide)]; exact I_wait
    have I_sales : fs_24[25]? = some (.int (nI (ns + 1))) := by rw [efs_24]; exact List.getElem?_set_self (by rw [hC.2.2.1]; decide)
    have hmr_ : ∀ k ∈ mArr, fs_24[k]? = some (.ref (rt k)) := fun k h => by rw [efs_24, List.getElem?_set_ne (fun q => by rw [← q] at h; exact absurd h (by decide))]; exact hC.2.2.2 k h
    obtain ⟨f_25, ef_25⟩ : ∃ z9, z9 = va_up f_22 (rt 51) (.inr (6, fs_24)) := ⟨_, rfl⟩
    have hP : va_P (dC, dI) vwCl (va_pl L f_25) H := by rw [ef_25]; exact hP
    have hD : va_D A (va_pl L f_25) := by rw [ef_25]; exact hD
    have F_saleTick_ : f_25 (rt 26) = .inl (K 0, 1000, .inl g_2) := by rw [ef_25, va_up_ne _ _ (fun q => absurd (hC.1.2 26 (by decide) 51 (by decide) q) (by decide))]; exact F_saleTick
    have F_saleReader_ : f_25 (rt 27) = .inl (K 0, 1000, .inl g_4) := by rw [ef_25, va_up_ne _ _ (fun q => absurd (hC.1.2 27 (by decide) 51 (by decide) q) (by decide))]; exact F_saleReader
    have F_salePage_ : f_25 (rt 28) = .inl (K 0, 1000, .inl g_6) := by rw [ef_25, va_up_ne _ _ (fun q => absurd (hC.1.2 28 (by decide) 51 (by decide) q) (by decide))]; exact F_salePage
    have F_salePlace_ : f_25 (rt 29) = .inl (K 0, 1000, .inl g_8) := by rw [ef_25, va_up_ne _ _ (fun q => absurd (hC.1.2 29 (by decide) 51 (by decide) q) (by decide))]; exact F_salePlace
    have F_saleOf_ : f_25 (rt 30) = .inl (K 0, 1000, .inl g_10) := by rw [ef_25, va_up_ne _ _ (fun q => absurd (hC.1.2 30 (by decide) 51 (by decide) q) (by decide))]; exact F_saleOf
    have F_price_ : f_25 (rt 31) = .inl (K 0, 1000, .inl g_13) := by rw [ef_25, va_up_ne _ _ (fun q => absurd (hC.1.2 31 (by decide) 51 (by decide) q) (by decide))]; exact F_price
    have F_state_ : f_25 (rt 32) = .inl (K 0, 1000, .inl g_17) := by rw [ef_25, va_up_ne _ _ (fun q => absurd (hC.1.2 32 (by decide) 51 (by decide) q) (by decide))]; exact F_state
    have F_saleWait_ : f_25 (rt 33) = .inl (K 0, 1000, .inl g_19) := by rw [ef_25, va_up_ne _ _ (fun q => absurd (hC.1.2 33 (by decide) 51 (by decide) q) (by decide))]; exact F_saleWait
    have F_pressTick_ : f_25 (rt 34) = .inl (K 0, 1000, .inl g_21) := by rw [ef_25, va_up_ne _ _ (fun q => absurd (hC.1.2 34 (by decide) 51 (by decide) q) (by decide))]; exact F_pressTick
    have F_pays_ : f_25 (rt 11) = .inl (K 0, 40, .inl g_pays) := by rw [ef_25, va_up_ne _ _ (fun q => absurd (hC.1.2 11 (by decide) 51 (by decide) q) (by decide))]; exact F_pays
    have F_toSell_ : f_25 (rt 49) = .inl (K 0, 4, .inl g_toSell) := by rw [ef_25, va_up_ne _ _ (fun q => absurd (hC.1.2 49 (by decide) 51 (by decide) q) (by decide))]; exact F_toSell
    have F_toPay_ : f_25 (rt 50) = .inl (K 0, 4, .inl g_toPay) := by rw [ef_25, va_up_ne _ _ (fun q => absurd (hC.1.2 50 (by decide) 51 (by decide) q) (by decide))]; exact F_toPay
    have F_saleTick := F_saleTick_
    have F_saleReader := F_saleReader_
    have F_salePage := F_salePage_
    have F_salePlace := F_salePlace_
    have F_saleOf := F_saleOf_
    have F_price := F_price_
    have F_state := F_state_
    have F_saleWait := F_saleWait_
    have F_pressTick := F_pressTick_
    have F_pays := F_pays_
    have F_toSell := F_toSell_
    have F_toPay := F_toPay_
    have F_m : f_25 (rt 51) = .inr (6, fs_24) := by rw [ef_25, va_up_self]
    have hC : mC rt L f_25 fs_24 := ⟨hC.1, F_m, hlen_, hmr_⟩
    exact W.vret hx hb hr (fun t ht hW => ⟨⟨f_25, rfl, ⟨_, by rw [ef_25, efs_24, ef_22, eg_21, ef_20, eg_19, ef_18, eg_17, ef_14, eg_13, ef_11, eg_10, ef_9, eg_8, ef_7, eg_6, ef_5, eg_4, ef_3, eg_2, ex_12]⟩, by show va_P (dC, dI) vwCl (va_pl L f_25) t.heap; rw [ht]; exact hP⟩, hS.F ht⟩) hS.2.2 dX6_sell_123
  · skip
    refine lv_iconst (v := 1) hx hb dX6_sell_88 (by decide) ?_
    refine lv_goto (tgt := 93) hx hb dX6_sell_89 (by decide) ?_
    refine g_iast hx hb hK hP hD hS (hC.1.1 32 (by decide)) F_state (vp_in_nI (by omega) (by decide)) dX6_sell_93 (fun H locs hP hD hS => ?_)
    obtain ⟨g_26, eg_26⟩ : ∃ z9, z9 = upd g_state (Int32.toNatClampNeg (nI ns)) 1 := ⟨_, rfl⟩
    rw [← eg_26] at hP hD
    obtain ⟨f_27, ef_27⟩ : ∃ z9, z9 = va_up f_14 (rt 32) (.inl (K 0, 1000, .inl g_26)) := ⟨_, rfl⟩
    have hP : va_P (dC, dI) vwCl (va_pl L f_27) H := by rw [ef_27]; exact hP
    have hD : va_D A (va_pl L f_27) := by rw [ef_27]; exact hD
    have F_m_ : f_27 (rt 51) = .inr (6, fm) := by rw [ef_27, va_up_ne _ _ (fun q => absurd (hC.1.2 51 (by decide) 32 (by decide) q) (by decide))]; exact F_m
    have F_saleTick_ : f_27 (rt 26) = .inl (K 0, 1000, .inl g_2) := by rw [ef_27, va_up_ne _ _ (fun q => absurd (hC.1.2 26 (by decide) 32 (by decide) q) (by decide))]; exact F_saleTick
    have F_saleReader_ : f_27 (rt 27) = .inl (K 0, 1000, .inl g_4) := by rw [ef_27, va_up_ne _ _ (fun q => absurd (hC.1.2 27 (by decide) 32 (by decide) q) (by decide))]; exact F_saleReader
    have F_salePage_ : f_27 (rt 28) = .inl (K 0, 1000, .inl g_6) := by rw [ef_27, va_up_ne _ _ (fun q => absurd (hC.1.2 28 (by decide) 32 (by decide) q) (by decide))]; exact F_salePage
    have F_salePlace_ : f_27 (rt 29) = .inl (K 0, 1000, .inl g_8) := by rw [ef_27, va_up_ne _ _ (fun q => absurd (hC.1.2 29 (by decide) 32 (by decide) q) (by decide))]; exact F_salePlace
    have F_saleOf_ : f_27 (rt 30) = .inl (K 0, 1000, .inl g_10) := by rw [ef_27, va_up_ne _ _ (fun q => absurd (hC.1.2 30 (by decide) 32 (by decide) q) (by decide))]; exact F_saleOf
    have F_price_ : f_27 (rt 31) = .inl (K 0, 1000, .inl g_13) := by rw [ef_27, va_up_ne _ _ (fun q => absurd (hC.1.2 31 (by decide) 32 (by decide) q) (by decide))]; exact F_price
    have F_saleWait_ : f_27 (rt 33) = .inl (K 0, 1000, .inl g_saleWait) := by rw [ef_27, va_up_ne _ _ (fun q => absurd (hC.1.2 33 (by decide) 32 (by decide) q) (by decide))]; exact F_saleWait
    have F_pressTick_ : f_27 (rt 34) = .inl (K 0, 1000, .inl g_pressTick) := by rw [ef_27, va_up_ne _ _ (fun q => absurd (hC.1.2 34 (by decide) 32 (by decide) q) (by decide))]; exact F_pressTick
    have F_pays_ : f_27 (rt 11) = .inl (K 0, 40, .inl g_pays) := by rw [ef_27, va_up_ne _ _ (fun q => absurd (hC.1.2 11 (by decide) 32 (by decide) q) (by decide))]; exact F_pays
    have F_toSell_ : f_27 (rt 49) = .inl (K 0, 4, .inl g_toSell) := by rw [ef_27, va_up_ne _ _ (fun q => absurd (hC.1.2 49 (by decide) 32 (by decide) q) (by decide))]; exact F_toSell
    have F_toPay_ : f_27 (rt 50) = .inl (K 0, 4, .inl g_toPay) := by rw [ef_27, va_up_ne _ _ (fun q => absurd (hC.1.2 50 (by decide) 32 (by decide) q) (by decide))]; exact F_toPay
    have F_m := F_m_
    have F_saleTick := F_saleTick_
    have F_saleReader := F_saleReader_
    have F_salePage := F_salePage_
    have F_salePlace := F_salePlace_
    have F_saleOf := F_saleOf_
    have F_price := F_price_
    have F_saleWait := F_saleWait_
    have F_pressTick := F_pressTick_
    have F_pays := F_pays_
    have F_toSell := F_toSell_
    have F_toPay := F_toPay_
    have F_state : f_27 (rt 32) = .inl (K 0, 1000, .inl g_26) := by rw [ef_27, va_up_self]
    have hC : mC rt L f_27 fm := ⟨hC.1, F_m, hC.2.2.1, hC.2.2.2⟩
    refine lv_aload_n hx hb dX6_sell_94 rfl (lv_at hl 2 rfl) ?_
    refine g_get (ci := 6) (v := .ref (rt 33)) (C := RX6) (T := TX6) (N := 51) hx hb hts uB6 hown hK hP (hC.1.1 51 (by decide)) F_m rfl 33 (by decide) wm_122 (hC.2.2.2 33 (by decide)) dX6_sell_95 ?_
    refine lv_iload hx hb dX6_sell_98 (lv_at hl 1 rfl) ?_
    refine lv_aload_n hx hb dX6_sell_100 rfl (lv_at hl 2 rfl) ?_
    refine g_get (ci := 6) (v := .int wt) (C := RX6) (T := TX6) (N := 51) hx hb hts uB6 hown hK hP (hC.1.1 51 (by decide)) F_m rfl 4 (by decide) wm_114 I_wait dX6_sell_101 ?_
    refine g_iast hx hb hK hP hD hS (hC.1.1 33 (by decide)) F_saleWait (vp_in_nI (by omega) (by decide)) dX6_sell_104 (fun H locs hP hD hS => ?_)
    obtain ⟨g_28, eg_28⟩ : ∃ z9, z9 = upd g_saleWait (Int32.toNatClampNeg (nI ns)) wt := ⟨_, rfl⟩
    rw [← eg_28] at hP hD
    obtain ⟨f_29, ef_29⟩ : ∃ z9, z9 = va_up f_27 (rt 33) (.inl (K 0, 1000, .inl g_28)) := ⟨_, rfl⟩
    have hP : va_P (dC, dI) vwCl (va_pl L f_29) H := by rw [ef_29]; exact hP
    have hD : va_D A (va_pl L f_29) := by rw [ef_29]; exact hD
    have F_m_ : f_29 (rt 51) = .inr (6, fm) := by rw [ef_29, va_up_ne _ _ (fun q => absurd (hC.1.2 51 (by decide) 33 (by decide) q) (by decide))]; exact F_m
    have F_saleTick_ : f_29 (rt 26) = .inl (K 0, 1000, .inl g_2) := by rw [ef_29, va_up_ne _ _ (fun q => absurd (hC.1.2 26 (by decide) 33 (by decide) q) (by decide))]; exact F_saleTick
    have F_saleReader_ : f_29 (rt 27) = .inl (K 0, 1000, .inl g_4) := by rw [ef_29, va_up_ne _ _ (fun q => absurd (hC.1.2 27 (by decide) 33 (by decide) q) (by decide))]; exact F_saleReader
    have F_salePage_ : f_29 (rt 28) = .inl (K 0, 1000, .inl g_6) := by rw [ef_29, va_up_ne _ _ (fun q => absurd (hC.1.2 28 (by decide) 33 (by decide) q) (by decide))]; exact F_salePage
    have F_salePlace_ : f_29 (rt 29) = .inl (K 0, 1000, .inl g_8) := by rw [ef_29, va_up_ne _ _ (fun q => absurd (hC.1.2 29 (by decide) 33 (by decide) q) (by decide))]; exact F_salePlace
    have F_saleOf_ : f_29 (rt 30) = .inl (K 0, 1000, .inl g_10) := by rw [ef_29, va_up_ne _ _ (fun q => absurd (hC.1.2 30 (by decide) 33 (by decide) q) (by decide))]; exact F_saleOf
    have F_price_ : f_29 (rt 31) = .inl (K 0, 1000, .inl g_13) := by rw [ef_29, va_up_ne _ _ (fun q => absurd (hC.1.2 31 (by decide) 33 (by decide) q) (by decide))]; exact F_price
    have F_state_ : f_29 (rt 32) = .inl (K 0, 1000, .inl g_26) := by rw [ef_29, va_up_ne _ _ (fun q => absurd (hC.1.2 32 (by decide) 33 (by decide) q) (by decide))]; exact F_state
    have F_pressTick_ : f_29 (rt 34) = .inl (K 0, 1000, .inl g_pressTick) := by rw [ef_29, va_up_ne _ _ (fun q => absurd (hC.1.2 34 (by decide) 33 (by decide) q) (by decide))]; exact F_pressTick
    have F_pays_ : f_29 (rt 11) = .inl (K 0, 40, .inl g_pays) := by rw [ef_29, va_up_ne _ _ (fun q => absurd (hC.1.2 11 (by decide) 33 (by decide) q) (by decide))]; exact F_pays
    have F_toSell_ : f_29 (rt 49) = .inl (K 0, 4, .inl g_toSell) := by rw [ef_29, va_up_ne _ _ (fun q => absurd (hC.1.2 49 (by decide) 33 (by decide) q) (by decide))]; exact F_toSell
    have F_toPay_ : f_29 (rt 50) = .inl (K 0, 4, .inl g_toPay) := by rw [ef_29, va_up_ne _ _ (fun q => absurd (hC.1.2 50 (by decide) 33 (by decide) q) (by decide))]; exact F_toPay
    have F_m := F_m_
    have F_saleTick := F_saleTick_
    have F_saleReader := F_saleReader_
    have F_salePage := F_salePage_
    have F_salePlace := F_salePlace_
    have F_saleOf := F_saleOf_
    have F_price := F_price_
    have F_state := F_state_
    have F_pressTick := F_pressTick_
    have F_pays := F_pays_
    have F_toSell := F_toSell_
    have F_toPay := F_toPay_
    have F_saleWait : f_29 (rt 33) = .inl (K 0, 1000, .inl g_28) := by rw [ef_29, va_up_self]
    have hC : mC rt L f_29 fm := ⟨hC.1, F_m, hC.2.2.1, hC.2.2.2⟩
    refine lv_aload_n hx hb dX6_sell_105 rfl (lv_at hl 2 rfl) ?_
    refine g_get (ci := 6) (v := .ref (rt 34)) (C := RX6) (T := TX6) (N := 51) hx hb hts uB6 hown hK hP (hC.1.1 51 (by decide)) F_m rfl 34 (by decide) wm_11 (hC.2.2.2 34 (by decide)) dX6_sell_106 ?_
    refine lv_iload hx hb dX6_sell_109 (lv_at hl 1 rfl) ?_
    refine lv_iconst (v := 0) hx hb dX6_sell_111 (by decide) ?_
    refine g_iast hx hb hK hP hD hS (hC.1.1 34 (by decide)) F_pressTick (vp_in_nI (by omega) (by decide)) dX6_sell_112 (fun H locs hP hD hS => ?_)
    obtain ⟨g_30, eg_30⟩ : ∃ z9, z9 = upd g_pressTick (Int32.toNatClampNeg (nI ns)) 0 := ⟨_, rfl⟩
    rw [← eg_30] at hP hD
    obtain ⟨f_31, ef_31⟩ : ∃ z9, z9 = va_up f_29 (rt 34) (.inl (K 0, 1000, .inl g_30)) := ⟨_, rfl⟩
    have hP : va_P (dC, dI) vwCl (va_pl L f_31) H := by rw [ef_31]; exact hP
    have hD : va_D A (va_pl L f_31) := by rw [ef_31]; exact hD
    have F_m_ : f_31 (rt 51) = .inr (6, fm) := by rw [ef_31, va_up_ne _ _ (fun q => absurd (hC.1.2 51 (by decide) 34 (by decide) q) (by decide))]; exact F_m
    have F_saleTick_ : f_31 (rt 26) = .inl (K 0, 1000, .inl g_2) := by rw [ef_31, va_up_ne _ _ (fun q => absurd (hC.1.2 26 (by decide) 34 (by decide) q) (by decide))]; exact F_saleTick
    have F_saleReader_ : f_31 (rt 27) = .inl (K 0, 1000, .inl g_4) := by rw [ef_31, va_up_ne _ _ (fun q => absurd (hC.1.2 27 (by decide) 34 (by decide) q) (by decide))]; exact F_saleReader
    have F_salePage_ : f_31 (rt 28) = .inl (K 0, 1000, .inl g_6) := by rw [ef_31, va_up_ne _ _ (fun q => absurd (hC.1.2 28 (by decide) 34 (by decide) q) (by decide))]; exact F_salePage
    have F_salePlace_ : f_31 (rt 29) = .inl (K 0, 1000, .inl g_8) := by rw [ef_31, va_up_ne _ _ (fun q => absurd (hC.1.2 29 (by decide) 34 (by decide) q) (by decide))]; exact F_salePlace
    have F_saleOf_ : f_31 (rt 30) = .inl (K 0, 1000, .inl g_10) := by rw [ef_31, va_up_ne _ _ (fun q => absurd (hC.1.2 30 (by decide) 34 (by decide) q) (by decide))]; exact F_saleOf
    have F_price_ : f_31 (rt 31) = .inl (K 0, 1000, .inl g_13) := by rw [ef_31, va_up_ne _ _ (fun q => absurd (hC.1.2 31 (by decide) 34 (by decide) q) (by decide))]; exact F_price
    have F_state_ : f_31 (rt 32) = .inl (K 0, 1000, .inl g_26) := by rw [ef_31, va_up_ne _ _ (fun q => absurd (hC.1.2 32 (by decide) 34 (by decide) q) (by decide))]; exact F_state
    have F_saleWait_ : f_31 (rt 33) = .inl (K 0, 1000, .inl g_28) := by rw [ef_31, va_up_ne _ _ (fun q => absurd (hC.1.2 33 (by decide) 34 (by decide) q) (by decide))]; exact F_saleWait
    have F_pays_ : f_31 (rt 11) = .inl (K 0, 40, .inl g_pays) := by rw [ef_31, va_up_ne _ _ (fun q => absurd (hC.1.2 11 (by decide) 34 (by decide) q) (by decide))]; exact F_pays
    have F_toSell_ : f_31 (rt 49) = .inl (K 0, 4, .inl g_toSell) := by rw [ef_31, va_up_ne _ _ (fun q => absurd (hC.1.2 49 (by decide) 34 (by decide) q) (by decide))]; exact F_toSell
    have F_toPay_ : f_31 (rt 50) = .inl (K 0, 4, .inl g_toPay) := by rw [ef_31, va_up_ne _ _ (fun q => absurd (hC.1.2 50 (by decide) 34 (by decide) q) (by decide))]; exact F_toPay
    have F_m := F_m_
    have F_saleTick := F_saleTick_
    have F_saleReader := F_saleReader_
    have F_salePage := F_salePage_
    have F_salePlace := F_salePlace_
    have F_saleOf := F_saleOf_
    have F_price := F_price_
    have F_state := F_state_
    have F_saleWait := F_saleWait_
    have F_pays := F_pays_
    have F_toSell := F_toSell_
    have F_toPay := F_toPay_
    have F_pressTick : f_31 (rt 34) = .inl (K 0, 1000, .inl g_30) := by rw [ef_31, va_up_self]
    have hC : mC rt L f_31 fm := ⟨hC.1, F_m, hC.2.2.1, hC.2.2.2⟩
    refine lv_aload_n hx hb dX6_sell_113 rfl (lv_at hl 2 rfl) ?_
    refine lv_dup hx hb dX6_sell_114 rfl ?_
    refine g_get (ci := 6) (v := .int (nI ns)) (C := RX6) (T := TX6) (N := 51) hx hb hts uB6 hown hK hP (hC.1.1 51 (by decide)) F_m rfl 25 (by decide) wm_4 I_sales dX6_sell_115 ?_
    refine lv_iconst (v := 1) hx hb dX6_sell_118 (by decide) ?_
    refine lv_iadd hx hb dX6_sell_119 ?_
    refine lv_topi (fun x_32 ex_32 => ?_)
    obtain rfl : x_32 = nI (ns + 1) := ex_32.trans (nI_1 ns)
    refine g_put (ci := 6) (v := .int (nI (ns + 1))) (ty := .int) (C := RX6) (T := TX6) (N := 51) hx hb hts uB6 tyX6 tyX6_ok nmX6 hown hK hP hD hS (hC.1.1 51 (by decide)) F_m rfl 25 (by decide) wm_4 rfl (by decide +kernel) rfl rfl (by rw [hC.2.2.1]; decide) dX6_sell_120 (fun H locs hP hD hS => ?_)
    obtain ⟨fs_33, efs_33⟩ : ∃ z9, z9 = List.set fm 25 (.int (nI (ns + 1))) := ⟨_, rfl⟩
    rw [← efs_33] at hP hD
    have hlen_ : fs_33.length = 51 := by rw [efs_33, List.length_set]; exact hC.2.2.1
    have I_tick : fs_33[1]? = some (.int (nI tk)) := by rw [efs_33, List.getElem?_set_ne (by decide)]; exact I_tick
    have I_wait : fs_33[4]? = some (.int wt) := by rw [efs_33, List.getElem?_set_ne (by decide)]; exact I_wait
    have I_sales : fs_33[25]? = some (.int (nI (ns + 1))) := by rw [efs_33]; exact List.getElem?_set_self (by rw [hC.2.2.1]; decide)
    have hmr_ : ∀ k ∈ mArr, fs_33[k]? = some (.ref (rt k)) := fun k h => by rw [efs_33, List.getElem?_set_ne (fun q => by rw [← q] at h; exact absurd h (by decide))]; exact hC.2.2.2 k h
    obtain ⟨f_34, ef_34⟩ : ∃ z9, z9 = va_up f_31 (rt 51) (.inr (6, fs_33)) := ⟨_, rfl⟩
    have hP : va_P (dC, dI) vwCl (va_pl L f_34) H := by rw [ef_34]; exact hP
    have hD : va_D A (va_pl L f_34) := by rw [ef_34]; exact hD
    have F_saleTick_ : f_34 (rt 26) = .inl (K 0, 1000, .inl g_2) := by rw [ef_34, va_up_ne _ _ (fun q => absurd (hC.1.2 26 (by decide) 51 (by decide) q) (by decide))]; exact F_saleTick
    have F_saleReader_ : f_34 (rt 27) = .inl (K 0, 1000, .inl g_4) := by rw [ef_34, va_up_ne _ _ (fun q => absurd (hC.1.2 27 (by decide) 51 (by decide) q) (by decide))]; exact F_saleReader
    have F_salePage_ : f_34 (rt 28) = .inl (K 0, 1000, .inl g_6) := by rw [ef_34, va_up_ne _ _ (fun q => absurd (hC.1.2 28 (by decide) 51 (by decide) q) (by decide))]; exact F_salePage
    have F_salePlace_ : f_34 (rt 29) = .inl (K 0, 1000, .inl g_8) := by rw [ef_34, va_up_ne _ _ (fun q => absurd (hC.1.2 29 (by decide) 51 (by decide) q) (by decide))]; exact F_salePlace
    have F_saleOf_ : f_34 (rt 30) = .inl (K 0, 1000, .inl g_10) := by rw [ef_34, va_up_ne _ _ (fun q => absurd (hC.1.2 30 (by decide) 51 (by decide) q) (by decide))]; exact F_saleOf
    have F_price_ : f_34 (rt 31) = .inl (K 0, 1000, .inl g_13) := by rw [ef_34, va_up_ne _ _ (fun q => absurd (hC.1.2 31 (by decide) 51 (by decide) q) (by decide))]; exact F_price
    have F_state_ : f_34 (rt 32) = .inl (K 0, 1000, .inl g_26) := by rw [ef_34, va_up_ne _ _ (fun q => absurd (hC.1.2 32 (by decide) 51 (by decide) q) (by decide))]; exact F_state
    have F_saleWait_ : f_34 (rt 33) = .inl (K 0, 1000, .inl g_28) := by rw [ef_34, va_up_ne _ _ (fun q => absurd (hC.1.2 33 (by decide) 51 (by decide) q) (by decide))]; exact F_saleWait
    have F_pressTick_ : f_34 (rt 34) = .inl (K 0, 1000, .inl g_30) := by rw [ef_34, va_up_ne _ _ (fun q => absurd (hC.1.2 34 (by decide) 51 (by decide) q) (by decide))]; exact F_pressTick
    have F_pays_ : f_34 (rt 11) = .inl (K 0, 40, .inl g_pays) := by rw [ef_34, va_up_ne _ _ (fun q => absurd (hC.1.2 11 (by decide) 51 (by decide) q) (by decide))]; exact F_pays
    have F_toSell_ : f_34 (rt 49) = .inl (K 0, 4, .inl g_toSell) := by rw [ef_34, va_up_ne _ _ (fun q => absurd (hC.1.2 49 (by decide) 51 (by decide) q) (by decide))]; exact F_toSell
    have F_toPay_ : f_34 (rt 50) = .inl (K 0, 4, .inl g_toPay) := by rw [ef_34, va_up_ne _ _ (fun q => absurd (hC.1.2 50 (by decide) 51 (by decide) q) (by decide))]; exact F_toPay
    have F_saleTick := F_saleTick_
    have F_saleReader := F_saleReader_
    have F_salePage := F_salePage_
    have F_salePlace := F_salePlace_
    have F_saleOf := F_saleOf_
    have F_price := F_price_
    have F_state := F_state_
    have F_saleWait := F_saleWait_
    have F_pressTick := F_pressTick_
    have F_pays := F_pays_
    have F_toSell := F_toSell_
    have F_toPay := F_toPay_
    have F_m : f_34 (rt 51) = .inr (6, fs_33) := by rw [ef_34, va_up_self]
    have hC : mC rt L f_34 fs_33 := ⟨hC.1, F_m, hlen_, hmr_⟩
    exact W.vret hx hb hr (fun t ht hW => ⟨⟨f_34, rfl, ⟨_, by rw [ef_34, efs_33, ef_31, eg_30, ef_29, eg_28, ef_27, eg_26, ef_14, eg_13, ef_11, eg_10, ef_9, eg_8, ef_7, eg_6, ef_5, eg_4, ef_3, eg_2, ex_12]⟩, by show va_P (dC, dI) vwCl (va_pl L f_34) t.heap; rw [ht]; exact hP⟩, hS.F ht⟩) hS.2.2 dX6_sell_123
