set_option maxHeartbeats 4000000 in
set_option maxRecDepth 100000 in
theorem k_X5_addSpent (l : Launch) (dC : Nat → ClassId) (dI : Nat → Nat → Nat) (K : Nat → ClassId) (L : List Nat) (f : Nat → va_E) {np nc ns lk lc tp cp gp : Nat} {G J mk st : Nat → Int32} {ap : Nat → Int64} {kd sn : Nat → Nat} (hI : cI K np nc ns lk lc tp cp gp G J mk st ap kd sn L f) (h0 : Nat) (hm_h0 : h0 ∈ L) (hk_h0 : kd h0 = 1) (b : Nat) (hm_b : b ∈ L) (hk_b : kd b = 18) (x : Int32) (hnp : np ≤ 8) (hnc : nc ≤ 40) (hLn : gN L) : gMv l yX5_addSpent cX5_addSpent 3 0 (dC, dI) K L f [.ref h0, .ref b, .int x] (fun f' => ∃ (G2 : Nat → Int32), cI K np nc ns lk lc tp cp gp G2 J mk st ap kd sn L f' ∧ (gS [11] G G2)) := by
  refine Met.ofW (cc := cX5_addSpent) (maxL := 3) (ret := none) (by decide) rfl ?_
  intro p e s m args below meth c s₁ B hml hv
  obtain ⟨rfl, hP, hK⟩ := hv
  have hD : va_D (fun q : Nat => q ∈ L) (va_pl L f) := g_D hLn (fun a h => h) f
  generalize hAe : (fun q : Nat => q ∈ L) = A at hD ⊢
  have hx := B.exec
  have hb := B.bytes
  have hr := B.returns
  have hlocks := B.notSynchronized
  have hts0 := atoms_spec (ws := Cond.code yX5_addSpent cX5_addSpent 3 none :: lw_B) B.pre
  have hts : ∀ w ∈ lw_B, w.before _ s = true := fun w h => hts0 w (List.mem_cons_of_mem _ h)
  have hown : s.vm.findClass RX5 = some m.cls := findClass_of_methodNamed B.named
  have hS : va_S A s.heap s.heap [] := va_S.rf
  have hGS : gS [11] G G := gS.rf
  have hl := lv_entry ([.ref h0, .ref b, .int x]) (n := 3) (Nat.le_of_ble_eq_true rfl)
  rw [lg_entry_eq]
  generalize (lg_sl ([.ref h0, .ref b, .int x]) ++ List.replicate (3 - (lg_sl ([.ref h0, .ref b, .int x])).length) Slot.unset).toArray = ls at hl ⊢
  have hl : lv_has ls 3 [(0, .ref h0), (1, .ref b), (2, .int x)] := hl
  refine lv_aload_n hx hb dX5_addSpent_0 rfl (lv_at hl 0 rfl) ?_
  obtain ⟨fs1, b_2, hF1, hv1, hm_b_2, hk_b_2⟩ := hI.gR hm_h0 hk_h0 1 (ci := 5) (t := 3) ⟨rfl, rfl, by decide, rfl⟩
  refine g_get (ci := 5) (v := .ref b_2) (C := RX5) (T := TX5) (N := 17) hx hb hts uB5 hown hK hP hm_h0 hF1 rfl 1 (by decide) wm_270 hv1 dX5_addSpent_1 ?_
  refine lv_aload_n hx hb dX5_addSpent_4 rfl (lv_at hl 1 rfl) ?_
  obtain ⟨fs3, q_3, hF3, hv3, hq_3⟩ := hI.g7 hm_b hk_b 4 (ci := 3) ⟨rfl, rfl, by decide, rfl⟩
  refine g_get (ci := 3) (v := .int (nI q_3)) (C := RX3) (T := TX3) (N := 12) hx hb hts uB3 hown hK hP hm_b hF3 rfl 4 (by decide) wm_289 hv3 dX5_addSpent_5 ?_
  obtain ⟨g4, hF4, hgz4⟩ := hI.a3 hm_b_2 hk_b_2
  obtain ⟨b_5, hm_b_5, hk_b_5, hs_b_5, hv4⟩ := hgz4 q_3 (by omega)
  refine g_aldR (t := 4) hx hb hK hP hm_b_2 hF4 rfl (vp_in_nI (by omega) (by decide)) (by rw [nI_clamp (by omega)]; exact hv4) dX5_addSpent_8 ?_
  obtain ⟨fs6, b_7, hF6, hv6, hm_b_7, hk_b_7⟩ := hI.gR hm_b_5 hk_b_5 5 (ci := 0) (t := 19) ⟨rfl, rfl, by decide, rfl⟩
  refine g_get (ci := 0) (v := .ref b_7) (C := RX0) (T := TX0) (N := 16) hx hb hts uB0 hown hK hP hm_b_5 hF6 rfl 5 (by decide) wm_290 hv6 dX5_addSpent_9 ?_
  refine lv_dup hx hb dX5_addSpent_12 rfl ?_
  obtain ⟨fs8, x_8, hF8, hv8⟩ := hI.gI hm_b_7 hk_b_7 0 (ci := 4) ⟨rfl, rfl, by decide, rfl⟩
  refine g_get (ci := 4) (v := .int x_8) (C := RX4) (T := TX4) (N := 8) hx hb hts uB4 hown hK hP hm_b_7 hF8 rfl 0 (by decide) wm_291 hv8 dX5_addSpent_13 ?_
  refine lv_iload_n hx hb dX5_addSpent_16 rfl (lv_at hl 2 rfl) ?_
  refine lv_iadd hx hb dX5_addSpent_17 ?_
  refine lv_topi (fun x_9 ex_9 => ?_)
  obtain ⟨fs10, hF10, hn10, -⟩ := hI.o hm_b_7 hk_b_7 rfl (ci := 4) rfl (n := 8) rfl
  refine g_put (ci := 4) (v := .int x_9) (ty := .int) (C := RX4) (T := TX4) (N := 8) hx hb hts uB4 tyX4 tyX4_ok nmX4 hown hK hP hD hS hm_b_7 hF10 rfl 0 (by decide) wm_291 rfl (by decide +kernel) rfl rfl (by rw [hn10]; decide) dX5_addSpent_18 (fun H locs hP hD hS => ?_)
  obtain ⟨f_11, ef_11⟩ : ∃ z9, z9 = va_up f b_7 (.inr (4, List.set fs10 0 (.int x_9))) := ⟨_, rfl⟩
  have hI := hI.p hm_b_7 hk_b_7 0 (ci := 4) (t := 1) (v := .int x_9) ⟨rfl, rfl, by decide, rfl⟩ hF10 fv1
  rw [← ef_11] at hP hD hI
  refine lv_aload_n hx hb dX5_addSpent_21 rfl (lv_at hl 0 rfl) ?_
  obtain ⟨fs12, b_13, hF12, hv12, hm_b_13, hk_b_13⟩ := hI.gR hm_h0 hk_h0 0 (ci := 5) (t := 2) ⟨rfl, rfl, by decide, rfl⟩
  refine g_get (ci := 5) (v := .ref b_13) (C := RX5) (T := TX5) (N := 17) hx hb hts uB5 hown hK hP hm_h0 hF12 rfl 0 (by decide) wm_292 hv12 dX5_addSpent_22 ?_
  refine lv_aload_n hx hb dX5_addSpent_25 rfl (lv_at hl 1 rfl) ?_
  obtain ⟨fs14, q_14, hF14, hv14, hq_14⟩ := hI.g6 hm_b hk_b 2 (ci := 3) ⟨rfl, rfl, by decide, rfl⟩
  refine g_get (ci := 3) (v := .int (nI q_14)) (C := RX3) (T := TX3) (N := 12) hx hb hts uB3 hown hK hP hm_b hF14 rfl 2 (by decide) wm_293 hv14 dX5_addSpent_26 ?_
  obtain ⟨g15, hF15, hgz15⟩ := hI.a2 hm_b_13 hk_b_13
  obtain ⟨b_16, hm_b_16, hk_b_16, hv15⟩ := hgz15 q_14 (by omega)
  refine g_aldR (t := 3) hx hb hK hP hm_b_13 hF15 rfl (vp_in_nI (by omega) (by decide)) (by rw [nI_clamp (by omega)]; exact hv15) dX5_addSpent_29 ?_
  refine lv_dup hx hb dX5_addSpent_30 rfl ?_
  obtain ⟨fs17, x_17, hF17, hv17⟩ := hI.gI hm_b_16 hk_b_16 2 (ci := 2) ⟨rfl, rfl, by decide, rfl⟩
  refine g_get (ci := 2) (v := .int x_17) (C := RX2) (T := TX2) (N := 4) hx hb hts uB2 hown hK hP hm_b_16 hF17 rfl 2 (by decide) wm_294 hv17 dX5_addSpent_31 ?_
  refine lv_iload_n hx hb dX5_addSpent_34 rfl (lv_at hl 2 rfl) ?_
  refine lv_iadd hx hb dX5_addSpent_35 ?_
  refine lv_topi (fun x_18 ex_18 => ?_)
  obtain ⟨fs19, hF19, hn19, -⟩ := hI.o hm_b_16 hk_b_16 rfl (ci := 2) rfl (n := 4) rfl
  refine g_put (ci := 2) (v := .int x_18) (ty := .int) (C := RX2) (T := TX2) (N := 4) hx hb hts uB2 tyX2 tyX2_ok nmX2 hown hK hP hD hS hm_b_16 hF19 rfl 2 (by decide) wm_294 rfl (by decide +kernel) rfl rfl (by rw [hn19]; decide) dX5_addSpent_36 (fun H locs hP hD hS => ?_)
  obtain ⟨f_20, ef_20⟩ : ∃ z9, z9 = va_up f_11 b_16 (.inr (2, List.set fs19 2 (.int x_18))) := ⟨_, rfl⟩
  have hI := hI.p hm_b_16 hk_b_16 2 (ci := 2) (t := 1) (v := .int x_18) ⟨rfl, rfl, by decide, rfl⟩ hF19 fv1
  rw [← ef_20] at hP hD hI
  refine lv_aload_n hx hb dX5_addSpent_39 rfl (lv_at hl 0 rfl) ?_
  refine lv_dup hx hb dX5_addSpent_40 rfl ?_
  obtain ⟨fs21, hF21, hv21⟩ := hI.gG hm_h0 hk_h0 11 (ci := 5) ⟨rfl, rfl, by decide, rfl⟩
  refine g_get (ci := 5) (v := .int (G 11)) (C := RX5) (T := TX5) (N := 17) hx hb hts uB5 hown hK hP hm_h0 hF21 rfl 11 (by decide) wm_295 hv21 dX5_addSpent_41 ?_
  refine lv_iload_n hx hb dX5_addSpent_44 rfl (lv_at hl 2 rfl) ?_
  refine lv_iadd hx hb dX5_addSpent_45 ?_
  refine lv_topi (fun x_22 ex_22 => ?_)
  obtain ⟨fs23, hF23, hn23, -⟩ := hI.o hm_h0 hk_h0 rfl (ci := 5) rfl (n := 17) rfl
  refine g_put (ci := 5) (v := .int x_22) (ty := .int) (C := RX5) (T := TX5) (N := 17) hx hb hts uB5 tyX5 tyX5_ok nmX5 hown hK hP hD hS hm_h0 hF23 rfl 11 (by decide) wm_295 rfl (by decide +kernel) rfl rfl (by rw [hn23]; decide) dX5_addSpent_46 (fun H locs hP hD hS => ?_)
  obtain ⟨f_24, ef_24⟩ : ∃ z9, z9 = va_up f_20 h0 (.inr (5, List.set fs23 11 (.int x_22))) := ⟨_, rfl⟩
  have hI := hI.pG hm_h0 hk_h0 11 (by decide) hF23 x_22
  rw [← ef_24] at hP hD hI
  obtain ⟨G_25, eG_25⟩ : ∃ z9, z9 = va_up G 11 x_22 := ⟨_, rfl⟩
  rw [← eG_25] at hI
  have hGS : gS [11] G G_25 := by rw [eG_25]; exact hGS.up (by decide) _
  exact W.vret hx hb hr (fun t ht hW => ⟨⟨f_24, rfl, ⟨G_25, hI, hGS⟩, by show va_P (dC, dI) vwCl (va_pl L f_24) t.heap; rw [ht]; exact hP⟩, hS.F ht⟩) hS.2.2 dX5_addSpent_49
set_option maxHeartbeats 4000000 in
set_option maxRecDepth 100000 in
theorem k_X5_spend (l : Launch) (dC : Nat → ClassId) (dI : Nat → Nat → Nat) (K : Nat → ClassId) (L : List Nat) (f : Nat → va_E) {np nc ns lk lc tp cp gp : Nat} {G J mk st : Nat → Int32} {ap : Nat → Int64} {kd sn : Nat → Nat} (hI : cI K np nc ns lk lc tp cp gp G J mk st ap kd sn L f) (h0 : Nat) (hm_h0 : h0 ∈ L) (hk_h0 : kd h0 = 1) (b : Nat) (hm_b : b ∈ L) (hk_b : kd b = 18) (hnp : np ≤ 8) (hnc : nc ≤ 40) (hLn : gN L) : gMv l yX5_spend cX5_spend 2 1 (dC, dI) K L f [.ref h0, .ref b] (fun f' => ∃ (G2 : Nat → Int32), cI K np nc ns lk lc tp cp gp G2 J mk st ap kd sn L f' ∧ (gS [11] G G2)) := by
  refine Met.ofW (cc := cX5_spend) (maxL := 2) (ret := none) (by decide) rfl ?_
  intro p e s m args below meth c s₁ B hml hv
  obtain ⟨rfl, hP, hK⟩ := hv
  have hD : va_D (fun q : Nat => q ∈ L) (va_pl L f) := g_D hLn (fun a h => h) f
  generalize hAe : (fun q : Nat => q ∈ L) = A at hD ⊢
  have hx := B.exec
  have hb := B.bytes
  have hr := B.returns
  have hlocks := B.notSynchronized
  have hts0 := atoms_spec (ws := Cond.code yX5_spend cX5_spend 2 none :: lw_B) B.pre
  have hts : ∀ w ∈ lw_B, w.before _ s = true := fun w h => hts0 w (List.mem_cons_of_mem _ h)
  have hown : s.vm.findClass RX5 = some m.cls := findClass_of_methodNamed B.named
  have hS : va_S A s.heap s.heap [] := va_S.rf
  have hGS : gS [11] G G := gS.rf
  have hl := lv_entry ([.ref h0, .ref b]) (n := 2) (Nat.le_of_ble_eq_true rfl)
  rw [lg_entry_eq]
  generalize (lg_sl ([.ref h0, .ref b]) ++ List.replicate (2 - (lg_sl ([.ref h0, .ref b])).length) Slot.unset).toArray = ls at hl ⊢
  have hl : lv_has ls 2 [(0, .ref h0), (1, .ref b)] := hl
  refine lv_aload_n hx hb dX5_spend_0 rfl (lv_at hl 1 rfl) ?_
  refine lv_aload_n hx hb dX5_spend_1 rfl (lv_at hl 1 rfl) ?_
  obtain ⟨fs1, x_1, hF1, hv1⟩ := hI.gI hm_b hk_b 5 (ci := 3) ⟨rfl, rfl, by decide, rfl⟩
  refine g_get (ci := 3) (v := .int x_1) (C := RX3) (T := TX3) (N := 12) hx hb hts uB3 hown hK hP hm_b hF1 rfl 5 (by decide) wm_296 hv1 dX5_spend_2 ?_
  obtain ⟨fs2, hF2, hn2, -⟩ := hI.o hm_b hk_b rfl (ci := 3) rfl (n := 12) rfl
  refine g_put (ci := 3) (v := .int x_1) (ty := .int) (C := RX3) (T := TX3) (N := 12) hx hb hts uB3 tyX3 tyX3_ok nmX3 hown hK hP hD hS hm_b hF2 rfl 9 (by decide) wm_297 rfl (by decide +kernel) rfl rfl (by rw [hn2]; decide) dX5_spend_5 (fun H locs hP hD hS => ?_)
  obtain ⟨f_3, ef_3⟩ : ∃ z9, z9 = va_up f b (.inr (3, List.set fs2 9 (.int x_1))) := ⟨_, rfl⟩
  have hI := hI.p hm_b hk_b 9 (ci := 3) (t := 1) (v := .int x_1) ⟨rfl, rfl, by decide, rfl⟩ hF2 fv1
  rw [← ef_3] at hP hD hI
  refine lv_aload_n hx hb dX5_spend_8 rfl (lv_at hl 0 rfl) ?_
  refine lv_aload_n hx hb dX5_spend_9 rfl (lv_at hl 1 rfl) ?_
  refine lv_aload_n hx hb dX5_spend_10 rfl (lv_at hl 1 rfl) ?_
  obtain ⟨fs4, x_4, hF4, hv4⟩ := hI.gI hm_b hk_b 5 (ci := 3) ⟨rfl, rfl, by decide, rfl⟩
  refine g_get (ci := 3) (v := .int x_4) (C := RX3) (T := TX3) (N := 12) hx hb hts uB3 hown hK hP hm_b hF4 rfl 5 (by decide) wm_296 hv4 dX5_spend_11 ?_
  obtain ⟨fs5, hF5, -, -⟩ := hI.o hm_h0 hk_h0 rfl (ci := 5) rfl rfl
  refine gc_Mv (ci := 5) ⟨hx, hb, hml, hown, hts⟩ (k_X5_addSpent l dC dI K L f_3 hI h0 hm_h0 hk_h0 b hm_b hk_b x_4 hnp hnc hLn) 2 wm_298 wm_299 wm_300 wm_67 wm_301 (by decide +kernel) ⟨Nat.le_of_ble_eq_true rfl, Nat.le_of_ble_eq_true rfl⟩ hK rfl hm_h0 hF5 rfl hl.1 rfl (Nat.le_of_ble_eq_true rfl) dX5_spend_14 ⟨Nat.le_of_ble_eq_true rfl, Nat.le_of_ble_eq_true rfl⟩ (fun a h => by rw [← hAe]; exact h) hS hP (fun fw_6 H locs hpw hP hS => ?_)
  obtain ⟨G_7, hI, hGSC⟩ := hpw
  have hD : va_D A (va_pl L fw_6) := g_D hLn (fun a h => by rw [← hAe]; exact h) fw_6
  have hGS : gS [11] G G_7 := hGS.tr hGSC (by decide) (by decide)
  exact W.vret hx hb hr (fun t ht hW => ⟨⟨fw_6, rfl, ⟨G_7, hI, hGS⟩, by show va_P (dC, dI) vwCl (va_pl L fw_6) t.heap; rw [ht]; exact hP⟩, hS.F ht⟩) hS.2.2 dX5_spend_17
set_option maxHeartbeats 4000000 in
set_option maxRecDepth 100000 in
theorem k_X5_spendHeld (l : Launch) (dC : Nat → ClassId) (dI : Nat → Nat → Nat) (K : Nat → ClassId) (L : List Nat) (f : Nat → va_E) {np nc ns lk lc tp cp gp : Nat} {G J mk st : Nat → Int32} {ap : Nat → Int64} {kd sn : Nat → Nat} (hI : cI K np nc ns lk lc tp cp gp G J mk st ap kd sn L f) (h0 : Nat) (hm_h0 : h0 ∈ L) (hk_h0 : kd h0 = 1) (b : Nat) (hm_b : b ∈ L) (hk_b : kd b = 18) (hnp : np ≤ 8) (hnc : nc ≤ 40) (hLn : gN L) : gMv l yX5_spendHeld cX5_spendHeld 2 2 (dC, dI) K L f [.ref h0, .ref b] (fun f' => ∃ (G2 : Nat → Int32), cI K np nc ns lk lc tp cp gp G2 J mk st ap kd sn L f' ∧ (gS [11] G G2)) := by
  refine Met.ofW (cc := cX5_spendHeld) (maxL := 2) (ret := none) (by decide) rfl ?_
  intro p e s m args below meth c s₁ B hml hv
  obtain ⟨rfl, hP, hK⟩ := hv
  have hD : va_D (fun q : Nat => q ∈ L) (va_pl L f) := g_D hLn (fun a h => h) f
  generalize hAe : (fun q : Nat => q ∈ L) = A at hD ⊢
  have hx := B.exec
  have hb := B.bytes
  have hr := B.returns
  have hlocks := B.notSynchronized
  have hts0 := atoms_spec (ws := Cond.code yX5_spendHeld cX5_spendHeld 2 none :: lw_B) B.pre
  have hts : ∀ w ∈ lw_B, w.before _ s = true := fun w h => hts0 w (List.mem_cons_of_mem _ h)
  have hown : s.vm.findClass RX5 = some m.cls := findClass_of_methodNamed B.named
  have hS : va_S A s.heap s.heap [] := va_S.rf
  have hGS : gS [11] G G := gS.rf
  have hl := lv_entry ([.ref h0, .ref b]) (n := 2) (Nat.le_of_ble_eq_true rfl)
  rw [lg_entry_eq]
  generalize (lg_sl ([.ref h0, .ref b]) ++ List.replicate (2 - (lg_sl ([.ref h0, .ref b])).length) Slot.unset).toArray = ls at hl ⊢
  have hl : lv_has ls 2 [(0, .ref h0), (1, .ref b)] := hl
  refine lv_aload_n hx hb dX5_spendHeld_0 rfl (lv_at hl 0 rfl) ?_
  obtain ⟨fs1, b_2, hF1, hv1, hm_b_2, hk_b_2⟩ := hI.gR hm_h0 hk_h0 1 (ci := 5) (t := 3) ⟨rfl, rfl, by decide, rfl⟩
  refine g_get (ci := 5) (v := .ref b_2) (C := RX5) (T := TX5) (N := 17) hx hb hts uB5 hown hK hP hm_h0 hF1 rfl 1 (by decide) wm_270 hv1 dX5_spendHeld_1 ?_
  refine lv_aload_n hx hb dX5_spendHeld_4 rfl (lv_at hl 1 rfl) ?_
  obtain ⟨fs3, q_3, hF3, hv3, hq_3⟩ := hI.g7 hm_b hk_b 4 (ci := 3) ⟨rfl, rfl, by decide, rfl⟩
  refine g_get (ci := 3) (v := .int (nI q_3)) (C := RX3) (T := TX3) (N := 12) hx hb hts uB3 hown hK hP hm_b hF3 rfl 4 (by decide) wm_289 hv3 dX5_spendHeld_5 ?_
  obtain ⟨g4, hF4, hgz4⟩ := hI.a3 hm_b_2 hk_b_2
  obtain ⟨b_5, hm_b_5, hk_b_5, hs_b_5, hv4⟩ := hgz4 q_3 (by omega)
  refine g_aldR (t := 4) hx hb hK hP hm_b_2 hF4 rfl (vp_in_nI (by omega) (by decide)) (by rw [nI_clamp (by omega)]; exact hv4) dX5_spendHeld_8 ?_
  obtain ⟨fs6, b_7, hF6, hv6, hm_b_7, hk_b_7⟩ := hI.gR hm_b_5 hk_b_5 5 (ci := 0) (t := 19) ⟨rfl, rfl, by decide, rfl⟩
  refine g_get (ci := 0) (v := .ref b_7) (C := RX0) (T := TX0) (N := 16) hx hb hts uB0 hown hK hP hm_b_5 hF6 rfl 5 (by decide) wm_290 hv6 dX5_spendHeld_9 ?_
  refine lv_dup hx hb dX5_spendHeld_12 rfl ?_
  obtain ⟨fs8, x_8, hF8, hv8⟩ := hI.gI hm_b_7 hk_b_7 1 (ci := 4) ⟨rfl, rfl, by decide, rfl⟩
  refine g_get (ci := 4) (v := .int x_8) (C := RX4) (T := TX4) (N := 8) hx hb hts uB4 hown hK hP hm_b_7 hF8 rfl 1 (by decide) wm_302 hv8 dX5_spendHeld_13 ?_
  refine lv_aload_n hx hb dX5_spendHeld_16 rfl (lv_at hl 1 rfl) ?_
  obtain ⟨fs9, x_9, hF9, hv9⟩ := hI.gI hm_b hk_b 10 (ci := 3) ⟨rfl, rfl, by decide, rfl⟩
  refine g_get (ci := 3) (v := .int x_9) (C := RX3) (T := TX3) (N := 12) hx hb hts uB3 hown hK hP hm_b hF9 rfl 10 (by decide) wm_303 hv9 dX5_spendHeld_17 ?_
  refine lv_isub hx hb dX5_spendHeld_20 ?_
  refine lv_topi (fun x_10 ex_10 => ?_)
  obtain ⟨fs11, hF11, hn11, -⟩ := hI.o hm_b_7 hk_b_7 rfl (ci := 4) rfl (n := 8) rfl
  refine g_put (ci := 4) (v := .int x_10) (ty := .int) (C := RX4) (T := TX4) (N := 8) hx hb hts uB4 tyX4 tyX4_ok nmX4 hown hK hP hD hS hm_b_7 hF11 rfl 1 (by decide) wm_302 rfl (by decide +kernel) rfl rfl (by rw [hn11]; decide) dX5_spendHeld_21 (fun H locs hP hD hS => ?_)
  obtain ⟨f_12, ef_12⟩ : ∃ z9, z9 = va_up f b_7 (.inr (4, List.set fs11 1 (.int x_10))) := ⟨_, rfl⟩
  have hI := hI.p hm_b_7 hk_b_7 1 (ci := 4) (t := 1) (v := .int x_10) ⟨rfl, rfl, by decide, rfl⟩ hF11 fv1
  rw [← ef_12] at hP hD hI
  refine lv_aload_n hx hb dX5_spendHeld_24 rfl (lv_at hl 1 rfl) ?_
  refine lv_iconst (v := 0) hx hb dX5_spendHeld_25 (by decide) ?_
  obtain ⟨fs13, hF13, hn13, -⟩ := hI.o hm_b hk_b rfl (ci := 3) rfl (n := 12) rfl
  refine g_put (ci := 3) (v := .int 0) (ty := .int) (C := RX3) (T := TX3) (N := 12) hx hb hts uB3 tyX3 tyX3_ok nmX3 hown hK hP hD hS hm_b hF13 rfl 10 (by decide) wm_303 rfl (by decide +kernel) rfl rfl (by rw [hn13]; decide) dX5_spendHeld_26 (fun H locs hP hD hS => ?_)
  obtain ⟨f_14, ef_14⟩ : ∃ z9, z9 = va_up f_12 b (.inr (3, List.set fs13 10 (.int 0))) := ⟨_, rfl⟩
  have hI := hI.p hm_b hk_b 10 (ci := 3) (t := 1) (v := .int 0) ⟨rfl, rfl, by decide, rfl⟩ hF13 fv1
  rw [← ef_14] at hP hD hI
  refine lv_aload_n hx hb dX5_spendHeld_29 rfl (lv_at hl 0 rfl) ?_
  refine lv_aload_n hx hb dX5_spendHeld_30 rfl (lv_at hl 1 rfl) ?_
  obtain ⟨fs15, hF15, -, -⟩ := hI.o hm_h0 hk_h0 rfl (ci := 5) rfl rfl
  refine gc_Mv (ci := 5) ⟨hx, hb, hml, hown, hts⟩ (k_X5_spend l dC dI K L f_14 hI h0 hm_h0 hk_h0 b hm_b hk_b hnp hnc hLn) 1 wm_304 wm_305 wm_306 wm_67 wm_307 (by decide +kernel) ⟨Nat.le_of_ble_eq_true rfl, Nat.le_of_ble_eq_true rfl⟩ hK rfl hm_h0 hF15 rfl hl.1 rfl (Nat.le_of_ble_eq_true rfl) dX5_spendHeld_31 ⟨Nat.le_of_ble_eq_true rfl, Nat.le_of_ble_eq_true rfl⟩ (fun a h => by rw [← hAe]; exact h) hS hP (fun fw_16 H locs hpw hP hS => ?_)
  obtain ⟨G_17, hI, hGSC⟩ := hpw
  have hD : va_D A (va_pl L fw_16) := g_D hLn (fun a h => by rw [← hAe]; exact h) fw_16
  have hGS : gS [11] G G_17 := hGS.tr hGSC (by decide) (by decide)
  exact W.vret hx hb hr (fun t ht hW => ⟨⟨fw_16, rfl, ⟨G_17, hI, hGS⟩, by show va_P (dC, dI) vwCl (va_pl L fw_16) t.heap; rw [ht]; exact hP⟩, hS.F ht⟩) hS.2.2 dX5_spendHeld_34
set_option maxHeartbeats 4000000 in
set_option maxRecDepth 100000 in
theorem k_X5_lessenDay (l : Launch) (dC : Nat → ClassId) (dI : Nat → Nat → Nat) (K : Nat → ClassId) (L : List Nat) (f : Nat → va_E) {np nc ns lk lc tp cp gp : Nat} {G J mk st : Nat → Int32} {ap : Nat → Int64} {kd sn : Nat → Nat} (hI : cI K np nc ns lk lc tp cp gp G J mk st ap kd sn L f) (h0 : Nat) (hm_h0 : h0 ∈ L) (hk_h0 : kd h0 = 1) (b : Nat) (hm_b : b ∈ L) (hk_b : kd b = 18) (x : Int32) (hnc : nc ≤ 40) (hLn : gN L) : gMv l yX5_lessenDay cX5_lessenDay 3 0 (dC, dI) K L f [.ref h0, .ref b, .int x] (fun f' => cI K np nc ns lk lc tp cp gp G J mk st ap kd sn L f') := by
  refine Met.ofW (cc := cX5_lessenDay) (maxL := 3) (ret := none) (by decide) rfl ?_
  intro p e s m args below meth c s₁ B hml hv
  obtain ⟨rfl, hP, hK⟩ := hv
  have hD : va_D (fun q : Nat => q ∈ L) (va_pl L f) := g_D hLn (fun a h => h) f
  generalize hAe : (fun q : Nat => q ∈ L) = A at hD ⊢
  have hx := B.exec
  have hb := B.bytes
  have hr := B.returns
  have hlocks := B.notSynchronized
  have hts0 := atoms_spec (ws := Cond.code yX5_lessenDay cX5_lessenDay 3 none :: lw_B) B.pre
  have hts : ∀ w ∈ lw_B, w.before _ s = true := fun w h => hts0 w (List.mem_cons_of_mem _ h)
  have hown : s.vm.findClass RX5 = some m.cls := findClass_of_methodNamed B.named
  have hS : va_S A s.heap s.heap [] := va_S.rf
  have hl := lv_entry ([.ref h0, .ref b, .int x]) (n := 3) (Nat.le_of_ble_eq_true rfl)
  rw [lg_entry_eq]
  generalize (lg_sl ([.ref h0, .ref b, .int x]) ++ List.replicate (3 - (lg_sl ([.ref h0, .ref b, .int x])).length) Slot.unset).toArray = ls at hl ⊢
  have hl : lv_has ls 3 [(0, .ref h0), (1, .ref b), (2, .int x)] := hl
  refine lv_aload_n hx hb dX5_lessenDay_0 rfl (lv_at hl 1 rfl) ?_
  obtain ⟨fs1, x_1, hF1, hv1⟩ := hI.gI hm_b hk_b 0 (ci := 3) ⟨rfl, rfl, by decide, rfl⟩
  refine g_get (ci := 3) (v := .int x_1) (C := RX3) (T := TX3) (N := 12) hx hb hts uB3 hown hK hP hm_b hF1 rfl 0 (by decide) wm_308 hv1 dX5_lessenDay_1 ?_
  refine lv_bipush (v := 100) hx hb dX5_lessenDay_4 (by decide) ?_
  refine lv_idiv hx hb dX5_lessenDay_6 (by decide) ?_
  refine lv_topi (fun x_2 ex_2 => ?_)
  refine lv_aload_n hx hb dX5_lessenDay_7 rfl (lv_at hl 0 rfl) ?_
  obtain ⟨fs3, hF3, hv3⟩ := hI.gG hm_h0 hk_h0 12 (ci := 5) ⟨rfl, rfl, by decide, rfl⟩
  refine g_get (ci := 5) (v := .int (G 12)) (C := RX5) (T := TX5) (N := 17) hx hb hts uB5 hown hK hP hm_h0 hF3 rfl 12 (by decide) wm_265 hv3 dX5_lessenDay_8 ?_
  refine lv_bipush (v := 100) hx hb dX5_lessenDay_11 (by decide) ?_
  refine lv_idiv hx hb dX5_lessenDay_13 (by decide) ?_
  refine lv_topi (fun x_4 ex_4 => ?_)
  refine lv_icmp_ne (tgt := 38) hx hb dX5_lessenDay_14 (by decide) (fun c_5 => ?_) (fun c_5 => ?_)
  · skip
    exact W.vret hx hb hr (fun t ht hW => ⟨⟨f, rfl, hI, by show va_P (dC, dI) vwCl (va_pl L f) t.heap; rw [ht]; exact hP⟩, hS.F ht⟩) hS.2.2 dX5_lessenDay_38
  · skip
    refine lv_aload_n hx hb dX5_lessenDay_17 rfl (lv_at hl 0 rfl) ?_
    obtain ⟨fs6, b_7, hF6, hv6, hm_b_7, hk_b_7⟩ := hI.gR hm_h0 hk_h0 1 (ci := 5) (t := 3) ⟨rfl, rfl, by decide, rfl⟩
    refine g_get (ci := 5) (v := .ref b_7) (C := RX5) (T := TX5) (N := 17) hx hb hts uB5 hown hK hP hm_h0 hF6 rfl 1 (by decide) wm_270 hv6 dX5_lessenDay_18 ?_
    refine lv_aload_n hx hb dX5_lessenDay_21 rfl (lv_at hl 1 rfl) ?_
    obtain ⟨fs8, q_8, hF8, hv8, hq_8⟩ := hI.g7 hm_b hk_b 4 (ci := 3) ⟨rfl, rfl, by decide, rfl⟩
    refine g_get (ci := 3) (v := .int (nI q_8)) (C := RX3) (T := TX3) (N := 12) hx hb hts uB3 hown hK hP hm_b hF8 rfl 4 (by decide) wm_289 hv8 dX5_lessenDay_22 ?_
    obtain ⟨g9, hF9, hgz9⟩ := hI.a3 hm_b_7 hk_b_7
    obtain ⟨b_10, hm_b_10, hk_b_10, hs_b_10, hv9⟩ := hgz9 q_8 (by omega)
    refine g_aldR (t := 4) hx hb hK hP hm_b_7 hF9 rfl (vp_in_nI (by omega) (by decide)) (by rw [nI_clamp (by omega)]; exact hv9) dX5_lessenDay_25 ?_
    obtain ⟨fs11, b_12, hF11, hv11, hm_b_12, hk_b_12⟩ := hI.gR hm_b_10 hk_b_10 5 (ci := 0) (t := 19) ⟨rfl, rfl, by decide, rfl⟩
    refine g_get (ci := 0) (v := .ref b_12) (C := RX0) (T := TX0) (N := 16) hx hb hts uB0 hown hK hP hm_b_10 hF11 rfl 5 (by decide) wm_290 hv11 dX5_lessenDay_26 ?_
    refine lv_dup hx hb dX5_lessenDay_29 rfl ?_
    obtain ⟨fs13, x_13, hF13, hv13⟩ := hI.gI hm_b_12 hk_b_12 2 (ci := 4) ⟨rfl, rfl, by decide, rfl⟩
    refine g_get (ci := 4) (v := .int x_13) (C := RX4) (T := TX4) (N := 8) hx hb hts uB4 hown hK hP hm_b_12 hF13 rfl 2 (by decide) wm_309 hv13 dX5_lessenDay_30 ?_
    refine lv_iload_n hx hb dX5_lessenDay_33 rfl (lv_at hl 2 rfl) ?_
    refine lv_isub hx hb dX5_lessenDay_34 ?_
    refine lv_topi (fun x_14 ex_14 => ?_)
    obtain ⟨fs15, hF15, hn15, -⟩ := hI.o hm_b_12 hk_b_12 rfl (ci := 4) rfl (n := 8) rfl
    refine g_put (ci := 4) (v := .int x_14) (ty := .int) (C := RX4) (T := TX4) (N := 8) hx hb hts uB4 tyX4 tyX4_ok nmX4 hown hK hP hD hS hm_b_12 hF15 rfl 2 (by decide) wm_309 rfl (by decide +kernel) rfl rfl (by rw [hn15]; decide) dX5_lessenDay_35 (fun H locs hP hD hS => ?_)
    obtain ⟨f_16, ef_16⟩ : ∃ z9, z9 = va_up f b_12 (.inr (4, List.set fs15 2 (.int x_14))) := ⟨_, rfl⟩
    have hI := hI.p hm_b_12 hk_b_12 2 (ci := 4) (t := 1) (v := .int x_14) ⟨rfl, rfl, by decide, rfl⟩ hF15 fv1
    rw [← ef_16] at hP hD hI
    exact W.vret hx hb hr (fun t ht hW => ⟨⟨f_16, rfl, hI, by show va_P (dC, dI) vwCl (va_pl L f_16) t.heap; rw [ht]; exact hP⟩, hS.F ht⟩) hS.2.2 dX5_lessenDay_38
set_option maxHeartbeats 4000000 in
set_option maxRecDepth 100000 in
theorem k_X5_freeHeld (l : Launch) (dC : Nat → ClassId) (dI : Nat → Nat → Nat) (K : Nat → ClassId) (L : List Nat) (f : Nat → va_E) {np nc ns lk lc tp cp gp : Nat} {G J mk st : Nat → Int32} {ap : Nat → Int64} {kd sn : Nat → Nat} (hI : cI K np nc ns lk lc tp cp gp G J mk st ap kd sn L f) (h0 : Nat) (hm_h0 : h0 ∈ L) (hk_h0 : kd h0 = 1) (b : Nat) (hm_b : b ∈ L) (hk_b : kd b = 18) (hnc : nc ≤ 40) (hLn : gN L) : gMv l yX5_freeHeld cX5_freeHeld 2 1 (dC, dI) K L f [.ref h0, .ref b] (fun f' => cI K np nc ns lk lc tp cp gp G J mk st ap kd sn L f') := by
  refine Met.ofW (cc := cX5_freeHeld) (maxL := 2) (ret := none) (by decide) rfl ?_
  intro p e s m args below meth c s₁ B hml hv
  obtain ⟨rfl, hP, hK⟩ := hv
  have hD : va_D (fun q : Nat => q ∈ L) (va_pl L f) := g_D hLn (fun a h => h) f
  generalize hAe : (fun q : Nat => q ∈ L) = A at hD ⊢
  have hx := B.exec
  have hb := B.bytes
  have hr := B.returns
  have hlocks := B.notSynchronized
  have hts0 := atoms_spec (ws := Cond.code yX5_freeHeld cX5_freeHeld 2 none :: lw_B) B.pre
  have hts : ∀ w ∈ lw_B, w.before _ s = true := fun w h => hts0 w (List.mem_cons_of_mem _ h)
  have hown : s.vm.findClass RX5 = some m.cls := findClass_of_methodNamed B.named
  have hS : va_S A s.heap s.heap [] := va_S.rf
  have hl := lv_entry ([.ref h0, .ref b]) (n := 2) (Nat.le_of_ble_eq_true rfl)
  rw [lg_entry_eq]
  generalize (lg_sl ([.ref h0, .ref b]) ++ List.replicate (2 - (lg_sl ([.ref h0, .ref b])).length) Slot.unset).toArray = ls at hl ⊢
  have hl : lv_has ls 2 [(0, .ref h0), (1, .ref b)] := hl
  refine lv_aload_n hx hb dX5_freeHeld_0 rfl (lv_at hl 0 rfl) ?_
  obtain ⟨fs1, b_2, hF1, hv1, hm_b_2, hk_b_2⟩ := hI.gR hm_h0 hk_h0 1 (ci := 5) (t := 3) ⟨rfl, rfl, by decide, rfl⟩
  refine g_get (ci := 5) (v := .ref b_2) (C := RX5) (T := TX5) (N := 17) hx hb hts uB5 hown hK hP hm_h0 hF1 rfl 1 (by decide) wm_270 hv1 dX5_freeHeld_1 ?_
  refine lv_aload_n hx hb dX5_freeHeld_4 rfl (lv_at hl 1 rfl) ?_
  obtain ⟨fs3, q_3, hF3, hv3, hq_3⟩ := hI.g7 hm_b hk_b 4 (ci := 3) ⟨rfl, rfl, by decide, rfl⟩
  refine g_get (ci := 3) (v := .int (nI q_3)) (C := RX3) (T := TX3) (N := 12) hx hb hts uB3 hown hK hP hm_b hF3 rfl 4 (by decide) wm_289 hv3 dX5_freeHeld_5 ?_
  obtain ⟨g4, hF4, hgz4⟩ := hI.a3 hm_b_2 hk_b_2
  obtain ⟨b_5, hm_b_5, hk_b_5, hs_b_5, hv4⟩ := hgz4 q_3 (by omega)
  refine g_aldR (t := 4) hx hb hK hP hm_b_2 hF4 rfl (vp_in_nI (by omega) (by decide)) (by rw [nI_clamp (by omega)]; exact hv4) dX5_freeHeld_8 ?_
  obtain ⟨fs6, b_7, hF6, hv6, hm_b_7, hk_b_7⟩ := hI.gR hm_b_5 hk_b_5 5 (ci := 0) (t := 19) ⟨rfl, rfl, by decide, rfl⟩
  refine g_get (ci := 0) (v := .ref b_7) (C := RX0) (T := TX0) (N := 16) hx hb hts uB0 hown hK hP hm_b_5 hF6 rfl 5 (by decide) wm_290 hv6 dX5_freeHeld_9 ?_
  refine lv_dup hx hb dX5_freeHeld_12 rfl ?_
  obtain ⟨fs8, x_8, hF8, hv8⟩ := hI.gI hm_b_7 hk_b_7 1 (ci := 4) ⟨rfl, rfl, by decide, rfl⟩
  refine g_get (ci := 4) (v := .int x_8) (C := RX4) (T := TX4) (N := 8) hx hb hts uB4 hown hK hP hm_b_7 hF8 rfl 1 (by decide) wm_302 hv8 dX5_freeHeld_13 ?_
  refine lv_aload_n hx hb dX5_freeHeld_16 rfl (lv_at hl 1 rfl) ?_
  obtain ⟨fs9, x_9, hF9, hv9⟩ := hI.gI hm_b hk_b 10 (ci := 3) ⟨rfl, rfl, by decide, rfl⟩
  refine g_get (ci := 3) (v := .int x_9) (C := RX3) (T := TX3) (N := 12) hx hb hts uB3 hown hK hP hm_b hF9 rfl 10 (by decide) wm_303 hv9 dX5_freeHeld_17 ?_
  refine lv_isub hx hb dX5_freeHeld_20 ?_
  refine lv_topi (fun x_10 ex_10 => ?_)
  obtain ⟨fs11, hF11, hn11, -⟩ := hI.o hm_b_7 hk_b_7 rfl (ci := 4) rfl (n := 8) rfl
  refine g_put (ci := 4) (v := .int x_10) (ty := .int) (C := RX4) (T := TX4) (N := 8) hx hb hts uB4 tyX4 tyX4_ok nmX4 hown hK hP hD hS hm_b_7 hF11 rfl 1 (by decide) wm_302 rfl (by decide +kernel) rfl rfl (by rw [hn11]; decide) dX5_freeHeld_21 (fun H locs hP hD hS => ?_)
  obtain ⟨f_12, ef_12⟩ : ∃ z9, z9 = va_up f b_7 (.inr (4, List.set fs11 1 (.int x_10))) := ⟨_, rfl⟩
  have hI := hI.p hm_b_7 hk_b_7 1 (ci := 4) (t := 1) (v := .int x_10) ⟨rfl, rfl, by decide, rfl⟩ hF11 fv1
  rw [← ef_12] at hP hD hI
  refine lv_aload_n hx hb dX5_freeHeld_24 rfl (lv_at hl 0 rfl) ?_
  refine lv_aload_n hx hb dX5_freeHeld_25 rfl (lv_at hl 1 rfl) ?_
  refine lv_aload_n hx hb dX5_freeHeld_26 rfl (lv_at hl 1 rfl) ?_
  obtain ⟨fs13, x_13, hF13, hv13⟩ := hI.gI hm_b hk_b 10 (ci := 3) ⟨rfl, rfl, by decide, rfl⟩
  refine g_get (ci := 3) (v := .int x_13) (C := RX3) (T := TX3) (N := 12) hx hb hts uB3 hown hK hP hm_b hF13 rfl 10 (by decide) wm_303 hv13 dX5_freeHeld_27 ?_
  obtain ⟨fs14, hF14, -, -⟩ := hI.o hm_h0 hk_h0 rfl (ci := 5) rfl rfl
  refine gc_Mv (ci := 5) ⟨hx, hb, hml, hown, hts⟩ (k_X5_lessenDay l dC dI K L f_12 hI h0 hm_h0 hk_h0 b hm_b hk_b x_13 hnc hLn) 2 wm_310 wm_311 wm_312 wm_67 wm_313 (by decide +kernel) ⟨Nat.le_of_ble_eq_true rfl, Nat.le_of_ble_eq_true rfl⟩ hK rfl hm_h0 hF14 rfl hl.1 rfl (Nat.le_of_ble_eq_true rfl) dX5_freeHeld_30 ⟨Nat.le_of_ble_eq_true rfl, Nat.le_of_ble_eq_true rfl⟩ (fun a h => by rw [← hAe]; exact h) hS hP (fun fw_15 H locs hpw hP hS => ?_)
  have hI := hpw
  have hD : va_D A (va_pl L fw_15) := g_D hLn (fun a h => by rw [← hAe]; exact h) fw_15
  refine lv_aload_n hx hb dX5_freeHeld_33 rfl (lv_at hl 1 rfl) ?_
  refine lv_iconst (v := 0) hx hb dX5_freeHeld_34 (by decide) ?_
  obtain ⟨fs16, hF16, hn16, -⟩ := hI.o hm_b hk_b rfl (ci := 3) rfl (n := 12) rfl
  refine g_put (ci := 3) (v := .int 0) (ty := .int) (C := RX3) (T := TX3) (N := 12) hx hb hts uB3 tyX3 tyX3_ok nmX3 hown hK hP hD hS hm_b hF16 rfl 10 (by decide) wm_303 rfl (by decide +kernel) rfl rfl (by rw [hn16]; decide) dX5_freeHeld_35 (fun H locs hP hD hS => ?_)
  obtain ⟨f_17, ef_17⟩ : ∃ z9, z9 = va_up fw_15 b (.inr (3, List.set fs16 10 (.int 0))) := ⟨_, rfl⟩
  have hI := hI.p hm_b hk_b 10 (ci := 3) (t := 1) (v := .int 0) ⟨rfl, rfl, by decide, rfl⟩ hF16 fv1
  rw [← ef_17] at hP hD hI
  exact W.vret hx hb hr (fun t ht hW => ⟨⟨f_17, rfl, hI, by show va_P (dC, dI) vwCl (va_pl L f_17) t.heap; rw [ht]; exact hP⟩, hS.F ht⟩) hS.2.2 dX5_freeHeld_38
set_option maxHeartbeats 4000000 in
set_option maxRecDepth 100000 in
theorem k_X5_givePaidBack (l : Launch) (dC : Nat → ClassId) (dI : Nat → Nat → Nat) (K : Nat → ClassId) (L : List Nat) (f : Nat → va_E) {np nc ns lk lc tp cp gp : Nat} {G J mk st : Nat → Int32} {ap : Nat → Int64} {kd sn : Nat → Nat} (hI : cI K np nc ns lk lc tp cp gp G J mk st ap kd sn L f) (h0 : Nat) (hm_h0 : h0 ∈ L) (hk_h0 : kd h0 = 1) (b : Nat) (hm_b : b ∈ L) (hk_b : kd b = 18) (hnp : np ≤ 8) (hnc : nc ≤ 40) (hLn : gN L) : gMv l yX5_givePaidBack cX5_givePaidBack 2 1 (dC, dI) K L f [.ref h0, .ref b] (fun f' => ∃ (G2 : Nat → Int32), cI K np nc ns lk lc tp cp gp G2 J mk st ap kd sn L f' ∧ (gS [11] G G2)) := by
  refine Met.ofW (cc := cX5_givePaidBack) (maxL := 2) (ret := none) (by decide) rfl ?_
  intro p e s m args below meth c s₁ B hml hv
  obtain ⟨rfl, hP, hK⟩ := hv
  have hD : va_D (fun q : Nat => q ∈ L) (va_pl L f) := g_D hLn (fun a h => h) f
  generalize hAe : (fun q : Nat => q ∈ L) = A at hD ⊢
  have hx := B.exec
  have hb := B.bytes
  have hr := B.returns
  have hlocks := B.notSynchronized
  have hts0 := atoms_spec (ws := Cond.code yX5_givePaidBack cX5_givePaidBack 2 none :: lw_B) B.pre
  have hts : ∀ w ∈ lw_B, w.before _ s = true := fun w h => hts0 w (List.mem_cons_of_mem _ h)
  have hown : s.vm.findClass RX5 = some m.cls := findClass_of_methodNamed B.named
  have hS : va_S A s.heap s.heap [] := va_S.rf
  have hGS : gS [11] G G := gS.rf
  have hl := lv_entry ([.ref h0, .ref b]) (n := 2) (Nat.le_of_ble_eq_true rfl)
  rw [lg_entry_eq]
  generalize (lg_sl ([.ref h0, .ref b]) ++ List.replicate (2 - (lg_sl ([.ref h0, .ref b])).length) Slot.unset).toArray = ls at hl ⊢
  have hl : lv_has ls 2 [(0, .ref h0), (1, .ref b)] := hl
  refine lv_aload_n hx hb dX5_givePaidBack_0 rfl (lv_at hl 0 rfl) ?_
  refine lv_aload_n hx hb dX5_givePaidBack_1 rfl (lv_at hl 1 rfl) ?_
  refine lv_aload_n hx hb dX5_givePaidBack_2 rfl (lv_at hl 1 rfl) ?_
  obtain ⟨fs1, x_1, hF1, hv1⟩ := hI.gI hm_b hk_b 9 (ci := 3) ⟨rfl, rfl, by decide, rfl⟩
  refine g_get (ci := 3) (v := .int x_1) (C := RX3) (T := TX3) (N := 12) hx hb hts uB3 hown hK hP hm_b hF1 rfl 9 (by decide) wm_297 hv1 dX5_givePaidBack_3 ?_
  refine lv_ineg hx hb dX5_givePaidBack_6 ?_
  refine lv_topi (fun x_2 ex_2 => ?_)
  obtain ⟨fs3, hF3, -, -⟩ := hI.o hm_h0 hk_h0 rfl (ci := 5) rfl rfl
  refine gc_Mv (ci := 5) ⟨hx, hb, hml, hown, hts⟩ (k_X5_addSpent l dC dI K L f hI h0 hm_h0 hk_h0 b hm_b hk_b x_2 hnp hnc hLn) 2 wm_298 wm_299 wm_300 wm_67 wm_301 (by decide +kernel) ⟨Nat.le_of_ble_eq_true rfl, Nat.le_of_ble_eq_true rfl⟩ hK rfl hm_h0 hF3 rfl hl.1 rfl (Nat.le_of_ble_eq_true rfl) dX5_givePaidBack_7 ⟨Nat.le_of_ble_eq_true rfl, Nat.le_of_ble_eq_true rfl⟩ (fun a h => by rw [← hAe]; exact h) hS hP (fun fw_4 H locs hpw hP hS => ?_)
  obtain ⟨G_5, hI, hGSC⟩ := hpw
  have hD : va_D A (va_pl L fw_4) := g_D hLn (fun a h => by rw [← hAe]; exact h) fw_4
  have hGS : gS [11] G G_5 := hGS.tr hGSC (by decide) (by decide)
  refine lv_aload_n hx hb dX5_givePaidBack_10 rfl (lv_at hl 0 rfl) ?_
  refine lv_aload_n hx hb dX5_givePaidBack_11 rfl (lv_at hl 1 rfl) ?_
  refine lv_aload_n hx hb dX5_givePaidBack_12 rfl (lv_at hl 1 rfl) ?_
  obtain ⟨fs6, x_6, hF6, hv6⟩ := hI.gI hm_b hk_b 9 (ci := 3) ⟨rfl, rfl, by decide, rfl⟩
  refine g_get (ci := 3) (v := .int x_6) (C := RX3) (T := TX3) (N := 12) hx hb hts uB3 hown hK hP hm_b hF6 rfl 9 (by decide) wm_297 hv6 dX5_givePaidBack_13 ?_
  obtain ⟨fs7, hF7, -, -⟩ := hI.o hm_h0 hk_h0 rfl (ci := 5) rfl rfl
  refine gc_Mv (ci := 5) ⟨hx, hb, hml, hown, hts⟩ (k_X5_lessenDay l dC dI K L fw_4 hI h0 hm_h0 hk_h0 b hm_b hk_b x_6 hnc hLn) 2 wm_310 wm_311 wm_312 wm_67 wm_313 (by decide +kernel) ⟨Nat.le_of_ble_eq_true rfl, Nat.le_of_ble_eq_true rfl⟩ hK rfl hm_h0 hF7 rfl hl.1 rfl (Nat.le_of_ble_eq_true rfl) dX5_givePaidBack_16 ⟨Nat.le_of_ble_eq_true rfl, Nat.le_of_ble_eq_true rfl⟩ (fun a h => by rw [← hAe]; exact h) hS hP (fun fw_8 H locs hpw hP hS => ?_)
  have hI := hpw
  have hD : va_D A (va_pl L fw_8) := g_D hLn (fun a h => by rw [← hAe]; exact h) fw_8
  refine lv_aload_n hx hb dX5_givePaidBack_19 rfl (lv_at hl 1 rfl) ?_
  refine lv_iconst (v := 0) hx hb dX5_givePaidBack_20 (by decide) ?_
  obtain ⟨fs9, hF9, hn9, -⟩ := hI.o hm_b hk_b rfl (ci := 3) rfl (n := 12) rfl
  refine g_put (ci := 3) (v := .int 0) (ty := .int) (C := RX3) (T := TX3) (N := 12) hx hb hts uB3 tyX3 tyX3_ok nmX3 hown hK hP hD hS hm_b hF9 rfl 9 (by decide) wm_297 rfl (by decide +kernel) rfl rfl (by rw [hn9]; decide) dX5_givePaidBack_21 (fun H locs hP hD hS => ?_)
  obtain ⟨f_10, ef_10⟩ : ∃ z9, z9 = va_up fw_8 b (.inr (3, List.set fs9 9 (.int 0))) := ⟨_, rfl⟩
  have hI := hI.p hm_b hk_b 9 (ci := 3) (t := 1) (v := .int 0) ⟨rfl, rfl, by decide, rfl⟩ hF9 fv1
  rw [← ef_10] at hP hD hI
  exact W.vret hx hb hr (fun t ht hW => ⟨⟨f_10, rfl, ⟨G_5, hI, hGS⟩, by show va_P (dC, dI) vwCl (va_pl L f_10) t.heap; rw [ht]; exact hP⟩, hS.F ht⟩) hS.2.2 dX5_givePaidBack_24
set_option maxHeartbeats 4000000 in
set_option maxRecDepth 100000 in
theorem k_X5_uncount (l : Launch) (dC : Nat → ClassId) (dI : Nat → Nat → Nat) (K : Nat → ClassId) (L : List Nat) (f : Nat → va_E) {np nc ns lk lc tp cp gp : Nat} {G J mk st : Nat → Int32} {ap : Nat → Int64} {kd sn : Nat → Nat} (hI : cI K np nc ns lk lc tp cp gp G J mk st ap kd sn L f) (h0 : Nat) (hm_h0 : h0 ∈ L) (hk_h0 : kd h0 = 1) (b : Nat) (hm_b : b ∈ L) (hk_b : kd b = 18) (hnp : np ≤ 8) (hnc : nc ≤ 40) (hLn : gN L) : gMv l yX5_uncount cX5_uncount 3 0 (dC, dI) K L f [.ref h0, .ref b] (fun f' => cI K np nc ns lk lc tp cp gp G J mk st ap kd sn L f') := by
  refine Met.ofW (cc := cX5_uncount) (maxL := 3) (ret := none) (by decide) rfl ?_
  intro p e s m args below meth c s₁ B hml hv
  obtain ⟨rfl, hP, hK⟩ := hv
  have hD : va_D (fun q : Nat => q ∈ L) (va_pl L f) := g_D hLn (fun a h => h) f
  generalize hAe : (fun q : Nat => q ∈ L) = A at hD ⊢
  have hx := B.exec
  have hb := B.bytes
  have hr := B.returns
  have hlocks := B.notSynchronized
  have hts0 := atoms_spec (ws := Cond.code yX5_uncount cX5_uncount 3 none :: lw_B) B.pre
  have hts : ∀ w ∈ lw_B, w.before _ s = true := fun w h => hts0 w (List.mem_cons_of_mem _ h)
  have hown : s.vm.findClass RX5 = some m.cls := findClass_of_methodNamed B.named
  have hS : va_S A s.heap s.heap [] := va_S.rf
  have hl := lv_entry ([.ref h0, .ref b]) (n := 3) (Nat.le_of_ble_eq_true rfl)
  rw [lg_entry_eq]
  generalize (lg_sl ([.ref h0, .ref b]) ++ List.replicate (3 - (lg_sl ([.ref h0, .ref b])).length) Slot.unset).toArray = ls at hl ⊢
  have hl : lv_has ls 3 [(0, .ref h0), (1, .ref b)] := hl
  refine lv_aload_n hx hb dX5_uncount_0 rfl (lv_at hl 0 rfl) ?_
  obtain ⟨fs1, b_2, hF1, hv1, hm_b_2, hk_b_2⟩ := hI.gR hm_h0 hk_h0 1 (ci := 5) (t := 3) ⟨rfl, rfl, by decide, rfl⟩
  refine g_get (ci := 5) (v := .ref b_2) (C := RX5) (T := TX5) (N := 17) hx hb hts uB5 hown hK hP hm_h0 hF1 rfl 1 (by decide) wm_270 hv1 dX5_uncount_1 ?_
  refine lv_aload_n hx hb dX5_uncount_4 rfl (lv_at hl 1 rfl) ?_
  obtain ⟨fs3, q_3, hF3, hv3, hq_3⟩ := hI.g7 hm_b hk_b 4 (ci := 3) ⟨rfl, rfl, by decide, rfl⟩
  refine g_get (ci := 3) (v := .int (nI q_3)) (C := RX3) (T := TX3) (N := 12) hx hb hts uB3 hown hK hP hm_b hF3 rfl 4 (by decide) wm_289 hv3 dX5_uncount_5 ?_
  obtain ⟨g4, hF4, hgz4⟩ := hI.a3 hm_b_2 hk_b_2
  obtain ⟨b_5, hm_b_5, hk_b_5, hs_b_5, hv4⟩ := hgz4 q_3 (by omega)
  refine g_aldR (t := 4) hx hb hK hP hm_b_2 hF4 rfl (vp_in_nI (by omega) (by decide)) (by rw [nI_clamp (by omega)]; exact hv4) dX5_uncount_8 ?_
  obtain ⟨fs6, b_7, hF6, hv6, hm_b_7, hk_b_7⟩ := hI.gR hm_b_5 hk_b_5 5 (ci := 0) (t := 19) ⟨rfl, rfl, by decide, rfl⟩
  refine g_get (ci := 0) (v := .ref b_7) (C := RX0) (T := TX0) (N := 16) hx hb hts uB0 hown hK hP hm_b_5 hF6 rfl 5 (by decide) wm_290 hv6 dX5_uncount_9 ?_
  refine lv_astore_n (lv' := [(2, .ref b_7), (0, .ref h0), (1, .ref b)]) hx hb dX5_uncount_12 rfl hl (by decide) rfl (fun ls hl => ?_)
  refine lv_aload_n hx hb dX5_uncount_13 rfl (lv_at hl 0 rfl) ?_
  refine lv_dup hx hb dX5_uncount_14 rfl ?_
  obtain ⟨fs8, x_8, hF8, hv8⟩ := hI.gI hm_b_7 hk_b_7 3 (ci := 4) ⟨rfl, rfl, by decide, rfl⟩
  refine g_get (ci := 4) (v := .int x_8) (C := RX4) (T := TX4) (N := 8) hx hb hts uB4 hown hK hP hm_b_7 hF8 rfl 3 (by decide) wm_314 hv8 dX5_uncount_15 ?_
  refine lv_iconst (v := 1) hx hb dX5_uncount_18 (by decide) ?_
  refine lv_isub hx hb dX5_uncount_19 ?_
  refine lv_topi (fun x_9 ex_9 => ?_)
  obtain ⟨fs10, hF10, hn10, -⟩ := hI.o hm_b_7 hk_b_7 rfl (ci := 4) rfl (n := 8) rfl
  refine g_put (ci := 4) (v := .int x_9) (ty := .int) (C := RX4) (T := TX4) (N := 8) hx hb hts uB4 tyX4 tyX4_ok nmX4 hown hK hP hD hS hm_b_7 hF10 rfl 3 (by decide) wm_314 rfl (by decide +kernel) rfl rfl (by rw [hn10]; decide) dX5_uncount_20 (fun H locs hP hD hS => ?_)
  obtain ⟨f_11, ef_11⟩ : ∃ z9, z9 = va_up f b_7 (.inr (4, List.set fs10 3 (.int x_9))) := ⟨_, rfl⟩
  have hI := hI.p hm_b_7 hk_b_7 3 (ci := 4) (t := 1) (v := .int x_9) ⟨rfl, rfl, by decide, rfl⟩ hF10 fv1
  rw [← ef_11] at hP hD hI
  refine lv_aload_n hx hb dX5_uncount_23 rfl (lv_at hl 2 rfl) ?_
  obtain ⟨fs12, x_12, hF12, hv12⟩ := hI.gI hm_b hk_b 0 (ci := 3) ⟨rfl, rfl, by decide, rfl⟩
  refine g_get (ci := 3) (v := .int x_12) (C := RX3) (T := TX3) (N := 12) hx hb hts uB3 hown hK hP hm_b hF12 rfl 0 (by decide) wm_308 hv12 dX5_uncount_24 ?_
  refine lv_aload_n hx hb dX5_uncount_27 rfl (lv_at hl 1 rfl) ?_
  obtain ⟨fs13, hF13, hv13⟩ := hI.gG hm_h0 hk_h0 12 (ci := 5) ⟨rfl, rfl, by decide, rfl⟩
  refine g_get (ci := 5) (v := .int (G 12)) (C := RX5) (T := TX5) (N := 17) hx hb hts uB5 hown hK hP hm_h0 hF13 rfl 12 (by decide) wm_265 hv13 dX5_uncount_28 ?_
  refine lv_icmp_ne (tgt := 71) hx hb dX5_uncount_31 (by decide) (fun c_14 => ?_) (fun c_14 => ?_)
  · skip
    refine lv_aload_n hx hb dX5_uncount_71 rfl (lv_at hl 2 rfl) ?_
    obtain ⟨fs15, x_15, hF15, hv15⟩ := hI.gI hm_b hk_b 6 (ci := 3) ⟨rfl, rfl, by decide, rfl⟩
    refine g_get (ci := 3) (v := .int x_15) (C := RX3) (T := TX3) (N := 12) hx hb hts uB3 hown hK hP hm_b hF15 rfl 6 (by decide) wm_315 hv15 dX5_uncount_72 ?_
    refine lv_iconst (v := 2) hx hb dX5_uncount_75 (by decide) ?_
    refine lv_icmp_eq (tgt := 80) hx hb dX5_uncount_76 (by decide) (fun c_16 => ?_) (fun c_16 => ?_)
    · skip
      refine lv_aload_n hx hb dX5_uncount_80 rfl (lv_at hl 0 rfl) ?_
      refine lv_dup hx hb dX5_uncount_81 rfl ?_
      obtain ⟨fs17, x_17, hF17, hv17⟩ := hI.gI hm_b_7 hk_b_7 5 (ci := 4) ⟨rfl, rfl, by decide, rfl⟩
      refine g_get (ci := 4) (v := .int x_17) (C := RX4) (T := TX4) (N := 8) hx hb hts uB4 hown hK hP hm_b_7 hF17 rfl 5 (by decide) wm_316 hv17 dX5_uncount_82 ?_
      refine lv_iconst (v := 1) hx hb dX5_uncount_85 (by decide) ?_
      refine lv_isub hx hb dX5_uncount_86 ?_
      refine lv_topi (fun x_18 ex_18 => ?_)
      obtain ⟨fs19, hF19, hn19, -⟩ := hI.o hm_b_7 hk_b_7 rfl (ci := 4) rfl (n := 8) rfl
      refine g_put (ci := 4) (v := .int x_18) (ty := .int) (C := RX4) (T := TX4) (N := 8) hx hb hts uB4 tyX4 tyX4_ok nmX4 hown hK hP hD hS hm_b_7 hF19 rfl 5 (by decide) wm_316 rfl (by decide +kernel) rfl rfl (by rw [hn19]; decide) dX5_uncount_87 (fun H locs hP hD hS => ?_)
      obtain ⟨f_20, ef_20⟩ : ∃ z9, z9 = va_up f_11 b_7 (.inr (4, List.set fs19 5 (.int x_18))) := ⟨_, rfl⟩
      have hI := hI.p hm_b_7 hk_b_7 5 (ci := 4) (t := 1) (v := .int x_18) ⟨rfl, rfl, by decide, rfl⟩ hF19 fv1
      rw [← ef_20] at hP hD hI
      refine lv_aload_n hx hb dX5_uncount_90 rfl (lv_at hl 2 rfl) ?_
      obtain ⟨fs21, x_21, hF21, hv21⟩ := hI.gI hm_b hk_b 8 (ci := 3) ⟨rfl, rfl, by decide, rfl⟩
      refine g_get (ci := 3) (v := .int x_21) (C := RX3) (T := TX3) (N := 12) hx hb hts uB3 hown hK hP hm_b hF21 rfl 8 (by decide) wm_317 hv21 dX5_uncount_91 ?_
      refine lv_aload_n hx hb dX5_uncount_94 rfl (lv_at hl 1 rfl) ?_
      obtain ⟨fs22, hF22, hv22⟩ := hI.gG hm_h0 hk_h0 12 (ci := 5) ⟨rfl, rfl, by decide, rfl⟩
      refine g_get (ci := 5) (v := .int (G 12)) (C := RX5) (T := TX5) (N := 17) hx hb hts uB5 hown hK hP hm_h0 hF22 rfl 12 (by decide) wm_265 hv22 dX5_uncount_95 ?_
      refine lv_icmp_ne (tgt := 111) hx hb dX5_uncount_98 (by decide) (fun c_23 => ?_) (fun c_23 => ?_)
      · skip
        exact W.vret hx hb hr (fun t ht hW => ⟨⟨f_20, rfl, hI, by show va_P (dC, dI) vwCl (va_pl L f_20) t.heap; rw [ht]; exact hP⟩, hS.F ht⟩) hS.2.2 dX5_uncount_111
      · skip
        refine lv_aload_n hx hb dX5_uncount_101 rfl (lv_at hl 0 rfl) ?_
        refine lv_dup hx hb dX5_uncount_102 rfl ?_
        obtain ⟨fs24, x_24, hF24, hv24⟩ := hI.gI hm_b_7 hk_b_7 6 (ci := 4) ⟨rfl, rfl, by decide, rfl⟩
        refine g_get (ci := 4) (v := .int x_24) (C := RX4) (T := TX4) (N := 8) hx hb hts uB4 hown hK hP hm_b_7 hF24 rfl 6 (by decide) wm_318 hv24 dX5_uncount_103 ?_
        refine lv_iconst (v := 1) hx hb dX5_uncount_106 (by decide) ?_
        refine lv_isub hx hb dX5_uncount_107 ?_
        refine lv_topi (fun x_25 ex_25 => ?_)
        obtain ⟨fs26, hF26, hn26, -⟩ := hI.o hm_b_7 hk_b_7 rfl (ci := 4) rfl (n := 8) rfl
        refine g_put (ci := 4) (v := .int x_25) (ty := .int) (C := RX4) (T := TX4) (N := 8) hx hb hts uB4 tyX4 tyX4_ok nmX4 hown hK hP hD hS hm_b_7 hF26 rfl 6 (by decide) wm_318 rfl (by decide +kernel) rfl rfl (by rw [hn26]; decide) dX5_uncount_108 (fun H locs hP hD hS => ?_)
        obtain ⟨f_27, ef_27⟩ : ∃ z9, z9 = va_up f_20 b_7 (.inr (4, List.set fs26 6 (.int x_25))) := ⟨_, rfl⟩
        have hI := hI.p hm_b_7 hk_b_7 6 (ci := 4) (t := 1) (v := .int x_25) ⟨rfl, rfl, by decide, rfl⟩ hF26 fv1
        rw [← ef_27] at hP hD hI
        exact W.vret hx hb hr (fun t ht hW => ⟨⟨f_27, rfl, hI, by show va_P (dC, dI) vwCl (va_pl L f_27) t.heap; rw [ht]; exact hP⟩, hS.F ht⟩) hS.2.2 dX5_uncount_111
    · skip
      exact W.vret hx hb hr (fun t ht hW => ⟨⟨f_11, rfl, hI, by show va_P (dC, dI) vwCl (va_pl L f_11) t.heap; rw [ht]; exact hP⟩, hS.F ht⟩) hS.2.2 dX5_uncount_79
  · skip
    refine lv_aload_n hx hb dX5_uncount_34 rfl (lv_at hl 0 rfl) ?_
    refine lv_dup hx hb dX5_uncount_35 rfl ?_
    obtain ⟨fs28, x_28, hF28, hv28⟩ := hI.gI hm_b_7 hk_b_7 4 (ci := 4) ⟨rfl, rfl, by decide, rfl⟩
    refine g_get (ci := 4) (v := .int x_28) (C := RX4) (T := TX4) (N := 8) hx hb hts uB4 hown hK hP hm_b_7 hF28 rfl 4 (by decide) wm_319 hv28 dX5_uncount_36 ?_
    refine lv_iconst (v := 1) hx hb dX5_uncount_39 (by decide) ?_
    refine lv_isub hx hb dX5_uncount_40 ?_
    refine lv_topi (fun x_29 ex_29 => ?_)
    obtain ⟨fs30, hF30, hn30, -⟩ := hI.o hm_b_7 hk_b_7 rfl (ci := 4) rfl (n := 8) rfl
    refine g_put (ci := 4) (v := .int x_29) (ty := .int) (C := RX4) (T := TX4) (N := 8) hx hb hts uB4 tyX4 tyX4_ok nmX4 hown hK hP hD hS hm_b_7 hF30 rfl 4 (by decide) wm_319 rfl (by decide +kernel) rfl rfl (by rw [hn30]; decide) dX5_uncount_41 (fun H locs hP hD hS => ?_)
    obtain ⟨f_31, ef_31⟩ : ∃ z9, z9 = va_up f_11 b_7 (.inr (4, List.set fs30 4 (.int x_29))) := ⟨_, rfl⟩
    have hI := hI.p hm_b_7 hk_b_7 4 (ci := 4) (t := 1) (v := .int x_29) ⟨rfl, rfl, by decide, rfl⟩ hF30 fv1
    rw [← ef_31] at hP hD hI
    refine lv_aload_n hx hb dX5_uncount_44 rfl (lv_at hl 1 rfl) ?_
    obtain ⟨fs32, b_33, hF32, hv32, hm_b_33, hk_b_33⟩ := hI.gR hm_h0 hk_h0 0 (ci := 5) (t := 2) ⟨rfl, rfl, by decide, rfl⟩
    refine g_get (ci := 5) (v := .ref b_33) (C := RX5) (T := TX5) (N := 17) hx hb hts uB5 hown hK hP hm_h0 hF32 rfl 0 (by decide) wm_292 hv32 dX5_uncount_45 ?_
    refine lv_aload_n hx hb dX5_uncount_48 rfl (lv_at hl 2 rfl) ?_
    obtain ⟨fs34, q_34, hF34, hv34, hq_34⟩ := hI.g6 hm_b hk_b 2 (ci := 3) ⟨rfl, rfl, by decide, rfl⟩
    refine g_get (ci := 3) (v := .int (nI q_34)) (C := RX3) (T := TX3) (N := 12) hx hb hts uB3 hown hK hP hm_b hF34 rfl 2 (by decide) wm_293 hv34 dX5_uncount_49 ?_
    obtain ⟨g35, hF35, hgz35⟩ := hI.a2 hm_b_33 hk_b_33
    obtain ⟨b_36, hm_b_36, hk_b_36, hv35⟩ := hgz35 q_34 (by omega)
    refine g_aldR (t := 3) hx hb hK hP hm_b_33 hF35 rfl (vp_in_nI (by omega) (by decide)) (by rw [nI_clamp (by omega)]; exact hv35) dX5_uncount_52 ?_
    refine lv_dup hx hb dX5_uncount_53 rfl ?_
    obtain ⟨fs37, x_37, hF37, hv37⟩ := hI.gL hm_b_36 hk_b_36 3 (ci := 2) ⟨rfl, rfl, by decide, rfl⟩
    refine g_get (ci := 2) (v := .long x_37) (C := RX2) (T := TX2) (N := 4) hx hb hts uB2 hown hK hP hm_b_36 hF37 rfl 3 (by decide) wm_320 hv37 dX5_uncount_54 ?_
    refine lv_lconst (v := 1) hx hb dX5_uncount_57 rfl ?_
    refine lv_aload_n hx hb dX5_uncount_58 rfl (lv_at hl 2 rfl) ?_
    obtain ⟨fs38, q_38, hF38, hv38, hq_38⟩ := hI.g7 hm_b hk_b 4 (ci := 3) ⟨rfl, rfl, by decide, rfl⟩
    refine g_get (ci := 3) (v := .int (nI q_38)) (C := RX3) (T := TX3) (N := 12) hx hb hts uB3 hown hK hP hm_b hF38 rfl 4 (by decide) wm_289 hv38 dX5_uncount_59 ?_
    refine lv_lshl hx hb dX5_uncount_62 rfl ?_
    refine lv_topl (fun x_39 ex_39 => ?_)
    refine lv_ldc2 (v := (-1)) hx hb hown (hts _ wm_99) dX5_uncount_63 ?_
    refine lv_lxor hx hb dX5_uncount_66 ?_
    refine lv_topl (fun x_40 ex_40 => ?_)
    refine lv_land hx hb dX5_uncount_67 ?_
    refine lv_topl (fun x_41 ex_41 => ?_)
    obtain ⟨fs42, hF42, hn42, -⟩ := hI.o hm_b_36 hk_b_36 rfl (ci := 2) rfl (n := 4) rfl
    refine g_put (ci := 2) (v := .long x_41) (ty := .long) (C := RX2) (T := TX2) (N := 4) hx hb hts uB2 tyX2 tyX2_ok nmX2 hown hK hP hD hS hm_b_36 hF42 rfl 3 (by decide) wm_320 rfl (by decide +kernel) rfl rfl (by rw [hn42]; decide) dX5_uncount_68 (fun H locs hP hD hS => ?_)
    obtain ⟨f_43, ef_43⟩ : ∃ z9, z9 = va_up f_31 b_36 (.inr (2, List.set fs42 3 (.long x_41))) := ⟨_, rfl⟩
    have hI := hI.p hm_b_36 hk_b_36 3 (ci := 2) (t := 2) (v := .long x_41) ⟨rfl, rfl, by decide, rfl⟩ hF42 fv2
    rw [← ef_43] at hP hD hI
    refine lv_aload_n hx hb dX5_uncount_71 rfl (lv_at hl 2 rfl) ?_
    obtain ⟨fs44, x_44, hF44, hv44⟩ := hI.gI hm_b hk_b 6 (ci := 3) ⟨rfl, rfl, by decide, rfl⟩
    refine g_get (ci := 3) (v := .int x_44) (C := RX3) (T := TX3) (N := 12) hx hb hts uB3 hown hK hP hm_b hF44 rfl 6 (by decide) wm_315 hv44 dX5_uncount_72 ?_
    refine lv_iconst (v := 2) hx hb dX5_uncount_75 (by decide) ?_
    refine lv_icmp_eq (tgt := 80) hx hb dX5_uncount_76 (by decide) (fun c_45 => ?_) (fun c_45 => ?_)
    · skip
      refine lv_aload_n hx hb dX5_uncount_80 rfl (lv_at hl 0 rfl) ?_
      refine lv_dup hx hb dX5_uncount_81 rfl ?_
      obtain ⟨fs46, x_46, hF46, hv46⟩ := hI.gI hm_b_7 hk_b_7 5 (ci := 4) ⟨rfl, rfl, by decide, rfl⟩
      refine g_get (ci := 4) (v := .int x_46) (C := RX4) (T := TX4) (N := 8) hx hb hts uB4 hown hK hP hm_b_7 hF46 rfl 5 (by decide) wm_316 hv46 dX5_uncount_82 ?_
      refine lv_iconst (v := 1) hx hb dX5_uncount_85 (by decide) ?_
      refine lv_isub hx hb dX5_uncount_86 ?_
      refine lv_topi (fun x_47 ex_47 => ?_)
      obtain ⟨fs48, hF48, hn48, -⟩ := hI.o hm_b_7 hk_b_7 rfl (ci := 4) rfl (n := 8) rfl
      refine g_put (ci := 4) (v := .int x_47) (ty := .int) (C := RX4) (T := TX4) (N := 8) hx hb hts uB4 tyX4 tyX4_ok nmX4 hown hK hP hD hS hm_b_7 hF48 rfl 5 (by decide) wm_316 rfl (by decide +kernel) rfl rfl (by rw [hn48]; decide) dX5_uncount_87 (fun H locs hP hD hS => ?_)
      obtain ⟨f_49, ef_49⟩ : ∃ z9, z9 = va_up f_43 b_7 (.inr (4, List.set fs48 5 (.int x_47))) := ⟨_, rfl⟩
      have hI := hI.p hm_b_7 hk_b_7 5 (ci := 4) (t := 1) (v := .int x_47) ⟨rfl, rfl, by decide, rfl⟩ hF48 fv1
      rw [← ef_49] at hP hD hI
      refine lv_aload_n hx hb dX5_uncount_90 rfl (lv_at hl 2 rfl) ?_
      obtain ⟨fs50, x_50, hF50, hv50⟩ := hI.gI hm_b hk_b 8 (ci := 3) ⟨rfl, rfl, by decide, rfl⟩
      refine g_get (ci := 3) (v := .int x_50) (C := RX3) (T := TX3) (N := 12) hx hb hts uB3 hown hK hP hm_b hF50 rfl 8 (by decide) wm_317 hv50 dX5_uncount_91 ?_
      refine lv_aload_n hx hb dX5_uncount_94 rfl (lv_at hl 1 rfl) ?_
      obtain ⟨fs51, hF51, hv51⟩ := hI.gG hm_h0 hk_h0 12 (ci := 5) ⟨rfl, rfl, by decide, rfl⟩
      refine g_get (ci := 5) (v := .int (G 12)) (C := RX5) (T := TX5) (N := 17) hx hb hts uB5 hown hK hP hm_h0 hF51 rfl 12 (by decide) wm_265 hv51 dX5_uncount_95 ?_
      refine lv_icmp_ne (tgt := 111) hx hb dX5_uncount_98 (by decide) (fun c_52 => ?_) (fun c_52 => ?_)
      · skip
        exact W.vret hx hb hr (fun t ht hW => ⟨⟨f_49, rfl, hI, by show va_P (dC, dI) vwCl (va_pl L f_49) t.heap; rw [ht]; exact hP⟩, hS.F ht⟩) hS.2.2 dX5_uncount_111
      · skip
        refine lv_aload_n hx hb dX5_uncount_101 rfl (lv_at hl 0 rfl) ?_
        refine lv_dup hx hb dX5_uncount_102 rfl ?_
        obtain ⟨fs53, x_53, hF53, hv53⟩ := hI.gI hm_b_7 hk_b_7 6 (ci := 4) ⟨rfl, rfl, by decide, rfl⟩
        refine g_get (ci := 4) (v := .int x_53) (C := RX4) (T := TX4) (N := 8) hx hb hts uB4 hown hK hP hm_b_7 hF53 rfl 6 (by decide) wm_318 hv53 dX5_uncount_103 ?_
        refine lv_iconst (v := 1) hx hb dX5_uncount_106 (by decide) ?_
        refine lv_isub hx hb dX5_uncount_107 ?_
        refine lv_topi (fun x_54 ex_54 => ?_)
        obtain ⟨fs55, hF55, hn55, -⟩ := hI.o hm_b_7 hk_b_7 rfl (ci := 4) rfl (n := 8) rfl
        refine g_put (ci := 4) (v := .int x_54) (ty := .int) (C := RX4) (T := TX4) (N := 8) hx hb hts uB4 tyX4 tyX4_ok nmX4 hown hK hP hD hS hm_b_7 hF55 rfl 6 (by decide) wm_318 rfl (by decide +kernel) rfl rfl (by rw [hn55]; decide) dX5_uncount_108 (fun H locs hP hD hS => ?_)
        obtain ⟨f_56, ef_56⟩ : ∃ z9, z9 = va_up f_49 b_7 (.inr (4, List.set fs55 6 (.int x_54))) := ⟨_, rfl⟩
        have hI := hI.p hm_b_7 hk_b_7 6 (ci := 4) (t := 1) (v := .int x_54) ⟨rfl, rfl, by decide, rfl⟩ hF55 fv1
        rw [← ef_56] at hP hD hI
        exact W.vret hx hb hr (fun t ht hW => ⟨⟨f_56, rfl, hI, by show va_P (dC, dI) vwCl (va_pl L f_56) t.heap; rw [ht]; exact hP⟩, hS.F ht⟩) hS.2.2 dX5_uncount_111
    · skip
      exact W.vret hx hb hr (fun t ht hW => ⟨⟨f_43, rfl, hI, by show va_P (dC, dI) vwCl (va_pl L f_43) t.heap; rw [ht]; exact hP⟩, hS.F ht⟩) hS.2.2 dX5_uncount_79
set_option maxHeartbeats 4000000 in
set_option maxRecDepth 100000 in
theorem k_X5_hold (l : Launch) (dC : Nat → ClassId) (dI : Nat → Nat → Nat) (K : Nat → ClassId) (L : List Nat) (f : Nat → va_E) {np nc ns lk lc tp cp gp : Nat} {G J mk st : Nat → Int32} {ap : Nat → Int64} {kd sn : Nat → Nat} (hI : cI K np nc ns lk lc tp cp gp G J mk st ap kd sn L f) (h0 : Nat) (hm_h0 : h0 ∈ L) (hk_h0 : kd h0 = 1) (b : Nat) (hm_b : b ∈ L) (hk_b : kd b = 18) (hnc : nc ≤ 40) (hLn : gN L) : gMv l yX5_hold cX5_hold 2 1 (dC, dI) K L f [.ref h0, .ref b] (fun f' => ∃ (G2 : Nat → Int32), cI K np nc ns lk lc tp cp gp G2 J mk st ap kd sn L f' ∧ (gS [16] G G2)) := by
  refine Met.ofW (cc := cX5_hold) (maxL := 2) (ret := none) (by decide) rfl ?_
  intro p e s m args below meth c s₁ B hml hv
  obtain ⟨rfl, hP, hK⟩ := hv
  have hD : va_D (fun q : Nat => q ∈ L) (va_pl L f) := g_D hLn (fun a h => h) f
  generalize hAe : (fun q : Nat => q ∈ L) = A at hD ⊢
  have hx := B.exec
  have hb := B.bytes
  have hr := B.returns
  have hlocks := B.notSynchronized
  have hts0 := atoms_spec (ws := Cond.code yX5_hold cX5_hold 2 none :: lw_B) B.pre
  have hts : ∀ w ∈ lw_B, w.before _ s = true := fun w h => hts0 w (List.mem_cons_of_mem _ h)
  have hown : s.vm.findClass RX5 = some m.cls := findClass_of_methodNamed B.named
  have hS : va_S A s.heap s.heap [] := va_S.rf
  have hGS : gS [16] G G := gS.rf
  have hl := lv_entry ([.ref h0, .ref b]) (n := 2) (Nat.le_of_ble_eq_true rfl)
  rw [lg_entry_eq]
  generalize (lg_sl ([.ref h0, .ref b]) ++ List.replicate (2 - (lg_sl ([.ref h0, .ref b])).length) Slot.unset).toArray = ls at hl ⊢
  have hl : lv_has ls 2 [(0, .ref h0), (1, .ref b)] := hl
  refine lv_aload_n hx hb dX5_hold_0 rfl (lv_at hl 1 rfl) ?_
  refine lv_iconst (v := 1) hx hb dX5_hold_1 (by decide) ?_
  obtain ⟨fs1, hF1, hn1, -⟩ := hI.o hm_b hk_b rfl (ci := 3) rfl (n := 12) rfl
  refine g_put (ci := 3) (v := .int 1) (ty := .int) (C := RX3) (T := TX3) (N := 12) hx hb hts uB3 tyX3 tyX3_ok nmX3 hown hK hP hD hS hm_b hF1 rfl 6 (by decide) wm_315 rfl (by decide +kernel) rfl rfl (by rw [hn1]; decide) dX5_hold_2 (fun H locs hP hD hS => ?_)
  obtain ⟨f_2, ef_2⟩ : ∃ z9, z9 = va_up f b (.inr (3, List.set fs1 6 (.int 1))) := ⟨_, rfl⟩
  have hI := hI.p hm_b hk_b 6 (ci := 3) (t := 1) (v := .int 1) ⟨rfl, rfl, by decide, rfl⟩ hF1 fv1
  rw [← ef_2] at hP hD hI
  refine lv_aload_n hx hb dX5_hold_5 rfl (lv_at hl 1 rfl) ?_
  refine lv_aload_n hx hb dX5_hold_6 rfl (lv_at hl 1 rfl) ?_
  obtain ⟨fs3, x_3, hF3, hv3⟩ := hI.gI hm_b hk_b 5 (ci := 3) ⟨rfl, rfl, by decide, rfl⟩
  refine g_get (ci := 3) (v := .int x_3) (C := RX3) (T := TX3) (N := 12) hx hb hts uB3 hown hK hP hm_b hF3 rfl 5 (by decide) wm_296 hv3 dX5_hold_7 ?_
  obtain ⟨fs4, hF4, hn4, -⟩ := hI.o hm_b hk_b rfl (ci := 3) rfl (n := 12) rfl
  refine g_put (ci := 3) (v := .int x_3) (ty := .int) (C := RX3) (T := TX3) (N := 12) hx hb hts uB3 tyX3 tyX3_ok nmX3 hown hK hP hD hS hm_b hF4 rfl 10 (by decide) wm_303 rfl (by decide +kernel) rfl rfl (by rw [hn4]; decide) dX5_hold_10 (fun H locs hP hD hS => ?_)
  obtain ⟨f_5, ef_5⟩ : ∃ z9, z9 = va_up f_2 b (.inr (3, List.set fs4 10 (.int x_3))) := ⟨_, rfl⟩
  have hI := hI.p hm_b hk_b 10 (ci := 3) (t := 1) (v := .int x_3) ⟨rfl, rfl, by decide, rfl⟩ hF4 fv1
  rw [← ef_5] at hP hD hI
  refine lv_aload_n hx hb dX5_hold_13 rfl (lv_at hl 0 rfl) ?_
  obtain ⟨fs6, b_7, hF6, hv6, hm_b_7, hk_b_7⟩ := hI.gR hm_h0 hk_h0 1 (ci := 5) (t := 3) ⟨rfl, rfl, by decide, rfl⟩
  refine g_get (ci := 5) (v := .ref b_7) (C := RX5) (T := TX5) (N := 17) hx hb hts uB5 hown hK hP hm_h0 hF6 rfl 1 (by decide) wm_270 hv6 dX5_hold_14 ?_
  refine lv_aload_n hx hb dX5_hold_17 rfl (lv_at hl 1 rfl) ?_
  obtain ⟨fs8, q_8, hF8, hv8, hq_8⟩ := hI.g7 hm_b hk_b 4 (ci := 3) ⟨rfl, rfl, by decide, rfl⟩
  refine g_get (ci := 3) (v := .int (nI q_8)) (C := RX3) (T := TX3) (N := 12) hx hb hts uB3 hown hK hP hm_b hF8 rfl 4 (by decide) wm_289 hv8 dX5_hold_18 ?_
  obtain ⟨g9, hF9, hgz9⟩ := hI.a3 hm_b_7 hk_b_7
  obtain ⟨b_10, hm_b_10, hk_b_10, hs_b_10, hv9⟩ := hgz9 q_8 (by omega)
  refine g_aldR (t := 4) hx hb hK hP hm_b_7 hF9 rfl (vp_in_nI (by omega) (by decide)) (by rw [nI_clamp (by omega)]; exact hv9) dX5_hold_21 ?_
  obtain ⟨fs11, b_12, hF11, hv11, hm_b_12, hk_b_12⟩ := hI.gR hm_b_10 hk_b_10 5 (ci := 0) (t := 19) ⟨rfl, rfl, by decide, rfl⟩
  refine g_get (ci := 0) (v := .ref b_12) (C := RX0) (T := TX0) (N := 16) hx hb hts uB0 hown hK hP hm_b_10 hF11 rfl 5 (by decide) wm_290 hv11 dX5_hold_22 ?_
  refine lv_dup hx hb dX5_hold_25 rfl ?_
  obtain ⟨fs13, x_13, hF13, hv13⟩ := hI.gI hm_b_12 hk_b_12 1 (ci := 4) ⟨rfl, rfl, by decide, rfl⟩
  refine g_get (ci := 4) (v := .int x_13) (C := RX4) (T := TX4) (N := 8) hx hb hts uB4 hown hK hP hm_b_12 hF13 rfl 1 (by decide) wm_302 hv13 dX5_hold_26 ?_
  refine lv_aload_n hx hb dX5_hold_29 rfl (lv_at hl 1 rfl) ?_
  obtain ⟨fs14, x_14, hF14, hv14⟩ := hI.gI hm_b hk_b 5 (ci := 3) ⟨rfl, rfl, by decide, rfl⟩
  refine g_get (ci := 3) (v := .int x_14) (C := RX3) (T := TX3) (N := 12) hx hb hts uB3 hown hK hP hm_b hF14 rfl 5 (by decide) wm_296 hv14 dX5_hold_30 ?_
  refine lv_iadd hx hb dX5_hold_33 ?_
  refine lv_topi (fun x_15 ex_15 => ?_)
  obtain ⟨fs16, hF16, hn16, -⟩ := hI.o hm_b_12 hk_b_12 rfl (ci := 4) rfl (n := 8) rfl
  refine g_put (ci := 4) (v := .int x_15) (ty := .int) (C := RX4) (T := TX4) (N := 8) hx hb hts uB4 tyX4 tyX4_ok nmX4 hown hK hP hD hS hm_b_12 hF16 rfl 1 (by decide) wm_302 rfl (by decide +kernel) rfl rfl (by rw [hn16]; decide) dX5_hold_34 (fun H locs hP hD hS => ?_)
  obtain ⟨f_17, ef_17⟩ : ∃ z9, z9 = va_up f_5 b_12 (.inr (4, List.set fs16 1 (.int x_15))) := ⟨_, rfl⟩
  have hI := hI.p hm_b_12 hk_b_12 1 (ci := 4) (t := 1) (v := .int x_15) ⟨rfl, rfl, by decide, rfl⟩ hF16 fv1
  rw [← ef_17] at hP hD hI
  refine lv_aload_n hx hb dX5_hold_37 rfl (lv_at hl 0 rfl) ?_
  refine lv_aload_n hx hb dX5_hold_38 rfl (lv_at hl 0 rfl) ?_
  obtain ⟨fs18, hF18, hv18⟩ := hI.gG hm_h0 hk_h0 16 (ci := 5) ⟨rfl, rfl, by decide, rfl⟩
  refine g_get (ci := 5) (v := .int (G 16)) (C := RX5) (T := TX5) (N := 17) hx hb hts uB5 hown hK hP hm_h0 hF18 rfl 16 (by decide) wm_321 hv18 dX5_hold_39 ?_
  refine lv_aload_n hx hb dX5_hold_42 rfl (lv_at hl 1 rfl) ?_
  obtain ⟨fs19, x_19, hF19, hv19⟩ := hI.gI hm_b hk_b 7 (ci := 3) ⟨rfl, rfl, by decide, rfl⟩
  refine g_get (ci := 3) (v := .int x_19) (C := RX3) (T := TX3) (N := 12) hx hb hts uB3 hown hK hP hm_b hF19 rfl 7 (by decide) wm_322 hv19 dX5_hold_43 ?_
  refine va_mmin hx hb (by rw [hml]; exact hl.1.symm) hown (hts _ wm_323) (hts _ wm_220) (hts _ wm_221) (hts _ wm_222) (Nat.le_of_ble_eq_true rfl) (Nat.le_of_ble_eq_true rfl) (Nat.le_of_ble_eq_true rfl) (Nat.le_of_ble_eq_true rfl) dX5_hold_46 ?_
  refine lv_topi (fun x_20 ex_20 => ?_)
  obtain ⟨fs21, hF21, hn21, -⟩ := hI.o hm_h0 hk_h0 rfl (ci := 5) rfl (n := 17) rfl
  refine g_put (ci := 5) (v := .int x_20) (ty := .int) (C := RX5) (T := TX5) (N := 17) hx hb hts uB5 tyX5 tyX5_ok nmX5 hown hK hP hD hS hm_h0 hF21 rfl 16 (by decide) wm_321 rfl (by decide +kernel) rfl rfl (by rw [hn21]; decide) dX5_hold_49 (fun H locs hP hD hS => ?_)
  obtain ⟨f_22, ef_22⟩ : ∃ z9, z9 = va_up f_17 h0 (.inr (5, List.set fs21 16 (.int x_20))) := ⟨_, rfl⟩
  have hI := hI.pG hm_h0 hk_h0 16 (by decide) hF21 x_20
  rw [← ef_22] at hP hD hI
  obtain ⟨G_23, eG_23⟩ : ∃ z9, z9 = va_up G 16 x_20 := ⟨_, rfl⟩
  rw [← eG_23] at hI
  have hGS : gS [16] G G_23 := by rw [eG_23]; exact hGS.up (by decide) _
  exact W.vret hx hb hr (fun t ht hW => ⟨⟨f_22, rfl, ⟨G_23, hI, hGS⟩, by show va_P (dC, dI) vwCl (va_pl L f_22) t.heap; rw [ht]; exact hP⟩, hS.F ht⟩) hS.2.2 dX5_hold_52
set_option maxHeartbeats 4000000 in
set_option maxRecDepth 100000 in
theorem k_X5_closeTick (l : Launch) (dC : Nat → ClassId) (dI : Nat → Nat → Nat) (K : Nat → ClassId) (L : List Nat) (f : Nat → va_E) {np nc ns lk lc tp cp gp : Nat} {G J mk st : Nat → Int32} {ap : Nat → Int64} {kd sn : Nat → Nat} (hI : cI K np nc ns lk lc tp cp gp G J mk st ap kd sn L f) (h0 : Nat) (hm_h0 : h0 ∈ L) (hk_h0 : kd h0 = 1) (hg7 : G 7 = nI np) (hg8 : G 8 = nI nc) (hnp : np ≤ 8) (hnc : nc ≤ 40) (hLn : gN L) : gMv l yX5_closeTick cX5_closeTick 2 1 (dC, dI) K L f [.ref h0] (fun f' => cI K np nc ns lk lc tp cp gp G J mk st ap kd sn L f') := by
  refine Met.ofW (cc := cX5_closeTick) (maxL := 2) (ret := none) (by decide) rfl ?_
  intro p e s m args below meth c s₁ B hml hv
  obtain ⟨rfl, hP, hK⟩ := hv
  have hD : va_D (fun q : Nat => q ∈ L) (va_pl L f) := g_D hLn (fun a h => h) f
  generalize hAe : (fun q : Nat => q ∈ L) = A at hD ⊢
  have hx := B.exec
  have hb := B.bytes
  have hr := B.returns
  have hlocks := B.notSynchronized
  have hts0 := atoms_spec (ws := Cond.code yX5_closeTick cX5_closeTick 2 none :: lw_B) B.pre
  have hts : ∀ w ∈ lw_B, w.before _ s = true := fun w h => hts0 w (List.mem_cons_of_mem _ h)
  have hown : s.vm.findClass RX5 = some m.cls := findClass_of_methodNamed B.named
  have hS : va_S A s.heap s.heap [] := va_S.rf
  have hl := lv_entry ([.ref h0]) (n := 2) (Nat.le_of_ble_eq_true rfl)
  rw [lg_entry_eq]
  generalize (lg_sl ([.ref h0]) ++ List.replicate (2 - (lg_sl ([.ref h0])).length) Slot.unset).toArray = ls at hl ⊢
  have hl : lv_has ls 2 [(0, .ref h0)] := hl
  refine lv_iconst (v := 0) hx hb dX5_closeTick_0 (by decide) ?_
  refine lv_istore_n (lv' := [(1, .int 0), (0, .ref h0)]) hx hb dX5_closeTick_1 rfl hl (by decide) rfl (fun ls hl => ?_)
  refine k_lx (pcx := 28) (fun n H locs ls => ∃ (fva : Nat → va_E) (j : Nat), nc - j = n ∧ cI K np nc ns lk lc tp cp gp G J mk st ap kd sn L fva ∧ (j ≤ nc) ∧ va_P (dC, dI) vwCl (va_pl L fva) H ∧ va_S A s.heap H locs ∧ lv_has ls 2 [(0, .ref h0), (1, .int (nI j))]) (fun H locs ls => ∃ (fva : Nat → va_E) (j : Nat), cI K np nc ns lk lc tp cp gp G J mk st ap kd sn L fva ∧ (j ≤ nc) ∧ va_P (dC, dI) vwCl (va_pl L fva) H ∧ va_S A s.heap H locs ∧ lv_has ls 2 [(0, .ref h0), (1, .int (nI j))]) (fun H locs ls hI_ => ?_) (fun n H locs ls hI_ hEa iha => ?_) _ _ _ _ ⟨f, 0, rfl, hI, Nat.zero_le _, hP, hS, lv_sub hl [1, 0] rfl⟩
  · skip
    obtain ⟨fva, j, hI, hj, hP, hS, hl⟩ := hI_
    have hD : va_D A (va_pl L fva) := g_D hLn (fun a h => by rw [← hAe]; exact h) fva
    refine lv_iconst (v := 0) hx hb dX5_closeTick_28 (by decide) ?_
    refine lv_istore_n (lv' := [(1, .int 0), (0, .ref h0)]) hx hb dX5_closeTick_29 rfl hl (by decide) rfl (fun ls hl => ?_)
    refine k_lx (pcx := 54) (fun n H locs ls => ∃ (fvb : Nat → va_E) (j : Nat), np - j = n ∧ cI K np nc ns lk lc tp cp gp G J mk st ap kd sn L fvb ∧ (j ≤ np) ∧ va_P (dC, dI) vwCl (va_pl L fvb) H ∧ va_S A s.heap H locs ∧ lv_has ls 2 [(0, .ref h0), (1, .int (nI j))]) (fun H locs ls => ∃ (fvb : Nat → va_E) (j : Nat), cI K np nc ns lk lc tp cp gp G J mk st ap kd sn L fvb ∧ (j ≤ np) ∧ va_P (dC, dI) vwCl (va_pl L fvb) H ∧ va_S A s.heap H locs ∧ lv_has ls 2 [(0, .ref h0), (1, .int (nI j))]) (fun H locs ls hI_ => ?_) (fun n H locs ls hI_ hEb ihb => ?_) _ _ _ _ ⟨fva, 0, rfl, hI, Nat.zero_le _, hP, hS, lv_sub hl [1, 0] rfl⟩
    · skip
      obtain ⟨fvb, j, hI, hj, hP, hS, hl⟩ := hI_
      have hD : va_D A (va_pl L fvb) := g_D hLn (fun a h => by rw [← hAe]; exact h) fvb
      exact W.vret hx hb hr (fun t ht hW => ⟨⟨fvb, rfl, hI, by show va_P (dC, dI) vwCl (va_pl L fvb) t.heap; rw [ht]; exact hP⟩, hS.F ht⟩) hS.2.2 dX5_closeTick_54
    · skip
      obtain ⟨fvb, j, hmub, hI, hj, hP, hS, hl⟩ := hI_
      have hD : va_D A (va_pl L fvb) := g_D hLn (fun a h => by rw [← hAe]; exact h) fvb
      refine lv_iload_n hx hb dX5_closeTick_30 rfl (lv_at hl 1 rfl) ?_
      refine lv_aload_n hx hb dX5_closeTick_31 rfl (lv_at hl 0 rfl) ?_
      obtain ⟨fs1, hF1, hv1⟩ := hI.gG hm_h0 hk_h0 7 (ci := 5) ⟨rfl, rfl, by decide, rfl⟩
      rw [hg7] at hv1
      refine g_get (ci := 5) (v := .int (nI np)) (C := RX5) (T := TX5) (N := 17) hx hb hts uB5 hown hK hP hm_h0 hF1 rfl 7 (by decide) wm_72 hv1 dX5_closeTick_32 ?_
      refine lv_icmp_ge (tgt := 54) hx hb dX5_closeTick_35 (by decide) (fun c_2 => ?_) (fun c_2 => ?_)
      · skip
        have nc_2 : np ≤ j := (bn_le (a := np) (b := j) (by omega) (by omega)).mp (show nI np ≤ nI j from c_2)
        exact hEb _ _ _ ⟨fvb, j, hI, hj, hP, hS, lv_sub hl [0, 1] rfl⟩
      · skip
        have nc_2 : ¬ (np ≤ j) := fun q => c_2 (show nI np ≤ nI j from (bn_le (a := np) (b := j) (by omega) (by omega)).mpr q)
        refine lv_aload_n hx hb dX5_closeTick_38 rfl (lv_at hl 0 rfl) ?_
        obtain ⟨fs3, b_4, hF3, hv3, hm_b_4, hk_b_4⟩ := hI.gR hm_h0 hk_h0 0 (ci := 5) (t := 2) ⟨rfl, rfl, by decide, rfl⟩
        refine g_get (ci := 5) (v := .ref b_4) (C := RX5) (T := TX5) (N := 17) hx hb hts uB5 hown hK hP hm_h0 hF3 rfl 0 (by decide) wm_292 hv3 dX5_closeTick_39 ?_
        refine lv_iload_n hx hb dX5_closeTick_42 rfl (lv_at hl 1 rfl) ?_
        obtain ⟨g5, hF5, hgz5⟩ := hI.a2 hm_b_4 hk_b_4
        obtain ⟨b_6, hm_b_6, hk_b_6, hv5⟩ := hgz5 j (by omega)
        refine g_aldR (t := 3) hx hb hK hP hm_b_4 hF5 rfl (vp_in_nI (by omega) (by decide)) (by rw [nI_clamp (by omega)]; exact hv5) dX5_closeTick_43 ?_
        refine lv_lconst (v := 0) hx hb dX5_closeTick_44 rfl ?_
        obtain ⟨fs7, hF7, hn7, -⟩ := hI.o hm_b_6 hk_b_6 rfl (ci := 2) rfl (n := 4) rfl
        refine g_put (ci := 2) (v := .long 0) (ty := .long) (C := RX2) (T := TX2) (N := 4) hx hb hts uB2 tyX2 tyX2_ok nmX2 hown hK hP hD hS hm_b_6 hF7 rfl 3 (by decide) wm_320 rfl (by decide +kernel) rfl rfl (by rw [hn7]; decide) dX5_closeTick_45 (fun H locs hP hD hS => ?_)
        obtain ⟨f_8, ef_8⟩ : ∃ z9, z9 = va_up fvb b_6 (.inr (2, List.set fs7 3 (.long 0))) := ⟨_, rfl⟩
        have hI := hI.p hm_b_6 hk_b_6 3 (ci := 2) (t := 2) (v := .long 0) ⟨rfl, rfl, by decide, rfl⟩ hF7 fv2
        rw [← ef_8] at hP hD hI
        refine lv_iinc (v := nI (j + 1)) (lv' := [(1, .int (nI (j + 1))), (0, .ref h0)]) hx hb dX5_closeTick_48 hl (k := 1) rfl (by exact nI_1 _) (by decide) rfl (fun ls hl => ?_)
        refine lv_goto (tgt := 30) hx hb dX5_closeTick_51 (by decide) ?_
        exact ihb _ (by omega) _ _ _ ⟨f_8, (j + 1), rfl, hI, by omega, hP, hS, lv_sub hl [1, 0] rfl⟩
  · skip
    obtain ⟨fva, j, hmua, hI, hj, hP, hS, hl⟩ := hI_
    have hD : va_D A (va_pl L fva) := g_D hLn (fun a h => by rw [← hAe]; exact h) fva
    refine lv_iload_n hx hb dX5_closeTick_2 rfl (lv_at hl 1 rfl) ?_
    refine lv_aload_n hx hb dX5_closeTick_3 rfl (lv_at hl 0 rfl) ?_
    obtain ⟨fs9, hF9, hv9⟩ := hI.gG hm_h0 hk_h0 8 (ci := 5) ⟨rfl, rfl, by decide, rfl⟩
    rw [hg8] at hv9
    refine g_get (ci := 5) (v := .int (nI nc)) (C := RX5) (T := TX5) (N := 17) hx hb hts uB5 hown hK hP hm_h0 hF9 rfl 8 (by decide) wm_73 hv9 dX5_closeTick_4 ?_
    refine lv_icmp_ge (tgt := 28) hx hb dX5_closeTick_7 (by decide) (fun c_10 => ?_) (fun c_10 => ?_)
    · skip
      have nc_10 : nc ≤ j := (bn_le (a := nc) (b := j) (by omega) (by omega)).mp (show nI nc ≤ nI j from c_10)
      exact hEa _ _ _ ⟨fva, j, hI, hj, hP, hS, lv_sub hl [0, 1] rfl⟩
    · skip
      have nc_10 : ¬ (nc ≤ j) := fun q => c_10 (show nI nc ≤ nI j from (bn_le (a := nc) (b := j) (by omega) (by omega)).mpr q)
      refine lv_aload_n hx hb dX5_closeTick_10 rfl (lv_at hl 0 rfl) ?_
      obtain ⟨fs11, b_12, hF11, hv11, hm_b_12, hk_b_12⟩ := hI.gR hm_h0 hk_h0 1 (ci := 5) (t := 3) ⟨rfl, rfl, by decide, rfl⟩
      refine g_get (ci := 5) (v := .ref b_12) (C := RX5) (T := TX5) (N := 17) hx hb hts uB5 hown hK hP hm_h0 hF11 rfl 1 (by decide) wm_270 hv11 dX5_closeTick_11 ?_
      refine lv_iload_n hx hb dX5_closeTick_14 rfl (lv_at hl 1 rfl) ?_
      obtain ⟨g13, hF13, hgz13⟩ := hI.a3 hm_b_12 hk_b_12
      obtain ⟨b_14, hm_b_14, hk_b_14, hs_b_14, hv13⟩ := hgz13 j (by omega)
      refine g_aldR (t := 4) hx hb hK hP hm_b_12 hF13 rfl (vp_in_nI (by omega) (by decide)) (by rw [nI_clamp (by omega)]; exact hv13) dX5_closeTick_15 ?_
      obtain ⟨fs15, b_16, hF15, hv15, hm_b_16, hk_b_16⟩ := hI.gR hm_b_14 hk_b_14 5 (ci := 0) (t := 19) ⟨rfl, rfl, by decide, rfl⟩
      refine g_get (ci := 0) (v := .ref b_16) (C := RX0) (T := TX0) (N := 16) hx hb hts uB0 hown hK hP hm_b_14 hF15 rfl 5 (by decide) wm_290 hv15 dX5_closeTick_16 ?_
      obtain ⟨fs17, hF17, -, -⟩ := hI.o hm_b_16 hk_b_16 rfl (ci := 4) rfl rfl
      refine gc_Mv (ci := 4) ⟨hx, hb, hml, hown, hts⟩ (k_X4_endTick l dC dI K L fva hI b_16 hm_b_16 hk_b_16 hLn) 0 wm_324 wm_325 wm_326 wm_215 wm_327 (by decide +kernel) ⟨Nat.le_of_ble_eq_true rfl, Nat.le_of_ble_eq_true rfl⟩ hK rfl hm_b_16 hF17 rfl hl.1 rfl (Nat.le_of_ble_eq_true rfl) dX5_closeTick_19 ⟨Nat.le_of_ble_eq_true rfl, Nat.le_of_ble_eq_true rfl⟩ (fun a h => by rw [← hAe]; exact h) hS hP (fun fw_18 H locs hpw hP hS => ?_)
      have hI := hpw
      have hD : va_D A (va_pl L fw_18) := g_D hLn (fun a h => by rw [← hAe]; exact h) fw_18
      refine lv_iinc (v := nI (j + 1)) (lv' := [(1, .int (nI (j + 1))), (0, .ref h0)]) hx hb dX5_closeTick_22 hl (k := 1) rfl (by exact nI_1 _) (by decide) rfl (fun ls hl => ?_)
      refine lv_goto (tgt := 2) hx hb dX5_closeTick_25 (by decide) ?_
      exact iha _ (by omega) _ _ _ ⟨fw_18, (j + 1), rfl, hI, by omega, hP, hS, lv_sub hl [1, 0] rfl⟩
set_option maxHeartbeats 4000000 in
set_option maxRecDepth 100000 in
theorem k_X5_closeDay (l : Launch) (dC : Nat → ClassId) (dI : Nat → Nat → Nat) (K : Nat → ClassId) (L : List Nat) (f : Nat → va_E) {np nc ns lk lc tp cp gp : Nat} {G J mk st : Nat → Int32} {ap : Nat → Int64} {kd sn : Nat → Nat} (hI : cI K np nc ns lk lc tp cp gp G J mk st ap kd sn L f) (h0 : Nat) (hm_h0 : h0 ∈ L) (hk_h0 : kd h0 = 1) (hg8 : G 8 = nI nc) (hnc : nc ≤ 40) (hLn : gN L) : gMv l yX5_closeDay cX5_closeDay 2 0 (dC, dI) K L f [.ref h0] (fun f' => cI K np nc ns lk lc tp cp gp G J mk st ap kd sn L f') := by
  refine Met.ofW (cc := cX5_closeDay) (maxL := 2) (ret := none) (by decide) rfl ?_
  intro p e s m args below meth c s₁ B hml hv
  obtain ⟨rfl, hP, hK⟩ := hv
  have hD : va_D (fun q : Nat => q ∈ L) (va_pl L f) := g_D hLn (fun a h => h) f
  generalize hAe : (fun q : Nat => q ∈ L) = A at hD ⊢
  have hx := B.exec
  have hb := B.bytes
  have hr := B.returns
  have hlocks := B.notSynchronized
  have hts0 := atoms_spec (ws := Cond.code yX5_closeDay cX5_closeDay 2 none :: lw_B) B.pre
  have hts : ∀ w ∈ lw_B, w.before _ s = true := fun w h => hts0 w (List.mem_cons_of_mem _ h)
  have hown : s.vm.findClass RX5 = some m.cls := findClass_of_methodNamed B.named
  have hS : va_S A s.heap s.heap [] := va_S.rf
  have hl := lv_entry ([.ref h0]) (n := 2) (Nat.le_of_ble_eq_true rfl)
  rw [lg_entry_eq]
  generalize (lg_sl ([.ref h0]) ++ List.replicate (2 - (lg_sl ([.ref h0])).length) Slot.unset).toArray = ls at hl ⊢
  have hl : lv_has ls 2 [(0, .ref h0)] := hl
  refine lv_iconst (v := 0) hx hb dX5_closeDay_0 (by decide) ?_
  refine lv_istore_n (lv' := [(1, .int 0), (0, .ref h0)]) hx hb dX5_closeDay_1 rfl hl (by decide) rfl (fun ls hl => ?_)
  refine k_lx (pcx := 29) (fun n H locs ls => ∃ (fva : Nat → va_E) (j : Nat), nc - j = n ∧ cI K np nc ns lk lc tp cp gp G J mk st ap kd sn L fva ∧ (j ≤ nc) ∧ va_P (dC, dI) vwCl (va_pl L fva) H ∧ va_S A s.heap H locs ∧ lv_has ls 2 [(0, .ref h0), (1, .int (nI j))]) (fun H locs ls => ∃ (fva : Nat → va_E) (j : Nat), cI K np nc ns lk lc tp cp gp G J mk st ap kd sn L fva ∧ (j ≤ nc) ∧ va_P (dC, dI) vwCl (va_pl L fva) H ∧ va_S A s.heap H locs ∧ lv_has ls 2 [(0, .ref h0), (1, .int (nI j))]) (fun H locs ls hI_ => ?_) (fun n H locs ls hI_ hEa iha => ?_) _ _ _ _ ⟨f, 0, rfl, hI, Nat.zero_le _, hP, hS, lv_sub hl [1, 0] rfl⟩
  · skip
    obtain ⟨fva, j, hI, hj, hP, hS, hl⟩ := hI_
    have hD : va_D A (va_pl L fva) := g_D hLn (fun a h => by rw [← hAe]; exact h) fva
    exact W.vret hx hb hr (fun t ht hW => ⟨⟨fva, rfl, hI, by show va_P (dC, dI) vwCl (va_pl L fva) t.heap; rw [ht]; exact hP⟩, hS.F ht⟩) hS.2.2 dX5_closeDay_29
  · skip
    obtain ⟨fva, j, hmua, hI, hj, hP, hS, hl⟩ := hI_
    have hD : va_D A (va_pl L fva) := g_D hLn (fun a h => by rw [← hAe]; exact h) fva
    refine lv_iload_n hx hb dX5_closeDay_2 rfl (lv_at hl 1 rfl) ?_
    refine lv_aload_n hx hb dX5_closeDay_3 rfl (lv_at hl 0 rfl) ?_
    obtain ⟨fs1, hF1, hv1⟩ := hI.gG hm_h0 hk_h0 8 (ci := 5) ⟨rfl, rfl, by decide, rfl⟩
    rw [hg8] at hv1
    refine g_get (ci := 5) (v := .int (nI nc)) (C := RX5) (T := TX5) (N := 17) hx hb hts uB5 hown hK hP hm_h0 hF1 rfl 8 (by decide) wm_73 hv1 dX5_closeDay_4 ?_
    refine lv_icmp_ge (tgt := 29) hx hb dX5_closeDay_7 (by decide) (fun c_2 => ?_) (fun c_2 => ?_)
    · skip
      have nc_2 : nc ≤ j := (bn_le (a := nc) (b := j) (by omega) (by omega)).mp (show nI nc ≤ nI j from c_2)
      exact hEa _ _ _ ⟨fva, j, hI, hj, hP, hS, lv_sub hl [0, 1] rfl⟩
    · skip
      have nc_2 : ¬ (nc ≤ j) := fun q => c_2 (show nI nc ≤ nI j from (bn_le (a := nc) (b := j) (by omega) (by omega)).mpr q)
      refine lv_aload_n hx hb dX5_closeDay_10 rfl (lv_at hl 0 rfl) ?_
      obtain ⟨fs3, b_4, hF3, hv3, hm_b_4, hk_b_4⟩ := hI.gR hm_h0 hk_h0 1 (ci := 5) (t := 3) ⟨rfl, rfl, by decide, rfl⟩
      refine g_get (ci := 5) (v := .ref b_4) (C := RX5) (T := TX5) (N := 17) hx hb hts uB5 hown hK hP hm_h0 hF3 rfl 1 (by decide) wm_270 hv3 dX5_closeDay_11 ?_
      refine lv_iload_n hx hb dX5_closeDay_14 rfl (lv_at hl 1 rfl) ?_
      obtain ⟨g5, hF5, hgz5⟩ := hI.a3 hm_b_4 hk_b_4
      obtain ⟨b_6, hm_b_6, hk_b_6, hs_b_6, hv5⟩ := hgz5 j (by omega)
      refine g_aldR (t := 4) hx hb hK hP hm_b_4 hF5 rfl (vp_in_nI (by omega) (by decide)) (by rw [nI_clamp (by omega)]; exact hv5) dX5_closeDay_15 ?_
      obtain ⟨fs7, b_8, hF7, hv7, hm_b_8, hk_b_8⟩ := hI.gR hm_b_6 hk_b_6 5 (ci := 0) (t := 19) ⟨rfl, rfl, by decide, rfl⟩
      refine g_get (ci := 0) (v := .ref b_8) (C := RX0) (T := TX0) (N := 16) hx hb hts uB0 hown hK hP hm_b_6 hF7 rfl 5 (by decide) wm_290 hv7 dX5_closeDay_16 ?_
      refine lv_iconst (v := 0) hx hb dX5_closeDay_19 (by decide) ?_
      obtain ⟨fs9, hF9, hn9, -⟩ := hI.o hm_b_8 hk_b_8 rfl (ci := 4) rfl (n := 8) rfl
      refine g_put (ci := 4) (v := .int 0) (ty := .int) (C := RX4) (T := TX4) (N := 8) hx hb hts uB4 tyX4 tyX4_ok nmX4 hown hK hP hD hS hm_b_8 hF9 rfl 2 (by decide) wm_309 rfl (by decide +kernel) rfl rfl (by rw [hn9]; decide) dX5_closeDay_20 (fun H locs hP hD hS => ?_)
      obtain ⟨f_10, ef_10⟩ : ∃ z9, z9 = va_up fva b_8 (.inr (4, List.set fs9 2 (.int 0))) := ⟨_, rfl⟩
      have hI := hI.p hm_b_8 hk_b_8 2 (ci := 4) (t := 1) (v := .int 0) ⟨rfl, rfl, by decide, rfl⟩ hF9 fv1
      rw [← ef_10] at hP hD hI
      refine lv_iinc (v := nI (j + 1)) (lv' := [(1, .int (nI (j + 1))), (0, .ref h0)]) hx hb dX5_closeDay_23 hl (k := 1) rfl (by exact nI_1 _) (by decide) rfl (fun ls hl => ?_)
      refine lv_goto (tgt := 2) hx hb dX5_closeDay_26 (by decide) ?_
      exact iha _ (by omega) _ _ _ ⟨f_10, (j + 1), rfl, hI, by omega, hP, hS, lv_sub hl [1, 0] rfl⟩
set_option maxHeartbeats 4000000 in
set_option maxRecDepth 100000 in
theorem k_X5_setThrottles (l : Launch) (dC : Nat → ClassId) (dI : Nat → Nat → Nat) (K : Nat → ClassId) (L : List Nat) (f : Nat → va_E) {np nc ns lk lc tp cp gp : Nat} {G J mk st : Nat → Int32} {ap : Nat → Int64} {kd sn : Nat → Nat} (hI : cI K np nc ns lk lc tp cp gp G J mk st ap kd sn L f) (h0 : Nat) (hm_h0 : h0 ∈ L) (hk_h0 : kd h0 = 1) (hg8 : G 8 = nI nc) (hnc : nc ≤ 40) (hLn : gN L) : gMv l yX5_setThrottles cX5_setThrottles 2 2 (dC, dI) K L f [.ref h0] (fun f' => cI K np nc ns lk lc tp cp gp G J mk st ap kd sn L f') := by
  refine Met.ofW (cc := cX5_setThrottles) (maxL := 2) (ret := none) (by decide) rfl ?_
  intro p e s m args below meth c s₁ B hml hv
  obtain ⟨rfl, hP, hK⟩ := hv
  have hD : va_D (fun q : Nat => q ∈ L) (va_pl L f) := g_D hLn (fun a h => h) f
  generalize hAe : (fun q : Nat => q ∈ L) = A at hD ⊢
  have hx := B.exec
  have hb := B.bytes
  have hr := B.returns
  have hlocks := B.notSynchronized
  have hts0 := atoms_spec (ws := Cond.code yX5_setThrottles cX5_setThrottles 2 none :: lw_B) B.pre
  have hts : ∀ w ∈ lw_B, w.before _ s = true := fun w h => hts0 w (List.mem_cons_of_mem _ h)
  have hown : s.vm.findClass RX5 = some m.cls := findClass_of_methodNamed B.named
  have hS : va_S A s.heap s.heap [] := va_S.rf
  have hl := lv_entry ([.ref h0]) (n := 2) (Nat.le_of_ble_eq_true rfl)
  rw [lg_entry_eq]
  generalize (lg_sl ([.ref h0]) ++ List.replicate (2 - (lg_sl ([.ref h0])).length) Slot.unset).toArray = ls at hl ⊢
  have hl : lv_has ls 2 [(0, .ref h0)] := hl
  refine lv_iconst (v := 0) hx hb dX5_setThrottles_0 (by decide) ?_
  refine lv_istore_n (lv' := [(1, .int 0), (0, .ref h0)]) hx hb dX5_setThrottles_1 rfl hl (by decide) rfl (fun ls hl => ?_)
  refine k_lx (pcx := 44) (fun n H locs ls => ∃ (fva : Nat → va_E) (j : Nat), nc - j = n ∧ cI K np nc ns lk lc tp cp gp G J mk st ap kd sn L fva ∧ (j ≤ nc) ∧ va_P (dC, dI) vwCl (va_pl L fva) H ∧ va_S A s.heap H locs ∧ lv_has ls 2 [(0, .ref h0), (1, .int (nI j))]) (fun H locs ls => ∃ (fva : Nat → va_E) (j : Nat), cI K np nc ns lk lc tp cp gp G J mk st ap kd sn L fva ∧ (j ≤ nc) ∧ va_P (dC, dI) vwCl (va_pl L fva) H ∧ va_S A s.heap H locs ∧ lv_has ls 2 [(0, .ref h0), (1, .int (nI j))]) (fun H locs ls hI_ => ?_) (fun n H locs ls hI_ hEa iha => ?_) _ _ _ _ ⟨f, 0, rfl, hI, Nat.zero_le _, hP, hS, lv_sub hl [1, 0] rfl⟩
  · skip
    obtain ⟨fva, j, hI, hj, hP, hS, hl⟩ := hI_
    have hD : va_D A (va_pl L fva) := g_D hLn (fun a h => by rw [← hAe]; exact h) fva
    exact W.vret hx hb hr (fun t ht hW => ⟨⟨fva, rfl, hI, by show va_P (dC, dI) vwCl (va_pl L fva) t.heap; rw [ht]; exact hP⟩, hS.F ht⟩) hS.2.2 dX5_setThrottles_44
  · skip
    obtain ⟨fva, j, hmua, hI, hj, hP, hS, hl⟩ := hI_
    have hD : va_D A (va_pl L fva) := g_D hLn (fun a h => by rw [← hAe]; exact h) fva
    refine lv_iload_n hx hb dX5_setThrottles_2 rfl (lv_at hl 1 rfl) ?_
    refine lv_aload_n hx hb dX5_setThrottles_3 rfl (lv_at hl 0 rfl) ?_
    obtain ⟨fs1, hF1, hv1⟩ := hI.gG hm_h0 hk_h0 8 (ci := 5) ⟨rfl, rfl, by decide, rfl⟩
    rw [hg8] at hv1
    refine g_get (ci := 5) (v := .int (nI nc)) (C := RX5) (T := TX5) (N := 17) hx hb hts uB5 hown hK hP hm_h0 hF1 rfl 8 (by decide) wm_73 hv1 dX5_setThrottles_4 ?_
    refine lv_icmp_ge (tgt := 44) hx hb dX5_setThrottles_7 (by decide) (fun c_2 => ?_) (fun c_2 => ?_)
    · skip
      have nc_2 : nc ≤ j := (bn_le (a := nc) (b := j) (by omega) (by omega)).mp (show nI nc ≤ nI j from c_2)
      exact hEa _ _ _ ⟨fva, j, hI, hj, hP, hS, lv_sub hl [0, 1] rfl⟩
    · skip
      have nc_2 : ¬ (nc ≤ j) := fun q => c_2 (show nI nc ≤ nI j from (bn_le (a := nc) (b := j) (by omega) (by omega)).mpr q)
      refine lv_aload_n hx hb dX5_setThrottles_10 rfl (lv_at hl 0 rfl) ?_
      obtain ⟨fs3, b_4, hF3, hv3, hm_b_4, hk_b_4⟩ := hI.gR hm_h0 hk_h0 1 (ci := 5) (t := 3) ⟨rfl, rfl, by decide, rfl⟩
      refine g_get (ci := 5) (v := .ref b_4) (C := RX5) (T := TX5) (N := 17) hx hb hts uB5 hown hK hP hm_h0 hF3 rfl 1 (by decide) wm_270 hv3 dX5_setThrottles_11 ?_
      refine lv_iload_n hx hb dX5_setThrottles_14 rfl (lv_at hl 1 rfl) ?_
      obtain ⟨g5, hF5, hgz5⟩ := hI.a3 hm_b_4 hk_b_4
      obtain ⟨b_6, hm_b_6, hk_b_6, hs_b_6, hv5⟩ := hgz5 j (by omega)
      refine g_aldR (t := 4) hx hb hK hP hm_b_4 hF5 rfl (vp_in_nI (by omega) (by decide)) (by rw [nI_clamp (by omega)]; exact hv5) dX5_setThrottles_15 ?_
      obtain ⟨fs7, x_7, hF7, hv7⟩ := hI.gI hm_b_6 hk_b_6 0 (ci := 0) ⟨rfl, rfl, by decide, rfl⟩
      refine g_get (ci := 0) (v := .int x_7) (C := RX0) (T := TX0) (N := 16) hx hb hts uB0 hown hK hP hm_b_6 hF7 rfl 0 (by decide) wm_275 hv7 dX5_setThrottles_16 ?_
      refine lv_if_ne (tgt := 38) hx hb dX5_setThrottles_19 (by decide) (fun c_8 => ?_) (fun c_8 => ?_)
      · skip
        refine lv_iinc (v := nI (j + 1)) (lv' := [(1, .int (nI (j + 1))), (0, .ref h0)]) hx hb dX5_setThrottles_38 hl (k := 1) rfl (by exact nI_1 _) (by decide) rfl (fun ls hl => ?_)
        refine lv_goto (tgt := 2) hx hb dX5_setThrottles_41 (by decide) ?_
        exact iha _ (by omega) _ _ _ ⟨fva, (j + 1), rfl, hI, by omega, hP, hS, lv_sub hl [1, 0] rfl⟩
      · skip
        refine lv_aload_n hx hb dX5_setThrottles_22 rfl (lv_at hl 0 rfl) ?_
        obtain ⟨fs9, b_10, hF9, hv9, hm_b_10, hk_b_10⟩ := hI.gR hm_h0 hk_h0 1 (ci := 5) (t := 3) ⟨rfl, rfl, by decide, rfl⟩
        refine g_get (ci := 5) (v := .ref b_10) (C := RX5) (T := TX5) (N := 17) hx hb hts uB5 hown hK hP hm_h0 hF9 rfl 1 (by decide) wm_270 hv9 dX5_setThrottles_23 ?_
        refine lv_iload_n hx hb dX5_setThrottles_26 rfl (lv_at hl 1 rfl) ?_
        obtain ⟨g11, hF11, hgz11⟩ := hI.a3 hm_b_10 hk_b_10
        obtain ⟨b_12, hm_b_12, hk_b_12, hs_b_12, hv11⟩ := hgz11 j (by omega)
        refine g_aldR (t := 4) hx hb hK hP hm_b_10 hF11 rfl (vp_in_nI (by omega) (by decide)) (by rw [nI_clamp (by omega)]; exact hv11) dX5_setThrottles_27 ?_
        refine lv_aload_n hx hb dX5_setThrottles_28 rfl (lv_at hl 0 rfl) ?_
        obtain ⟨fs13, hF13, hv13⟩ := hI.gG hm_h0 hk_h0 12 (ci := 5) ⟨rfl, rfl, by decide, rfl⟩
        refine g_get (ci := 5) (v := .int (G 12)) (C := RX5) (T := TX5) (N := 17) hx hb hts uB5 hown hK hP hm_h0 hF13 rfl 12 (by decide) wm_265 hv13 dX5_setThrottles_29 ?_
        refine lv_bipush (v := 100) hx hb dX5_setThrottles_32 (by decide) ?_
        refine lv_irem hx hb dX5_setThrottles_34 (by decide) ?_
        refine lv_topi (fun x_14 ex_14 => ?_)
        obtain ⟨fs15, hF15, -, -⟩ := hI.o hm_b_12 hk_b_12 rfl (ci := 0) rfl rfl
        refine gc_Mv (ci := 0) ⟨hx, hb, hml, hown, hts⟩ (k_X0_setThrottle l dC dI K L fva hI b_12 hm_b_12 hk_b_12 x_14 hLn) 1 wm_328 wm_329 wm_330 wm_205 wm_331 (by decide +kernel) ⟨Nat.le_of_ble_eq_true rfl, Nat.le_of_ble_eq_true rfl⟩ hK rfl hm_b_12 hF15 rfl hl.1 rfl (Nat.le_of_ble_eq_true rfl) dX5_setThrottles_35 ⟨Nat.le_of_ble_eq_true rfl, Nat.le_of_ble_eq_true rfl⟩ (fun a h => by rw [← hAe]; exact h) hS hP (fun fw_16 H locs hpw hP hS => ?_)
        have hI := hpw
        have hD : va_D A (va_pl L fw_16) := g_D hLn (fun a h => by rw [← hAe]; exact h) fw_16
        refine lv_iinc (v := nI (j + 1)) (lv' := [(1, .int (nI (j + 1))), (0, .ref h0)]) hx hb dX5_setThrottles_38 hl (k := 1) rfl (by exact nI_1 _) (by decide) rfl (fun ls hl => ?_)
        refine lv_goto (tgt := 2) hx hb dX5_setThrottles_41 (by decide) ?_
        exact iha _ (by omega) _ _ _ ⟨fw_16, (j + 1), rfl, hI, by omega, hP, hS, lv_sub hl [1, 0] rfl⟩
set_option maxHeartbeats 4000000 in
set_option maxRecDepth 100000 in
theorem k_X5_freeLateSales (l : Launch) (dC : Nat → ClassId) (dI : Nat → Nat → Nat) (K : Nat → ClassId) (L : List Nat) (f : Nat → va_E) {np nc ns lk lc tp cp gp : Nat} {G J mk st : Nat → Int32} {ap : Nat → Int64} {kd sn : Nat → Nat} (hI : cI K np nc ns lk lc tp cp gp G J mk st ap kd sn L f) (h0 : Nat) (hm_h0 : h0 ∈ L) (hk_h0 : kd h0 = 1) (hg9 : G 9 = nI ns) (hnc : nc ≤ 40) (hns : ns ≤ 1000) (hLn : gN L) : gMv l yX5_freeLateSales cX5_freeLateSales 3 2 (dC, dI) K L f [.ref h0] (fun f' => ∃ (G2 : Nat → Int32), cI K np nc ns lk lc tp cp gp G2 J mk st ap kd sn L f' ∧ (gS [16] G G2)) := by
  refine Met.ofW (cc := cX5_freeLateSales) (maxL := 3) (ret := none) (by decide) rfl ?_
  intro p e s m args below meth c s₁ B hml hv
  obtain ⟨rfl, hP, hK⟩ := hv
  have hD : va_D (fun q : Nat => q ∈ L) (va_pl L f) := g_D hLn (fun a h => h) f
  generalize hAe : (fun q : Nat => q ∈ L) = A at hD ⊢
  have hx := B.exec
  have hb := B.bytes
  have hr := B.returns
  have hlocks := B.notSynchronized
  have hts0 := atoms_spec (ws := Cond.code yX5_freeLateSales cX5_freeLateSales 3 none :: lw_B) B.pre
  have hts : ∀ w ∈ lw_B, w.before _ s = true := fun w h => hts0 w (List.mem_cons_of_mem _ h)
  have hown : s.vm.findClass RX5 = some m.cls := findClass_of_methodNamed B.named
  have hS : va_S A s.heap s.heap [] := va_S.rf
  have hGS : gS [16] G G := gS.rf
  have hl := lv_entry ([.ref h0]) (n := 3) (Nat.le_of_ble_eq_true rfl)
  rw [lg_entry_eq]
  generalize (lg_sl ([.ref h0]) ++ List.replicate (3 - (lg_sl ([.ref h0])).length) Slot.unset).toArray = ls at hl ⊢
  have hl : lv_has ls 3 [(0, .ref h0)] := hl
  refine lv_aload_n hx hb dX5_freeLateSales_0 rfl (lv_at hl 0 rfl) ?_
  refine lv_sipush (v := 10000) hx hb dX5_freeLateSales_1 (by decide) ?_
  obtain ⟨fs1, hF1, hn1, -⟩ := hI.o hm_h0 hk_h0 rfl (ci := 5) rfl (n := 17) rfl
  refine g_put (ci := 5) (v := .int 10000) (ty := .int) (C := RX5) (T := TX5) (N := 17) hx hb hts uB5 tyX5 tyX5_ok nmX5 hown hK hP hD hS hm_h0 hF1 rfl 16 (by decide) wm_321 rfl (by decide +kernel) rfl rfl (by rw [hn1]; decide) dX5_freeLateSales_4 (fun H locs hP hD hS => ?_)
  obtain ⟨f_2, ef_2⟩ : ∃ z9, z9 = va_up f h0 (.inr (5, List.set fs1 16 (.int 10000))) := ⟨_, rfl⟩
  have hI := hI.pG hm_h0 hk_h0 16 (by decide) hF1 10000
  rw [← ef_2] at hP hD hI
  obtain ⟨G_3, eG_3⟩ : ∃ z9, z9 = va_up G 16 10000 := ⟨_, rfl⟩
  rw [← eG_3] at hI
  have hg9 : G_3 9 = nI ns := by rw [eG_3, va_up_ne _ _ (by decide)]; exact hg9
  have hg16 : G_3 16 = 10000 := by rw [eG_3, va_up_self]
  have hGS : gS [16] G G_3 := by rw [eG_3]; exact hGS.up (by decide) _
  refine lv_iconst (v := 0) hx hb dX5_freeLateSales_7 (by decide) ?_
  refine lv_istore_n (lv' := [(1, .int 0), (0, .ref h0)]) hx hb dX5_freeLateSales_8 rfl hl (by decide) rfl (fun ls hl => ?_)
  have hGSa := hGS
  refine k_lx (pcx := 80) (fun n H locs ls => ∃ (fva : Nat → va_E) (Gva : Nat → Int32) (j : Nat), ns - j = n ∧ cI K np nc ns lk lc tp cp gp Gva J mk st ap kd sn L fva ∧ gS [16] G_3 Gva ∧ (j ≤ ns) ∧ va_P (dC, dI) vwCl (va_pl L fva) H ∧ va_S A s.heap H locs ∧ lv_has ls 3 [(0, .ref h0), (1, .int (nI j))]) (fun H locs ls => ∃ (fva : Nat → va_E) (Gva : Nat → Int32) (j : Nat), cI K np nc ns lk lc tp cp gp Gva J mk st ap kd sn L fva ∧ gS [16] G_3 Gva ∧ (j ≤ ns) ∧ va_P (dC, dI) vwCl (va_pl L fva) H ∧ va_S A s.heap H locs ∧ lv_has ls 3 [(0, .ref h0), (1, .int (nI j))]) (fun H locs ls hI_ => ?_) (fun n H locs ls hI_ hEa iha => ?_) _ _ _ _ ⟨f_2, G_3, 0, rfl, hI, gS.rf, Nat.zero_le _, hP, hS, lv_sub hl [1, 0] rfl⟩
  · skip
    obtain ⟨fva, Gva, j, hI, hGSL, hj, hP, hS, hl⟩ := hI_
    have hD : va_D A (va_pl L fva) := g_D hLn (fun a h => by rw [← hAe]; exact h) fva
    have hg9 := (hGSL 9 (by decide)).trans hg9
    have hGS : gS [16] G Gva := hGSa.tr hGSL (by decide) (by decide)
    exact W.vret hx hb hr (fun t ht hW => ⟨⟨fva, rfl, ⟨Gva, hI, hGS⟩, by show va_P (dC, dI) vwCl (va_pl L fva) t.heap; rw [ht]; exact hP⟩, hS.F ht⟩) hS.2.2 dX5_freeLateSales_80
  · skip
    obtain ⟨fva, Gva, j, hmua, hI, hGSL, hj, hP, hS, hl⟩ := hI_
    have hD : va_D A (va_pl L fva) := g_D hLn (fun a h => by rw [← hAe]; exact h) fva
    have hg9 := (hGSL 9 (by decide)).trans hg9
    have hGS := hGSL
    refine lv_iload_n hx hb dX5_freeLateSales_9 rfl (lv_at hl 1 rfl) ?_
    refine lv_aload_n hx hb dX5_freeLateSales_10 rfl (lv_at hl 0 rfl) ?_
    obtain ⟨fs4, hF4, hv4⟩ := hI.gG hm_h0 hk_h0 9 (ci := 5) ⟨rfl, rfl, by decide, rfl⟩
    rw [hg9] at hv4
    refine g_get (ci := 5) (v := .int (nI ns)) (C := RX5) (T := TX5) (N := 17) hx hb hts uB5 hown hK hP hm_h0 hF4 rfl 9 (by decide) wm_74 hv4 dX5_freeLateSales_11 ?_
    refine lv_icmp_ge (tgt := 80) hx hb dX5_freeLateSales_14 (by decide) (fun c_5 => ?_) (fun c_5 => ?_)
    · skip
      have nc_5 : ns ≤ j := (bn_le (a := ns) (b := j) (by omega) (by omega)).mp (show nI ns ≤ nI j from c_5)
      exact hEa _ _ _ ⟨fva, Gva, j, hI, hGS, hj, hP, hS, lv_sub hl [0, 1] rfl⟩
    · skip
      have nc_5 : ¬ (ns ≤ j) := fun q => c_5 (show nI ns ≤ nI j from (bn_le (a := ns) (b := j) (by omega) (by omega)).mpr q)
      refine lv_aload_n hx hb dX5_freeLateSales_17 rfl (lv_at hl 0 rfl) ?_
      obtain ⟨fs6, b_7, hF6, hv6, hm_b_7, hk_b_7⟩ := hI.gR hm_h0 hk_h0 2 (ci := 5) (t := 4) ⟨rfl, rfl, by decide, rfl⟩
      refine g_get (ci := 5) (v := .ref b_7) (C := RX5) (T := TX5) (N := 17) hx hb hts uB5 hown hK hP hm_h0 hF6 rfl 2 (by decide) wm_332 hv6 dX5_freeLateSales_18 ?_
      refine lv_iload_n hx hb dX5_freeLateSales_21 rfl (lv_at hl 1 rfl) ?_
      obtain ⟨g8, hF8, hgz8⟩ := hI.a4 hm_b_7 hk_b_7
      obtain ⟨b_9, hm_b_9, hk_b_9, hv8⟩ := hgz8 j (by omega)
      refine g_aldR (t := 5) hx hb hK hP hm_b_7 hF8 rfl (vp_in_nI (by omega) (by decide)) (by rw [nI_clamp (by omega)]; exact hv8) dX5_freeLateSales_22 ?_
      refine lv_astore_n (lv' := [(2, .ref b_9), (0, .ref h0), (1, .int (nI j))]) hx hb dX5_freeLateSales_23 rfl hl (by decide) rfl (fun ls hl => ?_)
      refine lv_aload_n hx hb dX5_freeLateSales_24 rfl (lv_at hl 0 rfl) ?_
      obtain ⟨fs10, x_10, hF10, hv10⟩ := hI.gI hm_b_9 hk_b_9 6 (ci := 3) ⟨rfl, rfl, by decide, rfl⟩
      refine g_get (ci := 3) (v := .int x_10) (C := RX3) (T := TX3) (N := 12) hx hb hts uB3 hown hK hP hm_b_9 hF10 rfl 6 (by decide) wm_315 hv10 dX5_freeLateSales_25 ?_
      refine lv_iconst (v := 1) hx hb dX5_freeLateSales_28 (by decide) ?_
      refine lv_icmp_eq (tgt := 35) hx hb dX5_freeLateSales_29 (by decide) (fun c_11 => ?_) (fun c_11 => ?_)
      · skip
        refine lv_aload_n hx hb dX5_freeLateSales_35 rfl (lv_at hl 1 rfl) ?_
        obtain ⟨fs12, hF12, hv12⟩ := hI.gG hm_h0 hk_h0 12 (ci := 5) ⟨rfl, rfl, by decide, rfl⟩
        refine g_get (ci := 5) (v := .int (Gva 12)) (C := RX5) (T := TX5) (N := 17) hx hb hts uB5 hown hK hP hm_h0 hF12 rfl 12 (by decide) wm_265 hv12 dX5_freeLateSales_36 ?_
        refine lv_aload_n hx hb dX5_freeLateSales_39 rfl (lv_at hl 0 rfl) ?_
        obtain ⟨fs13, x_13, hF13, hv13⟩ := hI.gI hm_b_9 hk_b_9 7 (ci := 3) ⟨rfl, rfl, by decide, rfl⟩
        refine g_get (ci := 3) (v := .int x_13) (C := RX3) (T := TX3) (N := 12) hx hb hts uB3 hown hK hP hm_b_9 hF13 rfl 7 (by decide) wm_322 hv13 dX5_freeLateSales_40 ?_
        refine lv_icmp_le (tgt := 59) hx hb dX5_freeLateSales_43 (by decide) (fun c_14 => ?_) (fun c_14 => ?_)
        · skip
          refine lv_aload_n hx hb dX5_freeLateSales_59 rfl (lv_at hl 1 rfl) ?_
          refine lv_aload_n hx hb dX5_freeLateSales_60 rfl (lv_at hl 1 rfl) ?_
          obtain ⟨fs15, hF15, hv15⟩ := hI.gG hm_h0 hk_h0 16 (ci := 5) ⟨rfl, rfl, by decide, rfl⟩
          refine g_get (ci := 5) (v := .int (Gva 16)) (C := RX5) (T := TX5) (N := 17) hx hb hts uB5 hown hK hP hm_h0 hF15 rfl 16 (by decide) wm_321 hv15 dX5_freeLateSales_61 ?_
          refine lv_aload_n hx hb dX5_freeLateSales_64 rfl (lv_at hl 0 rfl) ?_
          obtain ⟨fs16, x_16, hF16, hv16⟩ := hI.gI hm_b_9 hk_b_9 7 (ci := 3) ⟨rfl, rfl, by decide, rfl⟩
          refine g_get (ci := 3) (v := .int x_16) (C := RX3) (T := TX3) (N := 12) hx hb hts uB3 hown hK hP hm_b_9 hF16 rfl 7 (by decide) wm_322 hv16 dX5_freeLateSales_65 ?_
          refine va_mmin hx hb (by rw [hml]; exact hl.1.symm) hown (hts _ wm_323) (hts _ wm_220) (hts _ wm_221) (hts _ wm_222) (Nat.le_of_ble_eq_true rfl) (Nat.le_of_ble_eq_true rfl) (Nat.le_of_ble_eq_true rfl) (Nat.le_of_ble_eq_true rfl) dX5_freeLateSales_68 ?_
          refine lv_topi (fun x_17 ex_17 => ?_)
          obtain ⟨fs18, hF18, hn18, -⟩ := hI.o hm_h0 hk_h0 rfl (ci := 5) rfl (n := 17) rfl
          refine g_put (ci := 5) (v := .int x_17) (ty := .int) (C := RX5) (T := TX5) (N := 17) hx hb hts uB5 tyX5 tyX5_ok nmX5 hown hK hP hD hS hm_h0 hF18 rfl 16 (by decide) wm_321 rfl (by decide +kernel) rfl rfl (by rw [hn18]; decide) dX5_freeLateSales_71 (fun H locs hP hD hS => ?_)
          obtain ⟨f_19, ef_19⟩ : ∃ z9, z9 = va_up fva h0 (.inr (5, List.set fs18 16 (.int x_17))) := ⟨_, rfl⟩
          have hI := hI.pG hm_h0 hk_h0 16 (by decide) hF18 x_17
          rw [← ef_19] at hP hD hI
          obtain ⟨G_20, eG_20⟩ : ∃ z9, z9 = va_up Gva 16 x_17 := ⟨_, rfl⟩
          rw [← eG_20] at hI
          have hg9 : G_20 9 = nI ns := by rw [eG_20, va_up_ne _ _ (by decide)]; exact hg9
          have hGS : gS [16] G_3 G_20 := by rw [eG_20]; exact hGS.up (by decide) _
          refine lv_iinc (v := nI (j + 1)) (lv' := [(1, .int (nI (j + 1))), (2, .ref b_9), (0, .ref h0)]) hx hb dX5_freeLateSales_74 hl (k := 2) rfl (by exact nI_1 _) (by decide) rfl (fun ls hl => ?_)
          refine lv_goto (tgt := 9) hx hb dX5_freeLateSales_77 (by decide) ?_
          exact iha _ (by omega) _ _ _ ⟨f_19, G_20, (j + 1), rfl, hI, hGS, by omega, hP, hS, lv_sub hl [2, 0] rfl⟩
        · skip
          refine lv_aload_n hx hb dX5_freeLateSales_46 rfl (lv_at hl 1 rfl) ?_
          refine lv_aload_n hx hb dX5_freeLateSales_47 rfl (lv_at hl 0 rfl) ?_
          obtain ⟨fs21, hF21, -, -⟩ := hI.o hm_h0 hk_h0 rfl (ci := 5) rfl rfl
          refine gc_Mv (ci := 5) ⟨hx, hb, hml, hown, hts⟩ (k_X5_freeHeld l dC dI K L fva hI h0 hm_h0 hk_h0 b_9 hm_b_9 hk_b_9 hnc hLn) 1 wm_333 wm_334 wm_335 wm_67 wm_336 (by decide +kernel) ⟨Nat.le_of_ble_eq_true rfl, Nat.le_of_ble_eq_true rfl⟩ hK rfl hm_h0 hF21 rfl hl.1 rfl (Nat.le_of_ble_eq_true rfl) dX5_freeLateSales_48 ⟨Nat.le_of_ble_eq_true rfl, Nat.le_of_ble_eq_true rfl⟩ (fun a h => by rw [← hAe]; exact h) hS hP (fun fw_22 H locs hpw hP hS => ?_)
          have hI := hpw
          have hD : va_D A (va_pl L fw_22) := g_D hLn (fun a h => by rw [← hAe]; exact h) fw_22
          refine lv_aload_n hx hb dX5_freeLateSales_51 rfl (lv_at hl 0 rfl) ?_
          refine lv_iconst (v := 0) hx hb dX5_freeLateSales_52 (by decide) ?_
          obtain ⟨fs23, hF23, hn23, -⟩ := hI.o hm_b_9 hk_b_9 rfl (ci := 3) rfl (n := 12) rfl
          refine g_put (ci := 3) (v := .int 0) (ty := .int) (C := RX3) (T := TX3) (N := 12) hx hb hts uB3 tyX3 tyX3_ok nmX3 hown hK hP hD hS hm_b_9 hF23 rfl 6 (by decide) wm_315 rfl (by decide +kernel) rfl rfl (by rw [hn23]; decide) dX5_freeLateSales_53 (fun H locs hP hD hS => ?_)
          obtain ⟨f_24, ef_24⟩ : ∃ z9, z9 = va_up fw_22 b_9 (.inr (3, List.set fs23 6 (.int 0))) := ⟨_, rfl⟩
          have hI := hI.p hm_b_9 hk_b_9 6 (ci := 3) (t := 1) (v := .int 0) ⟨rfl, rfl, by decide, rfl⟩ hF23 fv1
          rw [← ef_24] at hP hD hI
          refine lv_goto (tgt := 74) hx hb dX5_freeLateSales_56 (by decide) ?_
          refine lv_iinc (v := nI (j + 1)) (lv' := [(1, .int (nI (j + 1))), (2, .ref b_9), (0, .ref h0)]) hx hb dX5_freeLateSales_74 hl (k := 2) rfl (by exact nI_1 _) (by decide) rfl (fun ls hl => ?_)
          refine lv_goto (tgt := 9) hx hb dX5_freeLateSales_77 (by decide) ?_
          exact iha _ (by omega) _ _ _ ⟨f_24, Gva, (j + 1), rfl, hI, hGS, by omega, hP, hS, lv_sub hl [2, 0] rfl⟩
      · skip
        refine lv_goto (tgt := 74) hx hb dX5_freeLateSales_32 (by decide) ?_
        refine lv_iinc (v := nI (j + 1)) (lv' := [(1, .int (nI (j + 1))), (2, .ref b_9), (0, .ref h0)]) hx hb dX5_freeLateSales_74 hl (k := 2) rfl (by exact nI_1 _) (by decide) rfl (fun ls hl => ?_)
        refine lv_goto (tgt := 9) hx hb dX5_freeLateSales_77 (by decide) ?_
        exact iha _ (by omega) _ _ _ ⟨fva, Gva, (j + 1), rfl, hI, hGS, by omega, hP, hS, lv_sub hl [2, 0] rfl⟩
set_option maxHeartbeats 4000000 in
set_option maxRecDepth 100000 in
theorem k_X5_goOneTick (l : Launch) (dC : Nat → ClassId) (dI : Nat → Nat → Nat) (K : Nat → ClassId) (L : List Nat) (f : Nat → va_E) {np nc ns lk lc tp cp gp : Nat} {G J mk st : Nat → Int32} {ap : Nat → Int64} {kd sn : Nat → Nat} {tk : Nat} (hI : cI K np nc ns lk lc tp cp gp G J mk st ap kd sn L f) (h0 : Nat) (hm_h0 : h0 ∈ L) (hk_h0 : kd h0 = 1) (hg8 : G 8 = nI nc) (hg9 : G 9 = nI ns) (hg12 : G 12 = nI tk) (hnc : nc ≤ 40) (hns : ns ≤ 1000) (hLn : gN L) : gMv l yX5_goOneTick cX5_goOneTick 1 3 (dC, dI) K L f [.ref h0] (fun f' => ∃ (G2 : Nat → Int32), cI K np nc ns lk lc tp cp gp G2 J mk st ap kd sn L f' ∧ (gS [12, 16] G G2) ∧ (G2 12 = nI (tk + 1))) := by
  refine Met.ofW (cc := cX5_goOneTick) (maxL := 1) (ret := none) (by decide) rfl ?_
  intro p e s m args below meth c s₁ B hml hv
  obtain ⟨rfl, hP, hK⟩ := hv
  have hD : va_D (fun q : Nat => q ∈ L) (va_pl L f) := g_D hLn (fun a h => h) f
  generalize hAe : (fun q : Nat => q ∈ L) = A at hD ⊢
  have hx := B.exec
  have hb := B.bytes
  have hr := B.returns
  have hlocks := B.notSynchronized
  have hts0 := atoms_spec (ws := Cond.code yX5_goOneTick cX5_goOneTick 1 none :: lw_B) B.pre
  have hts : ∀ w ∈ lw_B, w.before _ s = true := fun w h => hts0 w (List.mem_cons_of_mem _ h)
  have hown : s.vm.findClass RX5 = some m.cls := findClass_of_methodNamed B.named
  have hS : va_S A s.heap s.heap [] := va_S.rf
  have hGS : gS [12, 16] G G := gS.rf
  have hl := lv_entry ([.ref h0]) (n := 1) (Nat.le_of_ble_eq_true rfl)
  rw [lg_entry_eq]
  generalize (lg_sl ([.ref h0]) ++ List.replicate (1 - (lg_sl ([.ref h0])).length) Slot.unset).toArray = ls at hl ⊢
  have hl : lv_has ls 1 [(0, .ref h0)] := hl
  refine lv_aload_n hx hb dX5_goOneTick_0 rfl (lv_at hl 0 rfl) ?_
  refine lv_dup hx hb dX5_goOneTick_1 rfl ?_
  obtain ⟨fs1, hF1, hv1⟩ := hI.gG hm_h0 hk_h0 12 (ci := 5) ⟨rfl, rfl, by decide, rfl⟩
  rw [hg12] at hv1
  refine g_get (ci := 5) (v := .int (nI tk)) (C := RX5) (T := TX5) (N := 17) hx hb hts uB5 hown hK hP hm_h0 hF1 rfl 12 (by decide) wm_265 hv1 dX5_goOneTick_2 ?_
  refine lv_iconst (v := 1) hx hb dX5_goOneTick_5 (by decide) ?_
  refine lv_iadd hx hb dX5_goOneTick_6 ?_
  refine lv_topi (fun x_2 ex_2 => ?_)
  obtain rfl : x_2 = nI (tk + 1) := ex_2.trans (nI_add tk 1)
  obtain ⟨fs3, hF3, hn3, -⟩ := hI.o hm_h0 hk_h0 rfl (ci := 5) rfl (n := 17) rfl
  refine g_put (ci := 5) (v := .int (nI (tk + 1))) (ty := .int) (C := RX5) (T := TX5) (N := 17) hx hb hts uB5 tyX5 tyX5_ok nmX5 hown hK hP hD hS hm_h0 hF3 rfl 12 (by decide) wm_265 rfl (by decide +kernel) rfl rfl (by rw [hn3]; decide) dX5_goOneTick_7 (fun H locs hP hD hS => ?_)
  obtain ⟨f_4, ef_4⟩ : ∃ z9, z9 = va_up f h0 (.inr (5, List.set fs3 12 (.int (nI (tk + 1))))) := ⟨_, rfl⟩
  have hI := hI.pG hm_h0 hk_h0 12 (by decide) hF3 (nI (tk + 1))
  rw [← ef_4] at hP hD hI
  obtain ⟨G_5, eG_5⟩ : ∃ z9, z9 = va_up G 12 (nI (tk + 1)) := ⟨_, rfl⟩
  rw [← eG_5] at hI
  have hg8 : G_5 8 = nI nc := by rw [eG_5, va_up_ne _ _ (by decide)]; exact hg8
  have hg9 : G_5 9 = nI ns := by rw [eG_5, va_up_ne _ _ (by decide)]; exact hg9
  have hg12 : G_5 12 = nI (tk + 1) := by rw [eG_5, va_up_self]
  have hGS : gS [12, 16] G G_5 := by rw [eG_5]; exact hGS.up (by decide) _
  refine lv_aload_n hx hb dX5_goOneTick_10 rfl (lv_at hl 0 rfl) ?_
  obtain ⟨fs6, hF6, hv6⟩ := hI.gG hm_h0 hk_h0 12 (ci := 5) ⟨rfl, rfl, by decide, rfl⟩
  rw [hg12] at hv6
  refine g_get (ci := 5) (v := .int (nI (tk + 1))) (C := RX5) (T := TX5) (N := 17) hx hb hts uB5 hown hK hP hm_h0 hF6 rfl 12 (by decide) wm_265 hv6 dX5_goOneTick_11 ?_
  refine lv_bipush (v := 100) hx hb dX5_goOneTick_14 (by decide) ?_
  refine lv_irem hx hb dX5_goOneTick_16 (by decide) ?_
  refine lv_topi (fun x_7 ex_7 => ?_)
  refine lv_if_ne (tgt := 24) hx hb dX5_goOneTick_17 (by decide) (fun c_8 => ?_) (fun c_8 => ?_)
  · skip
    refine lv_aload_n hx hb dX5_goOneTick_24 rfl (lv_at hl 0 rfl) ?_
    obtain ⟨fs9, hF9, hv9⟩ := hI.gG hm_h0 hk_h0 12 (ci := 5) ⟨rfl, rfl, by decide, rfl⟩
    rw [hg12] at hv9
    refine g_get (ci := 5) (v := .int (nI (tk + 1))) (C := RX5) (T := TX5) (N := 17) hx hb hts uB5 hown hK hP hm_h0 hF9 rfl 12 (by decide) wm_265 hv9 dX5_goOneTick_25 ?_
    refine lv_aload_n hx hb dX5_goOneTick_28 rfl (lv_at hl 0 rfl) ?_
    obtain ⟨fs10, hF10, hv10⟩ := hI.gG hm_h0 hk_h0 16 (ci := 5) ⟨rfl, rfl, by decide, rfl⟩
    refine g_get (ci := 5) (v := .int (G_5 16)) (C := RX5) (T := TX5) (N := 17) hx hb hts uB5 hown hK hP hm_h0 hF10 rfl 16 (by decide) wm_321 hv10 dX5_goOneTick_29 ?_
    refine lv_icmp_le (tgt := 39) hx hb dX5_goOneTick_32 (by decide) (fun c_11 => ?_) (fun c_11 => ?_)
    · skip
      refine lv_aload_n hx hb dX5_goOneTick_39 rfl (lv_at hl 0 rfl) ?_
      obtain ⟨fs12, hF12, hv12⟩ := hI.gG hm_h0 hk_h0 14 (ci := 5) ⟨rfl, rfl, by decide, rfl⟩
      refine g_get (ci := 5) (v := .int (G_5 14)) (C := RX5) (T := TX5) (N := 17) hx hb hts uB5 hown hK hP hm_h0 hF12 rfl 14 (by decide) wm_283 hv12 dX5_goOneTick_40 ?_
      refine lv_if_eq (tgt := 62) hx hb dX5_goOneTick_43 (by decide) (fun c_13 => ?_) (fun c_13 => ?_)
      · skip
        exact W.vret hx hb hr (fun t ht hW => ⟨⟨f_4, rfl, ⟨G_5, hI, hGS, hg12⟩, by show va_P (dC, dI) vwCl (va_pl L f_4) t.heap; rw [ht]; exact hP⟩, hS.F ht⟩) hS.2.2 dX5_goOneTick_62
      · skip
        have hpz := c_13
        refine lv_aload_n hx hb dX5_goOneTick_46 rfl (lv_at hl 0 rfl) ?_
        obtain ⟨fs14, hF14, hv14⟩ := hI.gG hm_h0 hk_h0 12 (ci := 5) ⟨rfl, rfl, by decide, rfl⟩
        rw [hg12] at hv14
        refine g_get (ci := 5) (v := .int (nI (tk + 1))) (C := RX5) (T := TX5) (N := 17) hx hb hts uB5 hown hK hP hm_h0 hF14 rfl 12 (by decide) wm_265 hv14 dX5_goOneTick_47 ?_
        refine lv_aload_n hx hb dX5_goOneTick_50 rfl (lv_at hl 0 rfl) ?_
        obtain ⟨fs15, hF15, hv15⟩ := hI.gG hm_h0 hk_h0 14 (ci := 5) ⟨rfl, rfl, by decide, rfl⟩
        refine g_get (ci := 5) (v := .int (G_5 14)) (C := RX5) (T := TX5) (N := 17) hx hb hts uB5 hown hK hP hm_h0 hF15 rfl 14 (by decide) wm_283 hv15 dX5_goOneTick_51 ?_
        refine lv_irem hx hb dX5_goOneTick_54 hpz ?_
        refine lv_topi (fun x_16 ex_16 => ?_)
        refine lv_if_ne (tgt := 62) hx hb dX5_goOneTick_55 (by decide) (fun c_17 => ?_) (fun c_17 => ?_)
        · skip
          exact W.vret hx hb hr (fun t ht hW => ⟨⟨f_4, rfl, ⟨G_5, hI, hGS, hg12⟩, by show va_P (dC, dI) vwCl (va_pl L f_4) t.heap; rw [ht]; exact hP⟩, hS.F ht⟩) hS.2.2 dX5_goOneTick_62
        · skip
          refine lv_aload_n hx hb dX5_goOneTick_58 rfl (lv_at hl 0 rfl) ?_
          obtain ⟨fs18, hF18, -, -⟩ := hI.o hm_h0 hk_h0 rfl (ci := 5) rfl rfl
          refine gc_Mv (ci := 5) ⟨hx, hb, hml, hown, hts⟩ (k_X5_setThrottles l dC dI K L f_4 hI h0 hm_h0 hk_h0 hg8 hnc hLn) 0 wm_337 wm_338 wm_339 wm_67 wm_340 (by decide +kernel) ⟨Nat.le_of_ble_eq_true rfl, Nat.le_of_ble_eq_true rfl⟩ hK rfl hm_h0 hF18 rfl hl.1 rfl (Nat.le_of_ble_eq_true rfl) dX5_goOneTick_59 ⟨Nat.le_of_ble_eq_true rfl, Nat.le_of_ble_eq_true rfl⟩ (fun a h => by rw [← hAe]; exact h) hS hP (fun fw_19 H locs hpw hP hS => ?_)
          have hI := hpw
          have hD : va_D A (va_pl L fw_19) := g_D hLn (fun a h => by rw [← hAe]; exact h) fw_19
          exact W.vret hx hb hr (fun t ht hW => ⟨⟨fw_19, rfl, ⟨G_5, hI, hGS, hg12⟩, by show va_P (dC, dI) vwCl (va_pl L fw_19) t.heap; rw [ht]; exact hP⟩, hS.F ht⟩) hS.2.2 dX5_goOneTick_62
    · skip
      refine lv_aload_n hx hb dX5_goOneTick_35 rfl (lv_at hl 0 rfl) ?_
      obtain ⟨fs20, hF20, -, -⟩ := hI.o hm_h0 hk_h0 rfl (ci := 5) rfl rfl
      refine gc_Mv (ci := 5) ⟨hx, hb, hml, hown, hts⟩ (k_X5_freeLateSales l dC dI K L f_4 hI h0 hm_h0 hk_h0 hg9 hnc hns hLn) 0 wm_341 wm_342 wm_343 wm_67 wm_344 (by decide +kernel) ⟨Nat.le_of_ble_eq_true rfl, Nat.le_of_ble_eq_true rfl⟩ hK rfl hm_h0 hF20 rfl hl.1 rfl (Nat.le_of_ble_eq_true rfl) dX5_goOneTick_36 ⟨Nat.le_of_ble_eq_true rfl, Nat.le_of_ble_eq_true rfl⟩ (fun a h => by rw [← hAe]; exact h) hS hP (fun fw_21 H locs hpw hP hS => ?_)
      obtain ⟨G_22, hI, hGSC⟩ := hpw
      have hD : va_D A (va_pl L fw_21) := g_D hLn (fun a h => by rw [← hAe]; exact h) fw_21
      have hg8 := (hGSC 8 (by decide)).trans hg8
      have hg9 := (hGSC 9 (by decide)).trans hg9
      have hg12 := (hGSC 12 (by decide)).trans hg12
      have hGS : gS [12, 16] G G_22 := hGS.tr hGSC (by decide) (by decide)
      refine lv_aload_n hx hb dX5_goOneTick_39 rfl (lv_at hl 0 rfl) ?_
      obtain ⟨fs23, hF23, hv23⟩ := hI.gG hm_h0 hk_h0 14 (ci := 5) ⟨rfl, rfl, by decide, rfl⟩
      refine g_get (ci := 5) (v := .int (G_22 14)) (C := RX5) (T := TX5) (N := 17) hx hb hts uB5 hown hK hP hm_h0 hF23 rfl 14 (by decide) wm_283 hv23 dX5_goOneTick_40 ?_
      refine lv_if_eq (tgt := 62) hx hb dX5_goOneTick_43 (by decide) (fun c_24 => ?_) (fun c_24 => ?_)
      · skip
        exact W.vret hx hb hr (fun t ht hW => ⟨⟨fw_21, rfl, ⟨G_22, hI, hGS, hg12⟩, by show va_P (dC, dI) vwCl (va_pl L fw_21) t.heap; rw [ht]; exact hP⟩, hS.F ht⟩) hS.2.2 dX5_goOneTick_62
      · skip
        have hpz := c_24
        refine lv_aload_n hx hb dX5_goOneTick_46 rfl (lv_at hl 0 rfl) ?_
        obtain ⟨fs25, hF25, hv25⟩ := hI.gG hm_h0 hk_h0 12 (ci := 5) ⟨rfl, rfl, by decide, rfl⟩
        rw [hg12] at hv25
        refine g_get (ci := 5) (v := .int (nI (tk + 1))) (C := RX5) (T := TX5) (N := 17) hx hb hts uB5 hown hK hP hm_h0 hF25 rfl 12 (by decide) wm_265 hv25 dX5_goOneTick_47 ?_
        refine lv_aload_n hx hb dX5_goOneTick_50 rfl (lv_at hl 0 rfl) ?_
        obtain ⟨fs26, hF26, hv26⟩ := hI.gG hm_h0 hk_h0 14 (ci := 5) ⟨rfl, rfl, by decide, rfl⟩
        refine g_get (ci := 5) (v := .int (G_22 14)) (C := RX5) (T := TX5) (N := 17) hx hb hts uB5 hown hK hP hm_h0 hF26 rfl 14 (by decide) wm_283 hv26 dX5_goOneTick_51 ?_
        refine lv_irem hx hb dX5_goOneTick_54 hpz ?_
        refine lv_topi (fun x_27 ex_27 => ?_)
        refine lv_if_ne (tgt := 62) hx hb dX5_goOneTick_55 (by decide) (fun c_28 => ?_) (fun c_28 => ?_)
        · skip
          exact W.vret hx hb hr (fun t ht hW => ⟨⟨fw_21, rfl, ⟨G_22, hI, hGS, hg12⟩, by show va_P (dC, dI) vwCl (va_pl L fw_21) t.heap; rw [ht]; exact hP⟩, hS.F ht⟩) hS.2.2 dX5_goOneTick_62
        · skip
          refine lv_aload_n hx hb dX5_goOneTick_58 rfl (lv_at hl 0 rfl) ?_
          obtain ⟨fs29, hF29, -, -⟩ := hI.o hm_h0 hk_h0 rfl (ci := 5) rfl rfl
          refine gc_Mv (ci := 5) ⟨hx, hb, hml, hown, hts⟩ (k_X5_setThrottles l dC dI K L fw_21 hI h0 hm_h0 hk_h0 hg8 hnc hLn) 0 wm_337 wm_338 wm_339 wm_67 wm_340 (by decide +kernel) ⟨Nat.le_of_ble_eq_true rfl, Nat.le_of_ble_eq_true rfl⟩ hK rfl hm_h0 hF29 rfl hl.1 rfl (Nat.le_of_ble_eq_true rfl) dX5_goOneTick_59 ⟨Nat.le_of_ble_eq_true rfl, Nat.le_of_ble_eq_true rfl⟩ (fun a h => by rw [← hAe]; exact h) hS hP (fun fw_30 H locs hpw hP hS => ?_)
          have hI := hpw
          have hD : va_D A (va_pl L fw_30) := g_D hLn (fun a h => by rw [← hAe]; exact h) fw_30
          exact W.vret hx hb hr (fun t ht hW => ⟨⟨fw_30, rfl, ⟨G_22, hI, hGS, hg12⟩, by show va_P (dC, dI) vwCl (va_pl L fw_30) t.heap; rw [ht]; exact hP⟩, hS.F ht⟩) hS.2.2 dX5_goOneTick_62
  · skip
    refine lv_aload_n hx hb dX5_goOneTick_20 rfl (lv_at hl 0 rfl) ?_
    obtain ⟨fs31, hF31, -, -⟩ := hI.o hm_h0 hk_h0 rfl (ci := 5) rfl rfl
    refine gc_Mv (ci := 5) ⟨hx, hb, hml, hown, hts⟩ (k_X5_closeDay l dC dI K L f_4 hI h0 hm_h0 hk_h0 hg8 hnc hLn) 0 wm_345 wm_346 wm_347 wm_67 wm_348 (by decide +kernel) ⟨Nat.le_of_ble_eq_true rfl, Nat.le_of_ble_eq_true rfl⟩ hK rfl hm_h0 hF31 rfl hl.1 rfl (Nat.le_of_ble_eq_true rfl) dX5_goOneTick_21 ⟨Nat.le_of_ble_eq_true rfl, Nat.le_of_ble_eq_true rfl⟩ (fun a h => by rw [← hAe]; exact h) hS hP (fun fw_32 H locs hpw hP hS => ?_)
    have hI := hpw
    have hD : va_D A (va_pl L fw_32) := g_D hLn (fun a h => by rw [← hAe]; exact h) fw_32
    refine lv_aload_n hx hb dX5_goOneTick_24 rfl (lv_at hl 0 rfl) ?_
    obtain ⟨fs33, hF33, hv33⟩ := hI.gG hm_h0 hk_h0 12 (ci := 5) ⟨rfl, rfl, by decide, rfl⟩
    rw [hg12] at hv33
    refine g_get (ci := 5) (v := .int (nI (tk + 1))) (C := RX5) (T := TX5) (N := 17) hx hb hts uB5 hown hK hP hm_h0 hF33 rfl 12 (by decide) wm_265 hv33 dX5_goOneTick_25 ?_
    refine lv_aload_n hx hb dX5_goOneTick_28 rfl (lv_at hl 0 rfl) ?_
    obtain ⟨fs34, hF34, hv34⟩ := hI.gG hm_h0 hk_h0 16 (ci := 5) ⟨rfl, rfl, by decide, rfl⟩
    refine g_get (ci := 5) (v := .int (G_5 16)) (C := RX5) (T := TX5) (N := 17) hx hb hts uB5 hown hK hP hm_h0 hF34 rfl 16 (by decide) wm_321 hv34 dX5_goOneTick_29 ?_
    refine lv_icmp_le (tgt := 39) hx hb dX5_goOneTick_32 (by decide) (fun c_35 => ?_) (fun c_35 => ?_)
    · skip
      refine lv_aload_n hx hb dX5_goOneTick_39 rfl (lv_at hl 0 rfl) ?_
      obtain ⟨fs36, hF36, hv36⟩ := hI.gG hm_h0 hk_h0 14 (ci := 5) ⟨rfl, rfl, by decide, rfl⟩
      refine g_get (ci := 5) (v := .int (G_5 14)) (C := RX5) (T := TX5) (N := 17) hx hb hts uB5 hown hK hP hm_h0 hF36 rfl 14 (by decide) wm_283 hv36 dX5_goOneTick_40 ?_
      refine lv_if_eq (tgt := 62) hx hb dX5_goOneTick_43 (by decide) (fun c_37 => ?_) (fun c_37 => ?_)
      · skip
        exact W.vret hx hb hr (fun t ht hW => ⟨⟨fw_32, rfl, ⟨G_5, hI, hGS, hg12⟩, by show va_P (dC, dI) vwCl (va_pl L fw_32) t.heap; rw [ht]; exact hP⟩, hS.F ht⟩) hS.2.2 dX5_goOneTick_62
      · skip
        have hpz := c_37
        refine lv_aload_n hx hb dX5_goOneTick_46 rfl (lv_at hl 0 rfl) ?_
        obtain ⟨fs38, hF38, hv38⟩ := hI.gG hm_h0 hk_h0 12 (ci := 5) ⟨rfl, rfl, by decide, rfl⟩
        rw [hg12] at hv38
        refine g_get (ci := 5) (v := .int (nI (tk + 1))) (C := RX5) (T := TX5) (N := 17) hx hb hts uB5 hown hK hP hm_h0 hF38 rfl 12 (by decide) wm_265 hv38 dX5_goOneTick_47 ?_
        refine lv_aload_n hx hb dX5_goOneTick_50 rfl (lv_at hl 0 rfl) ?_
        obtain ⟨fs39, hF39, hv39⟩ := hI.gG hm_h0 hk_h0 14 (ci := 5) ⟨rfl, rfl, by decide, rfl⟩
        refine g_get (ci := 5) (v := .int (G_5 14)) (C := RX5) (T := TX5) (N := 17) hx hb hts uB5 hown hK hP hm_h0 hF39 rfl 14 (by decide) wm_283 hv39 dX5_goOneTick_51 ?_
        refine lv_irem hx hb dX5_goOneTick_54 hpz ?_
        refine lv_topi (fun x_40 ex_40 => ?_)
        refine lv_if_ne (tgt := 62) hx hb dX5_goOneTick_55 (by decide) (fun c_41 => ?_) (fun c_41 => ?_)
        · skip
          exact W.vret hx hb hr (fun t ht hW => ⟨⟨fw_32, rfl, ⟨G_5, hI, hGS, hg12⟩, by show va_P (dC, dI) vwCl (va_pl L fw_32) t.heap; rw [ht]; exact hP⟩, hS.F ht⟩) hS.2.2 dX5_goOneTick_62
        · skip
          refine lv_aload_n hx hb dX5_goOneTick_58 rfl (lv_at hl 0 rfl) ?_
          obtain ⟨fs42, hF42, -, -⟩ := hI.o hm_h0 hk_h0 rfl (ci := 5) rfl rfl
          refine gc_Mv (ci := 5) ⟨hx, hb, hml, hown, hts⟩ (k_X5_setThrottles l dC dI K L fw_32 hI h0 hm_h0 hk_h0 hg8 hnc hLn) 0 wm_337 wm_338 wm_339 wm_67 wm_340 (by decide +kernel) ⟨Nat.le_of_ble_eq_true rfl, Nat.le_of_ble_eq_true rfl⟩ hK rfl hm_h0 hF42 rfl hl.1 rfl (Nat.le_of_ble_eq_true rfl) dX5_goOneTick_59 ⟨Nat.le_of_ble_eq_true rfl, Nat.le_of_ble_eq_true rfl⟩ (fun a h => by rw [← hAe]; exact h) hS hP (fun fw_43 H locs hpw hP hS => ?_)
          have hI := hpw
          have hD : va_D A (va_pl L fw_43) := g_D hLn (fun a h => by rw [← hAe]; exact h) fw_43
          exact W.vret hx hb hr (fun t ht hW => ⟨⟨fw_43, rfl, ⟨G_5, hI, hGS, hg12⟩, by show va_P (dC, dI) vwCl (va_pl L fw_43) t.heap; rw [ht]; exact hP⟩, hS.F ht⟩) hS.2.2 dX5_goOneTick_62
    · skip
      refine lv_aload_n hx hb dX5_goOneTick_35 rfl (lv_at hl 0 rfl) ?_
      obtain ⟨fs44, hF44, -, -⟩ := hI.o hm_h0 hk_h0 rfl (ci := 5) rfl rfl
      refine gc_Mv (ci := 5) ⟨hx, hb, hml, hown, hts⟩ (k_X5_freeLateSales l dC dI K L fw_32 hI h0 hm_h0 hk_h0 hg9 hnc hns hLn) 0 wm_341 wm_342 wm_343 wm_67 wm_344 (by decide +kernel) ⟨Nat.le_of_ble_eq_true rfl, Nat.le_of_ble_eq_true rfl⟩ hK rfl hm_h0 hF44 rfl hl.1 rfl (Nat.le_of_ble_eq_true rfl) dX5_goOneTick_36 ⟨Nat.le_of_ble_eq_true rfl, Nat.le_of_ble_eq_true rfl⟩ (fun a h => by rw [← hAe]; exact h) hS hP (fun fw_45 H locs hpw hP hS => ?_)
      obtain ⟨G_46, hI, hGSC⟩ := hpw
      have hD : va_D A (va_pl L fw_45) := g_D hLn (fun a h => by rw [← hAe]; exact h) fw_45
      have hg8 := (hGSC 8 (by decide)).trans hg8
      have hg9 := (hGSC 9 (by decide)).trans hg9
      have hg12 := (hGSC 12 (by decide)).trans hg12
      have hGS : gS [12, 16] G G_46 := hGS.tr hGSC (by decide) (by decide)
      refine lv_aload_n hx hb dX5_goOneTick_39 rfl (lv_at hl 0 rfl) ?_
      obtain ⟨fs47, hF47, hv47⟩ := hI.gG hm_h0 hk_h0 14 (ci := 5) ⟨rfl, rfl, by decide, rfl⟩
      refine g_get (ci := 5) (v := .int (G_46 14)) (C := RX5) (T := TX5) (N := 17) hx hb hts uB5 hown hK hP hm_h0 hF47 rfl 14 (by decide) wm_283 hv47 dX5_goOneTick_40 ?_
      refine lv_if_eq (tgt := 62) hx hb dX5_goOneTick_43 (by decide) (fun c_48 => ?_) (fun c_48 => ?_)
      · skip
        exact W.vret hx hb hr (fun t ht hW => ⟨⟨fw_45, rfl, ⟨G_46, hI, hGS, hg12⟩, by show va_P (dC, dI) vwCl (va_pl L fw_45) t.heap; rw [ht]; exact hP⟩, hS.F ht⟩) hS.2.2 dX5_goOneTick_62
      · skip
        have hpz := c_48
        refine lv_aload_n hx hb dX5_goOneTick_46 rfl (lv_at hl 0 rfl) ?_
        obtain ⟨fs49, hF49, hv49⟩ := hI.gG hm_h0 hk_h0 12 (ci := 5) ⟨rfl, rfl, by decide, rfl⟩
        rw [hg12] at hv49
        refine g_get (ci := 5) (v := .int (nI (tk + 1))) (C := RX5) (T := TX5) (N := 17) hx hb hts uB5 hown hK hP hm_h0 hF49 rfl 12 (by decide) wm_265 hv49 dX5_goOneTick_47 ?_
        refine lv_aload_n hx hb dX5_goOneTick_50 rfl (lv_at hl 0 rfl) ?_
        obtain ⟨fs50, hF50, hv50⟩ := hI.gG hm_h0 hk_h0 14 (ci := 5) ⟨rfl, rfl, by decide, rfl⟩
        refine g_get (ci := 5) (v := .int (G_46 14)) (C := RX5) (T := TX5) (N := 17) hx hb hts uB5 hown hK hP hm_h0 hF50 rfl 14 (by decide) wm_283 hv50 dX5_goOneTick_51 ?_
        refine lv_irem hx hb dX5_goOneTick_54 hpz ?_
        refine lv_topi (fun x_51 ex_51 => ?_)
        refine lv_if_ne (tgt := 62) hx hb dX5_goOneTick_55 (by decide) (fun c_52 => ?_) (fun c_52 => ?_)
        · skip
          exact W.vret hx hb hr (fun t ht hW => ⟨⟨fw_45, rfl, ⟨G_46, hI, hGS, hg12⟩, by show va_P (dC, dI) vwCl (va_pl L fw_45) t.heap; rw [ht]; exact hP⟩, hS.F ht⟩) hS.2.2 dX5_goOneTick_62
        · skip
          refine lv_aload_n hx hb dX5_goOneTick_58 rfl (lv_at hl 0 rfl) ?_
          obtain ⟨fs53, hF53, -, -⟩ := hI.o hm_h0 hk_h0 rfl (ci := 5) rfl rfl
          refine gc_Mv (ci := 5) ⟨hx, hb, hml, hown, hts⟩ (k_X5_setThrottles l dC dI K L fw_45 hI h0 hm_h0 hk_h0 hg8 hnc hLn) 0 wm_337 wm_338 wm_339 wm_67 wm_340 (by decide +kernel) ⟨Nat.le_of_ble_eq_true rfl, Nat.le_of_ble_eq_true rfl⟩ hK rfl hm_h0 hF53 rfl hl.1 rfl (Nat.le_of_ble_eq_true rfl) dX5_goOneTick_59 ⟨Nat.le_of_ble_eq_true rfl, Nat.le_of_ble_eq_true rfl⟩ (fun a h => by rw [← hAe]; exact h) hS hP (fun fw_54 H locs hpw hP hS => ?_)
          have hI := hpw
          have hD : va_D A (va_pl L fw_54) := g_D hLn (fun a h => by rw [← hAe]; exact h) fw_54
          exact W.vret hx hb hr (fun t ht hW => ⟨⟨fw_54, rfl, ⟨G_46, hI, hGS, hg12⟩, by show va_P (dC, dI) vwCl (va_pl L fw_54) t.heap; rw [ht]; exact hP⟩, hS.F ht⟩) hS.2.2 dX5_goOneTick_62
set_option maxHeartbeats 4000000 in
set_option maxRecDepth 100000 in
theorem k_X5_tick (l : Launch) (dC : Nat → ClassId) (dI : Nat → Nat → Nat) (K : Nat → ClassId) (L : List Nat) (f : Nat → va_E) {np nc ns lk lc tp cp gp : Nat} {G J mk st : Nat → Int32} {ap : Nat → Int64} {kd sn : Nat → Nat} {tk : Nat} (hI : cI K np nc ns lk lc tp cp gp G J mk st ap kd sn L f) (h0 : Nat) (hm_h0 : h0 ∈ L) (hk_h0 : kd h0 = 1) (x : Int32) (hg7 : G 7 = nI np) (hg8 : G 8 = nI nc) (hg9 : G 9 = nI ns) (hg12 : G 12 = nI tk) (hnp : np ≤ 8) (hnc : nc ≤ 40) (hns : ns ≤ 1000) (htk : tk ≤ 10000) (hLn : gN L) : gMi l yX5_tick cX5_tick 3 4 (dC, dI) K L f [.ref h0, .int x] (fun r f' => ∃ (G2 : Nat → Int32), cI K np nc ns lk lc tp cp gp G2 J mk st ap kd sn L f' ∧ (gS [12, 16] G G2) ∧ ((¬ ((1 ≤ x ∧ x ≤ 100) ∧ nI tk + x ≤ 10000) ∧ r = (-1) ∧ G2 12 = nI tk) ∨ (((1 ≤ x ∧ x ≤ 100) ∧ nI tk + x ≤ 10000) ∧ ∃ N : Nat, N ≤ 100 ∧ x = nI N ∧ tk + N ≤ 10000 ∧ r = nI (tk + N) ∧ G2 12 = nI (tk + N)))) := by
  refine Met.ofW (cc := cX5_tick) (maxL := 3) (ret := (some .int)) (by decide) rfl ?_
  intro p e s m args below meth c s₁ B hml hv
  obtain ⟨rfl, hP, hK⟩ := hv
  have hD : va_D (fun q : Nat => q ∈ L) (va_pl L f) := g_D hLn (fun a h => h) f
  generalize hAe : (fun q : Nat => q ∈ L) = A at hD ⊢
  have hx := B.exec
  have hb := B.bytes
  have hr := B.returns
  have hlocks := B.notSynchronized
  have hts0 := atoms_spec (ws := Cond.code yX5_tick cX5_tick 3 (some .int) :: lw_B) B.pre
  have hts : ∀ w ∈ lw_B, w.before _ s = true := fun w h => hts0 w (List.mem_cons_of_mem _ h)
  have hown : s.vm.findClass RX5 = some m.cls := findClass_of_methodNamed B.named
  have hS : va_S A s.heap s.heap [] := va_S.rf
  have hGS : gS [12, 16] G G := gS.rf
  have hl := lv_entry ([.ref h0, .int x]) (n := 3) (Nat.le_of_ble_eq_true rfl)
  rw [lg_entry_eq]
  generalize (lg_sl ([.ref h0, .int x]) ++ List.replicate (3 - (lg_sl ([.ref h0, .int x])).length) Slot.unset).toArray = ls at hl ⊢
  have hl : lv_has ls 3 [(0, .ref h0), (1, .int x)] := hl
  refine lv_iload_n hx hb dX5_tick_0 rfl (lv_at hl 1 rfl) ?_
  refine lv_iconst (v := 1) hx hb dX5_tick_1 (by decide) ?_
  refine lv_bipush (v := 100) hx hb dX5_tick_2 (by decide) ?_
  refine k_S ⟨hx, hb, hml, hown, hts⟩ (c_isWithin l x 1 100) 3 wm_65 wm_66 wm_67 wm_68 (by decide +kernel) ⟨Nat.le_of_ble_eq_true rfl, Nat.le_of_ble_eq_true rfl⟩ rfl hl.1 rfl (Nat.le_of_ble_eq_true rfl) dX5_tick_4 ⟨Nat.le_of_ble_eq_true rfl, Nat.le_of_ble_eq_true rfl⟩ hS hP (fun r_1 H locs hpr_1 hP hS => ?_)
  refine lv_if_eq (tgt := 22) hx hb dX5_tick_7 (by decide) (fun c_2 => ?_) (fun c_2 => ?_)
  · skip
    have g_2 := k_ff hpr_1 c_2
    refine lv_iconst (v := (-1)) hx hb dX5_tick_22 (by decide) ?_
    exact W.iret (v := (-1)) hx hb hr (fun t ht hW => ⟨⟨(-1), f, rfl, ⟨G, hI, hGS, (Or.inl ⟨by simp only [Int32.lt_iff_toInt_lt, Int32.le_iff_toInt_le, ← Int32.toInt_inj, Int32.reduceToInt] at g_2 ⊢; omega, rfl, hg12⟩)⟩, by show va_P (dC, dI) vwCl (va_pl L f) t.heap; rw [ht]; exact hP⟩, hS.F ht⟩) hS.2.2 dX5_tick_23
  · skip
    have g_2 := k_ft hpr_1 c_2
    obtain ⟨N, hN1, hN, rfl⟩ := k_r100 g_2
    refine lv_aload_n hx hb dX5_tick_10 rfl (lv_at hl 0 rfl) ?_
    obtain ⟨fs3, hF3, hv3⟩ := hI.gG hm_h0 hk_h0 12 (ci := 5) ⟨rfl, rfl, by decide, rfl⟩
    rw [hg12] at hv3
    refine g_get (ci := 5) (v := .int (nI tk)) (C := RX5) (T := TX5) (N := 17) hx hb hts uB5 hown hK hP hm_h0 hF3 rfl 12 (by decide) wm_265 hv3 dX5_tick_11 ?_
    refine lv_sipush (v := 10000) hx hb dX5_tick_14 (by decide) ?_
    refine lv_iload_n hx hb dX5_tick_17 rfl (lv_at hl 1 rfl) ?_
    refine lv_isub hx hb dX5_tick_18 ?_
    refine lv_topi (fun x_4 ex_4 => ?_)
    obtain rfl : x_4 = nI (10000 - N) := ex_4.trans (pk_sub (a := 10000) (b := N) (by omega))
    refine lv_icmp_le (tgt := 24) hx hb dX5_tick_19 (by decide) (fun c_5 => ?_) (fun c_5 => ?_)
    · skip
      have nc_5 : tk ≤ (10000 - N) := (bn_le (a := tk) (b := (10000 - N)) (by omega) (by omega)).mp (show nI tk ≤ nI (10000 - N) from c_5)
      refine lv_aload_n hx hb dX5_tick_24 rfl (lv_at hl 0 rfl) ?_
      obtain ⟨fs6, hF6, -, -⟩ := hI.o hm_h0 hk_h0 rfl (ci := 5) rfl rfl
      refine gc_Mv (ci := 5) ⟨hx, hb, hml, hown, hts⟩ (k_X5_closeTick l dC dI K L f hI h0 hm_h0 hk_h0 hg7 hg8 hnp hnc hLn) 0 wm_349 wm_350 wm_351 wm_67 wm_352 (by decide +kernel) ⟨Nat.le_of_ble_eq_true rfl, Nat.le_of_ble_eq_true rfl⟩ hK rfl hm_h0 hF6 rfl hl.1 rfl (Nat.le_of_ble_eq_true rfl) dX5_tick_25 ⟨Nat.le_of_ble_eq_true rfl, Nat.le_of_ble_eq_true rfl⟩ (fun a h => by rw [← hAe]; exact h) hS hP (fun fw_7 H locs hpw hP hS => ?_)
      have hI := hpw
      have hD : va_D A (va_pl L fw_7) := g_D hLn (fun a h => by rw [← hAe]; exact h) fw_7
      refine lv_iconst (v := 0) hx hb dX5_tick_28 (by decide) ?_
      refine lv_istore_n (lv' := [(2, .int 0), (0, .ref h0), (1, .int (nI N))]) hx hb dX5_tick_29 rfl hl (by decide) rfl (fun ls hl => ?_)
      have hGSa := hGS
      refine k_lx (pcx := 45) (fun n H locs ls => ∃ (fva : Nat → va_E) (Gva : Nat → Int32) (j : Nat), N - j = n ∧ cI K np nc ns lk lc tp cp gp Gva J mk st ap kd sn L fva ∧ gS [12, 16] G Gva ∧ (j ≤ N) ∧ (Gva 12 = nI (tk + j)) ∧ va_P (dC, dI) vwCl (va_pl L fva) H ∧ va_S A s.heap H locs ∧ lv_has ls 3 [(0, .ref h0), (1, .int (nI N)), (2, .int (nI j))]) (fun H locs ls => ∃ (fva : Nat → va_E) (Gva : Nat → Int32) (j : Nat), cI K np nc ns lk lc tp cp gp Gva J mk st ap kd sn L fva ∧ gS [12, 16] G Gva ∧ (j = N) ∧ (Gva 12 = nI (tk + j)) ∧ va_P (dC, dI) vwCl (va_pl L fva) H ∧ va_S A s.heap H locs ∧ lv_has ls 3 [(0, .ref h0), (1, .int (nI N)), (2, .int (nI j))]) (fun H locs ls hI_ => ?_) (fun n H locs ls hI_ hEa iha => ?_) _ _ _ _ ⟨fw_7, G, 0, rfl, hI, gS.rf, Nat.zero_le _, hg12, hP, hS, lv_sub hl [1, 2, 0] rfl⟩
      · skip
        obtain ⟨fva, Gva, j, hI, hGSL, hj, hg12, hP, hS, hl⟩ := hI_
        have hD : va_D A (va_pl L fva) := g_D hLn (fun a h => by rw [← hAe]; exact h) fva
        have hg7 := (hGSL 7 (by decide)).trans hg7
        have hg8 := (hGSL 8 (by decide)).trans hg8
        have hg9 := (hGSL 9 (by decide)).trans hg9
        have hGS : gS [12, 16] G Gva := hGSa.tr hGSL (by decide) (by decide)
        refine lv_aload_n hx hb dX5_tick_45 rfl (lv_at hl 0 rfl) ?_
        obtain ⟨fs8, hF8, hv8⟩ := hI.gG hm_h0 hk_h0 12 (ci := 5) ⟨rfl, rfl, by decide, rfl⟩
        rw [hg12] at hv8
        refine g_get (ci := 5) (v := .int (nI (tk + j))) (C := RX5) (T := TX5) (N := 17) hx hb hts uB5 hown hK hP hm_h0 hF8 rfl 12 (by decide) wm_265 hv8 dX5_tick_46 ?_
        exact W.iret (v := nI (tk + j)) hx hb hr (fun t ht hW => ⟨⟨nI (tk + j), fva, rfl, ⟨Gva, hI, hGS, (Or.inr ⟨⟨g_2, (show nI tk + nI N ≤ nI 10000 by rw [nI_add]; exact nI_le (by omega) (by decide))⟩, N, hN, rfl, by omega, by rw [hj], by rw [hj] at hg12; exact hg12⟩)⟩, by show va_P (dC, dI) vwCl (va_pl L fva) t.heap; rw [ht]; exact hP⟩, hS.F ht⟩) hS.2.2 dX5_tick_49
      · skip
        obtain ⟨fva, Gva, j, hmua, hI, hGSL, hj, hg12, hP, hS, hl⟩ := hI_
        have hD : va_D A (va_pl L fva) := g_D hLn (fun a h => by rw [← hAe]; exact h) fva
        have hg7 := (hGSL 7 (by decide)).trans hg7
        have hg8 := (hGSL 8 (by decide)).trans hg8
        have hg9 := (hGSL 9 (by decide)).trans hg9
        have hGS := hGSL
        refine lv_iload_n hx hb dX5_tick_30 rfl (lv_at hl 2 rfl) ?_
        refine lv_iload_n hx hb dX5_tick_31 rfl (lv_at hl 1 rfl) ?_
        refine lv_icmp_ge (tgt := 45) hx hb dX5_tick_32 (by decide) (fun c_9 => ?_) (fun c_9 => ?_)
        · skip
          have nc_9 : N ≤ j := (bn_le (a := N) (b := j) (by omega) (by omega)).mp (show nI N ≤ nI j from c_9)
          exact hEa _ _ _ ⟨fva, Gva, j, hI, hGS, by omega, hg12, hP, hS, lv_sub hl [0, 1, 2] rfl⟩
        · skip
          have nc_9 : ¬ (N ≤ j) := fun q => c_9 (show nI N ≤ nI j from (bn_le (a := N) (b := j) (by omega) (by omega)).mpr q)
          refine lv_aload_n hx hb dX5_tick_35 rfl (lv_at hl 0 rfl) ?_
          obtain ⟨fs10, hF10, -, -⟩ := hI.o hm_h0 hk_h0 rfl (ci := 5) rfl rfl
          refine gc_Mv (ci := 5) ⟨hx, hb, hml, hown, hts⟩ (k_X5_goOneTick l dC dI K L fva hI h0 hm_h0 hk_h0 hg8 hg9 hg12 hnc hns hLn) 0 wm_353 wm_354 wm_355 wm_67 wm_356 (by decide +kernel) ⟨Nat.le_of_ble_eq_true rfl, Nat.le_of_ble_eq_true rfl⟩ hK rfl hm_h0 hF10 rfl hl.1 rfl (Nat.le_of_ble_eq_true rfl) dX5_tick_36 ⟨Nat.le_of_ble_eq_true rfl, Nat.le_of_ble_eq_true rfl⟩ (fun a h => by rw [← hAe]; exact h) hS hP (fun fw_11 H locs hpw hP hS => ?_)
          obtain ⟨G_12, hI, hGSC, hg12⟩ := hpw
          have hD : va_D A (va_pl L fw_11) := g_D hLn (fun a h => by rw [← hAe]; exact h) fw_11
          have hg7 := (hGSC 7 (by decide)).trans hg7
          have hg8 := (hGSC 8 (by decide)).trans hg8
          have hg9 := (hGSC 9 (by decide)).trans hg9
          have hGS : gS [12, 16] G G_12 := hGS.tr hGSC (by decide) (by decide)
          refine lv_iinc (v := nI (j + 1)) (lv' := [(2, .int (nI (j + 1))), (0, .ref h0), (1, .int (nI N))]) hx hb dX5_tick_39 hl (k := 2) rfl (by exact nI_1 _) (by decide) rfl (fun ls hl => ?_)
          refine lv_goto (tgt := 30) hx hb dX5_tick_42 (by decide) ?_
          exact iha _ (by omega) _ _ _ ⟨fw_11, G_12, (j + 1), rfl, hI, hGS, by omega, hg12, hP, hS, lv_sub hl [1, 2, 0] rfl⟩
    · skip
      have nc_5 : ¬ (tk ≤ (10000 - N)) := fun q => c_5 (show nI tk ≤ nI (10000 - N) from (bn_le (a := tk) (b := (10000 - N)) (by omega) (by omega)).mpr q)
      refine lv_iconst (v := (-1)) hx hb dX5_tick_22 (by decide) ?_
      exact W.iret (v := (-1)) hx hb hr (fun t ht hW => ⟨⟨(-1), f, rfl, ⟨G, hI, hGS, (Or.inl ⟨fun q => by have q2 : nI tk + nI N ≤ nI 10000 := q.2; rw [nI_add] at q2; have := (nI_leI (by omega) (by decide)).mp q2; omega, rfl, hg12⟩)⟩, by show va_P (dC, dI) vwCl (va_pl L f) t.heap; rw [ht]; exact hP⟩, hS.F ht⟩) hS.2.2 dX5_tick_23
