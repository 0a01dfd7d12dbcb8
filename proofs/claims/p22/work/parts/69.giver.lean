theorem ordSt {nc ni qv : Nat} {g g2 : Nat → Int32} (hg : ∀ i, i < 40 → ∃ q : Nat, q < 40 ∧ (q < nc ∨ q = 0) ∧ g i = nI q) (hq : qv < 40) (hv : qv < nc ∨ qv = 0) (e : g2 = upd g ni (nI qv)) : ∀ i, i < 40 → ∃ q : Nat, q < 40 ∧ (q < nc ∨ q = 0) ∧ g2 i = nI q := fun i hi => by
  by_cases q : i = ni
  · rw [q, e, pk_us]; exact ⟨qv, hq, hv, rfl⟩
  · rw [e, pk_un q]; exact hg i hi
theorem vldSt {nc ni n n2 : Nat} {x : Int32} {g g2 : Nat → Int32} (hg : ∀ i, i < n → vld nc (g i)) (hv : vld nc x) (e : g2 = upd g ni x) (h2 : ∀ i, i < n2 → i = ni ∨ i < n) : ∀ i, i < n2 → vld nc (g2 i) := fun i hi => by
  by_cases q : i = ni
  · rw [q, e, pk_us]; exact hv
  · rw [e, pk_un q]; exact hg i ((h2 i hi).resolve_left q)
set_option maxHeartbeats 4000000 in
set_option maxRecDepth 100000 in
theorem k_X1_startFor (l : Launch) (dC : Nat → ClassId) (dI : Nat → Nat → Nat) (K : Nat → ClassId) (L : List Nat) (f : Nat → va_E) {np nc ns lk lc tp cp gp : Nat} {G J mk st : Nat → Int32} {ap : Nat → Int64} {kd sn : Nat → Nat} (hI : cI K np nc ns lk lc tp cp gp G J mk st ap kd sn L f) (h0 : Nat) (hm_h0 : h0 ∈ L) (hk_h0 : kd h0 = 6) (k : Nat) (hk4 : k ≤ 4) (hLn : gN L) : gMv l yX1_startFor cX1_startFor 2 1 (dC, dI) K L f [.ref h0, .int (nI k)] (fun f' => ∃ (J2 : Nat → Int32), cI K np nc ns lk lc tp cp gp G J2 mk st ap kd sn L f' ∧ (J2 5 = nI k) ∧ (J2 6 = nI 0)) := by
  refine Met.ofW (cc := cX1_startFor) (maxL := 2) (ret := none) (by decide) rfl ?_
  intro p e s m args below meth c s₁ B hml hv
  obtain ⟨rfl, hP, hK⟩ := hv
  have hD : va_D (fun q : Nat => q ∈ L) (va_pl L f) := g_D hLn (fun a h => h) f
  generalize hAe : (fun q : Nat => q ∈ L) = A at hD ⊢
  have hx := B.exec
  have hb := B.bytes
  have hr := B.returns
  have hlocks := B.notSynchronized
  have hts0 := atoms_spec (ws := Cond.code yX1_startFor cX1_startFor 2 none :: lw_B) B.pre
  have hts : ∀ w ∈ lw_B, w.before _ s = true := fun w h => hts0 w (List.mem_cons_of_mem _ h)
  have hown : s.vm.findClass RX1 = some m.cls := findClass_of_methodNamed B.named
  have hS : va_S A s.heap s.heap [] := va_S.rf
  have hl := lv_entry ([.ref h0, .int (nI k)]) (n := 2) (Nat.le_of_ble_eq_true rfl)
  rw [lg_entry_eq]
  generalize (lg_sl ([.ref h0, .int (nI k)]) ++ List.replicate (2 - (lg_sl ([.ref h0, .int (nI k)])).length) Slot.unset).toArray = ls at hl ⊢
  have hl : lv_has ls 2 [(0, .ref h0), (1, .int (nI k))] := hl
  refine lv_aload_n hx hb dX1_startFor_0 rfl (lv_at hl 0 rfl) ?_
  refine lv_iload_n hx hb dX1_startFor_1 rfl (lv_at hl 1 rfl) ?_
  refine lv_iconst (v := 4) hx hb dX1_startFor_2 (by decide) ?_
  refine va_mmin hx hb (by rw [hml]; exact hl.1.symm) hown (hts _ wm_226) (hts _ wm_220) (hts _ wm_221) (hts _ wm_222) (Nat.le_of_ble_eq_true rfl) (Nat.le_of_ble_eq_true rfl) (Nat.le_of_ble_eq_true rfl) (Nat.le_of_ble_eq_true rfl) dX1_startFor_3 ?_
  refine lv_topi (fun x_1 ex_1 => ?_)
  obtain rfl : x_1 = nI k := ex_1.trans (if_neg (show ¬ nI 4 < nI k from fun q => absurd ((nI_ltI (by decide) (by omega)).mp q) (by omega)))
  obtain ⟨fs2, hF2, hn2, -⟩ := hI.o hm_h0 hk_h0 rfl (ci := 1) rfl (n := 9) rfl
  refine g_put (ci := 1) (v := .int (nI k)) (ty := .int) (C := RX1) (T := TX1) (N := 9) hx hb hts uB1 tyX1 tyX1_ok nmX1 hown hK hP hD hS hm_h0 hF2 rfl 5 (by decide) wm_227 rfl (by decide +kernel) rfl rfl (by rw [hn2]; decide) dX1_startFor_6 (fun H locs hP hD hS => ?_)
  obtain ⟨f_3, ef_3⟩ : ∃ z9, z9 = va_up f h0 (.inr (1, List.set fs2 5 (.int (nI k)))) := ⟨_, rfl⟩
  have hI := hI.pJ hm_h0 hk_h0 5 (by decide) hF2 (nI k)
  rw [← ef_3] at hP hD hI
  obtain ⟨J_4, eJ_4⟩ : ∃ z9, z9 = va_up J 5 (nI k) := ⟨_, rfl⟩
  rw [← eJ_4] at hI
  have hj5 : J_4 5 = nI k := by rw [eJ_4, va_up_self]
  refine lv_aload_n hx hb dX1_startFor_9 rfl (lv_at hl 0 rfl) ?_
  refine lv_iconst (v := 0) hx hb dX1_startFor_10 (by decide) ?_
  obtain ⟨fs5, hF5, hn5, -⟩ := hI.o hm_h0 hk_h0 rfl (ci := 1) rfl (n := 9) rfl
  refine g_put (ci := 1) (v := .int 0) (ty := .int) (C := RX1) (T := TX1) (N := 9) hx hb hts uB1 tyX1 tyX1_ok nmX1 hown hK hP hD hS hm_h0 hF5 rfl 6 (by decide) wm_228 rfl (by decide +kernel) rfl rfl (by rw [hn5]; decide) dX1_startFor_11 (fun H locs hP hD hS => ?_)
  obtain ⟨f_6, ef_6⟩ : ∃ z9, z9 = va_up f_3 h0 (.inr (1, List.set fs5 6 (.int 0))) := ⟨_, rfl⟩
  have hI := hI.pJ hm_h0 hk_h0 6 (by decide) hF5 0
  rw [← ef_6] at hP hD hI
  obtain ⟨J_7, eJ_7⟩ : ∃ z9, z9 = va_up J_4 6 0 := ⟨_, rfl⟩
  rw [← eJ_7] at hI
  have hj5 : J_7 5 = nI k := by rw [eJ_7, va_up_ne _ _ (by decide)]; exact hj5
  have hj6 : J_7 6 = 0 := by rw [eJ_7, va_up_self]
  refine lv_aload_n hx hb dX1_startFor_14 rfl (lv_at hl 0 rfl) ?_
  refine lv_lconst (v := 0) hx hb dX1_startFor_15 rfl ?_
  obtain ⟨fs8, hF8, hn8, -⟩ := hI.o hm_h0 hk_h0 rfl (ci := 1) rfl (n := 9) rfl
  refine g_put (ci := 1) (v := .long 0) (ty := .long) (C := RX1) (T := TX1) (N := 9) hx hb hts uB1 tyX1 tyX1_ok nmX1 hown hK hP hD hS hm_h0 hF8 rfl 7 (by decide) wm_229 rfl (by decide +kernel) rfl rfl (by rw [hn8]; decide) dX1_startFor_16 (fun H locs hP hD hS => ?_)
  obtain ⟨f_9, ef_9⟩ : ∃ z9, z9 = va_up f_6 h0 (.inr (1, List.set fs8 7 (.long 0))) := ⟨_, rfl⟩
  have hI := hI.p hm_h0 hk_h0 7 (ci := 1) (t := 2) (v := .long 0) ⟨rfl, rfl, by decide, rfl⟩ hF8 fv2
  rw [← ef_9] at hP hD hI
  exact W.vret hx hb hr (fun t ht hW => ⟨⟨f_9, rfl, ⟨J_7, hI, hj5, hj6⟩, by show va_P (dC, dI) vwCl (va_pl L f_9) t.heap; rw [ht]; exact hP⟩, hS.F ht⟩) hS.2.2 dX1_startFor_19
set_option maxHeartbeats 4000000 in
set_option maxRecDepth 100000 in
theorem k_X1_addCampaign (l : Launch) (dC : Nat → ClassId) (dI : Nat → Nat → Nat) (K : Nat → ClassId) (L : List Nat) (f : Nat → va_E) {np nc ns lk lc tp cp gp : Nat} {G J mk st : Nat → Int32} {ap : Nat → Int64} {kd sn : Nat → Nat} {pk : Nat} {of : Nat} (hI : cI K np nc ns lk lc tp cp gp G J mk st ap kd sn L f) (h0 : Nat) (hm_h0 : h0 ∈ L) (hk_h0 : kd h0 = 6) (cn : Nat) (z : Int64) (hcn : cn < 40) (hj6 : J 6 = nI of) (hj5 : J 5 = nI pk) (hLn : gN L) : gMv l yX1_addCampaign cX1_addCampaign 4 0 (dC, dI) K L f [.ref h0, .int (nI cn), .long z] (fun f' => ∃ (J2 : Nat → Int32), cI K np nc ns lk lc tp cp gp G J2 mk st ap kd sn L f' ∧ (J2 5 = nI pk) ∧ (J2 6 = nI (of + 1))) := by
  refine Met.ofW (cc := cX1_addCampaign) (maxL := 4) (ret := none) (by decide) rfl ?_
  intro p e s m args below meth c s₁ B hml hv
  obtain ⟨rfl, hP, hK⟩ := hv
  have hD : va_D (fun q : Nat => q ∈ L) (va_pl L f) := g_D hLn (fun a h => h) f
  generalize hAe : (fun q : Nat => q ∈ L) = A at hD ⊢
  have hx := B.exec
  have hb := B.bytes
  have hr := B.returns
  have hlocks := B.notSynchronized
  have hts0 := atoms_spec (ws := Cond.code yX1_addCampaign cX1_addCampaign 4 none :: lw_B) B.pre
  have hts : ∀ w ∈ lw_B, w.before _ s = true := fun w h => hts0 w (List.mem_cons_of_mem _ h)
  have hown : s.vm.findClass RX1 = some m.cls := findClass_of_methodNamed B.named
  have hS : va_S A s.heap s.heap [] := va_S.rf
  have hl := lv_entry ([.ref h0, .int (nI cn), .long z]) (n := 4) (Nat.le_of_ble_eq_true rfl)
  rw [lg_entry_eq]
  generalize (lg_sl ([.ref h0, .int (nI cn), .long z]) ++ List.replicate (4 - (lg_sl ([.ref h0, .int (nI cn), .long z])).length) Slot.unset).toArray = ls at hl ⊢
  have hl : lv_has ls 4 [(0, .ref h0), (1, .int (nI cn)), (2, .long z)] := hl
  refine lv_aload_n hx hb dX1_addCampaign_0 rfl (lv_at hl 0 rfl) ?_
  obtain ⟨fs1, b_2, hF1, hv1, hm_b_2, hk_b_2⟩ := hI.gR hm_h0 hk_h0 4 (ci := 1) (t := 13) ⟨rfl, rfl, by decide, rfl⟩
  refine g_get (ci := 1) (v := .ref b_2) (C := RX1) (T := TX1) (N := 9) hx hb hts uB1 hown hK hP hm_h0 hF1 rfl 4 (by decide) wm_230 hv1 dX1_addCampaign_1 ?_
  refine lv_iload_n hx hb dX1_addCampaign_4 rfl (lv_at hl 1 rfl) ?_
  refine lv_lload_n hx hb dX1_addCampaign_5 rfl (lv_at hl 2 rfl) ?_
  obtain ⟨g3, hF3⟩ := hI.a13 hm_b_2 hk_b_2
  refine g_last hx hb hK hP hD hS hm_b_2 hF3 (vp_in_nI (by omega) (by decide)) dX1_addCampaign_6 (fun H locs hP hD hS => ?_)
  obtain ⟨g_4, eg_4⟩ : ∃ z9, z9 = vp_updL g3 (Int32.toNatClampNeg (nI cn)) z := ⟨_, rfl⟩
  rw [← eg_4] at hP hD
  rw [nI_clamp (by omega)] at eg_4
  obtain ⟨f_5, ef_5⟩ : ∃ z9, z9 = va_up f b_2 (.inl (K 1, 40, .inr (.inl g_4))) := ⟨_, rfl⟩
  have hI := hI.s13 hm_b_2 hk_b_2 g_4
  rw [← ef_5] at hP hD hI
  refine lv_aload_n hx hb dX1_addCampaign_7 rfl (lv_at hl 0 rfl) ?_
  refine lv_dup hx hb dX1_addCampaign_8 rfl ?_
  obtain ⟨fs6, x_6, hF6, hv6⟩ := hI.gL hm_h0 hk_h0 7 (ci := 1) ⟨rfl, rfl, by decide, rfl⟩
  refine g_get (ci := 1) (v := .long x_6) (C := RX1) (T := TX1) (N := 9) hx hb hts uB1 hown hK hP hm_h0 hF6 rfl 7 (by decide) wm_229 hv6 dX1_addCampaign_9 ?_
  refine lv_lconst (v := 1) hx hb dX1_addCampaign_12 rfl ?_
  refine lv_iload_n hx hb dX1_addCampaign_13 rfl (lv_at hl 1 rfl) ?_
  refine lv_lshl hx hb dX1_addCampaign_14 rfl ?_
  refine lv_topl (fun x_7 ex_7 => ?_)
  refine lv_lor hx hb dX1_addCampaign_15 ?_
  refine lv_topl (fun x_8 ex_8 => ?_)
  obtain ⟨fs9, hF9, hn9, -⟩ := hI.o hm_h0 hk_h0 rfl (ci := 1) rfl (n := 9) rfl
  refine g_put (ci := 1) (v := .long x_8) (ty := .long) (C := RX1) (T := TX1) (N := 9) hx hb hts uB1 tyX1 tyX1_ok nmX1 hown hK hP hD hS hm_h0 hF9 rfl 7 (by decide) wm_229 rfl (by decide +kernel) rfl rfl (by rw [hn9]; decide) dX1_addCampaign_16 (fun H locs hP hD hS => ?_)
  obtain ⟨f_10, ef_10⟩ : ∃ z9, z9 = va_up f_5 h0 (.inr (1, List.set fs9 7 (.long x_8))) := ⟨_, rfl⟩
  have hI := hI.p hm_h0 hk_h0 7 (ci := 1) (t := 2) (v := .long x_8) ⟨rfl, rfl, by decide, rfl⟩ hF9 fv2
  rw [← ef_10] at hP hD hI
  refine lv_aload_n hx hb dX1_addCampaign_19 rfl (lv_at hl 0 rfl) ?_
  refine lv_dup hx hb dX1_addCampaign_20 rfl ?_
  obtain ⟨fs11, hF11, hv11⟩ := hI.gJ hm_h0 hk_h0 6 (ci := 1) ⟨rfl, rfl, by decide, rfl⟩
  rw [hj6] at hv11
  refine g_get (ci := 1) (v := .int (nI of)) (C := RX1) (T := TX1) (N := 9) hx hb hts uB1 hown hK hP hm_h0 hF11 rfl 6 (by decide) wm_228 hv11 dX1_addCampaign_21 ?_
  refine lv_iconst (v := 1) hx hb dX1_addCampaign_24 (by decide) ?_
  refine lv_iadd hx hb dX1_addCampaign_25 ?_
  refine lv_topi (fun x_12 ex_12 => ?_)
  obtain rfl : x_12 = nI (of + 1) := ex_12.trans (nI_add of 1)
  obtain ⟨fs13, hF13, hn13, -⟩ := hI.o hm_h0 hk_h0 rfl (ci := 1) rfl (n := 9) rfl
  refine g_put (ci := 1) (v := .int (nI (of + 1))) (ty := .int) (C := RX1) (T := TX1) (N := 9) hx hb hts uB1 tyX1 tyX1_ok nmX1 hown hK hP hD hS hm_h0 hF13 rfl 6 (by decide) wm_228 rfl (by decide +kernel) rfl rfl (by rw [hn13]; decide) dX1_addCampaign_26 (fun H locs hP hD hS => ?_)
  obtain ⟨f_14, ef_14⟩ : ∃ z9, z9 = va_up f_10 h0 (.inr (1, List.set fs13 6 (.int (nI (of + 1))))) := ⟨_, rfl⟩
  have hI := hI.pJ hm_h0 hk_h0 6 (by decide) hF13 (nI (of + 1))
  rw [← ef_14] at hP hD hI
  obtain ⟨J_15, eJ_15⟩ : ∃ z9, z9 = va_up J 6 (nI (of + 1)) := ⟨_, rfl⟩
  rw [← eJ_15] at hI
  have hj5 : J_15 5 = nI pk := by rw [eJ_15, va_up_ne _ _ (by decide)]; exact hj5
  have hj6 : J_15 6 = nI (of + 1) := by rw [eJ_15, va_up_self]
  exact W.vret hx hb hr (fun t ht hW => ⟨⟨f_14, rfl, ⟨J_15, hI, hj5, hj6⟩, by show va_P (dC, dI) vwCl (va_pl L f_14) t.heap; rw [ht]; exact hP⟩, hS.F ht⟩) hS.2.2 dX1_addCampaign_29
set_option maxHeartbeats 4000000 in
set_option maxRecDepth 100000 in
theorem k_X1_worthOf (l : Launch) (dC : Nat → ClassId) (dI : Nat → Nat → Nat) (K : Nat → ClassId) (L : List Nat) (f : Nat → va_E) {np nc ns lk lc tp cp gp : Nat} {G J mk st : Nat → Int32} {ap : Nat → Int64} {kd sn : Nat → Nat} (hI : cI K np nc ns lk lc tp cp gp G J mk st ap kd sn L f) (h0 : Nat) (hm_h0 : h0 ∈ L) (hk_h0 : kd h0 = 6) (cn : Nat) (pl : Nat) (hcn : cn < 40) (hpl : pl < 4) : gRl l yX1_worthOf cX1_worthOf 3 .long 0 (dC, dI) K L f [.ref h0, .int (nI cn), .int (nI pl)] (fun r => True) := by
  refine Met.ofW (cc := cX1_worthOf) (maxL := 3) (ret := some .long) (by decide) rfl ?_
  intro p e s m args below meth c s₁ B hml hv
  obtain ⟨rfl, hP, hK⟩ := hv
  have hx := B.exec
  have hb := B.bytes
  have hr := B.returns
  have hlocks := B.notSynchronized
  have hts0 := atoms_spec (ws := Cond.code yX1_worthOf cX1_worthOf 3 (some .long) :: lw_B) B.pre
  have hts : ∀ w ∈ lw_B, w.before _ s = true := fun w h => hts0 w (List.mem_cons_of_mem _ h)
  have hown : s.vm.findClass RX1 = some m.cls := findClass_of_methodNamed B.named
  have hS : va_S (fun _ => False) s.heap s.heap [] := va_S.rf
  have hl := lv_entry ([.ref h0, .int (nI cn), .int (nI pl)]) (n := 3) (Nat.le_of_ble_eq_true rfl)
  rw [lg_entry_eq]
  generalize (lg_sl ([.ref h0, .int (nI cn), .int (nI pl)]) ++ List.replicate (3 - (lg_sl ([.ref h0, .int (nI cn), .int (nI pl)])).length) Slot.unset).toArray = ls at hl ⊢
  have hl : lv_has ls 3 [(0, .ref h0), (1, .int (nI cn)), (2, .int (nI pl))] := hl
  refine lv_aload_n hx hb dX1_worthOf_0 rfl (lv_at hl 0 rfl) ?_
  obtain ⟨fs1, b_2, hF1, hv1, hm_b_2, hk_b_2⟩ := hI.gR hm_h0 hk_h0 2 (ci := 1) (t := 11) ⟨rfl, rfl, by decide, rfl⟩
  refine g_get (ci := 1) (v := .ref b_2) (C := RX1) (T := TX1) (N := 9) hx hb hts uB1 hown hK hP hm_h0 hF1 rfl 2 (by decide) wm_231 hv1 dX1_worthOf_1 ?_
  refine lv_iload_n hx hb dX1_worthOf_4 rfl (lv_at hl 2 rfl) ?_
  obtain ⟨g3, hF3, hgz3⟩ := hI.a11 hm_b_2 hk_b_2
  obtain ⟨b_4, hm_b_4, hk_b_4, hv3⟩ := hgz3 pl (by omega)
  refine g_ald2 (t := 6) hx hb hK hP hm_b_2 hF3 rfl (vp_in_nI (by omega) (by decide)) (by rw [nI_clamp (by omega)]; exact hv3) dX1_worthOf_5 ?_
  refine lv_iload_n hx hb dX1_worthOf_6 rfl (lv_at hl 1 rfl) ?_
  obtain ⟨g5, hF5⟩ := hI.a14 hm_b_4 hk_b_4
  refine g_lald hx hb hK hP hm_b_4 hF5 (vp_in_nI (by omega) (by decide)) dX1_worthOf_7 ?_
  refine lv_topl (fun x_6 ex_6 => ?_)
  refine lv_ldc2 (v := 14128805) hx hb hown (hts _ wm_232) dX1_worthOf_8 ?_
  refine lv_ldiv hx hb dX1_worthOf_11 (by decide) ?_
  refine lv_topl (fun x_7 ex_7 => ?_)
  exact W.lret (v := x_7) hx hb hr (fun t ht hW => ⟨⟨x_7, (), rfl, trivial, trivial⟩, hS.F ht⟩) hS.2.2 dX1_worthOf_12
set_option maxHeartbeats 4000000 in
set_option maxRecDepth 100000 in
theorem k_X1_bestSum (l : Launch) (dC : Nat → ClassId) (dI : Nat → Nat → Nat) (K : Nat → ClassId) (L : List Nat) (f : Nat → va_E) {np nc ns lk lc tp cp gp : Nat} {G J mk st : Nat → Int32} {ap : Nat → Int64} {kd sn : Nat → Nat} (hI : cI K np nc ns lk lc tp cp gp G J mk st ap kd sn L f) (h0 : Nat) (hm_h0 : h0 ∈ L) (hk_h0 : kd h0 = 6) : gRl l yX1_bestSum cX1_bestSum 1 .long 0 (dC, dI) K L f [.ref h0] (fun r => True) := by
  refine Met.ofW (cc := cX1_bestSum) (maxL := 1) (ret := some .long) (by decide) rfl ?_
  intro p e s m args below meth c s₁ B hml hv
  obtain ⟨rfl, hP, hK⟩ := hv
  have hx := B.exec
  have hb := B.bytes
  have hr := B.returns
  have hlocks := B.notSynchronized
  have hts0 := atoms_spec (ws := Cond.code yX1_bestSum cX1_bestSum 1 (some .long) :: lw_B) B.pre
  have hts : ∀ w ∈ lw_B, w.before _ s = true := fun w h => hts0 w (List.mem_cons_of_mem _ h)
  have hown : s.vm.findClass RX1 = some m.cls := findClass_of_methodNamed B.named
  have hS : va_S (fun _ => False) s.heap s.heap [] := va_S.rf
  have hl := lv_entry ([.ref h0]) (n := 1) (Nat.le_of_ble_eq_true rfl)
  rw [lg_entry_eq]
  generalize (lg_sl ([.ref h0]) ++ List.replicate (1 - (lg_sl ([.ref h0])).length) Slot.unset).toArray = ls at hl ⊢
  have hl : lv_has ls 1 [(0, .ref h0)] := hl
  refine lv_aload_n hx hb dX1_bestSum_0 rfl (lv_at hl 0 rfl) ?_
  obtain ⟨fs1, x_1, hF1, hv1⟩ := hI.gL hm_h0 hk_h0 8 (ci := 1) ⟨rfl, rfl, by decide, rfl⟩
  refine g_get (ci := 1) (v := .long x_1) (C := RX1) (T := TX1) (N := 9) hx hb hts uB1 hown hK hP hm_h0 hF1 rfl 8 (by decide) wm_233 hv1 dX1_bestSum_1 ?_
  refine lv_ldc2 (v := 14128805) hx hb hown (hts _ wm_232) dX1_bestSum_4 ?_
  refine lv_ldiv hx hb dX1_bestSum_7 (by decide) ?_
  refine lv_topl (fun x_2 ex_2 => ?_)
  exact W.lret (v := x_2) hx hb hr (fun t ht hW => ⟨⟨x_2, (), rfl, trivial, trivial⟩, hS.F ht⟩) hS.2.2 dX1_bestSum_8
set_option maxHeartbeats 4000000 in
set_option maxRecDepth 100000 in
theorem k_X1_greatestAt (l : Launch) (dC : Nat → ClassId) (dI : Nat → Nat → Nat) (K : Nat → ClassId) (L : List Nat) (f : Nat → va_E) {np nc ns lk lc tp cp gp : Nat} {G J mk st : Nat → Int32} {ap : Nat → Int64} {kd sn : Nat → Nat} {of : Nat} (hI : cI K np nc ns lk lc tp cp gp G J mk st ap kd sn L f) (h0 : Nat) (hm_h0 : h0 ∈ L) (hk_h0 : kd h0 = 6) (pl : Nat) (z : Int64) (hpl : pl < 4) (hj6 : J 6 = nI of) (hof : of ≤ nc) (hnc : nc ≤ 40) : gRl l yX1_greatestAt cX1_greatestAt 6 .long 0 (dC, dI) K L f [.ref h0, .int (nI pl), .long z] (fun r => True) := by
  refine Met.ofW (cc := cX1_greatestAt) (maxL := 6) (ret := some .long) (by decide) rfl ?_
  intro p e s m args below meth c s₁ B hml hv
  obtain ⟨rfl, hP, hK⟩ := hv
  have hx := B.exec
  have hb := B.bytes
  have hr := B.returns
  have hlocks := B.notSynchronized
  have hts0 := atoms_spec (ws := Cond.code yX1_greatestAt cX1_greatestAt 6 (some .long) :: lw_B) B.pre
  have hts : ∀ w ∈ lw_B, w.before _ s = true := fun w h => hts0 w (List.mem_cons_of_mem _ h)
  have hown : s.vm.findClass RX1 = some m.cls := findClass_of_methodNamed B.named
  have hS : va_S (fun _ => False) s.heap s.heap [] := va_S.rf
  have hl := lv_entry ([.ref h0, .int (nI pl), .long z]) (n := 6) (Nat.le_of_ble_eq_true rfl)
  rw [lg_entry_eq]
  generalize (lg_sl ([.ref h0, .int (nI pl), .long z]) ++ List.replicate (6 - (lg_sl ([.ref h0, .int (nI pl), .long z])).length) Slot.unset).toArray = ls at hl ⊢
  have hl : lv_has ls 6 [(0, .ref h0), (1, .int (nI pl)), (2, .long z)] := hl
  refine lv_iconst (v := 0) hx hb dX1_greatestAt_0 (by decide) ?_
  refine lv_istore (lv' := [(4, .int 0), (0, .ref h0), (1, .int (nI pl)), (2, .long z)]) hx hb dX1_greatestAt_1 hl (by decide) rfl (fun ls hl => ?_)
  refine k_lx (pcx := 50) (fun n H locs ls => ∃ (j : Nat), of - j = n ∧ (j ≤ of) ∧ va_P (dC, dI) vwCl (va_pl L f) H ∧ va_S (fun _ => False) s.heap H locs ∧ lv_has ls 6 [(0, .ref h0), (1, .int (nI pl)), (2, .long z), (4, .int (nI j))]) (fun H locs ls => ∃ (j : Nat), (j ≤ of) ∧ va_P (dC, dI) vwCl (va_pl L f) H ∧ va_S (fun _ => False) s.heap H locs ∧ lv_has ls 6 [(0, .ref h0), (1, .int (nI pl)), (2, .long z), (4, .int (nI j))]) (fun H locs ls hI_ => ?_) (fun n H locs ls hI_ hEa iha => ?_) _ _ _ _ ⟨0, rfl, Nat.zero_le _, hP, hS, lv_sub hl [1, 2, 3, 0] rfl⟩
  · skip
    obtain ⟨j, hj, hP, hS, hl⟩ := hI_
    refine lv_lconst (v := 0) hx hb dX1_greatestAt_50 rfl ?_
    exact W.lret (v := 0) hx hb hr (fun t ht hW => ⟨⟨0, (), rfl, trivial, trivial⟩, hS.F ht⟩) hS.2.2 dX1_greatestAt_51
  · skip
    obtain ⟨j, hmua, hj, hP, hS, hl⟩ := hI_
    refine lv_iload hx hb dX1_greatestAt_3 (lv_at hl 3 rfl) ?_
    refine lv_aload_n hx hb dX1_greatestAt_5 rfl (lv_at hl 0 rfl) ?_
    obtain ⟨fs1, hF1, hv1⟩ := hI.gJ hm_h0 hk_h0 6 (ci := 1) ⟨rfl, rfl, by decide, rfl⟩
    rw [hj6] at hv1
    refine g_get (ci := 1) (v := .int (nI of)) (C := RX1) (T := TX1) (N := 9) hx hb hts uB1 hown hK hP hm_h0 hF1 rfl 6 (by decide) wm_228 hv1 dX1_greatestAt_6 ?_
    refine lv_icmp_ge (tgt := 50) hx hb dX1_greatestAt_9 (by decide) (fun c_2 => ?_) (fun c_2 => ?_)
    · skip
      have nc_2 : of ≤ j := (bn_le (a := of) (b := j) (by omega) (by omega)).mp (show nI of ≤ nI j from c_2)
      exact hEa _ _ _ ⟨j, hj, hP, hS, lv_sub hl [0, 1, 2, 3] rfl⟩
    · skip
      have nc_2 : ¬ (of ≤ j) := fun q => c_2 (show nI of ≤ nI j from (bn_le (a := of) (b := j) (by omega) (by omega)).mpr q)
      refine lv_aload_n hx hb dX1_greatestAt_12 rfl (lv_at hl 0 rfl) ?_
      obtain ⟨fs3, b_4, hF3, hv3, hm_b_4, hk_b_4⟩ := hI.gR hm_h0 hk_h0 3 (ci := 1) (t := 12) ⟨rfl, rfl, by decide, rfl⟩
      refine g_get (ci := 1) (v := .ref b_4) (C := RX1) (T := TX1) (N := 9) hx hb hts uB1 hown hK hP hm_h0 hF3 rfl 3 (by decide) wm_234 hv3 dX1_greatestAt_13 ?_
      refine lv_iload_n hx hb dX1_greatestAt_16 rfl (lv_at hl 1 rfl) ?_
      obtain ⟨g5, hF5, hgz5⟩ := hI.a12 hm_b_4 hk_b_4
      obtain ⟨b_6, hm_b_6, hk_b_6, hv5⟩ := hgz5 pl (by omega)
      refine g_ald2 (t := 7) hx hb hK hP hm_b_4 hF5 rfl (vp_in_nI (by omega) (by decide)) (by rw [nI_clamp (by omega)]; exact hv5) dX1_greatestAt_17 ?_
      refine lv_iload hx hb dX1_greatestAt_18 (lv_at hl 3 rfl) ?_
      obtain ⟨g7, hF7, hgz7⟩ := hI.a15 hm_b_6 hk_b_6
      refine g_iald hx hb hK hP hm_b_6 hF7 (vp_in_nI (by omega) (by decide)) dX1_greatestAt_20 ?_
      refine lv_topi (fun x_8 ex_8 => ?_)
      rw [nI_clamp (by omega)] at ex_8
      obtain ⟨q_9, h4q_9, hcq_9, heq_9⟩ := hgz7 j (by omega)
      obtain rfl : x_8 = nI (q_9) := ex_8.trans heq_9
      refine lv_istore (lv' := [(5, .int (nI q_9)), (0, .ref h0), (1, .int (nI pl)), (2, .long z), (4, .int (nI j))]) hx hb dX1_greatestAt_21 hl (by decide) rfl (fun ls hl => ?_)
      refine lv_lload_n hx hb dX1_greatestAt_23 rfl (lv_at hl 3 rfl) ?_
      refine lv_iload hx hb dX1_greatestAt_24 (lv_at hl 0 rfl) ?_
      refine lv_lushr hx hb dX1_greatestAt_26 rfl ?_
      refine lv_topl (fun x_10 ex_10 => ?_)
      refine lv_lconst (v := 1) hx hb dX1_greatestAt_27 rfl ?_
      refine lv_land hx hb dX1_greatestAt_28 ?_
      refine lv_topl (fun x_11 ex_11 => ?_)
      refine lv_lconst (v := 1) hx hb dX1_greatestAt_29 rfl ?_
      refine W.lcmp hx hb dX1_greatestAt_30 ?_
      refine lv_topi (fun x_12 ex_12 => ?_)
      refine lv_if_ne (tgt := 44) hx hb dX1_greatestAt_31 (by decide) (fun c_13 => ?_) (fun c_13 => ?_)
      · skip
        refine lv_iinc (v := nI (j + 1)) (lv' := [(4, .int (nI (j + 1))), (5, .int (nI q_9)), (0, .ref h0), (1, .int (nI pl)), (2, .long z)]) hx hb dX1_greatestAt_44 hl (k := 4) rfl (by exact nI_1 _) (by decide) rfl (fun ls hl => ?_)
        refine lv_goto (tgt := 3) hx hb dX1_greatestAt_47 (by decide) ?_
        exact iha _ (by omega) _ _ _ ⟨(j + 1), rfl, by omega, hP, hS, lv_sub hl [2, 3, 4, 0] rfl⟩
      · skip
        refine lv_aload_n hx hb dX1_greatestAt_34 rfl (lv_at hl 1 rfl) ?_
        obtain ⟨fs14, b_15, hF14, hv14, hm_b_15, hk_b_15⟩ := hI.gR hm_h0 hk_h0 2 (ci := 1) (t := 11) ⟨rfl, rfl, by decide, rfl⟩
        refine g_get (ci := 1) (v := .ref b_15) (C := RX1) (T := TX1) (N := 9) hx hb hts uB1 hown hK hP hm_h0 hF14 rfl 2 (by decide) wm_231 hv14 dX1_greatestAt_35 ?_
        refine lv_iload_n hx hb dX1_greatestAt_38 rfl (lv_at hl 2 rfl) ?_
        obtain ⟨g16, hF16, hgz16⟩ := hI.a11 hm_b_15 hk_b_15
        obtain ⟨b_17, hm_b_17, hk_b_17, hv16⟩ := hgz16 pl (by omega)
        refine g_ald2 (t := 6) hx hb hK hP hm_b_15 hF16 rfl (vp_in_nI (by omega) (by decide)) (by rw [nI_clamp (by omega)]; exact hv16) dX1_greatestAt_39 ?_
        refine lv_iload hx hb dX1_greatestAt_40 (lv_at hl 0 rfl) ?_
        obtain ⟨g18, hF18⟩ := hI.a14 hm_b_17 hk_b_17
        refine g_lald hx hb hK hP hm_b_17 hF18 (vp_in_nI (by omega) (by decide)) dX1_greatestAt_42 ?_
        refine lv_topl (fun x_19 ex_19 => ?_)
        exact W.lret (v := x_19) hx hb hr (fun t ht hW => ⟨⟨x_19, (), rfl, trivial, trivial⟩, hS.F ht⟩) hS.2.2 dX1_greatestAt_43
set_option maxHeartbeats 4000000 in
set_option maxRecDepth 100000 in
theorem k_X1_mostFrom (l : Launch) (dC : Nat → ClassId) (dI : Nat → Nat → Nat) (K : Nat → ClassId) (L : List Nat) (f : Nat → va_E) {np nc ns lk lc tp cp gp : Nat} {G J mk st : Nat → Int32} {ap : Nat → Int64} {kd sn : Nat → Nat} {pk : Nat} {of : Nat} (hI : cI K np nc ns lk lc tp cp gp G J mk st ap kd sn L f) (h0 : Nat) (hm_h0 : h0 ∈ L) (hk_h0 : kd h0 = 6) (pl : Nat) (z : Int64) (hpl : pl ≤ 4) (hj5 : J 5 = nI pk) (hpk : pk ≤ 4) (hj6 : J 6 = nI of) (hof : of ≤ nc) (hnc : nc ≤ 40) : gRl l yX1_mostFrom cX1_mostFrom 7 .long 1 (dC, dI) K L f [.ref h0, .int (nI pl), .long z] (fun r => True) := by
  refine Met.ofW (cc := cX1_mostFrom) (maxL := 7) (ret := some .long) (by decide) rfl ?_
  intro p e s m args below meth c s₁ B hml hv
  obtain ⟨rfl, hP, hK⟩ := hv
  have hx := B.exec
  have hb := B.bytes
  have hr := B.returns
  have hlocks := B.notSynchronized
  have hts0 := atoms_spec (ws := Cond.code yX1_mostFrom cX1_mostFrom 7 (some .long) :: lw_B) B.pre
  have hts : ∀ w ∈ lw_B, w.before _ s = true := fun w h => hts0 w (List.mem_cons_of_mem _ h)
  have hown : s.vm.findClass RX1 = some m.cls := findClass_of_methodNamed B.named
  have hS : va_S (fun _ => False) s.heap s.heap [] := va_S.rf
  have hl := lv_entry ([.ref h0, .int (nI pl), .long z]) (n := 7) (Nat.le_of_ble_eq_true rfl)
  rw [lg_entry_eq]
  generalize (lg_sl ([.ref h0, .int (nI pl), .long z]) ++ List.replicate (7 - (lg_sl ([.ref h0, .int (nI pl), .long z])).length) Slot.unset).toArray = ls at hl ⊢
  have hl : lv_has ls 7 [(0, .ref h0), (1, .int (nI pl)), (2, .long z)] := hl
  refine lv_lconst (v := 0) hx hb dX1_mostFrom_0 rfl ?_
  refine lv_lstore (lv' := [(4, .long 0), (0, .ref h0), (1, .int (nI pl)), (2, .long z)]) hx hb dX1_mostFrom_1 hl (by decide) rfl (fun ls hl => ?_)
  refine lv_iload_n hx hb dX1_mostFrom_3 rfl (lv_at hl 2 rfl) ?_
  refine lv_istore (lv' := [(6, .int (nI pl)), (4, .long 0), (0, .ref h0), (1, .int (nI pl)), (2, .long z)]) hx hb dX1_mostFrom_4 hl (by decide) rfl (fun ls hl => ?_)
  refine k_lx (pcx := 33) (fun n H locs ls => ∃ (j : Nat) (acc : Int64), 4 - j = n ∧ (j ≤ 4) ∧ va_P (dC, dI) vwCl (va_pl L f) H ∧ va_S (fun _ => False) s.heap H locs ∧ lv_has ls 7 [(0, .ref h0), (2, .long z), (4, .long acc), (6, .int (nI j))]) (fun H locs ls => ∃ (j : Nat) (acc : Int64), (j ≤ 4) ∧ va_P (dC, dI) vwCl (va_pl L f) H ∧ va_S (fun _ => False) s.heap H locs ∧ lv_has ls 7 [(0, .ref h0), (2, .long z), (4, .long acc), (6, .int (nI j))]) (fun H locs ls hI_ => ?_) (fun n H locs ls hI_ hEa iha => ?_) _ _ _ _ ⟨pl, _, rfl, hpl, hP, hS, lv_sub hl [2, 4, 1, 0] rfl⟩
  · skip
    obtain ⟨j, acc, hj, hP, hS, hl⟩ := hI_
    refine lv_lload hx hb dX1_mostFrom_33 (lv_at hl 2 rfl) ?_
    exact W.lret (v := acc) hx hb hr (fun t ht hW => ⟨⟨acc, (), rfl, trivial, trivial⟩, hS.F ht⟩) hS.2.2 dX1_mostFrom_35
  · skip
    obtain ⟨j, acc, hmua, hj, hP, hS, hl⟩ := hI_
    refine lv_iload hx hb dX1_mostFrom_6 (lv_at hl 3 rfl) ?_
    refine lv_aload_n hx hb dX1_mostFrom_8 rfl (lv_at hl 0 rfl) ?_
    obtain ⟨fs1, hF1, hv1⟩ := hI.gJ hm_h0 hk_h0 5 (ci := 1) ⟨rfl, rfl, by decide, rfl⟩
    rw [hj5] at hv1
    refine g_get (ci := 1) (v := .int (nI pk)) (C := RX1) (T := TX1) (N := 9) hx hb hts uB1 hown hK hP hm_h0 hF1 rfl 5 (by decide) wm_227 hv1 dX1_mostFrom_9 ?_
    refine lv_icmp_ge (tgt := 33) hx hb dX1_mostFrom_12 (by decide) (fun c_2 => ?_) (fun c_2 => ?_)
    · skip
      have nc_2 : pk ≤ j := (bn_le (a := pk) (b := j) (by omega) (by omega)).mp (show nI pk ≤ nI j from c_2)
      exact hEa _ _ _ ⟨j, _, hj, hP, hS, lv_sub hl [0, 1, 2, 3] rfl⟩
    · skip
      have nc_2 : ¬ (pk ≤ j) := fun q => c_2 (show nI pk ≤ nI j from (bn_le (a := pk) (b := j) (by omega) (by omega)).mpr q)
      refine lv_lload hx hb dX1_mostFrom_15 (lv_at hl 2 rfl) ?_
      refine lv_aload_n hx hb dX1_mostFrom_17 rfl (lv_at hl 0 rfl) ?_
      refine lv_iload hx hb dX1_mostFrom_18 (lv_at hl 3 rfl) ?_
      refine lv_lload_n hx hb dX1_mostFrom_20 rfl (lv_at hl 1 rfl) ?_
      obtain ⟨fs3, hF3, -, -⟩ := hI.o hm_h0 hk_h0 rfl (ci := 1) rfl rfl
      refine gc_Rl (ci := 1) ⟨hx, hb, hml, hown, hts⟩ (k_X1_greatestAt l dC dI K L f hI h0 hm_h0 hk_h0 j z (by omega) hj6 hof hnc) 2 wm_235 wm_236 wm_237 wm_238 wm_239 (by decide +kernel) ⟨Nat.le_of_ble_eq_true rfl, Nat.le_of_ble_eq_true rfl⟩ hK rfl hm_h0 hF3 rfl hl.1 rfl (Nat.le_of_ble_eq_true rfl) dX1_mostFrom_21 ⟨Nat.le_of_ble_eq_true rfl, Nat.le_of_ble_eq_true rfl⟩ hS hP (fun r_4 H locs hpr_4 hP hS => ?_)
      refine lv_ladd hx hb dX1_mostFrom_24 ?_
      refine lv_topl (fun x_5 ex_5 => ?_)
      refine lv_lstore (lv' := [(4, .long x_5), (0, .ref h0), (2, .long z), (6, .int (nI j))]) hx hb dX1_mostFrom_25 hl (by decide) rfl (fun ls hl => ?_)
      refine lv_iinc (v := nI (j + 1)) (lv' := [(6, .int (nI (j + 1))), (4, .long x_5), (0, .ref h0), (2, .long z)]) hx hb dX1_mostFrom_27 hl (k := 3) rfl (by exact nI_1 _) (by decide) rfl (fun ls hl => ?_)
      refine lv_goto (tgt := 6) hx hb dX1_mostFrom_30 (by decide) ?_
      exact iha _ (by omega) _ _ _ ⟨(j + 1), _, rfl, by omega, hP, hS, lv_sub hl [2, 3, 1, 0] rfl⟩
set_option maxHeartbeats 4000000 in
set_option maxRecDepth 100000 in
theorem k_X1_addWorth (l : Launch) (dC : Nat → ClassId) (dI : Nat → Nat → Nat) (K : Nat → ClassId) (L : List Nat) (f : Nat → va_E) {np nc ns lk lc tp cp gp : Nat} {G J mk st : Nat → Int32} {ap : Nat → Int64} {kd sn : Nat → Nat} {of : Nat} (hI : cI K np nc ns lk lc tp cp gp G J mk st ap kd sn L f) (h0 : Nat) (hm_h0 : h0 ∈ L) (hk_h0 : kd h0 = 6) (cn : Nat) (pl : Nat) (z : Int64) (hcn : cn < nc) (hpl : pl < 4) (hnc : nc ≤ 40) (hj6 : J 6 = nI of) (hof : of < 40) (hLn : gN L) : gMv l yX1_addWorth cX1_addWorth 10 0 (dC, dI) K L f [.ref h0, .int (nI cn), .int (nI pl), .long z] (fun f' => cI K np nc ns lk lc tp cp gp G J mk st ap kd sn L f') := by
  refine Met.ofW (cc := cX1_addWorth) (maxL := 10) (ret := none) (by decide) rfl ?_
  intro p e s m args below meth c s₁ B hml hv
  obtain ⟨rfl, hP, hK⟩ := hv
  have hD : va_D (fun q : Nat => q ∈ L) (va_pl L f) := g_D hLn (fun a h => h) f
  generalize hAe : (fun q : Nat => q ∈ L) = A at hD ⊢
  have hx := B.exec
  have hb := B.bytes
  have hr := B.returns
  have hlocks := B.notSynchronized
  have hts0 := atoms_spec (ws := Cond.code yX1_addWorth cX1_addWorth 10 none :: lw_B) B.pre
  have hts : ∀ w ∈ lw_B, w.before _ s = true := fun w h => hts0 w (List.mem_cons_of_mem _ h)
  have hown : s.vm.findClass RX1 = some m.cls := findClass_of_methodNamed B.named
  have hS : va_S A s.heap s.heap [] := va_S.rf
  have hl := lv_entry ([.ref h0, .int (nI cn), .int (nI pl), .long z]) (n := 10) (Nat.le_of_ble_eq_true rfl)
  rw [lg_entry_eq]
  generalize (lg_sl ([.ref h0, .int (nI cn), .int (nI pl), .long z]) ++ List.replicate (10 - (lg_sl ([.ref h0, .int (nI cn), .int (nI pl), .long z])).length) Slot.unset).toArray = ls at hl ⊢
  have hl : lv_has ls 10 [(0, .ref h0), (1, .int (nI cn)), (2, .int (nI pl)), (3, .long z)] := hl
  refine lv_bipush (v := 40) hx hb dX1_addWorth_0 (by decide) ?_
  refine lv_iload_n hx hb dX1_addWorth_2 rfl (lv_at hl 1 rfl) ?_
  refine lv_isub hx hb dX1_addWorth_3 ?_
  refine lv_topi (fun x_1 ex_1 => ?_)
  refine lv_i2l hx hb dX1_addWorth_4 rfl ?_
  refine lv_topl (fun x_2 ex_2 => ?_)
  refine lv_lstore (lv' := [(5, .long x_2), (0, .ref h0), (1, .int (nI cn)), (2, .int (nI pl)), (3, .long z)]) hx hb dX1_addWorth_5 hl (by decide) rfl (fun ls hl => ?_)
  refine lv_iload_n hx hb dX1_addWorth_7 rfl (lv_at hl 3 rfl) ?_
  refine lv_iconst (v := 1) hx hb dX1_addWorth_8 (by decide) ?_
  refine lv_iadd hx hb dX1_addWorth_9 ?_
  refine lv_topi (fun x_3 ex_3 => ?_)
  obtain rfl : x_3 = nI (pl + 1) := ex_3.trans (nI_add pl 1)
  refine lv_istore (lv' := [(7, .int (nI (pl + 1))), (5, .long x_2), (0, .ref h0), (1, .int (nI cn)), (2, .int (nI pl)), (3, .long z)]) hx hb dX1_addWorth_10 hl (by decide) rfl (fun ls hl => ?_)
  refine k_lx (pcx := 32) (fun n H locs ls => ∃ (fva : Nat → va_E) (j : Nat) (ea : Int64), 4 - j = n ∧ cI K np nc ns lk lc tp cp gp G J mk st ap kd sn L fva ∧ (j ≤ 4) ∧ va_P (dC, dI) vwCl (va_pl L fva) H ∧ va_S A s.heap H locs ∧ lv_has ls 10 [(0, .ref h0), (1, .int (nI cn)), (2, .int (nI pl)), (3, .long z), (5, .long ea), (7, .int (nI j))]) (fun H locs ls => ∃ (fva : Nat → va_E) (j : Nat) (ea : Int64), cI K np nc ns lk lc tp cp gp G J mk st ap kd sn L fva ∧ (j ≤ 4) ∧ va_P (dC, dI) vwCl (va_pl L fva) H ∧ va_S A s.heap H locs ∧ lv_has ls 10 [(0, .ref h0), (1, .int (nI cn)), (2, .int (nI pl)), (3, .long z), (5, .long ea), (7, .int (nI j))]) (fun H locs ls hI_ => ?_) (fun n H locs ls hI_ hEa iha => ?_) _ _ _ _ ⟨f, (pl + 1), _, rfl, hI, by omega, hP, hS, lv_sub hl [2, 3, 4, 5, 1, 0] rfl⟩
  · skip
    obtain ⟨fva, j, ea, hI, hj, hP, hS, hl⟩ := hI_
    have hD : va_D A (va_pl L fva) := g_D hLn (fun a h => by rw [← hAe]; exact h) fva
    refine lv_lload_n hx hb dX1_addWorth_32 rfl (lv_at hl 3 rfl) ?_
    refine lv_ldc2 (v := 14128805) hx hb hown (hts _ wm_232) dX1_addWorth_33 ?_
    refine lv_lmul hx hb dX1_addWorth_36 ?_
    refine lv_topl (fun x_4 ex_4 => ?_)
    refine lv_ldc2 (v := 2825761) hx hb hown (hts _ wm_240) dX1_addWorth_37 ?_
    refine lv_ladd hx hb dX1_addWorth_40 ?_
    refine lv_topl (fun x_5 ex_5 => ?_)
    refine lv_lload hx hb dX1_addWorth_41 (lv_at hl 4 rfl) ?_
    refine lv_ladd hx hb dX1_addWorth_43 ?_
    refine lv_topl (fun x_6 ex_6 => ?_)
    refine lv_lstore (lv' := [(7, .long x_6), (0, .ref h0), (1, .int (nI cn)), (2, .int (nI pl)), (3, .long z), (5, .long ea)]) hx hb dX1_addWorth_44 hl (by decide) rfl (fun ls hl => ?_)
    refine lv_aload_n hx hb dX1_addWorth_46 rfl (lv_at hl 1 rfl) ?_
    obtain ⟨fs7, b_8, hF7, hv7, hm_b_8, hk_b_8⟩ := hI.gR hm_h0 hk_h0 2 (ci := 1) (t := 11) ⟨rfl, rfl, by decide, rfl⟩
    refine g_get (ci := 1) (v := .ref b_8) (C := RX1) (T := TX1) (N := 9) hx hb hts uB1 hown hK hP hm_h0 hF7 rfl 2 (by decide) wm_231 hv7 dX1_addWorth_47 ?_
    refine lv_iload_n hx hb dX1_addWorth_50 rfl (lv_at hl 3 rfl) ?_
    obtain ⟨g9, hF9, hgz9⟩ := hI.a11 hm_b_8 hk_b_8
    obtain ⟨b_10, hm_b_10, hk_b_10, hv9⟩ := hgz9 pl (by omega)
    refine g_ald2 (t := 6) hx hb hK hP hm_b_8 hF9 rfl (vp_in_nI (by omega) (by decide)) (by rw [nI_clamp (by omega)]; exact hv9) dX1_addWorth_51 ?_
    refine lv_iload_n hx hb dX1_addWorth_52 rfl (lv_at hl 2 rfl) ?_
    refine lv_lload hx hb dX1_addWorth_53 (lv_at hl 0 rfl) ?_
    obtain ⟨g11, hF11⟩ := hI.a14 hm_b_10 hk_b_10
    refine g_last hx hb hK hP hD hS hm_b_10 hF11 (vp_in_nI (by omega) (by decide)) dX1_addWorth_55 (fun H locs hP hD hS => ?_)
    obtain ⟨g_12, eg_12⟩ : ∃ z9, z9 = vp_updL g11 (Int32.toNatClampNeg (nI cn)) x_6 := ⟨_, rfl⟩
    rw [← eg_12] at hP hD
    rw [nI_clamp (by omega)] at eg_12
    obtain ⟨f_13, ef_13⟩ : ∃ z9, z9 = va_up fva b_10 (.inl (K 1, 40, .inr (.inl g_12))) := ⟨_, rfl⟩
    have hI := hI.s14 hm_b_10 hk_b_10 g_12
    rw [← ef_13] at hP hD hI
    refine lv_aload_n hx hb dX1_addWorth_56 rfl (lv_at hl 1 rfl) ?_
    obtain ⟨fs14, hF14, hv14⟩ := hI.gJ hm_h0 hk_h0 6 (ci := 1) ⟨rfl, rfl, by decide, rfl⟩
    rw [hj6] at hv14
    refine g_get (ci := 1) (v := .int (nI of)) (C := RX1) (T := TX1) (N := 9) hx hb hts uB1 hown hK hP hm_h0 hF14 rfl 6 (by decide) wm_228 hv14 dX1_addWorth_57 ?_
    refine lv_istore (lv' := [(9, .int (nI of)), (7, .long x_6), (0, .ref h0), (1, .int (nI cn)), (2, .int (nI pl)), (3, .long z), (5, .long ea)]) hx hb dX1_addWorth_60 hl (by decide) rfl (fun ls hl => ?_)
    refine k_lx (pcx := 117) (fun n H locs ls => ∃ (fvb : Nat → va_E) (r : Nat) (wt : Int64), r = n ∧ cI K np nc ns lk lc tp cp gp G J mk st ap kd sn L fvb ∧ (r ≤ of) ∧ va_P (dC, dI) vwCl (va_pl L fvb) H ∧ va_S A s.heap H locs ∧ lv_has ls 10 [(0, .ref h0), (1, .int (nI cn)), (2, .int (nI pl)), (7, .long wt), (9, .int (nI r))]) (fun H locs ls => ∃ (fvb : Nat → va_E) (r : Nat) (wt : Int64), cI K np nc ns lk lc tp cp gp G J mk st ap kd sn L fvb ∧ (r ≤ of) ∧ va_P (dC, dI) vwCl (va_pl L fvb) H ∧ va_S A s.heap H locs ∧ lv_has ls 10 [(0, .ref h0), (1, .int (nI cn)), (2, .int (nI pl)), (7, .long wt), (9, .int (nI r))]) (fun H locs ls hI_ => ?_) (fun n H locs ls hI_ hEb ihb => ?_) _ _ _ _ ⟨f_13, of, _, rfl, hI, Nat.le_refl _, hP, hS, lv_sub hl [2, 3, 4, 1, 0] rfl⟩
    · skip
      obtain ⟨fvb, r, wt, hI, hr9, hP, hS, hl⟩ := hI_
      have hD : va_D A (va_pl L fvb) := g_D hLn (fun a h => by rw [← hAe]; exact h) fvb
      refine lv_aload_n hx hb dX1_addWorth_117 rfl (lv_at hl 0 rfl) ?_
      obtain ⟨fs15, b_16, hF15, hv15, hm_b_16, hk_b_16⟩ := hI.gR hm_h0 hk_h0 3 (ci := 1) (t := 12) ⟨rfl, rfl, by decide, rfl⟩
      refine g_get (ci := 1) (v := .ref b_16) (C := RX1) (T := TX1) (N := 9) hx hb hts uB1 hown hK hP hm_h0 hF15 rfl 3 (by decide) wm_234 hv15 dX1_addWorth_118 ?_
      refine lv_iload_n hx hb dX1_addWorth_121 rfl (lv_at hl 2 rfl) ?_
      obtain ⟨g17, hF17, hgz17⟩ := hI.a12 hm_b_16 hk_b_16
      obtain ⟨b_18, hm_b_18, hk_b_18, hv17⟩ := hgz17 pl (by omega)
      refine g_ald2 (t := 7) hx hb hK hP hm_b_16 hF17 rfl (vp_in_nI (by omega) (by decide)) (by rw [nI_clamp (by omega)]; exact hv17) dX1_addWorth_122 ?_
      refine lv_iload hx hb dX1_addWorth_123 (lv_at hl 4 rfl) ?_
      refine lv_iload_n hx hb dX1_addWorth_125 rfl (lv_at hl 1 rfl) ?_
      obtain ⟨g19, hF19, hgz19⟩ := hI.a15 hm_b_18 hk_b_18
      refine g_iast hx hb hK hP hD hS hm_b_18 hF19 (vp_in_nI (by omega) (by decide)) dX1_addWorth_126 (fun H locs hP hD hS => ?_)
      obtain ⟨g_20, eg_20⟩ : ∃ z9, z9 = upd g19 (Int32.toNatClampNeg (nI r)) (nI cn) := ⟨_, rfl⟩
      rw [← eg_20] at hP hD
      rw [nI_clamp (by omega)] at eg_20
      obtain ⟨f_21, ef_21⟩ : ∃ z9, z9 = va_up fvb b_18 (.inl (K 0, 40, .inl g_20)) := ⟨_, rfl⟩
      have hI := hI.s15 hm_b_18 hk_b_18 (ordSt hgz19 (by omega) (Or.inl hcn) eg_20)
      rw [← ef_21] at hP hD hI
      exact W.vret hx hb hr (fun t ht hW => ⟨⟨f_21, rfl, hI, by show va_P (dC, dI) vwCl (va_pl L f_21) t.heap; rw [ht]; exact hP⟩, hS.F ht⟩) hS.2.2 dX1_addWorth_127
    · skip
      obtain ⟨fvb, r, wt, hmub, hI, hr9, hP, hS, hl⟩ := hI_
      have hD : va_D A (va_pl L fvb) := g_D hLn (fun a h => by rw [← hAe]; exact h) fvb
      refine lv_iload hx hb dX1_addWorth_62 (lv_at hl 4 rfl) ?_
      refine lv_if_le (tgt := 117) hx hb dX1_addWorth_64 (by decide) (fun c_22 => ?_) (fun c_22 => ?_)
      · skip
        have nc_22 : r ≤ 0 := (bn_le (a := r) (b := 0) (by omega) (by omega)).mp (show nI r ≤ nI 0 from c_22)
        exact hEb _ _ _ ⟨fvb, r, wt, hI, hr9, hP, hS, lv_sub hl [0, 1, 2, 3, 4] rfl⟩
      · skip
        have nc_22 : ¬ (r ≤ 0) := fun q => c_22 (show nI r ≤ nI 0 from (bn_le (a := r) (b := 0) (by omega) (by omega)).mpr q)
        refine lv_aload_n hx hb dX1_addWorth_67 rfl (lv_at hl 0 rfl) ?_
        obtain ⟨fs23, b_24, hF23, hv23, hm_b_24, hk_b_24⟩ := hI.gR hm_h0 hk_h0 2 (ci := 1) (t := 11) ⟨rfl, rfl, by decide, rfl⟩
        refine g_get (ci := 1) (v := .ref b_24) (C := RX1) (T := TX1) (N := 9) hx hb hts uB1 hown hK hP hm_h0 hF23 rfl 2 (by decide) wm_231 hv23 dX1_addWorth_68 ?_
        refine lv_iload_n hx hb dX1_addWorth_71 rfl (lv_at hl 2 rfl) ?_
        obtain ⟨g25, hF25, hgz25⟩ := hI.a11 hm_b_24 hk_b_24
        obtain ⟨b_26, hm_b_26, hk_b_26, hv25⟩ := hgz25 pl (by omega)
        refine g_ald2 (t := 6) hx hb hK hP hm_b_24 hF25 rfl (vp_in_nI (by omega) (by decide)) (by rw [nI_clamp (by omega)]; exact hv25) dX1_addWorth_72 ?_
        refine lv_aload_n hx hb dX1_addWorth_73 rfl (lv_at hl 0 rfl) ?_
        obtain ⟨fs27, b_28, hF27, hv27, hm_b_28, hk_b_28⟩ := hI.gR hm_h0 hk_h0 3 (ci := 1) (t := 12) ⟨rfl, rfl, by decide, rfl⟩
        refine g_get (ci := 1) (v := .ref b_28) (C := RX1) (T := TX1) (N := 9) hx hb hts uB1 hown hK hP hm_h0 hF27 rfl 3 (by decide) wm_234 hv27 dX1_addWorth_74 ?_
        refine lv_iload_n hx hb dX1_addWorth_77 rfl (lv_at hl 2 rfl) ?_
        obtain ⟨g29, hF29, hgz29⟩ := hI.a12 hm_b_28 hk_b_28
        obtain ⟨b_30, hm_b_30, hk_b_30, hv29⟩ := hgz29 pl (by omega)
        refine g_ald2 (t := 7) hx hb hK hP hm_b_28 hF29 rfl (vp_in_nI (by omega) (by decide)) (by rw [nI_clamp (by omega)]; exact hv29) dX1_addWorth_78 ?_
        refine lv_iload hx hb dX1_addWorth_79 (lv_at hl 4 rfl) ?_
        refine lv_iconst (v := 1) hx hb dX1_addWorth_81 (by decide) ?_
        refine lv_isub hx hb dX1_addWorth_82 ?_
        refine lv_topi (fun x_31 ex_31 => ?_)
        obtain rfl : x_31 = nI (r - 1) := ex_31.trans (pk_sub (a := r) (b := 1) (by omega))
        obtain ⟨g32, hF32, hgz32⟩ := hI.a15 hm_b_30 hk_b_30
        refine g_iald hx hb hK hP hm_b_30 hF32 (vp_in_nI (by omega) (by decide)) dX1_addWorth_83 ?_
        refine lv_topi (fun x_33 ex_33 => ?_)
        rw [nI_clamp (by omega)] at ex_33
        obtain ⟨q_34, h4q_34, hcq_34, heq_34⟩ := hgz32 (r - 1) (by omega)
        obtain rfl : x_33 = nI (q_34) := ex_33.trans heq_34
        obtain ⟨g35, hF35⟩ := hI.a14 hm_b_26 hk_b_26
        refine g_lald hx hb hK hP hm_b_26 hF35 (vp_in_nI (by omega) (by decide)) dX1_addWorth_84 ?_
        refine lv_topl (fun x_36 ex_36 => ?_)
        refine lv_lload hx hb dX1_addWorth_85 (lv_at hl 3 rfl) ?_
        refine W.lcmp hx hb dX1_addWorth_87 ?_
        refine lv_topi (fun x_37 ex_37 => ?_)
        refine lv_if_ge (tgt := 117) hx hb dX1_addWorth_88 (by decide) (fun c_38 => ?_) (fun c_38 => ?_)
        · skip
          exact hEb _ _ _ ⟨fvb, r, wt, hI, hr9, hP, hS, lv_sub hl [0, 1, 2, 3, 4] rfl⟩
        · skip
          refine lv_aload_n hx hb dX1_addWorth_91 rfl (lv_at hl 0 rfl) ?_
          obtain ⟨fs39, b_40, hF39, hv39, hm_b_40, hk_b_40⟩ := hI.gR hm_h0 hk_h0 3 (ci := 1) (t := 12) ⟨rfl, rfl, by decide, rfl⟩
          refine g_get (ci := 1) (v := .ref b_40) (C := RX1) (T := TX1) (N := 9) hx hb hts uB1 hown hK hP hm_h0 hF39 rfl 3 (by decide) wm_234 hv39 dX1_addWorth_92 ?_
          refine lv_iload_n hx hb dX1_addWorth_95 rfl (lv_at hl 2 rfl) ?_
          obtain ⟨g41, hF41, hgz41⟩ := hI.a12 hm_b_40 hk_b_40
          obtain ⟨b_42, hm_b_42, hk_b_42, hv41⟩ := hgz41 pl (by omega)
          refine g_ald2 (t := 7) hx hb hK hP hm_b_40 hF41 rfl (vp_in_nI (by omega) (by decide)) (by rw [nI_clamp (by omega)]; exact hv41) dX1_addWorth_96 ?_
          refine lv_iload hx hb dX1_addWorth_97 (lv_at hl 4 rfl) ?_
          refine lv_aload_n hx hb dX1_addWorth_99 rfl (lv_at hl 0 rfl) ?_
          obtain ⟨fs43, b_44, hF43, hv43, hm_b_44, hk_b_44⟩ := hI.gR hm_h0 hk_h0 3 (ci := 1) (t := 12) ⟨rfl, rfl, by decide, rfl⟩
          refine g_get (ci := 1) (v := .ref b_44) (C := RX1) (T := TX1) (N := 9) hx hb hts uB1 hown hK hP hm_h0 hF43 rfl 3 (by decide) wm_234 hv43 dX1_addWorth_100 ?_
          refine lv_iload_n hx hb dX1_addWorth_103 rfl (lv_at hl 2 rfl) ?_
          obtain ⟨g45, hF45, hgz45⟩ := hI.a12 hm_b_44 hk_b_44
          obtain ⟨b_46, hm_b_46, hk_b_46, hv45⟩ := hgz45 pl (by omega)
          refine g_ald2 (t := 7) hx hb hK hP hm_b_44 hF45 rfl (vp_in_nI (by omega) (by decide)) (by rw [nI_clamp (by omega)]; exact hv45) dX1_addWorth_104 ?_
          refine lv_iload hx hb dX1_addWorth_105 (lv_at hl 4 rfl) ?_
          refine lv_iconst (v := 1) hx hb dX1_addWorth_107 (by decide) ?_
          refine lv_isub hx hb dX1_addWorth_108 ?_
          refine lv_topi (fun x_47 ex_47 => ?_)
          obtain rfl : x_47 = nI (r - 1) := ex_47.trans (pk_sub (a := r) (b := 1) (by omega))
          obtain ⟨g48, hF48, hgz48⟩ := hI.a15 hm_b_46 hk_b_46
          refine g_iald hx hb hK hP hm_b_46 hF48 (vp_in_nI (by omega) (by decide)) dX1_addWorth_109 ?_
          refine lv_topi (fun x_49 ex_49 => ?_)
          rw [nI_clamp (by omega)] at ex_49
          obtain ⟨q_50, h4q_50, hcq_50, heq_50⟩ := hgz48 (r - 1) (by omega)
          obtain rfl : x_49 = nI (q_50) := ex_49.trans heq_50
          obtain ⟨g51, hF51, hgz51⟩ := hI.a15 hm_b_42 hk_b_42
          refine g_iast hx hb hK hP hD hS hm_b_42 hF51 (vp_in_nI (by omega) (by decide)) dX1_addWorth_110 (fun H locs hP hD hS => ?_)
          obtain ⟨g_52, eg_52⟩ : ∃ z9, z9 = upd g51 (Int32.toNatClampNeg (nI r)) (nI q_50) := ⟨_, rfl⟩
          rw [← eg_52] at hP hD
          rw [nI_clamp (by omega)] at eg_52
          obtain ⟨f_53, ef_53⟩ : ∃ z9, z9 = va_up fvb b_42 (.inl (K 0, 40, .inl g_52)) := ⟨_, rfl⟩
          have hI := hI.s15 hm_b_42 hk_b_42 (ordSt hgz51 (by omega) hcq_50 eg_52)
          rw [← ef_53] at hP hD hI
          obtain ⟨x_54, ex_54⟩ : ∃ y : Int32, y = (nI r) + (-1) := ⟨_, rfl⟩
          refine lv_iinc (v := x_54) (lv' := [(9, .int x_54), (0, .ref h0), (1, .int (nI cn)), (2, .int (nI pl)), (7, .long wt)]) hx hb dX1_addWorth_111 hl (k := 4) rfl (by rw [ex_54]; rfl) (by decide) rfl (fun ls hl => ?_)
          refine lv_goto (tgt := 62) hx hb dX1_addWorth_114 (by decide) ?_
          obtain rfl : x_54 = nI (r - 1) := ex_54.trans (by rw [← Int32.sub_eq_add_neg]; exact pk_sub (a := r) (b := 1) (by omega))
          exact ihb _ (by omega) _ _ _ ⟨f_53, (r - 1), wt, rfl, hI, by omega, hP, hS, lv_sub hl [1, 2, 3, 4, 0] rfl⟩
  · skip
    obtain ⟨fva, j, ea, hmua, hI, hj, hP, hS, hl⟩ := hI_
    have hD : va_D A (va_pl L fva) := g_D hLn (fun a h => by rw [← hAe]; exact h) fva
    refine lv_iload hx hb dX1_addWorth_12 (lv_at hl 5 rfl) ?_
    refine lv_iconst (v := 4) hx hb dX1_addWorth_14 (by decide) ?_
    refine lv_icmp_ge (tgt := 32) hx hb dX1_addWorth_15 (by decide) (fun c_55 => ?_) (fun c_55 => ?_)
    · skip
      have nc_55 : 4 ≤ j := (bn_le (a := 4) (b := j) (by omega) (by omega)).mp (show nI 4 ≤ nI j from c_55)
      exact hEa _ _ _ ⟨fva, j, _, hI, hj, hP, hS, lv_sub hl [0, 1, 2, 3, 4, 5] rfl⟩
    · skip
      have nc_55 : ¬ (4 ≤ j) := fun q => c_55 (show nI 4 ≤ nI j from (bn_le (a := 4) (b := j) (by omega) (by omega)).mpr q)
      refine lv_lload hx hb dX1_addWorth_18 (lv_at hl 4 rfl) ?_
      refine lv_ldc2 (v := 41) hx hb hown (hts _ wm_241) dX1_addWorth_20 ?_
      refine lv_lmul hx hb dX1_addWorth_23 ?_
      refine lv_topl (fun x_56 ex_56 => ?_)
      refine lv_lstore (lv' := [(5, .long x_56), (0, .ref h0), (1, .int (nI cn)), (2, .int (nI pl)), (3, .long z), (7, .int (nI j))]) hx hb dX1_addWorth_24 hl (by decide) rfl (fun ls hl => ?_)
      refine lv_iinc (v := nI (j + 1)) (lv' := [(7, .int (nI (j + 1))), (5, .long x_56), (0, .ref h0), (1, .int (nI cn)), (2, .int (nI pl)), (3, .long z)]) hx hb dX1_addWorth_26 hl (k := 5) rfl (by exact nI_1 _) (by decide) rfl (fun ls hl => ?_)
      refine lv_goto (tgt := 12) hx hb dX1_addWorth_29 (by decide) ?_
      exact iha _ (by omega) _ _ _ ⟨fva, (j + 1), _, rfl, hI, by omega, hP, hS, lv_sub hl [2, 3, 4, 5, 1, 0] rfl⟩
set_option maxHeartbeats 4000000 in
set_option maxRecDepth 100000 in
theorem k_X1_keepIfBetter (l : Launch) (dC : Nat → ClassId) (dI : Nat → Nat → Nat) (K : Nat → ClassId) (L : List Nat) (f : Nat → va_E) {np nc ns lk lc tp cp gp : Nat} {G J mk st : Nat → Int32} {ap : Nat → Int64} {kd sn : Nat → Nat} {pk : Nat} (hI : cI K np nc ns lk lc tp cp gp G J mk st ap kd sn L f) (h0 : Nat) (hm_h0 : h0 ∈ L) (hk_h0 : kd h0 = 6) (z : Int64) (hj5 : J 5 = nI pk) (hpk : pk ≤ 4) (htp : pk ≤ tp) (hLn : gN L) : gMv l yX1_keepIfBetter cX1_keepIfBetter 4 0 (dC, dI) K L f [.ref h0, .long z] (fun f' => cI K np nc ns lk lc tp cp gp G J mk st ap kd sn L f') := by
  refine Met.ofW (cc := cX1_keepIfBetter) (maxL := 4) (ret := none) (by decide) rfl ?_
  intro p e s m args below meth c s₁ B hml hv
  obtain ⟨rfl, hP, hK⟩ := hv
  have hD : va_D (fun q : Nat => q ∈ L) (va_pl L f) := g_D hLn (fun a h => h) f
  generalize hAe : (fun q : Nat => q ∈ L) = A at hD ⊢
  have hx := B.exec
  have hb := B.bytes
  have hr := B.returns
  have hlocks := B.notSynchronized
  have hts0 := atoms_spec (ws := Cond.code yX1_keepIfBetter cX1_keepIfBetter 4 none :: lw_B) B.pre
  have hts : ∀ w ∈ lw_B, w.before _ s = true := fun w h => hts0 w (List.mem_cons_of_mem _ h)
  have hown : s.vm.findClass RX1 = some m.cls := findClass_of_methodNamed B.named
  have hS : va_S A s.heap s.heap [] := va_S.rf
  have hl := lv_entry ([.ref h0, .long z]) (n := 4) (Nat.le_of_ble_eq_true rfl)
  rw [lg_entry_eq]
  generalize (lg_sl ([.ref h0, .long z]) ++ List.replicate (4 - (lg_sl ([.ref h0, .long z])).length) Slot.unset).toArray = ls at hl ⊢
  have hl : lv_has ls 4 [(0, .ref h0), (1, .long z)] := hl
  refine lv_lload_n hx hb dX1_keepIfBetter_0 rfl (lv_at hl 1 rfl) ?_
  refine lv_aload_n hx hb dX1_keepIfBetter_1 rfl (lv_at hl 0 rfl) ?_
  obtain ⟨fs1, x_1, hF1, hv1⟩ := hI.gL hm_h0 hk_h0 8 (ci := 1) ⟨rfl, rfl, by decide, rfl⟩
  refine g_get (ci := 1) (v := .long x_1) (C := RX1) (T := TX1) (N := 9) hx hb hts uB1 hown hK hP hm_h0 hF1 rfl 8 (by decide) wm_233 hv1 dX1_keepIfBetter_2 ?_
  refine W.lcmp hx hb dX1_keepIfBetter_5 ?_
  refine lv_topi (fun x_2 ex_2 => ?_)
  refine lv_if_gt (tgt := 10) hx hb dX1_keepIfBetter_6 (by decide) (fun c_3 => ?_) (fun c_3 => ?_)
  · skip
    refine lv_aload_n hx hb dX1_keepIfBetter_10 rfl (lv_at hl 0 rfl) ?_
    refine lv_lload_n hx hb dX1_keepIfBetter_11 rfl (lv_at hl 1 rfl) ?_
    obtain ⟨fs4, hF4, hn4, -⟩ := hI.o hm_h0 hk_h0 rfl (ci := 1) rfl (n := 9) rfl
    refine g_put (ci := 1) (v := .long z) (ty := .long) (C := RX1) (T := TX1) (N := 9) hx hb hts uB1 tyX1 tyX1_ok nmX1 hown hK hP hD hS hm_h0 hF4 rfl 8 (by decide) wm_233 rfl (by decide +kernel) rfl rfl (by rw [hn4]; decide) dX1_keepIfBetter_12 (fun H locs hP hD hS => ?_)
    obtain ⟨f_5, ef_5⟩ : ∃ z9, z9 = va_up f h0 (.inr (1, List.set fs4 8 (.long z))) := ⟨_, rfl⟩
    have hI := hI.p hm_h0 hk_h0 8 (ci := 1) (t := 2) (v := .long z) ⟨rfl, rfl, by decide, rfl⟩ hF4 fv2
    rw [← ef_5] at hP hD hI
    refine lv_iconst (v := 0) hx hb dX1_keepIfBetter_15 (by decide) ?_
    refine lv_istore_n (lv' := [(3, .int 0), (0, .ref h0), (1, .long z)]) hx hb dX1_keepIfBetter_16 rfl hl (by decide) rfl (fun ls hl => ?_)
    refine k_lx (pcx := 43) (fun n H locs ls => ∃ (fva : Nat → va_E) (j : Nat), pk - j = n ∧ cI K np nc ns lk lc tp cp gp G J mk st ap kd sn L fva ∧ (j ≤ pk) ∧ va_P (dC, dI) vwCl (va_pl L fva) H ∧ va_S A s.heap H locs ∧ lv_has ls 4 [(0, .ref h0), (3, .int (nI j))]) (fun H locs ls => ∃ (fva : Nat → va_E) (j : Nat), cI K np nc ns lk lc tp cp gp G J mk st ap kd sn L fva ∧ (j ≤ pk) ∧ va_P (dC, dI) vwCl (va_pl L fva) H ∧ va_S A s.heap H locs ∧ lv_has ls 4 [(0, .ref h0), (3, .int (nI j))]) (fun H locs ls hI_ => ?_) (fun n H locs ls hI_ hEa iha => ?_) _ _ _ _ ⟨f_5, 0, rfl, hI, Nat.zero_le _, hP, hS, lv_sub hl [1, 0] rfl⟩
    · skip
      obtain ⟨fva, j, hI, hj, hP, hS, hl⟩ := hI_
      have hD : va_D A (va_pl L fva) := g_D hLn (fun a h => by rw [← hAe]; exact h) fva
      exact W.vret hx hb hr (fun t ht hW => ⟨⟨fva, rfl, hI, by show va_P (dC, dI) vwCl (va_pl L fva) t.heap; rw [ht]; exact hP⟩, hS.F ht⟩) hS.2.2 dX1_keepIfBetter_43
    · skip
      obtain ⟨fva, j, hmua, hI, hj, hP, hS, hl⟩ := hI_
      have hD : va_D A (va_pl L fva) := g_D hLn (fun a h => by rw [← hAe]; exact h) fva
      refine lv_iload_n hx hb dX1_keepIfBetter_17 rfl (lv_at hl 1 rfl) ?_
      refine lv_aload_n hx hb dX1_keepIfBetter_18 rfl (lv_at hl 0 rfl) ?_
      obtain ⟨fs6, hF6, hv6⟩ := hI.gJ hm_h0 hk_h0 5 (ci := 1) ⟨rfl, rfl, by decide, rfl⟩
      rw [hj5] at hv6
      refine g_get (ci := 1) (v := .int (nI pk)) (C := RX1) (T := TX1) (N := 9) hx hb hts uB1 hown hK hP hm_h0 hF6 rfl 5 (by decide) wm_227 hv6 dX1_keepIfBetter_19 ?_
      refine lv_icmp_ge (tgt := 43) hx hb dX1_keepIfBetter_22 (by decide) (fun c_7 => ?_) (fun c_7 => ?_)
      · skip
        have nc_7 : pk ≤ j := (bn_le (a := pk) (b := j) (by omega) (by omega)).mp (show nI pk ≤ nI j from c_7)
        exact hEa _ _ _ ⟨fva, j, hI, hj, hP, hS, lv_sub hl [0, 1] rfl⟩
      · skip
        have nc_7 : ¬ (pk ≤ j) := fun q => c_7 (show nI pk ≤ nI j from (bn_le (a := pk) (b := j) (by omega) (by omega)).mpr q)
        refine lv_aload_n hx hb dX1_keepIfBetter_25 rfl (lv_at hl 0 rfl) ?_
        obtain ⟨fs8, b_9, hF8, hv8, hm_b_9, hk_b_9⟩ := hI.gR hm_h0 hk_h0 0 (ci := 1) (t := 9) ⟨rfl, rfl, by decide, rfl⟩
        refine g_get (ci := 1) (v := .ref b_9) (C := RX1) (T := TX1) (N := 9) hx hb hts uB1 hown hK hP hm_h0 hF8 rfl 0 (by decide) wm_242 hv8 dX1_keepIfBetter_26 ?_
        refine lv_iload_n hx hb dX1_keepIfBetter_29 rfl (lv_at hl 1 rfl) ?_
        refine lv_aload_n hx hb dX1_keepIfBetter_30 rfl (lv_at hl 0 rfl) ?_
        obtain ⟨fs10, b_11, hF10, hv10, hm_b_11, hk_b_11⟩ := hI.gR hm_h0 hk_h0 1 (ci := 1) (t := 10) ⟨rfl, rfl, by decide, rfl⟩
        refine g_get (ci := 1) (v := .ref b_11) (C := RX1) (T := TX1) (N := 9) hx hb hts uB1 hown hK hP hm_h0 hF10 rfl 1 (by decide) wm_243 hv10 dX1_keepIfBetter_31 ?_
        refine lv_iload_n hx hb dX1_keepIfBetter_34 rfl (lv_at hl 1 rfl) ?_
        obtain ⟨g12, hF12, hgz12⟩ := hI.a10 hm_b_11 hk_b_11
        refine g_iald hx hb hK hP hm_b_11 hF12 (vp_in_nI (by omega) (by decide)) dX1_keepIfBetter_35 ?_
        refine lv_topi (fun x_13 ex_13 => ?_)
        rw [nI_clamp (by omega)] at ex_13
        have hVx_13 : vld nc x_13 := by rw [ex_13]; exact hgz12 j (by omega)
        obtain ⟨g14, hF14, hgz14⟩ := hI.a9 hm_b_9 hk_b_9
        refine g_iast hx hb hK hP hD hS hm_b_9 hF14 (vp_in_nI (by omega) (by decide)) dX1_keepIfBetter_36 (fun H locs hP hD hS => ?_)
        obtain ⟨g_15, eg_15⟩ : ∃ z9, z9 = upd g14 (Int32.toNatClampNeg (nI j)) x_13 := ⟨_, rfl⟩
        rw [← eg_15] at hP hD
        rw [nI_clamp (by omega)] at eg_15
        obtain ⟨f_16, ef_16⟩ : ∃ z9, z9 = va_up fva b_9 (.inl (K 0, 4, .inl g_15)) := ⟨_, rfl⟩
        have hI := hI.s9 hm_b_9 hk_b_9 (vldSt hgz14 hVx_13 eg_15 (fun i hi => Or.inr hi))
        rw [← ef_16] at hP hD hI
        refine lv_iinc (v := nI (j + 1)) (lv' := [(3, .int (nI (j + 1))), (0, .ref h0)]) hx hb dX1_keepIfBetter_37 hl (k := 1) rfl (by exact nI_1 _) (by decide) rfl (fun ls hl => ?_)
        refine lv_goto (tgt := 17) hx hb dX1_keepIfBetter_40 (by decide) ?_
        exact iha _ (by omega) _ _ _ ⟨f_16, (j + 1), rfl, hI, by omega, hP, hS, lv_sub hl [1, 0] rfl⟩
  · skip
    exact W.vret hx hb hr (fun t ht hW => ⟨⟨f, rfl, hI, by show va_P (dC, dI) vwCl (va_pl L f) t.heap; rw [ht]; exact hP⟩, hS.F ht⟩) hS.2.2 dX1_keepIfBetter_9
