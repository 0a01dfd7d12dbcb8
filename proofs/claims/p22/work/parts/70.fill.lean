set_option maxHeartbeats 4000000 in
set_option maxRecDepth 100000 in
theorem k_fill4 (l : Launch) (dC : Nat → ClassId) (dI : Nat → Nat → Nat) (K : Nat → ClassId) (L : List Nat) (f : Nat → va_E) {np nc ns lk lc tp cp gp : Nat} {G J mk st : Nat → Int32} {ap : Nat → Int64} {kd sn : Nat → Nat} {pk : Nat} {of : Nat} (hI : cI K np nc ns lk lc tp cp gp G J mk st ap kd sn L f) (h0 : Nat) (hm_h0 : h0 ∈ L) (hk_h0 : kd h0 = 6) (z : Int64) (y : Int64) (hj5 : J 5 = nI pk) (hpk : pk ≤ 4) (hj6 : J 6 = nI of) (hof : of ≤ nc) (hnc : nc ≤ 40) (htp : 4 ≤ tp) (hLn : gN L) : gMv l yX1_fillFrom cX1_fillFrom 12 2 (dC, dI) K L f [.ref h0, .int 4, .long z, .long y] (fun f' => cI K np nc ns lk lc 4 cp gp G J mk st ap kd sn L f') := by
  refine Met.ofW (cc := cX1_fillFrom) (maxL := 12) (ret := none) (by decide) rfl ?_
  intro p e s m args below meth c s₁ B hml hv
  obtain ⟨rfl, hP, hK⟩ := hv
  have hD : va_D (fun q : Nat => q ∈ L) (va_pl L f) := g_D hLn (fun a h => h) f
  generalize hAe : (fun q : Nat => q ∈ L) = A at hD ⊢
  have hx := B.exec
  have hb := B.bytes
  have hr := B.returns
  have hlocks := B.notSynchronized
  have hts0 := atoms_spec (ws := Cond.code yX1_fillFrom cX1_fillFrom 12 none :: lw_B) B.pre
  have hts : ∀ w ∈ lw_B, w.before _ s = true := fun w h => hts0 w (List.mem_cons_of_mem _ h)
  have hown : s.vm.findClass RX1 = some m.cls := findClass_of_methodNamed B.named
  have hS : va_S A s.heap s.heap [] := va_S.rf
  have hl := lv_entry ([.ref h0, .int 4, .long z, .long y]) (n := 12) (Nat.le_of_ble_eq_true rfl)
  rw [lg_entry_eq]
  generalize (lg_sl ([.ref h0, .int 4, .long z, .long y]) ++ List.replicate (12 - (lg_sl ([.ref h0, .int 4, .long z, .long y])).length) Slot.unset).toArray = ls at hl ⊢
  have hl : lv_has ls 12 [(0, .ref h0), (1, .int 4), (2, .long z), (4, .long y)] := hl
  have hI := hI.le (tp' := 4) (Nat.le_refl _) (Nat.le_refl _) htp (Nat.le_refl _) (Nat.le_refl _)
  refine lv_iload_n hx hb dX1_fillFrom_0 rfl (lv_at hl 1 rfl) ?_
  refine lv_aload_n hx hb dX1_fillFrom_1 rfl (lv_at hl 0 rfl) ?_
  obtain ⟨fs1, hF1, hv1⟩ := hI.gJ hm_h0 hk_h0 5 (ci := 1) ⟨rfl, rfl, by decide, rfl⟩
  rw [hj5] at hv1
  refine g_get (ci := 1) (v := .int (nI pk)) (C := RX1) (T := TX1) (N := 9) hx hb hts uB1 hown hK hP hm_h0 hF1 rfl 5 (by decide) wm_227 hv1 dX1_fillFrom_2 ?_
  refine lv_icmp_lt (tgt := 15) hx hb dX1_fillFrom_5 (by decide) (fun c_2 => ?_) (fun c_2 => ?_)
  · skip
    have nc_2 : 4 < pk := (bn_lt (a := 4) (b := pk) (by omega) (by omega)).mp (show nI 4 < nI pk from c_2)
    exact (show False by omega).elim
  · skip
    have nc_2 : ¬ (4 < pk) := fun q => c_2 (show nI 4 < nI pk from (bn_lt (a := 4) (b := pk) (by omega) (by omega)).mpr q)
    refine lv_aload_n hx hb dX1_fillFrom_8 rfl (lv_at hl 0 rfl) ?_
    refine lv_lload hx hb dX1_fillFrom_9 (lv_at hl 3 rfl) ?_
    obtain ⟨fs3, hF3, -, -⟩ := hI.o hm_h0 hk_h0 rfl (ci := 1) rfl rfl
    refine gc_Mv (ci := 1) ⟨hx, hb, hml, hown, hts⟩ (k_X1_keepIfBetter l dC dI K L f hI h0 hm_h0 hk_h0 y hj5 hpk (by omega) hLn) 1 wm_244 wm_245 wm_246 wm_238 wm_247 (by decide +kernel) ⟨Nat.le_of_ble_eq_true rfl, Nat.le_of_ble_eq_true rfl⟩ hK rfl hm_h0 hF3 rfl hl.1 rfl (Nat.le_of_ble_eq_true rfl) dX1_fillFrom_11 ⟨Nat.le_of_ble_eq_true rfl, Nat.le_of_ble_eq_true rfl⟩ (fun a h => by rw [← hAe]; exact h) hS hP (fun fw_4 H locs hpw hP hS => ?_)
    have hI := hpw
    have hD : va_D A (va_pl L fw_4) := g_D hLn (fun a h => by rw [← hAe]; exact h) fw_4
    exact W.vret hx hb hr (fun t ht hW => ⟨⟨fw_4, rfl, hI, by show va_P (dC, dI) vwCl (va_pl L fw_4) t.heap; rw [ht]; exact hP⟩, hS.F ht⟩) hS.2.2 dX1_fillFrom_14
set_option maxHeartbeats 4000000 in
set_option maxRecDepth 100000 in
theorem k_try3 (l : Launch) (dC : Nat → ClassId) (dI : Nat → Nat → Nat) (K : Nat → ClassId) (L : List Nat) (f : Nat → va_E) {np nc ns lk lc tp cp gp : Nat} {G J mk st : Nat → Int32} {ap : Nat → Int64} {kd sn : Nat → Nat} {pk : Nat} {of : Nat} (hI : cI K np nc ns lk lc tp cp gp G J mk st ap kd sn L f) (h0 : Nat) (hm_h0 : h0 ∈ L) (hk_h0 : kd h0 = 6) (x : Int32) (z : Int64) (y : Int64) (hj5 : J 5 = nI pk) (hpk : pk ≤ 4) (hj6 : J 6 = nI of) (hof : of ≤ nc) (hnc : nc ≤ 40) (htp : 3 ≤ tp) (hv9 : vld nc x) (hLn : gN L) : gMv l yX1_tryAt cX1_tryAt 7 3 (dC, dI) K L f [.ref h0, .int 3, .int x, .long z, .long y] (fun f' => cI K np nc ns lk lc 3 cp gp G J mk st ap kd sn L f') := by
  refine Met.ofW (cc := cX1_tryAt) (maxL := 7) (ret := none) (by decide) rfl ?_
  intro p e s m args below meth c s₁ B hml hv
  obtain ⟨rfl, hP, hK⟩ := hv
  have hD : va_D (fun q : Nat => q ∈ L) (va_pl L f) := g_D hLn (fun a h => h) f
  generalize hAe : (fun q : Nat => q ∈ L) = A at hD ⊢
  have hx := B.exec
  have hb := B.bytes
  have hr := B.returns
  have hlocks := B.notSynchronized
  have hts0 := atoms_spec (ws := Cond.code yX1_tryAt cX1_tryAt 7 none :: lw_B) B.pre
  have hts : ∀ w ∈ lw_B, w.before _ s = true := fun w h => hts0 w (List.mem_cons_of_mem _ h)
  have hown : s.vm.findClass RX1 = some m.cls := findClass_of_methodNamed B.named
  have hS : va_S A s.heap s.heap [] := va_S.rf
  have hl := lv_entry ([.ref h0, .int 3, .int x, .long z, .long y]) (n := 7) (Nat.le_of_ble_eq_true rfl)
  rw [lg_entry_eq]
  generalize (lg_sl ([.ref h0, .int 3, .int x, .long z, .long y]) ++ List.replicate (7 - (lg_sl ([.ref h0, .int 3, .int x, .long z, .long y])).length) Slot.unset).toArray = ls at hl ⊢
  have hl : lv_has ls 7 [(0, .ref h0), (1, .int 3), (2, .int x), (3, .long z), (5, .long y)] := hl
  refine lv_aload_n hx hb dX1_tryAt_0 rfl (lv_at hl 0 rfl) ?_
  obtain ⟨fs1, b_2, hF1, hv1, hm_b_2, hk_b_2⟩ := hI.gR hm_h0 hk_h0 1 (ci := 1) (t := 10) ⟨rfl, rfl, by decide, rfl⟩
  refine g_get (ci := 1) (v := .ref b_2) (C := RX1) (T := TX1) (N := 9) hx hb hts uB1 hown hK hP hm_h0 hF1 rfl 1 (by decide) wm_243 hv1 dX1_tryAt_1 ?_
  refine lv_iload_n hx hb dX1_tryAt_4 rfl (lv_at hl 1 rfl) ?_
  refine lv_iload_n hx hb dX1_tryAt_5 rfl (lv_at hl 2 rfl) ?_
  obtain ⟨g3, hF3, hgz3⟩ := hI.a10 hm_b_2 hk_b_2
  refine g_iast hx hb hK hP hD hS hm_b_2 hF3 (vp_in_iff.mpr (by decide)) dX1_tryAt_6 (fun H locs hP hD hS => ?_)
  obtain ⟨g_4, eg_4⟩ : ∃ z9, z9 = upd g3 (Int32.toNatClampNeg 3) x := ⟨_, rfl⟩
  rw [← eg_4] at hP hD
  rw [show Int32.toNatClampNeg 3 = 3 from rfl] at eg_4
  obtain ⟨f_5, ef_5⟩ : ∃ z9, z9 = va_up f b_2 (.inl (K 0, 4, .inl g_4)) := ⟨_, rfl⟩
  have hI := hI.s10 hm_b_2 hk_b_2 (tp' := 4) (vldSt hgz3 hv9 eg_4 (fun i hi => by omega))
  rw [← ef_5] at hP hD hI
  refine lv_aload_n hx hb dX1_tryAt_7 rfl (lv_at hl 0 rfl) ?_
  refine lv_iload_n hx hb dX1_tryAt_8 rfl (lv_at hl 1 rfl) ?_
  refine lv_iconst (v := 1) hx hb dX1_tryAt_9 (by decide) ?_
  refine lv_iadd hx hb dX1_tryAt_10 ?_
  refine lv_topi (fun x_6 ex_6 => ?_)
  obtain rfl : x_6 = 4 := ex_6.trans (by decide)
  refine lv_lload_n hx hb dX1_tryAt_11 rfl (lv_at hl 3 rfl) ?_
  refine lv_lload hx hb dX1_tryAt_12 (lv_at hl 4 rfl) ?_
  obtain ⟨fs7, hF7, -, -⟩ := hI.o hm_h0 hk_h0 rfl (ci := 1) rfl rfl
  refine gc_Mv (ci := 1) ⟨hx, hb, hml, hown, hts⟩ (k_fill4 l dC dI K L f_5 hI h0 hm_h0 hk_h0 z y hj5 hpk hj6 hof hnc (Nat.le_refl _) hLn) 3 wm_248 wm_249 wm_250 wm_238 wm_251 (by decide +kernel) ⟨Nat.le_of_ble_eq_true rfl, Nat.le_of_ble_eq_true rfl⟩ hK rfl hm_h0 hF7 rfl hl.1 rfl (Nat.le_of_ble_eq_true rfl) dX1_tryAt_14 ⟨Nat.le_of_ble_eq_true rfl, Nat.le_of_ble_eq_true rfl⟩ (fun a h => by rw [← hAe]; exact h) hS hP (fun fw_8 H locs hpw hP hS => ?_)
  have hI := hpw
  have hD : va_D A (va_pl L fw_8) := g_D hLn (fun a h => by rw [← hAe]; exact h) fw_8
  have hI := hI.le (tp' := 3) (Nat.le_refl _) (Nat.le_refl _) (by decide) (Nat.le_refl _) (Nat.le_refl _)
  exact W.vret hx hb hr (fun t ht hW => ⟨⟨fw_8, rfl, hI, by show va_P (dC, dI) vwCl (va_pl L fw_8) t.heap; rw [ht]; exact hP⟩, hS.F ht⟩) hS.2.2 dX1_tryAt_17
set_option maxHeartbeats 4000000 in
set_option maxRecDepth 100000 in
theorem k_fill3 (l : Launch) (dC : Nat → ClassId) (dI : Nat → Nat → Nat) (K : Nat → ClassId) (L : List Nat) (f : Nat → va_E) {np nc ns lk lc tp cp gp : Nat} {G J mk st : Nat → Int32} {ap : Nat → Int64} {kd sn : Nat → Nat} {pk : Nat} {of : Nat} (hI : cI K np nc ns lk lc tp cp gp G J mk st ap kd sn L f) (h0 : Nat) (hm_h0 : h0 ∈ L) (hk_h0 : kd h0 = 6) (z : Int64) (y : Int64) (hj5 : J 5 = nI pk) (hpk : pk ≤ 4) (hj6 : J 6 = nI of) (hof : of ≤ nc) (hnc : nc ≤ 40) (htp : 3 ≤ tp) (hLn : gN L) : gMv l yX1_fillFrom cX1_fillFrom 12 4 (dC, dI) K L f [.ref h0, .int 3, .long z, .long y] (fun f' => cI K np nc ns lk lc 3 cp gp G J mk st ap kd sn L f') := by
  refine Met.ofW (cc := cX1_fillFrom) (maxL := 12) (ret := none) (by decide) rfl ?_
  intro p e s m args below meth c s₁ B hml hv
  obtain ⟨rfl, hP, hK⟩ := hv
  have hD : va_D (fun q : Nat => q ∈ L) (va_pl L f) := g_D hLn (fun a h => h) f
  generalize hAe : (fun q : Nat => q ∈ L) = A at hD ⊢
  have hx := B.exec
  have hb := B.bytes
  have hr := B.returns
  have hlocks := B.notSynchronized
  have hts0 := atoms_spec (ws := Cond.code yX1_fillFrom cX1_fillFrom 12 none :: lw_B) B.pre
  have hts : ∀ w ∈ lw_B, w.before _ s = true := fun w h => hts0 w (List.mem_cons_of_mem _ h)
  have hown : s.vm.findClass RX1 = some m.cls := findClass_of_methodNamed B.named
  have hS : va_S A s.heap s.heap [] := va_S.rf
  have hl := lv_entry ([.ref h0, .int 3, .long z, .long y]) (n := 12) (Nat.le_of_ble_eq_true rfl)
  rw [lg_entry_eq]
  generalize (lg_sl ([.ref h0, .int 3, .long z, .long y]) ++ List.replicate (12 - (lg_sl ([.ref h0, .int 3, .long z, .long y])).length) Slot.unset).toArray = ls at hl ⊢
  have hl : lv_has ls 12 [(0, .ref h0), (1, .int 3), (2, .long z), (4, .long y)] := hl
  have hI := hI.le (tp' := 3) (Nat.le_refl _) (Nat.le_refl _) htp (Nat.le_refl _) (Nat.le_refl _)
  refine lv_iload_n hx hb dX1_fillFrom_0 rfl (lv_at hl 1 rfl) ?_
  refine lv_aload_n hx hb dX1_fillFrom_1 rfl (lv_at hl 0 rfl) ?_
  obtain ⟨fs1, hF1, hv1⟩ := hI.gJ hm_h0 hk_h0 5 (ci := 1) ⟨rfl, rfl, by decide, rfl⟩
  rw [hj5] at hv1
  refine g_get (ci := 1) (v := .int (nI pk)) (C := RX1) (T := TX1) (N := 9) hx hb hts uB1 hown hK hP hm_h0 hF1 rfl 5 (by decide) wm_227 hv1 dX1_fillFrom_2 ?_
  refine lv_icmp_lt (tgt := 15) hx hb dX1_fillFrom_5 (by decide) (fun c_2 => ?_) (fun c_2 => ?_)
  · skip
    have nc_2 : 3 < pk := (bn_lt (a := 3) (b := pk) (by omega) (by omega)).mp (show nI 3 < nI pk from c_2)
    refine lv_lload hx hb dX1_fillFrom_15 (lv_at hl 3 rfl) ?_
    refine lv_aload_n hx hb dX1_fillFrom_17 rfl (lv_at hl 0 rfl) ?_
    refine lv_iload_n hx hb dX1_fillFrom_18 rfl (lv_at hl 1 rfl) ?_
    refine lv_iconst (v := 1) hx hb dX1_fillFrom_19 (by decide) ?_
    refine lv_iadd hx hb dX1_fillFrom_20 ?_
    refine lv_topi (fun x_3 ex_3 => ?_)
    obtain rfl : x_3 = 4 := ex_3.trans (by decide)
    refine lv_lload_n hx hb dX1_fillFrom_21 rfl (lv_at hl 2 rfl) ?_
    obtain ⟨fs4, hF4, -, -⟩ := hI.o hm_h0 hk_h0 rfl (ci := 1) rfl rfl
    refine gc_Rl (ci := 1) ⟨hx, hb, hml, hown, hts⟩ (k_X1_mostFrom l dC dI K L f hI h0 hm_h0 hk_h0 4 z (by omega) hj5 hpk hj6 hof hnc) 2 wm_252 wm_253 wm_254 wm_238 wm_255 (by decide +kernel) ⟨Nat.le_of_ble_eq_true rfl, Nat.le_of_ble_eq_true rfl⟩ hK rfl hm_h0 hF4 rfl hl.1 rfl (Nat.le_of_ble_eq_true rfl) dX1_fillFrom_22 ⟨Nat.le_of_ble_eq_true rfl, Nat.le_of_ble_eq_true rfl⟩ hS hP (fun r_5 H locs hpr_5 hP hS => ?_)
    refine lv_ladd hx hb dX1_fillFrom_25 ?_
    refine lv_topl (fun x_6 ex_6 => ?_)
    refine lv_lstore (lv' := [(6, .long x_6), (0, .ref h0), (1, .int 3), (2, .long z), (4, .long y)]) hx hb dX1_fillFrom_26 hl (by decide) rfl (fun ls hl => ?_)
    refine lv_iconst (v := 0) hx hb dX1_fillFrom_28 (by decide) ?_
    refine lv_istore (lv' := [(8, .int 0), (6, .long x_6), (0, .ref h0), (1, .int 3), (2, .long z), (4, .long y)]) hx hb dX1_fillFrom_29 hl (by decide) rfl (fun ls hl => ?_)
    refine k_lx (pcx := 126) (fun n H locs ls => ∃ (fva : Nat → va_E) (j : Nat) (ms : Int64), of - j = n ∧ cI K np nc ns lk lc 3 cp gp G J mk st ap kd sn L fva ∧ (j ≤ of) ∧ va_P (dC, dI) vwCl (va_pl L fva) H ∧ va_S A s.heap H locs ∧ lv_has ls 12 [(0, .ref h0), (1, .int 3), (2, .long z), (4, .long y), (6, .long ms), (8, .int (nI j))]) (fun H locs ls => ∃ (fva : Nat → va_E) (j : Nat) (ms : Int64), cI K np nc ns lk lc 3 cp gp G J mk st ap kd sn L fva ∧ (j ≤ of) ∧ va_P (dC, dI) vwCl (va_pl L fva) H ∧ va_S A s.heap H locs ∧ lv_has ls 12 [(0, .ref h0), (1, .int 3), (2, .long z), (4, .long y), (6, .long ms), (8, .int (nI j))]) (fun H locs ls hI_ => ?_) (fun n H locs ls hI_ hEa iha => ?_) _ _ _ _ ⟨f, 0, _, rfl, hI, Nat.zero_le _, hP, hS, lv_sub hl [2, 3, 4, 5, 1, 0] rfl⟩
    · skip
      obtain ⟨fva, j, ms, hI, hj, hP, hS, hl⟩ := hI_
      have hD : va_D A (va_pl L fva) := g_D hLn (fun a h => by rw [← hAe]; exact h) fva
      refine lv_lload hx hb dX1_fillFrom_126 (lv_at hl 4 rfl) ?_
      refine lv_aload_n hx hb dX1_fillFrom_128 rfl (lv_at hl 0 rfl) ?_
      obtain ⟨fs7, x_7, hF7, hv7⟩ := hI.gL hm_h0 hk_h0 8 (ci := 1) ⟨rfl, rfl, by decide, rfl⟩
      refine g_get (ci := 1) (v := .long x_7) (C := RX1) (T := TX1) (N := 9) hx hb hts uB1 hown hK hP hm_h0 hF7 rfl 8 (by decide) wm_233 hv7 dX1_fillFrom_129 ?_
      refine W.lcmp hx hb dX1_fillFrom_132 ?_
      refine lv_topi (fun x_8 ex_8 => ?_)
      refine lv_if_le (tgt := 145) hx hb dX1_fillFrom_133 (by decide) (fun c_9 => ?_) (fun c_9 => ?_)
      · skip
        exact W.vret hx hb hr (fun t ht hW => ⟨⟨fva, rfl, hI, by show va_P (dC, dI) vwCl (va_pl L fva) t.heap; rw [ht]; exact hP⟩, hS.F ht⟩) hS.2.2 dX1_fillFrom_145
      · skip
        refine lv_aload_n hx hb dX1_fillFrom_136 rfl (lv_at hl 0 rfl) ?_
        refine lv_iload_n hx hb dX1_fillFrom_137 rfl (lv_at hl 1 rfl) ?_
        refine lv_iconst (v := (-1)) hx hb dX1_fillFrom_138 (by decide) ?_
        refine lv_lload_n hx hb dX1_fillFrom_139 rfl (lv_at hl 2 rfl) ?_
        refine lv_lload hx hb dX1_fillFrom_140 (lv_at hl 3 rfl) ?_
        obtain ⟨fs10, hF10, -, -⟩ := hI.o hm_h0 hk_h0 rfl (ci := 1) rfl rfl
        refine gc_Mv (ci := 1) ⟨hx, hb, hml, hown, hts⟩ (k_try3 l dC dI K L fva hI h0 hm_h0 hk_h0 (-1) z y hj5 hpk hj6 hof hnc (by omega) (Or.inl rfl) hLn) 4 wm_256 wm_257 wm_258 wm_238 wm_259 (by decide +kernel) ⟨Nat.le_of_ble_eq_true rfl, Nat.le_of_ble_eq_true rfl⟩ hK rfl hm_h0 hF10 rfl hl.1 rfl (Nat.le_of_ble_eq_true rfl) dX1_fillFrom_142 ⟨Nat.le_of_ble_eq_true rfl, Nat.le_of_ble_eq_true rfl⟩ (fun a h => by rw [← hAe]; exact h) hS hP (fun fw_11 H locs hpw hP hS => ?_)
        have hI := hpw
        have hD : va_D A (va_pl L fw_11) := g_D hLn (fun a h => by rw [← hAe]; exact h) fw_11
        exact W.vret hx hb hr (fun t ht hW => ⟨⟨fw_11, rfl, hI, by show va_P (dC, dI) vwCl (va_pl L fw_11) t.heap; rw [ht]; exact hP⟩, hS.F ht⟩) hS.2.2 dX1_fillFrom_145
    · skip
      obtain ⟨fva, j, ms, hmua, hI, hj, hP, hS, hl⟩ := hI_
      have hD : va_D A (va_pl L fva) := g_D hLn (fun a h => by rw [← hAe]; exact h) fva
      refine lv_iload hx hb dX1_fillFrom_31 (lv_at hl 5 rfl) ?_
      refine lv_aload_n hx hb dX1_fillFrom_33 rfl (lv_at hl 0 rfl) ?_
      obtain ⟨fs12, hF12, hv12⟩ := hI.gJ hm_h0 hk_h0 6 (ci := 1) ⟨rfl, rfl, by decide, rfl⟩
      rw [hj6] at hv12
      refine g_get (ci := 1) (v := .int (nI of)) (C := RX1) (T := TX1) (N := 9) hx hb hts uB1 hown hK hP hm_h0 hF12 rfl 6 (by decide) wm_228 hv12 dX1_fillFrom_34 ?_
      refine lv_icmp_ge (tgt := 126) hx hb dX1_fillFrom_37 (by decide) (fun c_13 => ?_) (fun c_13 => ?_)
      · skip
        have nc_13 : of ≤ j := (bn_le (a := of) (b := j) (by omega) (by omega)).mp (show nI of ≤ nI j from c_13)
        exact hEa _ _ _ ⟨fva, j, ms, hI, hj, hP, hS, lv_sub hl [0, 1, 2, 3, 4, 5] rfl⟩
      · skip
        have nc_13 : ¬ (of ≤ j) := fun q => c_13 (show nI of ≤ nI j from (bn_le (a := of) (b := j) (by omega) (by omega)).mpr q)
        refine lv_aload_n hx hb dX1_fillFrom_40 rfl (lv_at hl 0 rfl) ?_
        obtain ⟨fs14, b_15, hF14, hv14, hm_b_15, hk_b_15⟩ := hI.gR hm_h0 hk_h0 3 (ci := 1) (t := 12) ⟨rfl, rfl, by decide, rfl⟩
        refine g_get (ci := 1) (v := .ref b_15) (C := RX1) (T := TX1) (N := 9) hx hb hts uB1 hown hK hP hm_h0 hF14 rfl 3 (by decide) wm_234 hv14 dX1_fillFrom_41 ?_
        refine lv_iload_n hx hb dX1_fillFrom_44 rfl (lv_at hl 1 rfl) ?_
        obtain ⟨g16, hF16, hgz16⟩ := hI.a12 hm_b_15 hk_b_15
        obtain ⟨b_17, hm_b_17, hk_b_17, hv16⟩ := hgz16 3 (by omega)
        refine g_ald2 (t := 7) hx hb hK hP hm_b_15 hF16 rfl (vp_in_iff.mpr (by decide)) hv16 dX1_fillFrom_45 ?_
        refine lv_iload hx hb dX1_fillFrom_46 (lv_at hl 5 rfl) ?_
        obtain ⟨g18, hF18, hgz18⟩ := hI.a15 hm_b_17 hk_b_17
        refine g_iald hx hb hK hP hm_b_17 hF18 (vp_in_nI (by omega) (by decide)) dX1_fillFrom_48 ?_
        refine lv_topi (fun x_19 ex_19 => ?_)
        rw [nI_clamp (by omega)] at ex_19
        obtain ⟨q_20, h4q_20, hcq_20, heq_20⟩ := hgz18 j (by omega)
        obtain rfl : x_19 = nI (q_20) := ex_19.trans heq_20
        refine lv_istore (lv' := [(9, .int (nI q_20)), (0, .ref h0), (1, .int 3), (2, .long z), (4, .long y), (6, .long ms), (8, .int (nI j))]) hx hb dX1_fillFrom_49 hl (by decide) rfl (fun ls hl => ?_)
        refine lv_lload_n hx hb dX1_fillFrom_51 rfl (lv_at hl 3 rfl) ?_
        refine lv_iload hx hb dX1_fillFrom_52 (lv_at hl 0 rfl) ?_
        refine lv_lushr hx hb dX1_fillFrom_54 rfl ?_
        refine lv_topl (fun x_21 ex_21 => ?_)
        refine lv_lconst (v := 1) hx hb dX1_fillFrom_55 rfl ?_
        refine lv_land hx hb dX1_fillFrom_56 ?_
        refine lv_topl (fun x_22 ex_22 => ?_)
        refine lv_lconst (v := 0) hx hb dX1_fillFrom_57 rfl ?_
        refine W.lcmp hx hb dX1_fillFrom_58 ?_
        refine lv_topi (fun x_23 ex_23 => ?_)
        refine lv_if_ne (tgt := 65) hx hb dX1_fillFrom_59 (by decide) (fun c_24 => ?_) (fun c_24 => ?_)
        · skip
          refine lv_aload_n hx hb dX1_fillFrom_65 rfl (lv_at hl 1 rfl) ?_
          obtain ⟨fs25, b_26, hF25, hv25, hm_b_26, hk_b_26⟩ := hI.gR hm_h0 hk_h0 2 (ci := 1) (t := 11) ⟨rfl, rfl, by decide, rfl⟩
          refine g_get (ci := 1) (v := .ref b_26) (C := RX1) (T := TX1) (N := 9) hx hb hts uB1 hown hK hP hm_h0 hF25 rfl 2 (by decide) wm_231 hv25 dX1_fillFrom_66 ?_
          refine lv_iload_n hx hb dX1_fillFrom_69 rfl (lv_at hl 2 rfl) ?_
          obtain ⟨g27, hF27, hgz27⟩ := hI.a11 hm_b_26 hk_b_26
          obtain ⟨b_28, hm_b_28, hk_b_28, hv27⟩ := hgz27 3 (by omega)
          refine g_ald2 (t := 6) hx hb hK hP hm_b_26 hF27 rfl (vp_in_iff.mpr (by decide)) hv27 dX1_fillFrom_70 ?_
          refine lv_iload hx hb dX1_fillFrom_71 (lv_at hl 0 rfl) ?_
          obtain ⟨g29, hF29⟩ := hI.a14 hm_b_28 hk_b_28
          refine g_lald hx hb hK hP hm_b_28 hF29 (vp_in_nI (by omega) (by decide)) dX1_fillFrom_73 ?_
          refine lv_topl (fun x_30 ex_30 => ?_)
          refine lv_lstore (lv' := [(10, .long x_30), (9, .int (nI q_20)), (0, .ref h0), (1, .int 3), (2, .long z), (4, .long y), (6, .long ms), (8, .int (nI j))]) hx hb dX1_fillFrom_74 hl (by decide) rfl (fun ls hl => ?_)
          refine lv_lload hx hb dX1_fillFrom_76 (lv_at hl 6 rfl) ?_
          refine lv_lload hx hb dX1_fillFrom_78 (lv_at hl 0 rfl) ?_
          refine lv_ladd hx hb dX1_fillFrom_80 ?_
          refine lv_topl (fun x_31 ex_31 => ?_)
          refine lv_aload_n hx hb dX1_fillFrom_81 rfl (lv_at hl 2 rfl) ?_
          obtain ⟨fs32, x_32, hF32, hv32⟩ := hI.gL hm_h0 hk_h0 8 (ci := 1) ⟨rfl, rfl, by decide, rfl⟩
          refine g_get (ci := 1) (v := .long x_32) (C := RX1) (T := TX1) (N := 9) hx hb hts uB1 hown hK hP hm_h0 hF32 rfl 8 (by decide) wm_233 hv32 dX1_fillFrom_82 ?_
          refine W.lcmp hx hb dX1_fillFrom_85 ?_
          refine lv_topi (fun x_33 ex_33 => ?_)
          refine lv_if_gt (tgt := 90) hx hb dX1_fillFrom_86 (by decide) (fun c_34 => ?_) (fun c_34 => ?_)
          · skip
            refine lv_aload_n hx hb dX1_fillFrom_90 rfl (lv_at hl 2 rfl) ?_
            refine lv_iload_n hx hb dX1_fillFrom_91 rfl (lv_at hl 3 rfl) ?_
            refine lv_iload hx hb dX1_fillFrom_92 (lv_at hl 1 rfl) ?_
            refine lv_lload_n hx hb dX1_fillFrom_94 rfl (lv_at hl 4 rfl) ?_
            refine lv_aload_n hx hb dX1_fillFrom_95 rfl (lv_at hl 2 rfl) ?_
            obtain ⟨fs35, b_36, hF35, hv35, hm_b_36, hk_b_36⟩ := hI.gR hm_h0 hk_h0 4 (ci := 1) (t := 13) ⟨rfl, rfl, by decide, rfl⟩
            refine g_get (ci := 1) (v := .ref b_36) (C := RX1) (T := TX1) (N := 9) hx hb hts uB1 hown hK hP hm_h0 hF35 rfl 4 (by decide) wm_230 hv35 dX1_fillFrom_96 ?_
            refine lv_iload hx hb dX1_fillFrom_99 (lv_at hl 1 rfl) ?_
            obtain ⟨g37, hF37⟩ := hI.a13 hm_b_36 hk_b_36
            refine g_lald hx hb hK hP hm_b_36 hF37 (vp_in_nI (by omega) (by decide)) dX1_fillFrom_101 ?_
            refine lv_topl (fun x_38 ex_38 => ?_)
            refine lv_lconst (v := 1) hx hb dX1_fillFrom_102 rfl ?_
            refine lv_iload hx hb dX1_fillFrom_103 (lv_at hl 1 rfl) ?_
            refine lv_lshl hx hb dX1_fillFrom_105 rfl ?_
            refine lv_topl (fun x_39 ex_39 => ?_)
            refine lv_lor hx hb dX1_fillFrom_106 ?_
            refine lv_topl (fun x_40 ex_40 => ?_)
            refine lv_ldc2 (v := (-1)) hx hb hown (hts _ wm_260) dX1_fillFrom_107 ?_
            refine lv_lxor hx hb dX1_fillFrom_110 ?_
            refine lv_topl (fun x_41 ex_41 => ?_)
            refine lv_land hx hb dX1_fillFrom_111 ?_
            refine lv_topl (fun x_42 ex_42 => ?_)
            refine lv_lload hx hb dX1_fillFrom_112 (lv_at hl 5 rfl) ?_
            refine lv_lload hx hb dX1_fillFrom_114 (lv_at hl 0 rfl) ?_
            refine lv_ladd hx hb dX1_fillFrom_116 ?_
            refine lv_topl (fun x_43 ex_43 => ?_)
            obtain ⟨fs44, hF44, -, -⟩ := hI.o hm_h0 hk_h0 rfl (ci := 1) rfl rfl
            refine gc_Mv (ci := 1) ⟨hx, hb, hml, hown, hts⟩ (k_try3 l dC dI K L fva hI h0 hm_h0 hk_h0 (nI q_20) x_42 x_43 hj5 hpk hj6 hof hnc (by omega) (Or.inr ⟨q_20, by omega, rfl⟩) hLn) 4 wm_256 wm_257 wm_258 wm_238 wm_259 (by decide +kernel) ⟨Nat.le_of_ble_eq_true rfl, Nat.le_of_ble_eq_true rfl⟩ hK rfl hm_h0 hF44 rfl hl.1 rfl (Nat.le_of_ble_eq_true rfl) dX1_fillFrom_117 ⟨Nat.le_of_ble_eq_true rfl, Nat.le_of_ble_eq_true rfl⟩ (fun a h => by rw [← hAe]; exact h) hS hP (fun fw_45 H locs hpw hP hS => ?_)
            have hI := hpw
            have hD : va_D A (va_pl L fw_45) := g_D hLn (fun a h => by rw [← hAe]; exact h) fw_45
            refine lv_iinc (v := nI (j + 1)) (lv' := [(8, .int (nI (j + 1))), (10, .long x_30), (9, .int (nI q_20)), (0, .ref h0), (1, .int 3), (2, .long z), (4, .long y), (6, .long ms)]) hx hb dX1_fillFrom_120 hl (k := 7) rfl (by exact nI_1 _) (by decide) rfl (fun ls hl => ?_)
            refine lv_goto (tgt := 31) hx hb dX1_fillFrom_123 (by decide) ?_
            exact iha _ (by omega) _ _ _ ⟨fw_45, (j + 1), ms, rfl, hI, by omega, hP, hS, lv_sub hl [3, 4, 5, 6, 7, 0] rfl⟩
          · skip
            exact W.vret hx hb hr (fun t ht hW => ⟨⟨fva, rfl, hI, by show va_P (dC, dI) vwCl (va_pl L fva) t.heap; rw [ht]; exact hP⟩, hS.F ht⟩) hS.2.2 dX1_fillFrom_89
        · skip
          refine lv_goto (tgt := 120) hx hb dX1_fillFrom_62 (by decide) ?_
          refine lv_iinc (v := nI (j + 1)) (lv' := [(8, .int (nI (j + 1))), (9, .int (nI q_20)), (0, .ref h0), (1, .int 3), (2, .long z), (4, .long y), (6, .long ms)]) hx hb dX1_fillFrom_120 hl (k := 6) rfl (by exact nI_1 _) (by decide) rfl (fun ls hl => ?_)
          refine lv_goto (tgt := 31) hx hb dX1_fillFrom_123 (by decide) ?_
          exact iha _ (by omega) _ _ _ ⟨fva, (j + 1), ms, rfl, hI, by omega, hP, hS, lv_sub hl [2, 3, 4, 5, 6, 0] rfl⟩
  · skip
    have nc_2 : ¬ (3 < pk) := fun q => c_2 (show nI 3 < nI pk from (bn_lt (a := 3) (b := pk) (by omega) (by omega)).mpr q)
    refine lv_aload_n hx hb dX1_fillFrom_8 rfl (lv_at hl 0 rfl) ?_
    refine lv_lload hx hb dX1_fillFrom_9 (lv_at hl 3 rfl) ?_
    obtain ⟨fs46, hF46, -, -⟩ := hI.o hm_h0 hk_h0 rfl (ci := 1) rfl rfl
    refine gc_Mv (ci := 1) ⟨hx, hb, hml, hown, hts⟩ (k_X1_keepIfBetter l dC dI K L f hI h0 hm_h0 hk_h0 y hj5 hpk (by omega) hLn) 1 wm_244 wm_245 wm_246 wm_238 wm_247 (by decide +kernel) ⟨Nat.le_of_ble_eq_true rfl, Nat.le_of_ble_eq_true rfl⟩ hK rfl hm_h0 hF46 rfl hl.1 rfl (Nat.le_of_ble_eq_true rfl) dX1_fillFrom_11 ⟨Nat.le_of_ble_eq_true rfl, Nat.le_of_ble_eq_true rfl⟩ (fun a h => by rw [← hAe]; exact h) hS hP (fun fw_47 H locs hpw hP hS => ?_)
    have hI := hpw
    have hD : va_D A (va_pl L fw_47) := g_D hLn (fun a h => by rw [← hAe]; exact h) fw_47
    exact W.vret hx hb hr (fun t ht hW => ⟨⟨fw_47, rfl, hI, by show va_P (dC, dI) vwCl (va_pl L fw_47) t.heap; rw [ht]; exact hP⟩, hS.F ht⟩) hS.2.2 dX1_fillFrom_14
set_option maxHeartbeats 4000000 in
set_option maxRecDepth 100000 in
theorem k_try2 (l : Launch) (dC : Nat → ClassId) (dI : Nat → Nat → Nat) (K : Nat → ClassId) (L : List Nat) (f : Nat → va_E) {np nc ns lk lc tp cp gp : Nat} {G J mk st : Nat → Int32} {ap : Nat → Int64} {kd sn : Nat → Nat} {pk : Nat} {of : Nat} (hI : cI K np nc ns lk lc tp cp gp G J mk st ap kd sn L f) (h0 : Nat) (hm_h0 : h0 ∈ L) (hk_h0 : kd h0 = 6) (x : Int32) (z : Int64) (y : Int64) (hj5 : J 5 = nI pk) (hpk : pk ≤ 4) (hj6 : J 6 = nI of) (hof : of ≤ nc) (hnc : nc ≤ 40) (htp : 2 ≤ tp) (hv9 : vld nc x) (hLn : gN L) : gMv l yX1_tryAt cX1_tryAt 7 5 (dC, dI) K L f [.ref h0, .int 2, .int x, .long z, .long y] (fun f' => cI K np nc ns lk lc 2 cp gp G J mk st ap kd sn L f') := by
  refine Met.ofW (cc := cX1_tryAt) (maxL := 7) (ret := none) (by decide) rfl ?_
  intro p e s m args below meth c s₁ B hml hv
  obtain ⟨rfl, hP, hK⟩ := hv
  have hD : va_D (fun q : Nat => q ∈ L) (va_pl L f) := g_D hLn (fun a h => h) f
  generalize hAe : (fun q : Nat => q ∈ L) = A at hD ⊢
  have hx := B.exec
  have hb := B.bytes
  have hr := B.returns
  have hlocks := B.notSynchronized
  have hts0 := atoms_spec (ws := Cond.code yX1_tryAt cX1_tryAt 7 none :: lw_B) B.pre
  have hts : ∀ w ∈ lw_B, w.before _ s = true := fun w h => hts0 w (List.mem_cons_of_mem _ h)
  have hown : s.vm.findClass RX1 = some m.cls := findClass_of_methodNamed B.named
  have hS : va_S A s.heap s.heap [] := va_S.rf
  have hl := lv_entry ([.ref h0, .int 2, .int x, .long z, .long y]) (n := 7) (Nat.le_of_ble_eq_true rfl)
  rw [lg_entry_eq]
  generalize (lg_sl ([.ref h0, .int 2, .int x, .long z, .long y]) ++ List.replicate (7 - (lg_sl ([.ref h0, .int 2, .int x, .long z, .long y])).length) Slot.unset).toArray = ls at hl ⊢
  have hl : lv_has ls 7 [(0, .ref h0), (1, .int 2), (2, .int x), (3, .long z), (5, .long y)] := hl
  refine lv_aload_n hx hb dX1_tryAt_0 rfl (lv_at hl 0 rfl) ?_
  obtain ⟨fs1, b_2, hF1, hv1, hm_b_2, hk_b_2⟩ := hI.gR hm_h0 hk_h0 1 (ci := 1) (t := 10) ⟨rfl, rfl, by decide, rfl⟩
  refine g_get (ci := 1) (v := .ref b_2) (C := RX1) (T := TX1) (N := 9) hx hb hts uB1 hown hK hP hm_h0 hF1 rfl 1 (by decide) wm_243 hv1 dX1_tryAt_1 ?_
  refine lv_iload_n hx hb dX1_tryAt_4 rfl (lv_at hl 1 rfl) ?_
  refine lv_iload_n hx hb dX1_tryAt_5 rfl (lv_at hl 2 rfl) ?_
  obtain ⟨g3, hF3, hgz3⟩ := hI.a10 hm_b_2 hk_b_2
  refine g_iast hx hb hK hP hD hS hm_b_2 hF3 (vp_in_iff.mpr (by decide)) dX1_tryAt_6 (fun H locs hP hD hS => ?_)
  obtain ⟨g_4, eg_4⟩ : ∃ z9, z9 = upd g3 (Int32.toNatClampNeg 2) x := ⟨_, rfl⟩
  rw [← eg_4] at hP hD
  rw [show Int32.toNatClampNeg 2 = 2 from rfl] at eg_4
  obtain ⟨f_5, ef_5⟩ : ∃ z9, z9 = va_up f b_2 (.inl (K 0, 4, .inl g_4)) := ⟨_, rfl⟩
  have hI := hI.s10 hm_b_2 hk_b_2 (tp' := 3) (vldSt hgz3 hv9 eg_4 (fun i hi => by omega))
  rw [← ef_5] at hP hD hI
  refine lv_aload_n hx hb dX1_tryAt_7 rfl (lv_at hl 0 rfl) ?_
  refine lv_iload_n hx hb dX1_tryAt_8 rfl (lv_at hl 1 rfl) ?_
  refine lv_iconst (v := 1) hx hb dX1_tryAt_9 (by decide) ?_
  refine lv_iadd hx hb dX1_tryAt_10 ?_
  refine lv_topi (fun x_6 ex_6 => ?_)
  obtain rfl : x_6 = 3 := ex_6.trans (by decide)
  refine lv_lload_n hx hb dX1_tryAt_11 rfl (lv_at hl 3 rfl) ?_
  refine lv_lload hx hb dX1_tryAt_12 (lv_at hl 4 rfl) ?_
  obtain ⟨fs7, hF7, -, -⟩ := hI.o hm_h0 hk_h0 rfl (ci := 1) rfl rfl
  refine gc_Mv (ci := 1) ⟨hx, hb, hml, hown, hts⟩ (k_fill3 l dC dI K L f_5 hI h0 hm_h0 hk_h0 z y hj5 hpk hj6 hof hnc (Nat.le_refl _) hLn) 3 wm_248 wm_249 wm_250 wm_238 wm_251 (by decide +kernel) ⟨Nat.le_of_ble_eq_true rfl, Nat.le_of_ble_eq_true rfl⟩ hK rfl hm_h0 hF7 rfl hl.1 rfl (Nat.le_of_ble_eq_true rfl) dX1_tryAt_14 ⟨Nat.le_of_ble_eq_true rfl, Nat.le_of_ble_eq_true rfl⟩ (fun a h => by rw [← hAe]; exact h) hS hP (fun fw_8 H locs hpw hP hS => ?_)
  have hI := hpw
  have hD : va_D A (va_pl L fw_8) := g_D hLn (fun a h => by rw [← hAe]; exact h) fw_8
  have hI := hI.le (tp' := 2) (Nat.le_refl _) (Nat.le_refl _) (by decide) (Nat.le_refl _) (Nat.le_refl _)
  exact W.vret hx hb hr (fun t ht hW => ⟨⟨fw_8, rfl, hI, by show va_P (dC, dI) vwCl (va_pl L fw_8) t.heap; rw [ht]; exact hP⟩, hS.F ht⟩) hS.2.2 dX1_tryAt_17
set_option maxHeartbeats 4000000 in
set_option maxRecDepth 100000 in
theorem k_fill2 (l : Launch) (dC : Nat → ClassId) (dI : Nat → Nat → Nat) (K : Nat → ClassId) (L : List Nat) (f : Nat → va_E) {np nc ns lk lc tp cp gp : Nat} {G J mk st : Nat → Int32} {ap : Nat → Int64} {kd sn : Nat → Nat} {pk : Nat} {of : Nat} (hI : cI K np nc ns lk lc tp cp gp G J mk st ap kd sn L f) (h0 : Nat) (hm_h0 : h0 ∈ L) (hk_h0 : kd h0 = 6) (z : Int64) (y : Int64) (hj5 : J 5 = nI pk) (hpk : pk ≤ 4) (hj6 : J 6 = nI of) (hof : of ≤ nc) (hnc : nc ≤ 40) (htp : 2 ≤ tp) (hLn : gN L) : gMv l yX1_fillFrom cX1_fillFrom 12 6 (dC, dI) K L f [.ref h0, .int 2, .long z, .long y] (fun f' => cI K np nc ns lk lc 2 cp gp G J mk st ap kd sn L f') := by
  refine Met.ofW (cc := cX1_fillFrom) (maxL := 12) (ret := none) (by decide) rfl ?_
  intro p e s m args below meth c s₁ B hml hv
  obtain ⟨rfl, hP, hK⟩ := hv
  have hD : va_D (fun q : Nat => q ∈ L) (va_pl L f) := g_D hLn (fun a h => h) f
  generalize hAe : (fun q : Nat => q ∈ L) = A at hD ⊢
  have hx := B.exec
  have hb := B.bytes
  have hr := B.returns
  have hlocks := B.notSynchronized
  have hts0 := atoms_spec (ws := Cond.code yX1_fillFrom cX1_fillFrom 12 none :: lw_B) B.pre
  have hts : ∀ w ∈ lw_B, w.before _ s = true := fun w h => hts0 w (List.mem_cons_of_mem _ h)
  have hown : s.vm.findClass RX1 = some m.cls := findClass_of_methodNamed B.named
  have hS : va_S A s.heap s.heap [] := va_S.rf
  have hl := lv_entry ([.ref h0, .int 2, .long z, .long y]) (n := 12) (Nat.le_of_ble_eq_true rfl)
  rw [lg_entry_eq]
  generalize (lg_sl ([.ref h0, .int 2, .long z, .long y]) ++ List.replicate (12 - (lg_sl ([.ref h0, .int 2, .long z, .long y])).length) Slot.unset).toArray = ls at hl ⊢
  have hl : lv_has ls 12 [(0, .ref h0), (1, .int 2), (2, .long z), (4, .long y)] := hl
  have hI := hI.le (tp' := 2) (Nat.le_refl _) (Nat.le_refl _) htp (Nat.le_refl _) (Nat.le_refl _)
  refine lv_iload_n hx hb dX1_fillFrom_0 rfl (lv_at hl 1 rfl) ?_
  refine lv_aload_n hx hb dX1_fillFrom_1 rfl (lv_at hl 0 rfl) ?_
  obtain ⟨fs1, hF1, hv1⟩ := hI.gJ hm_h0 hk_h0 5 (ci := 1) ⟨rfl, rfl, by decide, rfl⟩
  rw [hj5] at hv1
  refine g_get (ci := 1) (v := .int (nI pk)) (C := RX1) (T := TX1) (N := 9) hx hb hts uB1 hown hK hP hm_h0 hF1 rfl 5 (by decide) wm_227 hv1 dX1_fillFrom_2 ?_
  refine lv_icmp_lt (tgt := 15) hx hb dX1_fillFrom_5 (by decide) (fun c_2 => ?_) (fun c_2 => ?_)
  · skip
    have nc_2 : 2 < pk := (bn_lt (a := 2) (b := pk) (by omega) (by omega)).mp (show nI 2 < nI pk from c_2)
    refine lv_lload hx hb dX1_fillFrom_15 (lv_at hl 3 rfl) ?_
    refine lv_aload_n hx hb dX1_fillFrom_17 rfl (lv_at hl 0 rfl) ?_
    refine lv_iload_n hx hb dX1_fillFrom_18 rfl (lv_at hl 1 rfl) ?_
    refine lv_iconst (v := 1) hx hb dX1_fillFrom_19 (by decide) ?_
    refine lv_iadd hx hb dX1_fillFrom_20 ?_
    refine lv_topi (fun x_3 ex_3 => ?_)
    obtain rfl : x_3 = 3 := ex_3.trans (by decide)
    refine lv_lload_n hx hb dX1_fillFrom_21 rfl (lv_at hl 2 rfl) ?_
    obtain ⟨fs4, hF4, -, -⟩ := hI.o hm_h0 hk_h0 rfl (ci := 1) rfl rfl
    refine gc_Rl (ci := 1) ⟨hx, hb, hml, hown, hts⟩ (k_X1_mostFrom l dC dI K L f hI h0 hm_h0 hk_h0 3 z (by omega) hj5 hpk hj6 hof hnc) 2 wm_252 wm_253 wm_254 wm_238 wm_255 (by decide +kernel) ⟨Nat.le_of_ble_eq_true rfl, Nat.le_of_ble_eq_true rfl⟩ hK rfl hm_h0 hF4 rfl hl.1 rfl (Nat.le_of_ble_eq_true rfl) dX1_fillFrom_22 ⟨Nat.le_of_ble_eq_true rfl, Nat.le_of_ble_eq_true rfl⟩ hS hP (fun r_5 H locs hpr_5 hP hS => ?_)
    refine lv_ladd hx hb dX1_fillFrom_25 ?_
    refine lv_topl (fun x_6 ex_6 => ?_)
    refine lv_lstore (lv' := [(6, .long x_6), (0, .ref h0), (1, .int 2), (2, .long z), (4, .long y)]) hx hb dX1_fillFrom_26 hl (by decide) rfl (fun ls hl => ?_)
    refine lv_iconst (v := 0) hx hb dX1_fillFrom_28 (by decide) ?_
    refine lv_istore (lv' := [(8, .int 0), (6, .long x_6), (0, .ref h0), (1, .int 2), (2, .long z), (4, .long y)]) hx hb dX1_fillFrom_29 hl (by decide) rfl (fun ls hl => ?_)
    refine k_lx (pcx := 126) (fun n H locs ls => ∃ (fva : Nat → va_E) (j : Nat) (ms : Int64), of - j = n ∧ cI K np nc ns lk lc 2 cp gp G J mk st ap kd sn L fva ∧ (j ≤ of) ∧ va_P (dC, dI) vwCl (va_pl L fva) H ∧ va_S A s.heap H locs ∧ lv_has ls 12 [(0, .ref h0), (1, .int 2), (2, .long z), (4, .long y), (6, .long ms), (8, .int (nI j))]) (fun H locs ls => ∃ (fva : Nat → va_E) (j : Nat) (ms : Int64), cI K np nc ns lk lc 2 cp gp G J mk st ap kd sn L fva ∧ (j ≤ of) ∧ va_P (dC, dI) vwCl (va_pl L fva) H ∧ va_S A s.heap H locs ∧ lv_has ls 12 [(0, .ref h0), (1, .int 2), (2, .long z), (4, .long y), (6, .long ms), (8, .int (nI j))]) (fun H locs ls hI_ => ?_) (fun n H locs ls hI_ hEa iha => ?_) _ _ _ _ ⟨f, 0, _, rfl, hI, Nat.zero_le _, hP, hS, lv_sub hl [2, 3, 4, 5, 1, 0] rfl⟩
    · skip
      obtain ⟨fva, j, ms, hI, hj, hP, hS, hl⟩ := hI_
      have hD : va_D A (va_pl L fva) := g_D hLn (fun a h => by rw [← hAe]; exact h) fva
      refine lv_lload hx hb dX1_fillFrom_126 (lv_at hl 4 rfl) ?_
      refine lv_aload_n hx hb dX1_fillFrom_128 rfl (lv_at hl 0 rfl) ?_
      obtain ⟨fs7, x_7, hF7, hv7⟩ := hI.gL hm_h0 hk_h0 8 (ci := 1) ⟨rfl, rfl, by decide, rfl⟩
      refine g_get (ci := 1) (v := .long x_7) (C := RX1) (T := TX1) (N := 9) hx hb hts uB1 hown hK hP hm_h0 hF7 rfl 8 (by decide) wm_233 hv7 dX1_fillFrom_129 ?_
      refine W.lcmp hx hb dX1_fillFrom_132 ?_
      refine lv_topi (fun x_8 ex_8 => ?_)
      refine lv_if_le (tgt := 145) hx hb dX1_fillFrom_133 (by decide) (fun c_9 => ?_) (fun c_9 => ?_)
      · skip
        exact W.vret hx hb hr (fun t ht hW => ⟨⟨fva, rfl, hI, by show va_P (dC, dI) vwCl (va_pl L fva) t.heap; rw [ht]; exact hP⟩, hS.F ht⟩) hS.2.2 dX1_fillFrom_145
      · skip
        refine lv_aload_n hx hb dX1_fillFrom_136 rfl (lv_at hl 0 rfl) ?_
        refine lv_iload_n hx hb dX1_fillFrom_137 rfl (lv_at hl 1 rfl) ?_
        refine lv_iconst (v := (-1)) hx hb dX1_fillFrom_138 (by decide) ?_
        refine lv_lload_n hx hb dX1_fillFrom_139 rfl (lv_at hl 2 rfl) ?_
        refine lv_lload hx hb dX1_fillFrom_140 (lv_at hl 3 rfl) ?_
        obtain ⟨fs10, hF10, -, -⟩ := hI.o hm_h0 hk_h0 rfl (ci := 1) rfl rfl
        refine gc_Mv (ci := 1) ⟨hx, hb, hml, hown, hts⟩ (k_try2 l dC dI K L fva hI h0 hm_h0 hk_h0 (-1) z y hj5 hpk hj6 hof hnc (by omega) (Or.inl rfl) hLn) 4 wm_256 wm_257 wm_258 wm_238 wm_259 (by decide +kernel) ⟨Nat.le_of_ble_eq_true rfl, Nat.le_of_ble_eq_true rfl⟩ hK rfl hm_h0 hF10 rfl hl.1 rfl (Nat.le_of_ble_eq_true rfl) dX1_fillFrom_142 ⟨Nat.le_of_ble_eq_true rfl, Nat.le_of_ble_eq_true rfl⟩ (fun a h => by rw [← hAe]; exact h) hS hP (fun fw_11 H locs hpw hP hS => ?_)
        have hI := hpw
        have hD : va_D A (va_pl L fw_11) := g_D hLn (fun a h => by rw [← hAe]; exact h) fw_11
        exact W.vret hx hb hr (fun t ht hW => ⟨⟨fw_11, rfl, hI, by show va_P (dC, dI) vwCl (va_pl L fw_11) t.heap; rw [ht]; exact hP⟩, hS.F ht⟩) hS.2.2 dX1_fillFrom_145
    · skip
      obtain ⟨fva, j, ms, hmua, hI, hj, hP, hS, hl⟩ := hI_
      have hD : va_D A (va_pl L fva) := g_D hLn (fun a h => by rw [← hAe]; exact h) fva
      refine lv_iload hx hb dX1_fillFrom_31 (lv_at hl 5 rfl) ?_
      refine lv_aload_n hx hb dX1_fillFrom_33 rfl (lv_at hl 0 rfl) ?_
      obtain ⟨fs12, hF12, hv12⟩ := hI.gJ hm_h0 hk_h0 6 (ci := 1) ⟨rfl, rfl, by decide, rfl⟩
      rw [hj6] at hv12
      refine g_get (ci := 1) (v := .int (nI of)) (C := RX1) (T := TX1) (N := 9) hx hb hts uB1 hown hK hP hm_h0 hF12 rfl 6 (by decide) wm_228 hv12 dX1_fillFrom_34 ?_
      refine lv_icmp_ge (tgt := 126) hx hb dX1_fillFrom_37 (by decide) (fun c_13 => ?_) (fun c_13 => ?_)
      · skip
        have nc_13 : of ≤ j := (bn_le (a := of) (b := j) (by omega) (by omega)).mp (show nI of ≤ nI j from c_13)
        exact hEa _ _ _ ⟨fva, j, ms, hI, hj, hP, hS, lv_sub hl [0, 1, 2, 3, 4, 5] rfl⟩
      · skip
        have nc_13 : ¬ (of ≤ j) := fun q => c_13 (show nI of ≤ nI j from (bn_le (a := of) (b := j) (by omega) (by omega)).mpr q)
        refine lv_aload_n hx hb dX1_fillFrom_40 rfl (lv_at hl 0 rfl) ?_
        obtain ⟨fs14, b_15, hF14, hv14, hm_b_15, hk_b_15⟩ := hI.gR hm_h0 hk_h0 3 (ci := 1) (t := 12) ⟨rfl, rfl, by decide, rfl⟩
        refine g_get (ci := 1) (v := .ref b_15) (C := RX1) (T := TX1) (N := 9) hx hb hts uB1 hown hK hP hm_h0 hF14 rfl 3 (by decide) wm_234 hv14 dX1_fillFrom_41 ?_
        refine lv_iload_n hx hb dX1_fillFrom_44 rfl (lv_at hl 1 rfl) ?_
        obtain ⟨g16, hF16, hgz16⟩ := hI.a12 hm_b_15 hk_b_15
        obtain ⟨b_17, hm_b_17, hk_b_17, hv16⟩ := hgz16 2 (by omega)
        refine g_ald2 (t := 7) hx hb hK hP hm_b_15 hF16 rfl (vp_in_iff.mpr (by decide)) hv16 dX1_fillFrom_45 ?_
        refine lv_iload hx hb dX1_fillFrom_46 (lv_at hl 5 rfl) ?_
        obtain ⟨g18, hF18, hgz18⟩ := hI.a15 hm_b_17 hk_b_17
        refine g_iald hx hb hK hP hm_b_17 hF18 (vp_in_nI (by omega) (by decide)) dX1_fillFrom_48 ?_
        refine lv_topi (fun x_19 ex_19 => ?_)
        rw [nI_clamp (by omega)] at ex_19
        obtain ⟨q_20, h4q_20, hcq_20, heq_20⟩ := hgz18 j (by omega)
        obtain rfl : x_19 = nI (q_20) := ex_19.trans heq_20
        refine lv_istore (lv' := [(9, .int (nI q_20)), (0, .ref h0), (1, .int 2), (2, .long z), (4, .long y), (6, .long ms), (8, .int (nI j))]) hx hb dX1_fillFrom_49 hl (by decide) rfl (fun ls hl => ?_)
        refine lv_lload_n hx hb dX1_fillFrom_51 rfl (lv_at hl 3 rfl) ?_
        refine lv_iload hx hb dX1_fillFrom_52 (lv_at hl 0 rfl) ?_
        refine lv_lushr hx hb dX1_fillFrom_54 rfl ?_
        refine lv_topl (fun x_21 ex_21 => ?_)
        refine lv_lconst (v := 1) hx hb dX1_fillFrom_55 rfl ?_
        refine lv_land hx hb dX1_fillFrom_56 ?_
        refine lv_topl (fun x_22 ex_22 => ?_)
        refine lv_lconst (v := 0) hx hb dX1_fillFrom_57 rfl ?_
        refine W.lcmp hx hb dX1_fillFrom_58 ?_
        refine lv_topi (fun x_23 ex_23 => ?_)
        refine lv_if_ne (tgt := 65) hx hb dX1_fillFrom_59 (by decide) (fun c_24 => ?_) (fun c_24 => ?_)
        · skip
          refine lv_aload_n hx hb dX1_fillFrom_65 rfl (lv_at hl 1 rfl) ?_
          obtain ⟨fs25, b_26, hF25, hv25, hm_b_26, hk_b_26⟩ := hI.gR hm_h0 hk_h0 2 (ci := 1) (t := 11) ⟨rfl, rfl, by decide, rfl⟩
          refine g_get (ci := 1) (v := .ref b_26) (C := RX1) (T := TX1) (N := 9) hx hb hts uB1 hown hK hP hm_h0 hF25 rfl 2 (by decide) wm_231 hv25 dX1_fillFrom_66 ?_
          refine lv_iload_n hx hb dX1_fillFrom_69 rfl (lv_at hl 2 rfl) ?_
          obtain ⟨g27, hF27, hgz27⟩ := hI.a11 hm_b_26 hk_b_26
          obtain ⟨b_28, hm_b_28, hk_b_28, hv27⟩ := hgz27 2 (by omega)
          refine g_ald2 (t := 6) hx hb hK hP hm_b_26 hF27 rfl (vp_in_iff.mpr (by decide)) hv27 dX1_fillFrom_70 ?_
          refine lv_iload hx hb dX1_fillFrom_71 (lv_at hl 0 rfl) ?_
          obtain ⟨g29, hF29⟩ := hI.a14 hm_b_28 hk_b_28
          refine g_lald hx hb hK hP hm_b_28 hF29 (vp_in_nI (by omega) (by decide)) dX1_fillFrom_73 ?_
          refine lv_topl (fun x_30 ex_30 => ?_)
          refine lv_lstore (lv' := [(10, .long x_30), (9, .int (nI q_20)), (0, .ref h0), (1, .int 2), (2, .long z), (4, .long y), (6, .long ms), (8, .int (nI j))]) hx hb dX1_fillFrom_74 hl (by decide) rfl (fun ls hl => ?_)
          refine lv_lload hx hb dX1_fillFrom_76 (lv_at hl 6 rfl) ?_
          refine lv_lload hx hb dX1_fillFrom_78 (lv_at hl 0 rfl) ?_
          refine lv_ladd hx hb dX1_fillFrom_80 ?_
          refine lv_topl (fun x_31 ex_31 => ?_)
          refine lv_aload_n hx hb dX1_fillFrom_81 rfl (lv_at hl 2 rfl) ?_
          obtain ⟨fs32, x_32, hF32, hv32⟩ := hI.gL hm_h0 hk_h0 8 (ci := 1) ⟨rfl, rfl, by decide, rfl⟩
          refine g_get (ci := 1) (v := .long x_32) (C := RX1) (T := TX1) (N := 9) hx hb hts uB1 hown hK hP hm_h0 hF32 rfl 8 (by decide) wm_233 hv32 dX1_fillFrom_82 ?_
          refine W.lcmp hx hb dX1_fillFrom_85 ?_
          refine lv_topi (fun x_33 ex_33 => ?_)
          refine lv_if_gt (tgt := 90) hx hb dX1_fillFrom_86 (by decide) (fun c_34 => ?_) (fun c_34 => ?_)
          · skip
            refine lv_aload_n hx hb dX1_fillFrom_90 rfl (lv_at hl 2 rfl) ?_
            refine lv_iload_n hx hb dX1_fillFrom_91 rfl (lv_at hl 3 rfl) ?_
            refine lv_iload hx hb dX1_fillFrom_92 (lv_at hl 1 rfl) ?_
            refine lv_lload_n hx hb dX1_fillFrom_94 rfl (lv_at hl 4 rfl) ?_
            refine lv_aload_n hx hb dX1_fillFrom_95 rfl (lv_at hl 2 rfl) ?_
            obtain ⟨fs35, b_36, hF35, hv35, hm_b_36, hk_b_36⟩ := hI.gR hm_h0 hk_h0 4 (ci := 1) (t := 13) ⟨rfl, rfl, by decide, rfl⟩
            refine g_get (ci := 1) (v := .ref b_36) (C := RX1) (T := TX1) (N := 9) hx hb hts uB1 hown hK hP hm_h0 hF35 rfl 4 (by decide) wm_230 hv35 dX1_fillFrom_96 ?_
            refine lv_iload hx hb dX1_fillFrom_99 (lv_at hl 1 rfl) ?_
            obtain ⟨g37, hF37⟩ := hI.a13 hm_b_36 hk_b_36
            refine g_lald hx hb hK hP hm_b_36 hF37 (vp_in_nI (by omega) (by decide)) dX1_fillFrom_101 ?_
            refine lv_topl (fun x_38 ex_38 => ?_)
            refine lv_lconst (v := 1) hx hb dX1_fillFrom_102 rfl ?_
            refine lv_iload hx hb dX1_fillFrom_103 (lv_at hl 1 rfl) ?_
            refine lv_lshl hx hb dX1_fillFrom_105 rfl ?_
            refine lv_topl (fun x_39 ex_39 => ?_)
            refine lv_lor hx hb dX1_fillFrom_106 ?_
            refine lv_topl (fun x_40 ex_40 => ?_)
            refine lv_ldc2 (v := (-1)) hx hb hown (hts _ wm_260) dX1_fillFrom_107 ?_
            refine lv_lxor hx hb dX1_fillFrom_110 ?_
            refine lv_topl (fun x_41 ex_41 => ?_)
            refine lv_land hx hb dX1_fillFrom_111 ?_
            refine lv_topl (fun x_42 ex_42 => ?_)
            refine lv_lload hx hb dX1_fillFrom_112 (lv_at hl 5 rfl) ?_
            refine lv_lload hx hb dX1_fillFrom_114 (lv_at hl 0 rfl) ?_
            refine lv_ladd hx hb dX1_fillFrom_116 ?_
            refine lv_topl (fun x_43 ex_43 => ?_)
            obtain ⟨fs44, hF44, -, -⟩ := hI.o hm_h0 hk_h0 rfl (ci := 1) rfl rfl
            refine gc_Mv (ci := 1) ⟨hx, hb, hml, hown, hts⟩ (k_try2 l dC dI K L fva hI h0 hm_h0 hk_h0 (nI q_20) x_42 x_43 hj5 hpk hj6 hof hnc (by omega) (Or.inr ⟨q_20, by omega, rfl⟩) hLn) 4 wm_256 wm_257 wm_258 wm_238 wm_259 (by decide +kernel) ⟨Nat.le_of_ble_eq_true rfl, Nat.le_of_ble_eq_true rfl⟩ hK rfl hm_h0 hF44 rfl hl.1 rfl (Nat.le_of_ble_eq_true rfl) dX1_fillFrom_117 ⟨Nat.le_of_ble_eq_true rfl, Nat.le_of_ble_eq_true rfl⟩ (fun a h => by rw [← hAe]; exact h) hS hP (fun fw_45 H locs hpw hP hS => ?_)
            have hI := hpw
            have hD : va_D A (va_pl L fw_45) := g_D hLn (fun a h => by rw [← hAe]; exact h) fw_45
            refine lv_iinc (v := nI (j + 1)) (lv' := [(8, .int (nI (j + 1))), (10, .long x_30), (9, .int (nI q_20)), (0, .ref h0), (1, .int 2), (2, .long z), (4, .long y), (6, .long ms)]) hx hb dX1_fillFrom_120 hl (k := 7) rfl (by exact nI_1 _) (by decide) rfl (fun ls hl => ?_)
            refine lv_goto (tgt := 31) hx hb dX1_fillFrom_123 (by decide) ?_
            exact iha _ (by omega) _ _ _ ⟨fw_45, (j + 1), ms, rfl, hI, by omega, hP, hS, lv_sub hl [3, 4, 5, 6, 7, 0] rfl⟩
          · skip
            exact W.vret hx hb hr (fun t ht hW => ⟨⟨fva, rfl, hI, by show va_P (dC, dI) vwCl (va_pl L fva) t.heap; rw [ht]; exact hP⟩, hS.F ht⟩) hS.2.2 dX1_fillFrom_89
        · skip
          refine lv_goto (tgt := 120) hx hb dX1_fillFrom_62 (by decide) ?_
          refine lv_iinc (v := nI (j + 1)) (lv' := [(8, .int (nI (j + 1))), (9, .int (nI q_20)), (0, .ref h0), (1, .int 2), (2, .long z), (4, .long y), (6, .long ms)]) hx hb dX1_fillFrom_120 hl (k := 6) rfl (by exact nI_1 _) (by decide) rfl (fun ls hl => ?_)
          refine lv_goto (tgt := 31) hx hb dX1_fillFrom_123 (by decide) ?_
          exact iha _ (by omega) _ _ _ ⟨fva, (j + 1), ms, rfl, hI, by omega, hP, hS, lv_sub hl [2, 3, 4, 5, 6, 0] rfl⟩
  · skip
    have nc_2 : ¬ (2 < pk) := fun q => c_2 (show nI 2 < nI pk from (bn_lt (a := 2) (b := pk) (by omega) (by omega)).mpr q)
    refine lv_aload_n hx hb dX1_fillFrom_8 rfl (lv_at hl 0 rfl) ?_
    refine lv_lload hx hb dX1_fillFrom_9 (lv_at hl 3 rfl) ?_
    obtain ⟨fs46, hF46, -, -⟩ := hI.o hm_h0 hk_h0 rfl (ci := 1) rfl rfl
    refine gc_Mv (ci := 1) ⟨hx, hb, hml, hown, hts⟩ (k_X1_keepIfBetter l dC dI K L f hI h0 hm_h0 hk_h0 y hj5 hpk (by omega) hLn) 1 wm_244 wm_245 wm_246 wm_238 wm_247 (by decide +kernel) ⟨Nat.le_of_ble_eq_true rfl, Nat.le_of_ble_eq_true rfl⟩ hK rfl hm_h0 hF46 rfl hl.1 rfl (Nat.le_of_ble_eq_true rfl) dX1_fillFrom_11 ⟨Nat.le_of_ble_eq_true rfl, Nat.le_of_ble_eq_true rfl⟩ (fun a h => by rw [← hAe]; exact h) hS hP (fun fw_47 H locs hpw hP hS => ?_)
    have hI := hpw
    have hD : va_D A (va_pl L fw_47) := g_D hLn (fun a h => by rw [← hAe]; exact h) fw_47
    exact W.vret hx hb hr (fun t ht hW => ⟨⟨fw_47, rfl, hI, by show va_P (dC, dI) vwCl (va_pl L fw_47) t.heap; rw [ht]; exact hP⟩, hS.F ht⟩) hS.2.2 dX1_fillFrom_14
set_option maxHeartbeats 4000000 in
set_option maxRecDepth 100000 in
theorem k_try1 (l : Launch) (dC : Nat → ClassId) (dI : Nat → Nat → Nat) (K : Nat → ClassId) (L : List Nat) (f : Nat → va_E) {np nc ns lk lc tp cp gp : Nat} {G J mk st : Nat → Int32} {ap : Nat → Int64} {kd sn : Nat → Nat} {pk : Nat} {of : Nat} (hI : cI K np nc ns lk lc tp cp gp G J mk st ap kd sn L f) (h0 : Nat) (hm_h0 : h0 ∈ L) (hk_h0 : kd h0 = 6) (x : Int32) (z : Int64) (y : Int64) (hj5 : J 5 = nI pk) (hpk : pk ≤ 4) (hj6 : J 6 = nI of) (hof : of ≤ nc) (hnc : nc ≤ 40) (htp : 1 ≤ tp) (hv9 : vld nc x) (hLn : gN L) : gMv l yX1_tryAt cX1_tryAt 7 7 (dC, dI) K L f [.ref h0, .int 1, .int x, .long z, .long y] (fun f' => cI K np nc ns lk lc 1 cp gp G J mk st ap kd sn L f') := by
  refine Met.ofW (cc := cX1_tryAt) (maxL := 7) (ret := none) (by decide) rfl ?_
  intro p e s m args below meth c s₁ B hml hv
  obtain ⟨rfl, hP, hK⟩ := hv
  have hD : va_D (fun q : Nat => q ∈ L) (va_pl L f) := g_D hLn (fun a h => h) f
  generalize hAe : (fun q : Nat => q ∈ L) = A at hD ⊢
  have hx := B.exec
  have hb := B.bytes
  have hr := B.returns
  have hlocks := B.notSynchronized
  have hts0 := atoms_spec (ws := Cond.code yX1_tryAt cX1_tryAt 7 none :: lw_B) B.pre
  have hts : ∀ w ∈ lw_B, w.before _ s = true := fun w h => hts0 w (List.mem_cons_of_mem _ h)
  have hown : s.vm.findClass RX1 = some m.cls := findClass_of_methodNamed B.named
  have hS : va_S A s.heap s.heap [] := va_S.rf
  have hl := lv_entry ([.ref h0, .int 1, .int x, .long z, .long y]) (n := 7) (Nat.le_of_ble_eq_true rfl)
  rw [lg_entry_eq]
  generalize (lg_sl ([.ref h0, .int 1, .int x, .long z, .long y]) ++ List.replicate (7 - (lg_sl ([.ref h0, .int 1, .int x, .long z, .long y])).length) Slot.unset).toArray = ls at hl ⊢
  have hl : lv_has ls 7 [(0, .ref h0), (1, .int 1), (2, .int x), (3, .long z), (5, .long y)] := hl
  refine lv_aload_n hx hb dX1_tryAt_0 rfl (lv_at hl 0 rfl) ?_
  obtain ⟨fs1, b_2, hF1, hv1, hm_b_2, hk_b_2⟩ := hI.gR hm_h0 hk_h0 1 (ci := 1) (t := 10) ⟨rfl, rfl, by decide, rfl⟩
  refine g_get (ci := 1) (v := .ref b_2) (C := RX1) (T := TX1) (N := 9) hx hb hts uB1 hown hK hP hm_h0 hF1 rfl 1 (by decide) wm_243 hv1 dX1_tryAt_1 ?_
  refine lv_iload_n hx hb dX1_tryAt_4 rfl (lv_at hl 1 rfl) ?_
  refine lv_iload_n hx hb dX1_tryAt_5 rfl (lv_at hl 2 rfl) ?_
  obtain ⟨g3, hF3, hgz3⟩ := hI.a10 hm_b_2 hk_b_2
  refine g_iast hx hb hK hP hD hS hm_b_2 hF3 (vp_in_iff.mpr (by decide)) dX1_tryAt_6 (fun H locs hP hD hS => ?_)
  obtain ⟨g_4, eg_4⟩ : ∃ z9, z9 = upd g3 (Int32.toNatClampNeg 1) x := ⟨_, rfl⟩
  rw [← eg_4] at hP hD
  rw [show Int32.toNatClampNeg 1 = 1 from rfl] at eg_4
  obtain ⟨f_5, ef_5⟩ : ∃ z9, z9 = va_up f b_2 (.inl (K 0, 4, .inl g_4)) := ⟨_, rfl⟩
  have hI := hI.s10 hm_b_2 hk_b_2 (tp' := 2) (vldSt hgz3 hv9 eg_4 (fun i hi => by omega))
  rw [← ef_5] at hP hD hI
  refine lv_aload_n hx hb dX1_tryAt_7 rfl (lv_at hl 0 rfl) ?_
  refine lv_iload_n hx hb dX1_tryAt_8 rfl (lv_at hl 1 rfl) ?_
  refine lv_iconst (v := 1) hx hb dX1_tryAt_9 (by decide) ?_
  refine lv_iadd hx hb dX1_tryAt_10 ?_
  refine lv_topi (fun x_6 ex_6 => ?_)
  obtain rfl : x_6 = 2 := ex_6.trans (by decide)
  refine lv_lload_n hx hb dX1_tryAt_11 rfl (lv_at hl 3 rfl) ?_
  refine lv_lload hx hb dX1_tryAt_12 (lv_at hl 4 rfl) ?_
  obtain ⟨fs7, hF7, -, -⟩ := hI.o hm_h0 hk_h0 rfl (ci := 1) rfl rfl
  refine gc_Mv (ci := 1) ⟨hx, hb, hml, hown, hts⟩ (k_fill2 l dC dI K L f_5 hI h0 hm_h0 hk_h0 z y hj5 hpk hj6 hof hnc (Nat.le_refl _) hLn) 3 wm_248 wm_249 wm_250 wm_238 wm_251 (by decide +kernel) ⟨Nat.le_of_ble_eq_true rfl, Nat.le_of_ble_eq_true rfl⟩ hK rfl hm_h0 hF7 rfl hl.1 rfl (Nat.le_of_ble_eq_true rfl) dX1_tryAt_14 ⟨Nat.le_of_ble_eq_true rfl, Nat.le_of_ble_eq_true rfl⟩ (fun a h => by rw [← hAe]; exact h) hS hP (fun fw_8 H locs hpw hP hS => ?_)
  have hI := hpw
  have hD : va_D A (va_pl L fw_8) := g_D hLn (fun a h => by rw [← hAe]; exact h) fw_8
  have hI := hI.le (tp' := 1) (Nat.le_refl _) (Nat.le_refl _) (by decide) (Nat.le_refl _) (Nat.le_refl _)
  exact W.vret hx hb hr (fun t ht hW => ⟨⟨fw_8, rfl, hI, by show va_P (dC, dI) vwCl (va_pl L fw_8) t.heap; rw [ht]; exact hP⟩, hS.F ht⟩) hS.2.2 dX1_tryAt_17
set_option maxHeartbeats 4000000 in
set_option maxRecDepth 100000 in
theorem k_fill1 (l : Launch) (dC : Nat → ClassId) (dI : Nat → Nat → Nat) (K : Nat → ClassId) (L : List Nat) (f : Nat → va_E) {np nc ns lk lc tp cp gp : Nat} {G J mk st : Nat → Int32} {ap : Nat → Int64} {kd sn : Nat → Nat} {pk : Nat} {of : Nat} (hI : cI K np nc ns lk lc tp cp gp G J mk st ap kd sn L f) (h0 : Nat) (hm_h0 : h0 ∈ L) (hk_h0 : kd h0 = 6) (z : Int64) (y : Int64) (hj5 : J 5 = nI pk) (hpk : pk ≤ 4) (hj6 : J 6 = nI of) (hof : of ≤ nc) (hnc : nc ≤ 40) (htp : 1 ≤ tp) (hLn : gN L) : gMv l yX1_fillFrom cX1_fillFrom 12 8 (dC, dI) K L f [.ref h0, .int 1, .long z, .long y] (fun f' => cI K np nc ns lk lc 1 cp gp G J mk st ap kd sn L f') := by
  refine Met.ofW (cc := cX1_fillFrom) (maxL := 12) (ret := none) (by decide) rfl ?_
  intro p e s m args below meth c s₁ B hml hv
  obtain ⟨rfl, hP, hK⟩ := hv
  have hD : va_D (fun q : Nat => q ∈ L) (va_pl L f) := g_D hLn (fun a h => h) f
  generalize hAe : (fun q : Nat => q ∈ L) = A at hD ⊢
  have hx := B.exec
  have hb := B.bytes
  have hr := B.returns
  have hlocks := B.notSynchronized
  have hts0 := atoms_spec (ws := Cond.code yX1_fillFrom cX1_fillFrom 12 none :: lw_B) B.pre
  have hts : ∀ w ∈ lw_B, w.before _ s = true := fun w h => hts0 w (List.mem_cons_of_mem _ h)
  have hown : s.vm.findClass RX1 = some m.cls := findClass_of_methodNamed B.named
  have hS : va_S A s.heap s.heap [] := va_S.rf
  have hl := lv_entry ([.ref h0, .int 1, .long z, .long y]) (n := 12) (Nat.le_of_ble_eq_true rfl)
  rw [lg_entry_eq]
  generalize (lg_sl ([.ref h0, .int 1, .long z, .long y]) ++ List.replicate (12 - (lg_sl ([.ref h0, .int 1, .long z, .long y])).length) Slot.unset).toArray = ls at hl ⊢
  have hl : lv_has ls 12 [(0, .ref h0), (1, .int 1), (2, .long z), (4, .long y)] := hl
  have hI := hI.le (tp' := 1) (Nat.le_refl _) (Nat.le_refl _) htp (Nat.le_refl _) (Nat.le_refl _)
  refine lv_iload_n hx hb dX1_fillFrom_0 rfl (lv_at hl 1 rfl) ?_
  refine lv_aload_n hx hb dX1_fillFrom_1 rfl (lv_at hl 0 rfl) ?_
  obtain ⟨fs1, hF1, hv1⟩ := hI.gJ hm_h0 hk_h0 5 (ci := 1) ⟨rfl, rfl, by decide, rfl⟩
  rw [hj5] at hv1
  refine g_get (ci := 1) (v := .int (nI pk)) (C := RX1) (T := TX1) (N := 9) hx hb hts uB1 hown hK hP hm_h0 hF1 rfl 5 (by decide) wm_227 hv1 dX1_fillFrom_2 ?_
  refine lv_icmp_lt (tgt := 15) hx hb dX1_fillFrom_5 (by decide) (fun c_2 => ?_) (fun c_2 => ?_)
  · skip
    have nc_2 : 1 < pk := (bn_lt (a := 1) (b := pk) (by omega) (by omega)).mp (show nI 1 < nI pk from c_2)
    refine lv_lload hx hb dX1_fillFrom_15 (lv_at hl 3 rfl) ?_
    refine lv_aload_n hx hb dX1_fillFrom_17 rfl (lv_at hl 0 rfl) ?_
    refine lv_iload_n hx hb dX1_fillFrom_18 rfl (lv_at hl 1 rfl) ?_
    refine lv_iconst (v := 1) hx hb dX1_fillFrom_19 (by decide) ?_
    refine lv_iadd hx hb dX1_fillFrom_20 ?_
    refine lv_topi (fun x_3 ex_3 => ?_)
    obtain rfl : x_3 = 2 := ex_3.trans (by decide)
    refine lv_lload_n hx hb dX1_fillFrom_21 rfl (lv_at hl 2 rfl) ?_
    obtain ⟨fs4, hF4, -, -⟩ := hI.o hm_h0 hk_h0 rfl (ci := 1) rfl rfl
    refine gc_Rl (ci := 1) ⟨hx, hb, hml, hown, hts⟩ (k_X1_mostFrom l dC dI K L f hI h0 hm_h0 hk_h0 2 z (by omega) hj5 hpk hj6 hof hnc) 2 wm_252 wm_253 wm_254 wm_238 wm_255 (by decide +kernel) ⟨Nat.le_of_ble_eq_true rfl, Nat.le_of_ble_eq_true rfl⟩ hK rfl hm_h0 hF4 rfl hl.1 rfl (Nat.le_of_ble_eq_true rfl) dX1_fillFrom_22 ⟨Nat.le_of_ble_eq_true rfl, Nat.le_of_ble_eq_true rfl⟩ hS hP (fun r_5 H locs hpr_5 hP hS => ?_)
    refine lv_ladd hx hb dX1_fillFrom_25 ?_
    refine lv_topl (fun x_6 ex_6 => ?_)
    refine lv_lstore (lv' := [(6, .long x_6), (0, .ref h0), (1, .int 1), (2, .long z), (4, .long y)]) hx hb dX1_fillFrom_26 hl (by decide) rfl (fun ls hl => ?_)
    refine lv_iconst (v := 0) hx hb dX1_fillFrom_28 (by decide) ?_
    refine lv_istore (lv' := [(8, .int 0), (6, .long x_6), (0, .ref h0), (1, .int 1), (2, .long z), (4, .long y)]) hx hb dX1_fillFrom_29 hl (by decide) rfl (fun ls hl => ?_)
    refine k_lx (pcx := 126) (fun n H locs ls => ∃ (fva : Nat → va_E) (j : Nat) (ms : Int64), of - j = n ∧ cI K np nc ns lk lc 1 cp gp G J mk st ap kd sn L fva ∧ (j ≤ of) ∧ va_P (dC, dI) vwCl (va_pl L fva) H ∧ va_S A s.heap H locs ∧ lv_has ls 12 [(0, .ref h0), (1, .int 1), (2, .long z), (4, .long y), (6, .long ms), (8, .int (nI j))]) (fun H locs ls => ∃ (fva : Nat → va_E) (j : Nat) (ms : Int64), cI K np nc ns lk lc 1 cp gp G J mk st ap kd sn L fva ∧ (j ≤ of) ∧ va_P (dC, dI) vwCl (va_pl L fva) H ∧ va_S A s.heap H locs ∧ lv_has ls 12 [(0, .ref h0), (1, .int 1), (2, .long z), (4, .long y), (6, .long ms), (8, .int (nI j))]) (fun H locs ls hI_ => ?_) (fun n H locs ls hI_ hEa iha => ?_) _ _ _ _ ⟨f, 0, _, rfl, hI, Nat.zero_le _, hP, hS, lv_sub hl [2, 3, 4, 5, 1, 0] rfl⟩
    · skip
      obtain ⟨fva, j, ms, hI, hj, hP, hS, hl⟩ := hI_
      have hD : va_D A (va_pl L fva) := g_D hLn (fun a h => by rw [← hAe]; exact h) fva
      refine lv_lload hx hb dX1_fillFrom_126 (lv_at hl 4 rfl) ?_
      refine lv_aload_n hx hb dX1_fillFrom_128 rfl (lv_at hl 0 rfl) ?_
      obtain ⟨fs7, x_7, hF7, hv7⟩ := hI.gL hm_h0 hk_h0 8 (ci := 1) ⟨rfl, rfl, by decide, rfl⟩
      refine g_get (ci := 1) (v := .long x_7) (C := RX1) (T := TX1) (N := 9) hx hb hts uB1 hown hK hP hm_h0 hF7 rfl 8 (by decide) wm_233 hv7 dX1_fillFrom_129 ?_
      refine W.lcmp hx hb dX1_fillFrom_132 ?_
      refine lv_topi (fun x_8 ex_8 => ?_)
      refine lv_if_le (tgt := 145) hx hb dX1_fillFrom_133 (by decide) (fun c_9 => ?_) (fun c_9 => ?_)
      · skip
        exact W.vret hx hb hr (fun t ht hW => ⟨⟨fva, rfl, hI, by show va_P (dC, dI) vwCl (va_pl L fva) t.heap; rw [ht]; exact hP⟩, hS.F ht⟩) hS.2.2 dX1_fillFrom_145
      · skip
        refine lv_aload_n hx hb dX1_fillFrom_136 rfl (lv_at hl 0 rfl) ?_
        refine lv_iload_n hx hb dX1_fillFrom_137 rfl (lv_at hl 1 rfl) ?_
        refine lv_iconst (v := (-1)) hx hb dX1_fillFrom_138 (by decide) ?_
        refine lv_lload_n hx hb dX1_fillFrom_139 rfl (lv_at hl 2 rfl) ?_
        refine lv_lload hx hb dX1_fillFrom_140 (lv_at hl 3 rfl) ?_
        obtain ⟨fs10, hF10, -, -⟩ := hI.o hm_h0 hk_h0 rfl (ci := 1) rfl rfl
        refine gc_Mv (ci := 1) ⟨hx, hb, hml, hown, hts⟩ (k_try1 l dC dI K L fva hI h0 hm_h0 hk_h0 (-1) z y hj5 hpk hj6 hof hnc (by omega) (Or.inl rfl) hLn) 4 wm_256 wm_257 wm_258 wm_238 wm_259 (by decide +kernel) ⟨Nat.le_of_ble_eq_true rfl, Nat.le_of_ble_eq_true rfl⟩ hK rfl hm_h0 hF10 rfl hl.1 rfl (Nat.le_of_ble_eq_true rfl) dX1_fillFrom_142 ⟨Nat.le_of_ble_eq_true rfl, Nat.le_of_ble_eq_true rfl⟩ (fun a h => by rw [← hAe]; exact h) hS hP (fun fw_11 H locs hpw hP hS => ?_)
        have hI := hpw
        have hD : va_D A (va_pl L fw_11) := g_D hLn (fun a h => by rw [← hAe]; exact h) fw_11
        exact W.vret hx hb hr (fun t ht hW => ⟨⟨fw_11, rfl, hI, by show va_P (dC, dI) vwCl (va_pl L fw_11) t.heap; rw [ht]; exact hP⟩, hS.F ht⟩) hS.2.2 dX1_fillFrom_145
    · skip
      obtain ⟨fva, j, ms, hmua, hI, hj, hP, hS, hl⟩ := hI_
      have hD : va_D A (va_pl L fva) := g_D hLn (fun a h => by rw [← hAe]; exact h) fva
      refine lv_iload hx hb dX1_fillFrom_31 (lv_at hl 5 rfl) ?_
      refine lv_aload_n hx hb dX1_fillFrom_33 rfl (lv_at hl 0 rfl) ?_
      obtain ⟨fs12, hF12, hv12⟩ := hI.gJ hm_h0 hk_h0 6 (ci := 1) ⟨rfl, rfl, by decide, rfl⟩
      rw [hj6] at hv12
      refine g_get (ci := 1) (v := .int (nI of)) (C := RX1) (T := TX1) (N := 9) hx hb hts uB1 hown hK hP hm_h0 hF12 rfl 6 (by decide) wm_228 hv12 dX1_fillFrom_34 ?_
      refine lv_icmp_ge (tgt := 126) hx hb dX1_fillFrom_37 (by decide) (fun c_13 => ?_) (fun c_13 => ?_)
      · skip
        have nc_13 : of ≤ j := (bn_le (a := of) (b := j) (by omega) (by omega)).mp (show nI of ≤ nI j from c_13)
        exact hEa _ _ _ ⟨fva, j, ms, hI, hj, hP, hS, lv_sub hl [0, 1, 2, 3, 4, 5] rfl⟩
      · skip
        have nc_13 : ¬ (of ≤ j) := fun q => c_13 (show nI of ≤ nI j from (bn_le (a := of) (b := j) (by omega) (by omega)).mpr q)
        refine lv_aload_n hx hb dX1_fillFrom_40 rfl (lv_at hl 0 rfl) ?_
        obtain ⟨fs14, b_15, hF14, hv14, hm_b_15, hk_b_15⟩ := hI.gR hm_h0 hk_h0 3 (ci := 1) (t := 12) ⟨rfl, rfl, by decide, rfl⟩
        refine g_get (ci := 1) (v := .ref b_15) (C := RX1) (T := TX1) (N := 9) hx hb hts uB1 hown hK hP hm_h0 hF14 rfl 3 (by decide) wm_234 hv14 dX1_fillFrom_41 ?_
        refine lv_iload_n hx hb dX1_fillFrom_44 rfl (lv_at hl 1 rfl) ?_
        obtain ⟨g16, hF16, hgz16⟩ := hI.a12 hm_b_15 hk_b_15
        obtain ⟨b_17, hm_b_17, hk_b_17, hv16⟩ := hgz16 1 (by omega)
        refine g_ald2 (t := 7) hx hb hK hP hm_b_15 hF16 rfl (vp_in_iff.mpr (by decide)) hv16 dX1_fillFrom_45 ?_
        refine lv_iload hx hb dX1_fillFrom_46 (lv_at hl 5 rfl) ?_
        obtain ⟨g18, hF18, hgz18⟩ := hI.a15 hm_b_17 hk_b_17
        refine g_iald hx hb hK hP hm_b_17 hF18 (vp_in_nI (by omega) (by decide)) dX1_fillFrom_48 ?_
        refine lv_topi (fun x_19 ex_19 => ?_)
        rw [nI_clamp (by omega)] at ex_19
        obtain ⟨q_20, h4q_20, hcq_20, heq_20⟩ := hgz18 j (by omega)
        obtain rfl : x_19 = nI (q_20) := ex_19.trans heq_20
        refine lv_istore (lv' := [(9, .int (nI q_20)), (0, .ref h0), (1, .int 1), (2, .long z), (4, .long y), (6, .long ms), (8, .int (nI j))]) hx hb dX1_fillFrom_49 hl (by decide) rfl (fun ls hl => ?_)
        refine lv_lload_n hx hb dX1_fillFrom_51 rfl (lv_at hl 3 rfl) ?_
        refine lv_iload hx hb dX1_fillFrom_52 (lv_at hl 0 rfl) ?_
        refine lv_lushr hx hb dX1_fillFrom_54 rfl ?_
        refine lv_topl (fun x_21 ex_21 => ?_)
        refine lv_lconst (v := 1) hx hb dX1_fillFrom_55 rfl ?_
        refine lv_land hx hb dX1_fillFrom_56 ?_
        refine lv_topl (fun x_22 ex_22 => ?_)
        refine lv_lconst (v := 0) hx hb dX1_fillFrom_57 rfl ?_
        refine W.lcmp hx hb dX1_fillFrom_58 ?_
        refine lv_topi (fun x_23 ex_23 => ?_)
        refine lv_if_ne (tgt := 65) hx hb dX1_fillFrom_59 (by decide) (fun c_24 => ?_) (fun c_24 => ?_)
        · skip
          refine lv_aload_n hx hb dX1_fillFrom_65 rfl (lv_at hl 1 rfl) ?_
          obtain ⟨fs25, b_26, hF25, hv25, hm_b_26, hk_b_26⟩ := hI.gR hm_h0 hk_h0 2 (ci := 1) (t := 11) ⟨rfl, rfl, by decide, rfl⟩
          refine g_get (ci := 1) (v := .ref b_26) (C := RX1) (T := TX1) (N := 9) hx hb hts uB1 hown hK hP hm_h0 hF25 rfl 2 (by decide) wm_231 hv25 dX1_fillFrom_66 ?_
          refine lv_iload_n hx hb dX1_fillFrom_69 rfl (lv_at hl 2 rfl) ?_
          obtain ⟨g27, hF27, hgz27⟩ := hI.a11 hm_b_26 hk_b_26
          obtain ⟨b_28, hm_b_28, hk_b_28, hv27⟩ := hgz27 1 (by omega)
          refine g_ald2 (t := 6) hx hb hK hP hm_b_26 hF27 rfl (vp_in_iff.mpr (by decide)) hv27 dX1_fillFrom_70 ?_
          refine lv_iload hx hb dX1_fillFrom_71 (lv_at hl 0 rfl) ?_
          obtain ⟨g29, hF29⟩ := hI.a14 hm_b_28 hk_b_28
          refine g_lald hx hb hK hP hm_b_28 hF29 (vp_in_nI (by omega) (by decide)) dX1_fillFrom_73 ?_
          refine lv_topl (fun x_30 ex_30 => ?_)
          refine lv_lstore (lv' := [(10, .long x_30), (9, .int (nI q_20)), (0, .ref h0), (1, .int 1), (2, .long z), (4, .long y), (6, .long ms), (8, .int (nI j))]) hx hb dX1_fillFrom_74 hl (by decide) rfl (fun ls hl => ?_)
          refine lv_lload hx hb dX1_fillFrom_76 (lv_at hl 6 rfl) ?_
          refine lv_lload hx hb dX1_fillFrom_78 (lv_at hl 0 rfl) ?_
          refine lv_ladd hx hb dX1_fillFrom_80 ?_
          refine lv_topl (fun x_31 ex_31 => ?_)
          refine lv_aload_n hx hb dX1_fillFrom_81 rfl (lv_at hl 2 rfl) ?_
          obtain ⟨fs32, x_32, hF32, hv32⟩ := hI.gL hm_h0 hk_h0 8 (ci := 1) ⟨rfl, rfl, by decide, rfl⟩
          refine g_get (ci := 1) (v := .long x_32) (C := RX1) (T := TX1) (N := 9) hx hb hts uB1 hown hK hP hm_h0 hF32 rfl 8 (by decide) wm_233 hv32 dX1_fillFrom_82 ?_
          refine W.lcmp hx hb dX1_fillFrom_85 ?_
          refine lv_topi (fun x_33 ex_33 => ?_)
          refine lv_if_gt (tgt := 90) hx hb dX1_fillFrom_86 (by decide) (fun c_34 => ?_) (fun c_34 => ?_)
          · skip
            refine lv_aload_n hx hb dX1_fillFrom_90 rfl (lv_at hl 2 rfl) ?_
            refine lv_iload_n hx hb dX1_fillFrom_91 rfl (lv_at hl 3 rfl) ?_
            refine lv_iload hx hb dX1_fillFrom_92 (lv_at hl 1 rfl) ?_
            refine lv_lload_n hx hb dX1_fillFrom_94 rfl (lv_at hl 4 rfl) ?_
            refine lv_aload_n hx hb dX1_fillFrom_95 rfl (lv_at hl 2 rfl) ?_
            obtain ⟨fs35, b_36, hF35, hv35, hm_b_36, hk_b_36⟩ := hI.gR hm_h0 hk_h0 4 (ci := 1) (t := 13) ⟨rfl, rfl, by decide, rfl⟩
            refine g_get (ci := 1) (v := .ref b_36) (C := RX1) (T := TX1) (N := 9) hx hb hts uB1 hown hK hP hm_h0 hF35 rfl 4 (by decide) wm_230 hv35 dX1_fillFrom_96 ?_
            refine lv_iload hx hb dX1_fillFrom_99 (lv_at hl 1 rfl) ?_
            obtain ⟨g37, hF37⟩ := hI.a13 hm_b_36 hk_b_36
            refine g_lald hx hb hK hP hm_b_36 hF37 (vp_in_nI (by omega) (by decide)) dX1_fillFrom_101 ?_
            refine lv_topl (fun x_38 ex_38 => ?_)
            refine lv_lconst (v := 1) hx hb dX1_fillFrom_102 rfl ?_
            refine lv_iload hx hb dX1_fillFrom_103 (lv_at hl 1 rfl) ?_
            refine lv_lshl hx hb dX1_fillFrom_105 rfl ?_
            refine lv_topl (fun x_39 ex_39 => ?_)
            refine lv_lor hx hb dX1_fillFrom_106 ?_
            refine lv_topl (fun x_40 ex_40 => ?_)
            refine lv_ldc2 (v := (-1)) hx hb hown (hts _ wm_260) dX1_fillFrom_107 ?_
            refine lv_lxor hx hb dX1_fillFrom_110 ?_
            refine lv_topl (fun x_41 ex_41 => ?_)
            refine lv_land hx hb dX1_fillFrom_111 ?_
            refine lv_topl (fun x_42 ex_42 => ?_)
            refine lv_lload hx hb dX1_fillFrom_112 (lv_at hl 5 rfl) ?_
            refine lv_lload hx hb dX1_fillFrom_114 (lv_at hl 0 rfl) ?_
            refine lv_ladd hx hb dX1_fillFrom_116 ?_
            refine lv_topl (fun x_43 ex_43 => ?_)
            obtain ⟨fs44, hF44, -, -⟩ := hI.o hm_h0 hk_h0 rfl (ci := 1) rfl rfl
            refine gc_Mv (ci := 1) ⟨hx, hb, hml, hown, hts⟩ (k_try1 l dC dI K L fva hI h0 hm_h0 hk_h0 (nI q_20) x_42 x_43 hj5 hpk hj6 hof hnc (by omega) (Or.inr ⟨q_20, by omega, rfl⟩) hLn) 4 wm_256 wm_257 wm_258 wm_238 wm_259 (by decide +kernel) ⟨Nat.le_of_ble_eq_true rfl, Nat.le_of_ble_eq_true rfl⟩ hK rfl hm_h0 hF44 rfl hl.1 rfl (Nat.le_of_ble_eq_true rfl) dX1_fillFrom_117 ⟨Nat.le_of_ble_eq_true rfl, Nat.le_of_ble_eq_true rfl⟩ (fun a h => by rw [← hAe]; exact h) hS hP (fun fw_45 H locs hpw hP hS => ?_)
            have hI := hpw
            have hD : va_D A (va_pl L fw_45) := g_D hLn (fun a h => by rw [← hAe]; exact h) fw_45
            refine lv_iinc (v := nI (j + 1)) (lv' := [(8, .int (nI (j + 1))), (10, .long x_30), (9, .int (nI q_20)), (0, .ref h0), (1, .int 1), (2, .long z), (4, .long y), (6, .long ms)]) hx hb dX1_fillFrom_120 hl (k := 7) rfl (by exact nI_1 _) (by decide) rfl (fun ls hl => ?_)
            refine lv_goto (tgt := 31) hx hb dX1_fillFrom_123 (by decide) ?_
            exact iha _ (by omega) _ _ _ ⟨fw_45, (j + 1), ms, rfl, hI, by omega, hP, hS, lv_sub hl [3, 4, 5, 6, 7, 0] rfl⟩
          · skip
            exact W.vret hx hb hr (fun t ht hW => ⟨⟨fva, rfl, hI, by show va_P (dC, dI) vwCl (va_pl L fva) t.heap; rw [ht]; exact hP⟩, hS.F ht⟩) hS.2.2 dX1_fillFrom_89
        · skip
          refine lv_goto (tgt := 120) hx hb dX1_fillFrom_62 (by decide) ?_
          refine lv_iinc (v := nI (j + 1)) (lv' := [(8, .int (nI (j + 1))), (9, .int (nI q_20)), (0, .ref h0), (1, .int 1), (2, .long z), (4, .long y), (6, .long ms)]) hx hb dX1_fillFrom_120 hl (k := 6) rfl (by exact nI_1 _) (by decide) rfl (fun ls hl => ?_)
          refine lv_goto (tgt := 31) hx hb dX1_fillFrom_123 (by decide) ?_
          exact iha _ (by omega) _ _ _ ⟨fva, (j + 1), ms, rfl, hI, by omega, hP, hS, lv_sub hl [2, 3, 4, 5, 6, 0] rfl⟩
  · skip
    have nc_2 : ¬ (1 < pk) := fun q => c_2 (show nI 1 < nI pk from (bn_lt (a := 1) (b := pk) (by omega) (by omega)).mpr q)
    refine lv_aload_n hx hb dX1_fillFrom_8 rfl (lv_at hl 0 rfl) ?_
    refine lv_lload hx hb dX1_fillFrom_9 (lv_at hl 3 rfl) ?_
    obtain ⟨fs46, hF46, -, -⟩ := hI.o hm_h0 hk_h0 rfl (ci := 1) rfl rfl
    refine gc_Mv (ci := 1) ⟨hx, hb, hml, hown, hts⟩ (k_X1_keepIfBetter l dC dI K L f hI h0 hm_h0 hk_h0 y hj5 hpk (by omega) hLn) 1 wm_244 wm_245 wm_246 wm_238 wm_247 (by decide +kernel) ⟨Nat.le_of_ble_eq_true rfl, Nat.le_of_ble_eq_true rfl⟩ hK rfl hm_h0 hF46 rfl hl.1 rfl (Nat.le_of_ble_eq_true rfl) dX1_fillFrom_11 ⟨Nat.le_of_ble_eq_true rfl, Nat.le_of_ble_eq_true rfl⟩ (fun a h => by rw [← hAe]; exact h) hS hP (fun fw_47 H locs hpw hP hS => ?_)
    have hI := hpw
    have hD : va_D A (va_pl L fw_47) := g_D hLn (fun a h => by rw [← hAe]; exact h) fw_47
    exact W.vret hx hb hr (fun t ht hW => ⟨⟨fw_47, rfl, hI, by show va_P (dC, dI) vwCl (va_pl L fw_47) t.heap; rw [ht]; exact hP⟩, hS.F ht⟩) hS.2.2 dX1_fillFrom_14
set_option maxHeartbeats 4000000 in
set_option maxRecDepth 100000 in
theorem k_try0 (l : Launch) (dC : Nat → ClassId) (dI : Nat → Nat → Nat) (K : Nat → ClassId) (L : List Nat) (f : Nat → va_E) {np nc ns lk lc tp cp gp : Nat} {G J mk st : Nat → Int32} {ap : Nat → Int64} {kd sn : Nat → Nat} {pk : Nat} {of : Nat} (hI : cI K np nc ns lk lc tp cp gp G J mk st ap kd sn L f) (h0 : Nat) (hm_h0 : h0 ∈ L) (hk_h0 : kd h0 = 6) (x : Int32) (z : Int64) (y : Int64) (hj5 : J 5 = nI pk) (hpk : pk ≤ 4) (hj6 : J 6 = nI of) (hof : of ≤ nc) (hnc : nc ≤ 40) (htp : 0 ≤ tp) (hv9 : vld nc x) (hLn : gN L) : gMv l yX1_tryAt cX1_tryAt 7 9 (dC, dI) K L f [.ref h0, .int 0, .int x, .long z, .long y] (fun f' => cI K np nc ns lk lc 0 cp gp G J mk st ap kd sn L f') := by
  refine Met.ofW (cc := cX1_tryAt) (maxL := 7) (ret := none) (by decide) rfl ?_
  intro p e s m args below meth c s₁ B hml hv
  obtain ⟨rfl, hP, hK⟩ := hv
  have hD : va_D (fun q : Nat => q ∈ L) (va_pl L f) := g_D hLn (fun a h => h) f
  generalize hAe : (fun q : Nat => q ∈ L) = A at hD ⊢
  have hx := B.exec
  have hb := B.bytes
  have hr := B.returns
  have hlocks := B.notSynchronized
  have hts0 := atoms_spec (ws := Cond.code yX1_tryAt cX1_tryAt 7 none :: lw_B) B.pre
  have hts : ∀ w ∈ lw_B, w.before _ s = true := fun w h => hts0 w (List.mem_cons_of_mem _ h)
  have hown : s.vm.findClass RX1 = some m.cls := findClass_of_methodNamed B.named
  have hS : va_S A s.heap s.heap [] := va_S.rf
  have hl := lv_entry ([.ref h0, .int 0, .int x, .long z, .long y]) (n := 7) (Nat.le_of_ble_eq_true rfl)
  rw [lg_entry_eq]
  generalize (lg_sl ([.ref h0, .int 0, .int x, .long z, .long y]) ++ List.replicate (7 - (lg_sl ([.ref h0, .int 0, .int x, .long z, .long y])).length) Slot.unset).toArray = ls at hl ⊢
  have hl : lv_has ls 7 [(0, .ref h0), (1, .int 0), (2, .int x), (3, .long z), (5, .long y)] := hl
  refine lv_aload_n hx hb dX1_tryAt_0 rfl (lv_at hl 0 rfl) ?_
  obtain ⟨fs1, b_2, hF1, hv1, hm_b_2, hk_b_2⟩ := hI.gR hm_h0 hk_h0 1 (ci := 1) (t := 10) ⟨rfl, rfl, by decide, rfl⟩
  refine g_get (ci := 1) (v := .ref b_2) (C := RX1) (T := TX1) (N := 9) hx hb hts uB1 hown hK hP hm_h0 hF1 rfl 1 (by decide) wm_243 hv1 dX1_tryAt_1 ?_
  refine lv_iload_n hx hb dX1_tryAt_4 rfl (lv_at hl 1 rfl) ?_
  refine lv_iload_n hx hb dX1_tryAt_5 rfl (lv_at hl 2 rfl) ?_
  obtain ⟨g3, hF3, hgz3⟩ := hI.a10 hm_b_2 hk_b_2
  refine g_iast hx hb hK hP hD hS hm_b_2 hF3 (vp_in_iff.mpr (by decide)) dX1_tryAt_6 (fun H locs hP hD hS => ?_)
  obtain ⟨g_4, eg_4⟩ : ∃ z9, z9 = upd g3 (Int32.toNatClampNeg 0) x := ⟨_, rfl⟩
  rw [← eg_4] at hP hD
  rw [show Int32.toNatClampNeg 0 = 0 from rfl] at eg_4
  obtain ⟨f_5, ef_5⟩ : ∃ z9, z9 = va_up f b_2 (.inl (K 0, 4, .inl g_4)) := ⟨_, rfl⟩
  have hI := hI.s10 hm_b_2 hk_b_2 (tp' := 1) (vldSt hgz3 hv9 eg_4 (fun i hi => by omega))
  rw [← ef_5] at hP hD hI
  refine lv_aload_n hx hb dX1_tryAt_7 rfl (lv_at hl 0 rfl) ?_
  refine lv_iload_n hx hb dX1_tryAt_8 rfl (lv_at hl 1 rfl) ?_
  refine lv_iconst (v := 1) hx hb dX1_tryAt_9 (by decide) ?_
  refine lv_iadd hx hb dX1_tryAt_10 ?_
  refine lv_topi (fun x_6 ex_6 => ?_)
  obtain rfl : x_6 = 1 := ex_6.trans (by decide)
  refine lv_lload_n hx hb dX1_tryAt_11 rfl (lv_at hl 3 rfl) ?_
  refine lv_lload hx hb dX1_tryAt_12 (lv_at hl 4 rfl) ?_
  obtain ⟨fs7, hF7, -, -⟩ := hI.o hm_h0 hk_h0 rfl (ci := 1) rfl rfl
  refine gc_Mv (ci := 1) ⟨hx, hb, hml, hown, hts⟩ (k_fill1 l dC dI K L f_5 hI h0 hm_h0 hk_h0 z y hj5 hpk hj6 hof hnc (Nat.le_refl _) hLn) 3 wm_248 wm_249 wm_250 wm_238 wm_251 (by decide +kernel) ⟨Nat.le_of_ble_eq_true rfl, Nat.le_of_ble_eq_true rfl⟩ hK rfl hm_h0 hF7 rfl hl.1 rfl (Nat.le_of_ble_eq_true rfl) dX1_tryAt_14 ⟨Nat.le_of_ble_eq_true rfl, Nat.le_of_ble_eq_true rfl⟩ (fun a h => by rw [← hAe]; exact h) hS hP (fun fw_8 H locs hpw hP hS => ?_)
  have hI := hpw
  have hD : va_D A (va_pl L fw_8) := g_D hLn (fun a h => by rw [← hAe]; exact h) fw_8
  have hI := hI.le (tp' := 0) (Nat.le_refl _) (Nat.le_refl _) (by decide) (Nat.le_refl _) (Nat.le_refl _)
  exact W.vret hx hb hr (fun t ht hW => ⟨⟨fw_8, rfl, hI, by show va_P (dC, dI) vwCl (va_pl L fw_8) t.heap; rw [ht]; exact hP⟩, hS.F ht⟩) hS.2.2 dX1_tryAt_17
set_option maxHeartbeats 4000000 in
set_option maxRecDepth 100000 in
theorem k_fill0 (l : Launch) (dC : Nat → ClassId) (dI : Nat → Nat → Nat) (K : Nat → ClassId) (L : List Nat) (f : Nat → va_E) {np nc ns lk lc tp cp gp : Nat} {G J mk st : Nat → Int32} {ap : Nat → Int64} {kd sn : Nat → Nat} {pk : Nat} {of : Nat} (hI : cI K np nc ns lk lc tp cp gp G J mk st ap kd sn L f) (h0 : Nat) (hm_h0 : h0 ∈ L) (hk_h0 : kd h0 = 6) (z : Int64) (y : Int64) (hj5 : J 5 = nI pk) (hpk : pk ≤ 4) (hj6 : J 6 = nI of) (hof : of ≤ nc) (hnc : nc ≤ 40) (htp : 0 ≤ tp) (hLn : gN L) : gMv l yX1_fillFrom cX1_fillFrom 12 10 (dC, dI) K L f [.ref h0, .int 0, .long z, .long y] (fun f' => cI K np nc ns lk lc 0 cp gp G J mk st ap kd sn L f') := by
  refine Met.ofW (cc := cX1_fillFrom) (maxL := 12) (ret := none) (by decide) rfl ?_
  intro p e s m args below meth c s₁ B hml hv
  obtain ⟨rfl, hP, hK⟩ := hv
  have hD : va_D (fun q : Nat => q ∈ L) (va_pl L f) := g_D hLn (fun a h => h) f
  generalize hAe : (fun q : Nat => q ∈ L) = A at hD ⊢
  have hx := B.exec
  have hb := B.bytes
  have hr := B.returns
  have hlocks := B.notSynchronized
  have hts0 := atoms_spec (ws := Cond.code yX1_fillFrom cX1_fillFrom 12 none :: lw_B) B.pre
  have hts : ∀ w ∈ lw_B, w.before _ s = true := fun w h => hts0 w (List.mem_cons_of_mem _ h)
  have hown : s.vm.findClass RX1 = some m.cls := findClass_of_methodNamed B.named
  have hS : va_S A s.heap s.heap [] := va_S.rf
  have hl := lv_entry ([.ref h0, .int 0, .long z, .long y]) (n := 12) (Nat.le_of_ble_eq_true rfl)
  rw [lg_entry_eq]
  generalize (lg_sl ([.ref h0, .int 0, .long z, .long y]) ++ List.replicate (12 - (lg_sl ([.ref h0, .int 0, .long z, .long y])).length) Slot.unset).toArray = ls at hl ⊢
  have hl : lv_has ls 12 [(0, .ref h0), (1, .int 0), (2, .long z), (4, .long y)] := hl
  have hI := hI.le (tp' := 0) (Nat.le_refl _) (Nat.le_refl _) htp (Nat.le_refl _) (Nat.le_refl _)
  refine lv_iload_n hx hb dX1_fillFrom_0 rfl (lv_at hl 1 rfl) ?_
  refine lv_aload_n hx hb dX1_fillFrom_1 rfl (lv_at hl 0 rfl) ?_
  obtain ⟨fs1, hF1, hv1⟩ := hI.gJ hm_h0 hk_h0 5 (ci := 1) ⟨rfl, rfl, by decide, rfl⟩
  rw [hj5] at hv1
  refine g_get (ci := 1) (v := .int (nI pk)) (C := RX1) (T := TX1) (N := 9) hx hb hts uB1 hown hK hP hm_h0 hF1 rfl 5 (by decide) wm_227 hv1 dX1_fillFrom_2 ?_
  refine lv_icmp_lt (tgt := 15) hx hb dX1_fillFrom_5 (by decide) (fun c_2 => ?_) (fun c_2 => ?_)
  · skip
    have nc_2 : 0 < pk := (bn_lt (a := 0) (b := pk) (by omega) (by omega)).mp (show nI 0 < nI pk from c_2)
    refine lv_lload hx hb dX1_fillFrom_15 (lv_at hl 3 rfl) ?_
    refine lv_aload_n hx hb dX1_fillFrom_17 rfl (lv_at hl 0 rfl) ?_
    refine lv_iload_n hx hb dX1_fillFrom_18 rfl (lv_at hl 1 rfl) ?_
    refine lv_iconst (v := 1) hx hb dX1_fillFrom_19 (by decide) ?_
    refine lv_iadd hx hb dX1_fillFrom_20 ?_
    refine lv_topi (fun x_3 ex_3 => ?_)
    obtain rfl : x_3 = 1 := ex_3.trans (by decide)
    refine lv_lload_n hx hb dX1_fillFrom_21 rfl (lv_at hl 2 rfl) ?_
    obtain ⟨fs4, hF4, -, -⟩ := hI.o hm_h0 hk_h0 rfl (ci := 1) rfl rfl
    refine gc_Rl (ci := 1) ⟨hx, hb, hml, hown, hts⟩ (k_X1_mostFrom l dC dI K L f hI h0 hm_h0 hk_h0 1 z (by omega) hj5 hpk hj6 hof hnc) 2 wm_252 wm_253 wm_254 wm_238 wm_255 (by decide +kernel) ⟨Nat.le_of_ble_eq_true rfl, Nat.le_of_ble_eq_true rfl⟩ hK rfl hm_h0 hF4 rfl hl.1 rfl (Nat.le_of_ble_eq_true rfl) dX1_fillFrom_22 ⟨Nat.le_of_ble_eq_true rfl, Nat.le_of_ble_eq_true rfl⟩ hS hP (fun r_5 H locs hpr_5 hP hS => ?_)
    refine lv_ladd hx hb dX1_fillFrom_25 ?_
    refine lv_topl (fun x_6 ex_6 => ?_)
    refine lv_lstore (lv' := [(6, .long x_6), (0, .ref h0), (1, .int 0), (2, .long z), (4, .long y)]) hx hb dX1_fillFrom_26 hl (by decide) rfl (fun ls hl => ?_)
    refine lv_iconst (v := 0) hx hb dX1_fillFrom_28 (by decide) ?_
    refine lv_istore (lv' := [(8, .int 0), (6, .long x_6), (0, .ref h0), (1, .int 0), (2, .long z), (4, .long y)]) hx hb dX1_fillFrom_29 hl (by decide) rfl (fun ls hl => ?_)
    refine k_lx (pcx := 126) (fun n H locs ls => ∃ (fva : Nat → va_E) (j : Nat) (ms : Int64), of - j = n ∧ cI K np nc ns lk lc 0 cp gp G J mk st ap kd sn L fva ∧ (j ≤ of) ∧ va_P (dC, dI) vwCl (va_pl L fva) H ∧ va_S A s.heap H locs ∧ lv_has ls 12 [(0, .ref h0), (1, .int 0), (2, .long z), (4, .long y), (6, .long ms), (8, .int (nI j))]) (fun H locs ls => ∃ (fva : Nat → va_E) (j : Nat) (ms : Int64), cI K np nc ns lk lc 0 cp gp G J mk st ap kd sn L fva ∧ (j ≤ of) ∧ va_P (dC, dI) vwCl (va_pl L fva) H ∧ va_S A s.heap H locs ∧ lv_has ls 12 [(0, .ref h0), (1, .int 0), (2, .long z), (4, .long y), (6, .long ms), (8, .int (nI j))]) (fun H locs ls hI_ => ?_) (fun n H locs ls hI_ hEa iha => ?_) _ _ _ _ ⟨f, 0, _, rfl, hI, Nat.zero_le _, hP, hS, lv_sub hl [2, 3, 4, 5, 1, 0] rfl⟩
    · skip
      obtain ⟨fva, j, ms, hI, hj, hP, hS, hl⟩ := hI_
      have hD : va_D A (va_pl L fva) := g_D hLn (fun a h => by rw [← hAe]; exact h) fva
      refine lv_lload hx hb dX1_fillFrom_126 (lv_at hl 4 rfl) ?_
      refine lv_aload_n hx hb dX1_fillFrom_128 rfl (lv_at hl 0 rfl) ?_
      obtain ⟨fs7, x_7, hF7, hv7⟩ := hI.gL hm_h0 hk_h0 8 (ci := 1) ⟨rfl, rfl, by decide, rfl⟩
      refine g_get (ci := 1) (v := .long x_7) (C := RX1) (T := TX1) (N := 9) hx hb hts uB1 hown hK hP hm_h0 hF7 rfl 8 (by decide) wm_233 hv7 dX1_fillFrom_129 ?_
      refine W.lcmp hx hb dX1_fillFrom_132 ?_
      refine lv_topi (fun x_8 ex_8 => ?_)
      refine lv_if_le (tgt := 145) hx hb dX1_fillFrom_133 (by decide) (fun c_9 => ?_) (fun c_9 => ?_)
      · skip
        exact W.vret hx hb hr (fun t ht hW => ⟨⟨fva, rfl, hI, by show va_P (dC, dI) vwCl (va_pl L fva) t.heap; rw [ht]; exact hP⟩, hS.F ht⟩) hS.2.2 dX1_fillFrom_145
      · skip
        refine lv_aload_n hx hb dX1_fillFrom_136 rfl (lv_at hl 0 rfl) ?_
        refine lv_iload_n hx hb dX1_fillFrom_137 rfl (lv_at hl 1 rfl) ?_
        refine lv_iconst (v := (-1)) hx hb dX1_fillFrom_138 (by decide) ?_
        refine lv_lload_n hx hb dX1_fillFrom_139 rfl (lv_at hl 2 rfl) ?_
        refine lv_lload hx hb dX1_fillFrom_140 (lv_at hl 3 rfl) ?_
        obtain ⟨fs10, hF10, -, -⟩ := hI.o hm_h0 hk_h0 rfl (ci := 1) rfl rfl
        refine gc_Mv (ci := 1) ⟨hx, hb, hml, hown, hts⟩ (k_try0 l dC dI K L fva hI h0 hm_h0 hk_h0 (-1) z y hj5 hpk hj6 hof hnc (by omega) (Or.inl rfl) hLn) 4 wm_256 wm_257 wm_258 wm_238 wm_259 (by decide +kernel) ⟨Nat.le_of_ble_eq_true rfl, Nat.le_of_ble_eq_true rfl⟩ hK rfl hm_h0 hF10 rfl hl.1 rfl (Nat.le_of_ble_eq_true rfl) dX1_fillFrom_142 ⟨Nat.le_of_ble_eq_true rfl, Nat.le_of_ble_eq_true rfl⟩ (fun a h => by rw [← hAe]; exact h) hS hP (fun fw_11 H locs hpw hP hS => ?_)
        have hI := hpw
        have hD : va_D A (va_pl L fw_11) := g_D hLn (fun a h => by rw [← hAe]; exact h) fw_11
        exact W.vret hx hb hr (fun t ht hW => ⟨⟨fw_11, rfl, hI, by show va_P (dC, dI) vwCl (va_pl L fw_11) t.heap; rw [ht]; exact hP⟩, hS.F ht⟩) hS.2.2 dX1_fillFrom_145
    · skip
      obtain ⟨fva, j, ms, hmua, hI, hj, hP, hS, hl⟩ := hI_
      have hD : va_D A (va_pl L fva) := g_D hLn (fun a h => by rw [← hAe]; exact h) fva
      refine lv_iload hx hb dX1_fillFrom_31 (lv_at hl 5 rfl) ?_
      refine lv_aload_n hx hb dX1_fillFrom_33 rfl (lv_at hl 0 rfl) ?_
      obtain ⟨fs12, hF12, hv12⟩ := hI.gJ hm_h0 hk_h0 6 (ci := 1) ⟨rfl, rfl, by decide, rfl⟩
      rw [hj6] at hv12
      refine g_get (ci := 1) (v := .int (nI of)) (C := RX1) (T := TX1) (N := 9) hx hb hts uB1 hown hK hP hm_h0 hF12 rfl 6 (by decide) wm_228 hv12 dX1_fillFrom_34 ?_
      refine lv_icmp_ge (tgt := 126) hx hb dX1_fillFrom_37 (by decide) (fun c_13 => ?_) (fun c_13 => ?_)
      · skip
        have nc_13 : of ≤ j := (bn_le (a := of) (b := j) (by omega) (by omega)).mp (show nI of ≤ nI j from c_13)
        exact hEa _ _ _ ⟨fva, j, ms, hI, hj, hP, hS, lv_sub hl [0, 1, 2, 3, 4, 5] rfl⟩
      · skip
        have nc_13 : ¬ (of ≤ j) := fun q => c_13 (show nI of ≤ nI j from (bn_le (a := of) (b := j) (by omega) (by omega)).mpr q)
        refine lv_aload_n hx hb dX1_fillFrom_40 rfl (lv_at hl 0 rfl) ?_
        obtain ⟨fs14, b_15, hF14, hv14, hm_b_15, hk_b_15⟩ := hI.gR hm_h0 hk_h0 3 (ci := 1) (t := 12) ⟨rfl, rfl, by decide, rfl⟩
        refine g_get (ci := 1) (v := .ref b_15) (C := RX1) (T := TX1) (N := 9) hx hb hts uB1 hown hK hP hm_h0 hF14 rfl 3 (by decide) wm_234 hv14 dX1_fillFrom_41 ?_
        refine lv_iload_n hx hb dX1_fillFrom_44 rfl (lv_at hl 1 rfl) ?_
        obtain ⟨g16, hF16, hgz16⟩ := hI.a12 hm_b_15 hk_b_15
        obtain ⟨b_17, hm_b_17, hk_b_17, hv16⟩ := hgz16 0 (by omega)
        refine g_ald2 (t := 7) hx hb hK hP hm_b_15 hF16 rfl (vp_in_iff.mpr (by decide)) hv16 dX1_fillFrom_45 ?_
        refine lv_iload hx hb dX1_fillFrom_46 (lv_at hl 5 rfl) ?_
        obtain ⟨g18, hF18, hgz18⟩ := hI.a15 hm_b_17 hk_b_17
        refine g_iald hx hb hK hP hm_b_17 hF18 (vp_in_nI (by omega) (by decide)) dX1_fillFrom_48 ?_
        refine lv_topi (fun x_19 ex_19 => ?_)
        rw [nI_clamp (by omega)] at ex_19
        obtain ⟨q_20, h4q_20, hcq_20, heq_20⟩ := hgz18 j (by omega)
        obtain rfl : x_19 = nI (q_20) := ex_19.trans heq_20
        refine lv_istore (lv' := [(9, .int (nI q_20)), (0, .ref h0), (1, .int 0), (2, .long z), (4, .long y), (6, .long ms), (8, .int (nI j))]) hx hb dX1_fillFrom_49 hl (by decide) rfl (fun ls hl => ?_)
        refine lv_lload_n hx hb dX1_fillFrom_51 rfl (lv_at hl 3 rfl) ?_
        refine lv_iload hx hb dX1_fillFrom_52 (lv_at hl 0 rfl) ?_
        refine lv_lushr hx hb dX1_fillFrom_54 rfl ?_
        refine lv_topl (fun x_21 ex_21 => ?_)
        refine lv_lconst (v := 1) hx hb dX1_fillFrom_55 rfl ?_
        refine lv_land hx hb dX1_fillFrom_56 ?_
        refine lv_topl (fun x_22 ex_22 => ?_)
        refine lv_lconst (v := 0) hx hb dX1_fillFrom_57 rfl ?_
        refine W.lcmp hx hb dX1_fillFrom_58 ?_
        refine lv_topi (fun x_23 ex_23 => ?_)
        refine lv_if_ne (tgt := 65) hx hb dX1_fillFrom_59 (by decide) (fun c_24 => ?_) (fun c_24 => ?_)
        · skip
          refine lv_aload_n hx hb dX1_fillFrom_65 rfl (lv_at hl 1 rfl) ?_
          obtain ⟨fs25, b_26, hF25, hv25, hm_b_26, hk_b_26⟩ := hI.gR hm_h0 hk_h0 2 (ci := 1) (t := 11) ⟨rfl, rfl, by decide, rfl⟩
          refine g_get (ci := 1) (v := .ref b_26) (C := RX1) (T := TX1) (N := 9) hx hb hts uB1 hown hK hP hm_h0 hF25 rfl 2 (by decide) wm_231 hv25 dX1_fillFrom_66 ?_
          refine lv_iload_n hx hb dX1_fillFrom_69 rfl (lv_at hl 2 rfl) ?_
          obtain ⟨g27, hF27, hgz27⟩ := hI.a11 hm_b_26 hk_b_26
          obtain ⟨b_28, hm_b_28, hk_b_28, hv27⟩ := hgz27 0 (by omega)
          refine g_ald2 (t := 6) hx hb hK hP hm_b_26 hF27 rfl (vp_in_iff.mpr (by decide)) hv27 dX1_fillFrom_70 ?_
          refine lv_iload hx hb dX1_fillFrom_71 (lv_at hl 0 rfl) ?_
          obtain ⟨g29, hF29⟩ := hI.a14 hm_b_28 hk_b_28
          refine g_lald hx hb hK hP hm_b_28 hF29 (vp_in_nI (by omega) (by decide)) dX1_fillFrom_73 ?_
          refine lv_topl (fun x_30 ex_30 => ?_)
          refine lv_lstore (lv' := [(10, .long x_30), (9, .int (nI q_20)), (0, .ref h0), (1, .int 0), (2, .long z), (4, .long y), (6, .long ms), (8, .int (nI j))]) hx hb dX1_fillFrom_74 hl (by decide) rfl (fun ls hl => ?_)
          refine lv_lload hx hb dX1_fillFrom_76 (lv_at hl 6 rfl) ?_
          refine lv_lload hx hb dX1_fillFrom_78 (lv_at hl 0 rfl) ?_
          refine lv_ladd hx hb dX1_fillFrom_80 ?_
          refine lv_topl (fun x_31 ex_31 => ?_)
          refine lv_aload_n hx hb dX1_fillFrom_81 rfl (lv_at hl 2 rfl) ?_
          obtain ⟨fs32, x_32, hF32, hv32⟩ := hI.gL hm_h0 hk_h0 8 (ci := 1) ⟨rfl, rfl, by decide, rfl⟩
          refine g_get (ci := 1) (v := .long x_32) (C := RX1) (T := TX1) (N := 9) hx hb hts uB1 hown hK hP hm_h0 hF32 rfl 8 (by decide) wm_233 hv32 dX1_fillFrom_82 ?_
          refine W.lcmp hx hb dX1_fillFrom_85 ?_
          refine lv_topi (fun x_33 ex_33 => ?_)
          refine lv_if_gt (tgt := 90) hx hb dX1_fillFrom_86 (by decide) (fun c_34 => ?_) (fun c_34 => ?_)
          · skip
            refine lv_aload_n hx hb dX1_fillFrom_90 rfl (lv_at hl 2 rfl) ?_
            refine lv_iload_n hx hb dX1_fillFrom_91 rfl (lv_at hl 3 rfl) ?_
            refine lv_iload hx hb dX1_fillFrom_92 (lv_at hl 1 rfl) ?_
            refine lv_lload_n hx hb dX1_fillFrom_94 rfl (lv_at hl 4 rfl) ?_
            refine lv_aload_n hx hb dX1_fillFrom_95 rfl (lv_at hl 2 rfl) ?_
            obtain ⟨fs35, b_36, hF35, hv35, hm_b_36, hk_b_36⟩ := hI.gR hm_h0 hk_h0 4 (ci := 1) (t := 13) ⟨rfl, rfl, by decide, rfl⟩
            refine g_get (ci := 1) (v := .ref b_36) (C := RX1) (T := TX1) (N := 9) hx hb hts uB1 hown hK hP hm_h0 hF35 rfl 4 (by decide) wm_230 hv35 dX1_fillFrom_96 ?_
            refine lv_iload hx hb dX1_fillFrom_99 (lv_at hl 1 rfl) ?_
            obtain ⟨g37, hF37⟩ := hI.a13 hm_b_36 hk_b_36
            refine g_lald hx hb hK hP hm_b_36 hF37 (vp_in_nI (by omega) (by decide)) dX1_fillFrom_101 ?_
            refine lv_topl (fun x_38 ex_38 => ?_)
            refine lv_lconst (v := 1) hx hb dX1_fillFrom_102 rfl ?_
            refine lv_iload hx hb dX1_fillFrom_103 (lv_at hl 1 rfl) ?_
            refine lv_lshl hx hb dX1_fillFrom_105 rfl ?_
            refine lv_topl (fun x_39 ex_39 => ?_)
            refine lv_lor hx hb dX1_fillFrom_106 ?_
            refine lv_topl (fun x_40 ex_40 => ?_)
            refine lv_ldc2 (v := (-1)) hx hb hown (hts _ wm_260) dX1_fillFrom_107 ?_
            refine lv_lxor hx hb dX1_fillFrom_110 ?_
            refine lv_topl (fun x_41 ex_41 => ?_)
            refine lv_land hx hb dX1_fillFrom_111 ?_
            refine lv_topl (fun x_42 ex_42 => ?_)
            refine lv_lload hx hb dX1_fillFrom_112 (lv_at hl 5 rfl) ?_
            refine lv_lload hx hb dX1_fillFrom_114 (lv_at hl 0 rfl) ?_
            refine lv_ladd hx hb dX1_fillFrom_116 ?_
            refine lv_topl (fun x_43 ex_43 => ?_)
            obtain ⟨fs44, hF44, -, -⟩ := hI.o hm_h0 hk_h0 rfl (ci := 1) rfl rfl
            refine gc_Mv (ci := 1) ⟨hx, hb, hml, hown, hts⟩ (k_try0 l dC dI K L fva hI h0 hm_h0 hk_h0 (nI q_20) x_42 x_43 hj5 hpk hj6 hof hnc (by omega) (Or.inr ⟨q_20, by omega, rfl⟩) hLn) 4 wm_256 wm_257 wm_258 wm_238 wm_259 (by decide +kernel) ⟨Nat.le_of_ble_eq_true rfl, Nat.le_of_ble_eq_true rfl⟩ hK rfl hm_h0 hF44 rfl hl.1 rfl (Nat.le_of_ble_eq_true rfl) dX1_fillFrom_117 ⟨Nat.le_of_ble_eq_true rfl, Nat.le_of_ble_eq_true rfl⟩ (fun a h => by rw [← hAe]; exact h) hS hP (fun fw_45 H locs hpw hP hS => ?_)
            have hI := hpw
            have hD : va_D A (va_pl L fw_45) := g_D hLn (fun a h => by rw [← hAe]; exact h) fw_45
            refine lv_iinc (v := nI (j + 1)) (lv' := [(8, .int (nI (j + 1))), (10, .long x_30), (9, .int (nI q_20)), (0, .ref h0), (1, .int 0), (2, .long z), (4, .long y), (6, .long ms)]) hx hb dX1_fillFrom_120 hl (k := 7) rfl (by exact nI_1 _) (by decide) rfl (fun ls hl => ?_)
            refine lv_goto (tgt := 31) hx hb dX1_fillFrom_123 (by decide) ?_
            exact iha _ (by omega) _ _ _ ⟨fw_45, (j + 1), ms, rfl, hI, by omega, hP, hS, lv_sub hl [3, 4, 5, 6, 7, 0] rfl⟩
          · skip
            exact W.vret hx hb hr (fun t ht hW => ⟨⟨fva, rfl, hI, by show va_P (dC, dI) vwCl (va_pl L fva) t.heap; rw [ht]; exact hP⟩, hS.F ht⟩) hS.2.2 dX1_fillFrom_89
        · skip
          refine lv_goto (tgt := 120) hx hb dX1_fillFrom_62 (by decide) ?_
          refine lv_iinc (v := nI (j + 1)) (lv' := [(8, .int (nI (j + 1))), (9, .int (nI q_20)), (0, .ref h0), (1, .int 0), (2, .long z), (4, .long y), (6, .long ms)]) hx hb dX1_fillFrom_120 hl (k := 6) rfl (by exact nI_1 _) (by decide) rfl (fun ls hl => ?_)
          refine lv_goto (tgt := 31) hx hb dX1_fillFrom_123 (by decide) ?_
          exact iha _ (by omega) _ _ _ ⟨fva, (j + 1), ms, rfl, hI, by omega, hP, hS, lv_sub hl [2, 3, 4, 5, 6, 0] rfl⟩
  · skip
    have nc_2 : ¬ (0 < pk) := fun q => c_2 (show nI 0 < nI pk from (bn_lt (a := 0) (b := pk) (by omega) (by omega)).mpr q)
    refine lv_aload_n hx hb dX1_fillFrom_8 rfl (lv_at hl 0 rfl) ?_
    refine lv_lload hx hb dX1_fillFrom_9 (lv_at hl 3 rfl) ?_
    obtain ⟨fs46, hF46, -, -⟩ := hI.o hm_h0 hk_h0 rfl (ci := 1) rfl rfl
    refine gc_Mv (ci := 1) ⟨hx, hb, hml, hown, hts⟩ (k_X1_keepIfBetter l dC dI K L f hI h0 hm_h0 hk_h0 y hj5 hpk (by omega) hLn) 1 wm_244 wm_245 wm_246 wm_238 wm_247 (by decide +kernel) ⟨Nat.le_of_ble_eq_true rfl, Nat.le_of_ble_eq_true rfl⟩ hK rfl hm_h0 hF46 rfl hl.1 rfl (Nat.le_of_ble_eq_true rfl) dX1_fillFrom_11 ⟨Nat.le_of_ble_eq_true rfl, Nat.le_of_ble_eq_true rfl⟩ (fun a h => by rw [← hAe]; exact h) hS hP (fun fw_47 H locs hpw hP hS => ?_)
    have hI := hpw
    have hD : va_D A (va_pl L fw_47) := g_D hLn (fun a h => by rw [← hAe]; exact h) fw_47
    exact W.vret hx hb hr (fun t ht hW => ⟨⟨fw_47, rfl, hI, by show va_P (dC, dI) vwCl (va_pl L fw_47) t.heap; rw [ht]; exact hP⟩, hS.F ht⟩) hS.2.2 dX1_fillFrom_14
