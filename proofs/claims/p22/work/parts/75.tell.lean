set_option maxHeartbeats 4000000 in
set_option maxRecDepth 100000 in
theorem k_X5_sale (l : Launch) (dC : Nat → ClassId) (dI : Nat → Nat → Nat) (K : Nat → ClassId) (L : List Nat) (f : Nat → va_E) {np nc ns lk lc tp cp gp : Nat} {G J mk st : Nat → Int32} {ap : Nat → Int64} {kd sn : Nat → Nat} (hI : cI K np nc ns lk lc tp cp gp G J mk st ap kd sn L f) (h0 : Nat) (hm_h0 : h0 ∈ L) (hk_h0 : kd h0 = 1) (x : Int32) (y : Int32) (hg9 : G 9 = nI ns) (hns : ns ≤ 1000) : gR l yX5_sale cX5_sale 4 .int 1 (dC, dI) K L f [.ref h0, .int x, .int y] (fun r => True) := by
  refine Met.ofW (cc := cX5_sale) (maxL := 4) (ret := some .int) (by decide) rfl ?_
  intro p e s m args below meth c s₁ B hml hv
  obtain ⟨rfl, hP, hK⟩ := hv
  have hx := B.exec
  have hb := B.bytes
  have hr := B.returns
  have hlocks := B.notSynchronized
  have hts0 := atoms_spec (ws := Cond.code yX5_sale cX5_sale 4 (some .int) :: lw_B) B.pre
  have hts : ∀ w ∈ lw_B, w.before _ s = true := fun w h => hts0 w (List.mem_cons_of_mem _ h)
  have hown : s.vm.findClass RX5 = some m.cls := findClass_of_methodNamed B.named
  have hS : va_S (fun _ => False) s.heap s.heap [] := va_S.rf
  have hl := lv_entry ([.ref h0, .int x, .int y]) (n := 4) (Nat.le_of_ble_eq_true rfl)
  rw [lg_entry_eq]
  generalize (lg_sl ([.ref h0, .int x, .int y]) ++ List.replicate (4 - (lg_sl ([.ref h0, .int x, .int y])).length) Slot.unset).toArray = ls at hl ⊢
  have hl : lv_has ls 4 [(0, .ref h0), (1, .int x), (2, .int y)] := hl
  refine lv_aload_n hx hb dX5_sale_0 rfl (lv_at hl 0 rfl) ?_
  refine lv_iload_n hx hb dX5_sale_1 rfl (lv_at hl 1 rfl) ?_
  obtain ⟨fs1, hF1, -, -⟩ := hI.o hm_h0 hk_h0 rfl (ci := 5) rfl rfl
  refine gc_R (ci := 5) ⟨hx, hb, hml, hown, hts⟩ (k_X5_isSale l dC dI K L f hI h0 hm_h0 hk_h0 x hg9 hns) 1 wm_101 wm_102 wm_103 wm_67 wm_104 (by decide +kernel) ⟨Nat.le_of_ble_eq_true rfl, Nat.le_of_ble_eq_true rfl⟩ hK rfl hm_h0 hF1 rfl hl.1 rfl (Nat.le_of_ble_eq_true rfl) dX5_sale_2 ⟨Nat.le_of_ble_eq_true rfl, Nat.le_of_ble_eq_true rfl⟩ hS hP (fun r_2 H locs hpr_2 hP hS => ?_)
  refine lv_if_ne (tgt := 10) hx hb dX5_sale_5 (by decide) (fun c_3 => ?_) (fun c_3 => ?_)
  · skip
    have g_3 := k_ft hpr_2 c_3
    have gc_s1 := g_3
    obtain ⟨s1, hs1, rfl⟩ := k_ix (n := ns) (x := x) g_3 (by omega)
    refine lv_aload_n hx hb dX5_sale_10 rfl (lv_at hl 0 rfl) ?_
    obtain ⟨fs4, b_5, hF4, hv4, hm_b_5, hk_b_5⟩ := hI.gR hm_h0 hk_h0 2 (ci := 5) (t := 4) ⟨rfl, rfl, by decide, rfl⟩
    refine g_get (ci := 5) (v := .ref b_5) (C := RX5) (T := TX5) (N := 17) hx hb hts uB5 hown hK hP hm_h0 hF4 rfl 2 (by decide) wm_332 hv4 dX5_sale_11 ?_
    refine lv_iload_n hx hb dX5_sale_14 rfl (lv_at hl 1 rfl) ?_
    obtain ⟨g6, hF6, hgz6⟩ := hI.a4 hm_b_5 hk_b_5
    obtain ⟨b_7, hm_b_7, hk_b_7, hv6⟩ := hgz6 s1 (by omega)
    refine g_aldR (t := 5) hx hb hK hP hm_b_5 hF6 rfl (vp_in_nI (by omega) (by decide)) (by rw [nI_clamp (by omega)]; exact hv6) dX5_sale_15 ?_
    refine lv_astore_n (lv' := [(3, .ref b_7), (0, .ref h0), (1, .int (nI s1)), (2, .int y)]) hx hb dX5_sale_16 rfl hl (by decide) rfl (fun ls hl => ?_)
    refine lv_iload_n hx hb dX5_sale_17 rfl (lv_at hl 3 rfl) ?_
    rcases k_sw6 y with h9 | rfl | rfl | rfl | rfl | rfl | rfl | rfl
    · skip
      refine lv_tableOut (tgt := 95) hx hb dX5_sale_18 h9 (by decide) ?_
      refine lv_iconst (v := (-1)) hx hb dX5_sale_95 (by decide) ?_
      exact W.iret (v := (-1)) hx hb hr (fun t ht hW => ⟨⟨(-1), (), rfl, trivial, trivial⟩, hS.F ht⟩) hS.2.2 dX5_sale_96
    · skip
      refine lv_tableIn (off := 42) (tgt := 60) hx hb dX5_sale_18 (by decide) (by decide) rfl (by decide) ?_
      refine lv_aload_n hx hb dX5_sale_60 rfl (lv_at hl 0 rfl) ?_
      obtain ⟨fs8, x_8, hF8, hv8⟩ := hI.gI hm_b_7 hk_b_7 0 (ci := 3) ⟨rfl, rfl, by decide, rfl⟩
      refine g_get (ci := 3) (v := .int x_8) (C := RX3) (T := TX3) (N := 12) hx hb hts uB3 hown hK hP hm_b_7 hF8 rfl 0 (by decide) wm_308 hv8 dX5_sale_61 ?_
      exact W.iret (v := x_8) hx hb hr (fun t ht hW => ⟨⟨x_8, (), rfl, trivial, trivial⟩, hS.F ht⟩) hS.2.2 dX5_sale_64
    · skip
      refine lv_tableIn (off := 47) (tgt := 65) hx hb dX5_sale_18 (by decide) (by decide) rfl (by decide) ?_
      refine lv_aload_n hx hb dX5_sale_65 rfl (lv_at hl 0 rfl) ?_
      obtain ⟨fs9, x_9, hF9, hv9⟩ := hI.gI hm_b_7 hk_b_7 1 (ci := 3) ⟨rfl, rfl, by decide, rfl⟩
      refine g_get (ci := 3) (v := .int x_9) (C := RX3) (T := TX3) (N := 12) hx hb hts uB3 hown hK hP hm_b_7 hF9 rfl 1 (by decide) wm_443 hv9 dX5_sale_66 ?_
      exact W.iret (v := x_9) hx hb hr (fun t ht hW => ⟨⟨x_9, (), rfl, trivial, trivial⟩, hS.F ht⟩) hS.2.2 dX5_sale_69
    · skip
      refine lv_tableIn (off := 52) (tgt := 70) hx hb dX5_sale_18 (by decide) (by decide) rfl (by decide) ?_
      refine lv_aload_n hx hb dX5_sale_70 rfl (lv_at hl 0 rfl) ?_
      obtain ⟨fs10, q_10, hF10, hv10, hq_10⟩ := hI.g6 hm_b_7 hk_b_7 2 (ci := 3) ⟨rfl, rfl, by decide, rfl⟩
      refine g_get (ci := 3) (v := .int (nI q_10)) (C := RX3) (T := TX3) (N := 12) hx hb hts uB3 hown hK hP hm_b_7 hF10 rfl 2 (by decide) wm_293 hv10 dX5_sale_71 ?_
      exact W.iret (v := nI q_10) hx hb hr (fun t ht hW => ⟨⟨nI q_10, (), rfl, trivial, trivial⟩, hS.F ht⟩) hS.2.2 dX5_sale_74
    · skip
      refine lv_tableIn (off := 57) (tgt := 75) hx hb dX5_sale_18 (by decide) (by decide) rfl (by decide) ?_
      refine lv_aload_n hx hb dX5_sale_75 rfl (lv_at hl 0 rfl) ?_
      obtain ⟨fs11, x_11, hF11, hv11⟩ := hI.gI hm_b_7 hk_b_7 3 (ci := 3) ⟨rfl, rfl, by decide, rfl⟩
      refine g_get (ci := 3) (v := .int x_11) (C := RX3) (T := TX3) (N := 12) hx hb hts uB3 hown hK hP hm_b_7 hF11 rfl 3 (by decide) wm_444 hv11 dX5_sale_76 ?_
      exact W.iret (v := x_11) hx hb hr (fun t ht hW => ⟨⟨x_11, (), rfl, trivial, trivial⟩, hS.F ht⟩) hS.2.2 dX5_sale_79
    · skip
      refine lv_tableIn (off := 62) (tgt := 80) hx hb dX5_sale_18 (by decide) (by decide) rfl (by decide) ?_
      refine lv_aload_n hx hb dX5_sale_80 rfl (lv_at hl 0 rfl) ?_
      obtain ⟨fs12, q_12, hF12, hv12, hq_12⟩ := hI.g7 hm_b_7 hk_b_7 4 (ci := 3) ⟨rfl, rfl, by decide, rfl⟩
      refine g_get (ci := 3) (v := .int (nI q_12)) (C := RX3) (T := TX3) (N := 12) hx hb hts uB3 hown hK hP hm_b_7 hF12 rfl 4 (by decide) wm_289 hv12 dX5_sale_81 ?_
      exact W.iret (v := nI q_12) hx hb hr (fun t ht hW => ⟨⟨nI q_12, (), rfl, trivial, trivial⟩, hS.F ht⟩) hS.2.2 dX5_sale_84
    · skip
      refine lv_tableIn (off := 67) (tgt := 85) hx hb dX5_sale_18 (by decide) (by decide) rfl (by decide) ?_
      refine lv_aload_n hx hb dX5_sale_85 rfl (lv_at hl 0 rfl) ?_
      obtain ⟨fs13, x_13, hF13, hv13⟩ := hI.gI hm_b_7 hk_b_7 5 (ci := 3) ⟨rfl, rfl, by decide, rfl⟩
      refine g_get (ci := 3) (v := .int x_13) (C := RX3) (T := TX3) (N := 12) hx hb hts uB3 hown hK hP hm_b_7 hF13 rfl 5 (by decide) wm_296 hv13 dX5_sale_86 ?_
      exact W.iret (v := x_13) hx hb hr (fun t ht hW => ⟨⟨x_13, (), rfl, trivial, trivial⟩, hS.F ht⟩) hS.2.2 dX5_sale_89
    · skip
      refine lv_tableIn (off := 72) (tgt := 90) hx hb dX5_sale_18 (by decide) (by decide) rfl (by decide) ?_
      refine lv_aload_n hx hb dX5_sale_90 rfl (lv_at hl 0 rfl) ?_
      obtain ⟨fs14, x_14, hF14, hv14⟩ := hI.gI hm_b_7 hk_b_7 6 (ci := 3) ⟨rfl, rfl, by decide, rfl⟩
      refine g_get (ci := 3) (v := .int x_14) (C := RX3) (T := TX3) (N := 12) hx hb hts uB3 hown hK hP hm_b_7 hF14 rfl 6 (by decide) wm_315 hv14 dX5_sale_91 ?_
      exact W.iret (v := x_14) hx hb hr (fun t ht hW => ⟨⟨x_14, (), rfl, trivial, trivial⟩, hS.F ht⟩) hS.2.2 dX5_sale_94
  · skip
    have g_3 := k_ff hpr_2 c_3
    refine lv_iconst (v := (-1)) hx hb dX5_sale_8 (by decide) ?_
    exact W.iret (v := (-1)) hx hb hr (fun t ht hW => ⟨⟨(-1), (), rfl, trivial, trivial⟩, hS.F ht⟩) hS.2.2 dX5_sale_9
set_option maxHeartbeats 4000000 in
set_option maxRecDepth 100000 in
theorem k_X5_told (l : Launch) (dC : Nat → ClassId) (dI : Nat → Nat → Nat) (K : Nat → ClassId) (L : List Nat) (f : Nat → va_E) {np nc ns lk lc tp cp gp : Nat} {G J mk st : Nat → Int32} {ap : Nat → Int64} {kd sn : Nat → Nat} {tk : Nat} (hI : cI K np nc ns lk lc tp cp gp G J mk st ap kd sn L f) (h0 : Nat) (hm_h0 : h0 ∈ L) (hk_h0 : kd h0 = 1) (x : Int32) (y : Int32) (hg8 : G 8 = nI nc) (hg12 : G 12 = nI tk) (hnc : nc ≤ 40) : gR l yX5_told cX5_told 4 .int 2 (dC, dI) K L f [.ref h0, .int x, .int y] (fun r => True) := by
  refine Met.ofW (cc := cX5_told) (maxL := 4) (ret := some .int) (by decide) rfl ?_
  intro p e s m args below meth c s₁ B hml hv
  obtain ⟨rfl, hP, hK⟩ := hv
  have hx := B.exec
  have hb := B.bytes
  have hr := B.returns
  have hlocks := B.notSynchronized
  have hts0 := atoms_spec (ws := Cond.code yX5_told cX5_told 4 (some .int) :: lw_B) B.pre
  have hts : ∀ w ∈ lw_B, w.before _ s = true := fun w h => hts0 w (List.mem_cons_of_mem _ h)
  have hown : s.vm.findClass RX5 = some m.cls := findClass_of_methodNamed B.named
  have hS : va_S (fun _ => False) s.heap s.heap [] := va_S.rf
  have hl := lv_entry ([.ref h0, .int x, .int y]) (n := 4) (Nat.le_of_ble_eq_true rfl)
  rw [lg_entry_eq]
  generalize (lg_sl ([.ref h0, .int x, .int y]) ++ List.replicate (4 - (lg_sl ([.ref h0, .int x, .int y])).length) Slot.unset).toArray = ls at hl ⊢
  have hl : lv_has ls 4 [(0, .ref h0), (1, .int x), (2, .int y)] := hl
  refine lv_aload_n hx hb dX5_told_0 rfl (lv_at hl 0 rfl) ?_
  refine lv_iload_n hx hb dX5_told_1 rfl (lv_at hl 1 rfl) ?_
  obtain ⟨fs1, hF1, -, -⟩ := hI.o hm_h0 hk_h0 rfl (ci := 5) rfl rfl
  refine gc_R (ci := 5) ⟨hx, hb, hml, hown, hts⟩ (k_X5_isCampaign l dC dI K L f hI h0 hm_h0 hk_h0 x hg8 hnc) 1 wm_77 wm_78 wm_79 wm_67 wm_80 (by decide +kernel) ⟨Nat.le_of_ble_eq_true rfl, Nat.le_of_ble_eq_true rfl⟩ hK rfl hm_h0 hF1 rfl hl.1 rfl (Nat.le_of_ble_eq_true rfl) dX5_told_2 ⟨Nat.le_of_ble_eq_true rfl, Nat.le_of_ble_eq_true rfl⟩ hS hP (fun r_2 H locs hpr_2 hP hS => ?_)
  refine lv_if_ne (tgt := 11) hx hb dX5_told_5 (by decide) (fun c_3 => ?_) (fun c_3 => ?_)
  · skip
    have g_3 := k_ft hpr_2 c_3
    have gc_cn := g_3
    obtain ⟨cn, hcn, rfl⟩ := k_ix (n := nc) (x := x) g_3 (by omega)
    refine lv_aload_n hx hb dX5_told_11 rfl (lv_at hl 0 rfl) ?_
    obtain ⟨fs4, b_5, hF4, hv4, hm_b_5, hk_b_5⟩ := hI.gR hm_h0 hk_h0 1 (ci := 5) (t := 3) ⟨rfl, rfl, by decide, rfl⟩
    refine g_get (ci := 5) (v := .ref b_5) (C := RX5) (T := TX5) (N := 17) hx hb hts uB5 hown hK hP hm_h0 hF4 rfl 1 (by decide) wm_270 hv4 dX5_told_12 ?_
    refine lv_iload_n hx hb dX5_told_15 rfl (lv_at hl 1 rfl) ?_
    obtain ⟨g6, hF6, hgz6⟩ := hI.a3 hm_b_5 hk_b_5
    obtain ⟨b_7, hm_b_7, hk_b_7, hs_b_7, hv6⟩ := hgz6 cn (by omega)
    refine g_aldR (t := 4) hx hb hK hP hm_b_5 hF6 rfl (vp_in_nI (by omega) (by decide)) (by rw [nI_clamp (by omega)]; exact hv6) dX5_told_16 ?_
    refine lv_astore_n (lv' := [(3, .ref b_7), (0, .ref h0), (1, .int (nI cn)), (2, .int y)]) hx hb dX5_told_17 rfl hl (by decide) rfl (fun ls hl => ?_)
    refine lv_iload_n hx hb dX5_told_18 rfl (lv_at hl 3 rfl) ?_
    rcases k_sw9 y with h9 | rfl | rfl | rfl | rfl | rfl | rfl | rfl | rfl | rfl | rfl
    · skip
      refine lv_tableOut (tgt := 157) hx hb dX5_told_19 h9 (by decide) ?_
      refine lv_ldc (v := (-2000000)) hx hb hown (hts _ wm_109) dX5_told_157 ?_
      exact W.iret (v := (-2000000)) hx hb hr (fun t ht hW => ⟨⟨(-2000000), (), rfl, trivial, trivial⟩, hS.F ht⟩) hS.2.2 dX5_told_159
    · skip
      refine lv_tableIn (off := 53) (tgt := 72) hx hb dX5_told_19 (by decide) (by decide) rfl (by decide) ?_
      refine lv_aload_n hx hb dX5_told_72 rfl (lv_at hl 0 rfl) ?_
      obtain ⟨fs8, b_9, hF8, hv8, hm_b_9, hk_b_9⟩ := hI.gR hm_b_7 hk_b_7 5 (ci := 0) (t := 19) ⟨rfl, rfl, by decide, rfl⟩
      refine g_get (ci := 0) (v := .ref b_9) (C := RX0) (T := TX0) (N := 16) hx hb hts uB0 hown hK hP hm_b_7 hF8 rfl 5 (by decide) wm_290 hv8 dX5_told_73 ?_
      obtain ⟨fs10, x_10, hF10, hv10⟩ := hI.gI hm_b_9 hk_b_9 0 (ci := 4) ⟨rfl, rfl, by decide, rfl⟩
      refine g_get (ci := 4) (v := .int x_10) (C := RX4) (T := TX4) (N := 8) hx hb hts uB4 hown hK hP hm_b_9 hF10 rfl 0 (by decide) wm_291 hv10 dX5_told_76 ?_
      exact W.iret (v := x_10) hx hb hr (fun t ht hW => ⟨⟨x_10, (), rfl, trivial, trivial⟩, hS.F ht⟩) hS.2.2 dX5_told_79
    · skip
      refine lv_tableIn (off := 61) (tgt := 80) hx hb dX5_told_19 (by decide) (by decide) rfl (by decide) ?_
      refine lv_aload_n hx hb dX5_told_80 rfl (lv_at hl 0 rfl) ?_
      obtain ⟨fs11, b_12, hF11, hv11, hm_b_12, hk_b_12⟩ := hI.gR hm_b_7 hk_b_7 5 (ci := 0) (t := 19) ⟨rfl, rfl, by decide, rfl⟩
      refine g_get (ci := 0) (v := .ref b_12) (C := RX0) (T := TX0) (N := 16) hx hb hts uB0 hown hK hP hm_b_7 hF11 rfl 5 (by decide) wm_290 hv11 dX5_told_81 ?_
      obtain ⟨fs13, x_13, hF13, hv13⟩ := hI.gI hm_b_12 hk_b_12 2 (ci := 4) ⟨rfl, rfl, by decide, rfl⟩
      refine g_get (ci := 4) (v := .int x_13) (C := RX4) (T := TX4) (N := 8) hx hb hts uB4 hown hK hP hm_b_12 hF13 rfl 2 (by decide) wm_309 hv13 dX5_told_84 ?_
      exact W.iret (v := x_13) hx hb hr (fun t ht hW => ⟨⟨x_13, (), rfl, trivial, trivial⟩, hS.F ht⟩) hS.2.2 dX5_told_87
    · skip
      refine lv_tableIn (off := 69) (tgt := 88) hx hb dX5_told_19 (by decide) (by decide) rfl (by decide) ?_
      refine lv_aload_n hx hb dX5_told_88 rfl (lv_at hl 0 rfl) ?_
      obtain ⟨fs14, b_15, hF14, hv14, hm_b_15, hk_b_15⟩ := hI.gR hm_b_7 hk_b_7 5 (ci := 0) (t := 19) ⟨rfl, rfl, by decide, rfl⟩
      refine g_get (ci := 0) (v := .ref b_15) (C := RX0) (T := TX0) (N := 16) hx hb hts uB0 hown hK hP hm_b_7 hF14 rfl 5 (by decide) wm_290 hv14 dX5_told_89 ?_
      obtain ⟨fs16, x_16, hF16, hv16⟩ := hI.gI hm_b_15 hk_b_15 1 (ci := 4) ⟨rfl, rfl, by decide, rfl⟩
      refine g_get (ci := 4) (v := .int x_16) (C := RX4) (T := TX4) (N := 8) hx hb hts uB4 hown hK hP hm_b_15 hF16 rfl 1 (by decide) wm_302 hv16 dX5_told_92 ?_
      exact W.iret (v := x_16) hx hb hr (fun t ht hW => ⟨⟨x_16, (), rfl, trivial, trivial⟩, hS.F ht⟩) hS.2.2 dX5_told_95
    · skip
      refine lv_tableIn (off := 77) (tgt := 96) hx hb dX5_told_19 (by decide) (by decide) rfl (by decide) ?_
      refine lv_aload_n hx hb dX5_told_96 rfl (lv_at hl 0 rfl) ?_
      obtain ⟨fs17, b_18, hF17, hv17, hm_b_18, hk_b_18⟩ := hI.gR hm_b_7 hk_b_7 5 (ci := 0) (t := 19) ⟨rfl, rfl, by decide, rfl⟩
      refine g_get (ci := 0) (v := .ref b_18) (C := RX0) (T := TX0) (N := 16) hx hb hts uB0 hown hK hP hm_b_7 hF17 rfl 5 (by decide) wm_290 hv17 dX5_told_97 ?_
      obtain ⟨fs19, x_19, hF19, hv19⟩ := hI.gI hm_b_18 hk_b_18 3 (ci := 4) ⟨rfl, rfl, by decide, rfl⟩
      refine g_get (ci := 4) (v := .int x_19) (C := RX4) (T := TX4) (N := 8) hx hb hts uB4 hown hK hP hm_b_18 hF19 rfl 3 (by decide) wm_314 hv19 dX5_told_100 ?_
      exact W.iret (v := x_19) hx hb hr (fun t ht hW => ⟨⟨x_19, (), rfl, trivial, trivial⟩, hS.F ht⟩) hS.2.2 dX5_told_103
    · skip
      refine lv_tableIn (off := 85) (tgt := 104) hx hb dX5_told_19 (by decide) (by decide) rfl (by decide) ?_
      refine lv_aload_n hx hb dX5_told_104 rfl (lv_at hl 0 rfl) ?_
      obtain ⟨fs20, b_21, hF20, hv20, hm_b_21, hk_b_21⟩ := hI.gR hm_b_7 hk_b_7 5 (ci := 0) (t := 19) ⟨rfl, rfl, by decide, rfl⟩
      refine g_get (ci := 0) (v := .ref b_21) (C := RX0) (T := TX0) (N := 16) hx hb hts uB0 hown hK hP hm_b_7 hF20 rfl 5 (by decide) wm_290 hv20 dX5_told_105 ?_
      obtain ⟨fs22, x_22, hF22, hv22⟩ := hI.gI hm_b_21 hk_b_21 5 (ci := 4) ⟨rfl, rfl, by decide, rfl⟩
      refine g_get (ci := 4) (v := .int x_22) (C := RX4) (T := TX4) (N := 8) hx hb hts uB4 hown hK hP hm_b_21 hF22 rfl 5 (by decide) wm_316 hv22 dX5_told_108 ?_
      exact W.iret (v := x_22) hx hb hr (fun t ht hW => ⟨⟨x_22, (), rfl, trivial, trivial⟩, hS.F ht⟩) hS.2.2 dX5_told_111
    · skip
      refine lv_tableIn (off := 93) (tgt := 112) hx hb dX5_told_19 (by decide) (by decide) rfl (by decide) ?_
      refine lv_aload_n hx hb dX5_told_112 rfl (lv_at hl 0 rfl) ?_
      obtain ⟨fs23, x_23, hF23, hv23⟩ := hI.gI hm_b_7 hk_b_7 10 (ci := 0) ⟨rfl, rfl, by decide, rfl⟩
      refine g_get (ci := 0) (v := .int x_23) (C := RX0) (T := TX0) (N := 16) hx hb hts uB0 hown hK hP hm_b_7 hF23 rfl 10 (by decide) wm_373 hv23 dX5_told_113 ?_
      exact W.iret (v := x_23) hx hb hr (fun t ht hW => ⟨⟨x_23, (), rfl, trivial, trivial⟩, hS.F ht⟩) hS.2.2 dX5_told_116
    · skip
      refine lv_tableIn (off := 98) (tgt := 117) hx hb dX5_told_19 (by decide) (by decide) rfl (by decide) ?_
      refine lv_aload_n hx hb dX5_told_117 rfl (lv_at hl 0 rfl) ?_
      refine lv_aload_n hx hb dX5_told_118 rfl (lv_at hl 1 rfl) ?_
      obtain ⟨fs24, hF24, hv24⟩ := hI.gG hm_h0 hk_h0 12 (ci := 5) ⟨rfl, rfl, by decide, rfl⟩
      rw [hg12] at hv24
      refine g_get (ci := 5) (v := .int (nI tk)) (C := RX5) (T := TX5) (N := 17) hx hb hts uB5 hown hK hP hm_h0 hF24 rfl 12 (by decide) wm_265 hv24 dX5_told_119 ?_
      obtain ⟨fs25, hF25, -, -⟩ := hI.o hm_b_7 hk_b_7 rfl (ci := 0) rfl rfl
      refine gc_R (ci := 0) ⟨hx, hb, hml, hown, hts⟩ (k_X0_isBehind l dC dI K L f hI b_7 hm_b_7 hk_b_7 (nI tk)) 1 wm_388 wm_389 wm_390 wm_205 wm_391 (by decide +kernel) ⟨Nat.le_of_ble_eq_true rfl, Nat.le_of_ble_eq_true rfl⟩ hK rfl hm_b_7 hF25 rfl hl.1 rfl (Nat.le_of_ble_eq_true rfl) dX5_told_122 ⟨Nat.le_of_ble_eq_true rfl, Nat.le_of_ble_eq_true rfl⟩ hS hP (fun r_26 H locs hpr_26 hP hS => ?_)
      refine lv_if_eq (tgt := 132) hx hb dX5_told_125 (by decide) (fun c_27 => ?_) (fun c_27 => ?_)
      · skip
        refine lv_iconst (v := 0) hx hb dX5_told_132 (by decide) ?_
        exact W.iret (v := 0) hx hb hr (fun t ht hW => ⟨⟨0, (), rfl, trivial, trivial⟩, hS.F ht⟩) hS.2.2 dX5_told_133
      · skip
        refine lv_iconst (v := 1) hx hb dX5_told_128 (by decide) ?_
        refine lv_goto (tgt := 133) hx hb dX5_told_129 (by decide) ?_
        exact W.iret (v := 1) hx hb hr (fun t ht hW => ⟨⟨1, (), rfl, trivial, trivial⟩, hS.F ht⟩) hS.2.2 dX5_told_133
    · skip
      refine lv_tableIn (off := 115) (tgt := 134) hx hb dX5_told_19 (by decide) (by decide) rfl (by decide) ?_
      refine lv_iconst (v := 0) hx hb dX5_told_134 (by decide) ?_
      refine lv_aload_n hx hb dX5_told_135 rfl (lv_at hl 0 rfl) ?_
      obtain ⟨fs28, hF28, -, -⟩ := hI.o hm_b_7 hk_b_7 rfl (ci := 0) rfl rfl
      refine gc_R (ci := 0) ⟨hx, hb, hml, hown, hts⟩ (k_X0_leftToday l dC dI K L f hI b_7 hm_b_7 hk_b_7) 0 wm_375 wm_376 wm_377 wm_205 wm_378 (by decide +kernel) ⟨Nat.le_of_ble_eq_true rfl, Nat.le_of_ble_eq_true rfl⟩ hK rfl hm_b_7 hF28 rfl hl.1 rfl (Nat.le_of_ble_eq_true rfl) dX5_told_136 ⟨Nat.le_of_ble_eq_true rfl, Nat.le_of_ble_eq_true rfl⟩ hS hP (fun r_29 H locs hpr_29 hP hS => ?_)
      refine va_mmax hx hb (by rw [hml]; exact hl.1.symm) hown (hts _ wm_425) (hts _ wm_224) (hts _ wm_221) (hts _ wm_225) (Nat.le_of_ble_eq_true rfl) (Nat.le_of_ble_eq_true rfl) (Nat.le_of_ble_eq_true rfl) (Nat.le_of_ble_eq_true rfl) dX5_told_139 ?_
      refine lv_topi (fun x_30 ex_30 => ?_)
      exact W.iret (v := x_30) hx hb hr (fun t ht hW => ⟨⟨x_30, (), rfl, trivial, trivial⟩, hS.F ht⟩) hS.2.2 dX5_told_142
    · skip
      refine lv_tableIn (off := 124) (tgt := 143) hx hb dX5_told_19 (by decide) (by decide) rfl (by decide) ?_
      refine lv_iconst (v := 0) hx hb dX5_told_143 (by decide) ?_
      refine lv_aload_n hx hb dX5_told_144 rfl (lv_at hl 0 rfl) ?_
      obtain ⟨fs31, hF31, -, -⟩ := hI.o hm_b_7 hk_b_7 rfl (ci := 0) rfl rfl
      refine gc_R (ci := 0) ⟨hx, hb, hml, hown, hts⟩ (k_X0_leftInAll l dC dI K L f hI b_7 hm_b_7 hk_b_7) 0 wm_379 wm_380 wm_381 wm_205 wm_382 (by decide +kernel) ⟨Nat.le_of_ble_eq_true rfl, Nat.le_of_ble_eq_true rfl⟩ hK rfl hm_b_7 hF31 rfl hl.1 rfl (Nat.le_of_ble_eq_true rfl) dX5_told_145 ⟨Nat.le_of_ble_eq_true rfl, Nat.le_of_ble_eq_true rfl⟩ hS hP (fun r_32 H locs hpr_32 hP hS => ?_)
      refine va_mmax hx hb (by rw [hml]; exact hl.1.symm) hown (hts _ wm_425) (hts _ wm_224) (hts _ wm_221) (hts _ wm_225) (Nat.le_of_ble_eq_true rfl) (Nat.le_of_ble_eq_true rfl) (Nat.le_of_ble_eq_true rfl) (Nat.le_of_ble_eq_true rfl) dX5_told_148 ?_
      refine lv_topi (fun x_33 ex_33 => ?_)
      exact W.iret (v := x_33) hx hb hr (fun t ht hW => ⟨⟨x_33, (), rfl, trivial, trivial⟩, hS.F ht⟩) hS.2.2 dX5_told_151
    · skip
      refine lv_tableIn (off := 133) (tgt := 152) hx hb dX5_told_19 (by decide) (by decide) rfl (by decide) ?_
      refine lv_aload_n hx hb dX5_told_152 rfl (lv_at hl 0 rfl) ?_
      obtain ⟨fs34, hF34, hv34⟩ := hI.gS hm_b_7 hk_b_7 11 (ci := 0) ⟨rfl, rfl, by decide, rfl⟩
      rw [hs_b_7] at hv34
      refine g_get (ci := 0) (v := .int (st cn)) (C := RX0) (T := TX0) (N := 16) hx hb hts uB0 hown hK hP hm_b_7 hF34 rfl 11 (by decide) wm_281 hv34 dX5_told_153 ?_
      exact W.iret (v := st cn) hx hb hr (fun t ht hW => ⟨⟨st cn, (), rfl, trivial, trivial⟩, hS.F ht⟩) hS.2.2 dX5_told_156
  · skip
    have g_3 := k_ff hpr_2 c_3
    refine lv_ldc (v := (-2000000)) hx hb hown (hts _ wm_109) dX5_told_8 ?_
    exact W.iret (v := (-2000000)) hx hb hr (fun t ht hW => ⟨⟨(-2000000), (), rfl, trivial, trivial⟩, hS.F ht⟩) hS.2.2 dX5_told_10
set_option maxHeartbeats 4000000 in
set_option maxRecDepth 100000 in
theorem k_X5_chance (l : Launch) (dC : Nat → ClassId) (dI : Nat → Nat → Nat) (K : Nat → ClassId) (L : List Nat) (f : Nat → va_E) {np nc ns lk lc tp cp gp : Nat} {G J mk st : Nat → Int32} {ap : Nat → Int64} {kd sn : Nat → Nat} (hI : cI K np nc ns lk lc tp cp gp G J mk st ap kd sn L f) (h0 : Nat) (hm_h0 : h0 ∈ L) (hk_h0 : kd h0 = 1) (x : Int32) (hg8 : G 8 = nI nc) (hnc : nc ≤ 40) : gR l yX5_chance cX5_chance 2 .int 1 (dC, dI) K L f [.ref h0, .int x] (fun r => True) := by
  refine Met.ofW (cc := cX5_chance) (maxL := 2) (ret := some .int) (by decide) rfl ?_
  intro p e s m args below meth c s₁ B hml hv
  obtain ⟨rfl, hP, hK⟩ := hv
  have hx := B.exec
  have hb := B.bytes
  have hr := B.returns
  have hlocks := B.notSynchronized
  have hts0 := atoms_spec (ws := Cond.code yX5_chance cX5_chance 2 (some .int) :: lw_B) B.pre
  have hts : ∀ w ∈ lw_B, w.before _ s = true := fun w h => hts0 w (List.mem_cons_of_mem _ h)
  have hown : s.vm.findClass RX5 = some m.cls := findClass_of_methodNamed B.named
  have hS : va_S (fun _ => False) s.heap s.heap [] := va_S.rf
  have hl := lv_entry ([.ref h0, .int x]) (n := 2) (Nat.le_of_ble_eq_true rfl)
  rw [lg_entry_eq]
  generalize (lg_sl ([.ref h0, .int x]) ++ List.replicate (2 - (lg_sl ([.ref h0, .int x])).length) Slot.unset).toArray = ls at hl ⊢
  have hl : lv_has ls 2 [(0, .ref h0), (1, .int x)] := hl
  refine lv_aload_n hx hb dX5_chance_0 rfl (lv_at hl 0 rfl) ?_
  refine lv_iload_n hx hb dX5_chance_1 rfl (lv_at hl 1 rfl) ?_
  obtain ⟨fs1, hF1, -, -⟩ := hI.o hm_h0 hk_h0 rfl (ci := 5) rfl rfl
  refine gc_R (ci := 5) ⟨hx, hb, hml, hown, hts⟩ (k_X5_isCampaign l dC dI K L f hI h0 hm_h0 hk_h0 x hg8 hnc) 1 wm_77 wm_78 wm_79 wm_67 wm_80 (by decide +kernel) ⟨Nat.le_of_ble_eq_true rfl, Nat.le_of_ble_eq_true rfl⟩ hK rfl hm_h0 hF1 rfl hl.1 rfl (Nat.le_of_ble_eq_true rfl) dX5_chance_2 ⟨Nat.le_of_ble_eq_true rfl, Nat.le_of_ble_eq_true rfl⟩ hS hP (fun r_2 H locs hpr_2 hP hS => ?_)
  refine lv_if_ne (tgt := 10) hx hb dX5_chance_5 (by decide) (fun c_3 => ?_) (fun c_3 => ?_)
  · skip
    have g_3 := k_ft hpr_2 c_3
    have gc_cn := g_3
    obtain ⟨cn, hcn, rfl⟩ := k_ix (n := nc) (x := x) g_3 (by omega)
    refine lv_aload_n hx hb dX5_chance_10 rfl (lv_at hl 0 rfl) ?_
    obtain ⟨fs4, b_5, hF4, hv4, hm_b_5, hk_b_5⟩ := hI.gR hm_h0 hk_h0 1 (ci := 5) (t := 3) ⟨rfl, rfl, by decide, rfl⟩
    refine g_get (ci := 5) (v := .ref b_5) (C := RX5) (T := TX5) (N := 17) hx hb hts uB5 hown hK hP hm_h0 hF4 rfl 1 (by decide) wm_270 hv4 dX5_chance_11 ?_
    refine lv_iload_n hx hb dX5_chance_14 rfl (lv_at hl 1 rfl) ?_
    obtain ⟨g6, hF6, hgz6⟩ := hI.a3 hm_b_5 hk_b_5
    obtain ⟨b_7, hm_b_7, hk_b_7, hs_b_7, hv6⟩ := hgz6 cn (by omega)
    refine g_aldR (t := 4) hx hb hK hP hm_b_5 hF6 rfl (vp_in_nI (by omega) (by decide)) (by rw [nI_clamp (by omega)]; exact hv6) dX5_chance_15 ?_
    obtain ⟨fs8, b_9, hF8, hv8, hm_b_9, hk_b_9⟩ := hI.gR hm_b_7 hk_b_7 5 (ci := 0) (t := 19) ⟨rfl, rfl, by decide, rfl⟩
    refine g_get (ci := 0) (v := .ref b_9) (C := RX0) (T := TX0) (N := 16) hx hb hts uB0 hown hK hP hm_b_7 hF8 rfl 5 (by decide) wm_290 hv8 dX5_chance_16 ?_
    refine lv_ldc2 (v := 1000000) hx hb hown (hts _ wm_430) dX5_chance_19 ?_
    obtain ⟨fs10, hF10, -, -⟩ := hI.o hm_b_9 hk_b_9 rfl (ci := 4) rfl rfl
    refine gc_Rl (ci := 4) ⟨hx, hb, hml, hown, hts⟩ (k_X4_chanceOf l dC dI K L f hI b_9 hm_b_9 hk_b_9 1000000) 1 wm_445 wm_213 wm_214 wm_215 wm_216 (by decide +kernel) ⟨Nat.le_of_ble_eq_true rfl, Nat.le_of_ble_eq_true rfl⟩ hK rfl hm_b_9 hF10 rfl hl.1 rfl (Nat.le_of_ble_eq_true rfl) dX5_chance_22 ⟨Nat.le_of_ble_eq_true rfl, Nat.le_of_ble_eq_true rfl⟩ hS hP (fun r_11 H locs hpr_11 hP hS => ?_)
    refine lv_l2i hx hb dX5_chance_25 rfl ?_
    refine lv_topi (fun x_12 ex_12 => ?_)
    exact W.iret (v := x_12) hx hb hr (fun t ht hW => ⟨⟨x_12, (), rfl, trivial, trivial⟩, hS.F ht⟩) hS.2.2 dX5_chance_26
  · skip
    have g_3 := k_ff hpr_2 c_3
    refine lv_iconst (v := (-1)) hx hb dX5_chance_8 (by decide) ?_
    exact W.iret (v := (-1)) hx hb hr (fun t ht hW => ⟨⟨(-1), (), rfl, trivial, trivial⟩, hS.F ht⟩) hS.2.2 dX5_chance_9
set_option maxHeartbeats 4000000 in
set_option maxRecDepth 100000 in
theorem k_X5_income (l : Launch) (dC : Nat → ClassId) (dI : Nat → Nat → Nat) (K : Nat → ClassId) (L : List Nat) (f : Nat → va_E) {np nc ns lk lc tp cp gp : Nat} {G J mk st : Nat → Int32} {ap : Nat → Int64} {kd sn : Nat → Nat} (hI : cI K np nc ns lk lc tp cp gp G J mk st ap kd sn L f) (h0 : Nat) (hm_h0 : h0 ∈ L) (hk_h0 : kd h0 = 1) (x : Int32) (hg7 : G 7 = nI np) (hnp : np ≤ 8) : gR l yX5_income cX5_income 2 .int 1 (dC, dI) K L f [.ref h0, .int x] (fun r => True) := by
  refine Met.ofW (cc := cX5_income) (maxL := 2) (ret := some .int) (by decide) rfl ?_
  intro p e s m args below meth c s₁ B hml hv
  obtain ⟨rfl, hP, hK⟩ := hv
  have hx := B.exec
  have hb := B.bytes
  have hr := B.returns
  have hlocks := B.notSynchronized
  have hts0 := atoms_spec (ws := Cond.code yX5_income cX5_income 2 (some .int) :: lw_B) B.pre
  have hts : ∀ w ∈ lw_B, w.before _ s = true := fun w h => hts0 w (List.mem_cons_of_mem _ h)
  have hown : s.vm.findClass RX5 = some m.cls := findClass_of_methodNamed B.named
  have hS : va_S (fun _ => False) s.heap s.heap [] := va_S.rf
  have hl := lv_entry ([.ref h0, .int x]) (n := 2) (Nat.le_of_ble_eq_true rfl)
  rw [lg_entry_eq]
  generalize (lg_sl ([.ref h0, .int x]) ++ List.replicate (2 - (lg_sl ([.ref h0, .int x])).length) Slot.unset).toArray = ls at hl ⊢
  have hl : lv_has ls 2 [(0, .ref h0), (1, .int x)] := hl
  refine lv_aload_n hx hb dX5_income_0 rfl (lv_at hl 0 rfl) ?_
  refine lv_iload_n hx hb dX5_income_1 rfl (lv_at hl 1 rfl) ?_
  obtain ⟨fs1, hF1, -, -⟩ := hI.o hm_h0 hk_h0 rfl (ci := 5) rfl rfl
  refine gc_R (ci := 5) ⟨hx, hb, hml, hown, hts⟩ (k_X5_isPage l dC dI K L f hI h0 hm_h0 hk_h0 x hg7 hnp) 1 wm_88 wm_89 wm_90 wm_67 wm_91 (by decide +kernel) ⟨Nat.le_of_ble_eq_true rfl, Nat.le_of_ble_eq_true rfl⟩ hK rfl hm_h0 hF1 rfl hl.1 rfl (Nat.le_of_ble_eq_true rfl) dX5_income_2 ⟨Nat.le_of_ble_eq_true rfl, Nat.le_of_ble_eq_true rfl⟩ hS hP (fun r_2 H locs hpr_2 hP hS => ?_)
  refine lv_if_ne (tgt := 10) hx hb dX5_income_5 (by decide) (fun c_3 => ?_) (fun c_3 => ?_)
  · skip
    have g_3 := k_ft hpr_2 c_3
    have gc_pg := g_3
    obtain ⟨pg, hpg, rfl⟩ := k_ix (n := np) (x := x) g_3 (by omega)
    refine lv_aload_n hx hb dX5_income_10 rfl (lv_at hl 0 rfl) ?_
    obtain ⟨fs4, b_5, hF4, hv4, hm_b_5, hk_b_5⟩ := hI.gR hm_h0 hk_h0 0 (ci := 5) (t := 2) ⟨rfl, rfl, by decide, rfl⟩
    refine g_get (ci := 5) (v := .ref b_5) (C := RX5) (T := TX5) (N := 17) hx hb hts uB5 hown hK hP hm_h0 hF4 rfl 0 (by decide) wm_292 hv4 dX5_income_11 ?_
    refine lv_iload_n hx hb dX5_income_14 rfl (lv_at hl 1 rfl) ?_
    obtain ⟨g6, hF6, hgz6⟩ := hI.a2 hm_b_5 hk_b_5
    obtain ⟨b_7, hm_b_7, hk_b_7, hv6⟩ := hgz6 pg (by omega)
    refine g_aldR (t := 3) hx hb hK hP hm_b_5 hF6 rfl (vp_in_nI (by omega) (by decide)) (by rw [nI_clamp (by omega)]; exact hv6) dX5_income_15 ?_
    obtain ⟨fs8, x_8, hF8, hv8⟩ := hI.gI hm_b_7 hk_b_7 2 (ci := 2) ⟨rfl, rfl, by decide, rfl⟩
    refine g_get (ci := 2) (v := .int x_8) (C := RX2) (T := TX2) (N := 4) hx hb hts uB2 hown hK hP hm_b_7 hF8 rfl 2 (by decide) wm_294 hv8 dX5_income_16 ?_
    exact W.iret (v := x_8) hx hb hr (fun t ht hW => ⟨⟨x_8, (), rfl, trivial, trivial⟩, hS.F ht⟩) hS.2.2 dX5_income_19
  · skip
    have g_3 := k_ff hpr_2 c_3
    refine lv_iconst (v := (-1)) hx hb dX5_income_8 (by decide) ?_
    exact W.iret (v := (-1)) hx hb hr (fun t ht hW => ⟨⟨(-1), (), rfl, trivial, trivial⟩, hS.F ht⟩) hS.2.2 dX5_income_9
set_option maxHeartbeats 4000000 in
set_option maxRecDepth 100000 in
theorem k_X5_count (l : Launch) (dC : Nat → ClassId) (dI : Nat → Nat → Nat) (K : Nat → ClassId) (L : List Nat) (f : Nat → va_E) {np nc ns lk lc tp cp gp : Nat} {G J mk st : Nat → Int32} {ap : Nat → Int64} {kd sn : Nat → Nat} (hI : cI K np nc ns lk lc tp cp gp G J mk st ap kd sn L f) (h0 : Nat) (hm_h0 : h0 ∈ L) (hk_h0 : kd h0 = 1) (x : Int32) : gR l yX5_count cX5_count 2 .int 0 (dC, dI) K L f [.ref h0, .int x] (fun r => True) := by
  refine Met.ofW (cc := cX5_count) (maxL := 2) (ret := some .int) (by decide) rfl ?_
  intro p e s m args below meth c s₁ B hml hv
  obtain ⟨rfl, hP, hK⟩ := hv
  have hx := B.exec
  have hb := B.bytes
  have hr := B.returns
  have hlocks := B.notSynchronized
  have hts0 := atoms_spec (ws := Cond.code yX5_count cX5_count 2 (some .int) :: lw_B) B.pre
  have hts : ∀ w ∈ lw_B, w.before _ s = true := fun w h => hts0 w (List.mem_cons_of_mem _ h)
  have hown : s.vm.findClass RX5 = some m.cls := findClass_of_methodNamed B.named
  have hS : va_S (fun _ => False) s.heap s.heap [] := va_S.rf
  have hl := lv_entry ([.ref h0, .int x]) (n := 2) (Nat.le_of_ble_eq_true rfl)
  rw [lg_entry_eq]
  generalize (lg_sl ([.ref h0, .int x]) ++ List.replicate (2 - (lg_sl ([.ref h0, .int x])).length) Slot.unset).toArray = ls at hl ⊢
  have hl : lv_has ls 2 [(0, .ref h0), (1, .int x)] := hl
  refine lv_iload_n hx hb dX5_count_0 rfl (lv_at hl 1 rfl) ?_
  rcases k_sw5 x with h9 | rfl | rfl | rfl | rfl | rfl | rfl
  · skip
    refine lv_tableOut (tgt := 70) hx hb dX5_count_1 h9 (by decide) ?_
    refine lv_iconst (v := (-1)) hx hb dX5_count_70 (by decide) ?_
    exact W.iret (v := (-1)) hx hb hr (fun t ht hW => ⟨⟨(-1), (), rfl, trivial, trivial⟩, hS.F ht⟩) hS.2.2 dX5_count_71
  · skip
    refine lv_tableIn (off := 39) (tgt := 40) hx hb dX5_count_1 (by decide) (by decide) rfl (by decide) ?_
    refine lv_aload_n hx hb dX5_count_40 rfl (lv_at hl 0 rfl) ?_
    obtain ⟨fs1, hF1, hv1⟩ := hI.gG hm_h0 hk_h0 7 (ci := 5) ⟨rfl, rfl, by decide, rfl⟩
    refine g_get (ci := 5) (v := .int (G 7)) (C := RX5) (T := TX5) (N := 17) hx hb hts uB5 hown hK hP hm_h0 hF1 rfl 7 (by decide) wm_72 hv1 dX5_count_41 ?_
    exact W.iret (v := G 7) hx hb hr (fun t ht hW => ⟨⟨G 7, (), rfl, trivial, trivial⟩, hS.F ht⟩) hS.2.2 dX5_count_44
  · skip
    refine lv_tableIn (off := 44) (tgt := 45) hx hb dX5_count_1 (by decide) (by decide) rfl (by decide) ?_
    refine lv_aload_n hx hb dX5_count_45 rfl (lv_at hl 0 rfl) ?_
    obtain ⟨fs2, hF2, hv2⟩ := hI.gG hm_h0 hk_h0 8 (ci := 5) ⟨rfl, rfl, by decide, rfl⟩
    refine g_get (ci := 5) (v := .int (G 8)) (C := RX5) (T := TX5) (N := 17) hx hb hts uB5 hown hK hP hm_h0 hF2 rfl 8 (by decide) wm_73 hv2 dX5_count_46 ?_
    exact W.iret (v := G 8) hx hb hr (fun t ht hW => ⟨⟨G 8, (), rfl, trivial, trivial⟩, hS.F ht⟩) hS.2.2 dX5_count_49
  · skip
    refine lv_tableIn (off := 49) (tgt := 50) hx hb dX5_count_1 (by decide) (by decide) rfl (by decide) ?_
    refine lv_aload_n hx hb dX5_count_50 rfl (lv_at hl 0 rfl) ?_
    obtain ⟨fs3, hF3, hv3⟩ := hI.gG hm_h0 hk_h0 9 (ci := 5) ⟨rfl, rfl, by decide, rfl⟩
    refine g_get (ci := 5) (v := .int (G 9)) (C := RX5) (T := TX5) (N := 17) hx hb hts uB5 hown hK hP hm_h0 hF3 rfl 9 (by decide) wm_74 hv3 dX5_count_51 ?_
    exact W.iret (v := G 9) hx hb hr (fun t ht hW => ⟨⟨G 9, (), rfl, trivial, trivial⟩, hS.F ht⟩) hS.2.2 dX5_count_54
  · skip
    refine lv_tableIn (off := 54) (tgt := 55) hx hb dX5_count_1 (by decide) (by decide) rfl (by decide) ?_
    refine lv_aload_n hx hb dX5_count_55 rfl (lv_at hl 0 rfl) ?_
    obtain ⟨fs4, hF4, hv4⟩ := hI.gG hm_h0 hk_h0 12 (ci := 5) ⟨rfl, rfl, by decide, rfl⟩
    refine g_get (ci := 5) (v := .int (G 12)) (C := RX5) (T := TX5) (N := 17) hx hb hts uB5 hown hK hP hm_h0 hF4 rfl 12 (by decide) wm_265 hv4 dX5_count_56 ?_
    exact W.iret (v := G 12) hx hb hr (fun t ht hW => ⟨⟨G 12, (), rfl, trivial, trivial⟩, hS.F ht⟩) hS.2.2 dX5_count_59
  · skip
    refine lv_tableIn (off := 59) (tgt := 60) hx hb dX5_count_1 (by decide) (by decide) rfl (by decide) ?_
    refine lv_aload_n hx hb dX5_count_60 rfl (lv_at hl 0 rfl) ?_
    obtain ⟨fs5, hF5, hv5⟩ := hI.gG hm_h0 hk_h0 10 (ci := 5) ⟨rfl, rfl, by decide, rfl⟩
    refine g_get (ci := 5) (v := .int (G 10)) (C := RX5) (T := TX5) (N := 17) hx hb hts uB5 hown hK hP hm_h0 hF5 rfl 10 (by decide) wm_446 hv5 dX5_count_61 ?_
    exact W.iret (v := G 10) hx hb hr (fun t ht hW => ⟨⟨G 10, (), rfl, trivial, trivial⟩, hS.F ht⟩) hS.2.2 dX5_count_64
  · skip
    refine lv_tableIn (off := 64) (tgt := 65) hx hb dX5_count_1 (by decide) (by decide) rfl (by decide) ?_
    refine lv_aload_n hx hb dX5_count_65 rfl (lv_at hl 0 rfl) ?_
    obtain ⟨fs6, hF6, hv6⟩ := hI.gG hm_h0 hk_h0 11 (ci := 5) ⟨rfl, rfl, by decide, rfl⟩
    refine g_get (ci := 5) (v := .int (G 11)) (C := RX5) (T := TX5) (N := 17) hx hb hts uB5 hown hK hP hm_h0 hF6 rfl 11 (by decide) wm_295 hv6 dX5_count_66 ?_
    exact W.iret (v := G 11) hx hb hr (fun t ht hW => ⟨⟨G 11, (), rfl, trivial, trivial⟩, hS.F ht⟩) hS.2.2 dX5_count_69
set_option maxHeartbeats 4000000 in
set_option maxRecDepth 100000 in
theorem k_X5_press (l : Launch) (dC : Nat → ClassId) (dI : Nat → Nat → Nat) (K : Nat → ClassId) (L : List Nat) (f : Nat → va_E) {np nc ns lk lc tp cp gp : Nat} {G J mk st : Nat → Int32} {ap : Nat → Int64} {kd sn : Nat → Nat} {tk : Nat} (hI : cI K np nc ns lk lc tp cp gp G J mk st ap kd sn L f) (h0 : Nat) (hm_h0 : h0 ∈ L) (hk_h0 : kd h0 = 1) (x : Int32) (hg9 : G 9 = nI ns) (hg12 : G 12 = nI tk) (hnp : np ≤ 8) (hnc : nc ≤ 40) (hns : ns ≤ 1000) (hLn : gN L) : gMi l yX5_press cX5_press 5 3 (dC, dI) K L f [.ref h0, .int x] (fun r f' => ∃ (G2 : Nat → Int32), cI K np nc ns lk lc tp cp gp G2 J mk st ap kd sn L f' ∧ (gS [11] G G2)) := by
  refine Met.ofW (cc := cX5_press) (maxL := 5) (ret := (some .int)) (by decide) rfl ?_
  intro p e s m args below meth c s₁ B hml hv
  obtain ⟨rfl, hP, hK⟩ := hv
  have hD : va_D (fun q : Nat => q ∈ L) (va_pl L f) := g_D hLn (fun a h => h) f
  generalize hAe : (fun q : Nat => q ∈ L) = A at hD ⊢
  have hx := B.exec
  have hb := B.bytes
  have hr := B.returns
  have hlocks := B.notSynchronized
  have hts0 := atoms_spec (ws := Cond.code yX5_press cX5_press 5 (some .int) :: lw_B) B.pre
  have hts : ∀ w ∈ lw_B, w.before _ s = true := fun w h => hts0 w (List.mem_cons_of_mem _ h)
  have hown : s.vm.findClass RX5 = some m.cls := findClass_of_methodNamed B.named
  have hS : va_S A s.heap s.heap [] := va_S.rf
  have hGS : gS [11] G G := gS.rf
  have hl := lv_entry ([.ref h0, .int x]) (n := 5) (Nat.le_of_ble_eq_true rfl)
  rw [lg_entry_eq]
  generalize (lg_sl ([.ref h0, .int x]) ++ List.replicate (5 - (lg_sl ([.ref h0, .int x])).length) Slot.unset).toArray = ls at hl ⊢
  have hl : lv_has ls 5 [(0, .ref h0), (1, .int x)] := hl
  refine lv_aload_n hx hb dX5_press_0 rfl (lv_at hl 0 rfl) ?_
  refine lv_iload_n hx hb dX5_press_1 rfl (lv_at hl 1 rfl) ?_
  obtain ⟨fs1, hF1, -, -⟩ := hI.o hm_h0 hk_h0 rfl (ci := 5) rfl rfl
  refine gc_R (ci := 5) ⟨hx, hb, hml, hown, hts⟩ (k_X5_isSale l dC dI K L f hI h0 hm_h0 hk_h0 x hg9 hns) 1 wm_101 wm_102 wm_103 wm_67 wm_104 (by decide +kernel) ⟨Nat.le_of_ble_eq_true rfl, Nat.le_of_ble_eq_true rfl⟩ hK rfl hm_h0 hF1 rfl hl.1 rfl (Nat.le_of_ble_eq_true rfl) dX5_press_2 ⟨Nat.le_of_ble_eq_true rfl, Nat.le_of_ble_eq_true rfl⟩ hS hP (fun r_2 H locs hpr_2 hP hS => ?_)
  refine lv_if_ne (tgt := 10) hx hb dX5_press_5 (by decide) (fun c_3 => ?_) (fun c_3 => ?_)
  · skip
    have g_3 := k_ft hpr_2 c_3
    have gc_s1 := g_3
    obtain ⟨s1, hs1, rfl⟩ := k_ix (n := ns) (x := x) g_3 (by omega)
    refine lv_aload_n hx hb dX5_press_10 rfl (lv_at hl 0 rfl) ?_
    obtain ⟨fs4, b_5, hF4, hv4, hm_b_5, hk_b_5⟩ := hI.gR hm_h0 hk_h0 2 (ci := 5) (t := 4) ⟨rfl, rfl, by decide, rfl⟩
    refine g_get (ci := 5) (v := .ref b_5) (C := RX5) (T := TX5) (N := 17) hx hb hts uB5 hown hK hP hm_h0 hF4 rfl 2 (by decide) wm_332 hv4 dX5_press_11 ?_
    refine lv_iload_n hx hb dX5_press_14 rfl (lv_at hl 1 rfl) ?_
    obtain ⟨g6, hF6, hgz6⟩ := hI.a4 hm_b_5 hk_b_5
    obtain ⟨b_7, hm_b_7, hk_b_7, hv6⟩ := hgz6 s1 (by omega)
    refine g_aldR (t := 5) hx hb hK hP hm_b_5 hF6 rfl (vp_in_nI (by omega) (by decide)) (by rw [nI_clamp (by omega)]; exact hv6) dX5_press_15 ?_
    refine lv_astore_n (lv' := [(2, .ref b_7), (0, .ref h0), (1, .int (nI s1))]) hx hb dX5_press_16 rfl hl (by decide) rfl (fun ls hl => ?_)
    refine lv_aload_n hx hb dX5_press_17 rfl (lv_at hl 1 rfl) ?_
    obtain ⟨fs8, b_9, hF8, hv8, hm_b_9, hk_b_9⟩ := hI.gR hm_h0 hk_h0 1 (ci := 5) (t := 3) ⟨rfl, rfl, by decide, rfl⟩
    refine g_get (ci := 5) (v := .ref b_9) (C := RX5) (T := TX5) (N := 17) hx hb hts uB5 hown hK hP hm_h0 hF8 rfl 1 (by decide) wm_270 hv8 dX5_press_18 ?_
    refine lv_aload_n hx hb dX5_press_21 rfl (lv_at hl 0 rfl) ?_
    obtain ⟨fs10, q_10, hF10, hv10, hq_10⟩ := hI.g7 hm_b_7 hk_b_7 4 (ci := 3) ⟨rfl, rfl, by decide, rfl⟩
    refine g_get (ci := 3) (v := .int (nI q_10)) (C := RX3) (T := TX3) (N := 12) hx hb hts uB3 hown hK hP hm_b_7 hF10 rfl 4 (by decide) wm_289 hv10 dX5_press_22 ?_
    obtain ⟨g11, hF11, hgz11⟩ := hI.a3 hm_b_9 hk_b_9
    obtain ⟨b_12, hm_b_12, hk_b_12, hs_b_12, hv11⟩ := hgz11 q_10 (by omega)
    refine g_aldR (t := 4) hx hb hK hP hm_b_9 hF11 rfl (vp_in_nI (by omega) (by decide)) (by rw [nI_clamp (by omega)]; exact hv11) dX5_press_25 ?_
    refine lv_astore_n (lv' := [(3, .ref b_12), (2, .ref b_7), (0, .ref h0), (1, .int (nI s1))]) hx hb dX5_press_26 rfl hl (by decide) rfl (fun ls hl => ?_)
    refine lv_aload_n hx hb dX5_press_27 rfl (lv_at hl 0 rfl) ?_
    obtain ⟨fs13, x_13, hF13, hv13⟩ := hI.gI hm_b_12 hk_b_12 1 (ci := 0) ⟨rfl, rfl, by decide, rfl⟩
    refine g_get (ci := 0) (v := .int x_13) (C := RX0) (T := TX0) (N := 16) hx hb hts uB0 hown hK hP hm_b_12 hF13 rfl 1 (by decide) wm_447 hv13 dX5_press_28 ?_
    refine lv_if_eq (tgt := 38) hx hb dX5_press_31 (by decide) (fun c_14 => ?_) (fun c_14 => ?_)
    · skip
      refine lv_iconst (v := 0) hx hb dX5_press_38 (by decide) ?_
      refine lv_istore (lv' := [(4, .int 0), (3, .ref b_12), (2, .ref b_7), (0, .ref h0), (1, .int (nI s1))]) hx hb dX5_press_39 hl (by decide) rfl (fun ls hl => ?_)
      refine lv_aload_n hx hb dX5_press_41 rfl (lv_at hl 2 rfl) ?_
      obtain ⟨fs15, x_15, hF15, hv15⟩ := hI.gI hm_b_7 hk_b_7 6 (ci := 3) ⟨rfl, rfl, by decide, rfl⟩
      refine g_get (ci := 3) (v := .int x_15) (C := RX3) (T := TX3) (N := 12) hx hb hts uB3 hown hK hP hm_b_7 hF15 rfl 6 (by decide) wm_315 hv15 dX5_press_42 ?_
      refine lv_iload hx hb dX5_press_45 (lv_at hl 0 rfl) ?_
      refine lv_icmp_ne (tgt := 61) hx hb dX5_press_47 (by decide) (fun c_16 => ?_) (fun c_16 => ?_)
      · skip
        refine lv_bipush (v := (-2)) hx hb dX5_press_61 (by decide) ?_
        exact W.iret (v := (-2)) hx hb hr (fun t ht hW => ⟨⟨(-2), f, rfl, ⟨G, hI, hGS⟩, by show va_P (dC, dI) vwCl (va_pl L f) t.heap; rw [ht]; exact hP⟩, hS.F ht⟩) hS.2.2 dX5_press_63
      · skip
        refine lv_aload_n hx hb dX5_press_50 rfl (lv_at hl 3 rfl) ?_
        obtain ⟨fs17, hF17, hv17⟩ := hI.gG hm_h0 hk_h0 12 (ci := 5) ⟨rfl, rfl, by decide, rfl⟩
        rw [hg12] at hv17
        refine g_get (ci := 5) (v := .int (nI tk)) (C := RX5) (T := TX5) (N := 17) hx hb hts uB5 hown hK hP hm_h0 hF17 rfl 12 (by decide) wm_265 hv17 dX5_press_51 ?_
        refine lv_aload_n hx hb dX5_press_54 rfl (lv_at hl 2 rfl) ?_
        obtain ⟨fs18, x_18, hF18, hv18⟩ := hI.gI hm_b_7 hk_b_7 7 (ci := 3) ⟨rfl, rfl, by decide, rfl⟩
        refine g_get (ci := 3) (v := .int x_18) (C := RX3) (T := TX3) (N := 12) hx hb hts uB3 hown hK hP hm_b_7 hF18 rfl 7 (by decide) wm_322 hv18 dX5_press_55 ?_
        refine lv_icmp_le (tgt := 64) hx hb dX5_press_58 (by decide) (fun c_19 => ?_) (fun c_19 => ?_)
        · skip
          refine lv_aload_n hx hb dX5_press_64 rfl (lv_at hl 2 rfl) ?_
          obtain ⟨fs20, x_20, hF20, hv20⟩ := hI.gI hm_b_7 hk_b_7 6 (ci := 3) ⟨rfl, rfl, by decide, rfl⟩
          refine g_get (ci := 3) (v := .int x_20) (C := RX3) (T := TX3) (N := 12) hx hb hts uB3 hown hK hP hm_b_7 hF20 rfl 6 (by decide) wm_315 hv20 dX5_press_65 ?_
          refine lv_iconst (v := 1) hx hb dX5_press_68 (by decide) ?_
          refine lv_icmp_ne (tgt := 77) hx hb dX5_press_69 (by decide) (fun c_21 => ?_) (fun c_21 => ?_)
          · skip
            refine lv_aload_n hx hb dX5_press_77 rfl (lv_at hl 2 rfl) ?_
            refine lv_iconst (v := 2) hx hb dX5_press_78 (by decide) ?_
            obtain ⟨fs22, hF22, hn22, -⟩ := hI.o hm_b_7 hk_b_7 rfl (ci := 3) rfl (n := 12) rfl
            refine g_put (ci := 3) (v := .int 2) (ty := .int) (C := RX3) (T := TX3) (N := 12) hx hb hts uB3 tyX3 tyX3_ok nmX3 hown hK hP hD hS hm_b_7 hF22 rfl 6 (by decide) wm_315 rfl (by decide +kernel) rfl rfl (by rw [hn22]; decide) dX5_press_79 (fun H locs hP hD hS => ?_)
            obtain ⟨f_23, ef_23⟩ : ∃ z9, z9 = va_up f b_7 (.inr (3, List.set fs22 6 (.int 2))) := ⟨_, rfl⟩
            have hI := hI.p hm_b_7 hk_b_7 6 (ci := 3) (t := 1) (v := .int 2) ⟨rfl, rfl, by decide, rfl⟩ hF22 fv1
            rw [← ef_23] at hP hD hI
            refine lv_aload_n hx hb dX5_press_82 rfl (lv_at hl 2 rfl) ?_
            refine lv_aload_n hx hb dX5_press_83 rfl (lv_at hl 3 rfl) ?_
            obtain ⟨fs24, hF24, hv24⟩ := hI.gG hm_h0 hk_h0 12 (ci := 5) ⟨rfl, rfl, by decide, rfl⟩
            rw [hg12] at hv24
            refine g_get (ci := 5) (v := .int (nI tk)) (C := RX5) (T := TX5) (N := 17) hx hb hts uB5 hown hK hP hm_h0 hF24 rfl 12 (by decide) wm_265 hv24 dX5_press_84 ?_
            obtain ⟨fs25, hF25, hn25, -⟩ := hI.o hm_b_7 hk_b_7 rfl (ci := 3) rfl (n := 12) rfl
            refine g_put (ci := 3) (v := .int (nI tk)) (ty := .int) (C := RX3) (T := TX3) (N := 12) hx hb hts uB3 tyX3 tyX3_ok nmX3 hown hK hP hD hS hm_b_7 hF25 rfl 8 (by decide) wm_317 rfl (by decide +kernel) rfl rfl (by rw [hn25]; decide) dX5_press_87 (fun H locs hP hD hS => ?_)
            obtain ⟨f_26, ef_26⟩ : ∃ z9, z9 = va_up f_23 b_7 (.inr (3, List.set fs25 8 (.int (nI tk)))) := ⟨_, rfl⟩
            have hI := hI.p hm_b_7 hk_b_7 8 (ci := 3) (t := 1) (v := .int (nI tk)) ⟨rfl, rfl, by decide, rfl⟩ hF25 fv1
            rw [← ef_26] at hP hD hI
            refine lv_aload_n hx hb dX5_press_90 rfl (lv_at hl 1 rfl) ?_
            obtain ⟨fs27, b_28, hF27, hv27, hm_b_28, hk_b_28⟩ := hI.gR hm_b_12 hk_b_12 5 (ci := 0) (t := 19) ⟨rfl, rfl, by decide, rfl⟩
            refine g_get (ci := 0) (v := .ref b_28) (C := RX0) (T := TX0) (N := 16) hx hb hts uB0 hown hK hP hm_b_12 hF27 rfl 5 (by decide) wm_290 hv27 dX5_press_91 ?_
            refine lv_dup hx hb dX5_press_94 rfl ?_
            obtain ⟨fs29, x_29, hF29, hv29⟩ := hI.gI hm_b_28 hk_b_28 5 (ci := 4) ⟨rfl, rfl, by decide, rfl⟩
            refine g_get (ci := 4) (v := .int x_29) (C := RX4) (T := TX4) (N := 8) hx hb hts uB4 hown hK hP hm_b_28 hF29 rfl 5 (by decide) wm_316 hv29 dX5_press_95 ?_
            refine lv_iconst (v := 1) hx hb dX5_press_98 (by decide) ?_
            refine lv_iadd hx hb dX5_press_99 ?_
            refine lv_topi (fun x_30 ex_30 => ?_)
            obtain ⟨fs31, hF31, hn31, -⟩ := hI.o hm_b_28 hk_b_28 rfl (ci := 4) rfl (n := 8) rfl
            refine g_put (ci := 4) (v := .int x_30) (ty := .int) (C := RX4) (T := TX4) (N := 8) hx hb hts uB4 tyX4 tyX4_ok nmX4 hown hK hP hD hS hm_b_28 hF31 rfl 5 (by decide) wm_316 rfl (by decide +kernel) rfl rfl (by rw [hn31]; decide) dX5_press_100 (fun H locs hP hD hS => ?_)
            obtain ⟨f_32, ef_32⟩ : ∃ z9, z9 = va_up f_26 b_28 (.inr (4, List.set fs31 5 (.int x_30))) := ⟨_, rfl⟩
            have hI := hI.p hm_b_28 hk_b_28 5 (ci := 4) (t := 1) (v := .int x_30) ⟨rfl, rfl, by decide, rfl⟩ hF31 fv1
            rw [← ef_32] at hP hD hI
            refine lv_aload_n hx hb dX5_press_103 rfl (lv_at hl 1 rfl) ?_
            obtain ⟨fs33, b_34, hF33, hv33, hm_b_34, hk_b_34⟩ := hI.gR hm_b_12 hk_b_12 5 (ci := 0) (t := 19) ⟨rfl, rfl, by decide, rfl⟩
            refine g_get (ci := 0) (v := .ref b_34) (C := RX0) (T := TX0) (N := 16) hx hb hts uB0 hown hK hP hm_b_12 hF33 rfl 5 (by decide) wm_290 hv33 dX5_press_104 ?_
            refine lv_dup hx hb dX5_press_107 rfl ?_
            obtain ⟨fs35, x_35, hF35, hv35⟩ := hI.gI hm_b_34 hk_b_34 6 (ci := 4) ⟨rfl, rfl, by decide, rfl⟩
            refine g_get (ci := 4) (v := .int x_35) (C := RX4) (T := TX4) (N := 8) hx hb hts uB4 hown hK hP hm_b_34 hF35 rfl 6 (by decide) wm_318 hv35 dX5_press_108 ?_
            refine lv_iconst (v := 1) hx hb dX5_press_111 (by decide) ?_
            refine lv_iadd hx hb dX5_press_112 ?_
            refine lv_topi (fun x_36 ex_36 => ?_)
            obtain ⟨fs37, hF37, hn37, -⟩ := hI.o hm_b_34 hk_b_34 rfl (ci := 4) rfl (n := 8) rfl
            refine g_put (ci := 4) (v := .int x_36) (ty := .int) (C := RX4) (T := TX4) (N := 8) hx hb hts uB4 tyX4 tyX4_ok nmX4 hown hK hP hD hS hm_b_34 hF37 rfl 6 (by decide) wm_318 rfl (by decide +kernel) rfl rfl (by rw [hn37]; decide) dX5_press_113 (fun H locs hP hD hS => ?_)
            obtain ⟨f_38, ef_38⟩ : ∃ z9, z9 = va_up f_32 b_34 (.inr (4, List.set fs37 6 (.int x_36))) := ⟨_, rfl⟩
            have hI := hI.p hm_b_34 hk_b_34 6 (ci := 4) (t := 1) (v := .int x_36) ⟨rfl, rfl, by decide, rfl⟩ hF37 fv1
            rw [← ef_38] at hP hD hI
            refine lv_iconst (v := 1) hx hb dX5_press_116 (by decide) ?_
            exact W.iret (v := 1) hx hb hr (fun t ht hW => ⟨⟨1, f_38, rfl, ⟨G, hI, hGS⟩, by show va_P (dC, dI) vwCl (va_pl L f_38) t.heap; rw [ht]; exact hP⟩, hS.F ht⟩) hS.2.2 dX5_press_117
          · skip
            refine lv_aload_n hx hb dX5_press_72 rfl (lv_at hl 3 rfl) ?_
            refine lv_aload_n hx hb dX5_press_73 rfl (lv_at hl 2 rfl) ?_
            obtain ⟨fs39, hF39, -, -⟩ := hI.o hm_h0 hk_h0 rfl (ci := 5) rfl rfl
            refine gc_Mv (ci := 5) ⟨hx, hb, hml, hown, hts⟩ (k_X5_spendHeld l dC dI K L f hI h0 hm_h0 hk_h0 b_7 hm_b_7 hk_b_7 hnp hnc hLn) 1 wm_448 wm_449 wm_450 wm_67 wm_451 (by decide +kernel) ⟨Nat.le_of_ble_eq_true rfl, Nat.le_of_ble_eq_true rfl⟩ hK rfl hm_h0 hF39 rfl hl.1 rfl (Nat.le_of_ble_eq_true rfl) dX5_press_74 ⟨Nat.le_of_ble_eq_true rfl, Nat.le_of_ble_eq_true rfl⟩ (fun a h => by rw [← hAe]; exact h) hS hP (fun fw_40 H locs hpw hP hS => ?_)
            obtain ⟨G_41, hI, hGSC⟩ := hpw
            have hD : va_D A (va_pl L fw_40) := g_D hLn (fun a h => by rw [← hAe]; exact h) fw_40
            have hg9 := (hGSC 9 (by decide)).trans hg9
            have hg12 := (hGSC 12 (by decide)).trans hg12
            have hGS : gS [11] G G_41 := hGS.tr hGSC (by decide) (by decide)
            refine lv_aload_n hx hb dX5_press_77 rfl (lv_at hl 2 rfl) ?_
            refine lv_iconst (v := 2) hx hb dX5_press_78 (by decide) ?_
            obtain ⟨fs42, hF42, hn42, -⟩ := hI.o hm_b_7 hk_b_7 rfl (ci := 3) rfl (n := 12) rfl
            refine g_put (ci := 3) (v := .int 2) (ty := .int) (C := RX3) (T := TX3) (N := 12) hx hb hts uB3 tyX3 tyX3_ok nmX3 hown hK hP hD hS hm_b_7 hF42 rfl 6 (by decide) wm_315 rfl (by decide +kernel) rfl rfl (by rw [hn42]; decide) dX5_press_79 (fun H locs hP hD hS => ?_)
            obtain ⟨f_43, ef_43⟩ : ∃ z9, z9 = va_up fw_40 b_7 (.inr (3, List.set fs42 6 (.int 2))) := ⟨_, rfl⟩
            have hI := hI.p hm_b_7 hk_b_7 6 (ci := 3) (t := 1) (v := .int 2) ⟨rfl, rfl, by decide, rfl⟩ hF42 fv1
            rw [← ef_43] at hP hD hI
            refine lv_aload_n hx hb dX5_press_82 rfl (lv_at hl 2 rfl) ?_
            refine lv_aload_n hx hb dX5_press_83 rfl (lv_at hl 3 rfl) ?_
            obtain ⟨fs44, hF44, hv44⟩ := hI.gG hm_h0 hk_h0 12 (ci := 5) ⟨rfl, rfl, by decide, rfl⟩
            rw [hg12] at hv44
            refine g_get (ci := 5) (v := .int (nI tk)) (C := RX5) (T := TX5) (N := 17) hx hb hts uB5 hown hK hP hm_h0 hF44 rfl 12 (by decide) wm_265 hv44 dX5_press_84 ?_
            obtain ⟨fs45, hF45, hn45, -⟩ := hI.o hm_b_7 hk_b_7 rfl (ci := 3) rfl (n := 12) rfl
            refine g_put (ci := 3) (v := .int (nI tk)) (ty := .int) (C := RX3) (T := TX3) (N := 12) hx hb hts uB3 tyX3 tyX3_ok nmX3 hown hK hP hD hS hm_b_7 hF45 rfl 8 (by decide) wm_317 rfl (by decide +kernel) rfl rfl (by rw [hn45]; decide) dX5_press_87 (fun H locs hP hD hS => ?_)
            obtain ⟨f_46, ef_46⟩ : ∃ z9, z9 = va_up f_43 b_7 (.inr (3, List.set fs45 8 (.int (nI tk)))) := ⟨_, rfl⟩
            have hI := hI.p hm_b_7 hk_b_7 8 (ci := 3) (t := 1) (v := .int (nI tk)) ⟨rfl, rfl, by decide, rfl⟩ hF45 fv1
            rw [← ef_46] at hP hD hI
            refine lv_aload_n hx hb dX5_press_90 rfl (lv_at hl 1 rfl) ?_
            obtain ⟨fs47, b_48, hF47, hv47, hm_b_48, hk_b_48⟩ := hI.gR hm_b_12 hk_b_12 5 (ci := 0) (t := 19) ⟨rfl, rfl, by decide, rfl⟩
            refine g_get (ci := 0) (v := .ref b_48) (C := RX0) (T := TX0) (N := 16) hx hb hts uB0 hown hK hP hm_b_12 hF47 rfl 5 (by decide) wm_290 hv47 dX5_press_91 ?_
            refine lv_dup hx hb dX5_press_94 rfl ?_
            obtain ⟨fs49, x_49, hF49, hv49⟩ := hI.gI hm_b_48 hk_b_48 5 (ci := 4) ⟨rfl, rfl, by decide, rfl⟩
            refine g_get (ci := 4) (v := .int x_49) (C := RX4) (T := TX4) (N := 8) hx hb hts uB4 hown hK hP hm_b_48 hF49 rfl 5 (by decide) wm_316 hv49 dX5_press_95 ?_
            refine lv_iconst (v := 1) hx hb dX5_press_98 (by decide) ?_
            refine lv_iadd hx hb dX5_press_99 ?_
            refine lv_topi (fun x_50 ex_50 => ?_)
            obtain ⟨fs51, hF51, hn51, -⟩ := hI.o hm_b_48 hk_b_48 rfl (ci := 4) rfl (n := 8) rfl
            refine g_put (ci := 4) (v := .int x_50) (ty := .int) (C := RX4) (T := TX4) (N := 8) hx hb hts uB4 tyX4 tyX4_ok nmX4 hown hK hP hD hS hm_b_48 hF51 rfl 5 (by decide) wm_316 rfl (by decide +kernel) rfl rfl (by rw [hn51]; decide) dX5_press_100 (fun H locs hP hD hS => ?_)
            obtain ⟨f_52, ef_52⟩ : ∃ z9, z9 = va_up f_46 b_48 (.inr (4, List.set fs51 5 (.int x_50))) := ⟨_, rfl⟩
            have hI := hI.p hm_b_48 hk_b_48 5 (ci := 4) (t := 1) (v := .int x_50) ⟨rfl, rfl, by decide, rfl⟩ hF51 fv1
            rw [← ef_52] at hP hD hI
            refine lv_aload_n hx hb dX5_press_103 rfl (lv_at hl 1 rfl) ?_
            obtain ⟨fs53, b_54, hF53, hv53, hm_b_54, hk_b_54⟩ := hI.gR hm_b_12 hk_b_12 5 (ci := 0) (t := 19) ⟨rfl, rfl, by decide, rfl⟩
            refine g_get (ci := 0) (v := .ref b_54) (C := RX0) (T := TX0) (N := 16) hx hb hts uB0 hown hK hP hm_b_12 hF53 rfl 5 (by decide) wm_290 hv53 dX5_press_104 ?_
            refine lv_dup hx hb dX5_press_107 rfl ?_
            obtain ⟨fs55, x_55, hF55, hv55⟩ := hI.gI hm_b_54 hk_b_54 6 (ci := 4) ⟨rfl, rfl, by decide, rfl⟩
            refine g_get (ci := 4) (v := .int x_55) (C := RX4) (T := TX4) (N := 8) hx hb hts uB4 hown hK hP hm_b_54 hF55 rfl 6 (by decide) wm_318 hv55 dX5_press_108 ?_
            refine lv_iconst (v := 1) hx hb dX5_press_111 (by decide) ?_
            refine lv_iadd hx hb dX5_press_112 ?_
            refine lv_topi (fun x_56 ex_56 => ?_)
            obtain ⟨fs57, hF57, hn57, -⟩ := hI.o hm_b_54 hk_b_54 rfl (ci := 4) rfl (n := 8) rfl
            refine g_put (ci := 4) (v := .int x_56) (ty := .int) (C := RX4) (T := TX4) (N := 8) hx hb hts uB4 tyX4 tyX4_ok nmX4 hown hK hP hD hS hm_b_54 hF57 rfl 6 (by decide) wm_318 rfl (by decide +kernel) rfl rfl (by rw [hn57]; decide) dX5_press_113 (fun H locs hP hD hS => ?_)
            obtain ⟨f_58, ef_58⟩ : ∃ z9, z9 = va_up f_52 b_54 (.inr (4, List.set fs57 6 (.int x_56))) := ⟨_, rfl⟩
            have hI := hI.p hm_b_54 hk_b_54 6 (ci := 4) (t := 1) (v := .int x_56) ⟨rfl, rfl, by decide, rfl⟩ hF57 fv1
            rw [← ef_58] at hP hD hI
            refine lv_iconst (v := 1) hx hb dX5_press_116 (by decide) ?_
            exact W.iret (v := 1) hx hb hr (fun t ht hW => ⟨⟨1, f_58, rfl, ⟨G_41, hI, hGS⟩, by show va_P (dC, dI) vwCl (va_pl L f_58) t.heap; rw [ht]; exact hP⟩, hS.F ht⟩) hS.2.2 dX5_press_117
        · skip
          refine lv_bipush (v := (-2)) hx hb dX5_press_61 (by decide) ?_
          exact W.iret (v := (-2)) hx hb hr (fun t ht hW => ⟨⟨(-2), f, rfl, ⟨G, hI, hGS⟩, by show va_P (dC, dI) vwCl (va_pl L f) t.heap; rw [ht]; exact hP⟩, hS.F ht⟩) hS.2.2 dX5_press_63
    · skip
      refine lv_iconst (v := 1) hx hb dX5_press_34 (by decide) ?_
      refine lv_goto (tgt := 39) hx hb dX5_press_35 (by decide) ?_
      refine lv_istore (lv' := [(4, .int 1), (3, .ref b_12), (2, .ref b_7), (0, .ref h0), (1, .int (nI s1))]) hx hb dX5_press_39 hl (by decide) rfl (fun ls hl => ?_)
      refine lv_aload_n hx hb dX5_press_41 rfl (lv_at hl 2 rfl) ?_
      obtain ⟨fs59, x_59, hF59, hv59⟩ := hI.gI hm_b_7 hk_b_7 6 (ci := 3) ⟨rfl, rfl, by decide, rfl⟩
      refine g_get (ci := 3) (v := .int x_59) (C := RX3) (T := TX3) (N := 12) hx hb hts uB3 hown hK hP hm_b_7 hF59 rfl 6 (by decide) wm_315 hv59 dX5_press_42 ?_
      refine lv_iload hx hb dX5_press_45 (lv_at hl 0 rfl) ?_
      refine lv_icmp_ne (tgt := 61) hx hb dX5_press_47 (by decide) (fun c_60 => ?_) (fun c_60 => ?_)
      · skip
        refine lv_bipush (v := (-2)) hx hb dX5_press_61 (by decide) ?_
        exact W.iret (v := (-2)) hx hb hr (fun t ht hW => ⟨⟨(-2), f, rfl, ⟨G, hI, hGS⟩, by show va_P (dC, dI) vwCl (va_pl L f) t.heap; rw [ht]; exact hP⟩, hS.F ht⟩) hS.2.2 dX5_press_63
      · skip
        refine lv_aload_n hx hb dX5_press_50 rfl (lv_at hl 3 rfl) ?_
        obtain ⟨fs61, hF61, hv61⟩ := hI.gG hm_h0 hk_h0 12 (ci := 5) ⟨rfl, rfl, by decide, rfl⟩
        rw [hg12] at hv61
        refine g_get (ci := 5) (v := .int (nI tk)) (C := RX5) (T := TX5) (N := 17) hx hb hts uB5 hown hK hP hm_h0 hF61 rfl 12 (by decide) wm_265 hv61 dX5_press_51 ?_
        refine lv_aload_n hx hb dX5_press_54 rfl (lv_at hl 2 rfl) ?_
        obtain ⟨fs62, x_62, hF62, hv62⟩ := hI.gI hm_b_7 hk_b_7 7 (ci := 3) ⟨rfl, rfl, by decide, rfl⟩
        refine g_get (ci := 3) (v := .int x_62) (C := RX3) (T := TX3) (N := 12) hx hb hts uB3 hown hK hP hm_b_7 hF62 rfl 7 (by decide) wm_322 hv62 dX5_press_55 ?_
        refine lv_icmp_le (tgt := 64) hx hb dX5_press_58 (by decide) (fun c_63 => ?_) (fun c_63 => ?_)
        · skip
          refine lv_aload_n hx hb dX5_press_64 rfl (lv_at hl 2 rfl) ?_
          obtain ⟨fs64, x_64, hF64, hv64⟩ := hI.gI hm_b_7 hk_b_7 6 (ci := 3) ⟨rfl, rfl, by decide, rfl⟩
          refine g_get (ci := 3) (v := .int x_64) (C := RX3) (T := TX3) (N := 12) hx hb hts uB3 hown hK hP hm_b_7 hF64 rfl 6 (by decide) wm_315 hv64 dX5_press_65 ?_
          refine lv_iconst (v := 1) hx hb dX5_press_68 (by decide) ?_
          refine lv_icmp_ne (tgt := 77) hx hb dX5_press_69 (by decide) (fun c_65 => ?_) (fun c_65 => ?_)
          · skip
            refine lv_aload_n hx hb dX5_press_77 rfl (lv_at hl 2 rfl) ?_
            refine lv_iconst (v := 2) hx hb dX5_press_78 (by decide) ?_
            obtain ⟨fs66, hF66, hn66, -⟩ := hI.o hm_b_7 hk_b_7 rfl (ci := 3) rfl (n := 12) rfl
            refine g_put (ci := 3) (v := .int 2) (ty := .int) (C := RX3) (T := TX3) (N := 12) hx hb hts uB3 tyX3 tyX3_ok nmX3 hown hK hP hD hS hm_b_7 hF66 rfl 6 (by decide) wm_315 rfl (by decide +kernel) rfl rfl (by rw [hn66]; decide) dX5_press_79 (fun H locs hP hD hS => ?_)
            obtain ⟨f_67, ef_67⟩ : ∃ z9, z9 = va_up f b_7 (.inr (3, List.set fs66 6 (.int 2))) := ⟨_, rfl⟩
            have hI := hI.p hm_b_7 hk_b_7 6 (ci := 3) (t := 1) (v := .int 2) ⟨rfl, rfl, by decide, rfl⟩ hF66 fv1
            rw [← ef_67] at hP hD hI
            refine lv_aload_n hx hb dX5_press_82 rfl (lv_at hl 2 rfl) ?_
            refine lv_aload_n hx hb dX5_press_83 rfl (lv_at hl 3 rfl) ?_
            obtain ⟨fs68, hF68, hv68⟩ := hI.gG hm_h0 hk_h0 12 (ci := 5) ⟨rfl, rfl, by decide, rfl⟩
            rw [hg12] at hv68
            refine g_get (ci := 5) (v := .int (nI tk)) (C := RX5) (T := TX5) (N := 17) hx hb hts uB5 hown hK hP hm_h0 hF68 rfl 12 (by decide) wm_265 hv68 dX5_press_84 ?_
            obtain ⟨fs69, hF69, hn69, -⟩ := hI.o hm_b_7 hk_b_7 rfl (ci := 3) rfl (n := 12) rfl
            refine g_put (ci := 3) (v := .int (nI tk)) (ty := .int) (C := RX3) (T := TX3) (N := 12) hx hb hts uB3 tyX3 tyX3_ok nmX3 hown hK hP hD hS hm_b_7 hF69 rfl 8 (by decide) wm_317 rfl (by decide +kernel) rfl rfl (by rw [hn69]; decide) dX5_press_87 (fun H locs hP hD hS => ?_)
            obtain ⟨f_70, ef_70⟩ : ∃ z9, z9 = va_up f_67 b_7 (.inr (3, List.set fs69 8 (.int (nI tk)))) := ⟨_, rfl⟩
            have hI := hI.p hm_b_7 hk_b_7 8 (ci := 3) (t := 1) (v := .int (nI tk)) ⟨rfl, rfl, by decide, rfl⟩ hF69 fv1
            rw [← ef_70] at hP hD hI
            refine lv_aload_n hx hb dX5_press_90 rfl (lv_at hl 1 rfl) ?_
            obtain ⟨fs71, b_72, hF71, hv71, hm_b_72, hk_b_72⟩ := hI.gR hm_b_12 hk_b_12 5 (ci := 0) (t := 19) ⟨rfl, rfl, by decide, rfl⟩
            refine g_get (ci := 0) (v := .ref b_72) (C := RX0) (T := TX0) (N := 16) hx hb hts uB0 hown hK hP hm_b_12 hF71 rfl 5 (by decide) wm_290 hv71 dX5_press_91 ?_
            refine lv_dup hx hb dX5_press_94 rfl ?_
            obtain ⟨fs73, x_73, hF73, hv73⟩ := hI.gI hm_b_72 hk_b_72 5 (ci := 4) ⟨rfl, rfl, by decide, rfl⟩
            refine g_get (ci := 4) (v := .int x_73) (C := RX4) (T := TX4) (N := 8) hx hb hts uB4 hown hK hP hm_b_72 hF73 rfl 5 (by decide) wm_316 hv73 dX5_press_95 ?_
            refine lv_iconst (v := 1) hx hb dX5_press_98 (by decide) ?_
            refine lv_iadd hx hb dX5_press_99 ?_
            refine lv_topi (fun x_74 ex_74 => ?_)
            obtain ⟨fs75, hF75, hn75, -⟩ := hI.o hm_b_72 hk_b_72 rfl (ci := 4) rfl (n := 8) rfl
            refine g_put (ci := 4) (v := .int x_74) (ty := .int) (C := RX4) (T := TX4) (N := 8) hx hb hts uB4 tyX4 tyX4_ok nmX4 hown hK hP hD hS hm_b_72 hF75 rfl 5 (by decide) wm_316 rfl (by decide +kernel) rfl rfl (by rw [hn75]; decide) dX5_press_100 (fun H locs hP hD hS => ?_)
            obtain ⟨f_76, ef_76⟩ : ∃ z9, z9 = va_up f_70 b_72 (.inr (4, List.set fs75 5 (.int x_74))) := ⟨_, rfl⟩
            have hI := hI.p hm_b_72 hk_b_72 5 (ci := 4) (t := 1) (v := .int x_74) ⟨rfl, rfl, by decide, rfl⟩ hF75 fv1
            rw [← ef_76] at hP hD hI
            refine lv_aload_n hx hb dX5_press_103 rfl (lv_at hl 1 rfl) ?_
            obtain ⟨fs77, b_78, hF77, hv77, hm_b_78, hk_b_78⟩ := hI.gR hm_b_12 hk_b_12 5 (ci := 0) (t := 19) ⟨rfl, rfl, by decide, rfl⟩
            refine g_get (ci := 0) (v := .ref b_78) (C := RX0) (T := TX0) (N := 16) hx hb hts uB0 hown hK hP hm_b_12 hF77 rfl 5 (by decide) wm_290 hv77 dX5_press_104 ?_
            refine lv_dup hx hb dX5_press_107 rfl ?_
            obtain ⟨fs79, x_79, hF79, hv79⟩ := hI.gI hm_b_78 hk_b_78 6 (ci := 4) ⟨rfl, rfl, by decide, rfl⟩
            refine g_get (ci := 4) (v := .int x_79) (C := RX4) (T := TX4) (N := 8) hx hb hts uB4 hown hK hP hm_b_78 hF79 rfl 6 (by decide) wm_318 hv79 dX5_press_108 ?_
            refine lv_iconst (v := 1) hx hb dX5_press_111 (by decide) ?_
            refine lv_iadd hx hb dX5_press_112 ?_
            refine lv_topi (fun x_80 ex_80 => ?_)
            obtain ⟨fs81, hF81, hn81, -⟩ := hI.o hm_b_78 hk_b_78 rfl (ci := 4) rfl (n := 8) rfl
            refine g_put (ci := 4) (v := .int x_80) (ty := .int) (C := RX4) (T := TX4) (N := 8) hx hb hts uB4 tyX4 tyX4_ok nmX4 hown hK hP hD hS hm_b_78 hF81 rfl 6 (by decide) wm_318 rfl (by decide +kernel) rfl rfl (by rw [hn81]; decide) dX5_press_113 (fun H locs hP hD hS => ?_)
            obtain ⟨f_82, ef_82⟩ : ∃ z9, z9 = va_up f_76 b_78 (.inr (4, List.set fs81 6 (.int x_80))) := ⟨_, rfl⟩
            have hI := hI.p hm_b_78 hk_b_78 6 (ci := 4) (t := 1) (v := .int x_80) ⟨rfl, rfl, by decide, rfl⟩ hF81 fv1
            rw [← ef_82] at hP hD hI
            refine lv_iconst (v := 1) hx hb dX5_press_116 (by decide) ?_
            exact W.iret (v := 1) hx hb hr (fun t ht hW => ⟨⟨1, f_82, rfl, ⟨G, hI, hGS⟩, by show va_P (dC, dI) vwCl (va_pl L f_82) t.heap; rw [ht]; exact hP⟩, hS.F ht⟩) hS.2.2 dX5_press_117
          · skip
            refine lv_aload_n hx hb dX5_press_72 rfl (lv_at hl 3 rfl) ?_
            refine lv_aload_n hx hb dX5_press_73 rfl (lv_at hl 2 rfl) ?_
            obtain ⟨fs83, hF83, -, -⟩ := hI.o hm_h0 hk_h0 rfl (ci := 5) rfl rfl
            refine gc_Mv (ci := 5) ⟨hx, hb, hml, hown, hts⟩ (k_X5_spendHeld l dC dI K L f hI h0 hm_h0 hk_h0 b_7 hm_b_7 hk_b_7 hnp hnc hLn) 1 wm_448 wm_449 wm_450 wm_67 wm_451 (by decide +kernel) ⟨Nat.le_of_ble_eq_true rfl, Nat.le_of_ble_eq_true rfl⟩ hK rfl hm_h0 hF83 rfl hl.1 rfl (Nat.le_of_ble_eq_true rfl) dX5_press_74 ⟨Nat.le_of_ble_eq_true rfl, Nat.le_of_ble_eq_true rfl⟩ (fun a h => by rw [← hAe]; exact h) hS hP (fun fw_84 H locs hpw hP hS => ?_)
            obtain ⟨G_85, hI, hGSC⟩ := hpw
            have hD : va_D A (va_pl L fw_84) := g_D hLn (fun a h => by rw [← hAe]; exact h) fw_84
            have hg9 := (hGSC 9 (by decide)).trans hg9
            have hg12 := (hGSC 12 (by decide)).trans hg12
            have hGS : gS [11] G G_85 := hGS.tr hGSC (by decide) (by decide)
            refine lv_aload_n hx hb dX5_press_77 rfl (lv_at hl 2 rfl) ?_
            refine lv_iconst (v := 2) hx hb dX5_press_78 (by decide) ?_
            obtain ⟨fs86, hF86, hn86, -⟩ := hI.o hm_b_7 hk_b_7 rfl (ci := 3) rfl (n := 12) rfl
            refine g_put (ci := 3) (v := .int 2) (ty := .int) (C := RX3) (T := TX3) (N := 12) hx hb hts uB3 tyX3 tyX3_ok nmX3 hown hK hP hD hS hm_b_7 hF86 rfl 6 (by decide) wm_315 rfl (by decide +kernel) rfl rfl (by rw [hn86]; decide) dX5_press_79 (fun H locs hP hD hS => ?_)
            obtain ⟨f_87, ef_87⟩ : ∃ z9, z9 = va_up fw_84 b_7 (.inr (3, List.set fs86 6 (.int 2))) := ⟨_, rfl⟩
            have hI := hI.p hm_b_7 hk_b_7 6 (ci := 3) (t := 1) (v := .int 2) ⟨rfl, rfl, by decide, rfl⟩ hF86 fv1
            rw [← ef_87] at hP hD hI
            refine lv_aload_n hx hb dX5_press_82 rfl (lv_at hl 2 rfl) ?_
            refine lv_aload_n hx hb dX5_press_83 rfl (lv_at hl 3 rfl) ?_
            obtain ⟨fs88, hF88, hv88⟩ := hI.gG hm_h0 hk_h0 12 (ci := 5) ⟨rfl, rfl, by decide, rfl⟩
            rw [hg12] at hv88
            refine g_get (ci := 5) (v := .int (nI tk)) (C := RX5) (T := TX5) (N := 17) hx hb hts uB5 hown hK hP hm_h0 hF88 rfl 12 (by decide) wm_265 hv88 dX5_press_84 ?_
            obtain ⟨fs89, hF89, hn89, -⟩ := hI.o hm_b_7 hk_b_7 rfl (ci := 3) rfl (n := 12) rfl
            refine g_put (ci := 3) (v := .int (nI tk)) (ty := .int) (C := RX3) (T := TX3) (N := 12) hx hb hts uB3 tyX3 tyX3_ok nmX3 hown hK hP hD hS hm_b_7 hF89 rfl 8 (by decide) wm_317 rfl (by decide +kernel) rfl rfl (by rw [hn89]; decide) dX5_press_87 (fun H locs hP hD hS => ?_)
            obtain ⟨f_90, ef_90⟩ : ∃ z9, z9 = va_up f_87 b_7 (.inr (3, List.set fs89 8 (.int (nI tk)))) := ⟨_, rfl⟩
            have hI := hI.p hm_b_7 hk_b_7 8 (ci := 3) (t := 1) (v := .int (nI tk)) ⟨rfl, rfl, by decide, rfl⟩ hF89 fv1
            rw [← ef_90] at hP hD hI
            refine lv_aload_n hx hb dX5_press_90 rfl (lv_at hl 1 rfl) ?_
            obtain ⟨fs91, b_92, hF91, hv91, hm_b_92, hk_b_92⟩ := hI.gR hm_b_12 hk_b_12 5 (ci := 0) (t := 19) ⟨rfl, rfl, by decide, rfl⟩
            refine g_get (ci := 0) (v := .ref b_92) (C := RX0) (T := TX0) (N := 16) hx hb hts uB0 hown hK hP hm_b_12 hF91 rfl 5 (by decide) wm_290 hv91 dX5_press_91 ?_
            refine lv_dup hx hb dX5_press_94 rfl ?_
            obtain ⟨fs93, x_93, hF93, hv93⟩ := hI.gI hm_b_92 hk_b_92 5 (ci := 4) ⟨rfl, rfl, by decide, rfl⟩
            refine g_get (ci := 4) (v := .int x_93) (C := RX4) (T := TX4) (N := 8) hx hb hts uB4 hown hK hP hm_b_92 hF93 rfl 5 (by decide) wm_316 hv93 dX5_press_95 ?_
            refine lv_iconst (v := 1) hx hb dX5_press_98 (by decide) ?_
            refine lv_iadd hx hb dX5_press_99 ?_
            refine lv_topi (fun x_94 ex_94 => ?_)
            obtain ⟨fs95, hF95, hn95, -⟩ := hI.o hm_b_92 hk_b_92 rfl (ci := 4) rfl (n := 8) rfl
            refine g_put (ci := 4) (v := .int x_94) (ty := .int) (C := RX4) (T := TX4) (N := 8) hx hb hts uB4 tyX4 tyX4_ok nmX4 hown hK hP hD hS hm_b_92 hF95 rfl 5 (by decide) wm_316 rfl (by decide +kernel) rfl rfl (by rw [hn95]; decide) dX5_press_100 (fun H locs hP hD hS => ?_)
            obtain ⟨f_96, ef_96⟩ : ∃ z9, z9 = va_up f_90 b_92 (.inr (4, List.set fs95 5 (.int x_94))) := ⟨_, rfl⟩
            have hI := hI.p hm_b_92 hk_b_92 5 (ci := 4) (t := 1) (v := .int x_94) ⟨rfl, rfl, by decide, rfl⟩ hF95 fv1
            rw [← ef_96] at hP hD hI
            refine lv_aload_n hx hb dX5_press_103 rfl (lv_at hl 1 rfl) ?_
            obtain ⟨fs97, b_98, hF97, hv97, hm_b_98, hk_b_98⟩ := hI.gR hm_b_12 hk_b_12 5 (ci := 0) (t := 19) ⟨rfl, rfl, by decide, rfl⟩
            refine g_get (ci := 0) (v := .ref b_98) (C := RX0) (T := TX0) (N := 16) hx hb hts uB0 hown hK hP hm_b_12 hF97 rfl 5 (by decide) wm_290 hv97 dX5_press_104 ?_
            refine lv_dup hx hb dX5_press_107 rfl ?_
            obtain ⟨fs99, x_99, hF99, hv99⟩ := hI.gI hm_b_98 hk_b_98 6 (ci := 4) ⟨rfl, rfl, by decide, rfl⟩
            refine g_get (ci := 4) (v := .int x_99) (C := RX4) (T := TX4) (N := 8) hx hb hts uB4 hown hK hP hm_b_98 hF99 rfl 6 (by decide) wm_318 hv99 dX5_press_108 ?_
            refine lv_iconst (v := 1) hx hb dX5_press_111 (by decide) ?_
            refine lv_iadd hx hb dX5_press_112 ?_
            refine lv_topi (fun x_100 ex_100 => ?_)
            obtain ⟨fs101, hF101, hn101, -⟩ := hI.o hm_b_98 hk_b_98 rfl (ci := 4) rfl (n := 8) rfl
            refine g_put (ci := 4) (v := .int x_100) (ty := .int) (C := RX4) (T := TX4) (N := 8) hx hb hts uB4 tyX4 tyX4_ok nmX4 hown hK hP hD hS hm_b_98 hF101 rfl 6 (by decide) wm_318 rfl (by decide +kernel) rfl rfl (by rw [hn101]; decide) dX5_press_113 (fun H locs hP hD hS => ?_)
            obtain ⟨f_102, ef_102⟩ : ∃ z9, z9 = va_up f_96 b_98 (.inr (4, List.set fs101 6 (.int x_100))) := ⟨_, rfl⟩
            have hI := hI.p hm_b_98 hk_b_98 6 (ci := 4) (t := 1) (v := .int x_100) ⟨rfl, rfl, by decide, rfl⟩ hF101 fv1
            rw [← ef_102] at hP hD hI
            refine lv_iconst (v := 1) hx hb dX5_press_116 (by decide) ?_
            exact W.iret (v := 1) hx hb hr (fun t ht hW => ⟨⟨1, f_102, rfl, ⟨G_85, hI, hGS⟩, by show va_P (dC, dI) vwCl (va_pl L f_102) t.heap; rw [ht]; exact hP⟩, hS.F ht⟩) hS.2.2 dX5_press_117
        · skip
          refine lv_bipush (v := (-2)) hx hb dX5_press_61 (by decide) ?_
          exact W.iret (v := (-2)) hx hb hr (fun t ht hW => ⟨⟨(-2), f, rfl, ⟨G, hI, hGS⟩, by show va_P (dC, dI) vwCl (va_pl L f) t.heap; rw [ht]; exact hP⟩, hS.F ht⟩) hS.2.2 dX5_press_63
  · skip
    have g_3 := k_ff hpr_2 c_3
    refine lv_iconst (v := (-1)) hx hb dX5_press_8 (by decide) ?_
    exact W.iret (v := (-1)) hx hb hr (fun t ht hW => ⟨⟨(-1), f, rfl, ⟨G, hI, hGS⟩, by show va_P (dC, dI) vwCl (va_pl L f) t.heap; rw [ht]; exact hP⟩, hS.F ht⟩) hS.2.2 dX5_press_9
set_option maxHeartbeats 4000000 in
set_option maxRecDepth 100000 in
theorem k_X5_refund (l : Launch) (dC : Nat → ClassId) (dI : Nat → Nat → Nat) (K : Nat → ClassId) (L : List Nat) (f : Nat → va_E) {np nc ns lk lc tp cp gp : Nat} {G J mk st : Nat → Int32} {ap : Nat → Int64} {kd sn : Nat → Nat} {tk : Nat} (hI : cI K np nc ns lk lc tp cp gp G J mk st ap kd sn L f) (h0 : Nat) (hm_h0 : h0 ∈ L) (hk_h0 : kd h0 = 1) (x : Int32) (hg9 : G 9 = nI ns) (hg12 : G 12 = nI tk) (hnp : np ≤ 8) (hnc : nc ≤ 40) (hns : ns ≤ 1000) (hLn : gN L) : gMi l yX5_refund cX5_refund 4 2 (dC, dI) K L f [.ref h0, .int x] (fun r f' => ∃ (G2 : Nat → Int32), cI K np nc ns lk lc tp cp gp G2 J mk st ap kd sn L f' ∧ (gS [10, 11] G G2)) := by
  refine Met.ofW (cc := cX5_refund) (maxL := 4) (ret := (some .int)) (by decide) rfl ?_
  intro p e s m args below meth c s₁ B hml hv
  obtain ⟨rfl, hP, hK⟩ := hv
  have hD : va_D (fun q : Nat => q ∈ L) (va_pl L f) := g_D hLn (fun a h => h) f
  generalize hAe : (fun q : Nat => q ∈ L) = A at hD ⊢
  have hx := B.exec
  have hb := B.bytes
  have hr := B.returns
  have hlocks := B.notSynchronized
  have hts0 := atoms_spec (ws := Cond.code yX5_refund cX5_refund 4 (some .int) :: lw_B) B.pre
  have hts : ∀ w ∈ lw_B, w.before _ s = true := fun w h => hts0 w (List.mem_cons_of_mem _ h)
  have hown : s.vm.findClass RX5 = some m.cls := findClass_of_methodNamed B.named
  have hS : va_S A s.heap s.heap [] := va_S.rf
  have hGS : gS [10, 11] G G := gS.rf
  have hl := lv_entry ([.ref h0, .int x]) (n := 4) (Nat.le_of_ble_eq_true rfl)
  rw [lg_entry_eq]
  generalize (lg_sl ([.ref h0, .int x]) ++ List.replicate (4 - (lg_sl ([.ref h0, .int x])).length) Slot.unset).toArray = ls at hl ⊢
  have hl : lv_has ls 4 [(0, .ref h0), (1, .int x)] := hl
  refine lv_aload_n hx hb dX5_refund_0 rfl (lv_at hl 0 rfl) ?_
  refine lv_iload_n hx hb dX5_refund_1 rfl (lv_at hl 1 rfl) ?_
  obtain ⟨fs1, hF1, -, -⟩ := hI.o hm_h0 hk_h0 rfl (ci := 5) rfl rfl
  refine gc_R (ci := 5) ⟨hx, hb, hml, hown, hts⟩ (k_X5_isSale l dC dI K L f hI h0 hm_h0 hk_h0 x hg9 hns) 1 wm_101 wm_102 wm_103 wm_67 wm_104 (by decide +kernel) ⟨Nat.le_of_ble_eq_true rfl, Nat.le_of_ble_eq_true rfl⟩ hK rfl hm_h0 hF1 rfl hl.1 rfl (Nat.le_of_ble_eq_true rfl) dX5_refund_2 ⟨Nat.le_of_ble_eq_true rfl, Nat.le_of_ble_eq_true rfl⟩ hS hP (fun r_2 H locs hpr_2 hP hS => ?_)
  refine lv_if_ne (tgt := 10) hx hb dX5_refund_5 (by decide) (fun c_3 => ?_) (fun c_3 => ?_)
  · skip
    have g_3 := k_ft hpr_2 c_3
    have gc_s1 := g_3
    obtain ⟨s1, hs1, rfl⟩ := k_ix (n := ns) (x := x) g_3 (by omega)
    refine lv_aload_n hx hb dX5_refund_10 rfl (lv_at hl 0 rfl) ?_
    obtain ⟨fs4, b_5, hF4, hv4, hm_b_5, hk_b_5⟩ := hI.gR hm_h0 hk_h0 2 (ci := 5) (t := 4) ⟨rfl, rfl, by decide, rfl⟩
    refine g_get (ci := 5) (v := .ref b_5) (C := RX5) (T := TX5) (N := 17) hx hb hts uB5 hown hK hP hm_h0 hF4 rfl 2 (by decide) wm_332 hv4 dX5_refund_11 ?_
    refine lv_iload_n hx hb dX5_refund_14 rfl (lv_at hl 1 rfl) ?_
    obtain ⟨g6, hF6, hgz6⟩ := hI.a4 hm_b_5 hk_b_5
    obtain ⟨b_7, hm_b_7, hk_b_7, hv6⟩ := hgz6 s1 (by omega)
    refine g_aldR (t := 5) hx hb hK hP hm_b_5 hF6 rfl (vp_in_nI (by omega) (by decide)) (by rw [nI_clamp (by omega)]; exact hv6) dX5_refund_15 ?_
    refine lv_astore_n (lv' := [(2, .ref b_7), (0, .ref h0), (1, .int (nI s1))]) hx hb dX5_refund_16 rfl hl (by decide) rfl (fun ls hl => ?_)
    refine lv_aload_n hx hb dX5_refund_17 rfl (lv_at hl 0 rfl) ?_
    obtain ⟨fs8, x_8, hF8, hv8⟩ := hI.gI hm_b_7 hk_b_7 6 (ci := 3) ⟨rfl, rfl, by decide, rfl⟩
    refine g_get (ci := 3) (v := .int x_8) (C := RX3) (T := TX3) (N := 12) hx hb hts uB3 hown hK hP hm_b_7 hF8 rfl 6 (by decide) wm_315 hv8 dX5_refund_18 ?_
    refine lv_iconst (v := 3) hx hb dX5_refund_21 (by decide) ?_
    refine lv_icmp_ne (tgt := 28) hx hb dX5_refund_22 (by decide) (fun c_9 => ?_) (fun c_9 => ?_)
    · skip
      refine lv_aload_n hx hb dX5_refund_28 rfl (lv_at hl 0 rfl) ?_
      obtain ⟨fs10, x_10, hF10, hv10⟩ := hI.gI hm_b_7 hk_b_7 9 (ci := 3) ⟨rfl, rfl, by decide, rfl⟩
      refine g_get (ci := 3) (v := .int x_10) (C := RX3) (T := TX3) (N := 12) hx hb hts uB3 hown hK hP hm_b_7 hF10 rfl 9 (by decide) wm_297 hv10 dX5_refund_29 ?_
      refine lv_istore_n (lv' := [(3, .int x_10), (2, .ref b_7), (0, .ref h0), (1, .int (nI s1))]) hx hb dX5_refund_32 rfl hl (by decide) rfl (fun ls hl => ?_)
      refine lv_aload_n hx hb dX5_refund_33 rfl (lv_at hl 2 rfl) ?_
      refine lv_aload_n hx hb dX5_refund_34 rfl (lv_at hl 1 rfl) ?_
      obtain ⟨fs11, hF11, -, -⟩ := hI.o hm_h0 hk_h0 rfl (ci := 5) rfl rfl
      refine gc_Mv (ci := 5) ⟨hx, hb, hml, hown, hts⟩ (k_X5_freeHeld l dC dI K L f hI h0 hm_h0 hk_h0 b_7 hm_b_7 hk_b_7 hnc hLn) 1 wm_333 wm_334 wm_335 wm_67 wm_336 (by decide +kernel) ⟨Nat.le_of_ble_eq_true rfl, Nat.le_of_ble_eq_true rfl⟩ hK rfl hm_h0 hF11 rfl hl.1 rfl (Nat.le_of_ble_eq_true rfl) dX5_refund_35 ⟨Nat.le_of_ble_eq_true rfl, Nat.le_of_ble_eq_true rfl⟩ (fun a h => by rw [← hAe]; exact h) hS hP (fun fw_12 H locs hpw hP hS => ?_)
      have hI := hpw
      have hD : va_D A (va_pl L fw_12) := g_D hLn (fun a h => by rw [← hAe]; exact h) fw_12
      refine lv_aload_n hx hb dX5_refund_38 rfl (lv_at hl 2 rfl) ?_
      refine lv_aload_n hx hb dX5_refund_39 rfl (lv_at hl 1 rfl) ?_
      obtain ⟨fs13, hF13, -, -⟩ := hI.o hm_h0 hk_h0 rfl (ci := 5) rfl rfl
      refine gc_Mv (ci := 5) ⟨hx, hb, hml, hown, hts⟩ (k_X5_givePaidBack l dC dI K L fw_12 hI h0 hm_h0 hk_h0 b_7 hm_b_7 hk_b_7 hnp hnc hLn) 1 wm_452 wm_453 wm_454 wm_67 wm_455 (by decide +kernel) ⟨Nat.le_of_ble_eq_true rfl, Nat.le_of_ble_eq_true rfl⟩ hK rfl hm_h0 hF13 rfl hl.1 rfl (Nat.le_of_ble_eq_true rfl) dX5_refund_40 ⟨Nat.le_of_ble_eq_true rfl, Nat.le_of_ble_eq_true rfl⟩ (fun a h => by rw [← hAe]; exact h) hS hP (fun fw_14 H locs hpw hP hS => ?_)
      obtain ⟨G_15, hI, hGSC⟩ := hpw
      have hD : va_D A (va_pl L fw_14) := g_D hLn (fun a h => by rw [← hAe]; exact h) fw_14
      have hg9 := (hGSC 9 (by decide)).trans hg9
      have hg12 := (hGSC 12 (by decide)).trans hg12
      have hGS : gS [10, 11] G G_15 := hGS.tr hGSC (by decide) (by decide)
      refine lv_aload_n hx hb dX5_refund_43 rfl (lv_at hl 2 rfl) ?_
      refine lv_aload_n hx hb dX5_refund_44 rfl (lv_at hl 1 rfl) ?_
      obtain ⟨fs16, hF16, -, -⟩ := hI.o hm_h0 hk_h0 rfl (ci := 5) rfl rfl
      refine gc_Mv (ci := 5) ⟨hx, hb, hml, hown, hts⟩ (k_X5_uncount l dC dI K L fw_14 hI h0 hm_h0 hk_h0 b_7 hm_b_7 hk_b_7 hnp hnc hLn) 1 wm_456 wm_457 wm_458 wm_67 wm_459 (by decide +kernel) ⟨Nat.le_of_ble_eq_true rfl, Nat.le_of_ble_eq_true rfl⟩ hK rfl hm_h0 hF16 rfl hl.1 rfl (Nat.le_of_ble_eq_true rfl) dX5_refund_45 ⟨Nat.le_of_ble_eq_true rfl, Nat.le_of_ble_eq_true rfl⟩ (fun a h => by rw [← hAe]; exact h) hS hP (fun fw_17 H locs hpw hP hS => ?_)
      have hI := hpw
      have hD : va_D A (va_pl L fw_17) := g_D hLn (fun a h => by rw [← hAe]; exact h) fw_17
      refine lv_aload_n hx hb dX5_refund_48 rfl (lv_at hl 1 rfl) ?_
      refine lv_iconst (v := 3) hx hb dX5_refund_49 (by decide) ?_
      obtain ⟨fs18, hF18, hn18, -⟩ := hI.o hm_b_7 hk_b_7 rfl (ci := 3) rfl (n := 12) rfl
      refine g_put (ci := 3) (v := .int 3) (ty := .int) (C := RX3) (T := TX3) (N := 12) hx hb hts uB3 tyX3 tyX3_ok nmX3 hown hK hP hD hS hm_b_7 hF18 rfl 6 (by decide) wm_315 rfl (by decide +kernel) rfl rfl (by rw [hn18]; decide) dX5_refund_50 (fun H locs hP hD hS => ?_)
      obtain ⟨f_19, ef_19⟩ : ∃ z9, z9 = va_up fw_17 b_7 (.inr (3, List.set fs18 6 (.int 3))) := ⟨_, rfl⟩
      have hI := hI.p hm_b_7 hk_b_7 6 (ci := 3) (t := 1) (v := .int 3) ⟨rfl, rfl, by decide, rfl⟩ hF18 fv1
      rw [← ef_19] at hP hD hI
      refine lv_aload_n hx hb dX5_refund_53 rfl (lv_at hl 2 rfl) ?_
      refine lv_dup hx hb dX5_refund_54 rfl ?_
      obtain ⟨fs20, hF20, hv20⟩ := hI.gG hm_h0 hk_h0 10 (ci := 5) ⟨rfl, rfl, by decide, rfl⟩
      refine g_get (ci := 5) (v := .int (G_15 10)) (C := RX5) (T := TX5) (N := 17) hx hb hts uB5 hown hK hP hm_h0 hF20 rfl 10 (by decide) wm_446 hv20 dX5_refund_55 ?_
      refine lv_iconst (v := 1) hx hb dX5_refund_58 (by decide) ?_
      refine lv_iadd hx hb dX5_refund_59 ?_
      refine lv_topi (fun x_21 ex_21 => ?_)
      obtain ⟨fs22, hF22, hn22, -⟩ := hI.o hm_h0 hk_h0 rfl (ci := 5) rfl (n := 17) rfl
      refine g_put (ci := 5) (v := .int x_21) (ty := .int) (C := RX5) (T := TX5) (N := 17) hx hb hts uB5 tyX5 tyX5_ok nmX5 hown hK hP hD hS hm_h0 hF22 rfl 10 (by decide) wm_446 rfl (by decide +kernel) rfl rfl (by rw [hn22]; decide) dX5_refund_60 (fun H locs hP hD hS => ?_)
      obtain ⟨f_23, ef_23⟩ : ∃ z9, z9 = va_up f_19 h0 (.inr (5, List.set fs22 10 (.int x_21))) := ⟨_, rfl⟩
      have hI := hI.pG hm_h0 hk_h0 10 (by decide) hF22 x_21
      rw [← ef_23] at hP hD hI
      obtain ⟨G_24, eG_24⟩ : ∃ z9, z9 = va_up G_15 10 x_21 := ⟨_, rfl⟩
      rw [← eG_24] at hI
      have hg9 : G_24 9 = nI ns := by rw [eG_24, va_up_ne _ _ (by decide)]; exact hg9
      have hg12 : G_24 12 = nI tk := by rw [eG_24, va_up_ne _ _ (by decide)]; exact hg12
      have hGS : gS [10, 11] G G_24 := by rw [eG_24]; exact hGS.up (by decide) _
      refine lv_iload_n hx hb dX5_refund_63 rfl (lv_at hl 0 rfl) ?_
      exact W.iret (v := x_10) hx hb hr (fun t ht hW => ⟨⟨x_10, f_23, rfl, ⟨G_24, hI, hGS⟩, by show va_P (dC, dI) vwCl (va_pl L f_23) t.heap; rw [ht]; exact hP⟩, hS.F ht⟩) hS.2.2 dX5_refund_64
    · skip
      refine lv_bipush (v := (-2)) hx hb dX5_refund_25 (by decide) ?_
      exact W.iret (v := (-2)) hx hb hr (fun t ht hW => ⟨⟨(-2), f, rfl, ⟨G, hI, hGS⟩, by show va_P (dC, dI) vwCl (va_pl L f) t.heap; rw [ht]; exact hP⟩, hS.F ht⟩) hS.2.2 dX5_refund_27
  · skip
    have g_3 := k_ff hpr_2 c_3
    refine lv_iconst (v := (-1)) hx hb dX5_refund_8 (by decide) ?_
    exact W.iret (v := (-1)) hx hb hr (fun t ht hW => ⟨⟨(-1), f, rfl, ⟨G, hI, hGS⟩, by show va_P (dC, dI) vwCl (va_pl L f) t.heap; rw [ht]; exact hP⟩, hS.F ht⟩) hS.2.2 dX5_refund_9
