theorem apb01 {v : Int64} {y r : Int32} (h : r = apb v y) (hn : ¬ r = 0) : r = 1 := by
  unfold apb at h
  split at h
  · exact h
  · exact absurd h hn
set_option maxHeartbeats 4000000 in
set_option maxRecDepth 100000 in
theorem k_X5_apart (l : Launch) (dC : Nat → ClassId) (dI : Nat → Nat → Nat) (K : Nat → ClassId) (L : List Nat) (f : Nat → va_E) {np nc ns lk lc tp cp gp : Nat} {G J mk st : Nat → Int32} {ap : Nat → Int64} {kd sn : Nat → Nat} (hI : cI K np nc ns lk lc tp cp gp G J mk st ap kd sn L f) (h0 : Nat) (hm_h0 : h0 ∈ L) (hk_h0 : kd h0 = 1) (x : Int32) (y : Int32) (z : Int32) (hg8 : G 8 = nI nc) (hnc : nc ≤ 40) (hLn : gN L) : gMi l yX5_apart cX5_apart 5 1 (dC, dI) K L f [.ref h0, .int x, .int y, .int z] (fun r f' => ∃ (ap2 : Nat → Int64), cI K np nc ns lk lc tp cp gp G J mk st ap2 kd sn L f' ∧ ((¬ ((0 ≤ x ∧ x ≤ nI nc - 1) ∧ (0 ≤ y ∧ y ≤ nI nc - 1) ∧ ¬ x = y ∧ (0 ≤ z ∧ z ≤ 1)) ∧ r = (-1) ∧ ap2 = ap) ∨ (((0 ≤ x ∧ x ≤ nI nc - 1) ∧ (0 ≤ y ∧ y ≤ nI nc - 1) ∧ ¬ x = y ∧ (0 ≤ z ∧ z ≤ 1)) ∧ r = apb (ap (Int32.toNatClampNeg x)) y ∧ ap2 = (va_up (va_up ap (Int32.toNatClampNeg x) (setAp (ap (Int32.toNatClampNeg x)) y z)) (Int32.toNatClampNeg y) (setAp ((va_up ap (Int32.toNatClampNeg x) (setAp (ap (Int32.toNatClampNeg x)) y z)) (Int32.toNatClampNeg y)) x z))))) := by
  refine Met.ofW (cc := cX5_apart) (maxL := 5) (ret := (some .int)) (by decide) rfl ?_
  intro p e s m args below meth c s₁ B hml hv
  obtain ⟨rfl, hP, hK⟩ := hv
  have hD : va_D (fun q : Nat => q ∈ L) (va_pl L f) := g_D hLn (fun a h => h) f
  generalize hAe : (fun q : Nat => q ∈ L) = A at hD ⊢
  have hx := B.exec
  have hb := B.bytes
  have hr := B.returns
  have hlocks := B.notSynchronized
  have hts0 := atoms_spec (ws := Cond.code yX5_apart cX5_apart 5 (some .int) :: lw_B) B.pre
  have hts : ∀ w ∈ lw_B, w.before _ s = true := fun w h => hts0 w (List.mem_cons_of_mem _ h)
  have hown : s.vm.findClass RX5 = some m.cls := findClass_of_methodNamed B.named
  have hS : va_S A s.heap s.heap [] := va_S.rf
  have hl := lv_entry ([.ref h0, .int x, .int y, .int z]) (n := 5) (Nat.le_of_ble_eq_true rfl)
  rw [lg_entry_eq]
  generalize (lg_sl ([.ref h0, .int x, .int y, .int z]) ++ List.replicate (5 - (lg_sl ([.ref h0, .int x, .int y, .int z])).length) Slot.unset).toArray = ls at hl ⊢
  have hl : lv_has ls 5 [(0, .ref h0), (1, .int x), (2, .int y), (3, .int z)] := hl
  refine lv_aload_n hx hb dX5_apart_0 rfl (lv_at hl 0 rfl) ?_
  refine lv_iload_n hx hb dX5_apart_1 rfl (lv_at hl 1 rfl) ?_
  obtain ⟨fs1, hF1, -, -⟩ := hI.o hm_h0 hk_h0 rfl (ci := 5) rfl rfl
  refine gc_R (ci := 5) ⟨hx, hb, hml, hown, hts⟩ (k_X5_isCampaign l dC dI K L f hI h0 hm_h0 hk_h0 x hg8 hnc) 1 wm_77 wm_78 wm_79 wm_67 wm_80 (by decide +kernel) ⟨Nat.le_of_ble_eq_true rfl, Nat.le_of_ble_eq_true rfl⟩ hK rfl hm_h0 hF1 rfl hl.1 rfl (Nat.le_of_ble_eq_true rfl) dX5_apart_2 ⟨Nat.le_of_ble_eq_true rfl, Nat.le_of_ble_eq_true rfl⟩ hS hP (fun r_2 H locs hpr_2 hP hS => ?_)
  refine lv_if_eq (tgt := 30) hx hb dX5_apart_5 (by decide) (fun c_3 => ?_) (fun c_3 => ?_)
  · skip
    have g_3 := k_ff hpr_2 c_3
    refine lv_iconst (v := (-1)) hx hb dX5_apart_30 (by decide) ?_
    exact W.iret (v := (-1)) hx hb hr (fun t ht hW => ⟨⟨(-1), f, rfl, ⟨ap, hI, (Or.inl ⟨by simp only [Int32.lt_iff_toInt_lt, Int32.le_iff_toInt_le, ← Int32.toInt_inj, Int32.reduceToInt] at g_3 ⊢; omega, rfl, rfl⟩)⟩, by show va_P (dC, dI) vwCl (va_pl L f) t.heap; rw [ht]; exact hP⟩, hS.F ht⟩) hS.2.2 dX5_apart_31
  · skip
    have g_3 := k_ft hpr_2 c_3
    have gc_c1 := g_3
    obtain ⟨c1, hc1, rfl⟩ := k_ix (n := nc) (x := x) g_3 (by omega)
    refine lv_aload_n hx hb dX5_apart_8 rfl (lv_at hl 0 rfl) ?_
    refine lv_iload_n hx hb dX5_apart_9 rfl (lv_at hl 2 rfl) ?_
    obtain ⟨fs4, hF4, -, -⟩ := hI.o hm_h0 hk_h0 rfl (ci := 5) rfl rfl
    refine gc_R (ci := 5) ⟨hx, hb, hml, hown, hts⟩ (k_X5_isCampaign l dC dI K L f hI h0 hm_h0 hk_h0 y hg8 hnc) 1 wm_77 wm_78 wm_79 wm_67 wm_80 (by decide +kernel) ⟨Nat.le_of_ble_eq_true rfl, Nat.le_of_ble_eq_true rfl⟩ hK rfl hm_h0 hF4 rfl hl.1 rfl (Nat.le_of_ble_eq_true rfl) dX5_apart_10 ⟨Nat.le_of_ble_eq_true rfl, Nat.le_of_ble_eq_true rfl⟩ hS hP (fun r_5 H locs hpr_5 hP hS => ?_)
    refine lv_if_eq (tgt := 30) hx hb dX5_apart_13 (by decide) (fun c_6 => ?_) (fun c_6 => ?_)
    · skip
      have g_6 := k_ff hpr_5 c_6
      refine lv_iconst (v := (-1)) hx hb dX5_apart_30 (by decide) ?_
      exact W.iret (v := (-1)) hx hb hr (fun t ht hW => ⟨⟨(-1), f, rfl, ⟨ap, hI, (Or.inl ⟨by simp only [Int32.lt_iff_toInt_lt, Int32.le_iff_toInt_le, ← Int32.toInt_inj, Int32.reduceToInt] at g_3 g_6 ⊢; omega, rfl, rfl⟩)⟩, by show va_P (dC, dI) vwCl (va_pl L f) t.heap; rw [ht]; exact hP⟩, hS.F ht⟩) hS.2.2 dX5_apart_31
    · skip
      have g_6 := k_ft hpr_5 c_6
      have gc_c2 := g_6
      obtain ⟨c2, hc2, rfl⟩ := k_ix (n := nc) (x := y) g_6 (by omega)
      refine lv_iload_n hx hb dX5_apart_16 rfl (lv_at hl 1 rfl) ?_
      refine lv_iload_n hx hb dX5_apart_17 rfl (lv_at hl 2 rfl) ?_
      refine lv_icmp_eq (tgt := 30) hx hb dX5_apart_18 (by decide) (fun c_7 => ?_) (fun c_7 => ?_)
      · skip
        have nc_7 : c1 = c2 := (bn_eq (a := c1) (b := c2) (by omega) (by omega)).mp (show nI c1 = nI c2 from c_7)
        refine lv_iconst (v := (-1)) hx hb dX5_apart_30 (by decide) ?_
        exact W.iret (v := (-1)) hx hb hr (fun t ht hW => ⟨⟨(-1), f, rfl, ⟨ap, hI, (Or.inl ⟨by simp only [Int32.lt_iff_toInt_lt, Int32.le_iff_toInt_le, ← Int32.toInt_inj, Int32.reduceToInt] at g_3 g_6 c_7 ⊢; omega, rfl, rfl⟩)⟩, by show va_P (dC, dI) vwCl (va_pl L f) t.heap; rw [ht]; exact hP⟩, hS.F ht⟩) hS.2.2 dX5_apart_31
      · skip
        have nc_7 : ¬ (c1 = c2) := fun q => c_7 (show nI c1 = nI c2 from (bn_eq (a := c1) (b := c2) (by omega) (by omega)).mpr q)
        refine lv_iload_n hx hb dX5_apart_21 rfl (lv_at hl 3 rfl) ?_
        refine lv_iconst (v := 0) hx hb dX5_apart_22 (by decide) ?_
        refine lv_iconst (v := 1) hx hb dX5_apart_23 (by decide) ?_
        refine k_S ⟨hx, hb, hml, hown, hts⟩ (c_isWithin l z 0 1) 3 wm_65 wm_66 wm_67 wm_68 (by decide +kernel) ⟨Nat.le_of_ble_eq_true rfl, Nat.le_of_ble_eq_true rfl⟩ rfl hl.1 rfl (Nat.le_of_ble_eq_true rfl) dX5_apart_24 ⟨Nat.le_of_ble_eq_true rfl, Nat.le_of_ble_eq_true rfl⟩ hS hP (fun r_8 H locs hpr_8 hP hS => ?_)
        refine lv_if_ne (tgt := 32) hx hb dX5_apart_27 (by decide) (fun c_9 => ?_) (fun c_9 => ?_)
        · skip
          have g_9 := k_ft hpr_8 c_9
          refine lv_aload_n hx hb dX5_apart_32 rfl (lv_at hl 0 rfl) ?_
          obtain ⟨fs10, b_11, hF10, hv10, hm_b_11, hk_b_11⟩ := hI.gR hm_h0 hk_h0 1 (ci := 5) (t := 3) ⟨rfl, rfl, by decide, rfl⟩
          refine g_get (ci := 5) (v := .ref b_11) (C := RX5) (T := TX5) (N := 17) hx hb hts uB5 hown hK hP hm_h0 hF10 rfl 1 (by decide) wm_270 hv10 dX5_apart_33 ?_
          refine lv_iload_n hx hb dX5_apart_36 rfl (lv_at hl 1 rfl) ?_
          obtain ⟨g12, hF12, hgz12⟩ := hI.a3 hm_b_11 hk_b_11
          obtain ⟨b_13, hm_b_13, hk_b_13, hs_b_13, hv12⟩ := hgz12 c1 (by omega)
          refine g_aldR (t := 4) hx hb hK hP hm_b_11 hF12 rfl (vp_in_nI (by omega) (by decide)) (by rw [nI_clamp (by omega)]; exact hv12) dX5_apart_37 ?_
          refine lv_iload_n hx hb dX5_apart_38 rfl (lv_at hl 2 rfl) ?_
          obtain ⟨fs14, hF14, -, -⟩ := hI.o hm_b_13 hk_b_13 rfl (ci := 0) rfl rfl
          refine gc_R (ci := 0) ⟨hx, hb, hml, hown, hts⟩ (k_X0_isApartFrom l dC dI K L f hI b_13 hm_b_13 hk_b_13 (nI c2)) 1 wm_357 wm_358 wm_359 wm_205 wm_360 (by decide +kernel) ⟨Nat.le_of_ble_eq_true rfl, Nat.le_of_ble_eq_true rfl⟩ hK rfl hm_b_13 hF14 rfl hl.1 rfl (Nat.le_of_ble_eq_true rfl) dX5_apart_39 ⟨Nat.le_of_ble_eq_true rfl, Nat.le_of_ble_eq_true rfl⟩ hS hP (fun r_15 H locs hpr_15 hP hS => ?_)
          rw [hs_b_13] at hpr_15
          refine lv_if_eq (tgt := 49) hx hb dX5_apart_42 (by decide) (fun c_16 => ?_) (fun c_16 => ?_)
          · skip
            refine lv_iconst (v := 0) hx hb dX5_apart_49 (by decide) ?_
            refine lv_istore (lv' := [(4, .int 0), (0, .ref h0), (1, .int (nI c1)), (2, .int (nI c2)), (3, .int z)]) hx hb dX5_apart_50 hl (by decide) rfl (fun ls hl => ?_)
            refine lv_aload_n hx hb dX5_apart_52 rfl (lv_at hl 1 rfl) ?_
            obtain ⟨fs17, b_18, hF17, hv17, hm_b_18, hk_b_18⟩ := hI.gR hm_h0 hk_h0 1 (ci := 5) (t := 3) ⟨rfl, rfl, by decide, rfl⟩
            refine g_get (ci := 5) (v := .ref b_18) (C := RX5) (T := TX5) (N := 17) hx hb hts uB5 hown hK hP hm_h0 hF17 rfl 1 (by decide) wm_270 hv17 dX5_apart_53 ?_
            refine lv_iload_n hx hb dX5_apart_56 rfl (lv_at hl 2 rfl) ?_
            obtain ⟨g19, hF19, hgz19⟩ := hI.a3 hm_b_18 hk_b_18
            obtain ⟨b_20, hm_b_20, hk_b_20, hs_b_20, hv19⟩ := hgz19 c1 (by omega)
            refine g_aldR (t := 4) hx hb hK hP hm_b_18 hF19 rfl (vp_in_nI (by omega) (by decide)) (by rw [nI_clamp (by omega)]; exact hv19) dX5_apart_57 ?_
            refine lv_iload_n hx hb dX5_apart_58 rfl (lv_at hl 3 rfl) ?_
            refine lv_iload_n hx hb dX5_apart_59 rfl (lv_at hl 4 rfl) ?_
            refine lv_iconst (v := 1) hx hb dX5_apart_60 (by decide) ?_
            refine lv_icmp_ne (tgt := 68) hx hb dX5_apart_61 (by decide) (fun c_21 => ?_) (fun c_21 => ?_)
            · skip
              refine lv_iconst (v := 0) hx hb dX5_apart_68 (by decide) ?_
              obtain ⟨fs22, hF22, -, -⟩ := hI.o hm_b_20 hk_b_20 rfl (ci := 0) rfl rfl
              refine gc_Mv (ci := 0) ⟨hx, hb, hml, hown, hts⟩ (k_X0_setApart l dC dI K L f hI b_20 hm_b_20 hk_b_20 (nI c2) 0 hLn) 2 wm_361 wm_362 wm_363 wm_205 wm_364 (by decide +kernel) ⟨Nat.le_of_ble_eq_true rfl, Nat.le_of_ble_eq_true rfl⟩ hK rfl hm_b_20 hF22 rfl hl.1 rfl (Nat.le_of_ble_eq_true rfl) dX5_apart_69 ⟨Nat.le_of_ble_eq_true rfl, Nat.le_of_ble_eq_true rfl⟩ (fun a h => by rw [← hAe]; exact h) hS hP (fun fw_23 H locs hpw hP hS => ?_)
              have hI := hpw
              rw [hs_b_20] at hI
              have hD : va_D A (va_pl L fw_23) := g_D hLn (fun a h => by rw [← hAe]; exact h) fw_23
              refine lv_aload_n hx hb dX5_apart_72 rfl (lv_at hl 1 rfl) ?_
              obtain ⟨fs24, b_25, hF24, hv24, hm_b_25, hk_b_25⟩ := hI.gR hm_h0 hk_h0 1 (ci := 5) (t := 3) ⟨rfl, rfl, by decide, rfl⟩
              refine g_get (ci := 5) (v := .ref b_25) (C := RX5) (T := TX5) (N := 17) hx hb hts uB5 hown hK hP hm_h0 hF24 rfl 1 (by decide) wm_270 hv24 dX5_apart_73 ?_
              refine lv_iload_n hx hb dX5_apart_76 rfl (lv_at hl 3 rfl) ?_
              obtain ⟨g26, hF26, hgz26⟩ := hI.a3 hm_b_25 hk_b_25
              obtain ⟨b_27, hm_b_27, hk_b_27, hs_b_27, hv26⟩ := hgz26 c2 (by omega)
              refine g_aldR (t := 4) hx hb hK hP hm_b_25 hF26 rfl (vp_in_nI (by omega) (by decide)) (by rw [nI_clamp (by omega)]; exact hv26) dX5_apart_77 ?_
              refine lv_iload_n hx hb dX5_apart_78 rfl (lv_at hl 2 rfl) ?_
              refine lv_iload_n hx hb dX5_apart_79 rfl (lv_at hl 4 rfl) ?_
              refine lv_iconst (v := 1) hx hb dX5_apart_80 (by decide) ?_
              refine lv_icmp_ne (tgt := 88) hx hb dX5_apart_81 (by decide) (fun c_28 => ?_) (fun c_28 => ?_)
              · skip
                refine lv_iconst (v := 0) hx hb dX5_apart_88 (by decide) ?_
                obtain ⟨fs29, hF29, -, -⟩ := hI.o hm_b_27 hk_b_27 rfl (ci := 0) rfl rfl
                refine gc_Mv (ci := 0) ⟨hx, hb, hml, hown, hts⟩ (k_X0_setApart l dC dI K L fw_23 hI b_27 hm_b_27 hk_b_27 (nI c1) 0 hLn) 2 wm_361 wm_362 wm_363 wm_205 wm_364 (by decide +kernel) ⟨Nat.le_of_ble_eq_true rfl, Nat.le_of_ble_eq_true rfl⟩ hK rfl hm_b_27 hF29 rfl hl.1 rfl (Nat.le_of_ble_eq_true rfl) dX5_apart_89 ⟨Nat.le_of_ble_eq_true rfl, Nat.le_of_ble_eq_true rfl⟩ (fun a h => by rw [← hAe]; exact h) hS hP (fun fw_30 H locs hpw hP hS => ?_)
                have hI := hpw
                rw [hs_b_27] at hI
                have hD : va_D A (va_pl L fw_30) := g_D hLn (fun a h => by rw [← hAe]; exact h) fw_30
                refine lv_iload hx hb dX5_apart_92 (lv_at hl 0 rfl) ?_
                exact W.iret (v := 0) hx hb hr (fun t ht hW => ⟨⟨0, fw_30, rfl, ⟨va_up (va_up ap c1 (setAp (ap c1) (nI c2) 0)) c2 (setAp ((va_up ap c1 (setAp (ap c1) (nI c2) 0)) c2) (nI c1) 0), hI, (Or.inr ⟨by simp only [Int32.lt_iff_toInt_lt, Int32.le_iff_toInt_le, ← Int32.toInt_inj, Int32.reduceToInt] at g_3 g_6 c_7 g_9 ⊢; omega, by rw [nI_clamp (by omega)]; exact (by rw [← hpr_15]; exact c_16.symm), by rw [nI_clamp (by omega), nI_clamp (by omega), ((k_nar01 g_9).resolve_right c_21)]⟩)⟩, by show va_P (dC, dI) vwCl (va_pl L fw_30) t.heap; rw [ht]; exact hP⟩, hS.F ht⟩) hS.2.2 dX5_apart_94
              · skip
                exact absurd c_28 c_21
            · skip
              refine lv_iconst (v := 1) hx hb dX5_apart_64 (by decide) ?_
              refine lv_goto (tgt := 69) hx hb dX5_apart_65 (by decide) ?_
              obtain ⟨fs31, hF31, -, -⟩ := hI.o hm_b_20 hk_b_20 rfl (ci := 0) rfl rfl
              refine gc_Mv (ci := 0) ⟨hx, hb, hml, hown, hts⟩ (k_X0_setApart l dC dI K L f hI b_20 hm_b_20 hk_b_20 (nI c2) 1 hLn) 2 wm_361 wm_362 wm_363 wm_205 wm_364 (by decide +kernel) ⟨Nat.le_of_ble_eq_true rfl, Nat.le_of_ble_eq_true rfl⟩ hK rfl hm_b_20 hF31 rfl hl.1 rfl (Nat.le_of_ble_eq_true rfl) dX5_apart_69 ⟨Nat.le_of_ble_eq_true rfl, Nat.le_of_ble_eq_true rfl⟩ (fun a h => by rw [← hAe]; exact h) hS hP (fun fw_32 H locs hpw hP hS => ?_)
              have hI := hpw
              rw [hs_b_20] at hI
              have hD : va_D A (va_pl L fw_32) := g_D hLn (fun a h => by rw [← hAe]; exact h) fw_32
              refine lv_aload_n hx hb dX5_apart_72 rfl (lv_at hl 1 rfl) ?_
              obtain ⟨fs33, b_34, hF33, hv33, hm_b_34, hk_b_34⟩ := hI.gR hm_h0 hk_h0 1 (ci := 5) (t := 3) ⟨rfl, rfl, by decide, rfl⟩
              refine g_get (ci := 5) (v := .ref b_34) (C := RX5) (T := TX5) (N := 17) hx hb hts uB5 hown hK hP hm_h0 hF33 rfl 1 (by decide) wm_270 hv33 dX5_apart_73 ?_
              refine lv_iload_n hx hb dX5_apart_76 rfl (lv_at hl 3 rfl) ?_
              obtain ⟨g35, hF35, hgz35⟩ := hI.a3 hm_b_34 hk_b_34
              obtain ⟨b_36, hm_b_36, hk_b_36, hs_b_36, hv35⟩ := hgz35 c2 (by omega)
              refine g_aldR (t := 4) hx hb hK hP hm_b_34 hF35 rfl (vp_in_nI (by omega) (by decide)) (by rw [nI_clamp (by omega)]; exact hv35) dX5_apart_77 ?_
              refine lv_iload_n hx hb dX5_apart_78 rfl (lv_at hl 2 rfl) ?_
              refine lv_iload_n hx hb dX5_apart_79 rfl (lv_at hl 4 rfl) ?_
              refine lv_iconst (v := 1) hx hb dX5_apart_80 (by decide) ?_
              refine lv_icmp_ne (tgt := 88) hx hb dX5_apart_81 (by decide) (fun c_37 => ?_) (fun c_37 => ?_)
              · skip
                exact absurd c_21 c_37
              · skip
                refine lv_iconst (v := 1) hx hb dX5_apart_84 (by decide) ?_
                refine lv_goto (tgt := 89) hx hb dX5_apart_85 (by decide) ?_
                obtain ⟨fs38, hF38, -, -⟩ := hI.o hm_b_36 hk_b_36 rfl (ci := 0) rfl rfl
                refine gc_Mv (ci := 0) ⟨hx, hb, hml, hown, hts⟩ (k_X0_setApart l dC dI K L fw_32 hI b_36 hm_b_36 hk_b_36 (nI c1) 1 hLn) 2 wm_361 wm_362 wm_363 wm_205 wm_364 (by decide +kernel) ⟨Nat.le_of_ble_eq_true rfl, Nat.le_of_ble_eq_true rfl⟩ hK rfl hm_b_36 hF38 rfl hl.1 rfl (Nat.le_of_ble_eq_true rfl) dX5_apart_89 ⟨Nat.le_of_ble_eq_true rfl, Nat.le_of_ble_eq_true rfl⟩ (fun a h => by rw [← hAe]; exact h) hS hP (fun fw_39 H locs hpw hP hS => ?_)
                have hI := hpw
                rw [hs_b_36] at hI
                have hD : va_D A (va_pl L fw_39) := g_D hLn (fun a h => by rw [← hAe]; exact h) fw_39
                refine lv_iload hx hb dX5_apart_92 (lv_at hl 0 rfl) ?_
                exact W.iret (v := 0) hx hb hr (fun t ht hW => ⟨⟨0, fw_39, rfl, ⟨va_up (va_up ap c1 (setAp (ap c1) (nI c2) 1)) c2 (setAp ((va_up ap c1 (setAp (ap c1) (nI c2) 1)) c2) (nI c1) 1), hI, (Or.inr ⟨by simp only [Int32.lt_iff_toInt_lt, Int32.le_iff_toInt_le, ← Int32.toInt_inj, Int32.reduceToInt] at g_3 g_6 c_7 g_9 ⊢; omega, by rw [nI_clamp (by omega)]; exact (by rw [← hpr_15]; exact c_16.symm), by rw [nI_clamp (by omega), nI_clamp (by omega), (show z = 1 from c_21)]⟩)⟩, by show va_P (dC, dI) vwCl (va_pl L fw_39) t.heap; rw [ht]; exact hP⟩, hS.F ht⟩) hS.2.2 dX5_apart_94
          · skip
            refine lv_iconst (v := 1) hx hb dX5_apart_45 (by decide) ?_
            refine lv_goto (tgt := 50) hx hb dX5_apart_46 (by decide) ?_
            refine lv_istore (lv' := [(4, .int 1), (0, .ref h0), (1, .int (nI c1)), (2, .int (nI c2)), (3, .int z)]) hx hb dX5_apart_50 hl (by decide) rfl (fun ls hl => ?_)
            refine lv_aload_n hx hb dX5_apart_52 rfl (lv_at hl 1 rfl) ?_
            obtain ⟨fs40, b_41, hF40, hv40, hm_b_41, hk_b_41⟩ := hI.gR hm_h0 hk_h0 1 (ci := 5) (t := 3) ⟨rfl, rfl, by decide, rfl⟩
            refine g_get (ci := 5) (v := .ref b_41) (C := RX5) (T := TX5) (N := 17) hx hb hts uB5 hown hK hP hm_h0 hF40 rfl 1 (by decide) wm_270 hv40 dX5_apart_53 ?_
            refine lv_iload_n hx hb dX5_apart_56 rfl (lv_at hl 2 rfl) ?_
            obtain ⟨g42, hF42, hgz42⟩ := hI.a3 hm_b_41 hk_b_41
            obtain ⟨b_43, hm_b_43, hk_b_43, hs_b_43, hv42⟩ := hgz42 c1 (by omega)
            refine g_aldR (t := 4) hx hb hK hP hm_b_41 hF42 rfl (vp_in_nI (by omega) (by decide)) (by rw [nI_clamp (by omega)]; exact hv42) dX5_apart_57 ?_
            refine lv_iload_n hx hb dX5_apart_58 rfl (lv_at hl 3 rfl) ?_
            refine lv_iload_n hx hb dX5_apart_59 rfl (lv_at hl 4 rfl) ?_
            refine lv_iconst (v := 1) hx hb dX5_apart_60 (by decide) ?_
            refine lv_icmp_ne (tgt := 68) hx hb dX5_apart_61 (by decide) (fun c_44 => ?_) (fun c_44 => ?_)
            · skip
              refine lv_iconst (v := 0) hx hb dX5_apart_68 (by decide) ?_
              obtain ⟨fs45, hF45, -, -⟩ := hI.o hm_b_43 hk_b_43 rfl (ci := 0) rfl rfl
              refine gc_Mv (ci := 0) ⟨hx, hb, hml, hown, hts⟩ (k_X0_setApart l dC dI K L f hI b_43 hm_b_43 hk_b_43 (nI c2) 0 hLn) 2 wm_361 wm_362 wm_363 wm_205 wm_364 (by decide +kernel) ⟨Nat.le_of_ble_eq_true rfl, Nat.le_of_ble_eq_true rfl⟩ hK rfl hm_b_43 hF45 rfl hl.1 rfl (Nat.le_of_ble_eq_true rfl) dX5_apart_69 ⟨Nat.le_of_ble_eq_true rfl, Nat.le_of_ble_eq_true rfl⟩ (fun a h => by rw [← hAe]; exact h) hS hP (fun fw_46 H locs hpw hP hS => ?_)
              have hI := hpw
              rw [hs_b_43] at hI
              have hD : va_D A (va_pl L fw_46) := g_D hLn (fun a h => by rw [← hAe]; exact h) fw_46
              refine lv_aload_n hx hb dX5_apart_72 rfl (lv_at hl 1 rfl) ?_
              obtain ⟨fs47, b_48, hF47, hv47, hm_b_48, hk_b_48⟩ := hI.gR hm_h0 hk_h0 1 (ci := 5) (t := 3) ⟨rfl, rfl, by decide, rfl⟩
              refine g_get (ci := 5) (v := .ref b_48) (C := RX5) (T := TX5) (N := 17) hx hb hts uB5 hown hK hP hm_h0 hF47 rfl 1 (by decide) wm_270 hv47 dX5_apart_73 ?_
              refine lv_iload_n hx hb dX5_apart_76 rfl (lv_at hl 3 rfl) ?_
              obtain ⟨g49, hF49, hgz49⟩ := hI.a3 hm_b_48 hk_b_48
              obtain ⟨b_50, hm_b_50, hk_b_50, hs_b_50, hv49⟩ := hgz49 c2 (by omega)
              refine g_aldR (t := 4) hx hb hK hP hm_b_48 hF49 rfl (vp_in_nI (by omega) (by decide)) (by rw [nI_clamp (by omega)]; exact hv49) dX5_apart_77 ?_
              refine lv_iload_n hx hb dX5_apart_78 rfl (lv_at hl 2 rfl) ?_
              refine lv_iload_n hx hb dX5_apart_79 rfl (lv_at hl 4 rfl) ?_
              refine lv_iconst (v := 1) hx hb dX5_apart_80 (by decide) ?_
              refine lv_icmp_ne (tgt := 88) hx hb dX5_apart_81 (by decide) (fun c_51 => ?_) (fun c_51 => ?_)
              · skip
                refine lv_iconst (v := 0) hx hb dX5_apart_88 (by decide) ?_
                obtain ⟨fs52, hF52, -, -⟩ := hI.o hm_b_50 hk_b_50 rfl (ci := 0) rfl rfl
                refine gc_Mv (ci := 0) ⟨hx, hb, hml, hown, hts⟩ (k_X0_setApart l dC dI K L fw_46 hI b_50 hm_b_50 hk_b_50 (nI c1) 0 hLn) 2 wm_361 wm_362 wm_363 wm_205 wm_364 (by decide +kernel) ⟨Nat.le_of_ble_eq_true rfl, Nat.le_of_ble_eq_true rfl⟩ hK rfl hm_b_50 hF52 rfl hl.1 rfl (Nat.le_of_ble_eq_true rfl) dX5_apart_89 ⟨Nat.le_of_ble_eq_true rfl, Nat.le_of_ble_eq_true rfl⟩ (fun a h => by rw [← hAe]; exact h) hS hP (fun fw_53 H locs hpw hP hS => ?_)
                have hI := hpw
                rw [hs_b_50] at hI
                have hD : va_D A (va_pl L fw_53) := g_D hLn (fun a h => by rw [← hAe]; exact h) fw_53
                refine lv_iload hx hb dX5_apart_92 (lv_at hl 0 rfl) ?_
                exact W.iret (v := 1) hx hb hr (fun t ht hW => ⟨⟨1, fw_53, rfl, ⟨va_up (va_up ap c1 (setAp (ap c1) (nI c2) 0)) c2 (setAp ((va_up ap c1 (setAp (ap c1) (nI c2) 0)) c2) (nI c1) 0), hI, (Or.inr ⟨by simp only [Int32.lt_iff_toInt_lt, Int32.le_iff_toInt_le, ← Int32.toInt_inj, Int32.reduceToInt] at g_3 g_6 c_7 g_9 ⊢; omega, by rw [nI_clamp (by omega)]; exact (by rw [← hpr_15]; exact (apb01 hpr_15 c_16).symm), by rw [nI_clamp (by omega), nI_clamp (by omega), ((k_nar01 g_9).resolve_right c_44)]⟩)⟩, by show va_P (dC, dI) vwCl (va_pl L fw_53) t.heap; rw [ht]; exact hP⟩, hS.F ht⟩) hS.2.2 dX5_apart_94
              · skip
                exact absurd c_51 c_44
            · skip
              refine lv_iconst (v := 1) hx hb dX5_apart_64 (by decide) ?_
              refine lv_goto (tgt := 69) hx hb dX5_apart_65 (by decide) ?_
              obtain ⟨fs54, hF54, -, -⟩ := hI.o hm_b_43 hk_b_43 rfl (ci := 0) rfl rfl
              refine gc_Mv (ci := 0) ⟨hx, hb, hml, hown, hts⟩ (k_X0_setApart l dC dI K L f hI b_43 hm_b_43 hk_b_43 (nI c2) 1 hLn) 2 wm_361 wm_362 wm_363 wm_205 wm_364 (by decide +kernel) ⟨Nat.le_of_ble_eq_true rfl, Nat.le_of_ble_eq_true rfl⟩ hK rfl hm_b_43 hF54 rfl hl.1 rfl (Nat.le_of_ble_eq_true rfl) dX5_apart_69 ⟨Nat.le_of_ble_eq_true rfl, Nat.le_of_ble_eq_true rfl⟩ (fun a h => by rw [← hAe]; exact h) hS hP (fun fw_55 H locs hpw hP hS => ?_)
              have hI := hpw
              rw [hs_b_43] at hI
              have hD : va_D A (va_pl L fw_55) := g_D hLn (fun a h => by rw [← hAe]; exact h) fw_55
              refine lv_aload_n hx hb dX5_apart_72 rfl (lv_at hl 1 rfl) ?_
              obtain ⟨fs56, b_57, hF56, hv56, hm_b_57, hk_b_57⟩ := hI.gR hm_h0 hk_h0 1 (ci := 5) (t := 3) ⟨rfl, rfl, by decide, rfl⟩
              refine g_get (ci := 5) (v := .ref b_57) (C := RX5) (T := TX5) (N := 17) hx hb hts uB5 hown hK hP hm_h0 hF56 rfl 1 (by decide) wm_270 hv56 dX5_apart_73 ?_
              refine lv_iload_n hx hb dX5_apart_76 rfl (lv_at hl 3 rfl) ?_
              obtain ⟨g58, hF58, hgz58⟩ := hI.a3 hm_b_57 hk_b_57
              obtain ⟨b_59, hm_b_59, hk_b_59, hs_b_59, hv58⟩ := hgz58 c2 (by omega)
              refine g_aldR (t := 4) hx hb hK hP hm_b_57 hF58 rfl (vp_in_nI (by omega) (by decide)) (by rw [nI_clamp (by omega)]; exact hv58) dX5_apart_77 ?_
              refine lv_iload_n hx hb dX5_apart_78 rfl (lv_at hl 2 rfl) ?_
              refine lv_iload_n hx hb dX5_apart_79 rfl (lv_at hl 4 rfl) ?_
              refine lv_iconst (v := 1) hx hb dX5_apart_80 (by decide) ?_
              refine lv_icmp_ne (tgt := 88) hx hb dX5_apart_81 (by decide) (fun c_60 => ?_) (fun c_60 => ?_)
              · skip
                exact absurd c_44 c_60
              · skip
                refine lv_iconst (v := 1) hx hb dX5_apart_84 (by decide) ?_
                refine lv_goto (tgt := 89) hx hb dX5_apart_85 (by decide) ?_
                obtain ⟨fs61, hF61, -, -⟩ := hI.o hm_b_59 hk_b_59 rfl (ci := 0) rfl rfl
                refine gc_Mv (ci := 0) ⟨hx, hb, hml, hown, hts⟩ (k_X0_setApart l dC dI K L fw_55 hI b_59 hm_b_59 hk_b_59 (nI c1) 1 hLn) 2 wm_361 wm_362 wm_363 wm_205 wm_364 (by decide +kernel) ⟨Nat.le_of_ble_eq_true rfl, Nat.le_of_ble_eq_true rfl⟩ hK rfl hm_b_59 hF61 rfl hl.1 rfl (Nat.le_of_ble_eq_true rfl) dX5_apart_89 ⟨Nat.le_of_ble_eq_true rfl, Nat.le_of_ble_eq_true rfl⟩ (fun a h => by rw [← hAe]; exact h) hS hP (fun fw_62 H locs hpw hP hS => ?_)
                have hI := hpw
                rw [hs_b_59] at hI
                have hD : va_D A (va_pl L fw_62) := g_D hLn (fun a h => by rw [← hAe]; exact h) fw_62
                refine lv_iload hx hb dX5_apart_92 (lv_at hl 0 rfl) ?_
                exact W.iret (v := 1) hx hb hr (fun t ht hW => ⟨⟨1, fw_62, rfl, ⟨va_up (va_up ap c1 (setAp (ap c1) (nI c2) 1)) c2 (setAp ((va_up ap c1 (setAp (ap c1) (nI c2) 1)) c2) (nI c1) 1), hI, (Or.inr ⟨by simp only [Int32.lt_iff_toInt_lt, Int32.le_iff_toInt_le, ← Int32.toInt_inj, Int32.reduceToInt] at g_3 g_6 c_7 g_9 ⊢; omega, by rw [nI_clamp (by omega)]; exact (by rw [← hpr_15]; exact (apb01 hpr_15 c_16).symm), by rw [nI_clamp (by omega), nI_clamp (by omega), (show z = 1 from c_44)]⟩)⟩, by show va_P (dC, dI) vwCl (va_pl L fw_62) t.heap; rw [ht]; exact hP⟩, hS.F ht⟩) hS.2.2 dX5_apart_94
        · skip
          have g_9 := k_ff hpr_8 c_9
          refine lv_iconst (v := (-1)) hx hb dX5_apart_30 (by decide) ?_
          exact W.iret (v := (-1)) hx hb hr (fun t ht hW => ⟨⟨(-1), f, rfl, ⟨ap, hI, (Or.inl ⟨by simp only [Int32.lt_iff_toInt_lt, Int32.le_iff_toInt_le, ← Int32.toInt_inj, Int32.reduceToInt] at g_3 g_6 c_7 g_9 ⊢; omega, rfl, rfl⟩)⟩, by show va_P (dC, dI) vwCl (va_pl L f) t.heap; rw [ht]; exact hP⟩, hS.F ht⟩) hS.2.2 dX5_apart_31
set_option maxHeartbeats 4000000 in
set_option maxRecDepth 100000 in
theorem k_X5_hindrance (l : Launch) (dC : Nat → ClassId) (dI : Nat → Nat → Nat) (K : Nat → ClassId) (L : List Nat) (f : Nat → va_E) {np nc ns lk lc tp cp gp : Nat} {G J mk st : Nat → Int32} {ap : Nat → Int64} {kd sn : Nat → Nat} {tk : Nat} (hI : cI K np nc ns lk lc tp cp gp G J mk st ap kd sn L f) (h0 : Nat) (hm_h0 : h0 ∈ L) (hk_h0 : kd h0 = 1) (cn : Nat) (rd : Nat) (b : Nat) (hm_b : b ∈ L) (hk_b : kd b = 16) (hcn : cn < nc) (hrd : rd < 100) (hg12 : G 12 = nI tk) (hnc : nc ≤ 40) : gR l yX5_hindrance cX5_hindrance 5 .int 1 (dC, dI) K L f [.ref h0, .int (nI cn), .int (nI rd), .ref b] (fun r => True) := by
  refine Met.ofW (cc := cX5_hindrance) (maxL := 5) (ret := some .int) (by decide) rfl ?_
  intro p e s m args below meth c s₁ B hml hv
  obtain ⟨rfl, hP, hK⟩ := hv
  have hx := B.exec
  have hb := B.bytes
  have hr := B.returns
  have hlocks := B.notSynchronized
  have hts0 := atoms_spec (ws := Cond.code yX5_hindrance cX5_hindrance 5 (some .int) :: lw_B) B.pre
  have hts : ∀ w ∈ lw_B, w.before _ s = true := fun w h => hts0 w (List.mem_cons_of_mem _ h)
  have hown : s.vm.findClass RX5 = some m.cls := findClass_of_methodNamed B.named
  have hS : va_S (fun _ => False) s.heap s.heap [] := va_S.rf
  have hl := lv_entry ([.ref h0, .int (nI cn), .int (nI rd), .ref b]) (n := 5) (Nat.le_of_ble_eq_true rfl)
  rw [lg_entry_eq]
  generalize (lg_sl ([.ref h0, .int (nI cn), .int (nI rd), .ref b]) ++ List.replicate (5 - (lg_sl ([.ref h0, .int (nI cn), .int (nI rd), .ref b])).length) Slot.unset).toArray = ls at hl ⊢
  have hl : lv_has ls 5 [(0, .ref h0), (1, .int (nI cn)), (2, .int (nI rd)), (3, .ref b)] := hl
  refine lv_aload_n hx hb dX5_hindrance_0 rfl (lv_at hl 0 rfl) ?_
  obtain ⟨fs1, b_2, hF1, hv1, hm_b_2, hk_b_2⟩ := hI.gR hm_h0 hk_h0 1 (ci := 5) (t := 3) ⟨rfl, rfl, by decide, rfl⟩
  refine g_get (ci := 5) (v := .ref b_2) (C := RX5) (T := TX5) (N := 17) hx hb hts uB5 hown hK hP hm_h0 hF1 rfl 1 (by decide) wm_270 hv1 dX5_hindrance_1 ?_
  refine lv_iload_n hx hb dX5_hindrance_4 rfl (lv_at hl 1 rfl) ?_
  obtain ⟨g3, hF3, hgz3⟩ := hI.a3 hm_b_2 hk_b_2
  obtain ⟨b_4, hm_b_4, hk_b_4, hs_b_4, hv3⟩ := hgz3 cn (by omega)
  refine g_aldR (t := 4) hx hb hK hP hm_b_2 hF3 rfl (vp_in_nI (by omega) (by decide)) (by rw [nI_clamp (by omega)]; exact hv3) dX5_hindrance_5 ?_
  refine lv_astore (lv' := [(4, .ref b_4), (0, .ref h0), (1, .int (nI cn)), (2, .int (nI rd)), (3, .ref b)]) hx hb dX5_hindrance_6 hl (by decide) rfl (fun ls hl => ?_)
  refine lv_aload hx hb dX5_hindrance_8 (lv_at hl 0 rfl) ?_
  obtain ⟨fs5, hF5, hv5⟩ := hI.gS hm_b_4 hk_b_4 11 (ci := 0) ⟨rfl, rfl, by decide, rfl⟩
  rw [hs_b_4] at hv5
  refine g_get (ci := 0) (v := .int (st cn)) (C := RX0) (T := TX0) (N := 16) hx hb hts uB0 hown hK hP hm_b_4 hF5 rfl 11 (by decide) wm_281 hv5 dX5_hindrance_10 ?_
  refine lv_iconst (v := 1) hx hb dX5_hindrance_13 (by decide) ?_
  refine lv_icmp_ne (tgt := 19) hx hb dX5_hindrance_14 (by decide) (fun c_6 => ?_) (fun c_6 => ?_)
  · skip
    refine lv_aload hx hb dX5_hindrance_19 (lv_at hl 0 rfl) ?_
    refine lv_aload_n hx hb dX5_hindrance_21 rfl (lv_at hl 1 rfl) ?_
    obtain ⟨fs7, b_8, hF7, hv7, hm_b_8, hk_b_8⟩ := hI.gR hm_h0 hk_h0 3 (ci := 5) (t := 5) ⟨rfl, rfl, by decide, rfl⟩
    refine g_get (ci := 5) (v := .ref b_8) (C := RX5) (T := TX5) (N := 17) hx hb hts uB5 hown hK hP hm_h0 hF7 rfl 3 (by decide) wm_268 hv7 dX5_hindrance_22 ?_
    refine lv_iload_n hx hb dX5_hindrance_25 rfl (lv_at hl 3 rfl) ?_
    have hF9 := hI.a5 hm_b_8 hk_b_8
    refine g_iald hx hb hK hP hm_b_8 hF9 (vp_in_nI (by omega) (by decide)) dX5_hindrance_26 ?_
    refine lv_topi (fun x_10 ex_10 => ?_)
    rw [nI_clamp (by omega)] at ex_10
    obtain ⟨fs11, hF11, -, -⟩ := hI.o hm_b_4 hk_b_4 rfl (ci := 0) rfl rfl
    refine gc_R (ci := 0) ⟨hx, hb, hml, hown, hts⟩ (k_X0_wants l dC dI K L f hI b_4 hm_b_4 hk_b_4 x_10) 1 wm_365 wm_366 wm_367 wm_205 wm_368 (by decide +kernel) ⟨Nat.le_of_ble_eq_true rfl, Nat.le_of_ble_eq_true rfl⟩ hK rfl hm_b_4 hF11 rfl hl.1 rfl (Nat.le_of_ble_eq_true rfl) dX5_hindrance_27 ⟨Nat.le_of_ble_eq_true rfl, Nat.le_of_ble_eq_true rfl⟩ hS hP (fun r_12 H locs hpr_12 hP hS => ?_)
    refine lv_if_ne (tgt := 35) hx hb dX5_hindrance_30 (by decide) (fun c_13 => ?_) (fun c_13 => ?_)
    · skip
      refine lv_aload hx hb dX5_hindrance_35 (lv_at hl 0 rfl) ?_
      obtain ⟨fs14, b_15, hF14, hv14, hm_b_15, hk_b_15⟩ := hI.gR hm_b_4 hk_b_4 5 (ci := 0) (t := 19) ⟨rfl, rfl, by decide, rfl⟩
      refine g_get (ci := 0) (v := .ref b_15) (C := RX0) (T := TX0) (N := 16) hx hb hts uB0 hown hK hP hm_b_4 hF14 rfl 5 (by decide) wm_290 hv14 dX5_hindrance_37 ?_
      refine lv_iload_n hx hb dX5_hindrance_40 rfl (lv_at hl 3 rfl) ?_
      refine lv_aload_n hx hb dX5_hindrance_41 rfl (lv_at hl 1 rfl) ?_
      obtain ⟨fs16, hF16, hv16⟩ := hI.gG hm_h0 hk_h0 12 (ci := 5) ⟨rfl, rfl, by decide, rfl⟩
      rw [hg12] at hv16
      refine g_get (ci := 5) (v := .int (nI tk)) (C := RX5) (T := TX5) (N := 17) hx hb hts uB5 hown hK hP hm_h0 hF16 rfl 12 (by decide) wm_265 hv16 dX5_hindrance_42 ?_
      refine lv_aload hx hb dX5_hindrance_45 (lv_at hl 0 rfl) ?_
      obtain ⟨fs17, x_17, hF17, hv17⟩ := hI.gI hm_b_4 hk_b_4 9 (ci := 0) ⟨rfl, rfl, by decide, rfl⟩
      refine g_get (ci := 0) (v := .int x_17) (C := RX0) (T := TX0) (N := 16) hx hb hts uB0 hown hK hP hm_b_4 hF17 rfl 9 (by decide) wm_274 hv17 dX5_hindrance_47 ?_
      refine lv_isub hx hb dX5_hindrance_50 ?_
      refine lv_topi (fun x_18 ex_18 => ?_)
      obtain ⟨fs19, hF19, -, -⟩ := hI.o hm_b_15 hk_b_15 rfl (ci := 4) rfl rfl
      refine gc_R (ci := 4) ⟨hx, hb, hml, hown, hts⟩ (k_X4_showsTo l dC dI K L f hI b_15 hm_b_15 hk_b_15 (nI rd) x_18) 2 wm_369 wm_370 wm_371 wm_215 wm_372 (by decide +kernel) ⟨Nat.le_of_ble_eq_true rfl, Nat.le_of_ble_eq_true rfl⟩ hK rfl hm_b_15 hF19 rfl hl.1 rfl (Nat.le_of_ble_eq_true rfl) dX5_hindrance_51 ⟨Nat.le_of_ble_eq_true rfl, Nat.le_of_ble_eq_true rfl⟩ hS hP (fun r_20 H locs hpr_20 hP hS => ?_)
      refine lv_aload hx hb dX5_hindrance_54 (lv_at hl 0 rfl) ?_
      obtain ⟨fs21, x_21, hF21, hv21⟩ := hI.gI hm_b_4 hk_b_4 8 (ci := 0) ⟨rfl, rfl, by decide, rfl⟩
      refine g_get (ci := 0) (v := .int x_21) (C := RX0) (T := TX0) (N := 16) hx hb hts uB0 hown hK hP hm_b_4 hF21 rfl 8 (by decide) wm_273 hv21 dX5_hindrance_56 ?_
      refine lv_icmp_lt (tgt := 64) hx hb dX5_hindrance_59 (by decide) (fun c_22 => ?_) (fun c_22 => ?_)
      · skip
        refine lv_aload hx hb dX5_hindrance_64 (lv_at hl 0 rfl) ?_
        obtain ⟨fs23, x_23, hF23, hv23⟩ := hI.gI hm_b_4 hk_b_4 0 (ci := 0) ⟨rfl, rfl, by decide, rfl⟩
        refine g_get (ci := 0) (v := .int x_23) (C := RX0) (T := TX0) (N := 16) hx hb hts uB0 hown hK hP hm_b_4 hF23 rfl 0 (by decide) wm_275 hv23 dX5_hindrance_66 ?_
        refine lv_if_ne (tgt := 95) hx hb dX5_hindrance_69 (by decide) (fun c_24 => ?_) (fun c_24 => ?_)
        · skip
          refine lv_aload_n hx hb dX5_hindrance_95 rfl (lv_at hl 1 rfl) ?_
          refine lv_iload_n hx hb dX5_hindrance_96 rfl (lv_at hl 2 rfl) ?_
          refine lv_iload_n hx hb dX5_hindrance_97 rfl (lv_at hl 3 rfl) ?_
          obtain ⟨fs25, hF25, -, -⟩ := hI.o hm_h0 hk_h0 rfl (ci := 5) rfl rfl
          refine gc_R (ci := 5) ⟨hx, hb, hml, hown, hts⟩ (k_X5_drawn l dC dI K L f hI h0 hm_h0 hk_h0 (nI cn) (nI rd) hg12) 2 wm_285 wm_286 wm_287 wm_67 wm_288 (by decide +kernel) ⟨Nat.le_of_ble_eq_true rfl, Nat.le_of_ble_eq_true rfl⟩ hK rfl hm_h0 hF25 rfl hl.1 rfl (Nat.le_of_ble_eq_true rfl) dX5_hindrance_98 ⟨Nat.le_of_ble_eq_true rfl, Nat.le_of_ble_eq_true rfl⟩ hS hP (fun r_26 H locs hpr_26 hP hS => ?_)
          refine lv_aload hx hb dX5_hindrance_101 (lv_at hl 0 rfl) ?_
          obtain ⟨fs27, x_27, hF27, hv27⟩ := hI.gI hm_b_4 hk_b_4 10 (ci := 0) ⟨rfl, rfl, by decide, rfl⟩
          refine g_get (ci := 0) (v := .int x_27) (C := RX0) (T := TX0) (N := 16) hx hb hts uB0 hown hK hP hm_b_4 hF27 rfl 10 (by decide) wm_373 hv27 dX5_hindrance_103 ?_
          refine lv_icmp_lt (tgt := 111) hx hb dX5_hindrance_106 (by decide) (fun c_28 => ?_) (fun c_28 => ?_)
          · skip
            refine lv_aload hx hb dX5_hindrance_111 (lv_at hl 0 rfl) ?_
            obtain ⟨fs29, hF29, hv29⟩ := hI.gA hm_b_4 hk_b_4 12 (ci := 0) ⟨rfl, rfl, by decide, rfl⟩
            rw [hs_b_4] at hv29
            refine g_get (ci := 0) (v := .long (ap cn)) (C := RX0) (T := TX0) (N := 16) hx hb hts uB0 hown hK hP hm_b_4 hF29 rfl 12 (by decide) wm_374 hv29 dX5_hindrance_113 ?_
            refine lv_aload_n hx hb dX5_hindrance_116 rfl (lv_at hl 4 rfl) ?_
            obtain ⟨fs30, x_30, hF30, hv30⟩ := hI.gL hm_b hk_b 3 (ci := 2) ⟨rfl, rfl, by decide, rfl⟩
            refine g_get (ci := 2) (v := .long x_30) (C := RX2) (T := TX2) (N := 4) hx hb hts uB2 hown hK hP hm_b hF30 rfl 3 (by decide) wm_320 hv30 dX5_hindrance_117 ?_
            refine lv_land hx hb dX5_hindrance_120 ?_
            refine lv_topl (fun x_31 ex_31 => ?_)
            refine lv_lconst (v := 0) hx hb dX5_hindrance_121 rfl ?_
            refine W.lcmp hx hb dX5_hindrance_122 ?_
            refine lv_topi (fun x_32 ex_32 => ?_)
            refine lv_if_eq (tgt := 129) hx hb dX5_hindrance_123 (by decide) (fun c_33 => ?_) (fun c_33 => ?_)
            · skip
              refine lv_aload_n hx hb dX5_hindrance_129 rfl (lv_at hl 4 rfl) ?_
              obtain ⟨fs34, x_34, hF34, hv34⟩ := hI.gL hm_b hk_b 3 (ci := 2) ⟨rfl, rfl, by decide, rfl⟩
              refine g_get (ci := 2) (v := .long x_34) (C := RX2) (T := TX2) (N := 4) hx hb hts uB2 hown hK hP hm_b hF34 rfl 3 (by decide) wm_320 hv34 dX5_hindrance_130 ?_
              refine lv_iload_n hx hb dX5_hindrance_133 rfl (lv_at hl 2 rfl) ?_
              refine lv_lushr hx hb dX5_hindrance_134 rfl ?_
              refine lv_topl (fun x_35 ex_35 => ?_)
              refine lv_lconst (v := 1) hx hb dX5_hindrance_135 rfl ?_
              refine lv_land hx hb dX5_hindrance_136 ?_
              refine lv_topl (fun x_36 ex_36 => ?_)
              refine lv_lconst (v := 1) hx hb dX5_hindrance_137 rfl ?_
              refine W.lcmp hx hb dX5_hindrance_138 ?_
              refine lv_topi (fun x_37 ex_37 => ?_)
              refine lv_if_ne (tgt := 145) hx hb dX5_hindrance_139 (by decide) (fun c_38 => ?_) (fun c_38 => ?_)
              · skip
                refine lv_iconst (v := 0) hx hb dX5_hindrance_145 (by decide) ?_
                exact W.iret (v := 0) hx hb hr (fun t ht hW => ⟨⟨0, (), rfl, trivial, trivial⟩, hS.F ht⟩) hS.2.2 dX5_hindrance_146
              · skip
                refine lv_bipush (v := 7) hx hb dX5_hindrance_142 (by decide) ?_
                exact W.iret (v := 7) hx hb hr (fun t ht hW => ⟨⟨7, (), rfl, trivial, trivial⟩, hS.F ht⟩) hS.2.2 dX5_hindrance_144
            · skip
              refine lv_bipush (v := 6) hx hb dX5_hindrance_126 (by decide) ?_
              exact W.iret (v := 6) hx hb hr (fun t ht hW => ⟨⟨6, (), rfl, trivial, trivial⟩, hS.F ht⟩) hS.2.2 dX5_hindrance_128
          · skip
            refine lv_iconst (v := 5) hx hb dX5_hindrance_109 (by decide) ?_
            exact W.iret (v := 5) hx hb hr (fun t ht hW => ⟨⟨5, (), rfl, trivial, trivial⟩, hS.F ht⟩) hS.2.2 dX5_hindrance_110
        · skip
          refine lv_aload hx hb dX5_hindrance_72 (lv_at hl 0 rfl) ?_
          obtain ⟨fs39, hF39, -, -⟩ := hI.o hm_b_4 hk_b_4 rfl (ci := 0) rfl rfl
          refine gc_R (ci := 0) ⟨hx, hb, hml, hown, hts⟩ (k_X0_leftToday l dC dI K L f hI b_4 hm_b_4 hk_b_4) 0 wm_375 wm_376 wm_377 wm_205 wm_378 (by decide +kernel) ⟨Nat.le_of_ble_eq_true rfl, Nat.le_of_ble_eq_true rfl⟩ hK rfl hm_b_4 hF39 rfl hl.1 rfl (Nat.le_of_ble_eq_true rfl) dX5_hindrance_74 ⟨Nat.le_of_ble_eq_true rfl, Nat.le_of_ble_eq_true rfl⟩ hS hP (fun r_40 H locs hpr_40 hP hS => ?_)
          refine lv_aload hx hb dX5_hindrance_77 (lv_at hl 0 rfl) ?_
          obtain ⟨fs41, hF41, -, -⟩ := hI.o hm_b_4 hk_b_4 rfl (ci := 0) rfl rfl
          refine gc_R (ci := 0) ⟨hx, hb, hml, hown, hts⟩ (k_X0_leftInAll l dC dI K L f hI b_4 hm_b_4 hk_b_4) 0 wm_379 wm_380 wm_381 wm_205 wm_382 (by decide +kernel) ⟨Nat.le_of_ble_eq_true rfl, Nat.le_of_ble_eq_true rfl⟩ hK rfl hm_b_4 hF41 rfl hl.1 rfl (Nat.le_of_ble_eq_true rfl) dX5_hindrance_79 ⟨Nat.le_of_ble_eq_true rfl, Nat.le_of_ble_eq_true rfl⟩ hS hP (fun r_42 H locs hpr_42 hP hS => ?_)
          refine va_mmin hx hb (by rw [hml]; exact hl.1.symm) hown (hts _ wm_323) (hts _ wm_220) (hts _ wm_221) (hts _ wm_222) (Nat.le_of_ble_eq_true rfl) (Nat.le_of_ble_eq_true rfl) (Nat.le_of_ble_eq_true rfl) (Nat.le_of_ble_eq_true rfl) dX5_hindrance_82 ?_
          refine lv_topi (fun x_43 ex_43 => ?_)
          refine lv_aload hx hb dX5_hindrance_85 (lv_at hl 0 rfl) ?_
          obtain ⟨fs44, x_44, hF44, hv44⟩ := hI.gI hm_b_4 hk_b_4 4 (ci := 0) ⟨rfl, rfl, by decide, rfl⟩
          refine g_get (ci := 0) (v := .int x_44) (C := RX0) (T := TX0) (N := 16) hx hb hts uB0 hown hK hP hm_b_4 hF44 rfl 4 (by decide) wm_383 hv44 dX5_hindrance_87 ?_
          refine lv_icmp_ge (tgt := 95) hx hb dX5_hindrance_90 (by decide) (fun c_45 => ?_) (fun c_45 => ?_)
          · skip
            refine lv_aload_n hx hb dX5_hindrance_95 rfl (lv_at hl 1 rfl) ?_
            refine lv_iload_n hx hb dX5_hindrance_96 rfl (lv_at hl 2 rfl) ?_
            refine lv_iload_n hx hb dX5_hindrance_97 rfl (lv_at hl 3 rfl) ?_
            obtain ⟨fs46, hF46, -, -⟩ := hI.o hm_h0 hk_h0 rfl (ci := 5) rfl rfl
            refine gc_R (ci := 5) ⟨hx, hb, hml, hown, hts⟩ (k_X5_drawn l dC dI K L f hI h0 hm_h0 hk_h0 (nI cn) (nI rd) hg12) 2 wm_285 wm_286 wm_287 wm_67 wm_288 (by decide +kernel) ⟨Nat.le_of_ble_eq_true rfl, Nat.le_of_ble_eq_true rfl⟩ hK rfl hm_h0 hF46 rfl hl.1 rfl (Nat.le_of_ble_eq_true rfl) dX5_hindrance_98 ⟨Nat.le_of_ble_eq_true rfl, Nat.le_of_ble_eq_true rfl⟩ hS hP (fun r_47 H locs hpr_47 hP hS => ?_)
            refine lv_aload hx hb dX5_hindrance_101 (lv_at hl 0 rfl) ?_
            obtain ⟨fs48, x_48, hF48, hv48⟩ := hI.gI hm_b_4 hk_b_4 10 (ci := 0) ⟨rfl, rfl, by decide, rfl⟩
            refine g_get (ci := 0) (v := .int x_48) (C := RX0) (T := TX0) (N := 16) hx hb hts uB0 hown hK hP hm_b_4 hF48 rfl 10 (by decide) wm_373 hv48 dX5_hindrance_103 ?_
            refine lv_icmp_lt (tgt := 111) hx hb dX5_hindrance_106 (by decide) (fun c_49 => ?_) (fun c_49 => ?_)
            · skip
              refine lv_aload hx hb dX5_hindrance_111 (lv_at hl 0 rfl) ?_
              obtain ⟨fs50, hF50, hv50⟩ := hI.gA hm_b_4 hk_b_4 12 (ci := 0) ⟨rfl, rfl, by decide, rfl⟩
              rw [hs_b_4] at hv50
              refine g_get (ci := 0) (v := .long (ap cn)) (C := RX0) (T := TX0) (N := 16) hx hb hts uB0 hown hK hP hm_b_4 hF50 rfl 12 (by decide) wm_374 hv50 dX5_hindrance_113 ?_
              refine lv_aload_n hx hb dX5_hindrance_116 rfl (lv_at hl 4 rfl) ?_
              obtain ⟨fs51, x_51, hF51, hv51⟩ := hI.gL hm_b hk_b 3 (ci := 2) ⟨rfl, rfl, by decide, rfl⟩
              refine g_get (ci := 2) (v := .long x_51) (C := RX2) (T := TX2) (N := 4) hx hb hts uB2 hown hK hP hm_b hF51 rfl 3 (by decide) wm_320 hv51 dX5_hindrance_117 ?_
              refine lv_land hx hb dX5_hindrance_120 ?_
              refine lv_topl (fun x_52 ex_52 => ?_)
              refine lv_lconst (v := 0) hx hb dX5_hindrance_121 rfl ?_
              refine W.lcmp hx hb dX5_hindrance_122 ?_
              refine lv_topi (fun x_53 ex_53 => ?_)
              refine lv_if_eq (tgt := 129) hx hb dX5_hindrance_123 (by decide) (fun c_54 => ?_) (fun c_54 => ?_)
              · skip
                refine lv_aload_n hx hb dX5_hindrance_129 rfl (lv_at hl 4 rfl) ?_
                obtain ⟨fs55, x_55, hF55, hv55⟩ := hI.gL hm_b hk_b 3 (ci := 2) ⟨rfl, rfl, by decide, rfl⟩
                refine g_get (ci := 2) (v := .long x_55) (C := RX2) (T := TX2) (N := 4) hx hb hts uB2 hown hK hP hm_b hF55 rfl 3 (by decide) wm_320 hv55 dX5_hindrance_130 ?_
                refine lv_iload_n hx hb dX5_hindrance_133 rfl (lv_at hl 2 rfl) ?_
                refine lv_lushr hx hb dX5_hindrance_134 rfl ?_
                refine lv_topl (fun x_56 ex_56 => ?_)
                refine lv_lconst (v := 1) hx hb dX5_hindrance_135 rfl ?_
                refine lv_land hx hb dX5_hindrance_136 ?_
                refine lv_topl (fun x_57 ex_57 => ?_)
                refine lv_lconst (v := 1) hx hb dX5_hindrance_137 rfl ?_
                refine W.lcmp hx hb dX5_hindrance_138 ?_
                refine lv_topi (fun x_58 ex_58 => ?_)
                refine lv_if_ne (tgt := 145) hx hb dX5_hindrance_139 (by decide) (fun c_59 => ?_) (fun c_59 => ?_)
                · skip
                  refine lv_iconst (v := 0) hx hb dX5_hindrance_145 (by decide) ?_
                  exact W.iret (v := 0) hx hb hr (fun t ht hW => ⟨⟨0, (), rfl, trivial, trivial⟩, hS.F ht⟩) hS.2.2 dX5_hindrance_146
                · skip
                  refine lv_bipush (v := 7) hx hb dX5_hindrance_142 (by decide) ?_
                  exact W.iret (v := 7) hx hb hr (fun t ht hW => ⟨⟨7, (), rfl, trivial, trivial⟩, hS.F ht⟩) hS.2.2 dX5_hindrance_144
              · skip
                refine lv_bipush (v := 6) hx hb dX5_hindrance_126 (by decide) ?_
                exact W.iret (v := 6) hx hb hr (fun t ht hW => ⟨⟨6, (), rfl, trivial, trivial⟩, hS.F ht⟩) hS.2.2 dX5_hindrance_128
            · skip
              refine lv_iconst (v := 5) hx hb dX5_hindrance_109 (by decide) ?_
              exact W.iret (v := 5) hx hb hr (fun t ht hW => ⟨⟨5, (), rfl, trivial, trivial⟩, hS.F ht⟩) hS.2.2 dX5_hindrance_110
          · skip
            refine lv_iconst (v := 4) hx hb dX5_hindrance_93 (by decide) ?_
            exact W.iret (v := 4) hx hb hr (fun t ht hW => ⟨⟨4, (), rfl, trivial, trivial⟩, hS.F ht⟩) hS.2.2 dX5_hindrance_94
      · skip
        refine lv_iconst (v := 3) hx hb dX5_hindrance_62 (by decide) ?_
        exact W.iret (v := 3) hx hb hr (fun t ht hW => ⟨⟨3, (), rfl, trivial, trivial⟩, hS.F ht⟩) hS.2.2 dX5_hindrance_63
    · skip
      refine lv_iconst (v := 2) hx hb dX5_hindrance_33 (by decide) ?_
      exact W.iret (v := 2) hx hb hr (fun t ht hW => ⟨⟨2, (), rfl, trivial, trivial⟩, hS.F ht⟩) hS.2.2 dX5_hindrance_34
  · skip
    refine lv_iconst (v := 1) hx hb dX5_hindrance_17 (by decide) ?_
    exact W.iret (v := 1) hx hb hr (fun t ht hW => ⟨⟨1, (), rfl, trivial, trivial⟩, hS.F ht⟩) hS.2.2 dX5_hindrance_18
set_option maxHeartbeats 4000000 in
set_option maxRecDepth 100000 in
theorem k_X5_why (l : Launch) (dC : Nat → ClassId) (dI : Nat → Nat → Nat) (K : Nat → ClassId) (L : List Nat) (f : Nat → va_E) {np nc ns lk lc tp cp gp : Nat} {G J mk st : Nat → Int32} {ap : Nat → Int64} {kd sn : Nat → Nat} {tk : Nat} (hI : cI K np nc ns lk lc tp cp gp G J mk st ap kd sn L f) (h0 : Nat) (hm_h0 : h0 ∈ L) (hk_h0 : kd h0 = 1) (x : Int32) (y : Int32) (z : Int32) (hg7 : G 7 = nI np) (hg8 : G 8 = nI nc) (hg12 : G 12 = nI tk) (hnp : np ≤ 8) (hnc : nc ≤ 40) : gR l yX5_why cX5_why 4 .int 2 (dC, dI) K L f [.ref h0, .int x, .int y, .int z] (fun r => True) := by
  refine Met.ofW (cc := cX5_why) (maxL := 4) (ret := some .int) (by decide) rfl ?_
  intro p e s m args below meth c s₁ B hml hv
  obtain ⟨rfl, hP, hK⟩ := hv
  have hx := B.exec
  have hb := B.bytes
  have hr := B.returns
  have hlocks := B.notSynchronized
  have hts0 := atoms_spec (ws := Cond.code yX5_why cX5_why 4 (some .int) :: lw_B) B.pre
  have hts : ∀ w ∈ lw_B, w.before _ s = true := fun w h => hts0 w (List.mem_cons_of_mem _ h)
  have hown : s.vm.findClass RX5 = some m.cls := findClass_of_methodNamed B.named
  have hS : va_S (fun _ => False) s.heap s.heap [] := va_S.rf
  have hl := lv_entry ([.ref h0, .int x, .int y, .int z]) (n := 4) (Nat.le_of_ble_eq_true rfl)
  rw [lg_entry_eq]
  generalize (lg_sl ([.ref h0, .int x, .int y, .int z]) ++ List.replicate (4 - (lg_sl ([.ref h0, .int x, .int y, .int z])).length) Slot.unset).toArray = ls at hl ⊢
  have hl : lv_has ls 4 [(0, .ref h0), (1, .int x), (2, .int y), (3, .int z)] := hl
  refine lv_aload_n hx hb dX5_why_0 rfl (lv_at hl 0 rfl) ?_
  refine lv_iload_n hx hb dX5_why_1 rfl (lv_at hl 1 rfl) ?_
  obtain ⟨fs1, hF1, -, -⟩ := hI.o hm_h0 hk_h0 rfl (ci := 5) rfl rfl
  refine gc_R (ci := 5) ⟨hx, hb, hml, hown, hts⟩ (k_X5_isCampaign l dC dI K L f hI h0 hm_h0 hk_h0 x hg8 hnc) 1 wm_77 wm_78 wm_79 wm_67 wm_80 (by decide +kernel) ⟨Nat.le_of_ble_eq_true rfl, Nat.le_of_ble_eq_true rfl⟩ hK rfl hm_h0 hF1 rfl hl.1 rfl (Nat.le_of_ble_eq_true rfl) dX5_why_2 ⟨Nat.le_of_ble_eq_true rfl, Nat.le_of_ble_eq_true rfl⟩ hS hP (fun r_2 H locs hpr_2 hP hS => ?_)
  refine lv_if_eq (tgt := 23) hx hb dX5_why_5 (by decide) (fun c_3 => ?_) (fun c_3 => ?_)
  · skip
    have g_3 := k_ff hpr_2 c_3
    refine lv_iconst (v := (-1)) hx hb dX5_why_23 (by decide) ?_
    exact W.iret (v := (-1)) hx hb hr (fun t ht hW => ⟨⟨(-1), (), rfl, trivial, trivial⟩, hS.F ht⟩) hS.2.2 dX5_why_24
  · skip
    have g_3 := k_ft hpr_2 c_3
    have gc_cn := g_3
    obtain ⟨cn, hcn, rfl⟩ := k_ix (n := nc) (x := x) g_3 (by omega)
    refine lv_iload_n hx hb dX5_why_8 rfl (lv_at hl 2 rfl) ?_
    refine k_S ⟨hx, hb, hml, hown, hts⟩ (c_isReader l y) 1 wm_85 wm_86 wm_67 wm_87 (by decide +kernel) ⟨Nat.le_of_ble_eq_true rfl, Nat.le_of_ble_eq_true rfl⟩ rfl hl.1 rfl (Nat.le_of_ble_eq_true rfl) dX5_why_9 ⟨Nat.le_of_ble_eq_true rfl, Nat.le_of_ble_eq_true rfl⟩ hS hP (fun r_4 H locs hpr_4 hP hS => ?_)
    refine lv_if_eq (tgt := 23) hx hb dX5_why_12 (by decide) (fun c_5 => ?_) (fun c_5 => ?_)
    · skip
      have g_5 := k_ff hpr_4 c_5
      refine lv_iconst (v := (-1)) hx hb dX5_why_23 (by decide) ?_
      exact W.iret (v := (-1)) hx hb hr (fun t ht hW => ⟨⟨(-1), (), rfl, trivial, trivial⟩, hS.F ht⟩) hS.2.2 dX5_why_24
    · skip
      have g_5 := k_ft hpr_4 c_5
      have gc_rd := g_5
      obtain ⟨rd, hrd, rfl⟩ := k_ix (n := 100) (x := y) g_5 (by omega)
      refine lv_aload_n hx hb dX5_why_15 rfl (lv_at hl 0 rfl) ?_
      refine lv_iload_n hx hb dX5_why_16 rfl (lv_at hl 3 rfl) ?_
      obtain ⟨fs6, hF6, -, -⟩ := hI.o hm_h0 hk_h0 rfl (ci := 5) rfl rfl
      refine gc_R (ci := 5) ⟨hx, hb, hml, hown, hts⟩ (k_X5_isPage l dC dI K L f hI h0 hm_h0 hk_h0 z hg7 hnp) 1 wm_88 wm_89 wm_90 wm_67 wm_91 (by decide +kernel) ⟨Nat.le_of_ble_eq_true rfl, Nat.le_of_ble_eq_true rfl⟩ hK rfl hm_h0 hF6 rfl hl.1 rfl (Nat.le_of_ble_eq_true rfl) dX5_why_17 ⟨Nat.le_of_ble_eq_true rfl, Nat.le_of_ble_eq_true rfl⟩ hS hP (fun r_7 H locs hpr_7 hP hS => ?_)
      refine lv_if_ne (tgt := 25) hx hb dX5_why_20 (by decide) (fun c_8 => ?_) (fun c_8 => ?_)
      · skip
        have g_8 := k_ft hpr_7 c_8
        have gc_pg := g_8
        obtain ⟨pg, hpg, rfl⟩ := k_ix (n := np) (x := z) g_8 (by omega)
        refine lv_aload_n hx hb dX5_why_25 rfl (lv_at hl 0 rfl) ?_
        refine lv_iload_n hx hb dX5_why_26 rfl (lv_at hl 1 rfl) ?_
        refine lv_iload_n hx hb dX5_why_27 rfl (lv_at hl 2 rfl) ?_
        refine lv_aload_n hx hb dX5_why_28 rfl (lv_at hl 0 rfl) ?_
        obtain ⟨fs9, b_10, hF9, hv9, hm_b_10, hk_b_10⟩ := hI.gR hm_h0 hk_h0 0 (ci := 5) (t := 2) ⟨rfl, rfl, by decide, rfl⟩
        refine g_get (ci := 5) (v := .ref b_10) (C := RX5) (T := TX5) (N := 17) hx hb hts uB5 hown hK hP hm_h0 hF9 rfl 0 (by decide) wm_292 hv9 dX5_why_29 ?_
        refine lv_iload_n hx hb dX5_why_32 rfl (lv_at hl 3 rfl) ?_
        obtain ⟨g11, hF11, hgz11⟩ := hI.a2 hm_b_10 hk_b_10
        obtain ⟨b_12, hm_b_12, hk_b_12, hv11⟩ := hgz11 pg (by omega)
        refine g_aldR (t := 3) hx hb hK hP hm_b_10 hF11 rfl (vp_in_nI (by omega) (by decide)) (by rw [nI_clamp (by omega)]; exact hv11) dX5_why_33 ?_
        obtain ⟨fs13, hF13, -, -⟩ := hI.o hm_h0 hk_h0 rfl (ci := 5) rfl rfl
        refine gc_R (ci := 5) ⟨hx, hb, hml, hown, hts⟩ (k_X5_hindrance l dC dI K L f hI h0 hm_h0 hk_h0 cn rd b_12 hm_b_12 hk_b_12 hcn hrd hg12 hnc) 3 wm_384 wm_385 wm_386 wm_67 wm_387 (by decide +kernel) ⟨Nat.le_of_ble_eq_true rfl, Nat.le_of_ble_eq_true rfl⟩ hK rfl hm_h0 hF13 rfl hl.1 rfl (Nat.le_of_ble_eq_true rfl) dX5_why_34 ⟨Nat.le_of_ble_eq_true rfl, Nat.le_of_ble_eq_true rfl⟩ hS hP (fun r_14 H locs hpr_14 hP hS => ?_)
        exact W.iret (v := r_14) hx hb hr (fun t ht hW => ⟨⟨r_14, (), rfl, trivial, trivial⟩, hS.F ht⟩) hS.2.2 dX5_why_37
      · skip
        have g_8 := k_ff hpr_7 c_8
        refine lv_iconst (v := (-1)) hx hb dX5_why_23 (by decide) ?_
        exact W.iret (v := (-1)) hx hb hr (fun t ht hW => ⟨⟨(-1), (), rfl, trivial, trivial⟩, hS.F ht⟩) hS.2.2 dX5_why_24
set_option maxHeartbeats 4000000 in
set_option maxRecDepth 100000 in
theorem k_X5_offer (l : Launch) (dC : Nat → ClassId) (dI : Nat → Nat → Nat) (K : Nat → ClassId) (L : List Nat) (f : Nat → va_E) {np nc ns lk lc tp cp gp : Nat} {G J mk st : Nat → Int32} {ap : Nat → Int64} {kd sn : Nat → Nat} {pk : Nat} {of : Nat} (hI : cI K np nc ns lk lc tp cp gp G J mk st ap kd sn L f) (h0 : Nat) (hm_h0 : h0 ∈ L) (hk_h0 : kd h0 = 1) (cn : Nat) (b : Nat) (hm_b : b ∈ L) (hk_b : kd b = 16) (hcn : cn < nc) (hj6 : J 6 = nI of) (hj5 : J 5 = nI pk) (hof : of < 40) (hnc : nc ≤ 40) (hLn : gN L) : gMv l yX5_offer cX5_offer 6 2 (dC, dI) K L f [.ref h0, .int (nI cn), .ref b] (fun f' => ∃ (J2 : Nat → Int32), cI K np nc ns lk lc tp cp gp G J2 mk st ap kd sn L f' ∧ (J2 5 = nI pk) ∧ (J2 6 = nI (of + 1))) := by
  refine Met.ofW (cc := cX5_offer) (maxL := 6) (ret := none) (by decide) rfl ?_
  intro p e s m args below meth c s₁ B hml hv
  obtain ⟨rfl, hP, hK⟩ := hv
  have hD : va_D (fun q : Nat => q ∈ L) (va_pl L f) := g_D hLn (fun a h => h) f
  generalize hAe : (fun q : Nat => q ∈ L) = A at hD ⊢
  have hx := B.exec
  have hb := B.bytes
  have hr := B.returns
  have hlocks := B.notSynchronized
  have hts0 := atoms_spec (ws := Cond.code yX5_offer cX5_offer 6 none :: lw_B) B.pre
  have hts : ∀ w ∈ lw_B, w.before _ s = true := fun w h => hts0 w (List.mem_cons_of_mem _ h)
  have hown : s.vm.findClass RX5 = some m.cls := findClass_of_methodNamed B.named
  have hS : va_S A s.heap s.heap [] := va_S.rf
  have hl := lv_entry ([.ref h0, .int (nI cn), .ref b]) (n := 6) (Nat.le_of_ble_eq_true rfl)
  rw [lg_entry_eq]
  generalize (lg_sl ([.ref h0, .int (nI cn), .ref b]) ++ List.replicate (6 - (lg_sl ([.ref h0, .int (nI cn), .ref b])).length) Slot.unset).toArray = ls at hl ⊢
  have hl : lv_has ls 6 [(0, .ref h0), (1, .int (nI cn)), (2, .ref b)] := hl
  refine lv_aload_n hx hb dX5_offer_0 rfl (lv_at hl 0 rfl) ?_
  obtain ⟨fs1, b_2, hF1, hv1, hm_b_2, hk_b_2⟩ := hI.gR hm_h0 hk_h0 1 (ci := 5) (t := 3) ⟨rfl, rfl, by decide, rfl⟩
  refine g_get (ci := 5) (v := .ref b_2) (C := RX5) (T := TX5) (N := 17) hx hb hts uB5 hown hK hP hm_h0 hF1 rfl 1 (by decide) wm_270 hv1 dX5_offer_1 ?_
  refine lv_iload_n hx hb dX5_offer_4 rfl (lv_at hl 1 rfl) ?_
  obtain ⟨g3, hF3, hgz3⟩ := hI.a3 hm_b_2 hk_b_2
  obtain ⟨b_4, hm_b_4, hk_b_4, hs_b_4, hv3⟩ := hgz3 cn (by omega)
  refine g_aldR (t := 4) hx hb hK hP hm_b_2 hF3 rfl (vp_in_nI (by omega) (by decide)) (by rw [nI_clamp (by omega)]; exact hv3) dX5_offer_5 ?_
  refine lv_astore_n (lv' := [(3, .ref b_4), (0, .ref h0), (1, .int (nI cn)), (2, .ref b)]) hx hb dX5_offer_6 rfl hl (by decide) rfl (fun ls hl => ?_)
  refine lv_aload_n hx hb dX5_offer_7 rfl (lv_at hl 0 rfl) ?_
  refine lv_aload_n hx hb dX5_offer_8 rfl (lv_at hl 1 rfl) ?_
  obtain ⟨fs5, hF5, hv5⟩ := hI.gG hm_h0 hk_h0 12 (ci := 5) ⟨rfl, rfl, by decide, rfl⟩
  refine g_get (ci := 5) (v := .int (G 12)) (C := RX5) (T := TX5) (N := 17) hx hb hts uB5 hown hK hP hm_h0 hF5 rfl 12 (by decide) wm_265 hv5 dX5_offer_9 ?_
  obtain ⟨fs6, hF6, -, -⟩ := hI.o hm_b_4 hk_b_4 rfl (ci := 0) rfl rfl
  refine gc_R (ci := 0) ⟨hx, hb, hml, hown, hts⟩ (k_X0_isBehind l dC dI K L f hI b_4 hm_b_4 hk_b_4 (G 12)) 1 wm_388 wm_389 wm_390 wm_205 wm_391 (by decide +kernel) ⟨Nat.le_of_ble_eq_true rfl, Nat.le_of_ble_eq_true rfl⟩ hK rfl hm_b_4 hF6 rfl hl.1 rfl (Nat.le_of_ble_eq_true rfl) dX5_offer_12 ⟨Nat.le_of_ble_eq_true rfl, Nat.le_of_ble_eq_true rfl⟩ hS hP (fun r_7 H locs hpr_7 hP hS => ?_)
  refine lv_istore (lv' := [(4, .int r_7), (3, .ref b_4), (0, .ref h0), (1, .int (nI cn)), (2, .ref b)]) hx hb dX5_offer_15 hl (by decide) rfl (fun ls hl => ?_)
  refine lv_iconst (v := 0) hx hb dX5_offer_17 (by decide) ?_
  refine lv_istore (lv' := [(5, .int 0), (4, .int r_7), (3, .ref b_4), (0, .ref h0), (1, .int (nI cn)), (2, .ref b)]) hx hb dX5_offer_18 hl (by decide) rfl (fun ls hl => ?_)
  refine k_lx (pcx := 58) (fun n H locs ls => ∃ (fva : Nat → va_E) (j : Nat) (bh9 : Int32), 4 - j = n ∧ cI K np nc ns lk lc tp cp gp G J mk st ap kd sn L fva ∧ (j ≤ 4) ∧ va_P (dC, dI) vwCl (va_pl L fva) H ∧ va_S A s.heap H locs ∧ lv_has ls 6 [(0, .ref h0), (1, .int (nI cn)), (2, .ref b), (3, .ref b_4), (4, .int bh9), (5, .int (nI j))]) (fun H locs ls => ∃ (fva : Nat → va_E) (j : Nat) (bh9 : Int32), cI K np nc ns lk lc tp cp gp G J mk st ap kd sn L fva ∧ (j ≤ 4) ∧ va_P (dC, dI) vwCl (va_pl L fva) H ∧ va_S A s.heap H locs ∧ lv_has ls 6 [(0, .ref h0), (1, .int (nI cn)), (2, .ref b), (3, .ref b_4), (4, .int bh9), (5, .int (nI j))]) (fun H locs ls hI_ => ?_) (fun n H locs ls hI_ hEa iha => ?_) _ _ _ _ ⟨f, 0, _, rfl, hI, by omega, hP, hS, lv_sub hl [3, 4, 5, 2, 1, 0] rfl⟩
  · skip
    obtain ⟨fva, j, bh9, hI, hj, hP, hS, hl⟩ := hI_
    have hD : va_D A (va_pl L fva) := g_D hLn (fun a h => by rw [← hAe]; exact h) fva
    refine lv_aload_n hx hb dX5_offer_58 rfl (lv_at hl 0 rfl) ?_
    obtain ⟨fs8, b_9, hF8, hv8, hm_b_9, hk_b_9⟩ := hI.gR hm_h0 hk_h0 4 (ci := 5) (t := 6) ⟨rfl, rfl, by decide, rfl⟩
    refine g_get (ci := 5) (v := .ref b_9) (C := RX5) (T := TX5) (N := 17) hx hb hts uB5 hown hK hP hm_h0 hF8 rfl 4 (by decide) wm_392 hv8 dX5_offer_59 ?_
    refine lv_iload_n hx hb dX5_offer_62 rfl (lv_at hl 1 rfl) ?_
    refine lv_aload_n hx hb dX5_offer_63 rfl (lv_at hl 3 rfl) ?_
    obtain ⟨fs10, hF10, hv10⟩ := hI.gA hm_b_4 hk_b_4 12 (ci := 0) ⟨rfl, rfl, by decide, rfl⟩
    rw [hs_b_4] at hv10
    refine g_get (ci := 0) (v := .long (ap cn)) (C := RX0) (T := TX0) (N := 16) hx hb hts uB0 hown hK hP hm_b_4 hF10 rfl 12 (by decide) wm_374 hv10 dX5_offer_64 ?_
    obtain ⟨fs11, hF11, -, -⟩ := hI.o hm_b_9 hk_b_9 rfl (ci := 1) rfl rfl
    refine gc_Mv (ci := 1) ⟨hx, hb, hml, hown, hts⟩ (k_X1_addCampaign l dC dI K L fva hI b_9 hm_b_9 hk_b_9 cn (ap cn) (by omega) hj6 hj5 hLn) 2 wm_393 wm_394 wm_395 wm_238 wm_396 (by decide +kernel) ⟨Nat.le_of_ble_eq_true rfl, Nat.le_of_ble_eq_true rfl⟩ hK rfl hm_b_9 hF11 rfl hl.1 rfl (Nat.le_of_ble_eq_true rfl) dX5_offer_67 ⟨Nat.le_of_ble_eq_true rfl, Nat.le_of_ble_eq_true rfl⟩ (fun a h => by rw [← hAe]; exact h) hS hP (fun fw_12 H locs hpw hP hS => ?_)
    obtain ⟨J_13, hI, hj5, hj6⟩ := hpw
    have hD : va_D A (va_pl L fw_12) := g_D hLn (fun a h => by rw [← hAe]; exact h) fw_12
    exact W.vret hx hb hr (fun t ht hW => ⟨⟨fw_12, rfl, ⟨J_13, hI, hj5, hj6⟩, by show va_P (dC, dI) vwCl (va_pl L fw_12) t.heap; rw [ht]; exact hP⟩, hS.F ht⟩) hS.2.2 dX5_offer_70
  · skip
    obtain ⟨fva, j, bh9, hmua, hI, hj, hP, hS, hl⟩ := hI_
    have hD : va_D A (va_pl L fva) := g_D hLn (fun a h => by rw [← hAe]; exact h) fva
    refine lv_iload hx hb dX5_offer_20 (lv_at hl 5 rfl) ?_
    refine lv_aload_n hx hb dX5_offer_22 rfl (lv_at hl 2 rfl) ?_
    obtain ⟨fs14, hF14, hv14, hq1_14, hq4_14⟩ := hI.g5 hm_b hk_b 1 (ci := 2) ⟨rfl, rfl, by decide, rfl⟩
    refine g_get (ci := 2) (v := .int (nI (sn b))) (C := RX2) (T := TX2) (N := 4) hx hb hts uB2 hown hK hP hm_b hF14 rfl 1 (by decide) wm_397 hv14 dX5_offer_23 ?_
    refine lv_icmp_ge (tgt := 58) hx hb dX5_offer_26 (by decide) (fun c_15 => ?_) (fun c_15 => ?_)
    · skip
      have nc_15 : (sn b) ≤ j := (bn_le (a := (sn b)) (b := j) (by omega) (by omega)).mp (show nI (sn b) ≤ nI j from c_15)
      exact hEa _ _ _ ⟨fva, j, bh9, hI, hj, hP, hS, lv_sub hl [0, 1, 2, 3, 4, 5] rfl⟩
    · skip
      have nc_15 : ¬ ((sn b) ≤ j) := fun q => c_15 (show nI (sn b) ≤ nI j from (bn_le (a := (sn b)) (b := j) (by omega) (by omega)).mpr q)
      refine lv_aload_n hx hb dX5_offer_29 rfl (lv_at hl 0 rfl) ?_
      obtain ⟨fs16, b_17, hF16, hv16, hm_b_17, hk_b_17⟩ := hI.gR hm_h0 hk_h0 4 (ci := 5) (t := 6) ⟨rfl, rfl, by decide, rfl⟩
      refine g_get (ci := 5) (v := .ref b_17) (C := RX5) (T := TX5) (N := 17) hx hb hts uB5 hown hK hP hm_h0 hF16 rfl 4 (by decide) wm_392 hv16 dX5_offer_30 ?_
      refine lv_iload_n hx hb dX5_offer_33 rfl (lv_at hl 1 rfl) ?_
      refine lv_iload hx hb dX5_offer_34 (lv_at hl 5 rfl) ?_
      refine lv_aload_n hx hb dX5_offer_36 rfl (lv_at hl 3 rfl) ?_
      refine lv_aload_n hx hb dX5_offer_37 rfl (lv_at hl 2 rfl) ?_
      obtain ⟨fs18, b_19, hF18, hv18, hm_b_19, hk_b_19⟩ := hI.gR hm_b hk_b 0 (ci := 2) (t := 17) ⟨rfl, rfl, by decide, rfl⟩
      refine g_get (ci := 2) (v := .ref b_19) (C := RX2) (T := TX2) (N := 4) hx hb hts uB2 hown hK hP hm_b hF18 rfl 0 (by decide) wm_398 hv18 dX5_offer_38 ?_
      refine lv_iload hx hb dX5_offer_41 (lv_at hl 5 rfl) ?_
      obtain ⟨g20, hF20⟩ := hI.a17 hm_b_19 hk_b_19
      refine g_iald hx hb hK hP hm_b_19 hF20 (vp_in_nI (by omega) (by decide)) dX5_offer_43 ?_
      refine lv_topi (fun x_21 ex_21 => ?_)
      rw [nI_clamp (by omega)] at ex_21
      refine lv_iload hx hb dX5_offer_44 (lv_at hl 4 rfl) ?_
      obtain ⟨fs22, hF22, -, -⟩ := hI.o hm_b_4 hk_b_4 rfl (ci := 0) rfl rfl
      refine gc_Rl (ci := 0) ⟨hx, hb, hml, hown, hts⟩ (k_X0_worthAt l dC dI K L fva hI b_4 hm_b_4 hk_b_4 x_21 bh9) 2 wm_399 wm_400 wm_401 wm_205 wm_402 (by decide +kernel) ⟨Nat.le_of_ble_eq_true rfl, Nat.le_of_ble_eq_true rfl⟩ hK rfl hm_b_4 hF22 rfl hl.1 rfl (Nat.le_of_ble_eq_true rfl) dX5_offer_46 ⟨Nat.le_of_ble_eq_true rfl, Nat.le_of_ble_eq_true rfl⟩ hS hP (fun r_23 H locs hpr_23 hP hS => ?_)
      obtain ⟨fs24, hF24, -, -⟩ := hI.o hm_b_17 hk_b_17 rfl (ci := 1) rfl rfl
      refine gc_Mv (ci := 1) ⟨hx, hb, hml, hown, hts⟩ (k_X1_addWorth l dC dI K L fva hI b_17 hm_b_17 hk_b_17 cn j r_23 hcn (by omega) hnc hj6 (by omega) hLn) 3 wm_403 wm_404 wm_405 wm_238 wm_406 (by decide +kernel) ⟨Nat.le_of_ble_eq_true rfl, Nat.le_of_ble_eq_true rfl⟩ hK rfl hm_b_17 hF24 rfl hl.1 rfl (Nat.le_of_ble_eq_true rfl) dX5_offer_49 ⟨Nat.le_of_ble_eq_true rfl, Nat.le_of_ble_eq_true rfl⟩ (fun a h => by rw [← hAe]; exact h) hS hP (fun fw_25 H locs hpw hP hS => ?_)
      have hI := hpw
      have hD : va_D A (va_pl L fw_25) := g_D hLn (fun a h => by rw [← hAe]; exact h) fw_25
      refine lv_iinc (v := nI (j + 1)) (lv' := [(5, .int (nI (j + 1))), (0, .ref h0), (1, .int (nI cn)), (2, .ref b), (3, .ref b_4), (4, .int bh9)]) hx hb dX5_offer_52 hl (k := 5) rfl (by exact nI_1 _) (by decide) rfl (fun ls hl => ?_)
      refine lv_goto (tgt := 20) hx hb dX5_offer_55 (by decide) ?_
      exact iha _ (by omega) _ _ _ ⟨fw_25, (j + 1), bh9, rfl, hI, by omega, hP, hS, lv_sub hl [1, 2, 3, 4, 5, 0] rfl⟩
set_option maxHeartbeats 4000000 in
set_option maxRecDepth 100000 in
theorem k_X5_seekBest (l : Launch) (dC : Nat → ClassId) (dI : Nat → Nat → Nat) (K : Nat → ClassId) (L : List Nat) (f : Nat → va_E) {np nc ns lk lc tp cp gp : Nat} {G J mk st : Nat → Int32} {ap : Nat → Int64} {kd sn : Nat → Nat} {tk : Nat} (hI : cI K np nc ns lk lc tp cp gp G J mk st ap kd sn L f) (h0 : Nat) (hm_h0 : h0 ∈ L) (hk_h0 : kd h0 = 1) (rd : Nat) (b : Nat) (hm_b : b ∈ L) (hk_b : kd b = 16) (hrd : rd < 100) (hg8 : G 8 = nI nc) (hg12 : G 12 = nI tk) (hnc : nc ≤ 40) (hLn : gN L) : gMl l yX5_seekBest cX5_seekBest 4 12 (dC, dI) K L f [.ref h0, .int (nI rd), .ref b] (fun r f' => ∃ (J2 : Nat → Int32), cI K np nc ns lk lc 0 4 gp G J2 mk st ap kd sn L f' ∧ (∃ pk of : Nat, J2 5 = nI pk ∧ pk ≤ 4 ∧ J2 6 = nI of ∧ of ≤ nc)) := by
  refine Met.ofW (cc := cX5_seekBest) (maxL := 4) (ret := (some .long)) (by decide) rfl ?_
  intro p e s m args below meth c s₁ B hml hv
  obtain ⟨rfl, hP, hK⟩ := hv
  have hD : va_D (fun q : Nat => q ∈ L) (va_pl L f) := g_D hLn (fun a h => h) f
  generalize hAe : (fun q : Nat => q ∈ L) = A at hD ⊢
  have hx := B.exec
  have hb := B.bytes
  have hr := B.returns
  have hlocks := B.notSynchronized
  have hts0 := atoms_spec (ws := Cond.code yX5_seekBest cX5_seekBest 4 (some .long) :: lw_B) B.pre
  have hts : ∀ w ∈ lw_B, w.before _ s = true := fun w h => hts0 w (List.mem_cons_of_mem _ h)
  have hown : s.vm.findClass RX5 = some m.cls := findClass_of_methodNamed B.named
  have hS : va_S A s.heap s.heap [] := va_S.rf
  have hl := lv_entry ([.ref h0, .int (nI rd), .ref b]) (n := 4) (Nat.le_of_ble_eq_true rfl)
  rw [lg_entry_eq]
  generalize (lg_sl ([.ref h0, .int (nI rd), .ref b]) ++ List.replicate (4 - (lg_sl ([.ref h0, .int (nI rd), .ref b])).length) Slot.unset).toArray = ls at hl ⊢
  have hl : lv_has ls 4 [(0, .ref h0), (1, .int (nI rd)), (2, .ref b)] := hl
  refine lv_aload_n hx hb dX5_seekBest_0 rfl (lv_at hl 0 rfl) ?_
  obtain ⟨fs1, b_2, hF1, hv1, hm_b_2, hk_b_2⟩ := hI.gR hm_h0 hk_h0 4 (ci := 5) (t := 6) ⟨rfl, rfl, by decide, rfl⟩
  refine g_get (ci := 5) (v := .ref b_2) (C := RX5) (T := TX5) (N := 17) hx hb hts uB5 hown hK hP hm_h0 hF1 rfl 4 (by decide) wm_392 hv1 dX5_seekBest_1 ?_
  refine lv_aload_n hx hb dX5_seekBest_4 rfl (lv_at hl 2 rfl) ?_
  obtain ⟨fs3, hF3, hv3, hq1_3, hq4_3⟩ := hI.g5 hm_b hk_b 1 (ci := 2) ⟨rfl, rfl, by decide, rfl⟩
  refine g_get (ci := 2) (v := .int (nI (sn b))) (C := RX2) (T := TX2) (N := 4) hx hb hts uB2 hown hK hP hm_b hF3 rfl 1 (by decide) wm_397 hv3 dX5_seekBest_5 ?_
  obtain ⟨fs4, hF4, -, -⟩ := hI.o hm_b_2 hk_b_2 rfl (ci := 1) rfl rfl
  refine gc_Mv (ci := 1) ⟨hx, hb, hml, hown, hts⟩ (k_X1_startFor l dC dI K L f hI b_2 hm_b_2 hk_b_2 (sn b) (by omega) hLn) 1 wm_407 wm_408 wm_409 wm_238 wm_410 (by decide +kernel) ⟨Nat.le_of_ble_eq_true rfl, Nat.le_of_ble_eq_true rfl⟩ hK rfl hm_b_2 hF4 rfl hl.1 rfl (Nat.le_of_ble_eq_true rfl) dX5_seekBest_8 ⟨Nat.le_of_ble_eq_true rfl, Nat.le_of_ble_eq_true rfl⟩ (fun a h => by rw [← hAe]; exact h) hS hP (fun fw_5 H locs hpw hP hS => ?_)
  obtain ⟨J_6, hI, hj5, hj6⟩ := hpw
  have hD : va_D A (va_pl L fw_5) := g_D hLn (fun a h => by rw [← hAe]; exact h) fw_5
  refine lv_iconst (v := 0) hx hb dX5_seekBest_11 (by decide) ?_
  refine lv_istore_n (lv' := [(3, .int 0), (0, .ref h0), (1, .int (nI rd)), (2, .ref b)]) hx hb dX5_seekBest_12 rfl hl (by decide) rfl (fun ls hl => ?_)
  refine k_lx (pcx := 43) (fun n H locs ls => ∃ (fva : Nat → va_E) (Jv : Nat → Int32) (j : Nat) (pk : Nat) (of : Nat), nc - j = n ∧ cI K np nc ns lk lc tp cp gp G Jv mk st ap kd sn L fva ∧ (j ≤ nc) ∧ (Jv 5 = nI pk) ∧ (pk ≤ 4) ∧ (Jv 6 = nI of) ∧ (of ≤ j) ∧ va_P (dC, dI) vwCl (va_pl L fva) H ∧ va_S A s.heap H locs ∧ lv_has ls 4 [(0, .ref h0), (1, .int (nI rd)), (2, .ref b), (3, .int (nI j))]) (fun H locs ls => ∃ (fva : Nat → va_E) (Jv : Nat → Int32) (j : Nat) (pk : Nat) (of : Nat), cI K np nc ns lk lc tp cp gp G Jv mk st ap kd sn L fva ∧ (j ≤ nc) ∧ (Jv 5 = nI pk) ∧ (pk ≤ 4) ∧ (Jv 6 = nI of) ∧ (of ≤ j) ∧ va_P (dC, dI) vwCl (va_pl L fva) H ∧ va_S A s.heap H locs ∧ lv_has ls 4 [(0, .ref h0), (1, .int (nI rd)), (2, .ref b), (3, .int (nI j))]) (fun H locs ls hI_ => ?_) (fun n H locs ls hI_ hEa iha => ?_) _ _ _ _ ⟨fw_5, J_6, 0, _, 0, rfl, hI, Nat.zero_le _, hj5, by omega, hj6, Nat.le_refl _, hP, hS, lv_sub hl [1, 2, 3, 0] rfl⟩
  · skip
    obtain ⟨fva, Jv, j, pk, of, hI, hj, hj5, hpk, hj6, hof, hP, hS, hl⟩ := hI_
    have hD : va_D A (va_pl L fva) := g_D hLn (fun a h => by rw [← hAe]; exact h) fva
    refine lv_aload_n hx hb dX5_seekBest_43 rfl (lv_at hl 0 rfl) ?_
    obtain ⟨fs7, b_8, hF7, hv7, hm_b_8, hk_b_8⟩ := hI.gR hm_h0 hk_h0 4 (ci := 5) (t := 6) ⟨rfl, rfl, by decide, rfl⟩
    refine g_get (ci := 5) (v := .ref b_8) (C := RX5) (T := TX5) (N := 17) hx hb hts uB5 hown hK hP hm_h0 hF7 rfl 4 (by decide) wm_392 hv7 dX5_seekBest_44 ?_
    refine lv_iconst (v := (-1)) hx hb dX5_seekBest_47 (by decide) ?_
    obtain ⟨fs9, hF9, -, -⟩ := hI.o hm_b_8 hk_b_8 rfl (ci := 1) rfl rfl
    refine gc_Ml (ci := 1) ⟨hx, hb, hml, hown, hts⟩ (k_X1_seek l dC dI K L fva hI b_8 hm_b_8 hk_b_8 (-1) hj5 hpk hj6 (by omega) hnc hLn) 1 wm_411 wm_412 wm_413 wm_238 wm_414 (by decide +kernel) ⟨Nat.le_of_ble_eq_true rfl, Nat.le_of_ble_eq_true rfl⟩ hK rfl hm_b_8 hF9 rfl hl.1 rfl (Nat.le_of_ble_eq_true rfl) dX5_seekBest_48 ⟨Nat.le_of_ble_eq_true rfl, Nat.le_of_ble_eq_true rfl⟩ (fun a h => by rw [← hAe]; exact h) hS hP (fun r_10 fw_11 H locs hpw hP hS => ?_)
    have hI := hpw
    have hD : va_D A (va_pl L fw_11) := g_D hLn (fun a h => by rw [← hAe]; exact h) fw_11
    exact W.lret (v := r_10) hx hb hr (fun t ht hW => ⟨⟨r_10, fw_11, rfl, ⟨Jv, hI, ⟨pk, of, hj5, hpk, hj6, by omega⟩⟩, by show va_P (dC, dI) vwCl (va_pl L fw_11) t.heap; rw [ht]; exact hP⟩, hS.F ht⟩) hS.2.2 dX5_seekBest_51
  · skip
    obtain ⟨fva, Jv, j, pk, of, hmua, hI, hj, hj5, hpk, hj6, hof, hP, hS, hl⟩ := hI_
    have hD : va_D A (va_pl L fva) := g_D hLn (fun a h => by rw [← hAe]; exact h) fva
    refine lv_iload_n hx hb dX5_seekBest_13 rfl (lv_at hl 3 rfl) ?_
    refine lv_aload_n hx hb dX5_seekBest_14 rfl (lv_at hl 0 rfl) ?_
    obtain ⟨fs12, hF12, hv12⟩ := hI.gG hm_h0 hk_h0 8 (ci := 5) ⟨rfl, rfl, by decide, rfl⟩
    rw [hg8] at hv12
    refine g_get (ci := 5) (v := .int (nI nc)) (C := RX5) (T := TX5) (N := 17) hx hb hts uB5 hown hK hP hm_h0 hF12 rfl 8 (by decide) wm_73 hv12 dX5_seekBest_15 ?_
    refine lv_icmp_ge (tgt := 43) hx hb dX5_seekBest_18 (by decide) (fun c_13 => ?_) (fun c_13 => ?_)
    · skip
      have nc_13 : nc ≤ j := (bn_le (a := nc) (b := j) (by omega) (by omega)).mp (show nI nc ≤ nI j from c_13)
      exact hEa _ _ _ ⟨fva, Jv, j, pk, of, hI, hj, hj5, hpk, hj6, hof, hP, hS, lv_sub hl [0, 1, 2, 3] rfl⟩
    · skip
      have nc_13 : ¬ (nc ≤ j) := fun q => c_13 (show nI nc ≤ nI j from (bn_le (a := nc) (b := j) (by omega) (by omega)).mpr q)
      refine lv_aload_n hx hb dX5_seekBest_21 rfl (lv_at hl 0 rfl) ?_
      refine lv_iload_n hx hb dX5_seekBest_22 rfl (lv_at hl 3 rfl) ?_
      refine lv_iload_n hx hb dX5_seekBest_23 rfl (lv_at hl 1 rfl) ?_
      refine lv_aload_n hx hb dX5_seekBest_24 rfl (lv_at hl 2 rfl) ?_
      obtain ⟨fs14, hF14, -, -⟩ := hI.o hm_h0 hk_h0 rfl (ci := 5) rfl rfl
      refine gc_R (ci := 5) ⟨hx, hb, hml, hown, hts⟩ (k_X5_hindrance l dC dI K L fva hI h0 hm_h0 hk_h0 j rd b hm_b hk_b (by omega) hrd hg12 hnc) 3 wm_384 wm_385 wm_386 wm_67 wm_387 (by decide +kernel) ⟨Nat.le_of_ble_eq_true rfl, Nat.le_of_ble_eq_true rfl⟩ hK rfl hm_h0 hF14 rfl hl.1 rfl (Nat.le_of_ble_eq_true rfl) dX5_seekBest_25 ⟨Nat.le_of_ble_eq_true rfl, Nat.le_of_ble_eq_true rfl⟩ hS hP (fun r_15 H locs hpr_15 hP hS => ?_)
      refine lv_if_ne (tgt := 37) hx hb dX5_seekBest_28 (by decide) (fun c_16 => ?_) (fun c_16 => ?_)
      · skip
        refine lv_iinc (v := nI (j + 1)) (lv' := [(3, .int (nI (j + 1))), (0, .ref h0), (1, .int (nI rd)), (2, .ref b)]) hx hb dX5_seekBest_37 hl (k := 3) rfl (by exact nI_1 _) (by decide) rfl (fun ls hl => ?_)
        refine lv_goto (tgt := 13) hx hb dX5_seekBest_40 (by decide) ?_
        exact iha _ (by omega) _ _ _ ⟨fva, Jv, (j + 1), pk, of, rfl, hI, by omega, hj5, hpk, hj6, by omega, hP, hS, lv_sub hl [1, 2, 3, 0] rfl⟩
      · skip
        refine lv_aload_n hx hb dX5_seekBest_31 rfl (lv_at hl 0 rfl) ?_
        refine lv_iload_n hx hb dX5_seekBest_32 rfl (lv_at hl 3 rfl) ?_
        refine lv_aload_n hx hb dX5_seekBest_33 rfl (lv_at hl 2 rfl) ?_
        obtain ⟨fs17, hF17, -, -⟩ := hI.o hm_h0 hk_h0 rfl (ci := 5) rfl rfl
        refine gc_Mv (ci := 5) ⟨hx, hb, hml, hown, hts⟩ (k_X5_offer l dC dI K L fva hI h0 hm_h0 hk_h0 j b hm_b hk_b (by omega) hj6 hj5 (by omega) hnc hLn) 2 wm_415 wm_416 wm_417 wm_67 wm_418 (by decide +kernel) ⟨Nat.le_of_ble_eq_true rfl, Nat.le_of_ble_eq_true rfl⟩ hK rfl hm_h0 hF17 rfl hl.1 rfl (Nat.le_of_ble_eq_true rfl) dX5_seekBest_34 ⟨Nat.le_of_ble_eq_true rfl, Nat.le_of_ble_eq_true rfl⟩ (fun a h => by rw [← hAe]; exact h) hS hP (fun fw_18 H locs hpw hP hS => ?_)
        obtain ⟨J_19, hI, hj5, hj6⟩ := hpw
        have hD : va_D A (va_pl L fw_18) := g_D hLn (fun a h => by rw [← hAe]; exact h) fw_18
        refine lv_iinc (v := nI (j + 1)) (lv' := [(3, .int (nI (j + 1))), (0, .ref h0), (1, .int (nI rd)), (2, .ref b)]) hx hb dX5_seekBest_37 hl (k := 3) rfl (by exact nI_1 _) (by decide) rfl (fun ls hl => ?_)
        refine lv_goto (tgt := 13) hx hb dX5_seekBest_40 (by decide) ?_
        exact iha _ (by omega) _ _ _ ⟨fw_18, J_19, (j + 1), pk, (of + 1), rfl, hI, by omega, hj5, hpk, hj6, by omega, hP, hS, lv_sub hl [1, 2, 3, 0] rfl⟩
set_option maxHeartbeats 4000000 in
set_option maxRecDepth 100000 in
theorem k_X5_best (l : Launch) (dC : Nat → ClassId) (dI : Nat → Nat → Nat) (K : Nat → ClassId) (L : List Nat) (f : Nat → va_E) {np nc ns lk lc tp cp gp : Nat} {G J mk st : Nat → Int32} {ap : Nat → Int64} {kd sn : Nat → Nat} {tk : Nat} (hI : cI K np nc ns lk lc tp cp gp G J mk st ap kd sn L f) (h0 : Nat) (hm_h0 : h0 ∈ L) (hk_h0 : kd h0 = 1) (x : Int32) (y : Int32) (hg7 : G 7 = nI np) (hg8 : G 8 = nI nc) (hg12 : G 12 = nI tk) (hnp : np ≤ 8) (hnc : nc ≤ 40) (hLn : gN L) : gMl l yX5_best cX5_best 3 13 (dC, dI) K L f [.ref h0, .int x, .int y] (fun r f' => ∃ (J2 : Nat → Int32) (tp2 : Nat) (cp2 : Nat), cI K np nc ns lk lc tp2 cp2 gp G J2 mk st ap kd sn L f') := by
  refine Met.ofW (cc := cX5_best) (maxL := 3) (ret := (some .long)) (by decide) rfl ?_
  intro p e s m args below meth c s₁ B hml hv
  obtain ⟨rfl, hP, hK⟩ := hv
  have hD : va_D (fun q : Nat => q ∈ L) (va_pl L f) := g_D hLn (fun a h => h) f
  generalize hAe : (fun q : Nat => q ∈ L) = A at hD ⊢
  have hx := B.exec
  have hb := B.bytes
  have hr := B.returns
  have hlocks := B.notSynchronized
  have hts0 := atoms_spec (ws := Cond.code yX5_best cX5_best 3 (some .long) :: lw_B) B.pre
  have hts : ∀ w ∈ lw_B, w.before _ s = true := fun w h => hts0 w (List.mem_cons_of_mem _ h)
  have hown : s.vm.findClass RX5 = some m.cls := findClass_of_methodNamed B.named
  have hS : va_S A s.heap s.heap [] := va_S.rf
  have hl := lv_entry ([.ref h0, .int x, .int y]) (n := 3) (Nat.le_of_ble_eq_true rfl)
  rw [lg_entry_eq]
  generalize (lg_sl ([.ref h0, .int x, .int y]) ++ List.replicate (3 - (lg_sl ([.ref h0, .int x, .int y])).length) Slot.unset).toArray = ls at hl ⊢
  have hl : lv_has ls 3 [(0, .ref h0), (1, .int x), (2, .int y)] := hl
  refine lv_iload_n hx hb dX5_best_0 rfl (lv_at hl 1 rfl) ?_
  refine k_S ⟨hx, hb, hml, hown, hts⟩ (c_isReader l x) 1 wm_85 wm_86 wm_67 wm_87 (by decide +kernel) ⟨Nat.le_of_ble_eq_true rfl, Nat.le_of_ble_eq_true rfl⟩ rfl hl.1 rfl (Nat.le_of_ble_eq_true rfl) dX5_best_1 ⟨Nat.le_of_ble_eq_true rfl, Nat.le_of_ble_eq_true rfl⟩ hS hP (fun r_1 H locs hpr_1 hP hS => ?_)
  refine lv_if_eq (tgt := 15) hx hb dX5_best_4 (by decide) (fun c_2 => ?_) (fun c_2 => ?_)
  · skip
    have g_2 := k_ff hpr_1 c_2
    refine lv_ldc2 (v := (-1)) hx hb hown (hts _ wm_99) dX5_best_15 ?_
    exact W.lret (v := (-1)) hx hb hr (fun t ht hW => ⟨⟨(-1), f, rfl, ⟨J, tp, cp, hI⟩, by show va_P (dC, dI) vwCl (va_pl L f) t.heap; rw [ht]; exact hP⟩, hS.F ht⟩) hS.2.2 dX5_best_18
  · skip
    have g_2 := k_ft hpr_1 c_2
    have gc_rd := g_2
    obtain ⟨rd, hrd, rfl⟩ := k_ix (n := 100) (x := x) g_2 (by omega)
    refine lv_aload_n hx hb dX5_best_7 rfl (lv_at hl 0 rfl) ?_
    refine lv_iload_n hx hb dX5_best_8 rfl (lv_at hl 2 rfl) ?_
    obtain ⟨fs3, hF3, -, -⟩ := hI.o hm_h0 hk_h0 rfl (ci := 5) rfl rfl
    refine gc_R (ci := 5) ⟨hx, hb, hml, hown, hts⟩ (k_X5_isPage l dC dI K L f hI h0 hm_h0 hk_h0 y hg7 hnp) 1 wm_88 wm_89 wm_90 wm_67 wm_91 (by decide +kernel) ⟨Nat.le_of_ble_eq_true rfl, Nat.le_of_ble_eq_true rfl⟩ hK rfl hm_h0 hF3 rfl hl.1 rfl (Nat.le_of_ble_eq_true rfl) dX5_best_9 ⟨Nat.le_of_ble_eq_true rfl, Nat.le_of_ble_eq_true rfl⟩ hS hP (fun r_4 H locs hpr_4 hP hS => ?_)
    refine lv_if_ne (tgt := 19) hx hb dX5_best_12 (by decide) (fun c_5 => ?_) (fun c_5 => ?_)
    · skip
      have g_5 := k_ft hpr_4 c_5
      have gc_pg := g_5
      obtain ⟨pg, hpg, rfl⟩ := k_ix (n := np) (x := y) g_5 (by omega)
      refine lv_aload_n hx hb dX5_best_19 rfl (lv_at hl 0 rfl) ?_
      refine lv_iload_n hx hb dX5_best_20 rfl (lv_at hl 1 rfl) ?_
      refine lv_aload_n hx hb dX5_best_21 rfl (lv_at hl 0 rfl) ?_
      obtain ⟨fs6, b_7, hF6, hv6, hm_b_7, hk_b_7⟩ := hI.gR hm_h0 hk_h0 0 (ci := 5) (t := 2) ⟨rfl, rfl, by decide, rfl⟩
      refine g_get (ci := 5) (v := .ref b_7) (C := RX5) (T := TX5) (N := 17) hx hb hts uB5 hown hK hP hm_h0 hF6 rfl 0 (by decide) wm_292 hv6 dX5_best_22 ?_
      refine lv_iload_n hx hb dX5_best_25 rfl (lv_at hl 2 rfl) ?_
      obtain ⟨g8, hF8, hgz8⟩ := hI.a2 hm_b_7 hk_b_7
      obtain ⟨b_9, hm_b_9, hk_b_9, hv8⟩ := hgz8 pg (by omega)
      refine g_aldR (t := 3) hx hb hK hP hm_b_7 hF8 rfl (vp_in_nI (by omega) (by decide)) (by rw [nI_clamp (by omega)]; exact hv8) dX5_best_26 ?_
      obtain ⟨fs10, hF10, -, -⟩ := hI.o hm_h0 hk_h0 rfl (ci := 5) rfl rfl
      refine gc_Ml (ci := 5) ⟨hx, hb, hml, hown, hts⟩ (k_X5_seekBest l dC dI K L f hI h0 hm_h0 hk_h0 rd b_9 hm_b_9 hk_b_9 hrd hg8 hg12 hnc hLn) 2 wm_419 wm_420 wm_421 wm_67 wm_422 (by decide +kernel) ⟨Nat.le_of_ble_eq_true rfl, Nat.le_of_ble_eq_true rfl⟩ hK rfl hm_h0 hF10 rfl hl.1 rfl (Nat.le_of_ble_eq_true rfl) dX5_best_27 ⟨Nat.le_of_ble_eq_true rfl, Nat.le_of_ble_eq_true rfl⟩ (fun a h => by rw [← hAe]; exact h) hS hP (fun r_11 fw_12 H locs hpw hP hS => ?_)
      obtain ⟨J_13, hI, hjx⟩ := hpw
      have hD : va_D A (va_pl L fw_12) := g_D hLn (fun a h => by rw [← hAe]; exact h) fw_12
      exact W.lret (v := r_11) hx hb hr (fun t ht hW => ⟨⟨r_11, fw_12, rfl, ⟨J_13, 0, 4, hI⟩, by show va_P (dC, dI) vwCl (va_pl L fw_12) t.heap; rw [ht]; exact hP⟩, hS.F ht⟩) hS.2.2 dX5_best_30
    · skip
      have g_5 := k_ff hpr_4 c_5
      refine lv_ldc2 (v := (-1)) hx hb hown (hts _ wm_99) dX5_best_15 ?_
      exact W.lret (v := (-1)) hx hb hr (fun t ht hW => ⟨⟨(-1), f, rfl, ⟨J, tp, cp, hI⟩, by show va_P (dC, dI) vwCl (va_pl L f) t.heap; rw [ht]; exact hP⟩, hS.F ht⟩) hS.2.2 dX5_best_18
set_option maxHeartbeats 4000000 in
set_option maxRecDepth 100000 in
theorem k_X5_give (l : Launch) (dC : Nat → ClassId) (dI : Nat → Nat → Nat) (K : Nat → ClassId) (L : List Nat) (f : Nat → va_E) {np nc ns lk lc tp cp gp : Nat} {G J mk st : Nat → Int32} {ap : Nat → Int64} {kd sn : Nat → Nat} {tk : Nat} (hI : cI K np nc ns lk lc tp cp gp G J mk st ap kd sn L f) (h0 : Nat) (hm_h0 : h0 ∈ L) (hk_h0 : kd h0 = 1) (x : Int32) (y : Int32) (z : Int32) (hg7 : G 7 = nI np) (hg8 : G 8 = nI nc) (hg12 : G 12 = nI tk) (hnp : np ≤ 8) (hnc : nc ≤ 40) (hLn : gN L) : gMi l yX5_give cX5_give 5 13 (dC, dI) K L f [.ref h0, .int x, .int y, .int z] (fun r f' => ∃ (J2 : Nat → Int32) (tp2 : Nat) (cp2 : Nat), cI K np nc ns lk lc tp2 cp2 gp G J2 mk st ap kd sn L f') := by
  refine Met.ofW (cc := cX5_give) (maxL := 5) (ret := (some .int)) (by decide) rfl ?_
  intro p e s m args below meth c s₁ B hml hv
  obtain ⟨rfl, hP, hK⟩ := hv
  have hD : va_D (fun q : Nat => q ∈ L) (va_pl L f) := g_D hLn (fun a h => h) f
  generalize hAe : (fun q : Nat => q ∈ L) = A at hD ⊢
  have hx := B.exec
  have hb := B.bytes
  have hr := B.returns
  have hlocks := B.notSynchronized
  have hts0 := atoms_spec (ws := Cond.code yX5_give cX5_give 5 (some .int) :: lw_B) B.pre
  have hts : ∀ w ∈ lw_B, w.before _ s = true := fun w h => hts0 w (List.mem_cons_of_mem _ h)
  have hown : s.vm.findClass RX5 = some m.cls := findClass_of_methodNamed B.named
  have hS : va_S A s.heap s.heap [] := va_S.rf
  have hl := lv_entry ([.ref h0, .int x, .int y, .int z]) (n := 5) (Nat.le_of_ble_eq_true rfl)
  rw [lg_entry_eq]
  generalize (lg_sl ([.ref h0, .int x, .int y, .int z]) ++ List.replicate (5 - (lg_sl ([.ref h0, .int x, .int y, .int z])).length) Slot.unset).toArray = ls at hl ⊢
  have hl : lv_has ls 5 [(0, .ref h0), (1, .int x), (2, .int y), (3, .int z)] := hl
  refine lv_iload_n hx hb dX5_give_0 rfl (lv_at hl 1 rfl) ?_
  refine k_S ⟨hx, hb, hml, hown, hts⟩ (c_isReader l x) 1 wm_85 wm_86 wm_67 wm_87 (by decide +kernel) ⟨Nat.le_of_ble_eq_true rfl, Nat.le_of_ble_eq_true rfl⟩ rfl hl.1 rfl (Nat.le_of_ble_eq_true rfl) dX5_give_1 ⟨Nat.le_of_ble_eq_true rfl, Nat.le_of_ble_eq_true rfl⟩ hS hP (fun r_1 H locs hpr_1 hP hS => ?_)
  refine lv_if_eq (tgt := 34) hx hb dX5_give_4 (by decide) (fun c_2 => ?_) (fun c_2 => ?_)
  · skip
    have g_2 := k_ff hpr_1 c_2
    refine lv_iconst (v := (-1)) hx hb dX5_give_34 (by decide) ?_
    exact W.iret (v := (-1)) hx hb hr (fun t ht hW => ⟨⟨(-1), f, rfl, ⟨J, tp, cp, hI⟩, by show va_P (dC, dI) vwCl (va_pl L f) t.heap; rw [ht]; exact hP⟩, hS.F ht⟩) hS.2.2 dX5_give_35
  · skip
    have g_2 := k_ft hpr_1 c_2
    have gc_rd := g_2
    obtain ⟨rd, hrd, rfl⟩ := k_ix (n := 100) (x := x) g_2 (by omega)
    refine lv_aload_n hx hb dX5_give_7 rfl (lv_at hl 0 rfl) ?_
    refine lv_iload_n hx hb dX5_give_8 rfl (lv_at hl 2 rfl) ?_
    obtain ⟨fs3, hF3, -, -⟩ := hI.o hm_h0 hk_h0 rfl (ci := 5) rfl rfl
    refine gc_R (ci := 5) ⟨hx, hb, hml, hown, hts⟩ (k_X5_isPage l dC dI K L f hI h0 hm_h0 hk_h0 y hg7 hnp) 1 wm_88 wm_89 wm_90 wm_67 wm_91 (by decide +kernel) ⟨Nat.le_of_ble_eq_true rfl, Nat.le_of_ble_eq_true rfl⟩ hK rfl hm_h0 hF3 rfl hl.1 rfl (Nat.le_of_ble_eq_true rfl) dX5_give_9 ⟨Nat.le_of_ble_eq_true rfl, Nat.le_of_ble_eq_true rfl⟩ hS hP (fun r_4 H locs hpr_4 hP hS => ?_)
    refine lv_if_eq (tgt := 34) hx hb dX5_give_12 (by decide) (fun c_5 => ?_) (fun c_5 => ?_)
    · skip
      have g_5 := k_ff hpr_4 c_5
      refine lv_iconst (v := (-1)) hx hb dX5_give_34 (by decide) ?_
      exact W.iret (v := (-1)) hx hb hr (fun t ht hW => ⟨⟨(-1), f, rfl, ⟨J, tp, cp, hI⟩, by show va_P (dC, dI) vwCl (va_pl L f) t.heap; rw [ht]; exact hP⟩, hS.F ht⟩) hS.2.2 dX5_give_35
    · skip
      have g_5 := k_ft hpr_4 c_5
      have gc_pg := g_5
      obtain ⟨pg, hpg, rfl⟩ := k_ix (n := np) (x := y) g_5 (by omega)
      refine lv_iload_n hx hb dX5_give_15 rfl (lv_at hl 3 rfl) ?_
      refine lv_iconst (v := 0) hx hb dX5_give_16 (by decide) ?_
      refine lv_aload_n hx hb dX5_give_17 rfl (lv_at hl 0 rfl) ?_
      obtain ⟨fs6, b_7, hF6, hv6, hm_b_7, hk_b_7⟩ := hI.gR hm_h0 hk_h0 0 (ci := 5) (t := 2) ⟨rfl, rfl, by decide, rfl⟩
      refine g_get (ci := 5) (v := .ref b_7) (C := RX5) (T := TX5) (N := 17) hx hb hts uB5 hown hK hP hm_h0 hF6 rfl 0 (by decide) wm_292 hv6 dX5_give_18 ?_
      refine lv_iload_n hx hb dX5_give_21 rfl (lv_at hl 2 rfl) ?_
      obtain ⟨g8, hF8, hgz8⟩ := hI.a2 hm_b_7 hk_b_7
      obtain ⟨b_9, hm_b_9, hk_b_9, hv8⟩ := hgz8 pg (by omega)
      refine g_aldR (t := 3) hx hb hK hP hm_b_7 hF8 rfl (vp_in_nI (by omega) (by decide)) (by rw [nI_clamp (by omega)]; exact hv8) dX5_give_22 ?_
      obtain ⟨fs10, hF10, hv10, hq1_10, hq4_10⟩ := hI.g5 hm_b_9 hk_b_9 1 (ci := 2) ⟨rfl, rfl, by decide, rfl⟩
      refine g_get (ci := 2) (v := .int (nI (sn b_9))) (C := RX2) (T := TX2) (N := 4) hx hb hts uB2 hown hK hP hm_b_9 hF10 rfl 1 (by decide) wm_397 hv10 dX5_give_23 ?_
      refine lv_iconst (v := 1) hx hb dX5_give_26 (by decide) ?_
      refine lv_isub hx hb dX5_give_27 ?_
      refine lv_topi (fun x_11 ex_11 => ?_)
      refine k_S ⟨hx, hb, hml, hown, hts⟩ (c_isWithin l z 0 x_11) 3 wm_65 wm_66 wm_67 wm_68 (by decide +kernel) ⟨Nat.le_of_ble_eq_true rfl, Nat.le_of_ble_eq_true rfl⟩ rfl hl.1 rfl (Nat.le_of_ble_eq_true rfl) dX5_give_28 ⟨Nat.le_of_ble_eq_true rfl, Nat.le_of_ble_eq_true rfl⟩ hS hP (fun r_12 H locs hpr_12 hP hS => ?_)
      refine lv_if_ne (tgt := 36) hx hb dX5_give_31 (by decide) (fun c_13 => ?_) (fun c_13 => ?_)
      · skip
        have g_13 := k_ft hpr_12 c_13
        obtain ⟨pl, hpl, rfl⟩ := k_ix (n := sn b_9) (x := z) (by rw [ex_11] at g_13; exact g_13) (by omega)
        refine lv_aload_n hx hb dX5_give_36 rfl (lv_at hl 0 rfl) ?_
        refine lv_iload_n hx hb dX5_give_37 rfl (lv_at hl 1 rfl) ?_
        refine lv_aload_n hx hb dX5_give_38 rfl (lv_at hl 0 rfl) ?_
        obtain ⟨fs14, b_15, hF14, hv14, hm_b_15, hk_b_15⟩ := hI.gR hm_h0 hk_h0 0 (ci := 5) (t := 2) ⟨rfl, rfl, by decide, rfl⟩
        refine g_get (ci := 5) (v := .ref b_15) (C := RX5) (T := TX5) (N := 17) hx hb hts uB5 hown hK hP hm_h0 hF14 rfl 0 (by decide) wm_292 hv14 dX5_give_39 ?_
        refine lv_iload_n hx hb dX5_give_42 rfl (lv_at hl 2 rfl) ?_
        obtain ⟨g16, hF16, hgz16⟩ := hI.a2 hm_b_15 hk_b_15
        obtain ⟨b_17, hm_b_17, hk_b_17, hv16⟩ := hgz16 pg (by omega)
        refine g_aldR (t := 3) hx hb hK hP hm_b_15 hF16 rfl (vp_in_nI (by omega) (by decide)) (by rw [nI_clamp (by omega)]; exact hv16) dX5_give_43 ?_
        obtain ⟨fs18, hF18, -, -⟩ := hI.o hm_h0 hk_h0 rfl (ci := 5) rfl rfl
        refine gc_Ml (ci := 5) ⟨hx, hb, hml, hown, hts⟩ (k_X5_seekBest l dC dI K L f hI h0 hm_h0 hk_h0 rd b_17 hm_b_17 hk_b_17 hrd hg8 hg12 hnc hLn) 2 wm_419 wm_420 wm_421 wm_67 wm_422 (by decide +kernel) ⟨Nat.le_of_ble_eq_true rfl, Nat.le_of_ble_eq_true rfl⟩ hK rfl hm_h0 hF18 rfl hl.1 rfl (Nat.le_of_ble_eq_true rfl) dX5_give_44 ⟨Nat.le_of_ble_eq_true rfl, Nat.le_of_ble_eq_true rfl⟩ (fun a h => by rw [← hAe]; exact h) hS hP (fun r_19 fw_20 H locs hpw hP hS => ?_)
        obtain ⟨J_21, hI, hjx⟩ := hpw
        have hD : va_D A (va_pl L fw_20) := g_D hLn (fun a h => by rw [← hAe]; exact h) fw_20
        refine lv_pop2_2 hx hb dX5_give_47 rfl ?_
        refine lv_aload_n hx hb dX5_give_48 rfl (lv_at hl 0 rfl) ?_
        obtain ⟨fs22, b_23, hF22, hv22, hm_b_23, hk_b_23⟩ := hI.gR hm_h0 hk_h0 4 (ci := 5) (t := 6) ⟨rfl, rfl, by decide, rfl⟩
        refine g_get (ci := 5) (v := .ref b_23) (C := RX5) (T := TX5) (N := 17) hx hb hts uB5 hown hK hP hm_h0 hF22 rfl 4 (by decide) wm_392 hv22 dX5_give_49 ?_
        obtain ⟨fs24, b_25, hF24, hv24, hm_b_25, hk_b_25⟩ := hI.gR hm_b_23 hk_b_23 0 (ci := 1) (t := 9) ⟨rfl, rfl, by decide, rfl⟩
        refine g_get (ci := 1) (v := .ref b_25) (C := RX1) (T := TX1) (N := 9) hx hb hts uB1 hown hK hP hm_b_23 hF24 rfl 0 (by decide) wm_423 hv24 dX5_give_52 ?_
        refine lv_iload_n hx hb dX5_give_55 rfl (lv_at hl 3 rfl) ?_
        obtain ⟨g26, hF26, hgz26⟩ := hI.a9 hm_b_25 hk_b_25
        refine g_iald hx hb hK hP hm_b_25 hF26 (vp_in_nI (by omega) (by decide)) dX5_give_56 ?_
        refine lv_topi (fun x_27 ex_27 => ?_)
        rw [nI_clamp (by omega)] at ex_27
        have hVx_27 : vld nc x_27 := by rw [ex_27]; exact hgz26 pl (by omega)
        refine lv_istore (lv' := [(4, .int x_27), (0, .ref h0), (1, .int (nI rd)), (2, .int (nI pg)), (3, .int (nI pl))]) hx hb dX5_give_57 hl (by decide) rfl (fun ls hl => ?_)
        refine lv_iload hx hb dX5_give_59 (lv_at hl 0 rfl) ?_
        refine lv_iconst (v := (-1)) hx hb dX5_give_61 (by decide) ?_
        refine lv_icmp_ne (tgt := 70) hx hb dX5_give_62 (by decide) (fun c_28 => ?_) (fun c_28 => ?_)
        · skip
          refine lv_iload hx hb dX5_give_70 (lv_at hl 0 rfl) ?_
          exact W.iret (v := x_27) hx hb hr (fun t ht hW => ⟨⟨x_27, fw_20, rfl, ⟨J_21, 0, 4, hI⟩, by show va_P (dC, dI) vwCl (va_pl L fw_20) t.heap; rw [ht]; exact hP⟩, hS.F ht⟩) hS.2.2 dX5_give_72
        · skip
          refine lv_bipush (v := (-2)) hx hb dX5_give_65 (by decide) ?_
          refine lv_goto (tgt := 72) hx hb dX5_give_67 (by decide) ?_
          exact W.iret (v := (-2)) hx hb hr (fun t ht hW => ⟨⟨(-2), fw_20, rfl, ⟨J_21, 0, 4, hI⟩, by show va_P (dC, dI) vwCl (va_pl L fw_20) t.heap; rw [ht]; exact hP⟩, hS.F ht⟩) hS.2.2 dX5_give_72
      · skip
        have g_13 := k_ff hpr_12 c_13
        refine lv_iconst (v := (-1)) hx hb dX5_give_34 (by decide) ?_
        exact W.iret (v := (-1)) hx hb hr (fun t ht hW => ⟨⟨(-1), f, rfl, ⟨J, tp, cp, hI⟩, by show va_P (dC, dI) vwCl (va_pl L f) t.heap; rw [ht]; exact hP⟩, hS.F ht⟩) hS.2.2 dX5_give_35
set_option maxHeartbeats 4000000 in
set_option maxRecDepth 100000 in
theorem k_X5_priceAt (l : Launch) (dC : Nat → ClassId) (dI : Nat → Nat → Nat) (K : Nat → ClassId) (L : List Nat) (f : Nat → va_E) {np nc ns lk lc tp cp gp : Nat} {G J mk st : Nat → Int32} {ap : Nat → Int64} {kd sn : Nat → Nat} {pk : Nat} {of : Nat} (hI : cI K np nc ns lk lc tp cp gp G J mk st ap kd sn L f) (h0 : Nat) (hm_h0 : h0 ∈ L) (hk_h0 : kd h0 = 1) (pl : Nat) (b : Nat) (hm_b : b ∈ L) (hk_b : kd b = 16) (z : Int64) (hpl : pl < 4) (hj5 : J 5 = nI pk) (hpk : pk ≤ 4) (hj6 : J 6 = nI of) (hof : of ≤ nc) (hnc : nc ≤ 40) (a7 : Nat) (hm_a7 : a7 ∈ L) (hk_a7 : kd a7 = 7) (gg : Nat → Int32) (hF7 : f a7 = .inl (K 0, 4, .inl gg)) (cn : Nat) (hgg : gg pl = nI cn) (hcn : cn < nc) (hLn : gN L) : gMi l yX5_priceAt cX5_priceAt 12 12 (dC, dI) K L f [.ref h0, .int (nI pl), .ref b, .long z] (fun r f' => ∃ (tp2 : Nat) (cp2 : Nat), cI K np nc ns lk lc tp2 cp2 gp G J mk st ap kd sn L f') := by
  refine Met.ofW (cc := cX5_priceAt) (maxL := 12) (ret := (some .int)) (by decide) rfl ?_
  intro p e s m args below meth c s₁ B hml hv
  obtain ⟨rfl, hP, hK⟩ := hv
  have hD : va_D (fun q : Nat => q ∈ L) (va_pl L f) := g_D hLn (fun a h => h) f
  generalize hAe : (fun q : Nat => q ∈ L) = A at hD ⊢
  have hx := B.exec
  have hb := B.bytes
  have hr := B.returns
  have hlocks := B.notSynchronized
  have hts0 := atoms_spec (ws := Cond.code yX5_priceAt cX5_priceAt 12 (some .int) :: lw_B) B.pre
  have hts : ∀ w ∈ lw_B, w.before _ s = true := fun w h => hts0 w (List.mem_cons_of_mem _ h)
  have hown : s.vm.findClass RX5 = some m.cls := findClass_of_methodNamed B.named
  have hS : va_S A s.heap s.heap [] := va_S.rf
  have hl := lv_entry ([.ref h0, .int (nI pl), .ref b, .long z]) (n := 12) (Nat.le_of_ble_eq_true rfl)
  rw [lg_entry_eq]
  generalize (lg_sl ([.ref h0, .int (nI pl), .ref b, .long z]) ++ List.replicate (12 - (lg_sl ([.ref h0, .int (nI pl), .ref b, .long z])).length) Slot.unset).toArray = ls at hl ⊢
  have hl : lv_has ls 12 [(0, .ref h0), (1, .int (nI pl)), (2, .ref b), (3, .long z)] := hl
  refine lv_aload_n hx hb dX5_priceAt_0 rfl (lv_at hl 0 rfl) ?_
  obtain ⟨fs1, b_2, hF1, hv1, hm_b_2, hk_b_2⟩ := hI.gR hm_h0 hk_h0 5 (ci := 5) (t := 7) ⟨rfl, rfl, by decide, rfl⟩
  obtain rfl : b_2 = a7 := hI.2.1 b_2 hm_b_2 a7 hm_a7 (hk_b_2.trans hk_a7.symm) (by rw [hk_b_2]; decide) (by rw [hk_b_2]; decide)
  refine g_get (ci := 5) (v := .ref b_2) (C := RX5) (T := TX5) (N := 17) hx hb hts uB5 hown hK hP hm_h0 hF1 rfl 5 (by decide) wm_424 hv1 dX5_priceAt_1 ?_
  refine lv_iload_n hx hb dX5_priceAt_4 rfl (lv_at hl 1 rfl) ?_
  have hF3 := hF7
  refine g_iald hx hb hK hP hm_b_2 hF3 (vp_in_nI (by omega) (by decide)) dX5_priceAt_5 ?_
  refine lv_topi (fun x_4 ex_4 => ?_)
  rw [nI_clamp (by omega)] at ex_4
  obtain rfl : x_4 = nI (cn) := ex_4.trans hgg
  refine lv_istore (lv' := [(5, .int (nI cn)), (0, .ref h0), (1, .int (nI pl)), (2, .ref b), (3, .long z)]) hx hb dX5_priceAt_6 hl (by decide) rfl (fun ls hl => ?_)
  refine lv_aload_n hx hb dX5_priceAt_8 rfl (lv_at hl 1 rfl) ?_
  obtain ⟨fs5, b_6, hF5, hv5, hm_b_6, hk_b_6⟩ := hI.gR hm_h0 hk_h0 1 (ci := 5) (t := 3) ⟨rfl, rfl, by decide, rfl⟩
  refine g_get (ci := 5) (v := .ref b_6) (C := RX5) (T := TX5) (N := 17) hx hb hts uB5 hown hK hP hm_h0 hF5 rfl 1 (by decide) wm_270 hv5 dX5_priceAt_9 ?_
  refine lv_iload hx hb dX5_priceAt_12 (lv_at hl 0 rfl) ?_
  obtain ⟨g7, hF7, hgz7⟩ := hI.a3 hm_b_6 hk_b_6
  obtain ⟨b_8, hm_b_8, hk_b_8, hs_b_8, hv7⟩ := hgz7 cn (by omega)
  refine g_aldR (t := 4) hx hb hK hP hm_b_6 hF7 rfl (vp_in_nI (by omega) (by decide)) (by rw [nI_clamp (by omega)]; exact hv7) dX5_priceAt_14 ?_
  refine lv_astore (lv' := [(6, .ref b_8), (5, .int (nI cn)), (0, .ref h0), (1, .int (nI pl)), (2, .ref b), (3, .long z)]) hx hb dX5_priceAt_15 hl (by decide) rfl (fun ls hl => ?_)
  refine lv_aload hx hb dX5_priceAt_17 (lv_at hl 0 rfl) ?_
  obtain ⟨fs9, x_9, hF9, hv9⟩ := hI.gI hm_b_8 hk_b_8 0 (ci := 0) ⟨rfl, rfl, by decide, rfl⟩
  refine g_get (ci := 0) (v := .int x_9) (C := RX0) (T := TX0) (N := 16) hx hb hts uB0 hown hK hP hm_b_8 hF9 rfl 0 (by decide) wm_275 hv9 dX5_priceAt_19 ?_
  refine lv_if_eq (tgt := 27) hx hb dX5_priceAt_22 (by decide) (fun c_10 => ?_) (fun c_10 => ?_)
  · skip
    refine lv_iconst (v := 1) hx hb dX5_priceAt_27 (by decide) ?_
    refine lv_aload hx hb dX5_priceAt_28 (lv_at hl 0 rfl) ?_
    obtain ⟨fs11, x_11, hF11, hv11⟩ := hI.gI hm_b_8 hk_b_8 4 (ci := 0) ⟨rfl, rfl, by decide, rfl⟩
    refine g_get (ci := 0) (v := .int x_11) (C := RX0) (T := TX0) (N := 16) hx hb hts uB0 hown hK hP hm_b_8 hF11 rfl 4 (by decide) wm_383 hv11 dX5_priceAt_30 ?_
    refine lv_aload_n hx hb dX5_priceAt_33 rfl (lv_at hl 4 rfl) ?_
    obtain ⟨fs12, b_13, hF12, hv12, hm_b_13, hk_b_13⟩ := hI.gR hm_b hk_b 0 (ci := 2) (t := 17) ⟨rfl, rfl, by decide, rfl⟩
    refine g_get (ci := 2) (v := .ref b_13) (C := RX2) (T := TX2) (N := 4) hx hb hts uB2 hown hK hP hm_b hF12 rfl 0 (by decide) wm_398 hv12 dX5_priceAt_34 ?_
    refine lv_iload_n hx hb dX5_priceAt_37 rfl (lv_at hl 3 rfl) ?_
    obtain ⟨g14, hF14⟩ := hI.a17 hm_b_13 hk_b_13
    refine g_iald hx hb hK hP hm_b_13 hF14 (vp_in_nI (by omega) (by decide)) dX5_priceAt_38 ?_
    refine lv_topi (fun x_15 ex_15 => ?_)
    rw [nI_clamp (by omega)] at ex_15
    refine lv_imul hx hb dX5_priceAt_39 ?_
    refine lv_topi (fun x_16 ex_16 => ?_)
    refine lv_bipush (v := 100) hx hb dX5_priceAt_40 (by decide) ?_
    refine lv_idiv hx hb dX5_priceAt_42 (by decide) ?_
    refine lv_topi (fun x_17 ex_17 => ?_)
    refine va_mmax hx hb (by rw [hml]; exact hl.1.symm) hown (hts _ wm_425) (hts _ wm_224) (hts _ wm_221) (hts _ wm_225) (Nat.le_of_ble_eq_true rfl) (Nat.le_of_ble_eq_true rfl) (Nat.le_of_ble_eq_true rfl) (Nat.le_of_ble_eq_true rfl) dX5_priceAt_43 ?_
    refine lv_topi (fun x_18 ex_18 => ?_)
    refine lv_istore (lv' := [(7, .int x_18), (6, .ref b_8), (5, .int (nI cn)), (0, .ref h0), (1, .int (nI pl)), (2, .ref b), (3, .long z)]) hx hb dX5_priceAt_46 hl (by decide) rfl (fun ls hl => ?_)
    refine lv_aload_n hx hb dX5_priceAt_48 rfl (lv_at hl 3 rfl) ?_
    obtain ⟨fs19, hF19, hv19⟩ := hI.gG hm_h0 hk_h0 13 (ci := 5) ⟨rfl, rfl, by decide, rfl⟩
    refine g_get (ci := 5) (v := .int (G 13)) (C := RX5) (T := TX5) (N := 17) hx hb hts uB5 hown hK hP hm_h0 hF19 rfl 13 (by decide) wm_282 hv19 dX5_priceAt_49 ?_
    refine lv_if_ne (tgt := 58) hx hb dX5_priceAt_52 (by decide) (fun c_20 => ?_) (fun c_20 => ?_)
    · skip
      refine lv_lload_n hx hb dX5_priceAt_58 rfl (lv_at hl 6 rfl) ?_
      refine lv_aload_n hx hb dX5_priceAt_59 rfl (lv_at hl 3 rfl) ?_
      obtain ⟨fs21, b_22, hF21, hv21, hm_b_22, hk_b_22⟩ := hI.gR hm_h0 hk_h0 4 (ci := 5) (t := 6) ⟨rfl, rfl, by decide, rfl⟩
      refine g_get (ci := 5) (v := .ref b_22) (C := RX5) (T := TX5) (N := 17) hx hb hts uB5 hown hK hP hm_h0 hF21 rfl 4 (by decide) wm_392 hv21 dX5_priceAt_60 ?_
      refine lv_iload hx hb dX5_priceAt_63 (lv_at hl 2 rfl) ?_
      refine lv_iload_n hx hb dX5_priceAt_65 rfl (lv_at hl 4 rfl) ?_
      obtain ⟨fs23, hF23, -, -⟩ := hI.o hm_b_22 hk_b_22 rfl (ci := 1) rfl rfl
      refine gc_Rl (ci := 1) ⟨hx, hb, hml, hown, hts⟩ (k_X1_worthOf l dC dI K L f hI b_22 hm_b_22 hk_b_22 cn pl (by omega) hpl) 2 wm_426 wm_427 wm_428 wm_238 wm_429 (by decide +kernel) ⟨Nat.le_of_ble_eq_true rfl, Nat.le_of_ble_eq_true rfl⟩ hK rfl hm_b_22 hF23 rfl hl.1 rfl (Nat.le_of_ble_eq_true rfl) dX5_priceAt_66 ⟨Nat.le_of_ble_eq_true rfl, Nat.le_of_ble_eq_true rfl⟩ hS hP (fun r_24 H locs hpr_24 hP hS => ?_)
      refine lv_lsub hx hb dX5_priceAt_69 ?_
      refine lv_topl (fun x_25 ex_25 => ?_)
      refine lv_lstore (lv' := [(8, .long x_25), (7, .int x_18), (6, .ref b_8), (5, .int (nI cn)), (0, .ref h0), (1, .int (nI pl)), (2, .ref b), (3, .long z)]) hx hb dX5_priceAt_70 hl (by decide) rfl (fun ls hl => ?_)
      refine lv_aload_n hx hb dX5_priceAt_72 rfl (lv_at hl 4 rfl) ?_
      obtain ⟨fs26, b_27, hF26, hv26, hm_b_27, hk_b_27⟩ := hI.gR hm_h0 hk_h0 4 (ci := 5) (t := 6) ⟨rfl, rfl, by decide, rfl⟩
      refine g_get (ci := 5) (v := .ref b_27) (C := RX5) (T := TX5) (N := 17) hx hb hts uB5 hown hK hP hm_h0 hF26 rfl 4 (by decide) wm_392 hv26 dX5_priceAt_73 ?_
      refine lv_iload hx hb dX5_priceAt_76 (lv_at hl 3 rfl) ?_
      obtain ⟨fs28, hF28, -, -⟩ := hI.o hm_b_27 hk_b_27 rfl (ci := 1) rfl rfl
      refine gc_Ml (ci := 1) ⟨hx, hb, hml, hown, hts⟩ (k_X1_seek l dC dI K L f hI b_27 hm_b_27 hk_b_27 (nI cn) hj5 hpk hj6 hof hnc hLn) 1 wm_411 wm_412 wm_413 wm_238 wm_414 (by decide +kernel) ⟨Nat.le_of_ble_eq_true rfl, Nat.le_of_ble_eq_true rfl⟩ hK rfl hm_b_27 hF28 rfl hl.1 rfl (Nat.le_of_ble_eq_true rfl) dX5_priceAt_78 ⟨Nat.le_of_ble_eq_true rfl, Nat.le_of_ble_eq_true rfl⟩ (fun a h => by rw [← hAe]; exact h) hS hP (fun r_29 fw_30 H locs hpw hP hS => ?_)
      have hI := hpw
      have hD : va_D A (va_pl L fw_30) := g_D hLn (fun a h => by rw [← hAe]; exact h) fw_30
      refine lv_lload hx hb dX5_priceAt_81 (lv_at hl 0 rfl) ?_
      refine lv_lsub hx hb dX5_priceAt_83 ?_
      refine lv_topl (fun x_31 ex_31 => ?_)
      refine lv_ldc2 (v := 1000000) hx hb hown (hts _ wm_430) dX5_priceAt_84 ?_
      refine lv_ldiv hx hb dX5_priceAt_87 (by decide) ?_
      refine lv_topl (fun x_32 ex_32 => ?_)
      refine lv_lstore (lv' := [(10, .long x_32), (8, .long x_25), (7, .int x_18), (6, .ref b_8), (5, .int (nI cn)), (0, .ref h0), (1, .int (nI pl)), (2, .ref b), (3, .long z)]) hx hb dX5_priceAt_88 hl (by decide) rfl (fun ls hl => ?_)
      refine lv_lconst (v := 0) hx hb dX5_priceAt_90 rfl ?_
      refine lv_iload hx hb dX5_priceAt_91 (lv_at hl 2 rfl) ?_
      refine lv_i2l hx hb dX5_priceAt_93 rfl ?_
      refine lv_topl (fun x_33 ex_33 => ?_)
      refine lv_lload hx hb dX5_priceAt_94 (lv_at hl 0 rfl) ?_
      refine va_mmin_long hx hb (by rw [hml]; exact hl.1.symm) hown (hts _ wm_431) (hts _ wm_432) (hts _ wm_221) (hts _ wm_433) (Nat.le_of_ble_eq_true rfl) (Nat.le_of_ble_eq_true rfl) (Nat.le_of_ble_eq_true rfl) (Nat.le_of_ble_eq_true rfl) dX5_priceAt_96 ?_
      refine lv_topl (fun x_34 ex_34 => ?_)
      refine va_mmax_long hx hb (by rw [hml]; exact hl.1.symm) hown (hts _ wm_434) (hts _ wm_435) (hts _ wm_221) (hts _ wm_436) (Nat.le_of_ble_eq_true rfl) (Nat.le_of_ble_eq_true rfl) (Nat.le_of_ble_eq_true rfl) (Nat.le_of_ble_eq_true rfl) dX5_priceAt_99 ?_
      refine lv_topl (fun x_35 ex_35 => ?_)
      refine lv_l2i hx hb dX5_priceAt_102 rfl ?_
      refine lv_topi (fun x_36 ex_36 => ?_)
      exact W.iret (v := x_36) hx hb hr (fun t ht hW => ⟨⟨x_36, fw_30, rfl, ⟨0, 4, hI⟩, by show va_P (dC, dI) vwCl (va_pl L fw_30) t.heap; rw [ht]; exact hP⟩, hS.F ht⟩) hS.2.2 dX5_priceAt_103
    · skip
      refine lv_iload hx hb dX5_priceAt_55 (lv_at hl 0 rfl) ?_
      exact W.iret (v := x_18) hx hb hr (fun t ht hW => ⟨⟨x_18, f, rfl, ⟨tp, cp, hI⟩, by show va_P (dC, dI) vwCl (va_pl L f) t.heap; rw [ht]; exact hP⟩, hS.F ht⟩) hS.2.2 dX5_priceAt_57
  · skip
    refine lv_iconst (v := 0) hx hb dX5_priceAt_25 (by decide) ?_
    exact W.iret (v := 0) hx hb hr (fun t ht hW => ⟨⟨0, f, rfl, ⟨tp, cp, hI⟩, by show va_P (dC, dI) vwCl (va_pl L f) t.heap; rw [ht]; exact hP⟩, hS.F ht⟩) hS.2.2 dX5_priceAt_26
set_option maxHeartbeats 4000000 in
set_option maxRecDepth 100000 in
theorem k_X5_keepGivenAndPrices (l : Launch) (dC : Nat → ClassId) (dI : Nat → Nat → Nat) (K : Nat → ClassId) (L : List Nat) (f : Nat → va_E) {np nc ns lk lc tp cp gp : Nat} {G J mk st : Nat → Int32} {ap : Nat → Int64} {kd sn : Nat → Nat} {pk : Nat} {of : Nat} (hI : cI K np nc ns lk lc tp cp gp G J mk st ap kd sn L f) (h0 : Nat) (hm_h0 : h0 ∈ L) (hk_h0 : kd h0 = 1) (b : Nat) (hm_b : b ∈ L) (hk_b : kd b = 16) (hj5 : J 5 = nI pk) (hpk : pk ≤ 4) (hj6 : J 6 = nI of) (hof : of ≤ nc) (hnc : nc ≤ 40) (hcp : 4 ≤ cp) (hsb1 : 1 ≤ sn b) (hsb : sn b ≤ 4) (hLn : gN L) : gMv l yX5_keepGivenAndPrices cX5_keepGivenAndPrices 5 13 (dC, dI) K L f [.ref h0, .ref b] (fun f' => ∃ (tp2 : Nat) (cp2 : Nat), cI K np nc ns lk lc tp2 cp2 (sn b) G J mk st ap kd sn L f') := by
  refine Met.ofW (cc := cX5_keepGivenAndPrices) (maxL := 5) (ret := none) (by decide) rfl ?_
  intro p e s m args below meth c s₁ B hml hv
  obtain ⟨rfl, hP, hK⟩ := hv
  have hD : va_D (fun q : Nat => q ∈ L) (va_pl L f) := g_D hLn (fun a h => h) f
  generalize hAe : (fun q : Nat => q ∈ L) = A at hD ⊢
  have hx := B.exec
  have hb := B.bytes
  have hr := B.returns
  have hlocks := B.notSynchronized
  have hts0 := atoms_spec (ws := Cond.code yX5_keepGivenAndPrices cX5_keepGivenAndPrices 5 none :: lw_B) B.pre
  have hts : ∀ w ∈ lw_B, w.before _ s = true := fun w h => hts0 w (List.mem_cons_of_mem _ h)
  have hown : s.vm.findClass RX5 = some m.cls := findClass_of_methodNamed B.named
  have hS : va_S A s.heap s.heap [] := va_S.rf
  have hl := lv_entry ([.ref h0, .ref b]) (n := 5) (Nat.le_of_ble_eq_true rfl)
  rw [lg_entry_eq]
  generalize (lg_sl ([.ref h0, .ref b]) ++ List.replicate (5 - (lg_sl ([.ref h0, .ref b])).length) Slot.unset).toArray = ls at hl ⊢
  have hl : lv_has ls 5 [(0, .ref h0), (1, .ref b)] := hl
  have hI := hI.le (gp' := 0) (Nat.le_refl _) (Nat.le_refl _) (Nat.le_refl _) (Nat.le_refl _) (Nat.zero_le _)
  refine lv_iconst (v := 0) hx hb dX5_keepGivenAndPrices_0 (by decide) ?_
  refine lv_istore_n (lv' := [(2, .int 0), (0, .ref h0), (1, .ref b)]) hx hb dX5_keepGivenAndPrices_1 rfl hl (by decide) rfl (fun ls hl => ?_)
  refine k_lx (pcx := 31) (fun n H locs ls => ∃ (fva : Nat → va_E) (gpv : Nat) (j : Nat), sn b - j = n ∧ cI K np nc ns lk lc tp cp gpv G J mk st ap kd sn L fva ∧ (j ≤ sn b) ∧ (j = gpv) ∧ va_P (dC, dI) vwCl (va_pl L fva) H ∧ va_S A s.heap H locs ∧ lv_has ls 5 [(0, .ref h0), (1, .ref b), (2, .int (nI j))]) (fun H locs ls => ∃ (fva : Nat → va_E) (gpv : Nat) (j : Nat), cI K np nc ns lk lc tp cp gpv G J mk st ap kd sn L fva ∧ (sn b = gpv) ∧ va_P (dC, dI) vwCl (va_pl L fva) H ∧ va_S A s.heap H locs ∧ lv_has ls 5 [(0, .ref h0), (1, .ref b), (2, .int (nI j))]) (fun H locs ls hI_ => ?_) (fun n H locs ls hI_ hEa iha => ?_) _ _ _ _ ⟨f, 0, 0, rfl, hI, by omega, rfl, hP, hS, lv_sub hl [1, 2, 0] rfl⟩
  · skip
    obtain ⟨fva, gpv, j, hI, hcj, hP, hS, hl⟩ := hI_
    have hD : va_D A (va_pl L fva) := g_D hLn (fun a h => by rw [← hAe]; exact h) fva
    subst hcj
    refine lv_aload_n hx hb dX5_keepGivenAndPrices_31 rfl (lv_at hl 0 rfl) ?_
    obtain ⟨fs1, b_2, hF1, hv1, hm_b_2, hk_b_2⟩ := hI.gR hm_h0 hk_h0 4 (ci := 5) (t := 6) ⟨rfl, rfl, by decide, rfl⟩
    refine g_get (ci := 5) (v := .ref b_2) (C := RX5) (T := TX5) (N := 17) hx hb hts uB5 hown hK hP hm_h0 hF1 rfl 4 (by decide) wm_392 hv1 dX5_keepGivenAndPrices_32 ?_
    obtain ⟨fs3, hF3, -, -⟩ := hI.o hm_b_2 hk_b_2 rfl (ci := 1) rfl rfl
    refine gc_Rl (ci := 1) ⟨hx, hb, hml, hown, hts⟩ (k_X1_bestSum l dC dI K L fva hI b_2 hm_b_2 hk_b_2) 0 wm_437 wm_262 wm_263 wm_238 wm_264 (by decide +kernel) ⟨Nat.le_of_ble_eq_true rfl, Nat.le_of_ble_eq_true rfl⟩ hK rfl hm_b_2 hF3 rfl hl.1 rfl (Nat.le_of_ble_eq_true rfl) dX5_keepGivenAndPrices_35 ⟨Nat.le_of_ble_eq_true rfl, Nat.le_of_ble_eq_true rfl⟩ hS hP (fun r_4 H locs hpr_4 hP hS => ?_)
    refine lv_lstore_n (lv' := [(2, .long r_4), (0, .ref h0), (1, .ref b)]) hx hb dX5_keepGivenAndPrices_38 rfl hl (by decide) rfl (fun ls hl => ?_)
    refine lv_iconst (v := 0) hx hb dX5_keepGivenAndPrices_39 (by decide) ?_
    refine lv_istore (lv' := [(4, .int 0), (2, .long r_4), (0, .ref h0), (1, .ref b)]) hx hb dX5_keepGivenAndPrices_40 hl (by decide) rfl (fun ls hl => ?_)
    refine k_lx (pcx := 87) (fun n H locs ls => ∃ (fvb : Nat → va_E) (tpv : Nat) (cpv : Nat) (j : Nat) (bs9 : Int64), sn b - j = n ∧ cI K np nc ns lk lc tpv cpv (sn b) G J mk st ap kd sn L fvb ∧ (j ≤ sn b) ∧ va_P (dC, dI) vwCl (va_pl L fvb) H ∧ va_S A s.heap H locs ∧ lv_has ls 5 [(0, .ref h0), (1, .ref b), (2, .long bs9), (4, .int (nI j))]) (fun H locs ls => ∃ (fvb : Nat → va_E) (tpv : Nat) (cpv : Nat) (j : Nat) (bs9 : Int64), cI K np nc ns lk lc tpv cpv (sn b) G J mk st ap kd sn L fvb ∧ (j ≤ sn b) ∧ va_P (dC, dI) vwCl (va_pl L fvb) H ∧ va_S A s.heap H locs ∧ lv_has ls 5 [(0, .ref h0), (1, .ref b), (2, .long bs9), (4, .int (nI j))]) (fun H locs ls hI_ => ?_) (fun n H locs ls hI_ hEb ihb => ?_) _ _ _ _ ⟨fva, tp, cp, 0, _, rfl, hI, by omega, hP, hS, lv_sub hl [2, 3, 1, 0] rfl⟩
    · skip
      obtain ⟨fvb, tpv, cpv, j, bs9, hI, hj, hP, hS, hl⟩ := hI_
      have hD : va_D A (va_pl L fvb) := g_D hLn (fun a h => by rw [← hAe]; exact h) fvb
      exact W.vret hx hb hr (fun t ht hW => ⟨⟨fvb, rfl, ⟨tpv, cpv, hI⟩, by show va_P (dC, dI) vwCl (va_pl L fvb) t.heap; rw [ht]; exact hP⟩, hS.F ht⟩) hS.2.2 dX5_keepGivenAndPrices_87
    · skip
      obtain ⟨fvb, tpv, cpv, j, bs9, hmub, hI, hj, hP, hS, hl⟩ := hI_
      have hD : va_D A (va_pl L fvb) := g_D hLn (fun a h => by rw [← hAe]; exact h) fvb
      refine lv_iload hx hb dX5_keepGivenAndPrices_42 (lv_at hl 3 rfl) ?_
      refine lv_aload_n hx hb dX5_keepGivenAndPrices_44 rfl (lv_at hl 1 rfl) ?_
      obtain ⟨fs5, hF5, hv5, hq1_5, hq4_5⟩ := hI.g5 hm_b hk_b 1 (ci := 2) ⟨rfl, rfl, by decide, rfl⟩
      refine g_get (ci := 2) (v := .int (nI (sn b))) (C := RX2) (T := TX2) (N := 4) hx hb hts uB2 hown hK hP hm_b hF5 rfl 1 (by decide) wm_397 hv5 dX5_keepGivenAndPrices_45 ?_
      refine lv_icmp_ge (tgt := 87) hx hb dX5_keepGivenAndPrices_48 (by decide) (fun c_6 => ?_) (fun c_6 => ?_)
      · skip
        have nc_6 : (sn b) ≤ j := (bn_le (a := (sn b)) (b := j) (by omega) (by omega)).mp (show nI (sn b) ≤ nI j from c_6)
        exact hEb _ _ _ ⟨fvb, tpv, cpv, j, bs9, hI, hj, hP, hS, lv_sub hl [0, 1, 2, 3] rfl⟩
      · skip
        have nc_6 : ¬ ((sn b) ≤ j) := fun q => c_6 (show nI (sn b) ≤ nI j from (bn_le (a := (sn b)) (b := j) (by omega) (by omega)).mpr q)
        refine lv_aload_n hx hb dX5_keepGivenAndPrices_51 rfl (lv_at hl 0 rfl) ?_
        obtain ⟨fs7, b_8, hF7, hv7, hm_b_8, hk_b_8⟩ := hI.gR hm_h0 hk_h0 6 (ci := 5) (t := 8) ⟨rfl, rfl, by decide, rfl⟩
        refine g_get (ci := 5) (v := .ref b_8) (C := RX5) (T := TX5) (N := 17) hx hb hts uB5 hown hK hP hm_h0 hF7 rfl 6 (by decide) wm_438 hv7 dX5_keepGivenAndPrices_52 ?_
        refine lv_iload hx hb dX5_keepGivenAndPrices_55 (lv_at hl 3 rfl) ?_
        refine lv_aload_n hx hb dX5_keepGivenAndPrices_57 rfl (lv_at hl 0 rfl) ?_
        obtain ⟨fs9, b_10, hF9, hv9, hm_b_10, hk_b_10⟩ := hI.gR hm_h0 hk_h0 5 (ci := 5) (t := 7) ⟨rfl, rfl, by decide, rfl⟩
        refine g_get (ci := 5) (v := .ref b_10) (C := RX5) (T := TX5) (N := 17) hx hb hts uB5 hown hK hP hm_h0 hF9 rfl 5 (by decide) wm_424 hv9 dX5_keepGivenAndPrices_58 ?_
        refine lv_iload hx hb dX5_keepGivenAndPrices_61 (lv_at hl 3 rfl) ?_
        obtain ⟨g11, hF11, hgz11⟩ := hI.a7 hm_b_10 hk_b_10
        refine g_iald hx hb hK hP hm_b_10 hF11 (vp_in_nI (by omega) (by decide)) dX5_keepGivenAndPrices_63 ?_
        refine lv_topi (fun x_12 ex_12 => ?_)
        rw [nI_clamp (by omega)] at ex_12
        have hVx_12 : vld nc x_12 := by rw [ex_12]; exact hgz11 j (by omega)
        refine lv_iconst (v := (-1)) hx hb dX5_keepGivenAndPrices_64 (by decide) ?_
        refine lv_icmp_ne (tgt := 72) hx hb dX5_keepGivenAndPrices_65 (by decide) (fun c_13 => ?_) (fun c_13 => ?_)
        · skip
          refine lv_aload_n hx hb dX5_keepGivenAndPrices_72 rfl (lv_at hl 0 rfl) ?_
          refine lv_iload hx hb dX5_keepGivenAndPrices_73 (lv_at hl 3 rfl) ?_
          refine lv_aload_n hx hb dX5_keepGivenAndPrices_75 rfl (lv_at hl 1 rfl) ?_
          refine lv_lload_n hx hb dX5_keepGivenAndPrices_76 rfl (lv_at hl 2 rfl) ?_
          obtain ⟨fs14, hF14, -, -⟩ := hI.o hm_h0 hk_h0 rfl (ci := 5) rfl rfl
          obtain ⟨cn, hcn, hce⟩ := hVx_12.resolve_left c_13
          have hgg : g11 j = nI cn := ex_12.symm.trans hce
          refine gc_Mi (ci := 5) ⟨hx, hb, hml, hown, hts⟩ (k_X5_priceAt l dC dI K L fvb hI h0 hm_h0 hk_h0 j b hm_b hk_b bs9 (by omega) hj5 hpk hj6 hof hnc b_10 hm_b_10 hk_b_10 g11 hF11 cn hgg hcn hLn) 3 wm_439 wm_440 wm_441 wm_67 wm_442 (by decide +kernel) ⟨Nat.le_of_ble_eq_true rfl, Nat.le_of_ble_eq_true rfl⟩ hK rfl hm_h0 hF14 rfl hl.1 rfl (Nat.le_of_ble_eq_true rfl) dX5_keepGivenAndPrices_77 ⟨Nat.le_of_ble_eq_true rfl, Nat.le_of_ble_eq_true rfl⟩ (fun a h => by rw [← hAe]; exact h) hS hP (fun r_15 fw_16 H locs hpw hP hS => ?_)
          obtain ⟨tp_17, cp_18, hI⟩ := hpw
          have hD : va_D A (va_pl L fw_16) := g_D hLn (fun a h => by rw [← hAe]; exact h) fw_16
          obtain ⟨g19, hF19⟩ := hI.a8 hm_b_8 hk_b_8
          refine g_iast hx hb hK hP hD hS hm_b_8 hF19 (vp_in_nI (by omega) (by decide)) dX5_keepGivenAndPrices_80 (fun H locs hP hD hS => ?_)
          obtain ⟨g_20, eg_20⟩ : ∃ z9, z9 = upd g19 (Int32.toNatClampNeg (nI j)) r_15 := ⟨_, rfl⟩
          rw [← eg_20] at hP hD
          rw [nI_clamp (by omega)] at eg_20
          obtain ⟨f_21, ef_21⟩ : ∃ z9, z9 = va_up fw_16 b_8 (.inl (K 0, 4, .inl g_20)) := ⟨_, rfl⟩
          have hI := hI.s8 hm_b_8 hk_b_8 g_20
          rw [← ef_21] at hP hD hI
          refine lv_iinc (v := nI (j + 1)) (lv' := [(4, .int (nI (j + 1))), (0, .ref h0), (1, .ref b), (2, .long bs9)]) hx hb dX5_keepGivenAndPrices_81 hl (k := 3) rfl (by exact nI_1 _) (by decide) rfl (fun ls hl => ?_)
          refine lv_goto (tgt := 42) hx hb dX5_keepGivenAndPrices_84 (by decide) ?_
          exact ihb _ (by omega) _ _ _ ⟨f_21, tp_17, cp_18, (j + 1), bs9, rfl, hI, by omega, hP, hS, lv_sub hl [1, 2, 3, 0] rfl⟩
        · skip
          refine lv_iconst (v := 0) hx hb dX5_keepGivenAndPrices_68 (by decide) ?_
          refine lv_goto (tgt := 80) hx hb dX5_keepGivenAndPrices_69 (by decide) ?_
          obtain ⟨g22, hF22⟩ := hI.a8 hm_b_8 hk_b_8
          refine g_iast hx hb hK hP hD hS hm_b_8 hF22 (vp_in_nI (by omega) (by decide)) dX5_keepGivenAndPrices_80 (fun H locs hP hD hS => ?_)
          obtain ⟨g_23, eg_23⟩ : ∃ z9, z9 = upd g22 (Int32.toNatClampNeg (nI j)) 0 := ⟨_, rfl⟩
          rw [← eg_23] at hP hD
          rw [nI_clamp (by omega)] at eg_23
          obtain ⟨f_24, ef_24⟩ : ∃ z9, z9 = va_up fvb b_8 (.inl (K 0, 4, .inl g_23)) := ⟨_, rfl⟩
          have hI := hI.s8 hm_b_8 hk_b_8 g_23
          rw [← ef_24] at hP hD hI
          refine lv_iinc (v := nI (j + 1)) (lv' := [(4, .int (nI (j + 1))), (0, .ref h0), (1, .ref b), (2, .long bs9)]) hx hb dX5_keepGivenAndPrices_81 hl (k := 3) rfl (by exact nI_1 _) (by decide) rfl (fun ls hl => ?_)
          refine lv_goto (tgt := 42) hx hb dX5_keepGivenAndPrices_84 (by decide) ?_
          exact ihb _ (by omega) _ _ _ ⟨f_24, tpv, cpv, (j + 1), bs9, rfl, hI, by omega, hP, hS, lv_sub hl [1, 2, 3, 0] rfl⟩
  · skip
    obtain ⟨fva, gpv, j, hmua, hI, hj, hcj, hP, hS, hl⟩ := hI_
    have hD : va_D A (va_pl L fva) := g_D hLn (fun a h => by rw [← hAe]; exact h) fva
    subst hcj
    refine lv_iload_n hx hb dX5_keepGivenAndPrices_2 rfl (lv_at hl 2 rfl) ?_
    refine lv_aload_n hx hb dX5_keepGivenAndPrices_3 rfl (lv_at hl 1 rfl) ?_
    obtain ⟨fs25, hF25, hv25, hq1_25, hq4_25⟩ := hI.g5 hm_b hk_b 1 (ci := 2) ⟨rfl, rfl, by decide, rfl⟩
    refine g_get (ci := 2) (v := .int (nI (sn b))) (C := RX2) (T := TX2) (N := 4) hx hb hts uB2 hown hK hP hm_b hF25 rfl 1 (by decide) wm_397 hv25 dX5_keepGivenAndPrices_4 ?_
    refine lv_icmp_ge (tgt := 31) hx hb dX5_keepGivenAndPrices_7 (by decide) (fun c_26 => ?_) (fun c_26 => ?_)
    · skip
      have nc_26 : (sn b) ≤ j := (bn_le (a := (sn b)) (b := j) (by omega) (by omega)).mp (show nI (sn b) ≤ nI j from c_26)
      exact hEa _ _ _ ⟨fva, j, j, hI, by omega, hP, hS, lv_sub hl [0, 1, 2] rfl⟩
    · skip
      have nc_26 : ¬ ((sn b) ≤ j) := fun q => c_26 (show nI (sn b) ≤ nI j from (bn_le (a := (sn b)) (b := j) (by omega) (by omega)).mpr q)
      refine lv_aload_n hx hb dX5_keepGivenAndPrices_10 rfl (lv_at hl 0 rfl) ?_
      obtain ⟨fs27, b_28, hF27, hv27, hm_b_28, hk_b_28⟩ := hI.gR hm_h0 hk_h0 5 (ci := 5) (t := 7) ⟨rfl, rfl, by decide, rfl⟩
      refine g_get (ci := 5) (v := .ref b_28) (C := RX5) (T := TX5) (N := 17) hx hb hts uB5 hown hK hP hm_h0 hF27 rfl 5 (by decide) wm_424 hv27 dX5_keepGivenAndPrices_11 ?_
      refine lv_iload_n hx hb dX5_keepGivenAndPrices_14 rfl (lv_at hl 2 rfl) ?_
      refine lv_aload_n hx hb dX5_keepGivenAndPrices_15 rfl (lv_at hl 0 rfl) ?_
      obtain ⟨fs29, b_30, hF29, hv29, hm_b_30, hk_b_30⟩ := hI.gR hm_h0 hk_h0 4 (ci := 5) (t := 6) ⟨rfl, rfl, by decide, rfl⟩
      refine g_get (ci := 5) (v := .ref b_30) (C := RX5) (T := TX5) (N := 17) hx hb hts uB5 hown hK hP hm_h0 hF29 rfl 4 (by decide) wm_392 hv29 dX5_keepGivenAndPrices_16 ?_
      obtain ⟨fs31, b_32, hF31, hv31, hm_b_32, hk_b_32⟩ := hI.gR hm_b_30 hk_b_30 0 (ci := 1) (t := 9) ⟨rfl, rfl, by decide, rfl⟩
      refine g_get (ci := 1) (v := .ref b_32) (C := RX1) (T := TX1) (N := 9) hx hb hts uB1 hown hK hP hm_b_30 hF31 rfl 0 (by decide) wm_423 hv31 dX5_keepGivenAndPrices_19 ?_
      refine lv_iload_n hx hb dX5_keepGivenAndPrices_22 rfl (lv_at hl 2 rfl) ?_
      obtain ⟨g33, hF33, hgz33⟩ := hI.a9 hm_b_32 hk_b_32
      refine g_iald hx hb hK hP hm_b_32 hF33 (vp_in_nI (by omega) (by decide)) dX5_keepGivenAndPrices_23 ?_
      refine lv_topi (fun x_34 ex_34 => ?_)
      rw [nI_clamp (by omega)] at ex_34
      have hVx_34 : vld nc x_34 := by rw [ex_34]; exact hgz33 j (by omega)
      obtain ⟨g35, hF35, hgz35⟩ := hI.a7 hm_b_28 hk_b_28
      refine g_iast hx hb hK hP hD hS hm_b_28 hF35 (vp_in_nI (by omega) (by decide)) dX5_keepGivenAndPrices_24 (fun H locs hP hD hS => ?_)
      obtain ⟨g_36, eg_36⟩ : ∃ z9, z9 = upd g35 (Int32.toNatClampNeg (nI j)) x_34 := ⟨_, rfl⟩
      rw [← eg_36] at hP hD
      rw [nI_clamp (by omega)] at eg_36
      obtain ⟨f_37, ef_37⟩ : ∃ z9, z9 = va_up fva b_28 (.inl (K 0, 4, .inl g_36)) := ⟨_, rfl⟩
      have hI := hI.s7 hm_b_28 hk_b_28 (gp' := j + 1) (vldSt hgz35 hVx_34 eg_36 (fun i hi => by omega))
      rw [← ef_37] at hP hD hI
      refine lv_iinc (v := nI (j + 1)) (lv' := [(2, .int (nI (j + 1))), (0, .ref h0), (1, .ref b)]) hx hb dX5_keepGivenAndPrices_25 hl (k := 2) rfl (by exact nI_1 _) (by decide) rfl (fun ls hl => ?_)
      refine lv_goto (tgt := 2) hx hb dX5_keepGivenAndPrices_28 (by decide) ?_
      exact iha _ (by omega) _ _ _ ⟨f_37, (j + 1), (j + 1), rfl, hI, by omega, rfl, hP, hS, lv_sub hl [1, 2, 0] rfl⟩
