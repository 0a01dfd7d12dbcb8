set_option maxHeartbeats 4000000 in
set_option maxRecDepth 100000 in
theorem um_apart (l : Launch) (dC : Nat → ClassId) (dI : Nat → Nat → Nat) (K : Nat → ClassId) (L : List Nat) (f : Nat → va_E) (rt : Nat → Nat) {fm : List Value} (hC : mC rt L f fm) {g_apart : Nat → Int32} (F_apart : f (rt 21) = .inl (K 2, 1600, .inl g_apart)) {nc : Nat} (I_campaigns : fm[9]? = some (.int (nI nc))) (x : Int32) (y : Int32) (z : Int32) (hnc : nc ≤ 40) (hLn : gN L) : gMi l yX6_apart cX6_apart 5 2 (dC, dI) K L f [.ref (rt 51), .int x, .int y, .int z] (fun r f' => (¬ ((0 ≤ x ∧ x ≤ nI nc - 1) ∧ (0 ≤ y ∧ y ≤ nI nc - 1) ∧ ¬ x = y ∧ (0 ≤ z ∧ z ≤ 1)) ∧ r = (-1) ∧ f' = f) ∨ (((0 ≤ x ∧ x ≤ nI nc - 1) ∧ (0 ≤ y ∧ y ≤ nI nc - 1) ∧ ¬ x = y ∧ (0 ≤ z ∧ z ≤ 1)) ∧ r = (if g_apart (Int32.toNatClampNeg (40 * x + y)) = 0 then 0 else 1) ∧ f' = va_up (va_up f (rt 21) (.inl (K 2, 1600, .inl (upd g_apart (Int32.toNatClampNeg (40 * x + y)) (vp_nar .boolean z))))) (rt 21) (.inl (K 2, 1600, .inl (upd (upd g_apart (Int32.toNatClampNeg (40 * x + y)) (vp_nar .boolean z)) (Int32.toNatClampNeg (40 * y + x)) (vp_nar .boolean z)))))) := by
  refine Met.ofW (cc := cX6_apart) (maxL := 5) (ret := (some .int)) (by decide) rfl ?_
  intro p e s m args below meth c s₁ B hml hv
  obtain ⟨rfl, hP, hK⟩ := hv
  have F_m := hC.2.1
  have hD : va_D (fun q : Nat => q ∈ L) (va_pl L f) := g_D hLn (fun a h => h) f
  generalize hAe : (fun q : Nat => q ∈ L) = A at hD ⊢
  have hx := B.exec
  have hb := B.bytes
  have hr := B.returns
  have hlocks := B.notSynchronized
  have hts0 := atoms_spec (ws := Cond.code yX6_apart cX6_apart 5 (some .int) :: lw_B) B.pre
  have hts : ∀ w ∈ lw_B, w.before _ s = true := fun w h => hts0 w (List.mem_cons_of_mem _ h)
  have hown : s.vm.findClass RX6 = some m.cls := findClass_of_methodNamed B.named
  have hS : va_S A s.heap s.heap [] := va_S.rf
  have hl := lv_entry ([.ref (rt 51), .int x, .int y, .int z]) (n := 5) (Nat.le_of_ble_eq_true rfl)
  rw [lg_entry_eq]
  generalize (lg_sl ([.ref (rt 51), .int x, .int y, .int z]) ++ List.replicate (5 - (lg_sl ([.ref (rt 51), .int x, .int y, .int z])).length) Slot.unset).toArray = ls at hl ⊢
  have hl : lv_has ls 5 [(0, .ref (rt 51)), (1, .int x), (2, .int y), (3, .int z)] := hl
  refine lv_aload_n hx hb dX6_apart_0 rfl (lv_at hl 0 rfl) ?_
  refine lv_iload_n hx hb dX6_apart_1 rfl (lv_at hl 1 rfl) ?_
  refine gc_R (ci := 6) ⟨hx, hb, hml, hown, hts⟩ (m_isCampaign l dC dI K L f rt hC I_campaigns x) 1 wm_81 wm_82 wm_83 wm_8 wm_84 (by decide +kernel) ⟨Nat.le_of_ble_eq_true rfl, Nat.le_of_ble_eq_true rfl⟩ hK rfl (hC.1.1 51 (by decide)) F_m rfl hl.1 rfl (Nat.le_of_ble_eq_true rfl) dX6_apart_2 ⟨Nat.le_of_ble_eq_true rfl, Nat.le_of_ble_eq_true rfl⟩ hS hP (fun r_1 H locs hpr_1 hP hS => ?_)
  refine lv_if_eq (tgt := 30) hx hb dX6_apart_5 (by decide) (fun c_2 => ?_) (fun c_2 => ?_)
  · skip
    have g_2 := k_ff hpr_1 c_2
    refine lv_iconst (v := (-1)) hx hb dX6_apart_30 (by decide) ?_
    exact W.iret (v := (-1)) hx hb hr (fun t ht hW => ⟨⟨(-1), f, rfl, (Or.inl ⟨(by simp only [Int32.lt_iff_toInt_lt, Int32.le_iff_toInt_le, ← Int32.toInt_inj, Int32.reduceToInt] at g_2 ⊢; omega), rfl, rfl⟩), by show va_P (dC, dI) vwCl (va_pl L f) t.heap; rw [ht]; exact hP⟩, hS.F ht⟩) hS.2.2 dX6_apart_31
  · skip
    have g_2 := k_ft hpr_1 c_2
    obtain ⟨c1, hc1, rfl⟩ := k_ix g_2 (by omega)
    refine lv_aload_n hx hb dX6_apart_8 rfl (lv_at hl 0 rfl) ?_
    refine lv_iload_n hx hb dX6_apart_9 rfl (lv_at hl 2 rfl) ?_
    refine gc_R (ci := 6) ⟨hx, hb, hml, hown, hts⟩ (m_isCampaign l dC dI K L f rt hC I_campaigns y) 1 wm_81 wm_82 wm_83 wm_8 wm_84 (by decide +kernel) ⟨Nat.le_of_ble_eq_true rfl, Nat.le_of_ble_eq_true rfl⟩ hK rfl (hC.1.1 51 (by decide)) F_m rfl hl.1 rfl (Nat.le_of_ble_eq_true rfl) dX6_apart_10 ⟨Nat.le_of_ble_eq_true rfl, Nat.le_of_ble_eq_true rfl⟩ hS hP (fun r_3 H locs hpr_3 hP hS => ?_)
    refine lv_if_eq (tgt := 30) hx hb dX6_apart_13 (by decide) (fun c_4 => ?_) (fun c_4 => ?_)
    · skip
      have g_4 := k_ff hpr_3 c_4
      refine lv_iconst (v := (-1)) hx hb dX6_apart_30 (by decide) ?_
      exact W.iret (v := (-1)) hx hb hr (fun t ht hW => ⟨⟨(-1), f, rfl, (Or.inl ⟨(by simp only [Int32.lt_iff_toInt_lt, Int32.le_iff_toInt_le, ← Int32.toInt_inj, Int32.reduceToInt] at g_2 g_4 ⊢; omega), rfl, rfl⟩), by show va_P (dC, dI) vwCl (va_pl L f) t.heap; rw [ht]; exact hP⟩, hS.F ht⟩) hS.2.2 dX6_apart_31
    · skip
      have g_4 := k_ft hpr_3 c_4
      obtain ⟨c2, hc2, rfl⟩ := k_ix g_4 (by omega)
      refine lv_iload_n hx hb dX6_apart_16 rfl (lv_at hl 1 rfl) ?_
      refine lv_iload_n hx hb dX6_apart_17 rfl (lv_at hl 2 rfl) ?_
      refine lv_icmp_eq (tgt := 30) hx hb dX6_apart_18 (by decide) (fun c_5 => ?_) (fun c_5 => ?_)
      · skip
        refine lv_iconst (v := (-1)) hx hb dX6_apart_30 (by decide) ?_
        exact W.iret (v := (-1)) hx hb hr (fun t ht hW => ⟨⟨(-1), f, rfl, (Or.inl ⟨(by simp only [Int32.lt_iff_toInt_lt, Int32.le_iff_toInt_le, ← Int32.toInt_inj, Int32.reduceToInt] at g_2 g_4 c_5 ⊢; omega), rfl, rfl⟩), by show va_P (dC, dI) vwCl (va_pl L f) t.heap; rw [ht]; exact hP⟩, hS.F ht⟩) hS.2.2 dX6_apart_31
      · skip
        refine lv_iload_n hx hb dX6_apart_21 rfl (lv_at hl 3 rfl) ?_
        refine lv_iconst (v := 0) hx hb dX6_apart_22 (by decide) ?_
        refine lv_iconst (v := 1) hx hb dX6_apart_23 (by decide) ?_
        refine k_S ⟨hx, hb, hml, hown, hts⟩ (c_in l z 0 1) 3 wm_69 wm_70 wm_8 wm_71 (by decide +kernel) ⟨Nat.le_of_ble_eq_true rfl, Nat.le_of_ble_eq_true rfl⟩ rfl hl.1 rfl (Nat.le_of_ble_eq_true rfl) dX6_apart_24 ⟨Nat.le_of_ble_eq_true rfl, Nat.le_of_ble_eq_true rfl⟩ hS hP (fun r_6 H locs hpr_6 hP hS => ?_)
        refine lv_if_ne (tgt := 32) hx hb dX6_apart_27 (by decide) (fun c_7 => ?_) (fun c_7 => ?_)
        · skip
          have g_7 := k_ft hpr_6 c_7
          refine lv_aload_n hx hb dX6_apart_32 rfl (lv_at hl 0 rfl) ?_
          refine g_get (ci := 6) (v := .ref (rt 21)) (C := RX6) (T := TX6) (N := 51) hx hb hts uB6 hown hK hP (hC.1.1 51 (by decide)) F_m rfl 21 (by decide) wm_49 (hC.2.2.2 21 (by decide)) dX6_apart_33 ?_
          refine lv_bipush (v := 40) hx hb dX6_apart_36 (by decide) ?_
          refine lv_iload_n hx hb dX6_apart_38 rfl (lv_at hl 1 rfl) ?_
          refine lv_imul hx hb dX6_apart_39 ?_
          refine lv_topi (fun x_8 ex_8 => ?_)
          refine lv_iload_n hx hb dX6_apart_40 rfl (lv_at hl 2 rfl) ?_
          refine lv_iadd hx hb dX6_apart_41 ?_
          refine lv_topi (fun x_9 ex_9 => ?_)
          refine g_zald hx hb hK hP (hC.1.1 21 (by decide)) F_apart (by subst ex_9 ex_8; first | exact k_ap (by omega) (vp_in_nI (by omega) (by decide))) dX6_apart_42 ?_
          refine lv_topi (fun x_10 ex_10 => ?_)
          refine lv_if_eq (tgt := 50) hx hb dX6_apart_43 (by decide) (fun c_11 => ?_) (fun c_11 => ?_)
          · skip
            refine lv_iconst (v := 0) hx hb dX6_apart_50 (by decide) ?_
            refine lv_istore (lv' := [(4, .int 0), (0, .ref (rt 51)), (1, .int (nI c1)), (2, .int (nI c2)), (3, .int z)]) hx hb dX6_apart_51 hl (by decide) rfl (fun ls hl => ?_)
            refine lv_aload_n hx hb dX6_apart_53 rfl (lv_at hl 1 rfl) ?_
            refine g_get (ci := 6) (v := .ref (rt 21)) (C := RX6) (T := TX6) (N := 51) hx hb hts uB6 hown hK hP (hC.1.1 51 (by decide)) F_m rfl 21 (by decide) wm_49 (hC.2.2.2 21 (by decide)) dX6_apart_54 ?_
            refine lv_bipush (v := 40) hx hb dX6_apart_57 (by decide) ?_
            refine lv_iload_n hx hb dX6_apart_59 rfl (lv_at hl 2 rfl) ?_
            refine lv_imul hx hb dX6_apart_60 ?_
            refine lv_topi (fun x_12 ex_12 => ?_)
            refine lv_iload_n hx hb dX6_apart_61 rfl (lv_at hl 3 rfl) ?_
            refine lv_iadd hx hb dX6_apart_62 ?_
            refine lv_topi (fun x_13 ex_13 => ?_)
            refine lv_iload_n hx hb dX6_apart_63 rfl (lv_at hl 4 rfl) ?_
            refine lv_iconst (v := 1) hx hb dX6_apart_64 (by decide) ?_
            refine lv_icmp_ne (tgt := 72) hx hb dX6_apart_65 (by decide) (fun c_14 => ?_) (fun c_14 => ?_)
            · skip
              refine lv_iconst (v := 0) hx hb dX6_apart_72 (by decide) ?_
              refine g_zast hx hb hK hP hD hS (hC.1.1 21 (by decide)) F_apart (by subst ex_13 ex_12; first | exact k_ap (by omega) (vp_in_nI (by omega) (by decide))) dX6_apart_73 (fun H locs hP hD hS => ?_)
              obtain ⟨g_15, eg_15⟩ : ∃ z9, z9 = upd g_apart (Int32.toNatClampNeg x_13) (vp_nar .boolean 0) := ⟨_, rfl⟩
              rw [← eg_15] at hP hD
              obtain ⟨f_16, ef_16⟩ : ∃ z9, z9 = va_up f (rt 21) (.inl (K 2, 1600, .inl g_15)) := ⟨_, rfl⟩
              have hP : va_P (dC, dI) vwCl (va_pl L f_16) H := by rw [ef_16]; exact hP
              have hD : va_D A (va_pl L f_16) := by rw [ef_16]; exact hD
              have F_m_ : f_16 (rt 51) = .inr (6, fm) := by rw [ef_16, va_up_ne _ _ (fun q => absurd (hC.1.2 51 (by decide) 21 (by decide) q) (by decide))]; exact F_m
              have F_m := F_m_
              have F_apart : f_16 (rt 21) = .inl (K 2, 1600, .inl g_15) := by rw [ef_16, va_up_self]
              have hC : mC rt L f_16 fm := ⟨hC.1, F_m, hC.2.2.1, hC.2.2.2⟩
              refine lv_aload_n hx hb dX6_apart_74 rfl (lv_at hl 1 rfl) ?_
              refine g_get (ci := 6) (v := .ref (rt 21)) (C := RX6) (T := TX6) (N := 51) hx hb hts uB6 hown hK hP (hC.1.1 51 (by decide)) F_m rfl 21 (by decide) wm_49 (hC.2.2.2 21 (by decide)) dX6_apart_75 ?_
              refine lv_bipush (v := 40) hx hb dX6_apart_78 (by decide) ?_
              refine lv_iload_n hx hb dX6_apart_80 rfl (lv_at hl 3 rfl) ?_
              refine lv_imul hx hb dX6_apart_81 ?_
              refine lv_topi (fun x_17 ex_17 => ?_)
              refine lv_iload_n hx hb dX6_apart_82 rfl (lv_at hl 2 rfl) ?_
              refine lv_iadd hx hb dX6_apart_83 ?_
              refine lv_topi (fun x_18 ex_18 => ?_)
              refine lv_iload_n hx hb dX6_apart_84 rfl (lv_at hl 4 rfl) ?_
              refine lv_iconst (v := 1) hx hb dX6_apart_85 (by decide) ?_
              refine lv_icmp_ne (tgt := 93) hx hb dX6_apart_86 (by decide) (fun c_19 => ?_) (fun c_19 => ?_)
              · skip
                refine lv_iconst (v := 0) hx hb dX6_apart_93 (by decide) ?_
                refine g_zast hx hb hK hP hD hS (hC.1.1 21 (by decide)) F_apart (by subst ex_18 ex_17; first | exact k_ap (by omega) (vp_in_nI (by omega) (by decide))) dX6_apart_94 (fun H locs hP hD hS => ?_)
                obtain ⟨g_20, eg_20⟩ : ∃ z9, z9 = upd g_15 (Int32.toNatClampNeg x_18) (vp_nar .boolean 0) := ⟨_, rfl⟩
                rw [← eg_20] at hP hD
                obtain ⟨f_21, ef_21⟩ : ∃ z9, z9 = va_up f_16 (rt 21) (.inl (K 2, 1600, .inl g_20)) := ⟨_, rfl⟩
                have hP : va_P (dC, dI) vwCl (va_pl L f_21) H := by rw [ef_21]; exact hP
                have hD : va_D A (va_pl L f_21) := by rw [ef_21]; exact hD
                have F_m_ : f_21 (rt 51) = .inr (6, fm) := by rw [ef_21, va_up_ne _ _ (fun q => absurd (hC.1.2 51 (by decide) 21 (by decide) q) (by decide))]; exact F_m
                have F_m := F_m_
                have F_apart : f_21 (rt 21) = .inl (K 2, 1600, .inl g_20) := by rw [ef_21, va_up_self]
                have hC : mC rt L f_21 fm := ⟨hC.1, F_m, hC.2.2.1, hC.2.2.2⟩
                refine lv_iload hx hb dX6_apart_95 (lv_at hl 0 rfl) ?_
                exact W.iret (v := 0) hx hb hr (fun t ht hW => ⟨⟨0, f_21, rfl, (Or.inr ⟨(by simp only [Int32.lt_iff_toInt_lt, Int32.le_iff_toInt_le, ← Int32.toInt_inj, Int32.reduceToInt] at g_2 g_4 c_5 g_7 ⊢; omega), (by rw [show g_apart (Int32.toNatClampNeg (40 * nI c1 + nI c2)) = x_10 by subst ex_10 ex_9 ex_8; rfl, if_pos c_11]), by rw [ef_21, eg_20, ef_16, eg_15, ((k_nar01 g_7).resolve_right c_14)]; subst ex_18 ex_17 ex_13 ex_12 ex_10 ex_9 ex_8; rfl⟩), by show va_P (dC, dI) vwCl (va_pl L f_21) t.heap; rw [ht]; exact hP⟩, hS.F ht⟩) hS.2.2 dX6_apart_97
              · skip
                exact absurd c_19 c_14
            · skip
              refine lv_iconst (v := 1) hx hb dX6_apart_68 (by decide) ?_
              refine lv_goto (tgt := 73) hx hb dX6_apart_69 (by decide) ?_
              refine g_zast hx hb hK hP hD hS (hC.1.1 21 (by decide)) F_apart (by subst ex_13 ex_12; first | exact k_ap (by omega) (vp_in_nI (by omega) (by decide))) dX6_apart_73 (fun H locs hP hD hS => ?_)
              obtain ⟨g_22, eg_22⟩ : ∃ z9, z9 = upd g_apart (Int32.toNatClampNeg x_13) (vp_nar .boolean 1) := ⟨_, rfl⟩
              rw [← eg_22] at hP hD
              obtain ⟨f_23, ef_23⟩ : ∃ z9, z9 = va_up f (rt 21) (.inl (K 2, 1600, .inl g_22)) := ⟨_, rfl⟩
              have hP : va_P (dC, dI) vwCl (va_pl L f_23) H := by rw [ef_23]; exact hP
              have hD : va_D A (va_pl L f_23) := by rw [ef_23]; exact hD
              have F_m_ : f_23 (rt 51) = .inr (6, fm) := by rw [ef_23, va_up_ne _ _ (fun q => absurd (hC.1.2 51 (by decide) 21 (by decide) q) (by decide))]; exact F_m
              have F_m := F_m_
              have F_apart : f_23 (rt 21) = .inl (K 2, 1600, .inl g_22) := by rw [ef_23, va_up_self]
              have hC : mC rt L f_23 fm := ⟨hC.1, F_m, hC.2.2.1, hC.2.2.2⟩
              refine lv_aload_n hx hb dX6_apart_74 rfl (lv_at hl 1 rfl) ?_
              refine g_get (ci := 6) (v := .ref (rt 21)) (C := RX6) (T := TX6) (N := 51) hx hb hts uB6 hown hK hP (hC.1.1 51 (by decide)) F_m rfl 21 (by decide) wm_49 (hC.2.2.2 21 (by decide)) dX6_apart_75 ?_
              refine lv_bipush (v := 40) hx hb dX6_apart_78 (by decide) ?_
              refine lv_iload_n hx hb dX6_apart_80 rfl (lv_at hl 3 rfl) ?_
              refine lv_imul hx hb dX6_apart_81 ?_
              refine lv_topi (fun x_24 ex_24 => ?_)
              refine lv_iload_n hx hb dX6_apart_82 rfl (lv_at hl 2 rfl) ?_
              refine lv_iadd hx hb dX6_apart_83 ?_
              refine lv_topi (fun x_25 ex_25 => ?_)
              refine lv_iload_n hx hb dX6_apart_84 rfl (lv_at hl 4 rfl) ?_
              refine lv_iconst (v := 1) hx hb dX6_apart_85 (by decide) ?_
              refine lv_icmp_ne (tgt := 93) hx hb dX6_apart_86 (by decide) (fun c_26 => ?_) (fun c_26 => ?_)
              · skip
                exact absurd c_14 c_26
              · skip
                refine lv_iconst (v := 1) hx hb dX6_apart_89 (by decide) ?_
                refine lv_goto (tgt := 94) hx hb dX6_apart_90 (by decide) ?_
                refine g_zast hx hb hK hP hD hS (hC.1.1 21 (by decide)) F_apart (by subst ex_25 ex_24; first | exact k_ap (by omega) (vp_in_nI (by omega) (by decide))) dX6_apart_94 (fun H locs hP hD hS => ?_)
                obtain ⟨g_27, eg_27⟩ : ∃ z9, z9 = upd g_22 (Int32.toNatClampNeg x_25) (vp_nar .boolean 1) := ⟨_, rfl⟩
                rw [← eg_27] at hP hD
                obtain ⟨f_28, ef_28⟩ : ∃ z9, z9 = va_up f_23 (rt 21) (.inl (K 2, 1600, .inl g_27)) := ⟨_, rfl⟩
                have hP : va_P (dC, dI) vwCl (va_pl L f_28) H := by rw [ef_28]; exact hP
                have hD : va_D A (va_pl L f_28) := by rw [ef_28]; exact hD
                have F_m_ : f_28 (rt 51) = .inr (6, fm) := by rw [ef_28, va_up_ne _ _ (fun q => absurd (hC.1.2 51 (by decide) 21 (by decide) q) (by decide))]; exact F_m
                have F_m := F_m_
                have F_apart : f_28 (rt 21) = .inl (K 2, 1600, .inl g_27) := by rw [ef_28, va_up_self]
                have hC : mC rt L f_28 fm := ⟨hC.1, F_m, hC.2.2.1, hC.2.2.2⟩
                refine lv_iload hx hb dX6_apart_95 (lv_at hl 0 rfl) ?_
                exact W.iret (v := 0) hx hb hr (fun t ht hW => ⟨⟨0, f_28, rfl, (Or.inr ⟨(by simp only [Int32.lt_iff_toInt_lt, Int32.le_iff_toInt_le, ← Int32.toInt_inj, Int32.reduceToInt] at g_2 g_4 c_5 g_7 ⊢; omega), (by rw [show g_apart (Int32.toNatClampNeg (40 * nI c1 + nI c2)) = x_10 by subst ex_10 ex_9 ex_8; rfl, if_pos c_11]), by rw [ef_28, eg_27, ef_23, eg_22, (show z = 1 from c_14)]; subst ex_25 ex_24 ex_13 ex_12 ex_10 ex_9 ex_8; rfl⟩), by show va_P (dC, dI) vwCl (va_pl L f_28) t.heap; rw [ht]; exact hP⟩, hS.F ht⟩) hS.2.2 dX6_apart_97
          · skip
            refine lv_iconst (v := 1) hx hb dX6_apart_46 (by decide) ?_
            refine lv_goto (tgt := 51) hx hb dX6_apart_47 (by decide) ?_
            refine lv_istore (lv' := [(4, .int 1), (0, .ref (rt 51)), (1, .int (nI c1)), (2, .int (nI c2)), (3, .int z)]) hx hb dX6_apart_51 hl (by decide) rfl (fun ls hl => ?_)
            refine lv_aload_n hx hb dX6_apart_53 rfl (lv_at hl 1 rfl) ?_
            refine g_get (ci := 6) (v := .ref (rt 21)) (C := RX6) (T := TX6) (N := 51) hx hb hts uB6 hown hK hP (hC.1.1 51 (by decide)) F_m rfl 21 (by decide) wm_49 (hC.2.2.2 21 (by decide)) dX6_apart_54 ?_
            refine lv_bipush (v := 40) hx hb dX6_apart_57 (by decide) ?_
            refine lv_iload_n hx hb dX6_apart_59 rfl (lv_at hl 2 rfl) ?_
            refine lv_imul hx hb dX6_apart_60 ?_
            refine lv_topi (fun x_29 ex_29 => ?_)
            refine lv_iload_n hx hb dX6_apart_61 rfl (lv_at hl 3 rfl) ?_
            refine lv_iadd hx hb dX6_apart_62 ?_
            refine lv_topi (fun x_30 ex_30 => ?_)
            refine lv_iload_n hx hb dX6_apart_63 rfl (lv_at hl 4 rfl) ?_
            refine lv_iconst (v := 1) hx hb dX6_apart_64 (by decide) ?_
            refine lv_icmp_ne (tgt := 72) hx hb dX6_apart_65 (by decide) (fun c_31 => ?_) (fun c_31 => ?_)
            · skip
              refine lv_iconst (v := 0) hx hb dX6_apart_72 (by decide) ?_
              refine g_zast hx hb hK hP hD hS (hC.1.1 21 (by decide)) F_apart (by subst ex_30 ex_29; first | exact k_ap (by omega) (vp_in_nI (by omega) (by decide))) dX6_apart_73 (fun H locs hP hD hS => ?_)
              obtain ⟨g_32, eg_32⟩ : ∃ z9, z9 = upd g_apart (Int32.toNatClampNeg x_30) (vp_nar .boolean 0) := ⟨_, rfl⟩
              rw [← eg_32] at hP hD
              obtain ⟨f_33, ef_33⟩ : ∃ z9, z9 = va_up f (rt 21) (.inl (K 2, 1600, .inl g_32)) := ⟨_, rfl⟩
              have hP : va_P (dC, dI) vwCl (va_pl L f_33) H := by rw [ef_33]; exact hP
              have hD : va_D A (va_pl L f_33) := by rw [ef_33]; exact hD
              have F_m_ : f_33 (rt 51) = .inr (6, fm) := by rw [ef_33, va_up_ne _ _ (fun q => absurd (hC.1.2 51 (by decide) 21 (by decide) q) (by decide))]; exact F_m
              have F_m := F_m_
              have F_apart : f_33 (rt 21) = .inl (K 2, 1600, .inl g_32) := by rw [ef_33, va_up_self]
              have hC : mC rt L f_33 fm := ⟨hC.1, F_m, hC.2.2.1, hC.2.2.2⟩
              refine lv_aload_n hx hb dX6_apart_74 rfl (lv_at hl 1 rfl) ?_
              refine g_get (ci := 6) (v := .ref (rt 21)) (C := RX6) (T := TX6) (N := 51) hx hb hts uB6 hown hK hP (hC.1.1 51 (by decide)) F_m rfl 21 (by decide) wm_49 (hC.2.2.2 21 (by decide)) dX6_apart_75 ?_
              refine lv_bipush (v := 40) hx hb dX6_apart_78 (by decide) ?_
              refine lv_iload_n hx hb dX6_apart_80 rfl (lv_at hl 3 rfl) ?_
              refine lv_imul hx hb dX6_apart_81 ?_
              refine lv_topi (fun x_34 ex_34 => ?_)
              refine lv_iload_n hx hb dX6_apart_82 rfl (lv_at hl 2 rfl) ?_
              refine lv_iadd hx hb dX6_apart_83 ?_
              refine lv_topi (fun x_35 ex_35 => ?_)
              refine lv_iload_n hx hb dX6_apart_84 rfl (lv_at hl 4 rfl) ?_
              refine lv_iconst (v := 1) hx hb dX6_apart_85 (by decide) ?_
              refine lv_icmp_ne (tgt := 93) hx hb dX6_apart_86 (by decide) (fun c_36 => ?_) (fun c_36 => ?_)
              · skip
                refine lv_iconst (v := 0) hx hb dX6_apart_93 (by decide) ?_
                refine g_zast hx hb hK hP hD hS (hC.1.1 21 (by decide)) F_apart (by subst ex_35 ex_34; first | exact k_ap (by omega) (vp_in_nI (by omega) (by decide))) dX6_apart_94 (fun H locs hP hD hS => ?_)
                obtain ⟨g_37, eg_37⟩ : ∃ z9, z9 = upd g_32 (Int32.toNatClampNeg x_35) (vp_nar .boolean 0) := ⟨_, rfl⟩
                rw [← eg_37] at hP hD
                obtain ⟨f_38, ef_38⟩ : ∃ z9, z9 = va_up f_33 (rt 21) (.inl (K 2, 1600, .inl g_37)) := ⟨_, rfl⟩
                have hP : va_P (dC, dI) vwCl (va_pl L f_38) H := by rw [ef_38]; exact hP
                have hD : va_D A (va_pl L f_38) := by rw [ef_38]; exact hD
                have F_m_ : f_38 (rt 51) = .inr (6, fm) := by rw [ef_38, va_up_ne _ _ (fun q => absurd (hC.1.2 51 (by decide) 21 (by decide) q) (by decide))]; exact F_m
                have F_m := F_m_
                have F_apart : f_38 (rt 21) = .inl (K 2, 1600, .inl g_37) := by rw [ef_38, va_up_self]
                have hC : mC rt L f_38 fm := ⟨hC.1, F_m, hC.2.2.1, hC.2.2.2⟩
                refine lv_iload hx hb dX6_apart_95 (lv_at hl 0 rfl) ?_
                exact W.iret (v := 1) hx hb hr (fun t ht hW => ⟨⟨1, f_38, rfl, (Or.inr ⟨(by simp only [Int32.lt_iff_toInt_lt, Int32.le_iff_toInt_le, ← Int32.toInt_inj, Int32.reduceToInt] at g_2 g_4 c_5 g_7 ⊢; omega), (by rw [show g_apart (Int32.toNatClampNeg (40 * nI c1 + nI c2)) = x_10 by subst ex_10 ex_9 ex_8; rfl, if_neg c_11]), by rw [ef_38, eg_37, ef_33, eg_32, ((k_nar01 g_7).resolve_right c_31)]; subst ex_35 ex_34 ex_30 ex_29 ex_10 ex_9 ex_8; rfl⟩), by show va_P (dC, dI) vwCl (va_pl L f_38) t.heap; rw [ht]; exact hP⟩, hS.F ht⟩) hS.2.2 dX6_apart_97
              · skip
                exact absurd c_36 c_31
            · skip
              refine lv_iconst (v := 1) hx hb dX6_apart_68 (by decide) ?_
              refine lv_goto (tgt := 73) hx hb dX6_apart_69 (by decide) ?_
              refine g_zast hx hb hK hP hD hS (hC.1.1 21 (by decide)) F_apart (by subst ex_30 ex_29; first | exact k_ap (by omega) (vp_in_nI (by omega) (by decide))) dX6_apart_73 (fun H locs hP hD hS => ?_)
              obtain ⟨g_39, eg_39⟩ : ∃ z9, z9 = upd g_apart (Int32.toNatClampNeg x_30) (vp_nar .boolean 1) := ⟨_, rfl⟩
              rw [← eg_39] at hP hD
              obtain ⟨f_40, ef_40⟩ : ∃ z9, z9 = va_up f (rt 21) (.inl (K 2, 1600, .inl g_39)) := ⟨_, rfl⟩
              have hP : va_P (dC, dI) vwCl (va_pl L f_40) H := by rw [ef_40]; exact hP
              have hD : va_D A (va_pl L f_40) := by rw [ef_40]; exact hD
              have F_m_ : f_40 (rt 51) = .inr (6, fm) := by rw [ef_40, va_up_ne _ _ (fun q => absurd (hC.1.2 51 (by decide) 21 (by decide) q) (by decide))]; exact F_m
              have F_m := F_m_
              have F_apart : f_40 (rt 21) = .inl (K 2, 1600, .inl g_39) := by rw [ef_40, va_up_self]
              have hC : mC rt L f_40 fm := ⟨hC.1, F_m, hC.2.2.1, hC.2.2.2⟩
              refine lv_aload_n hx hb dX6_apart_74 rfl (lv_at hl 1 rfl) ?_
              refine g_get (ci := 6) (v := .ref (rt 21)) (C := RX6) (T := TX6) (N := 51) hx hb hts uB6 hown hK hP (hC.1.1 51 (by decide)) F_m rfl 21 (by decide) wm_49 (hC.2.2.2 21 (by decide)) dX6_apart_75 ?_
              refine lv_bipush (v := 40) hx hb dX6_apart_78 (by decide) ?_
              refine lv_iload_n hx hb dX6_apart_80 rfl (lv_at hl 3 rfl) ?_
              refine lv_imul hx hb dX6_apart_81 ?_
              refine lv_topi (fun x_41 ex_41 => ?_)
              refine lv_iload_n hx hb dX6_apart_82 rfl (lv_at hl 2 rfl) ?_
              refine lv_iadd hx hb dX6_apart_83 ?_
              refine lv_topi (fun x_42 ex_42 => ?_)
              refine lv_iload_n hx hb dX6_apart_84 rfl (lv_at hl 4 rfl) ?_
              refine lv_iconst (v := 1) hx hb dX6_apart_85 (by decide) ?_
              refine lv_icmp_ne (tgt := 93) hx hb dX6_apart_86 (by decide) (fun c_43 => ?_) (fun c_43 => ?_)
              · skip
                exact absurd c_31 c_43
              · skip
                refine lv_iconst (v := 1) hx hb dX6_apart_89 (by decide) ?_
                refine lv_goto (tgt := 94) hx hb dX6_apart_90 (by decide) ?_
                refine g_zast hx hb hK hP hD hS (hC.1.1 21 (by decide)) F_apart (by subst ex_42 ex_41; first | exact k_ap (by omega) (vp_in_nI (by omega) (by decide))) dX6_apart_94 (fun H locs hP hD hS => ?_)
                obtain ⟨g_44, eg_44⟩ : ∃ z9, z9 = upd g_39 (Int32.toNatClampNeg x_42) (vp_nar .boolean 1) := ⟨_, rfl⟩
                rw [← eg_44] at hP hD
                obtain ⟨f_45, ef_45⟩ : ∃ z9, z9 = va_up f_40 (rt 21) (.inl (K 2, 1600, .inl g_44)) := ⟨_, rfl⟩
                have hP : va_P (dC, dI) vwCl (va_pl L f_45) H := by rw [ef_45]; exact hP
                have hD : va_D A (va_pl L f_45) := by rw [ef_45]; exact hD
                have F_m_ : f_45 (rt 51) = .inr (6, fm) := by rw [ef_45, va_up_ne _ _ (fun q => absurd (hC.1.2 51 (by decide) 21 (by decide) q) (by decide))]; exact F_m
                have F_m := F_m_
                have F_apart : f_45 (rt 21) = .inl (K 2, 1600, .inl g_44) := by rw [ef_45, va_up_self]
                have hC : mC rt L f_45 fm := ⟨hC.1, F_m, hC.2.2.1, hC.2.2.2⟩
                refine lv_iload hx hb dX6_apart_95 (lv_at hl 0 rfl) ?_
                exact W.iret (v := 1) hx hb hr (fun t ht hW => ⟨⟨1, f_45, rfl, (Or.inr ⟨(by simp only [Int32.lt_iff_toInt_lt, Int32.le_iff_toInt_le, ← Int32.toInt_inj, Int32.reduceToInt] at g_2 g_4 c_5 g_7 ⊢; omega), (by rw [show g_apart (Int32.toNatClampNeg (40 * nI c1 + nI c2)) = x_10 by subst ex_10 ex_9 ex_8; rfl, if_neg c_11]), by rw [ef_45, eg_44, ef_40, eg_39, (show z = 1 from c_31)]; subst ex_42 ex_41 ex_30 ex_29 ex_10 ex_9 ex_8; rfl⟩), by show va_P (dC, dI) vwCl (va_pl L f_45) t.heap; rw [ht]; exact hP⟩, hS.F ht⟩) hS.2.2 dX6_apart_97
        · skip
          have g_7 := k_ff hpr_6 c_7
          refine lv_iconst (v := (-1)) hx hb dX6_apart_30 (by decide) ?_
          exact W.iret (v := (-1)) hx hb hr (fun t ht hW => ⟨⟨(-1), f, rfl, (Or.inl ⟨(by simp only [Int32.lt_iff_toInt_lt, Int32.le_iff_toInt_le, ← Int32.toInt_inj, Int32.reduceToInt] at g_2 g_4 c_5 g_7 ⊢; omega), rfl, rfl⟩), by show va_P (dC, dI) vwCl (va_pl L f) t.heap; rw [ht]; exact hP⟩, hS.F ht⟩) hS.2.2 dX6_apart_31
