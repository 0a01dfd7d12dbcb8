set_option maxHeartbeats 4000000 in
set_option maxRecDepth 100000 in
theorem um_campaign (l : Launch) (dC : Nat → ClassId) (dI : Nat → Nat → Nat) (K : Nat → ClassId) (L : List Nat) (f : Nat → va_E) (rt : Nat → Nat) {fm : List Value} (hC : mC rt L f fm) {g_sort : Nat → Int32} (F_sort : f (rt 10) = .inl (K 0, 40, .inl g_sort)) {g_pays : Nat → Int32} (F_pays : f (rt 11) = .inl (K 0, 40, .inl g_pays)) {g_must : Nat → Int32} (F_must : f (rt 12) = .inl (K 0, 40, .inl g_must)) {g_never : Nat → Int32} (F_never : f (rt 13) = .inl (K 0, 40, .inl g_never)) {g_bid : Nat → Int32} (F_bid : f (rt 14) = .inl (K 0, 40, .inl g_bid)) {g_cap : Nat → Int32} (F_cap : f (rt 17) = .inl (K 0, 40, .inl g_cap)) {g_span : Nat → Int32} (F_span : f (rt 18) = .inl (K 0, 40, .inl g_span)) {g_throttle : Nat → Int32} (F_throttle : f (rt 19) = .inl (K 0, 40, .inl g_throttle)) {g_promised : Nat → Int32} (F_promised : f (rt 22) = .inl (K 0, 40, .inl g_promised)) {nc : Nat} (I_campaigns : fm[9]? = some (.int (nI nc))) (x : Int32) (y : Int32) (z : Int32) (hnc : nc ≤ 40) (hLn : gN L) : gMi l yX6_campaign cX6_campaign 7 1 (dC, dI) K L f [.ref (rt 51), .int x, .int y, .int z] (fun r f' => (¬ cpOk x y z ∧ r = (-1) ∧ f' = f) ∨ (cpOk x y z ∧ nc = 40 ∧ r = (-3) ∧ f' = f) ∨ (cpOk x y z ∧ nc < 40 ∧ r = nI nc ∧ f' = va_up (va_up (va_up (va_up (va_up (va_up (va_up (va_up (va_up (va_up (f) (rt 10) (.inl (K 0, 40, .inl (upd g_sort (Int32.toNatClampNeg (nI nc)) (x / 10))))) (rt 11) (.inl (K 0, 40, .inl (upd g_pays (Int32.toNatClampNeg (nI nc)) (x - x / 10 * 10))))) (rt 12) (.inl (K 0, 40, .inl (upd g_must (Int32.toNatClampNeg (nI nc)) (y / 4096))))) (rt 13) (.inl (K 0, 40, .inl (upd g_never (Int32.toNatClampNeg (nI nc)) (y - y / 4096 * 4096))))) (rt 14) (.inl (K 0, 40, .inl (upd g_bid (Int32.toNatClampNeg (nI nc)) z)))) (rt 17) (.inl (K 0, 40, .inl (upd g_cap (Int32.toNatClampNeg (nI nc)) 9)))) (rt 18) (.inl (K 0, 40, .inl (upd g_span (Int32.toNatClampNeg (nI nc)) 1)))) (rt 19) (.inl (K 0, 40, .inl (upd g_throttle (Int32.toNatClampNeg (nI nc)) 1000)))) (rt 22) (.inl (K 0, 40, .inl (upd g_promised (Int32.toNatClampNeg (nI nc)) 0)))) (rt 51) (.inr (6, List.set fm 9 (.int (nI (nc + 1))))))) := by
  refine Met.ofW (cc := cX6_campaign) (maxL := 7) (ret := (some .int)) (by decide) rfl ?_
  intro p e s m args below meth c s₁ B hml hv
  obtain ⟨rfl, hP, hK⟩ := hv
  have F_m := hC.2.1
  have hD : va_D (fun q : Nat => q ∈ L) (va_pl L f) := g_D hLn (fun a h => h) f
  generalize hAe : (fun q : Nat => q ∈ L) = A at hD ⊢
  have hx := B.exec
  have hb := B.bytes
  have hr := B.returns
  have hlocks := B.notSynchronized
  have hts0 := atoms_spec (ws := Cond.code yX6_campaign cX6_campaign 7 (some .int) :: lw_B) B.pre
  have hts : ∀ w ∈ lw_B, w.before _ s = true := fun w h => hts0 w (List.mem_cons_of_mem _ h)
  have hown : s.vm.findClass RX6 = some m.cls := findClass_of_methodNamed B.named
  have hS : va_S A s.heap s.heap [] := va_S.rf
  have hl := lv_entry ([.ref (rt 51), .int x, .int y, .int z]) (n := 7) (Nat.le_of_ble_eq_true rfl)
  rw [lg_entry_eq]
  generalize (lg_sl ([.ref (rt 51), .int x, .int y, .int z]) ++ List.replicate (7 - (lg_sl ([.ref (rt 51), .int x, .int y, .int z])).length) Slot.unset).toArray = ls at hl ⊢
  have hl : lv_has ls 7 [(0, .ref (rt 51)), (1, .int x), (2, .int y), (3, .int z)] := hl
  refine lv_iload_n hx hb dX6_campaign_0 rfl (lv_at hl 1 rfl) ?_
  refine lv_bipush (v := 10) hx hb dX6_campaign_1 (by decide) ?_
  refine lv_idiv hx hb dX6_campaign_3 (by decide) ?_
  refine lv_topi (fun x_1 ex_1 => ?_)
  refine lv_istore (lv' := [(4, .int x_1), (0, .ref (rt 51)), (1, .int x), (2, .int y), (3, .int z)]) hx hb dX6_campaign_4 hl (by decide) rfl (fun ls hl => ?_)
  refine lv_iload_n hx hb dX6_campaign_6 rfl (lv_at hl 2 rfl) ?_
  refine lv_if_lt (tgt := 79) hx hb dX6_campaign_7 (by decide) (fun c_2 => ?_) (fun c_2 => ?_)
  · skip
    refine lv_iconst (v := 0) hx hb dX6_campaign_79 (by decide) ?_
    refine lv_istore (lv' := [(5, .int 0), (4, .int x_1), (0, .ref (rt 51)), (1, .int x), (2, .int y), (3, .int z)]) hx hb dX6_campaign_80 hl (by decide) rfl (fun ls hl => ?_)
    refine lv_iload hx hb dX6_campaign_82 (lv_at hl 0 rfl) ?_
    refine lv_if_eq (tgt := 101) hx hb dX6_campaign_84 (by decide) (fun _ => ?_) (fun h9 => absurd (by decide) h9)
    refine lv_iconst (v := (-1)) hx hb dX6_campaign_101 (by decide) ?_
    exact W.iret (v := (-1)) hx hb hr (fun t ht hW => ⟨⟨(-1), f, rfl, (Or.inl ⟨(by subst ex_1; have h1 := k_cp1 x; have h2 := k_cp2 y; simp only [Int32.lt_iff_toInt_lt, Int32.le_iff_toInt_le, ← Int32.toInt_inj, Int32.reduceToInt] at h1 h2 c_2; unfold cpOk; simp only [Int32.lt_iff_toInt_lt, Int32.le_iff_toInt_le, ← Int32.toInt_inj, Int32.reduceToInt]; omega), rfl, rfl⟩), by show va_P (dC, dI) vwCl (va_pl L f) t.heap; rw [ht]; exact hP⟩, hS.F ht⟩) hS.2.2 dX6_campaign_102
  · skip
    refine lv_iload hx hb dX6_campaign_10 (lv_at hl 0 rfl) ?_
    refine lv_iconst (v := 0) hx hb dX6_campaign_12 (by decide) ?_
    refine lv_iconst (v := 2) hx hb dX6_campaign_13 (by decide) ?_
    refine k_S ⟨hx, hb, hml, hown, hts⟩ (c_in l x_1 0 2) 3 wm_69 wm_70 wm_8 wm_71 (by decide +kernel) ⟨Nat.le_of_ble_eq_true rfl, Nat.le_of_ble_eq_true rfl⟩ rfl hl.1 rfl (Nat.le_of_ble_eq_true rfl) dX6_campaign_14 ⟨Nat.le_of_ble_eq_true rfl, Nat.le_of_ble_eq_true rfl⟩ hS hP (fun r_3 H locs hpr_3 hP hS => ?_)
    refine lv_if_eq (tgt := 79) hx hb dX6_campaign_17 (by decide) (fun c_4 => ?_) (fun c_4 => ?_)
    · skip
      have g_4 := k_ff hpr_3 c_4
      refine lv_iconst (v := 0) hx hb dX6_campaign_79 (by decide) ?_
      refine lv_istore (lv' := [(5, .int 0), (4, .int x_1), (0, .ref (rt 51)), (1, .int x), (2, .int y), (3, .int z)]) hx hb dX6_campaign_80 hl (by decide) rfl (fun ls hl => ?_)
      refine lv_iload hx hb dX6_campaign_82 (lv_at hl 0 rfl) ?_
      refine lv_if_eq (tgt := 101) hx hb dX6_campaign_84 (by decide) (fun _ => ?_) (fun h9 => absurd (by decide) h9)
      refine lv_iconst (v := (-1)) hx hb dX6_campaign_101 (by decide) ?_
      exact W.iret (v := (-1)) hx hb hr (fun t ht hW => ⟨⟨(-1), f, rfl, (Or.inl ⟨(by subst ex_1; have h1 := k_cp1 x; have h2 := k_cp2 y; simp only [Int32.lt_iff_toInt_lt, Int32.le_iff_toInt_le, ← Int32.toInt_inj, Int32.reduceToInt] at h1 h2 c_2 g_4; unfold cpOk; simp only [Int32.lt_iff_toInt_lt, Int32.le_iff_toInt_le, ← Int32.toInt_inj, Int32.reduceToInt]; omega), rfl, rfl⟩), by show va_P (dC, dI) vwCl (va_pl L f) t.heap; rw [ht]; exact hP⟩, hS.F ht⟩) hS.2.2 dX6_campaign_102
    · skip
      have g_4 := k_ft hpr_3 c_4
      refine lv_iload_n hx hb dX6_campaign_20 rfl (lv_at hl 2 rfl) ?_
      refine lv_bipush (v := 10) hx hb dX6_campaign_21 (by decide) ?_
      refine lv_irem hx hb dX6_campaign_23 (by decide) ?_
      refine lv_topi (fun x_5 ex_5 => ?_)
      refine lv_iconst (v := 0) hx hb dX6_campaign_24 (by decide) ?_
      refine lv_iload hx hb dX6_campaign_25 (lv_at hl 0 rfl) ?_
      refine lv_if_ne (tgt := 34) hx hb dX6_campaign_27 (by decide) (fun c_6 => ?_) (fun c_6 => ?_)
      · skip
        refine lv_iconst (v := 0) hx hb dX6_campaign_34 (by decide) ?_
        refine k_S ⟨hx, hb, hml, hown, hts⟩ (c_in l x_5 0 0) 3 wm_69 wm_70 wm_8 wm_71 (by decide +kernel) ⟨Nat.le_of_ble_eq_true rfl, Nat.le_of_ble_eq_true rfl⟩ rfl hl.1 rfl (Nat.le_of_ble_eq_true rfl) dX6_campaign_35 ⟨Nat.le_of_ble_eq_true rfl, Nat.le_of_ble_eq_true rfl⟩ hS hP (fun r_7 H locs hpr_7 hP hS => ?_)
        refine lv_if_eq (tgt := 79) hx hb dX6_campaign_38 (by decide) (fun c_8 => ?_) (fun c_8 => ?_)
        · skip
          have g_8 := k_ff hpr_7 c_8
          refine lv_iconst (v := 0) hx hb dX6_campaign_79 (by decide) ?_
          refine lv_istore (lv' := [(5, .int 0), (4, .int x_1), (0, .ref (rt 51)), (1, .int x), (2, .int y), (3, .int z)]) hx hb dX6_campaign_80 hl (by decide) rfl (fun ls hl => ?_)
          refine lv_iload hx hb dX6_campaign_82 (lv_at hl 0 rfl) ?_
          refine lv_if_eq (tgt := 101) hx hb dX6_campaign_84 (by decide) (fun _ => ?_) (fun h9 => absurd (by decide) h9)
          refine lv_iconst (v := (-1)) hx hb dX6_campaign_101 (by decide) ?_
          exact W.iret (v := (-1)) hx hb hr (fun t ht hW => ⟨⟨(-1), f, rfl, (Or.inl ⟨(by subst ex_1 ex_5; have h1 := k_cp1 x; have h2 := k_cp2 y; simp only [Int32.lt_iff_toInt_lt, Int32.le_iff_toInt_le, ← Int32.toInt_inj, Int32.reduceToInt] at h1 h2 c_2 g_4 c_6 g_8; unfold cpOk; simp only [Int32.lt_iff_toInt_lt, Int32.le_iff_toInt_le, ← Int32.toInt_inj, Int32.reduceToInt]; omega), rfl, rfl⟩), by show va_P (dC, dI) vwCl (va_pl L f) t.heap; rw [ht]; exact hP⟩, hS.F ht⟩) hS.2.2 dX6_campaign_102
        · skip
          have g_8 := k_ft hpr_7 c_8
          refine lv_iload_n hx hb dX6_campaign_41 rfl (lv_at hl 3 rfl) ?_
          refine lv_iconst (v := 0) hx hb dX6_campaign_42 (by decide) ?_
          refine lv_ldc (v := 16777215) hx hb hown (hts _ wm_115) dX6_campaign_43 ?_
          refine k_S ⟨hx, hb, hml, hown, hts⟩ (c_in l y 0 16777215) 3 wm_69 wm_70 wm_8 wm_71 (by decide +kernel) ⟨Nat.le_of_ble_eq_true rfl, Nat.le_of_ble_eq_true rfl⟩ rfl hl.1 rfl (Nat.le_of_ble_eq_true rfl) dX6_campaign_45 ⟨Nat.le_of_ble_eq_true rfl, Nat.le_of_ble_eq_true rfl⟩ hS hP (fun r_9 H locs hpr_9 hP hS => ?_)
          refine lv_if_eq (tgt := 79) hx hb dX6_campaign_48 (by decide) (fun c_10 => ?_) (fun c_10 => ?_)
          · skip
            have g_10 := k_ff hpr_9 c_10
            refine lv_iconst (v := 0) hx hb dX6_campaign_79 (by decide) ?_
            refine lv_istore (lv' := [(5, .int 0), (4, .int x_1), (0, .ref (rt 51)), (1, .int x), (2, .int y), (3, .int z)]) hx hb dX6_campaign_80 hl (by decide) rfl (fun ls hl => ?_)
            refine lv_iload hx hb dX6_campaign_82 (lv_at hl 0 rfl) ?_
            refine lv_if_eq (tgt := 101) hx hb dX6_campaign_84 (by decide) (fun _ => ?_) (fun h9 => absurd (by decide) h9)
            refine lv_iconst (v := (-1)) hx hb dX6_campaign_101 (by decide) ?_
            exact W.iret (v := (-1)) hx hb hr (fun t ht hW => ⟨⟨(-1), f, rfl, (Or.inl ⟨(by subst ex_1 ex_5; have h1 := k_cp1 x; have h2 := k_cp2 y; simp only [Int32.lt_iff_toInt_lt, Int32.le_iff_toInt_le, ← Int32.toInt_inj, Int32.reduceToInt] at h1 h2 c_2 g_4 c_6 g_8 g_10; unfold cpOk; simp only [Int32.lt_iff_toInt_lt, Int32.le_iff_toInt_le, ← Int32.toInt_inj, Int32.reduceToInt]; omega), rfl, rfl⟩), by show va_P (dC, dI) vwCl (va_pl L f) t.heap; rw [ht]; exact hP⟩, hS.F ht⟩) hS.2.2 dX6_campaign_102
          · skip
            have g_10 := k_ft hpr_9 c_10
            refine lv_iload hx hb dX6_campaign_51 (lv_at hl 0 rfl) ?_
            refine lv_iconst (v := 2) hx hb dX6_campaign_53 (by decide) ?_
            refine lv_icmp_ne (tgt := 64) hx hb dX6_campaign_54 (by decide) (fun c_11 => ?_) (fun c_11 => ?_)
            · skip
              refine lv_iload_n hx hb dX6_campaign_64 rfl (lv_at hl 4 rfl) ?_
              refine lv_iconst (v := 1) hx hb dX6_campaign_65 (by decide) ?_
              refine lv_sipush (v := 1000) hx hb dX6_campaign_66 (by decide) ?_
              refine k_S ⟨hx, hb, hml, hown, hts⟩ (c_in l z 1 1000) 3 wm_69 wm_70 wm_8 wm_71 (by decide +kernel) ⟨Nat.le_of_ble_eq_true rfl, Nat.le_of_ble_eq_true rfl⟩ rfl hl.1 rfl (Nat.le_of_ble_eq_true rfl) dX6_campaign_69 ⟨Nat.le_of_ble_eq_true rfl, Nat.le_of_ble_eq_true rfl⟩ hS hP (fun r_12 H locs hpr_12 hP hS => ?_)
              refine lv_if_eq (tgt := 79) hx hb dX6_campaign_72 (by decide) (fun c_13 => ?_) (fun c_13 => ?_)
              · skip
                have g_13 := k_ff hpr_12 c_13
                refine lv_iconst (v := 0) hx hb dX6_campaign_79 (by decide) ?_
                refine lv_istore (lv' := [(5, .int 0), (4, .int x_1), (0, .ref (rt 51)), (1, .int x), (2, .int y), (3, .int z)]) hx hb dX6_campaign_80 hl (by decide) rfl (fun ls hl => ?_)
                refine lv_iload hx hb dX6_campaign_82 (lv_at hl 0 rfl) ?_
                refine lv_if_eq (tgt := 101) hx hb dX6_campaign_84 (by decide) (fun _ => ?_) (fun h9 => absurd (by decide) h9)
                refine lv_iconst (v := (-1)) hx hb dX6_campaign_101 (by decide) ?_
                exact W.iret (v := (-1)) hx hb hr (fun t ht hW => ⟨⟨(-1), f, rfl, (Or.inl ⟨(by subst ex_1 ex_5; have h1 := k_cp1 x; have h2 := k_cp2 y; simp only [Int32.lt_iff_toInt_lt, Int32.le_iff_toInt_le, ← Int32.toInt_inj, Int32.reduceToInt] at h1 h2 c_2 g_4 c_6 g_8 g_10 c_11 g_13; unfold cpOk; simp only [Int32.lt_iff_toInt_lt, Int32.le_iff_toInt_le, ← Int32.toInt_inj, Int32.reduceToInt]; omega), rfl, rfl⟩), by show va_P (dC, dI) vwCl (va_pl L f) t.heap; rw [ht]; exact hP⟩, hS.F ht⟩) hS.2.2 dX6_campaign_102
              · skip
                have g_13 := k_ft hpr_12 c_13
                refine lv_iconst (v := 1) hx hb dX6_campaign_75 (by decide) ?_
                refine lv_goto (tgt := 80) hx hb dX6_campaign_76 (by decide) ?_
                refine lv_istore (lv' := [(5, .int 1), (4, .int x_1), (0, .ref (rt 51)), (1, .int x), (2, .int y), (3, .int z)]) hx hb dX6_campaign_80 hl (by decide) rfl (fun ls hl => ?_)
                refine lv_iload hx hb dX6_campaign_82 (lv_at hl 0 rfl) ?_
                refine lv_if_eq (tgt := 101) hx hb dX6_campaign_84 (by decide) (fun h9 => absurd h9 (by decide)) (fun _ => ?_)
                refine lv_iload_n hx hb dX6_campaign_87 rfl (lv_at hl 4 rfl) ?_
                refine lv_sipush (v := 4096) hx hb dX6_campaign_88 (by decide) ?_
                refine lv_idiv hx hb dX6_campaign_91 (by decide) ?_
                refine lv_topi (fun x_14 ex_14 => ?_)
                refine lv_iload_n hx hb dX6_campaign_92 rfl (lv_at hl 4 rfl) ?_
                refine lv_sipush (v := 4096) hx hb dX6_campaign_93 (by decide) ?_
                refine lv_irem hx hb dX6_campaign_96 (by decide) ?_
                refine lv_topi (fun x_15 ex_15 => ?_)
                refine lv_iand hx hb dX6_campaign_97 ?_
                refine lv_topi (fun x_16 ex_16 => ?_)
                refine lv_if_eq (tgt := 103) hx hb dX6_campaign_98 (by decide) (fun c_17 => ?_) (fun c_17 => ?_)
                · skip
                  refine lv_aload_n hx hb dX6_campaign_103 rfl (lv_at hl 2 rfl) ?_
                  refine g_get (ci := 6) (v := .int (nI nc)) (C := RX6) (T := TX6) (N := 51) hx hb hts uB6 hown hK hP (hC.1.1 51 (by decide)) F_m rfl 9 (by decide) wm_76 I_campaigns dX6_campaign_104 ?_
                  refine lv_bipush (v := 40) hx hb dX6_campaign_107 (by decide) ?_
                  refine lv_icmp_ne (tgt := 115) hx hb dX6_campaign_109 (by decide) (fun c_18 => ?_) (fun c_18 => ?_)
                  · skip
                    have hfl : nc < 40 := Nat.lt_of_le_of_ne hnc (fun q => c_18 (by rw [q]; rfl))
                    refine lv_aload_n hx hb dX6_campaign_115 rfl (lv_at hl 2 rfl) ?_
                    refine g_get (ci := 6) (v := .int (nI nc)) (C := RX6) (T := TX6) (N := 51) hx hb hts uB6 hown hK hP (hC.1.1 51 (by decide)) F_m rfl 9 (by decide) wm_76 I_campaigns dX6_campaign_116 ?_
                    refine lv_istore (lv' := [(6, .int (nI nc)), (5, .int 1), (4, .int x_1), (0, .ref (rt 51)), (1, .int x), (2, .int y), (3, .int z)]) hx hb dX6_campaign_119 hl (by decide) rfl (fun ls hl => ?_)
                    refine lv_aload_n hx hb dX6_campaign_121 rfl (lv_at hl 3 rfl) ?_
                    refine g_get (ci := 6) (v := .ref (rt 10)) (C := RX6) (T := TX6) (N := 51) hx hb hts uB6 hown hK hP (hC.1.1 51 (by decide)) F_m rfl 10 (by decide) wm_21 (hC.2.2.2 10 (by decide)) dX6_campaign_122 ?_
                    refine lv_iload hx hb dX6_campaign_125 (lv_at hl 0 rfl) ?_
                    refine lv_iload hx hb dX6_campaign_127 (lv_at hl 2 rfl) ?_
                    refine g_iast hx hb hK hP hD hS (hC.1.1 10 (by decide)) F_sort (vp_in_nI (by omega) (by decide)) dX6_campaign_129 (fun H locs hP hD hS => ?_)
                    obtain ⟨g_19, eg_19⟩ : ∃ z9, z9 = upd g_sort (Int32.toNatClampNeg (nI nc)) x_1 := ⟨_, rfl⟩
                    rw [← eg_19] at hP hD
                    obtain ⟨f_20, ef_20⟩ : ∃ z9, z9 = va_up f (rt 10) (.inl (K 0, 40, .inl g_19)) := ⟨_, rfl⟩
                    have hP : va_P (dC, dI) vwCl (va_pl L f_20) H := by rw [ef_20]; exact hP
                    have hD : va_D A (va_pl L f_20) := by rw [ef_20]; exact hD
                    have F_m_ : f_20 (rt 51) = .inr (6, fm) := by rw [ef_20, va_up_ne _ _ (fun q => absurd (hC.1.2 51 (by decide) 10 (by decide) q) (by decide))]; exact F_m
                    have F_pays_ : f_20 (rt 11) = .inl (K 0, 40, .inl g_pays) := by rw [ef_20, va_up_ne _ _ (fun q => absurd (hC.1.2 11 (by decide) 10 (by decide) q) (by decide))]; exact F_pays
                    have F_must_ : f_20 (rt 12) = .inl (K 0, 40, .inl g_must) := by rw [ef_20, va_up_ne _ _ (fun q => absurd (hC.1.2 12 (by decide) 10 (by decide) q) (by decide))]; exact F_must
                    have F_never_ : f_20 (rt 13) = .inl (K 0, 40, .inl g_never) := by rw [ef_20, va_up_ne _ _ (fun q => absurd (hC.1.2 13 (by decide) 10 (by decide) q) (by decide))]; exact F_never
                    have F_bid_ : f_20 (rt 14) = .inl (K 0, 40, .inl g_bid) := by rw [ef_20, va_up_ne _ _ (fun q => absurd (hC.1.2 14 (by decide) 10 (by decide) q) (by decide))]; exact F_bid
                    have F_cap_ : f_20 (rt 17) = .inl (K 0, 40, .inl g_cap) := by rw [ef_20, va_up_ne _ _ (fun q => absurd (hC.1.2 17 (by decide) 10 (by decide) q) (by decide))]; exact F_cap
                    have F_span_ : f_20 (rt 18) = .inl (K 0, 40, .inl g_span) := by rw [ef_20, va_up_ne _ _ (fun q => absurd (hC.1.2 18 (by decide) 10 (by decide) q) (by decide))]; exact F_span
                    have F_throttle_ : f_20 (rt 19) = .inl (K 0, 40, .inl g_throttle) := by rw [ef_20, va_up_ne _ _ (fun q => absurd (hC.1.2 19 (by decide) 10 (by decide) q) (by decide))]; exact F_throttle
                    have F_promised_ : f_20 (rt 22) = .inl (K 0, 40, .inl g_promised) := by rw [ef_20, va_up_ne _ _ (fun q => absurd (hC.1.2 22 (by decide) 10 (by decide) q) (by decide))]; exact F_promised
                    have F_m := F_m_
                    have F_pays := F_pays_
                    have F_must := F_must_
                    have F_never := F_never_
                    have F_bid := F_bid_
                    have F_cap := F_cap_
                    have F_span := F_span_
                    have F_throttle := F_throttle_
                    have F_promised := F_promised_
                    have F_sort : f_20 (rt 10) = .inl (K 0, 40, .inl g_19) := by rw [ef_20, va_up_self]
                    have hC : mC rt L f_20 fm := ⟨hC.1, F_m, hC.2.2.1, hC.2.2.2⟩
                    refine lv_aload_n hx hb dX6_campaign_130 rfl (lv_at hl 3 rfl) ?_
                    refine g_get (ci := 6) (v := .ref (rt 11)) (C := RX6) (T := TX6) (N := 51) hx hb hts uB6 hown hK hP (hC.1.1 51 (by decide)) F_m rfl 11 (by decide) wm_1 (hC.2.2.2 11 (by decide)) dX6_campaign_131 ?_
                    refine lv_iload hx hb dX6_campaign_134 (lv_at hl 0 rfl) ?_
                    refine lv_iload_n hx hb dX6_campaign_136 rfl (lv_at hl 4 rfl) ?_
                    refine lv_bipush (v := 10) hx hb dX6_campaign_137 (by decide) ?_
                    refine lv_irem hx hb dX6_campaign_139 (by decide) ?_
                    refine lv_topi (fun x_21 ex_21 => ?_)
                    refine g_iast hx hb hK hP hD hS (hC.1.1 11 (by decide)) F_pays (vp_in_nI (by omega) (by decide)) dX6_campaign_140 (fun H locs hP hD hS => ?_)
                    obtain ⟨g_22, eg_22⟩ : ∃ z9, z9 = upd g_pays (Int32.toNatClampNeg (nI nc)) x_21 := ⟨_, rfl⟩
                    rw [← eg_22] at hP hD
                    obtain ⟨f_23, ef_23⟩ : ∃ z9, z9 = va_up f_20 (rt 11) (.inl (K 0, 40, .inl g_22)) := ⟨_, rfl⟩
                    have hP : va_P (dC, dI) vwCl (va_pl L f_23) H := by rw [ef_23]; exact hP
                    have hD : va_D A (va_pl L f_23) := by rw [ef_23]; exact hD
                    have F_m_ : f_23 (rt 51) = .inr (6, fm) := by rw [ef_23, va_up_ne _ _ (fun q => absurd (hC.1.2 51 (by decide) 11 (by decide) q) (by decide))]; exact F_m
                    have F_sort_ : f_23 (rt 10) = .inl (K 0, 40, .inl g_19) := by rw [ef_23, va_up_ne _ _ (fun q => absurd (hC.1.2 10 (by decide) 11 (by decide) q) (by decide))]; exact F_sort
                    have F_must_ : f_23 (rt 12) = .inl (K 0, 40, .inl g_must) := by rw [ef_23, va_up_ne _ _ (fun q => absurd (hC.1.2 12 (by decide) 11 (by decide) q) (by decide))]; exact F_must
                    have F_never_ : f_23 (rt 13) = .inl (K 0, 40, .inl g_never) := by rw [ef_23, va_up_ne _ _ (fun q => absurd (hC.1.2 13 (by decide) 11 (by decide) q) (by decide))]; exact F_never
                    have F_bid_ : f_23 (rt 14) = .inl (K 0, 40, .inl g_bid) := by rw [ef_23, va_up_ne _ _ (fun q => absurd (hC.1.2 14 (by decide) 11 (by decide) q) (by decide))]; exact F_bid
                    have F_cap_ : f_23 (rt 17) = .inl (K 0, 40, .inl g_cap) := by rw [ef_23, va_up_ne _ _ (fun q => absurd (hC.1.2 17 (by decide) 11 (by decide) q) (by decide))]; exact F_cap
                    have F_span_ : f_23 (rt 18) = .inl (K 0, 40, .inl g_span) := by rw [ef_23, va_up_ne _ _ (fun q => absurd (hC.1.2 18 (by decide) 11 (by decide) q) (by decide))]; exact F_span
                    have F_throttle_ : f_23 (rt 19) = .inl (K 0, 40, .inl g_throttle) := by rw [ef_23, va_up_ne _ _ (fun q => absurd (hC.1.2 19 (by decide) 11 (by decide) q) (by decide))]; exact F_throttle
                    have F_promised_ : f_23 (rt 22) = .inl (K 0, 40, .inl g_promised) := by rw [ef_23, va_up_ne _ _ (fun q => absurd (hC.1.2 22 (by decide) 11 (by decide) q) (by decide))]; exact F_promised
                    have F_m := F_m_
                    have F_sort := F_sort_
                    have F_must := F_must_
                    have F_never := F_never_
                    have F_bid := F_bid_
                    have F_cap := F_cap_
                    have F_span := F_span_
                    have F_throttle := F_throttle_
                    have F_promised := F_promised_
                    have F_pays : f_23 (rt 11) = .inl (K 0, 40, .inl g_22) := by rw [ef_23, va_up_self]
                    have hC : mC rt L f_23 fm := ⟨hC.1, F_m, hC.2.2.1, hC.2.2.2⟩
                    refine lv_aload_n hx hb dX6_campaign_141 rfl (lv_at hl 3 rfl) ?_
                    refine g_get (ci := 6) (v := .ref (rt 12)) (C := RX6) (T := TX6) (N := 51) hx hb hts uB6 hown hK hP (hC.1.1 51 (by decide)) F_m rfl 12 (by decide) wm_31 (hC.2.2.2 12 (by decide)) dX6_campaign_142 ?_
                    refine lv_iload hx hb dX6_campaign_145 (lv_at hl 0 rfl) ?_
                    refine lv_iload_n hx hb dX6_campaign_147 rfl (lv_at hl 5 rfl) ?_
                    refine lv_sipush (v := 4096) hx hb dX6_campaign_148 (by decide) ?_
                    refine lv_idiv hx hb dX6_campaign_151 (by decide) ?_
                    refine lv_topi (fun x_24 ex_24 => ?_)
                    refine g_iast hx hb hK hP hD hS (hC.1.1 12 (by decide)) F_must (vp_in_nI (by omega) (by decide)) dX6_campaign_152 (fun H locs hP hD hS => ?_)
                    obtain ⟨g_25, eg_25⟩ : ∃ z9, z9 = upd g_must (Int32.toNatClampNeg (nI nc)) x_24 := ⟨_, rfl⟩
                    rw [← eg_25] at hP hD
                    obtain ⟨f_26, ef_26⟩ : ∃ z9, z9 = va_up f_23 (rt 12) (.inl (K 0, 40, .inl g_25)) := ⟨_, rfl⟩
                    have hP : va_P (dC, dI) vwCl (va_pl L f_26) H := by rw [ef_26]; exact hP
                    have hD : va_D A (va_pl L f_26) := by rw [ef_26]; exact hD
                    have F_m_ : f_26 (rt 51) = .inr (6, fm) := by rw [ef_26, va_up_ne _ _ (fun q => absurd (hC.1.2 51 (by decide) 12 (by decide) q) (by decide))]; exact F_m
                    have F_sort_ : f_26 (rt 10) = .inl (K 0, 40, .inl g_19) := by rw [ef_26, va_up_ne _ _ (fun q => absurd (hC.1.2 10 (by decide) 12 (by decide) q) (by decide))]; exact F_sort
                    have F_pays_ : f_26 (rt 11) = .inl (K 0, 40, .inl g_22) := by rw [ef_26, va_up_ne _ _ (fun q => absurd (hC.1.2 11 (by decide) 12 (by decide) q) (by decide))]; exact F_pays
                    have F_never_ : f_26 (rt 13) = .inl (K 0, 40, .inl g_never) := by rw [ef_26, va_up_ne _ _ (fun q => absurd (hC.1.2 13 (by decide) 12 (by decide) q) (by decide))]; exact F_never
                    have F_bid_ : f_26 (rt 14) = .inl (K 0, 40, .inl g_bid) := by rw [ef_26, va_up_ne _ _ (fun q => absurd (hC.1.2 14 (by decide) 12 (by decide) q) (by decide))]; exact F_bid
                    have F_cap_ : f_26 (rt 17) = .inl (K 0, 40, .inl g_cap) := by rw [ef_26, va_up_ne _ _ (fun q => absurd (hC.1.2 17 (by decide) 12 (by decide) q) (by decide))]; exact F_cap
                    have F_span_ : f_26 (rt 18) = .inl (K 0, 40, .inl g_span) := by rw [ef_26, va_up_ne _ _ (fun q => absurd (hC.1.2 18 (by decide) 12 (by decide) q) (by decide))]; exact F_span
                    have F_throttle_ : f_26 (rt 19) = .inl (K 0, 40, .inl g_throttle) := by rw [ef_26, va_up_ne _ _ (fun q => absurd (hC.1.2 19 (by decide) 12 (by decide) q) (by decide))]; exact F_throttle
                    have F_promised_ : f_26 (rt 22) = .inl (K 0, 40, .inl g_promised) := by rw [ef_26, va_up_ne _ _ (fun q => absurd (hC.1.2 22 (by decide) 12 (by decide) q) (by decide))]; exact F_promised
                    have F_m := F_m_
                    have F_sort := F_sort_
                    have F_pays := F_pays_
                    have F_never := F_never_
                    have F_bid := F_bid_
                    have F_cap := F_cap_
                    have F_span := F_span_
                    have F_throttle := F_throttle_
                    have F_promised := F_promised_
                    have F_must : f_26 (rt 12) = .inl (K 0, 40, .inl g_25) := by rw [ef_26, va_up_self]
                    have hC : mC rt L f_26 fm := ⟨hC.1, F_m, hC.2.2.1, hC.2.2.2⟩
                    refine lv_aload_n hx hb dX6_campaign_153 rfl (lv_at hl 3 rfl) ?_
                    refine g_get (ci := 6) (v := .ref (rt 13)) (C := RX6) (T := TX6) (N := 51) hx hb hts uB6 hown hK hP (hC.1.1 51 (by decide)) F_m rfl 13 (by decide) wm_32 (hC.2.2.2 13 (by decide)) dX6_campaign_154 ?_
                    refine lv_iload hx hb dX6_campaign_157 (lv_at hl 0 rfl) ?_
                    refine lv_iload_n hx hb dX6_campaign_159 rfl (lv_at hl 5 rfl) ?_
                    refine lv_sipush (v := 4096) hx hb dX6_campaign_160 (by decide) ?_
                    refine lv_irem hx hb dX6_campaign_163 (by decide) ?_
                    refine lv_topi (fun x_27 ex_27 => ?_)
                    refine g_iast hx hb hK hP hD hS (hC.1.1 13 (by decide)) F_never (vp_in_nI (by omega) (by decide)) dX6_campaign_164 (fun H locs hP hD hS => ?_)
                    obtain ⟨g_28, eg_28⟩ : ∃ z9, z9 = upd g_never (Int32.toNatClampNeg (nI nc)) x_27 := ⟨_, rfl⟩
                    rw [← eg_28] at hP hD
                    obtain ⟨f_29, ef_29⟩ : ∃ z9, z9 = va_up f_26 (rt 13) (.inl (K 0, 40, .inl g_28)) := ⟨_, rfl⟩
                    have hP : va_P (dC, dI) vwCl (va_pl L f_29) H := by rw [ef_29]; exact hP
                    have hD : va_D A (va_pl L f_29) := by rw [ef_29]; exact hD
                    have F_m_ : f_29 (rt 51) = .inr (6, fm) := by rw [ef_29, va_up_ne _ _ (fun q => absurd (hC.1.2 51 (by decide) 13 (by decide) q) (by decide))]; exact F_m
                    have F_sort_ : f_29 (rt 10) = .inl (K 0, 40, .inl g_19) := by rw [ef_29, va_up_ne _ _ (fun q => absurd (hC.1.2 10 (by decide) 13 (by decide) q) (by decide))]; exact F_sort
                    have F_pays_ : f_29 (rt 11) = .inl (K 0, 40, .inl g_22) := by rw [ef_29, va_up_ne _ _ (fun q => absurd (hC.1.2 11 (by decide) 13 (by decide) q) (by decide))]; exact F_pays
                    have F_must_ : f_29 (rt 12) = .inl (K 0, 40, .inl g_25) := by rw [ef_29, va_up_ne _ _ (fun q => absurd (hC.1.2 12 (by decide) 13 (by decide) q) (by decide))]; exact F_must
                    have F_bid_ : f_29 (rt 14) = .inl (K 0, 40, .inl g_bid) := by rw [ef_29, va_up_ne _ _ (fun q => absurd (hC.1.2 14 (by decide) 13 (by decide) q) (by decide))]; exact F_bid
                    have F_cap_ : f_29 (rt 17) = .inl (K 0, 40, .inl g_cap) := by rw [ef_29, va_up_ne _ _ (fun q => absurd (hC.1.2 17 (by decide) 13 (by decide) q) (by decide))]; exact F_cap
                    have F_span_ : f_29 (rt 18) = .inl (K 0, 40, .inl g_span) := by rw [ef_29, va_up_ne _ _ (fun q => absurd (hC.1.2 18 (by decide) 13 (by decide) q) (by decide))]; exact F_span
                    have F_throttle_ : f_29 (rt 19) = .inl (K 0, 40, .inl g_throttle) := by rw [ef_29, va_up_ne _ _ (fun q => absurd (hC.1.2 19 (by decide) 13 (by decide) q) (by decide))]; exact F_throttle
                    have F_promised_ : f_29 (rt 22) = .inl (K 0, 40, .inl g_promised) := by rw [ef_29, va_up_ne _ _ (fun q => absurd (hC.1.2 22 (by decide) 13 (by decide) q) (by decide))]; exact F_promised
                    have F_m := F_m_
                    have F_sort := F_sort_
                    have F_pays := F_pays_
                    have F_must := F_must_
                    have F_bid := F_bid_
                    have F_cap := F_cap_
                    have F_span := F_span_
                    have F_throttle := F_throttle_
                    have F_promised := F_promised_
                    have F_never : f_29 (rt 13) = .inl (K 0, 40, .inl g_28) := by rw [ef_29, va_up_self]
                    have hC : mC rt L f_29 fm := ⟨hC.1, F_m, hC.2.2.1, hC.2.2.2⟩
                    refine lv_aload_n hx hb dX6_campaign_165 rfl (lv_at hl 3 rfl) ?_
                    refine g_get (ci := 6) (v := .ref (rt 14)) (C := RX6) (T := TX6) (N := 51) hx hb hts uB6 hown hK hP (hC.1.1 51 (by decide)) F_m rfl 14 (by decide) wm_43 (hC.2.2.2 14 (by decide)) dX6_campaign_166 ?_
                    refine lv_iload hx hb dX6_campaign_169 (lv_at hl 0 rfl) ?_
                    refine lv_iload_n hx hb dX6_campaign_171 rfl (lv_at hl 6 rfl) ?_
                    refine g_iast hx hb hK hP hD hS (hC.1.1 14 (by decide)) F_bid (vp_in_nI (by omega) (by decide)) dX6_campaign_172 (fun H locs hP hD hS => ?_)
                    obtain ⟨g_30, eg_30⟩ : ∃ z9, z9 = upd g_bid (Int32.toNatClampNeg (nI nc)) z := ⟨_, rfl⟩
                    rw [← eg_30] at hP hD
                    obtain ⟨f_31, ef_31⟩ : ∃ z9, z9 = va_up f_29 (rt 14) (.inl (K 0, 40, .inl g_30)) := ⟨_, rfl⟩
                    have hP : va_P (dC, dI) vwCl (va_pl L f_31) H := by rw [ef_31]; exact hP
                    have hD : va_D A (va_pl L f_31) := by rw [ef_31]; exact hD
                    have F_m_ : f_31 (rt 51) = .inr (6, fm) := by rw [ef_31, va_up_ne _ _ (fun q => absurd (hC.1.2 51 (by decide) 14 (by decide) q) (by decide))]; exact F_m
                    have F_sort_ : f_31 (rt 10) = .inl (K 0, 40, .inl g_19) := by rw [ef_31, va_up_ne _ _ (fun q => absurd (hC.1.2 10 (by decide) 14 (by decide) q) (by decide))]; exact F_sort
                    have F_pays_ : f_31 (rt 11) = .inl (K 0, 40, .inl g_22) := by rw [ef_31, va_up_ne _ _ (fun q => absurd (hC.1.2 11 (by decide) 14 (by decide) q) (by decide))]; exact F_pays
                    have F_must_ : f_31 (rt 12) = .inl (K 0, 40, .inl g_25) := by rw [ef_31, va_up_ne _ _ (fun q => absurd (hC.1.2 12 (by decide) 14 (by decide) q) (by decide))]; exact F_must
                    have F_never_ : f_31 (rt 13) = .inl (K 0, 40, .inl g_28) := by rw [ef_31, va_up_ne _ _ (fun q => absurd (hC.1.2 13 (by decide) 14 (by decide) q) (by decide))]; exact F_never
                    have F_cap_ : f_31 (rt 17) = .inl (K 0, 40, .inl g_cap) := by rw [ef_31, va_up_ne _ _ (fun q => absurd (hC.1.2 17 (by decide) 14 (by decide) q) (by decide))]; exact F_cap
                    have F_span_ : f_31 (rt 18) = .inl (K 0, 40, .inl g_span) := by rw [ef_31, va_up_ne _ _ (fun q => absurd (hC.1.2 18 (by decide) 14 (by decide) q) (by decide))]; exact F_span
                    have F_throttle_ : f_31 (rt 19) = .inl (K 0, 40, .inl g_throttle) := by rw [ef_31, va_up_ne _ _ (fun q => absurd (hC.1.2 19 (by decide) 14 (by decide) q) (by decide))]; exact F_throttle
                    have F_promised_ : f_31 (rt 22) = .inl (K 0, 40, .inl g_promised) := by rw [ef_31, va_up_ne _ _ (fun q => absurd (hC.1.2 22 (by decide) 14 (by decide) q) (by decide))]; exact F_promised
                    have F_m := F_m_
                    have F_sort := F_sort_
                    have F_pays := F_pays_
                    have F_must := F_must_
                    have F_never := F_never_
                    have F_cap := F_cap_
                    have F_span := F_span_
                    have F_throttle := F_throttle_
                    have F_promised := F_promised_
                    have F_bid : f_31 (rt 14) = .inl (K 0, 40, .inl g_30) := by rw [ef_31, va_up_self]
                    have hC : mC rt L f_31 fm := ⟨hC.1, F_m, hC.2.2.1, hC.2.2.2⟩
                    refine lv_aload_n hx hb dX6_campaign_173 rfl (lv_at hl 3 rfl) ?_
                    refine g_get (ci := 6) (v := .ref (rt 17)) (C := RX6) (T := TX6) (N := 51) hx hb hts uB6 hown hK hP (hC.1.1 51 (by decide)) F_m rfl 17 (by decide) wm_33 (hC.2.2.2 17 (by decide)) dX6_campaign_174 ?_
                    refine lv_iload hx hb dX6_campaign_177 (lv_at hl 0 rfl) ?_
                    refine lv_bipush (v := 9) hx hb dX6_campaign_179 (by decide) ?_
                    refine g_iast hx hb hK hP hD hS (hC.1.1 17 (by decide)) F_cap (vp_in_nI (by omega) (by decide)) dX6_campaign_181 (fun H locs hP hD hS => ?_)
                    obtain ⟨g_32, eg_32⟩ : ∃ z9, z9 = upd g_cap (Int32.toNatClampNeg (nI nc)) 9 := ⟨_, rfl⟩
                    rw [← eg_32] at hP hD
                    obtain ⟨f_33, ef_33⟩ : ∃ z9, z9 = va_up f_31 (rt 17) (.inl (K 0, 40, .inl g_32)) := ⟨_, rfl⟩
                    have hP : va_P (dC, dI) vwCl (va_pl L f_33) H := by rw [ef_33]; exact hP
                    have hD : va_D A (va_pl L f_33) := by rw [ef_33]; exact hD
                    have F_m_ : f_33 (rt 51) = .inr (6, fm) := by rw [ef_33, va_up_ne _ _ (fun q => absurd (hC.1.2 51 (by decide) 17 (by decide) q) (by decide))]; exact F_m
                    have F_sort_ : f_33 (rt 10) = .inl (K 0, 40, .inl g_19) := by rw [ef_33, va_up_ne _ _ (fun q => absurd (hC.1.2 10 (by decide) 17 (by decide) q) (by decide))]; exact F_sort
                    have F_pays_ : f_33 (rt 11) = .inl (K 0, 40, .inl g_22) := by rw [ef_33, va_up_ne _ _ (fun q => absurd (hC.1.2 11 (by decide) 17 (by decide) q) (by decide))]; exact F_pays
                    have F_must_ : f_33 (rt 12) = .inl (K 0, 40, .inl g_25) := by rw [ef_33, va_up_ne _ _ (fun q => absurd (hC.1.2 12 (by decide) 17 (by decide) q) (by decide))]; exact F_must
                    have F_never_ : f_33 (rt 13) = .inl (K 0, 40, .inl g_28) := by rw [ef_33, va_up_ne _ _ (fun q => absurd (hC.1.2 13 (by decide) 17 (by decide) q) (by decide))]; exact F_never
                    have F_bid_ : f_33 (rt 14) = .inl (K 0, 40, .inl g_30) := by rw [ef_33, va_up_ne _ _ (fun q => absurd (hC.1.2 14 (by decide) 17 (by decide) q) (by decide))]; exact F_bid
                    have F_span_ : f_33 (rt 18) = .inl (K 0, 40, .inl g_span) := by rw [ef_33, va_up_ne _ _ (fun q => absurd (hC.1.2 18 (by decide) 17 (by decide) q) (by decide))]; exact F_span
                    have F_throttle_ : f_33 (rt 19) = .inl (K 0, 40, .inl g_throttle) := by rw [ef_33, va_up_ne _ _ (fun q => absurd (hC.1.2 19 (by decide) 17 (by decide) q) (by decide))]; exact F_throttle
                    have F_promised_ : f_33 (rt 22) = .inl (K 0, 40, .inl g_promised) := by rw [ef_33, va_up_ne _ _ (fun q => absurd (hC.1.2 22 (by decide) 17 (by decide) q) (by decide))]; exact F_promised
                    have F_m := F_m_
                    have F_sort := F_sort_
                    have F_pays := F_pays_
                    have F_must := F_must_
                    have F_never := F_never_
                    have F_bid := F_bid_
                    have F_span := F_span_
                    have F_throttle := F_throttle_
                    have F_promised := F_promised_
                    have F_cap : f_33 (rt 17) = .inl (K 0, 40, .inl g_32) := by rw [ef_33, va_up_self]
                    have hC : mC rt L f_33 fm := ⟨hC.1, F_m, hC.2.2.1, hC.2.2.2⟩
                    refine lv_aload_n hx hb dX6_campaign_182 rfl (lv_at hl 3 rfl) ?_
                    refine g_get (ci := 6) (v := .ref (rt 18)) (C := RX6) (T := TX6) (N := 51) hx hb hts uB6 hown hK hP (hC.1.1 51 (by decide)) F_m rfl 18 (by decide) wm_51 (hC.2.2.2 18 (by decide)) dX6_campaign_183 ?_
                    refine lv_iload hx hb dX6_campaign_186 (lv_at hl 0 rfl) ?_
                    refine lv_iconst (v := 1) hx hb dX6_campaign_188 (by decide) ?_
                    refine g_iast hx hb hK hP hD hS (hC.1.1 18 (by decide)) F_span (vp_in_nI (by omega) (by decide)) dX6_campaign_189 (fun H locs hP hD hS => ?_)
                    obtain ⟨g_34, eg_34⟩ : ∃ z9, z9 = upd g_span (Int32.toNatClampNeg (nI nc)) 1 := ⟨_, rfl⟩
                    rw [← eg_34] at hP hD
                    obtain ⟨f_35, ef_35⟩ : ∃ z9, z9 = va_up f_33 (rt 18) (.inl (K 0, 40, .inl g_34)) := ⟨_, rfl⟩
                    have hP : va_P (dC, dI) vwCl (va_pl L f_35) H := by rw [ef_35]; exact hP
                    have hD : va_D A (va_pl L f_35) := by rw [ef_35]; exact hD
                    have F_m_ : f_35 (rt 51) = .inr (6, fm) := by rw [ef_35, va_up_ne _ _ (fun q => absurd (hC.1.2 51 (by decide) 18 (by decide) q) (by decide))]; exact F_m
                    have F_sort_ : f_35 (rt 10) = .inl (K 0, 40, .inl g_19) := by rw [ef_35, va_up_ne _ _ (fun q => absurd (hC.1.2 10 (by decide) 18 (by decide) q) (by decide))]; exact F_sort
                    have F_pays_ : f_35 (rt 11) = .inl (K 0, 40, .inl g_22) := by rw [ef_35, va_up_ne _ _ (fun q => absurd (hC.1.2 11 (by decide) 18 (by decide) q) (by decide))]; exact F_pays
                    have F_must_ : f_35 (rt 12) = .inl (K 0, 40, .inl g_25) := by rw [ef_35, va_up_ne _ _ (fun q => absurd (hC.1.2 12 (by decide) 18 (by decide) q) (by decide))]; exact F_must
                    have F_never_ : f_35 (rt 13) = .inl (K 0, 40, .inl g_28) := by rw [ef_35, va_up_ne _ _ (fun q => absurd (hC.1.2 13 (by decide) 18 (by decide) q) (by decide))]; exact F_never
                    have F_bid_ : f_35 (rt 14) = .inl (K 0, 40, .inl g_30) := by rw [ef_35, va_up_ne _ _ (fun q => absurd (hC.1.2 14 (by decide) 18 (by decide) q) (by decide))]; exact F_bid
                    have F_cap_ : f_35 (rt 17) = .inl (K 0, 40, .inl g_32) := by rw [ef_35, va_up_ne _ _ (fun q => absurd (hC.1.2 17 (by decide) 18 (by decide) q) (by decide))]; exact F_cap
                    have F_throttle_ : f_35 (rt 19) = .inl (K 0, 40, .inl g_throttle) := by rw [ef_35, va_up_ne _ _ (fun q => absurd (hC.1.2 19 (by decide) 18 (by decide) q) (by decide))]; exact F_throttle
                    have F_promised_ : f_35 (rt 22) = .inl (K 0, 40, .inl g_promised) := by rw [ef_35, va_up_ne _ _ (fun q => absurd (hC.1.2 22 (by decide) 18 (by decide) q) (by decide))]; exact F_promised
                    have F_m := F_m_
                    have F_sort := F_sort_
                    have F_pays := F_pays_
                    have F_must := F_must_
                    have F_never := F_never_
                    have F_bid := F_bid_
                    have F_cap := F_cap_
                    have F_throttle := F_throttle_
                    have F_promised := F_promised_
                    have F_span : f_35 (rt 18) = .inl (K 0, 40, .inl g_34) := by rw [ef_35, va_up_self]
                    have hC : mC rt L f_35 fm := ⟨hC.1, F_m, hC.2.2.1, hC.2.2.2⟩
                    refine lv_aload_n hx hb dX6_campaign_190 rfl (lv_at hl 3 rfl) ?_
                    refine g_get (ci := 6) (v := .ref (rt 19)) (C := RX6) (T := TX6) (N := 51) hx hb hts uB6 hown hK hP (hC.1.1 51 (by decide)) F_m rfl 19 (by decide) wm_38 (hC.2.2.2 19 (by decide)) dX6_campaign_191 ?_
                    refine lv_iload hx hb dX6_campaign_194 (lv_at hl 0 rfl) ?_
                    refine lv_sipush (v := 1000) hx hb dX6_campaign_196 (by decide) ?_
                    refine g_iast hx hb hK hP hD hS (hC.1.1 19 (by decide)) F_throttle (vp_in_nI (by omega) (by decide)) dX6_campaign_199 (fun H locs hP hD hS => ?_)
                    obtain ⟨g_36, eg_36⟩ : ∃ z9, z9 = upd g_throttle (Int32.toNatClampNeg (nI nc)) 1000 := ⟨_, rfl⟩
                    rw [← eg_36] at hP hD
                    obtain ⟨f_37, ef_37⟩ : ∃ z9, z9 = va_up f_35 (rt 19) (.inl (K 0, 40, .inl g_36)) := ⟨_, rfl⟩
                    have hP : va_P (dC, dI) vwCl (va_pl L f_37) H := by rw [ef_37]; exact hP
                    have hD : va_D A (va_pl L f_37) := by rw [ef_37]; exact hD
                    have F_m_ : f_37 (rt 51) = .inr (6, fm) := by rw [ef_37, va_up_ne _ _ (fun q => absurd (hC.1.2 51 (by decide) 19 (by decide) q) (by decide))]; exact F_m
                    have F_sort_ : f_37 (rt 10) = .inl (K 0, 40, .inl g_19) := by rw [ef_37, va_up_ne _ _ (fun q => absurd (hC.1.2 10 (by decide) 19 (by decide) q) (by decide))]; exact F_sort
                    have F_pays_ : f_37 (rt 11) = .inl (K 0, 40, .inl g_22) := by rw [ef_37, va_up_ne _ _ (fun q => absurd (hC.1.2 11 (by decide) 19 (by decide) q) (by decide))]; exact F_pays
                    have F_must_ : f_37 (rt 12) = .inl (K 0, 40, .inl g_25) := by rw [ef_37, va_up_ne _ _ (fun q => absurd (hC.1.2 12 (by decide) 19 (by decide) q) (by decide))]; exact F_must
                    have F_never_ : f_37 (rt 13) = .inl (K 0, 40, .inl g_28) := by rw [ef_37, va_up_ne _ _ (fun q => absurd (hC.1.2 13 (by decide) 19 (by decide) q) (by decide))]; exact F_never
                    have F_bid_ : f_37 (rt 14) = .inl (K 0, 40, .inl g_30) := by rw [ef_37, va_up_ne _ _ (fun q => absurd (hC.1.2 14 (by decide) 19 (by decide) q) (by decide))]; exact F_bid
                    have F_cap_ : f_37 (rt 17) = .inl (K 0, 40, .inl g_32) := by rw [ef_37, va_up_ne _ _ (fun q => absurd (hC.1.2 17 (by decide) 19 (by decide) q) (by decide))]; exact F_cap
                    have F_span_ : f_37 (rt 18) = .inl (K 0, 40, .inl g_34) := by rw [ef_37, va_up_ne _ _ (fun q => absurd (hC.1.2 18 (by decide) 19 (by decide) q) (by decide))]; exact F_span
                    have F_promised_ : f_37 (rt 22) = .inl (K 0, 40, .inl g_promised) := by rw [ef_37, va_up_ne _ _ (fun q => absurd (hC.1.2 22 (by decide) 19 (by decide) q) (by decide))]; exact F_promised
                    have F_m := F_m_
                    have F_sort := F_sort_
                    have F_pays := F_pays_
                    have F_must := F_must_
                    have F_never := F_never_
                    have F_bid := F_bid_
                    have F_cap := F_cap_
                    have F_span := F_span_
                    have F_promised := F_promised_
                    have F_throttle : f_37 (rt 19) = .inl (K 0, 40, .inl g_36) := by rw [ef_37, va_up_self]
                    have hC : mC rt L f_37 fm := ⟨hC.1, F_m, hC.2.2.1, hC.2.2.2⟩
                    refine lv_aload_n hx hb dX6_campaign_200 rfl (lv_at hl 3 rfl) ?_
                    refine g_get (ci := 6) (v := .ref (rt 22)) (C := RX6) (T := TX6) (N := 51) hx hb hts uB6 hown hK hP (hC.1.1 51 (by decide)) F_m rfl 22 (by decide) wm_22 (hC.2.2.2 22 (by decide)) dX6_campaign_201 ?_
                    refine lv_iload hx hb dX6_campaign_204 (lv_at hl 0 rfl) ?_
                    refine lv_iconst (v := 0) hx hb dX6_campaign_206 (by decide) ?_
                    refine g_iast hx hb hK hP hD hS (hC.1.1 22 (by decide)) F_promised (vp_in_nI (by omega) (by decide)) dX6_campaign_207 (fun H locs hP hD hS => ?_)
                    obtain ⟨g_38, eg_38⟩ : ∃ z9, z9 = upd g_promised (Int32.toNatClampNeg (nI nc)) 0 := ⟨_, rfl⟩
                    rw [← eg_38] at hP hD
                    obtain ⟨f_39, ef_39⟩ : ∃ z9, z9 = va_up f_37 (rt 22) (.inl (K 0, 40, .inl g_38)) := ⟨_, rfl⟩
                    have hP : va_P (dC, dI) vwCl (va_pl L f_39) H := by rw [ef_39]; exact hP
                    have hD : va_D A (va_pl L f_39) := by rw [ef_39]; exact hD
                    have F_m_ : f_39 (rt 51) = .inr (6, fm) := by rw [ef_39, va_up_ne _ _ (fun q => absurd (hC.1.2 51 (by decide) 22 (by decide) q) (by decide))]; exact F_m
                    have F_sort_ : f_39 (rt 10) = .inl (K 0, 40, .inl g_19) := by rw [ef_39, va_up_ne _ _ (fun q => absurd (hC.1.2 10 (by decide) 22 (by decide) q) (by decide))]; exact F_sort
                    have F_pays_ : f_39 (rt 11) = .inl (K 0, 40, .inl g_22) := by rw [ef_39, va_up_ne _ _ (fun q => absurd (hC.1.2 11 (by decide) 22 (by decide) q) (by decide))]; exact F_pays
                    have F_must_ : f_39 (rt 12) = .inl (K 0, 40, .inl g_25) := by rw [ef_39, va_up_ne _ _ (fun q => absurd (hC.1.2 12 (by decide) 22 (by decide) q) (by decide))]; exact F_must
                    have F_never_ : f_39 (rt 13) = .inl (K 0, 40, .inl g_28) := by rw [ef_39, va_up_ne _ _ (fun q => absurd (hC.1.2 13 (by decide) 22 (by decide) q) (by decide))]; exact F_never
                    have F_bid_ : f_39 (rt 14) = .inl (K 0, 40, .inl g_30) := by rw [ef_39, va_up_ne _ _ (fun q => absurd (hC.1.2 14 (by decide) 22 (by decide) q) (by decide))]; exact F_bid
                    have F_cap_ : f_39 (rt 17) = .inl (K 0, 40, .inl g_32) := by rw [ef_39, va_up_ne _ _ (fun q => absurd (hC.1.2 17 (by decide) 22 (by decide) q) (by decide))]; exact F_cap
                    have F_span_ : f_39 (rt 18) = .inl (K 0, 40, .inl g_34) := by rw [ef_39, va_up_ne _ _ (fun q => absurd (hC.1.2 18 (by decide) 22 (by decide) q) (by decide))]; exact F_span
                    have F_throttle_ : f_39 (rt 19) = .inl (K 0, 40, .inl g_36) := by rw [ef_39, va_up_ne _ _ (fun q => absurd (hC.1.2 19 (by decide) 22 (by decide) q) (by decide))]; exact F_throttle
                    have F_m := F_m_
                    have F_sort := F_sort_
                    have F_pays := F_pays_
                    have F_must := F_must_
                    have F_never := F_never_
                    have F_bid := F_bid_
                    have F_cap := F_cap_
                    have F_span := F_span_
                    have F_throttle := F_throttle_
                    have F_promised : f_39 (rt 22) = .inl (K 0, 40, .inl g_38) := by rw [ef_39, va_up_self]
                    have hC : mC rt L f_39 fm := ⟨hC.1, F_m, hC.2.2.1, hC.2.2.2⟩
                    refine lv_aload_n hx hb dX6_campaign_208 rfl (lv_at hl 3 rfl) ?_
                    refine lv_dup hx hb dX6_campaign_209 rfl ?_
                    refine g_get (ci := 6) (v := .int (nI nc)) (C := RX6) (T := TX6) (N := 51) hx hb hts uB6 hown hK hP (hC.1.1 51 (by decide)) F_m rfl 9 (by decide) wm_76 I_campaigns dX6_campaign_210 ?_
                    refine lv_iconst (v := 1) hx hb dX6_campaign_213 (by decide) ?_
                    refine lv_iadd hx hb dX6_campaign_214 ?_
                    refine lv_topi (fun x_40 ex_40 => ?_)
                    obtain rfl : x_40 = nI (nc + 1) := ex_40.trans (nI_1 nc)
                    refine g_put (ci := 6) (v := .int (nI (nc + 1))) (ty := .int) (C := RX6) (T := TX6) (N := 51) hx hb hts uB6 tyX6 tyX6_ok nmX6 hown hK hP hD hS (hC.1.1 51 (by decide)) F_m rfl 9 (by decide) wm_76 rfl (by decide +kernel) rfl rfl (by rw [hC.2.2.1]; decide) dX6_campaign_215 (fun H locs hP hD hS => ?_)
                    obtain ⟨fs_41, efs_41⟩ : ∃ z9, z9 = List.set fm 9 (.int (nI (nc + 1))) := ⟨_, rfl⟩
                    rw [← efs_41] at hP hD
                    have hlen_ : fs_41.length = 51 := by rw [efs_41, List.length_set]; exact hC.2.2.1
                    have I_campaigns : fs_41[9]? = some (.int (nI (nc + 1))) := by rw [efs_41]; exact List.getElem?_set_self (by rw [hC.2.2.1]; decide)
                    have hmr_ : ∀ k ∈ mArr, fs_41[k]? = some (.ref (rt k)) := fun k h => by rw [efs_41, List.getElem?_set_ne (fun q => by rw [← q] at h; exact absurd h (by decide))]; exact hC.2.2.2 k h
                    obtain ⟨f_42, ef_42⟩ : ∃ z9, z9 = va_up f_39 (rt 51) (.inr (6, fs_41)) := ⟨_, rfl⟩
                    have hP : va_P (dC, dI) vwCl (va_pl L f_42) H := by rw [ef_42]; exact hP
                    have hD : va_D A (va_pl L f_42) := by rw [ef_42]; exact hD
                    have F_sort_ : f_42 (rt 10) = .inl (K 0, 40, .inl g_19) := by rw [ef_42, va_up_ne _ _ (fun q => absurd (hC.1.2 10 (by decide) 51 (by decide) q) (by decide))]; exact F_sort
                    have F_pays_ : f_42 (rt 11) = .inl (K 0, 40, .inl g_22) := by rw [ef_42, va_up_ne _ _ (fun q => absurd (hC.1.2 11 (by decide) 51 (by decide) q) (by decide))]; exact F_pays
                    have F_must_ : f_42 (rt 12) = .inl (K 0, 40, .inl g_25) := by rw [ef_42, va_up_ne _ _ (fun q => absurd (hC.1.2 12 (by decide) 51 (by decide) q) (by decide))]; exact F_must
                    have F_never_ : f_42 (rt 13) = .inl (K 0, 40, .inl g_28) := by rw [ef_42, va_up_ne _ _ (fun q => absurd (hC.1.2 13 (by decide) 51 (by decide) q) (by decide))]; exact F_never
                    have F_bid_ : f_42 (rt 14) = .inl (K 0, 40, .inl g_30) := by rw [ef_42, va_up_ne _ _ (fun q => absurd (hC.1.2 14 (by decide) 51 (by decide) q) (by decide))]; exact F_bid
                    have F_cap_ : f_42 (rt 17) = .inl (K 0, 40, .inl g_32) := by rw [ef_42, va_up_ne _ _ (fun q => absurd (hC.1.2 17 (by decide) 51 (by decide) q) (by decide))]; exact F_cap
                    have F_span_ : f_42 (rt 18) = .inl (K 0, 40, .inl g_34) := by rw [ef_42, va_up_ne _ _ (fun q => absurd (hC.1.2 18 (by decide) 51 (by decide) q) (by decide))]; exact F_span
                    have F_throttle_ : f_42 (rt 19) = .inl (K 0, 40, .inl g_36) := by rw [ef_42, va_up_ne _ _ (fun q => absurd (hC.1.2 19 (by decide) 51 (by decide) q) (by decide))]; exact F_throttle
                    have F_promised_ : f_42 (rt 22) = .inl (K 0, 40, .inl g_38) := by rw [ef_42, va_up_ne _ _ (fun q => absurd (hC.1.2 22 (by decide) 51 (by decide) q) (by decide))]; exact F_promised
                    have F_sort := F_sort_
                    have F_pays := F_pays_
                    have F_must := F_must_
                    have F_never := F_never_
                    have F_bid := F_bid_
                    have F_cap := F_cap_
                    have F_span := F_span_
                    have F_throttle := F_throttle_
                    have F_promised := F_promised_
                    have F_m : f_42 (rt 51) = .inr (6, fs_41) := by rw [ef_42, va_up_self]
                    have hC : mC rt L f_42 fs_41 := ⟨hC.1, F_m, hlen_, hmr_⟩
                    refine lv_iload hx hb dX6_campaign_218 (lv_at hl 0 rfl) ?_
                    exact W.iret (v := nI nc) hx hb hr (fun t ht hW => ⟨⟨nI nc, f_42, rfl, (Or.inr (Or.inr ⟨(by subst ex_1 ex_5 ex_14 ex_15 ex_16 ex_21 ex_24 ex_27; have h1 := k_cp1 x; have h2 := k_cp2 y; simp only [Int32.lt_iff_toInt_lt, Int32.le_iff_toInt_le, ← Int32.toInt_inj, Int32.reduceToInt] at h1 h2 c_2 g_4 c_6 g_8 g_10 c_11 g_13 c_17; unfold cpOk; simp only [Int32.lt_iff_toInt_lt, Int32.le_iff_toInt_le, ← Int32.toInt_inj, Int32.reduceToInt]; omega), hfl, rfl, by rw [ef_42, efs_41, ef_39, eg_38, ef_37, eg_36, ef_35, eg_34, ef_33, eg_32, ef_31, eg_30, ef_29, eg_28, ef_26, eg_25, ef_23, eg_22, ef_20, eg_19]; subst ex_27 ex_24 ex_21 ex_16 ex_15 ex_14 ex_5 ex_1; rfl⟩)), by show va_P (dC, dI) vwCl (va_pl L f_42) t.heap; rw [ht]; exact hP⟩, hS.F ht⟩) hS.2.2 dX6_campaign_220
                  · skip
                    have hfl : nc = 40 := (nI_eq (by omega) (by decide)).mp c_18
                    refine lv_bipush (v := (-3)) hx hb dX6_campaign_112 (by decide) ?_
                    exact W.iret (v := (-3)) hx hb hr (fun t ht hW => ⟨⟨(-3), f, rfl, (Or.inr (Or.inl ⟨(by subst ex_1 ex_5 ex_14 ex_15 ex_16; have h1 := k_cp1 x; have h2 := k_cp2 y; simp only [Int32.lt_iff_toInt_lt, Int32.le_iff_toInt_le, ← Int32.toInt_inj, Int32.reduceToInt] at h1 h2 c_2 g_4 c_6 g_8 g_10 c_11 g_13 c_17; unfold cpOk; simp only [Int32.lt_iff_toInt_lt, Int32.le_iff_toInt_le, ← Int32.toInt_inj, Int32.reduceToInt]; omega), hfl, rfl, rfl⟩)), by show va_P (dC, dI) vwCl (va_pl L f) t.heap; rw [ht]; exact hP⟩, hS.F ht⟩) hS.2.2 dX6_campaign_114
                · skip
                  refine lv_iconst (v := (-1)) hx hb dX6_campaign_101 (by decide) ?_
                  exact W.iret (v := (-1)) hx hb hr (fun t ht hW => ⟨⟨(-1), f, rfl, (Or.inl ⟨(by subst ex_1 ex_5 ex_14 ex_15 ex_16; have h1 := k_cp1 x; have h2 := k_cp2 y; simp only [Int32.lt_iff_toInt_lt, Int32.le_iff_toInt_le, ← Int32.toInt_inj, Int32.reduceToInt] at h1 h2 c_2 g_4 c_6 g_8 g_10 c_11 g_13 c_17; unfold cpOk; simp only [Int32.lt_iff_toInt_lt, Int32.le_iff_toInt_le, ← Int32.toInt_inj, Int32.reduceToInt]; omega), rfl, rfl⟩), by show va_P (dC, dI) vwCl (va_pl L f) t.heap; rw [ht]; exact hP⟩, hS.F ht⟩) hS.2.2 dX6_campaign_102
            · skip
              refine lv_iload_n hx hb dX6_campaign_57 rfl (lv_at hl 4 rfl) ?_
              refine lv_if_ne (tgt := 79) hx hb dX6_campaign_58 (by decide) (fun c_43 => ?_) (fun c_43 => ?_)
              · skip
                refine lv_iconst (v := 0) hx hb dX6_campaign_79 (by decide) ?_
                refine lv_istore (lv' := [(5, .int 0), (4, .int x_1), (0, .ref (rt 51)), (1, .int x), (2, .int y), (3, .int z)]) hx hb dX6_campaign_80 hl (by decide) rfl (fun ls hl => ?_)
                refine lv_iload hx hb dX6_campaign_82 (lv_at hl 0 rfl) ?_
                refine lv_if_eq (tgt := 101) hx hb dX6_campaign_84 (by decide) (fun _ => ?_) (fun h9 => absurd (by decide) h9)
                refine lv_iconst (v := (-1)) hx hb dX6_campaign_101 (by decide) ?_
                exact W.iret (v := (-1)) hx hb hr (fun t ht hW => ⟨⟨(-1), f, rfl, (Or.inl ⟨(by subst ex_1 ex_5; have h1 := k_cp1 x; have h2 := k_cp2 y; simp only [Int32.lt_iff_toInt_lt, Int32.le_iff_toInt_le, ← Int32.toInt_inj, Int32.reduceToInt] at h1 h2 c_2 g_4 c_6 g_8 g_10 c_11 c_43; unfold cpOk; simp only [Int32.lt_iff_toInt_lt, Int32.le_iff_toInt_le, ← Int32.toInt_inj, Int32.reduceToInt]; omega), rfl, rfl⟩), by show va_P (dC, dI) vwCl (va_pl L f) t.heap; rw [ht]; exact hP⟩, hS.F ht⟩) hS.2.2 dX6_campaign_102
              · skip
                refine lv_goto (tgt := 75) hx hb dX6_campaign_61 (by decide) ?_
                refine lv_iconst (v := 1) hx hb dX6_campaign_75 (by decide) ?_
                refine lv_goto (tgt := 80) hx hb dX6_campaign_76 (by decide) ?_
                refine lv_istore (lv' := [(5, .int 1), (4, .int x_1), (0, .ref (rt 51)), (1, .int x), (2, .int y), (3, .int z)]) hx hb dX6_campaign_80 hl (by decide) rfl (fun ls hl => ?_)
                refine lv_iload hx hb dX6_campaign_82 (lv_at hl 0 rfl) ?_
                refine lv_if_eq (tgt := 101) hx hb dX6_campaign_84 (by decide) (fun h9 => absurd h9 (by decide)) (fun _ => ?_)
                refine lv_iload_n hx hb dX6_campaign_87 rfl (lv_at hl 4 rfl) ?_
                refine lv_sipush (v := 4096) hx hb dX6_campaign_88 (by decide) ?_
                refine lv_idiv hx hb dX6_campaign_91 (by decide) ?_
                refine lv_topi (fun x_44 ex_44 => ?_)
                refine lv_iload_n hx hb dX6_campaign_92 rfl (lv_at hl 4 rfl) ?_
                refine lv_sipush (v := 4096) hx hb dX6_campaign_93 (by decide) ?_
                refine lv_irem hx hb dX6_campaign_96 (by decide) ?_
                refine lv_topi (fun x_45 ex_45 => ?_)
                refine lv_iand hx hb dX6_campaign_97 ?_
                refine lv_topi (fun x_46 ex_46 => ?_)
                refine lv_if_eq (tgt := 103) hx hb dX6_campaign_98 (by decide) (fun c_47 => ?_) (fun c_47 => ?_)
                · skip
                  refine lv_aload_n hx hb dX6_campaign_103 rfl (lv_at hl 2 rfl) ?_
                  refine g_get (ci := 6) (v := .int (nI nc)) (C := RX6) (T := TX6) (N := 51) hx hb hts uB6 hown hK hP (hC.1.1 51 (by decide)) F_m rfl 9 (by decide) wm_76 I_campaigns dX6_campaign_104 ?_
                  refine lv_bipush (v := 40) hx hb dX6_campaign_107 (by decide) ?_
                  refine lv_icmp_ne (tgt := 115) hx hb dX6_campaign_109 (by decide) (fun c_48 => ?_) (fun c_48 => ?_)
                  · skip
                    have hfl : nc < 40 := Nat.lt_of_le_of_ne hnc (fun q => c_48 (by rw [q]; rfl))
                    refine lv_aload_n hx hb dX6_campaign_115 rfl (lv_at hl 2 rfl) ?_
                    refine g_get (ci := 6) (v := .int (nI nc)) (C := RX6) (T := TX6) (N := 51) hx hb hts uB6 hown hK hP (hC.1.1 51 (by decide)) F_m rfl 9 (by decide) wm_76 I_campaigns dX6_campaign_116 ?_
                    refine lv_istore (lv' := [(6, .int (nI nc)), (5, .int 1), (4, .int x_1), (0, .ref (rt 51)), (1, .int x), (2, .int y), (3, .int z)]) hx hb dX6_campaign_119 hl (by decide) rfl (fun ls hl => ?_)
                    refine lv_aload_n hx hb dX6_campaign_121 rfl (lv_at hl 3 rfl) ?_
                    refine g_get (ci := 6) (v := .ref (rt 10)) (C := RX6) (T := TX6) (N := 51) hx hb hts uB6 hown hK hP (hC.1.1 51 (by decide)) F_m rfl 10 (by decide) wm_21 (hC.2.2.2 10 (by decide)) dX6_campaign_122 ?_
                    refine lv_iload hx hb dX6_campaign_125 (lv_at hl 0 rfl) ?_
                    refine lv_iload hx hb dX6_campaign_127 (lv_at hl 2 rfl) ?_
                    refine g_iast hx hb hK hP hD hS (hC.1.1 10 (by decide)) F_sort (vp_in_nI (by omega) (by decide)) dX6_campaign_129 (fun H locs hP hD hS => ?_)
                    obtain ⟨g_49, eg_49⟩ : ∃ z9, z9 = upd g_sort (Int32.toNatClampNeg (nI nc)) x_1 := ⟨_, rfl⟩
                    rw [← eg_49] at hP hD
                    obtain ⟨f_50, ef_50⟩ : ∃ z9, z9 = va_up f (rt 10) (.inl (K 0, 40, .inl g_49)) := ⟨_, rfl⟩
                    have hP : va_P (dC, dI) vwCl (va_pl L f_50) H := by rw [ef_50]; exact hP
                    have hD : va_D A (va_pl L f_50) := by rw [ef_50]; exact hD
                    have F_m_ : f_50 (rt 51) = .inr (6, fm) := by rw [ef_50, va_up_ne _ _ (fun q => absurd (hC.1.2 51 (by decide) 10 (by decide) q) (by decide))]; exact F_m
                    have F_pays_ : f_50 (rt 11) = .inl (K 0, 40, .inl g_pays) := by rw [ef_50, va_up_ne _ _ (fun q => absurd (hC.1.2 11 (by decide) 10 (by decide) q) (by decide))]; exact F_pays
                    have F_must_ : f_50 (rt 12) = .inl (K 0, 40, .inl g_must) := by rw [ef_50, va_up_ne _ _ (fun q => absurd (hC.1.2 12 (by decide) 10 (by decide) q) (by decide))]; exact F_must
                    have F_never_ : f_50 (rt 13) = .inl (K 0, 40, .inl g_never) := by rw [ef_50, va_up_ne _ _ (fun q => absurd (hC.1.2 13 (by decide) 10 (by decide) q) (by decide))]; exact F_never
                    have F_bid_ : f_50 (rt 14) = .inl (K 0, 40, .inl g_bid) := by rw [ef_50, va_up_ne _ _ (fun q => absurd (hC.1.2 14 (by decide) 10 (by decide) q) (by decide))]; exact F_bid
                    have F_cap_ : f_50 (rt 17) = .inl (K 0, 40, .inl g_cap) := by rw [ef_50, va_up_ne _ _ (fun q => absurd (hC.1.2 17 (by decide) 10 (by decide) q) (by decide))]; exact F_cap
                    have F_span_ : f_50 (rt 18) = .inl (K 0, 40, .inl g_span) := by rw [ef_50, va_up_ne _ _ (fun q => absurd (hC.1.2 18 (by decide) 10 (by decide) q) (by decide))]; exact F_span
                    have F_throttle_ : f_50 (rt 19) = .inl (K 0, 40, .inl g_throttle) := by rw [ef_50, va_up_ne _ _ (fun q => absurd (hC.1.2 19 (by decide) 10 (by decide) q) (by decide))]; exact F_throttle
                    have F_promised_ : f_50 (rt 22) = .inl (K 0, 40, .inl g_promised) := by rw [ef_50, va_up_ne _ _ (fun q => absurd (hC.1.2 22 (by decide) 10 (by decide) q) (by decide))]; exact F_promised
                    have F_m := F_m_
                    have F_pays := F_pays_
                    have F_must := F_must_
                    have F_never := F_never_
                    have F_bid := F_bid_
                    have F_cap := F_cap_
                    have F_span := F_span_
                    have F_throttle := F_throttle_
                    have F_promised := F_promised_
                    have F_sort : f_50 (rt 10) = .inl (K 0, 40, .inl g_49) := by rw [ef_50, va_up_self]
                    have hC : mC rt L f_50 fm := ⟨hC.1, F_m, hC.2.2.1, hC.2.2.2⟩
                    refine lv_aload_n hx hb dX6_campaign_130 rfl (lv_at hl 3 rfl) ?_
                    refine g_get (ci := 6) (v := .ref (rt 11)) (C := RX6) (T := TX6) (N := 51) hx hb hts uB6 hown hK hP (hC.1.1 51 (by decide)) F_m rfl 11 (by decide) wm_1 (hC.2.2.2 11 (by decide)) dX6_campaign_131 ?_
                    refine lv_iload hx hb dX6_campaign_134 (lv_at hl 0 rfl) ?_
                    refine lv_iload_n hx hb dX6_campaign_136 rfl (lv_at hl 4 rfl) ?_
                    refine lv_bipush (v := 10) hx hb dX6_campaign_137 (by decide) ?_
                    refine lv_irem hx hb dX6_campaign_139 (by decide) ?_
                    refine lv_topi (fun x_51 ex_51 => ?_)
                    refine g_iast hx hb hK hP hD hS (hC.1.1 11 (by decide)) F_pays (vp_in_nI (by omega) (by decide)) dX6_campaign_140 (fun H locs hP hD hS => ?_)
                    obtain ⟨g_52, eg_52⟩ : ∃ z9, z9 = upd g_pays (Int32.toNatClampNeg (nI nc)) x_51 := ⟨_, rfl⟩
                    rw [← eg_52] at hP hD
                    obtain ⟨f_53, ef_53⟩ : ∃ z9, z9 = va_up f_50 (rt 11) (.inl (K 0, 40, .inl g_52)) := ⟨_, rfl⟩
                    have hP : va_P (dC, dI) vwCl (va_pl L f_53) H := by rw [ef_53]; exact hP
                    have hD : va_D A (va_pl L f_53) := by rw [ef_53]; exact hD
                    have F_m_ : f_53 (rt 51) = .inr (6, fm) := by rw [ef_53, va_up_ne _ _ (fun q => absurd (hC.1.2 51 (by decide) 11 (by decide) q) (by decide))]; exact F_m
                    have F_sort_ : f_53 (rt 10) = .inl (K 0, 40, .inl g_49) := by rw [ef_53, va_up_ne _ _ (fun q => absurd (hC.1.2 10 (by decide) 11 (by decide) q) (by decide))]; exact F_sort
                    have F_must_ : f_53 (rt 12) = .inl (K 0, 40, .inl g_must) := by rw [ef_53, va_up_ne _ _ (fun q => absurd (hC.1.2 12 (by decide) 11 (by decide) q) (by decide))]; exact F_must
                    have F_never_ : f_53 (rt 13) = .inl (K 0, 40, .inl g_never) := by rw [ef_53, va_up_ne _ _ (fun q => absurd (hC.1.2 13 (by decide) 11 (by decide) q) (by decide))]; exact F_never
                    have F_bid_ : f_53 (rt 14) = .inl (K 0, 40, .inl g_bid) := by rw [ef_53, va_up_ne _ _ (fun q => absurd (hC.1.2 14 (by decide) 11 (by decide) q) (by decide))]; exact F_bid
                    have F_cap_ : f_53 (rt 17) = .inl (K 0, 40, .inl g_cap) := by rw [ef_53, va_up_ne _ _ (fun q => absurd (hC.1.2 17 (by decide) 11 (by decide) q) (by decide))]; exact F_cap
                    have F_span_ : f_53 (rt 18) = .inl (K 0, 40, .inl g_span) := by rw [ef_53, va_up_ne _ _ (fun q => absurd (hC.1.2 18 (by decide) 11 (by decide) q) (by decide))]; exact F_span
                    have F_throttle_ : f_53 (rt 19) = .inl (K 0, 40, .inl g_throttle) := by rw [ef_53, va_up_ne _ _ (fun q => absurd (hC.1.2 19 (by decide) 11 (by decide) q) (by decide))]; exact F_throttle
                    have F_promised_ : f_53 (rt 22) = .inl (K 0, 40, .inl g_promised) := by rw [ef_53, va_up_ne _ _ (fun q => absurd (hC.1.2 22 (by decide) 11 (by decide) q) (by decide))]; exact F_promised
                    have F_m := F_m_
                    have F_sort := F_sort_
                    have F_must := F_must_
                    have F_never := F_never_
                    have F_bid := F_bid_
                    have F_cap := F_cap_
                    have F_span := F_span_
                    have F_throttle := F_throttle_
                    have F_promised := F_promised_
                    have F_pays : f_53 (rt 11) = .inl (K 0, 40, .inl g_52) := by rw [ef_53, va_up_self]
                    have hC : mC rt L f_53 fm := ⟨hC.1, F_m, hC.2.2.1, hC.2.2.2⟩
                    refine lv_aload_n hx hb dX6_campaign_141 rfl (lv_at hl 3 rfl) ?_
                    refine g_get (ci := 6) (v := .ref (rt 12)) (C := RX6) (T := TX6) (N := 51) hx hb hts uB6 hown hK hP (hC.1.1 51 (by decide)) F_m rfl 12 (by decide) wm_31 (hC.2.2.2 12 (by decide)) dX6_campaign_142 ?_
                    refine lv_iload hx hb dX6_campaign_145 (lv_at hl 0 rfl) ?_
                    refine lv_iload_n hx hb dX6_campaign_147 rfl (lv_at hl 5 rfl) ?_
                    refine lv_sipush (v := 4096) hx hb dX6_campaign_148 (by decide) ?_
                    refine lv_idiv hx hb dX6_campaign_151 (by decide) ?_
                    refine lv_topi (fun x_54 ex_54 => ?_)
                    refine g_iast hx hb hK hP hD hS (hC.1.1 12 (by decide)) F_must (vp_in_nI (by omega) (by decide)) dX6_campaign_152 (fun H locs hP hD hS => ?_)
                    obtain ⟨g_55, eg_55⟩ : ∃ z9, z9 = upd g_must (Int32.toNatClampNeg (nI nc)) x_54 := ⟨_, rfl⟩
                    rw [← eg_55] at hP hD
                    obtain ⟨f_56, ef_56⟩ : ∃ z9, z9 = va_up f_53 (rt 12) (.inl (K 0, 40, .inl g_55)) := ⟨_, rfl⟩
                    have hP : va_P (dC, dI) vwCl (va_pl L f_56) H := by rw [ef_56]; exact hP
                    have hD : va_D A (va_pl L f_56) := by rw [ef_56]; exact hD
                    have F_m_ : f_56 (rt 51) = .inr (6, fm) := by rw [ef_56, va_up_ne _ _ (fun q => absurd (hC.1.2 51 (by decide) 12 (by decide) q) (by decide))]; exact F_m
                    have F_sort_ : f_56 (rt 10) = .inl (K 0, 40, .inl g_49) := by rw [ef_56, va_up_ne _ _ (fun q => absurd (hC.1.2 10 (by decide) 12 (by decide) q) (by decide))]; exact F_sort
                    have F_pays_ : f_56 (rt 11) = .inl (K 0, 40, .inl g_52) := by rw [ef_56, va_up_ne _ _ (fun q => absurd (hC.1.2 11 (by decide) 12 (by decide) q) (by decide))]; exact F_pays
                    have F_never_ : f_56 (rt 13) = .inl (K 0, 40, .inl g_never) := by rw [ef_56, va_up_ne _ _ (fun q => absurd (hC.1.2 13 (by decide) 12 (by decide) q) (by decide))]; exact F_never
                    have F_bid_ : f_56 (rt 14) = .inl (K 0, 40, .inl g_bid) := by rw [ef_56, va_up_ne _ _ (fun q => absurd (hC.1.2 14 (by decide) 12 (by decide) q) (by decide))]; exact F_bid
                    have F_cap_ : f_56 (rt 17) = .inl (K 0, 40, .inl g_cap) := by rw [ef_56, va_up_ne _ _ (fun q => absurd (hC.1.2 17 (by decide) 12 (by decide) q) (by decide))]; exact F_cap
                    have F_span_ : f_56 (rt 18) = .inl (K 0, 40, .inl g_span) := by rw [ef_56, va_up_ne _ _ (fun q => absurd (hC.1.2 18 (by decide) 12 (by decide) q) (by decide))]; exact F_span
                    have F_throttle_ : f_56 (rt 19) = .inl (K 0, 40, .inl g_throttle) := by rw [ef_56, va_up_ne _ _ (fun q => absurd (hC.1.2 19 (by decide) 12 (by decide) q) (by decide))]; exact F_throttle
                    have F_promised_ : f_56 (rt 22) = .inl (K 0, 40, .inl g_promised) := by rw [ef_56, va_up_ne _ _ (fun q => absurd (hC.1.2 22 (by decide) 12 (by decide) q) (by decide))]; exact F_promised
                    have F_m := F_m_
                    have F_sort := F_sort_
                    have F_pays := F_pays_
                    have F_never := F_never_
                    have F_bid := F_bid_
                    have F_cap := F_cap_
                    have F_span := F_span_
                    have F_throttle := F_throttle_
                    have F_promised := F_promised_
                    have F_must : f_56 (rt 12) = .inl (K 0, 40, .inl g_55) := by rw [ef_56, va_up_self]
                    have hC : mC rt L f_56 fm := ⟨hC.1, F_m, hC.2.2.1, hC.2.2.2⟩
                    refine lv_aload_n hx hb dX6_campaign_153 rfl (lv_at hl 3 rfl) ?_
                    refine g_get (ci := 6) (v := .ref (rt 13)) (C := RX6) (T := TX6) (N := 51) hx hb hts uB6 hown hK hP (hC.1.1 51 (by decide)) F_m rfl 13 (by decide) wm_32 (hC.2.2.2 13 (by decide)) dX6_campaign_154 ?_
                    refine lv_iload hx hb dX6_campaign_157 (lv_at hl 0 rfl) ?_
                    refine lv_iload_n hx hb dX6_campaign_159 rfl (lv_at hl 5 rfl) ?_
                    refine lv_sipush (v := 4096) hx hb dX6_campaign_160 (by decide) ?_
                    refine lv_irem hx hb dX6_campaign_163 (by decide) ?_
                    refine lv_topi (fun x_57 ex_57 => ?_)
                    refine g_iast hx hb hK hP hD hS (hC.1.1 13 (by decide)) F_never (vp_in_nI (by omega) (by decide)) dX6_campaign_164 (fun H locs hP hD hS => ?_)
                    obtain ⟨g_58, eg_58⟩ : ∃ z9, z9 = upd g_never (Int32.toNatClampNeg (nI nc)) x_57 := ⟨_, rfl⟩
                    rw [← eg_58] at hP hD
                    obtain ⟨f_59, ef_59⟩ : ∃ z9, z9 = va_up f_56 (rt 13) (.inl (K 0, 40, .inl g_58)) := ⟨_, rfl⟩
                    have hP : va_P (dC, dI) vwCl (va_pl L f_59) H := by rw [ef_59]; exact hP
                    have hD : va_D A (va_pl L f_59) := by rw [ef_59]; exact hD
                    have F_m_ : f_59 (rt 51) = .inr (6, fm) := by rw [ef_59, va_up_ne _ _ (fun q => absurd (hC.1.2 51 (by decide) 13 (by decide) q) (by decide))]; exact F_m
                    have F_sort_ : f_59 (rt 10) = .inl (K 0, 40, .inl g_49) := by rw [ef_59, va_up_ne _ _ (fun q => absurd (hC.1.2 10 (by decide) 13 (by decide) q) (by decide))]; exact F_sort
                    have F_pays_ : f_59 (rt 11) = .inl (K 0, 40, .inl g_52) := by rw [ef_59, va_up_ne _ _ (fun q => absurd (hC.1.2 11 (by decide) 13 (by decide) q) (by decide))]; exact F_pays
                    have F_must_ : f_59 (rt 12) = .inl (K 0, 40, .inl g_55) := by rw [ef_59, va_up_ne _ _ (fun q => absurd (hC.1.2 12 (by decide) 13 (by decide) q) (by decide))]; exact F_must
                    have F_bid_ : f_59 (rt 14) = .inl (K 0, 40, .inl g_bid) := by rw [ef_59, va_up_ne _ _ (fun q => absurd (hC.1.2 14 (by decide) 13 (by decide) q) (by decide))]; exact F_bid
                    have F_cap_ : f_59 (rt 17) = .inl (K 0, 40, .inl g_cap) := by rw [ef_59, va_up_ne _ _ (fun q => absurd (hC.1.2 17 (by decide) 13 (by decide) q) (by decide))]; exact F_cap
                    have F_span_ : f_59 (rt 18) = .inl (K 0, 40, .inl g_span) := by rw [ef_59, va_up_ne _ _ (fun q => absurd (hC.1.2 18 (by decide) 13 (by decide) q) (by decide))]; exact F_span
                    have F_throttle_ : f_59 (rt 19) = .inl (K 0, 40, .inl g_throttle) := by rw [ef_59, va_up_ne _ _ (fun q => absurd (hC.1.2 19 (by decide) 13 (by decide) q) (by decide))]; exact F_throttle
                    have F_promised_ : f_59 (rt 22) = .inl (K 0, 40, .inl g_promised) := by rw [ef_59, va_up_ne _ _ (fun q => absurd (hC.1.2 22 (by decide) 13 (by decide) q) (by decide))]; exact F_promised
                    have F_m := F_m_
                    have F_sort := F_sort_
                    have F_pays := F_pays_
                    have F_must := F_must_
                    have F_bid := F_bid_
                    have F_cap := F_cap_
                    have F_span := F_span_
                    have F_throttle := F_throttle_
                    have F_promised := F_promised_
                    have F_never : f_59 (rt 13) = .inl (K 0, 40, .inl g_58) := by rw [ef_59, va_up_self]
                    have hC : mC rt L f_59 fm := ⟨hC.1, F_m, hC.2.2.1, hC.2.2.2⟩
                    refine lv_aload_n hx hb dX6_campaign_165 rfl (lv_at hl 3 rfl) ?_
                    refine g_get (ci := 6) (v := .ref (rt 14)) (C := RX6) (T := TX6) (N := 51) hx hb hts uB6 hown hK hP (hC.1.1 51 (by decide)) F_m rfl 14 (by decide) wm_43 (hC.2.2.2 14 (by decide)) dX6_campaign_166 ?_
                    refine lv_iload hx hb dX6_campaign_169 (lv_at hl 0 rfl) ?_
                    refine lv_iload_n hx hb dX6_campaign_171 rfl (lv_at hl 6 rfl) ?_
                    refine g_iast hx hb hK hP hD hS (hC.1.1 14 (by decide)) F_bid (vp_in_nI (by omega) (by decide)) dX6_campaign_172 (fun H locs hP hD hS => ?_)
                    obtain ⟨g_60, eg_60⟩ : ∃ z9, z9 = upd g_bid (Int32.toNatClampNeg (nI nc)) z := ⟨_, rfl⟩
                    rw [← eg_60] at hP hD
                    obtain ⟨f_61, ef_61⟩ : ∃ z9, z9 = va_up f_59 (rt 14) (.inl (K 0, 40, .inl g_60)) := ⟨_, rfl⟩
                    have hP : va_P (dC, dI) vwCl (va_pl L f_61) H := by rw [ef_61]; exact hP
                    have hD : va_D A (va_pl L f_61) := by rw [ef_61]; exact hD
                    have F_m_ : f_61 (rt 51) = .inr (6, fm) := by rw [ef_61, va_up_ne _ _ (fun q => absurd (hC.1.2 51 (by decide) 14 (by decide) q) (by decide))]; exact F_m
                    have F_sort_ : f_61 (rt 10) = .inl (K 0, 40, .inl g_49) := by rw [ef_61, va_up_ne _ _ (fun q => absurd (hC.1.2 10 (by decide) 14 (by decide) q) (by decide))]; exact F_sort
                    have F_pays_ : f_61 (rt 11) = .inl (K 0, 40, .inl g_52) := by rw [ef_61, va_up_ne _ _ (fun q => absurd (hC.1.2 11 (by decide) 14 (by decide) q) (by decide))]; exact F_pays
                    have F_must_ : f_61 (rt 12) = .inl (K 0, 40, .inl g_55) := by rw [ef_61, va_up_ne _ _ (fun q => absurd (hC.1.2 12 (by decide) 14 (by decide) q) (by decide))]; exact F_must
                    have F_never_ : f_61 (rt 13) = .inl (K 0, 40, .inl g_58) := by rw [ef_61, va_up_ne _ _ (fun q => absurd (hC.1.2 13 (by decide) 14 (by decide) q) (by decide))]; exact F_never
                    have F_cap_ : f_61 (rt 17) = .inl (K 0, 40, .inl g_cap) := by rw [ef_61, va_up_ne _ _ (fun q => absurd (hC.1.2 17 (by decide) 14 (by decide) q) (by decide))]; exact F_cap
                    have F_span_ : f_61 (rt 18) = .inl (K 0, 40, .inl g_span) := by rw [ef_61, va_up_ne _ _ (fun q => absurd (hC.1.2 18 (by decide) 14 (by decide) q) (by decide))]; exact F_span
                    have F_throttle_ : f_61 (rt 19) = .inl (K 0, 40, .inl g_throttle) := by rw [ef_61, va_up_ne _ _ (fun q => absurd (hC.1.2 19 (by decide) 14 (by decide) q) (by decide))]; exact F_throttle
                    have F_promised_ : f_61 (rt 22) = .inl (K 0, 40, .inl g_promised) := by rw [ef_61, va_up_ne _ _ (fun q => absurd (hC.1.2 22 (by decide) 14 (by decide) q) (by decide))]; exact F_promised
                    have F_m := F_m_
                    have F_sort := F_sort_
                    have F_pays := F_pays_
                    have F_must := F_must_
                    have F_never := F_never_
                    have F_cap := F_cap_
                    have F_span := F_span_
                    have F_throttle := F_throttle_
                    have F_promised := F_promised_
                    have F_bid : f_61 (rt 14) = .inl (K 0, 40, .inl g_60) := by rw [ef_61, va_up_self]
                    have hC : mC rt L f_61 fm := ⟨hC.1, F_m, hC.2.2.1, hC.2.2.2⟩
                    refine lv_aload_n hx hb dX6_campaign_173 rfl (lv_at hl 3 rfl) ?_
                    refine g_get (ci := 6) (v := .ref (rt 17)) (C := RX6) (T := TX6) (N := 51) hx hb hts uB6 hown hK hP (hC.1.1 51 (by decide)) F_m rfl 17 (by decide) wm_33 (hC.2.2.2 17 (by decide)) dX6_campaign_174 ?_
                    refine lv_iload hx hb dX6_campaign_177 (lv_at hl 0 rfl) ?_
                    refine lv_bipush (v := 9) hx hb dX6_campaign_179 (by decide) ?_
                    refine g_iast hx hb hK hP hD hS (hC.1.1 17 (by decide)) F_cap (vp_in_nI (by omega) (by decide)) dX6_campaign_181 (fun H locs hP hD hS => ?_)
                    obtain ⟨g_62, eg_62⟩ : ∃ z9, z9 = upd g_cap (Int32.toNatClampNeg (nI nc)) 9 := ⟨_, rfl⟩
                    rw [← eg_62] at hP hD
                    obtain ⟨f_63, ef_63⟩ : ∃ z9, z9 = va_up f_61 (rt 17) (.inl (K 0, 40, .inl g_62)) := ⟨_, rfl⟩
                    have hP : va_P (dC, dI) vwCl (va_pl L f_63) H := by rw [ef_63]; exact hP
                    have hD : va_D A (va_pl L f_63) := by rw [ef_63]; exact hD
                    have F_m_ : f_63 (rt 51) = .inr (6, fm) := by rw [ef_63, va_up_ne _ _ (fun q => absurd (hC.1.2 51 (by decide) 17 (by decide) q) (by decide))]; exact F_m
                    have F_sort_ : f_63 (rt 10) = .inl (K 0, 40, .inl g_49) := by rw [ef_63, va_up_ne _ _ (fun q => absurd (hC.1.2 10 (by decide) 17 (by decide) q) (by decide))]; exact F_sort
                    have F_pays_ : f_63 (rt 11) = .inl (K 0, 40, .inl g_52) := by rw [ef_63, va_up_ne _ _ (fun q => absurd (hC.1.2 11 (by decide) 17 (by decide) q) (by decide))]; exact F_pays
                    have F_must_ : f_63 (rt 12) = .inl (K 0, 40, .inl g_55) := by rw [ef_63, va_up_ne _ _ (fun q => absurd (hC.1.2 12 (by decide) 17 (by decide) q) (by decide))]; exact F_must
                    have F_never_ : f_63 (rt 13) = .inl (K 0, 40, .inl g_58) := by rw [ef_63, va_up_ne _ _ (fun q => absurd (hC.1.2 13 (by decide) 17 (by decide) q) (by decide))]; exact F_never
                    have F_bid_ : f_63 (rt 14) = .inl (K 0, 40, .inl g_60) := by rw [ef_63, va_up_ne _ _ (fun q => absurd (hC.1.2 14 (by decide) 17 (by decide) q) (by decide))]; exact F_bid
                    have F_span_ : f_63 (rt 18) = .inl (K 0, 40, .inl g_span) := by rw [ef_63, va_up_ne _ _ (fun q => absurd (hC.1.2 18 (by decide) 17 (by decide) q) (by decide))]; exact F_span
                    have F_throttle_ : f_63 (rt 19) = .inl (K 0, 40, .inl g_throttle) := by rw [ef_63, va_up_ne _ _ (fun q => absurd (hC.1.2 19 (by decide) 17 (by decide) q) (by decide))]; exact F_throttle
                    have F_promised_ : f_63 (rt 22) = .inl (K 0, 40, .inl g_promised) := by rw [ef_63, va_up_ne _ _ (fun q => absurd (hC.1.2 22 (by decide) 17 (by decide) q) (by decide))]; exact F_promised
                    have F_m := F_m_
                    have F_sort := F_sort_
                    have F_pays := F_pays_
                    have F_must := F_must_
                    have F_never := F_never_
                    have F_bid := F_bid_
                    have F_span := F_span_
                    have F_throttle := F_throttle_
                    have F_promised := F_promised_
                    have F_cap : f_63 (rt 17) = .inl (K 0, 40, .inl g_62) := by rw [ef_63, va_up_self]
                    have hC : mC rt L f_63 fm := ⟨hC.1, F_m, hC.2.2.1, hC.2.2.2⟩
                    refine lv_aload_n hx hb dX6_campaign_182 rfl (lv_at hl 3 rfl) ?_
                    refine g_get (ci := 6) (v := .ref (rt 18)) (C := RX6) (T := TX6) (N := 51) hx hb hts uB6 hown hK hP (hC.1.1 51 (by decide)) F_m rfl 18 (by decide) wm_51 (hC.2.2.2 18 (by decide)) dX6_campaign_183 ?_
                    refine lv_iload hx hb dX6_campaign_186 (lv_at hl 0 rfl) ?_
                    refine lv_iconst (v := 1) hx hb dX6_campaign_188 (by decide) ?_
                    refine g_iast hx hb hK hP hD hS (hC.1.1 18 (by decide)) F_span (vp_in_nI (by omega) (by decide)) dX6_campaign_189 (fun H locs hP hD hS => ?_)
                    obtain ⟨g_64, eg_64⟩ : ∃ z9, z9 = upd g_span (Int32.toNatClampNeg (nI nc)) 1 := ⟨_, rfl⟩
                    rw [← eg_64] at hP hD
                    obtain ⟨f_65, ef_65⟩ : ∃ z9, z9 = va_up f_63 (rt 18) (.inl (K 0, 40, .inl g_64)) := ⟨_, rfl⟩
                    have hP : va_P (dC, dI) vwCl (va_pl L f_65) H := by rw [ef_65]; exact hP
                    have hD : va_D A (va_pl L f_65) := by rw [ef_65]; exact hD
                    have F_m_ : f_65 (rt 51) = .inr (6, fm) := by rw [ef_65, va_up_ne _ _ (fun q => absurd (hC.1.2 51 (by decide) 18 (by decide) q) (by decide))]; exact F_m
                    have F_sort_ : f_65 (rt 10) = .inl (K 0, 40, .inl g_49) := by rw [ef_65, va_up_ne _ _ (fun q => absurd (hC.1.2 10 (by decide) 18 (by decide) q) (by decide))]; exact F_sort
                    have F_pays_ : f_65 (rt 11) = .inl (K 0, 40, .inl g_52) := by rw [ef_65, va_up_ne _ _ (fun q => absurd (hC.1.2 11 (by decide) 18 (by decide) q) (by decide))]; exact F_pays
                    have F_must_ : f_65 (rt 12) = .inl (K 0, 40, .inl g_55) := by rw [ef_65, va_up_ne _ _ (fun q => absurd (hC.1.2 12 (by decide) 18 (by decide) q) (by decide))]; exact F_must
                    have F_never_ : f_65 (rt 13) = .inl (K 0, 40, .inl g_58) := by rw [ef_65, va_up_ne _ _ (fun q => absurd (hC.1.2 13 (by decide) 18 (by decide) q) (by decide))]; exact F_never
                    have F_bid_ : f_65 (rt 14) = .inl (K 0, 40, .inl g_60) := by rw [ef_65, va_up_ne _ _ (fun q => absurd (hC.1.2 14 (by decide) 18 (by decide) q) (by decide))]; exact F_bid
                    have F_cap_ : f_65 (rt 17) = .inl (K 0, 40, .inl g_62) := by rw [ef_65, va_up_ne _ _ (fun q => absurd (hC.1.2 17 (by decide) 18 (by decide) q) (by decide))]; exact F_cap
                    have F_throttle_ : f_65 (rt 19) = .inl (K 0, 40, .inl g_throttle) := by rw [ef_65, va_up_ne _ _ (fun q => absurd (hC.1.2 19 (by decide) 18 (by decide) q) (by decide))]; exact F_throttle
                    have F_promised_ : f_65 (rt 22) = .inl (K 0, 40, .inl g_promised) := by rw [ef_65, va_up_ne _ _ (fun q => absurd (hC.1.2 22 (by decide) 18 (by decide) q) (by decide))]; exact F_promised
                    have F_m := F_m_
                    have F_sort := F_sort_
                    have F_pays := F_pays_
                    have F_must := F_must_
                    have F_never := F_never_
                    have F_bid := F_bid_
                    have F_cap := F_cap_
                    have F_throttle := F_throttle_
                    have F_promised := F_promised_
                    have F_span : f_65 (rt 18) = .inl (K 0, 40, .inl g_64) := by rw [ef_65, va_up_self]
                    have hC : mC rt L f_65 fm := ⟨hC.1, F_m, hC.2.2.1, hC.2.2.2⟩
                    refine lv_aload_n hx hb dX6_campaign_190 rfl (lv_at hl 3 rfl) ?_
                    refine g_get (ci := 6) (v := .ref (rt 19)) (C := RX6) (T := TX6) (N := 51) hx hb hts uB6 hown hK hP (hC.1.1 51 (by decide)) F_m rfl 19 (by decide) wm_38 (hC.2.2.2 19 (by decide)) dX6_campaign_191 ?_
                    refine lv_iload hx hb dX6_campaign_194 (lv_at hl 0 rfl) ?_
                    refine lv_sipush (v := 1000) hx hb dX6_campaign_196 (by decide) ?_
                    refine g_iast hx hb hK hP hD hS (hC.1.1 19 (by decide)) F_throttle (vp_in_nI (by omega) (by decide)) dX6_campaign_199 (fun H locs hP hD hS => ?_)
                    obtain ⟨g_66, eg_66⟩ : ∃ z9, z9 = upd g_throttle (Int32.toNatClampNeg (nI nc)) 1000 := ⟨_, rfl⟩
                    rw [← eg_66] at hP hD
                    obtain ⟨f_67, ef_67⟩ : ∃ z9, z9 = va_up f_65 (rt 19) (.inl (K 0, 40, .inl g_66)) := ⟨_, rfl⟩
                    have hP : va_P (dC, dI) vwCl (va_pl L f_67) H := by rw [ef_67]; exact hP
                    have hD : va_D A (va_pl L f_67) := by rw [ef_67]; exact hD
                    have F_m_ : f_67 (rt 51) = .inr (6, fm) := by rw [ef_67, va_up_ne _ _ (fun q => absurd (hC.1.2 51 (by decide) 19 (by decide) q) (by decide))]; exact F_m
                    have F_sort_ : f_67 (rt 10) = .inl (K 0, 40, .inl g_49) := by rw [ef_67, va_up_ne _ _ (fun q => absurd (hC.1.2 10 (by decide) 19 (by decide) q) (by decide))]; exact F_sort
                    have F_pays_ : f_67 (rt 11) = .inl (K 0, 40, .inl g_52) := by rw [ef_67, va_up_ne _ _ (fun q => absurd (hC.1.2 11 (by decide) 19 (by decide) q) (by decide))]; exact F_pays
                    have F_must_ : f_67 (rt 12) = .inl (K 0, 40, .inl g_55) := by rw [ef_67, va_up_ne _ _ (fun q => absurd (hC.1.2 12 (by decide) 19 (by decide) q) (by decide))]; exact F_must
                    have F_never_ : f_67 (rt 13) = .inl (K 0, 40, .inl g_58) := by rw [ef_67, va_up_ne _ _ (fun q => absurd (hC.1.2 13 (by decide) 19 (by decide) q) (by decide))]; exact F_never
                    have F_bid_ : f_67 (rt 14) = .inl (K 0, 40, .inl g_60) := by rw [ef_67, va_up_ne _ _ (fun q => absurd (hC.1.2 14 (by decide) 19 (by decide) q) (by decide))]; exact F_bid
                    have F_cap_ : f_67 (rt 17) = .inl (K 0, 40, .inl g_62) := by rw [ef_67, va_up_ne _ _ (fun q => absurd (hC.1.2 17 (by decide) 19 (by decide) q) (by decide))]; exact F_cap
                    have F_span_ : f_67 (rt 18) = .inl (K 0, 40, .inl g_64) := by rw [ef_67, va_up_ne _ _ (fun q => absurd (hC.1.2 18 (by decide) 19 (by decide) q) (by decide))]; exact F_span
                    have F_promised_ : f_67 (rt 22) = .inl (K 0, 40, .inl g_promised) := by rw [ef_67, va_up_ne _ _ (fun q => absurd (hC.1.2 22 (by decide) 19 (by decide) q) (by decide))]; exact F_promised
                    have F_m := F_m_
                    have F_sort := F_sort_
                    have F_pays := F_pays_
                    have F_must := F_must_
                    have F_never := F_never_
                    have F_bid := F_bid_
                    have F_cap := F_cap_
                    have F_span := F_span_
                    have F_promised := F_promised_
                    have F_throttle : f_67 (rt 19) = .inl (K 0, 40, .inl g_66) := by rw [ef_67, va_up_self]
                    have hC : mC rt L f_67 fm := ⟨hC.1, F_m, hC.2.2.1, hC.2.2.2⟩
                    refine lv_aload_n hx hb dX6_campaign_200 rfl (lv_at hl 3 rfl) ?_
                    refine g_get (ci := 6) (v := .ref (rt 22)) (C := RX6) (T := TX6) (N := 51) hx hb hts uB6 hown hK hP (hC.1.1 51 (by decide)) F_m rfl 22 (by decide) wm_22 (hC.2.2.2 22 (by decide)) dX6_campaign_201 ?_
                    refine lv_iload hx hb dX6_campaign_204 (lv_at hl 0 rfl) ?_
                    refine lv_iconst (v := 0) hx hb dX6_campaign_206 (by decide) ?_
                    refine g_iast hx hb hK hP hD hS (hC.1.1 22 (by decide)) F_promised (vp_in_nI (by omega) (by decide)) dX6_campaign_207 (fun H locs hP hD hS => ?_)
                    obtain ⟨g_68, eg_68⟩ : ∃ z9, z9 = upd g_promised (Int32.toNatClampNeg (nI nc)) 0 := ⟨_, rfl⟩
                    rw [← eg_68] at hP hD
                    obtain ⟨f_69, ef_69⟩ : ∃ z9, z9 = va_up f_67 (rt 22) (.inl (K 0, 40, .inl g_68)) := ⟨_, rfl⟩
                    have hP : va_P (dC, dI) vwCl (va_pl L f_69) H := by rw [ef_69]; exact hP
                    have hD : va_D A (va_pl L f_69) := by rw [ef_69]; exact hD
                    have F_m_ : f_69 (rt 51) = .inr (6, fm) := by rw [ef_69, va_up_ne _ _ (fun q => absurd (hC.1.2 51 (by decide) 22 (by decide) q) (by decide))]; exact F_m
                    have F_sort_ : f_69 (rt 10) = .inl (K 0, 40, .inl g_49) := by rw [ef_69, va_up_ne _ _ (fun q => absurd (hC.1.2 10 (by decide) 22 (by decide) q) (by decide))]; exact F_sort
                    have F_pays_ : f_69 (rt 11) = .inl (K 0, 40, .inl g_52) := by rw [ef_69, va_up_ne _ _ (fun q => absurd (hC.1.2 11 (by decide) 22 (by decide) q) (by decide))]; exact F_pays
                    have F_must_ : f_69 (rt 12) = .inl (K 0, 40, .inl g_55) := by rw [ef_69, va_up_ne _ _ (fun q => absurd (hC.1.2 12 (by decide) 22 (by decide) q) (by decide))]; exact F_must
                    have F_never_ : f_69 (rt 13) = .inl (K 0, 40, .inl g_58) := by rw [ef_69, va_up_ne _ _ (fun q => absurd (hC.1.2 13 (by decide) 22 (by decide) q) (by decide))]; exact F_never
                    have F_bid_ : f_69 (rt 14) = .inl (K 0, 40, .inl g_60) := by rw [ef_69, va_up_ne _ _ (fun q => absurd (hC.1.2 14 (by decide) 22 (by decide) q) (by decide))]; exact F_bid
                    have F_cap_ : f_69 (rt 17) = .inl (K 0, 40, .inl g_62) := by rw [ef_69, va_up_ne _ _ (fun q => absurd (hC.1.2 17 (by decide) 22 (by decide) q) (by decide))]; exact F_cap
                    have F_span_ : f_69 (rt 18) = .inl (K 0, 40, .inl g_64) := by rw [ef_69, va_up_ne _ _ (fun q => absurd (hC.1.2 18 (by decide) 22 (by decide) q) (by decide))]; exact F_span
                    have F_throttle_ : f_69 (rt 19) = .inl (K 0, 40, .inl g_66) := by rw [ef_69, va_up_ne _ _ (fun q => absurd (hC.1.2 19 (by decide) 22 (by decide) q) (by decide))]; exact F_throttle
                    have F_m := F_m_
                    have F_sort := F_sort_
                    have F_pays := F_pays_
                    have F_must := F_must_
                    have F_never := F_never_
                    have F_bid := F_bid_
                    have F_cap := F_cap_
                    have F_span := F_span_
                    have F_throttle := F_throttle_
                    have F_promised : f_69 (rt 22) = .inl (K 0, 40, .inl g_68) := by rw [ef_69, va_up_self]
                    have hC : mC rt L f_69 fm := ⟨hC.1, F_m, hC.2.2.1, hC.2.2.2⟩
                    refine lv_aload_n hx hb dX6_campaign_208 rfl (lv_at hl 3 rfl) ?_
                    refine lv_dup hx hb dX6_campaign_209 rfl ?_
                    refine g_get (ci := 6) (v := .int (nI nc)) (C := RX6) (T := TX6) (N := 51) hx hb hts uB6 hown hK hP (hC.1.1 51 (by decide)) F_m rfl 9 (by decide) wm_76 I_campaigns dX6_campaign_210 ?_
                    refine lv_iconst (v := 1) hx hb dX6_campaign_213 (by decide) ?_
                    refine lv_iadd hx hb dX6_campaign_214 ?_
                    refine lv_topi (fun x_70 ex_70 => ?_)
                    obtain rfl : x_70 = nI (nc + 1) := ex_70.trans (nI_1 nc)
                    refine g_put (ci := 6) (v := .int (nI (nc + 1))) (ty := .int) (C := RX6) (T := TX6) (N := 51) hx hb hts uB6 tyX6 tyX6_ok nmX6 hown hK hP hD hS (hC.1.1 51 (by decide)) F_m rfl 9 (by decide) wm_76 rfl (by decide +kernel) rfl rfl (by rw [hC.2.2.1]; decide) dX6_campaign_215 (fun H locs hP hD hS => ?_)
                    obtain ⟨fs_71, efs_71⟩ : ∃ z9, z9 = List.set fm 9 (.int (nI (nc + 1))) := ⟨_, rfl⟩
                    rw [← efs_71] at hP hD
                    have hlen_ : fs_71.length = 51 := by rw [efs_71, List.length_set]; exact hC.2.2.1
                    have I_campaigns : fs_71[9]? = some (.int (nI (nc + 1))) := by rw [efs_71]; exact List.getElem?_set_self (by rw [hC.2.2.1]; decide)
                    have hmr_ : ∀ k ∈ mArr, fs_71[k]? = some (.ref (rt k)) := fun k h => by rw [efs_71, List.getElem?_set_ne (fun q => by rw [← q] at h; exact absurd h (by decide))]; exact hC.2.2.2 k h
                    obtain ⟨f_72, ef_72⟩ : ∃ z9, z9 = va_up f_69 (rt 51) (.inr (6, fs_71)) := ⟨_, rfl⟩
                    have hP : va_P (dC, dI) vwCl (va_pl L f_72) H := by rw [ef_72]; exact hP
                    have hD : va_D A (va_pl L f_72) := by rw [ef_72]; exact hD
                    have F_sort_ : f_72 (rt 10) = .inl (K 0, 40, .inl g_49) := by rw [ef_72, va_up_ne _ _ (fun q => absurd (hC.1.2 10 (by decide) 51 (by decide) q) (by decide))]; exact F_sort
                    have F_pays_ : f_72 (rt 11) = .inl (K 0, 40, .inl g_52) := by rw [ef_72, va_up_ne _ _ (fun q => absurd (hC.1.2 11 (by decide) 51 (by decide) q) (by decide))]; exact F_pays
                    have F_must_ : f_72 (rt 12) = .inl (K 0, 40, .inl g_55) := by rw [ef_72, va_up_ne _ _ (fun q => absurd (hC.1.2 12 (by decide) 51 (by decide) q) (by decide))]; exact F_must
                    have F_never_ : f_72 (rt 13) = .inl (K 0, 40, .inl g_58) := by rw [ef_72, va_up_ne _ _ (fun q => absurd (hC.1.2 13 (by decide) 51 (by decide) q) (by decide))]; exact F_never
                    have F_bid_ : f_72 (rt 14) = .inl (K 0, 40, .inl g_60) := by rw [ef_72, va_up_ne _ _ (fun q => absurd (hC.1.2 14 (by decide) 51 (by decide) q) (by decide))]; exact F_bid
                    have F_cap_ : f_72 (rt 17) = .inl (K 0, 40, .inl g_62) := by rw [ef_72, va_up_ne _ _ (fun q => absurd (hC.1.2 17 (by decide) 51 (by decide) q) (by decide))]; exact F_cap
                    have F_span_ : f_72 (rt 18) = .inl (K 0, 40, .inl g_64) := by rw [ef_72, va_up_ne _ _ (fun q => absurd (hC.1.2 18 (by decide) 51 (by decide) q) (by decide))]; exact F_span
                    have F_throttle_ : f_72 (rt 19) = .inl (K 0, 40, .inl g_66) := by rw [ef_72, va_up_ne _ _ (fun q => absurd (hC.1.2 19 (by decide) 51 (by decide) q) (by decide))]; exact F_throttle
                    have F_promised_ : f_72 (rt 22) = .inl (K 0, 40, .inl g_68) := by rw [ef_72, va_up_ne _ _ (fun q => absurd (hC.1.2 22 (by decide) 51 (by decide) q) (by decide))]; exact F_promised
                    have F_sort := F_sort_
                    have F_pays := F_pays_
                    have F_must := F_must_
                    have F_never := F_never_
                    have F_bid := F_bid_
                    have F_cap := F_cap_
                    have F_span := F_span_
                    have F_throttle := F_throttle_
                    have F_promised := F_promised_
                    have F_m : f_72 (rt 51) = .inr (6, fs_71) := by rw [ef_72, va_up_self]
                    have hC : mC rt L f_72 fs_71 := ⟨hC.1, F_m, hlen_, hmr_⟩
                    refine lv_iload hx hb dX6_campaign_218 (lv_at hl 0 rfl) ?_
                    exact W.iret (v := nI nc) hx hb hr (fun t ht hW => ⟨⟨nI nc, f_72, rfl, (Or.inr (Or.inr ⟨(by subst ex_1 ex_5 ex_44 ex_45 ex_46 ex_51 ex_54 ex_57; have h1 := k_cp1 x; have h2 := k_cp2 y; simp only [Int32.lt_iff_toInt_lt, Int32.le_iff_toInt_le, ← Int32.toInt_inj, Int32.reduceToInt] at h1 h2 c_2 g_4 c_6 g_8 g_10 c_11 c_43 c_47; unfold cpOk; simp only [Int32.lt_iff_toInt_lt, Int32.le_iff_toInt_le, ← Int32.toInt_inj, Int32.reduceToInt]; omega), hfl, rfl, by rw [ef_72, efs_71, ef_69, eg_68, ef_67, eg_66, ef_65, eg_64, ef_63, eg_62, ef_61, eg_60, ef_59, eg_58, ef_56, eg_55, ef_53, eg_52, ef_50, eg_49]; subst ex_57 ex_54 ex_51 ex_46 ex_45 ex_44 ex_5 ex_1; rfl⟩)), by show va_P (dC, dI) vwCl (va_pl L f_72) t.heap; rw [ht]; exact hP⟩, hS.F ht⟩) hS.2.2 dX6_campaign_220
                  · skip
                    have hfl : nc = 40 := (nI_eq (by omega) (by decide)).mp c_48
                    refine lv_bipush (v := (-3)) hx hb dX6_campaign_112 (by decide) ?_
                    exact W.iret (v := (-3)) hx hb hr (fun t ht hW => ⟨⟨(-3), f, rfl, (Or.inr (Or.inl ⟨(by subst ex_1 ex_5 ex_44 ex_45 ex_46; have h1 := k_cp1 x; have h2 := k_cp2 y; simp only [Int32.lt_iff_toInt_lt, Int32.le_iff_toInt_le, ← Int32.toInt_inj, Int32.reduceToInt] at h1 h2 c_2 g_4 c_6 g_8 g_10 c_11 c_43 c_47; unfold cpOk; simp only [Int32.lt_iff_toInt_lt, Int32.le_iff_toInt_le, ← Int32.toInt_inj, Int32.reduceToInt]; omega), hfl, rfl, rfl⟩)), by show va_P (dC, dI) vwCl (va_pl L f) t.heap; rw [ht]; exact hP⟩, hS.F ht⟩) hS.2.2 dX6_campaign_114
                · skip
                  refine lv_iconst (v := (-1)) hx hb dX6_campaign_101 (by decide) ?_
                  exact W.iret (v := (-1)) hx hb hr (fun t ht hW => ⟨⟨(-1), f, rfl, (Or.inl ⟨(by subst ex_1 ex_5 ex_44 ex_45 ex_46; have h1 := k_cp1 x; have h2 := k_cp2 y; simp only [Int32.lt_iff_toInt_lt, Int32.le_iff_toInt_le, ← Int32.toInt_inj, Int32.reduceToInt] at h1 h2 c_2 g_4 c_6 g_8 g_10 c_11 c_43 c_47; unfold cpOk; simp only [Int32.lt_iff_toInt_lt, Int32.le_iff_toInt_le, ← Int32.toInt_inj, Int32.reduceToInt]; omega), rfl, rfl⟩), by show va_P (dC, dI) vwCl (va_pl L f) t.heap; rw [ht]; exact hP⟩, hS.F ht⟩) hS.2.2 dX6_campaign_102
      · skip
        refine lv_iconst (v := 1) hx hb dX6_campaign_30 (by decide) ?_
        refine lv_goto (tgt := 35) hx hb dX6_campaign_31 (by decide) ?_
        refine k_S ⟨hx, hb, hml, hown, hts⟩ (c_in l x_5 0 1) 3 wm_69 wm_70 wm_8 wm_71 (by decide +kernel) ⟨Nat.le_of_ble_eq_true rfl, Nat.le_of_ble_eq_true rfl⟩ rfl hl.1 rfl (Nat.le_of_ble_eq_true rfl) dX6_campaign_35 ⟨Nat.le_of_ble_eq_true rfl, Nat.le_of_ble_eq_true rfl⟩ hS hP (fun r_73 H locs hpr_73 hP hS => ?_)
        refine lv_if_eq (tgt := 79) hx hb dX6_campaign_38 (by decide) (fun c_74 => ?_) (fun c_74 => ?_)
        · skip
          have g_74 := k_ff hpr_73 c_74
          refine lv_iconst (v := 0) hx hb dX6_campaign_79 (by decide) ?_
          refine lv_istore (lv' := [(5, .int 0), (4, .int x_1), (0, .ref (rt 51)), (1, .int x), (2, .int y), (3, .int z)]) hx hb dX6_campaign_80 hl (by decide) rfl (fun ls hl => ?_)
          refine lv_iload hx hb dX6_campaign_82 (lv_at hl 0 rfl) ?_
          refine lv_if_eq (tgt := 101) hx hb dX6_campaign_84 (by decide) (fun _ => ?_) (fun h9 => absurd (by decide) h9)
          refine lv_iconst (v := (-1)) hx hb dX6_campaign_101 (by decide) ?_
          exact W.iret (v := (-1)) hx hb hr (fun t ht hW => ⟨⟨(-1), f, rfl, (Or.inl ⟨(by subst ex_1 ex_5; have h1 := k_cp1 x; have h2 := k_cp2 y; simp only [Int32.lt_iff_toInt_lt, Int32.le_iff_toInt_le, ← Int32.toInt_inj, Int32.reduceToInt] at h1 h2 c_2 g_4 c_6 g_74; unfold cpOk; simp only [Int32.lt_iff_toInt_lt, Int32.le_iff_toInt_le, ← Int32.toInt_inj, Int32.reduceToInt]; omega), rfl, rfl⟩), by show va_P (dC, dI) vwCl (va_pl L f) t.heap; rw [ht]; exact hP⟩, hS.F ht⟩) hS.2.2 dX6_campaign_102
        · skip
          have g_74 := k_ft hpr_73 c_74
          refine lv_iload_n hx hb dX6_campaign_41 rfl (lv_at hl 3 rfl) ?_
          refine lv_iconst (v := 0) hx hb dX6_campaign_42 (by decide) ?_
          refine lv_ldc (v := 16777215) hx hb hown (hts _ wm_115) dX6_campaign_43 ?_
          refine k_S ⟨hx, hb, hml, hown, hts⟩ (c_in l y 0 16777215) 3 wm_69 wm_70 wm_8 wm_71 (by decide +kernel) ⟨Nat.le_of_ble_eq_true rfl, Nat.le_of_ble_eq_true rfl⟩ rfl hl.1 rfl (Nat.le_of_ble_eq_true rfl) dX6_campaign_45 ⟨Nat.le_of_ble_eq_true rfl, Nat.le_of_ble_eq_true rfl⟩ hS hP (fun r_75 H locs hpr_75 hP hS => ?_)
          refine lv_if_eq (tgt := 79) hx hb dX6_campaign_48 (by decide) (fun c_76 => ?_) (fun c_76 => ?_)
          · skip
            have g_76 := k_ff hpr_75 c_76
            refine lv_iconst (v := 0) hx hb dX6_campaign_79 (by decide) ?_
            refine lv_istore (lv' := [(5, .int 0), (4, .int x_1), (0, .ref (rt 51)), (1, .int x), (2, .int y), (3, .int z)]) hx hb dX6_campaign_80 hl (by decide) rfl (fun ls hl => ?_)
            refine lv_iload hx hb dX6_campaign_82 (lv_at hl 0 rfl) ?_
            refine lv_if_eq (tgt := 101) hx hb dX6_campaign_84 (by decide) (fun _ => ?_) (fun h9 => absurd (by decide) h9)
            refine lv_iconst (v := (-1)) hx hb dX6_campaign_101 (by decide) ?_
            exact W.iret (v := (-1)) hx hb hr (fun t ht hW => ⟨⟨(-1), f, rfl, (Or.inl ⟨(by subst ex_1 ex_5; have h1 := k_cp1 x; have h2 := k_cp2 y; simp only [Int32.lt_iff_toInt_lt, Int32.le_iff_toInt_le, ← Int32.toInt_inj, Int32.reduceToInt] at h1 h2 c_2 g_4 c_6 g_74 g_76; unfold cpOk; simp only [Int32.lt_iff_toInt_lt, Int32.le_iff_toInt_le, ← Int32.toInt_inj, Int32.reduceToInt]; omega), rfl, rfl⟩), by show va_P (dC, dI) vwCl (va_pl L f) t.heap; rw [ht]; exact hP⟩, hS.F ht⟩) hS.2.2 dX6_campaign_102
          · skip
            have g_76 := k_ft hpr_75 c_76
            refine lv_iload hx hb dX6_campaign_51 (lv_at hl 0 rfl) ?_
            refine lv_iconst (v := 2) hx hb dX6_campaign_53 (by decide) ?_
            refine lv_icmp_ne (tgt := 64) hx hb dX6_campaign_54 (by decide) (fun c_77 => ?_) (fun c_77 => ?_)
            · skip
              refine lv_iload_n hx hb dX6_campaign_64 rfl (lv_at hl 4 rfl) ?_
              refine lv_iconst (v := 1) hx hb dX6_campaign_65 (by decide) ?_
              refine lv_sipush (v := 1000) hx hb dX6_campaign_66 (by decide) ?_
              refine k_S ⟨hx, hb, hml, hown, hts⟩ (c_in l z 1 1000) 3 wm_69 wm_70 wm_8 wm_71 (by decide +kernel) ⟨Nat.le_of_ble_eq_true rfl, Nat.le_of_ble_eq_true rfl⟩ rfl hl.1 rfl (Nat.le_of_ble_eq_true rfl) dX6_campaign_69 ⟨Nat.le_of_ble_eq_true rfl, Nat.le_of_ble_eq_true rfl⟩ hS hP (fun r_78 H locs hpr_78 hP hS => ?_)
              refine lv_if_eq (tgt := 79) hx hb dX6_campaign_72 (by decide) (fun c_79 => ?_) (fun c_79 => ?_)
              · skip
                have g_79 := k_ff hpr_78 c_79
                refine lv_iconst (v := 0) hx hb dX6_campaign_79 (by decide) ?_
                refine lv_istore (lv' := [(5, .int 0), (4, .int x_1), (0, .ref (rt 51)), (1, .int x), (2, .int y), (3, .int z)]) hx hb dX6_campaign_80 hl (by decide) rfl (fun ls hl => ?_)
                refine lv_iload hx hb dX6_campaign_82 (lv_at hl 0 rfl) ?_
                refine lv_if_eq (tgt := 101) hx hb dX6_campaign_84 (by decide) (fun _ => ?_) (fun h9 => absurd (by decide) h9)
                refine lv_iconst (v := (-1)) hx hb dX6_campaign_101 (by decide) ?_
                exact W.iret (v := (-1)) hx hb hr (fun t ht hW => ⟨⟨(-1), f, rfl, (Or.inl ⟨(by subst ex_1 ex_5; have h1 := k_cp1 x; have h2 := k_cp2 y; simp only [Int32.lt_iff_toInt_lt, Int32.le_iff_toInt_le, ← Int32.toInt_inj, Int32.reduceToInt] at h1 h2 c_2 g_4 c_6 g_74 g_76 c_77 g_79; unfold cpOk; simp only [Int32.lt_iff_toInt_lt, Int32.le_iff_toInt_le, ← Int32.toInt_inj, Int32.reduceToInt]; omega), rfl, rfl⟩), by show va_P (dC, dI) vwCl (va_pl L f) t.heap; rw [ht]; exact hP⟩, hS.F ht⟩) hS.2.2 dX6_campaign_102
              · skip
                have g_79 := k_ft hpr_78 c_79
                refine lv_iconst (v := 1) hx hb dX6_campaign_75 (by decide) ?_
                refine lv_goto (tgt := 80) hx hb dX6_campaign_76 (by decide) ?_
                refine lv_istore (lv' := [(5, .int 1), (4, .int x_1), (0, .ref (rt 51)), (1, .int x), (2, .int y), (3, .int z)]) hx hb dX6_campaign_80 hl (by decide) rfl (fun ls hl => ?_)
                refine lv_iload hx hb dX6_campaign_82 (lv_at hl 0 rfl) ?_
                refine lv_if_eq (tgt := 101) hx hb dX6_campaign_84 (by decide) (fun h9 => absurd h9 (by decide)) (fun _ => ?_)
                refine lv_iload_n hx hb dX6_campaign_87 rfl (lv_at hl 4 rfl) ?_
                refine lv_sipush (v := 4096) hx hb dX6_campaign_88 (by decide) ?_
                refine lv_idiv hx hb dX6_campaign_91 (by decide) ?_
                refine lv_topi (fun x_80 ex_80 => ?_)
                refine lv_iload_n hx hb dX6_campaign_92 rfl (lv_at hl 4 rfl) ?_
                refine lv_sipush (v := 4096) hx hb dX6_campaign_93 (by decide) ?_
                refine lv_irem hx hb dX6_campaign_96 (by decide) ?_
                refine lv_topi (fun x_81 ex_81 => ?_)
                refine lv_iand hx hb dX6_campaign_97 ?_
                refine lv_topi (fun x_82 ex_82 => ?_)
                refine lv_if_eq (tgt := 103) hx hb dX6_campaign_98 (by decide) (fun c_83 => ?_) (fun c_83 => ?_)
                · skip
                  refine lv_aload_n hx hb dX6_campaign_103 rfl (lv_at hl 2 rfl) ?_
                  refine g_get (ci := 6) (v := .int (nI nc)) (C := RX6) (T := TX6) (N := 51) hx hb hts uB6 hown hK hP (hC.1.1 51 (by decide)) F_m rfl 9 (by decide) wm_76 I_campaigns dX6_campaign_104 ?_
                  refine lv_bipush (v := 40) hx hb dX6_campaign_107 (by decide) ?_
                  refine lv_icmp_ne (tgt := 115) hx hb dX6_campaign_109 (by decide) (fun c_84 => ?_) (fun c_84 => ?_)
                  · skip
                    have hfl : nc < 40 := Nat.lt_of_le_of_ne hnc (fun q => c_84 (by rw [q]; rfl))
                    refine lv_aload_n hx hb dX6_campaign_115 rfl (lv_at hl 2 rfl) ?_
                    refine g_get (ci := 6) (v := .int (nI nc)) (C := RX6) (T := TX6) (N := 51) hx hb hts uB6 hown hK hP (hC.1.1 51 (by decide)) F_m rfl 9 (by decide) wm_76 I_campaigns dX6_campaign_116 ?_
                    refine lv_istore (lv' := [(6, .int (nI nc)), (5, .int 1), (4, .int x_1), (0, .ref (rt 51)), (1, .int x), (2, .int y), (3, .int z)]) hx hb dX6_campaign_119 hl (by decide) rfl (fun ls hl => ?_)
                    refine lv_aload_n hx hb dX6_campaign_121 rfl (lv_at hl 3 rfl) ?_
                    refine g_get (ci := 6) (v := .ref (rt 10)) (C := RX6) (T := TX6) (N := 51) hx hb hts uB6 hown hK hP (hC.1.1 51 (by decide)) F_m rfl 10 (by decide) wm_21 (hC.2.2.2 10 (by decide)) dX6_campaign_122 ?_
                    refine lv_iload hx hb dX6_campaign_125 (lv_at hl 0 rfl) ?_
                    refine lv_iload hx hb dX6_campaign_127 (lv_at hl 2 rfl) ?_
                    refine g_iast hx hb hK hP hD hS (hC.1.1 10 (by decide)) F_sort (vp_in_nI (by omega) (by decide)) dX6_campaign_129 (fun H locs hP hD hS => ?_)
                    obtain ⟨g_85, eg_85⟩ : ∃ z9, z9 = upd g_sort (Int32.toNatClampNeg (nI nc)) x_1 := ⟨_, rfl⟩
                    rw [← eg_85] at hP hD
                    obtain ⟨f_86, ef_86⟩ : ∃ z9, z9 = va_up f (rt 10) (.inl (K 0, 40, .inl g_85)) := ⟨_, rfl⟩
                    have hP : va_P (dC, dI) vwCl (va_pl L f_86) H := by rw [ef_86]; exact hP
                    have hD : va_D A (va_pl L f_86) := by rw [ef_86]; exact hD
                    have F_m_ : f_86 (rt 51) = .inr (6, fm) := by rw [ef_86, va_up_ne _ _ (fun q => absurd (hC.1.2 51 (by decide) 10 (by decide) q) (by decide))]; exact F_m
                    have F_pays_ : f_86 (rt 11) = .inl (K 0, 40, .inl g_pays) := by rw [ef_86, va_up_ne _ _ (fun q => absurd (hC.1.2 11 (by decide) 10 (by decide) q) (by decide))]; exact F_pays
                    have F_must_ : f_86 (rt 12) = .inl (K 0, 40, .inl g_must) := by rw [ef_86, va_up_ne _ _ (fun q => absurd (hC.1.2 12 (by decide) 10 (by decide) q) (by decide))]; exact F_must
                    have F_never_ : f_86 (rt 13) = .inl (K 0, 40, .inl g_never) := by rw [ef_86, va_up_ne _ _ (fun q => absurd (hC.1.2 13 (by decide) 10 (by decide) q) (by decide))]; exact F_never
                    have F_bid_ : f_86 (rt 14) = .inl (K 0, 40, .inl g_bid) := by rw [ef_86, va_up_ne _ _ (fun q => absurd (hC.1.2 14 (by decide) 10 (by decide) q) (by decide))]; exact F_bid
                    have F_cap_ : f_86 (rt 17) = .inl (K 0, 40, .inl g_cap) := by rw [ef_86, va_up_ne _ _ (fun q => absurd (hC.1.2 17 (by decide) 10 (by decide) q) (by decide))]; exact F_cap
                    have F_span_ : f_86 (rt 18) = .inl (K 0, 40, .inl g_span) := by rw [ef_86, va_up_ne _ _ (fun q => absurd (hC.1.2 18 (by decide) 10 (by decide) q) (by decide))]; exact F_span
                    have F_throttle_ : f_86 (rt 19) = .inl (K 0, 40, .inl g_throttle) := by rw [ef_86, va_up_ne _ _ (fun q => absurd (hC.1.2 19 (by decide) 10 (by decide) q) (by decide))]; exact F_throttle
                    have F_promised_ : f_86 (rt 22) = .inl (K 0, 40, .inl g_promised) := by rw [ef_86, va_up_ne _ _ (fun q => absurd (hC.1.2 22 (by decide) 10 (by decide) q) (by decide))]; exact F_promised
                    have F_m := F_m_
                    have F_pays := F_pays_
                    have F_must := F_must_
                    have F_never := F_never_
                    have F_bid := F_bid_
                    have F_cap := F_cap_
                    have F_span := F_span_
                    have F_throttle := F_throttle_
                    have F_promised := F_promised_
                    have F_sort : f_86 (rt 10) = .inl (K 0, 40, .inl g_85) := by rw [ef_86, va_up_self]
                    have hC : mC rt L f_86 fm := ⟨hC.1, F_m, hC.2.2.1, hC.2.2.2⟩
                    refine lv_aload_n hx hb dX6_campaign_130 rfl (lv_at hl 3 rfl) ?_
                    refine g_get (ci := 6) (v := .ref (rt 11)) (C := RX6) (T := TX6) (N := 51) hx hb hts uB6 hown hK hP (hC.1.1 51 (by decide)) F_m rfl 11 (by decide) wm_1 (hC.2.2.2 11 (by decide)) dX6_campaign_131 ?_
                    refine lv_iload hx hb dX6_campaign_134 (lv_at hl 0 rfl) ?_
                    refine lv_iload_n hx hb dX6_campaign_136 rfl (lv_at hl 4 rfl) ?_
                    refine lv_bipush (v := 10) hx hb dX6_campaign_137 (by decide) ?_
                    refine lv_irem hx hb dX6_campaign_139 (by decide) ?_
                    refine lv_topi (fun x_87 ex_87 => ?_)
                    refine g_iast hx hb hK hP hD hS (hC.1.1 11 (by decide)) F_pays (vp_in_nI (by omega) (by decide)) dX6_campaign_140 (fun H locs hP hD hS => ?_)
                    obtain ⟨g_88, eg_88⟩ : ∃ z9, z9 = upd g_pays (Int32.toNatClampNeg (nI nc)) x_87 := ⟨_, rfl⟩
                    rw [← eg_88] at hP hD
                    obtain ⟨f_89, ef_89⟩ : ∃ z9, z9 = va_up f_86 (rt 11) (.inl (K 0, 40, .inl g_88)) := ⟨_, rfl⟩
                    have hP : va_P (dC, dI) vwCl (va_pl L f_89) H := by rw [ef_89]; exact hP
                    have hD : va_D A (va_pl L f_89) := by rw [ef_89]; exact hD
                    have F_m_ : f_89 (rt 51) = .inr (6, fm) := by rw [ef_89, va_up_ne _ _ (fun q => absurd (hC.1.2 51 (by decide) 11 (by decide) q) (by decide))]; exact F_m
                    have F_sort_ : f_89 (rt 10) = .inl (K 0, 40, .inl g_85) := by rw [ef_89, va_up_ne _ _ (fun q => absurd (hC.1.2 10 (by decide) 11 (by decide) q) (by decide))]; exact F_sort
                    have F_must_ : f_89 (rt 12) = .inl (K 0, 40, .inl g_must) := by rw [ef_89, va_up_ne _ _ (fun q => absurd (hC.1.2 12 (by decide) 11 (by decide) q) (by decide))]; exact F_must
                    have F_never_ : f_89 (rt 13) = .inl (K 0, 40, .inl g_never) := by rw [ef_89, va_up_ne _ _ (fun q => absurd (hC.1.2 13 (by decide) 11 (by decide) q) (by decide))]; exact F_never
                    have F_bid_ : f_89 (rt 14) = .inl (K 0, 40, .inl g_bid) := by rw [ef_89, va_up_ne _ _ (fun q => absurd (hC.1.2 14 (by decide) 11 (by decide) q) (by decide))]; exact F_bid
                    have F_cap_ : f_89 (rt 17) = .inl (K 0, 40, .inl g_cap) := by rw [ef_89, va_up_ne _ _ (fun q => absurd (hC.1.2 17 (by decide) 11 (by decide) q) (by decide))]; exact F_cap
                    have F_span_ : f_89 (rt 18) = .inl (K 0, 40, .inl g_span) := by rw [ef_89, va_up_ne _ _ (fun q => absurd (hC.1.2 18 (by decide) 11 (by decide) q) (by decide))]; exact F_span
                    have F_throttle_ : f_89 (rt 19) = .inl (K 0, 40, .inl g_throttle) := by rw [ef_89, va_up_ne _ _ (fun q => absurd (hC.1.2 19 (by decide) 11 (by decide) q) (by decide))]; exact F_throttle
                    have F_promised_ : f_89 (rt 22) = .inl (K 0, 40, .inl g_promised) := by rw [ef_89, va_up_ne _ _ (fun q => absurd (hC.1.2 22 (by decide) 11 (by decide) q) (by decide))]; exact F_promised
                    have F_m := F_m_
                    have F_sort := F_sort_
                    have F_must := F_must_
                    have F_never := F_never_
                    have F_bid := F_bid_
                    have F_cap := F_cap_
                    have F_span := F_span_
                    have F_throttle := F_throttle_
                    have F_promised := F_promised_
                    have F_pays : f_89 (rt 11) = .inl (K 0, 40, .inl g_88) := by rw [ef_89, va_up_self]
                    have hC : mC rt L f_89 fm := ⟨hC.1, F_m, hC.2.2.1, hC.2.2.2⟩
                    refine lv_aload_n hx hb dX6_campaign_141 rfl (lv_at hl 3 rfl) ?_
                    refine g_get (ci := 6) (v := .ref (rt 12)) (C := RX6) (T := TX6) (N := 51) hx hb hts uB6 hown hK hP (hC.1.1 51 (by decide)) F_m rfl 12 (by decide) wm_31 (hC.2.2.2 12 (by decide)) dX6_campaign_142 ?_
                    refine lv_iload hx hb dX6_campaign_145 (lv_at hl 0 rfl) ?_
                    refine lv_iload_n hx hb dX6_campaign_147 rfl (lv_at hl 5 rfl) ?_
                    refine lv_sipush (v := 4096) hx hb dX6_campaign_148 (by decide) ?_
                    refine lv_idiv hx hb dX6_campaign_151 (by decide) ?_
                    refine lv_topi (fun x_90 ex_90 => ?_)
                    refine g_iast hx hb hK hP hD hS (hC.1.1 12 (by decide)) F_must (vp_in_nI (by omega) (by decide)) dX6_campaign_152 (fun H locs hP hD hS => ?_)
                    obtain ⟨g_91, eg_91⟩ : ∃ z9, z9 = upd g_must (Int32.toNatClampNeg (nI nc)) x_90 := ⟨_, rfl⟩
                    rw [← eg_91] at hP hD
                    obtain ⟨f_92, ef_92⟩ : ∃ z9, z9 = va_up f_89 (rt 12) (.inl (K 0, 40, .inl g_91)) := ⟨_, rfl⟩
                    have hP : va_P (dC, dI) vwCl (va_pl L f_92) H := by rw [ef_92]; exact hP
                    have hD : va_D A (va_pl L f_92) := by rw [ef_92]; exact hD
                    have F_m_ : f_92 (rt 51) = .inr (6, fm) := by rw [ef_92, va_up_ne _ _ (fun q => absurd (hC.1.2 51 (by decide) 12 (by decide) q) (by decide))]; exact F_m
                    have F_sort_ : f_92 (rt 10) = .inl (K 0, 40, .inl g_85) := by rw [ef_92, va_up_ne _ _ (fun q => absurd (hC.1.2 10 (by decide) 12 (by decide) q) (by decide))]; exact F_sort
                    have F_pays_ : f_92 (rt 11) = .inl (K 0, 40, .inl g_88) := by rw [ef_92, va_up_ne _ _ (fun q => absurd (hC.1.2 11 (by decide) 12 (by decide) q) (by decide))]; exact F_pays
                    have F_never_ : f_92 (rt 13) = .inl (K 0, 40, .inl g_never) := by rw [ef_92, va_up_ne _ _ (fun q => absurd (hC.1.2 13 (by decide) 12 (by decide) q) (by decide))]; exact F_never
                    have F_bid_ : f_92 (rt 14) = .inl (K 0, 40, .inl g_bid) := by rw [ef_92, va_up_ne _ _ (fun q => absurd (hC.1.2 14 (by decide) 12 (by decide) q) (by decide))]; exact F_bid
                    have F_cap_ : f_92 (rt 17) = .inl (K 0, 40, .inl g_cap) := by rw [ef_92, va_up_ne _ _ (fun q => absurd (hC.1.2 17 (by decide) 12 (by decide) q) (by decide))]; exact F_cap
                    have F_span_ : f_92 (rt 18) = .inl (K 0, 40, .inl g_span) := by rw [ef_92, va_up_ne _ _ (fun q => absurd (hC.1.2 18 (by decide) 12 (by decide) q) (by decide))]; exact F_span
                    have F_throttle_ : f_92 (rt 19) = .inl (K 0, 40, .inl g_throttle) := by rw [ef_92, va_up_ne _ _ (fun q => absurd (hC.1.2 19 (by decide) 12 (by decide) q) (by decide))]; exact F_throttle
                    have F_promised_ : f_92 (rt 22) = .inl (K 0, 40, .inl g_promised) := by rw [ef_92, va_up_ne _ _ (fun q => absurd (hC.1.2 22 (by decide) 12 (by decide) q) (by decide))]; exact F_promised
                    have F_m := F_m_
                    have F_sort := F_sort_
                    have F_pays := F_pays_
                    have F_never := F_never_
                    have F_bid := F_bid_
                    have F_cap := F_cap_
                    have F_span := F_span_
                    have F_throttle := F_throttle_
                    have F_promised := F_promised_
                    have F_must : f_92 (rt 12) = .inl (K 0, 40, .inl g_91) := by rw [ef_92, va_up_self]
                    have hC : mC rt L f_92 fm := ⟨hC.1, F_m, hC.2.2.1, hC.2.2.2⟩
                    refine lv_aload_n hx hb dX6_campaign_153 rfl (lv_at hl 3 rfl) ?_
                    refine g_get (ci := 6) (v := .ref (rt 13)) (C := RX6) (T := TX6) (N := 51) hx hb hts uB6 hown hK hP (hC.1.1 51 (by decide)) F_m rfl 13 (by decide) wm_32 (hC.2.2.2 13 (by decide)) dX6_campaign_154 ?_
                    refine lv_iload hx hb dX6_campaign_157 (lv_at hl 0 rfl) ?_
                    refine lv_iload_n hx hb dX6_campaign_159 rfl (lv_at hl 5 rfl) ?_
                    refine lv_sipush (v := 4096) hx hb dX6_campaign_160 (by decide) ?_
                    refine lv_irem hx hb dX6_campaign_163 (by decide) ?_
                    refine lv_topi (fun x_93 ex_93 => ?_)
                    refine g_iast hx hb hK hP hD hS (hC.1.1 13 (by decide)) F_never (vp_in_nI (by omega) (by decide)) dX6_campaign_164 (fun H locs hP hD hS => ?_)
                    obtain ⟨g_94, eg_94⟩ : ∃ z9, z9 = upd g_never (Int32.toNatClampNeg (nI nc)) x_93 := ⟨_, rfl⟩
                    rw [← eg_94] at hP hD
                    obtain ⟨f_95, ef_95⟩ : ∃ z9, z9 = va_up f_92 (rt 13) (.inl (K 0, 40, .inl g_94)) := ⟨_, rfl⟩
                    have hP : va_P (dC, dI) vwCl (va_pl L f_95) H := by rw [ef_95]; exact hP
                    have hD : va_D A (va_pl L f_95) := by rw [ef_95]; exact hD
                    have F_m_ : f_95 (rt 51) = .inr (6, fm) := by rw [ef_95, va_up_ne _ _ (fun q => absurd (hC.1.2 51 (by decide) 13 (by decide) q) (by decide))]; exact F_m
                    have F_sort_ : f_95 (rt 10) = .inl (K 0, 40, .inl g_85) := by rw [ef_95, va_up_ne _ _ (fun q => absurd (hC.1.2 10 (by decide) 13 (by decide) q) (by decide))]; exact F_sort
                    have F_pays_ : f_95 (rt 11) = .inl (K 0, 40, .inl g_88) := by rw [ef_95, va_up_ne _ _ (fun q => absurd (hC.1.2 11 (by decide) 13 (by decide) q) (by decide))]; exact F_pays
                    have F_must_ : f_95 (rt 12) = .inl (K 0, 40, .inl g_91) := by rw [ef_95, va_up_ne _ _ (fun q => absurd (hC.1.2 12 (by decide) 13 (by decide) q) (by decide))]; exact F_must
                    have F_bid_ : f_95 (rt 14) = .inl (K 0, 40, .inl g_bid) := by rw [ef_95, va_up_ne _ _ (fun q => absurd (hC.1.2 14 (by decide) 13 (by decide) q) (by decide))]; exact F_bid
                    have F_cap_ : f_95 (rt 17) = .inl (K 0, 40, .inl g_cap) := by rw [ef_95, va_up_ne _ _ (fun q => absurd (hC.1.2 17 (by decide) 13 (by decide) q) (by decide))]; exact F_cap
                    have F_span_ : f_95 (rt 18) = .inl (K 0, 40, .inl g_span) := by rw [ef_95, va_up_ne _ _ (fun q => absurd (hC.1.2 18 (by decide) 13 (by decide) q) (by decide))]; exact F_span
                    have F_throttle_ : f_95 (rt 19) = .inl (K 0, 40, .inl g_throttle) := by rw [ef_95, va_up_ne _ _ (fun q => absurd (hC.1.2 19 (by decide) 13 (by decide) q) (by decide))]; exact F_throttle
                    have F_promised_ : f_95 (rt 22) = .inl (K 0, 40, .inl g_promised) := by rw [ef_95, va_up_ne _ _ (fun q => absurd (hC.1.2 22 (by decide) 13 (by decide) q) (by decide))]; exact F_promised
                    have F_m := F_m_
                    have F_sort := F_sort_
                    have F_pays := F_pays_
                    have F_must := F_must_
                    have F_bid := F_bid_
                    have F_cap := F_cap_
                    have F_span := F_span_
                    have F_throttle := F_throttle_
                    have F_promised := F_promised_
                    have F_never : f_95 (rt 13) = .inl (K 0, 40, .inl g_94) := by rw [ef_95, va_up_self]
                    have hC : mC rt L f_95 fm := ⟨hC.1, F_m, hC.2.2.1, hC.2.2.2⟩
                    refine lv_aload_n hx hb dX6_campaign_165 rfl (lv_at hl 3 rfl) ?_
                    refine g_get (ci := 6) (v := .ref (rt 14)) (C := RX6) (T := TX6) (N := 51) hx hb hts uB6 hown hK hP (hC.1.1 51 (by decide)) F_m rfl 14 (by decide) wm_43 (hC.2.2.2 14 (by decide)) dX6_campaign_166 ?_
                    refine lv_iload hx hb dX6_campaign_169 (lv_at hl 0 rfl) ?_
                    refine lv_iload_n hx hb dX6_campaign_171 rfl (lv_at hl 6 rfl) ?_
                    refine g_iast hx hb hK hP hD hS (hC.1.1 14 (by decide)) F_bid (vp_in_nI (by omega) (by decide)) dX6_campaign_172 (fun H locs hP hD hS => ?_)
                    obtain ⟨g_96, eg_96⟩ : ∃ z9, z9 = upd g_bid (Int32.toNatClampNeg (nI nc)) z := ⟨_, rfl⟩
                    rw [← eg_96] at hP hD
                    obtain ⟨f_97, ef_97⟩ : ∃ z9, z9 = va_up f_95 (rt 14) (.inl (K 0, 40, .inl g_96)) := ⟨_, rfl⟩
                    have hP : va_P (dC, dI) vwCl (va_pl L f_97) H := by rw [ef_97]; exact hP
                    have hD : va_D A (va_pl L f_97) := by rw [ef_97]; exact hD
                    have F_m_ : f_97 (rt 51) = .inr (6, fm) := by rw [ef_97, va_up_ne _ _ (fun q => absurd (hC.1.2 51 (by decide) 14 (by decide) q) (by decide))]; exact F_m
                    have F_sort_ : f_97 (rt 10) = .inl (K 0, 40, .inl g_85) := by rw [ef_97, va_up_ne _ _ (fun q => absurd (hC.1.2 10 (by decide) 14 (by decide) q) (by decide))]; exact F_sort
                    have F_pays_ : f_97 (rt 11) = .inl (K 0, 40, .inl g_88) := by rw [ef_97, va_up_ne _ _ (fun q => absurd (hC.1.2 11 (by decide) 14 (by decide) q) (by decide))]; exact F_pays
                    have F_must_ : f_97 (rt 12) = .inl (K 0, 40, .inl g_91) := by rw [ef_97, va_up_ne _ _ (fun q => absurd (hC.1.2 12 (by decide) 14 (by decide) q) (by decide))]; exact F_must
                    have F_never_ : f_97 (rt 13) = .inl (K 0, 40, .inl g_94) := by rw [ef_97, va_up_ne _ _ (fun q => absurd (hC.1.2 13 (by decide) 14 (by decide) q) (by decide))]; exact F_never
                    have F_cap_ : f_97 (rt 17) = .inl (K 0, 40, .inl g_cap) := by rw [ef_97, va_up_ne _ _ (fun q => absurd (hC.1.2 17 (by decide) 14 (by decide) q) (by decide))]; exact F_cap
                    have F_span_ : f_97 (rt 18) = .inl (K 0, 40, .inl g_span) := by rw [ef_97, va_up_ne _ _ (fun q => absurd (hC.1.2 18 (by decide) 14 (by decide) q) (by decide))]; exact F_span
                    have F_throttle_ : f_97 (rt 19) = .inl (K 0, 40, .inl g_throttle) := by rw [ef_97, va_up_ne _ _ (fun q => absurd (hC.1.2 19 (by decide) 14 (by decide) q) (by decide))]; exact F_throttle
                    have F_promised_ : f_97 (rt 22) = .inl (K 0, 40, .inl g_promised) := by rw [ef_97, va_up_ne _ _ (fun q => absurd (hC.1.2 22 (by decide) 14 (by decide) q) (by decide))]; exact F_promised
                    have F_m := F_m_
                    have F_sort := F_sort_
                    have F_pays := F_pays_
                    have F_must := F_must_
                    have F_never := F_never_
                    have F_cap := F_cap_
                    have F_span := F_span_
                    have F_throttle := F_throttle_
                    have F_promised := F_promised_
                    have F_bid : f_97 (rt 14) = .inl (K 0, 40, .inl g_96) := by rw [ef_97, va_up_self]
                    have hC : mC rt L f_97 fm := ⟨hC.1, F_m, hC.2.2.1, hC.2.2.2⟩
                    refine lv_aload_n hx hb dX6_campaign_173 rfl (lv_at hl 3 rfl) ?_
                    refine g_get (ci := 6) (v := .ref (rt 17)) (C := RX6) (T := TX6) (N := 51) hx hb hts uB6 hown hK hP (hC.1.1 51 (by decide)) F_m rfl 17 (by decide) wm_33 (hC.2.2.2 17 (by decide)) dX6_campaign_174 ?_
                    refine lv_iload hx hb dX6_campaign_177 (lv_at hl 0 rfl) ?_
                    refine lv_bipush (v := 9) hx hb dX6_campaign_179 (by decide) ?_
                    refine g_iast hx hb hK hP hD hS (hC.1.1 17 (by decide)) F_cap (vp_in_nI (by omega) (by decide)) dX6_campaign_181 (fun H locs hP hD hS => ?_)
                    obtain ⟨g_98, eg_98⟩ : ∃ z9, z9 = upd g_cap (Int32.toNatClampNeg (nI nc)) 9 := ⟨_, rfl⟩
                    rw [← eg_98] at hP hD
                    obtain ⟨f_99, ef_99⟩ : ∃ z9, z9 = va_up f_97 (rt 17) (.inl (K 0, 40, .inl g_98)) := ⟨_, rfl⟩
                    have hP : va_P (dC, dI) vwCl (va_pl L f_99) H := by rw [ef_99]; exact hP
                    have hD : va_D A (va_pl L f_99) := by rw [ef_99]; exact hD
                    have F_m_ : f_99 (rt 51) = .inr (6, fm) := by rw [ef_99, va_up_ne _ _ (fun q => absurd (hC.1.2 51 (by decide) 17 (by decide) q) (by decide))]; exact F_m
                    have F_sort_ : f_99 (rt 10) = .inl (K 0, 40, .inl g_85) := by rw [ef_99, va_up_ne _ _ (fun q => absurd (hC.1.2 10 (by decide) 17 (by decide) q) (by decide))]; exact F_sort
                    have F_pays_ : f_99 (rt 11) = .inl (K 0, 40, .inl g_88) := by rw [ef_99, va_up_ne _ _ (fun q => absurd (hC.1.2 11 (by decide) 17 (by decide) q) (by decide))]; exact F_pays
                    have F_must_ : f_99 (rt 12) = .inl (K 0, 40, .inl g_91) := by rw [ef_99, va_up_ne _ _ (fun q => absurd (hC.1.2 12 (by decide) 17 (by decide) q) (by decide))]; exact F_must
                    have F_never_ : f_99 (rt 13) = .inl (K 0, 40, .inl g_94) := by rw [ef_99, va_up_ne _ _ (fun q => absurd (hC.1.2 13 (by decide) 17 (by decide) q) (by decide))]; exact F_never
                    have F_bid_ : f_99 (rt 14) = .inl (K 0, 40, .inl g_96) := by rw [ef_99, va_up_ne _ _ (fun q => absurd (hC.1.2 14 (by decide) 17 (by decide) q) (by decide))]; exact F_bid
                    have F_span_ : f_99 (rt 18) = .inl (K 0, 40, .inl g_span) := by rw [ef_99, va_up_ne _ _ (fun q => absurd (hC.1.2 18 (by decide) 17 (by decide) q) (by decide))]; exact F_span
                    have F_throttle_ : f_99 (rt 19) = .inl (K 0, 40, .inl g_throttle) := by rw [ef_99, va_up_ne _ _ (fun q => absurd (hC.1.2 19 (by decide) 17 (by decide) q) (by decide))]; exact F_throttle
                    have F_promised_ : f_99 (rt 22) = .inl (K 0, 40, .inl g_promised) := by rw [ef_99, va_up_ne _ _ (fun q => absurd (hC.1.2 22 (by decide) 17 (by decide) q) (by decide))]; exact F_promised
                    have F_m := F_m_
                    have F_sort := F_sort_
                    have F_pays := F_pays_
                    have F_must := F_must_
                    have F_never := F_never_
                    have F_bid := F_bid_
                    have F_span := F_span_
                    have F_throttle := F_throttle_
                    have F_promised := F_promised_
                    have F_cap : f_99 (rt 17) = .inl (K 0, 40, .inl g_98) := by rw [ef_99, va_up_self]
                    have hC : mC rt L f_99 fm := ⟨hC.1, F_m, hC.2.2.1, hC.2.2.2⟩
                    refine lv_aload_n hx hb dX6_campaign_182 rfl (lv_at hl 3 rfl) ?_
                    refine g_get (ci := 6) (v := .ref (rt 18)) (C := RX6) (T := TX6) (N := 51) hx hb hts uB6 hown hK hP (hC.1.1 51 (by decide)) F_m rfl 18 (by decide) wm_51 (hC.2.2.2 18 (by decide)) dX6_campaign_183 ?_
                    refine lv_iload hx hb dX6_campaign_186 (lv_at hl 0 rfl) ?_
                    refine lv_iconst (v := 1) hx hb dX6_campaign_188 (by decide) ?_
                    refine g_iast hx hb hK hP hD hS (hC.1.1 18 (by decide)) F_span (vp_in_nI (by omega) (by decide)) dX6_campaign_189 (fun H locs hP hD hS => ?_)
                    obtain ⟨g_100, eg_100⟩ : ∃ z9, z9 = upd g_span (Int32.toNatClampNeg (nI nc)) 1 := ⟨_, rfl⟩
                    rw [← eg_100] at hP hD
                    obtain ⟨f_101, ef_101⟩ : ∃ z9, z9 = va_up f_99 (rt 18) (.inl (K 0, 40, .inl g_100)) := ⟨_, rfl⟩
                    have hP : va_P (dC, dI) vwCl (va_pl L f_101) H := by rw [ef_101]; exact hP
                    have hD : va_D A (va_pl L f_101) := by rw [ef_101]; exact hD
                    have F_m_ : f_101 (rt 51) = .inr (6, fm) := by rw [ef_101, va_up_ne _ _ (fun q => absurd (hC.1.2 51 (by decide) 18 (by decide) q) (by decide))]; exact F_m
                    have F_sort_ : f_101 (rt 10) = .inl (K 0, 40, .inl g_85) := by rw [ef_101, va_up_ne _ _ (fun q => absurd (hC.1.2 10 (by decide) 18 (by decide) q) (by decide))]; exact F_sort
                    have F_pays_ : f_101 (rt 11) = .inl (K 0, 40, .inl g_88) := by rw [ef_101, va_up_ne _ _ (fun q => absurd (hC.1.2 11 (by decide) 18 (by decide) q) (by decide))]; exact F_pays
                    have F_must_ : f_101 (rt 12) = .inl (K 0, 40, .inl g_91) := by rw [ef_101, va_up_ne _ _ (fun q => absurd (hC.1.2 12 (by decide) 18 (by decide) q) (by decide))]; exact F_must
                    have F_never_ : f_101 (rt 13) = .inl (K 0, 40, .inl g_94) := by rw [ef_101, va_up_ne _ _ (fun q => absurd (hC.1.2 13 (by decide) 18 (by decide) q) (by decide))]; exact F_never
                    have F_bid_ : f_101 (rt 14) = .inl (K 0, 40, .inl g_96) := by rw [ef_101, va_up_ne _ _ (fun q => absurd (hC.1.2 14 (by decide) 18 (by decide) q) (by decide))]; exact F_bid
                    have F_cap_ : f_101 (rt 17) = .inl (K 0, 40, .inl g_98) := by rw [ef_101, va_up_ne _ _ (fun q => absurd (hC.1.2 17 (by decide) 18 (by decide) q) (by decide))]; exact F_cap
                    have F_throttle_ : f_101 (rt 19) = .inl (K 0, 40, .inl g_throttle) := by rw [ef_101, va_up_ne _ _ (fun q => absurd (hC.1.2 19 (by decide) 18 (by decide) q) (by decide))]; exact F_throttle
                    have F_promised_ : f_101 (rt 22) = .inl (K 0, 40, .inl g_promised) := by rw [ef_101, va_up_ne _ _ (fun q => absurd (hC.1.2 22 (by decide) 18 (by decide) q) (by decide))]; exact F_promised
                    have F_m := F_m_
                    have F_sort := F_sort_
                    have F_pays := F_pays_
                    have F_must := F_must_
                    have F_never := F_never_
                    have F_bid := F_bid_
                    have F_cap := F_cap_
                    have F_throttle := F_throttle_
                    have F_promised := F_promised_
                    have F_span : f_101 (rt 18) = .inl (K 0, 40, .inl g_100) := by rw [ef_101, va_up_self]
                    have hC : mC rt L f_101 fm := ⟨hC.1, F_m, hC.2.2.1, hC.2.2.2⟩
                    refine lv_aload_n hx hb dX6_campaign_190 rfl (lv_at hl 3 rfl) ?_
                    refine g_get (ci := 6) (v := .ref (rt 19)) (C := RX6) (T := TX6) (N := 51) hx hb hts uB6 hown hK hP (hC.1.1 51 (by decide)) F_m rfl 19 (by decide) wm_38 (hC.2.2.2 19 (by decide)) dX6_campaign_191 ?_
                    refine lv_iload hx hb dX6_campaign_194 (lv_at hl 0 rfl) ?_
                    refine lv_sipush (v := 1000) hx hb dX6_campaign_196 (by decide) ?_
                    refine g_iast hx hb hK hP hD hS (hC.1.1 19 (by decide)) F_throttle (vp_in_nI (by omega) (by decide)) dX6_campaign_199 (fun H locs hP hD hS => ?_)
                    obtain ⟨g_102, eg_102⟩ : ∃ z9, z9 = upd g_throttle (Int32.toNatClampNeg (nI nc)) 1000 := ⟨_, rfl⟩
                    rw [← eg_102] at hP hD
                    obtain ⟨f_103, ef_103⟩ : ∃ z9, z9 = va_up f_101 (rt 19) (.inl (K 0, 40, .inl g_102)) := ⟨_, rfl⟩
                    have hP : va_P (dC, dI) vwCl (va_pl L f_103) H := by rw [ef_103]; exact hP
                    have hD : va_D A (va_pl L f_103) := by rw [ef_103]; exact hD
                    have F_m_ : f_103 (rt 51) = .inr (6, fm) := by rw [ef_103, va_up_ne _ _ (fun q => absurd (hC.1.2 51 (by decide) 19 (by decide) q) (by decide))]; exact F_m
                    have F_sort_ : f_103 (rt 10) = .inl (K 0, 40, .inl g_85) := by rw [ef_103, va_up_ne _ _ (fun q => absurd (hC.1.2 10 (by decide) 19 (by decide) q) (by decide))]; exact F_sort
                    have F_pays_ : f_103 (rt 11) = .inl (K 0, 40, .inl g_88) := by rw [ef_103, va_up_ne _ _ (fun q => absurd (hC.1.2 11 (by decide) 19 (by decide) q) (by decide))]; exact F_pays
                    have F_must_ : f_103 (rt 12) = .inl (K 0, 40, .inl g_91) := by rw [ef_103, va_up_ne _ _ (fun q => absurd (hC.1.2 12 (by decide) 19 (by decide) q) (by decide))]; exact F_must
                    have F_never_ : f_103 (rt 13) = .inl (K 0, 40, .inl g_94) := by rw [ef_103, va_up_ne _ _ (fun q => absurd (hC.1.2 13 (by decide) 19 (by decide) q) (by decide))]; exact F_never
                    have F_bid_ : f_103 (rt 14) = .inl (K 0, 40, .inl g_96) := by rw [ef_103, va_up_ne _ _ (fun q => absurd (hC.1.2 14 (by decide) 19 (by decide) q) (by decide))]; exact F_bid
                    have F_cap_ : f_103 (rt 17) = .inl (K 0, 40, .inl g_98) := by rw [ef_103, va_up_ne _ _ (fun q => absurd (hC.1.2 17 (by decide) 19 (by decide) q) (by decide))]; exact F_cap
                    have F_span_ : f_103 (rt 18) = .inl (K 0, 40, .inl g_100) := by rw [ef_103, va_up_ne _ _ (fun q => absurd (hC.1.2 18 (by decide) 19 (by decide) q) (by decide))]; exact F_span
                    have F_promised_ : f_103 (rt 22) = .inl (K 0, 40, .inl g_promised) := by rw [ef_103, va_up_ne _ _ (fun q => absurd (hC.1.2 22 (by decide) 19 (by decide) q) (by decide))]; exact F_promised
                    have F_m := F_m_
                    have F_sort := F_sort_
                    have F_pays := F_pays_
                    have F_must := F_must_
                    have F_never := F_never_
                    have F_bid := F_bid_
                    have F_cap := F_cap_
                    have F_span := F_span_
                    have F_promised := F_promised_
                    have F_throttle : f_103 (rt 19) = .inl (K 0, 40, .inl g_102) := by rw [ef_103, va_up_self]
                    have hC : mC rt L f_103 fm := ⟨hC.1, F_m, hC.2.2.1, hC.2.2.2⟩
                    refine lv_aload_n hx hb dX6_campaign_200 rfl (lv_at hl 3 rfl) ?_
                    refine g_get (ci := 6) (v := .ref (rt 22)) (C := RX6) (T := TX6) (N := 51) hx hb hts uB6 hown hK hP (hC.1.1 51 (by decide)) F_m rfl 22 (by decide) wm_22 (hC.2.2.2 22 (by decide)) dX6_campaign_201 ?_
                    refine lv_iload hx hb dX6_campaign_204 (lv_at hl 0 rfl) ?_
                    refine lv_iconst (v := 0) hx hb dX6_campaign_206 (by decide) ?_
                    refine g_iast hx hb hK hP hD hS (hC.1.1 22 (by decide)) F_promised (vp_in_nI (by omega) (by decide)) dX6_campaign_207 (fun H locs hP hD hS => ?_)
                    obtain ⟨g_104, eg_104⟩ : ∃ z9, z9 = upd g_promised (Int32.toNatClampNeg (nI nc)) 0 := ⟨_, rfl⟩
                    rw [← eg_104] at hP hD
                    obtain ⟨f_105, ef_105⟩ : ∃ z9, z9 = va_up f_103 (rt 22) (.inl (K 0, 40, .inl g_104)) := ⟨_, rfl⟩
                    have hP : va_P (dC, dI) vwCl (va_pl L f_105) H := by rw [ef_105]; exact hP
                    have hD : va_D A (va_pl L f_105) := by rw [ef_105]; exact hD
                    have F_m_ : f_105 (rt 51) = .inr (6, fm) := by rw [ef_105, va_up_ne _ _ (fun q => absurd (hC.1.2 51 (by decide) 22 (by decide) q) (by decide))]; exact F_m
                    have F_sort_ : f_105 (rt 10) = .inl (K 0, 40, .inl g_85) := by rw [ef_105, va_up_ne _ _ (fun q => absurd (hC.1.2 10 (by decide) 22 (by decide) q) (by decide))]; exact F_sort
                    have F_pays_ : f_105 (rt 11) = .inl (K 0, 40, .inl g_88) := by rw [ef_105, va_up_ne _ _ (fun q => absurd (hC.1.2 11 (by decide) 22 (by decide) q) (by decide))]; exact F_pays
                    have F_must_ : f_105 (rt 12) = .inl (K 0, 40, .inl g_91) := by rw [ef_105, va_up_ne _ _ (fun q => absurd (hC.1.2 12 (by decide) 22 (by decide) q) (by decide))]; exact F_must
                    have F_never_ : f_105 (rt 13) = .inl (K 0, 40, .inl g_94) := by rw [ef_105, va_up_ne _ _ (fun q => absurd (hC.1.2 13 (by decide) 22 (by decide) q) (by decide))]; exact F_never
                    have F_bid_ : f_105 (rt 14) = .inl (K 0, 40, .inl g_96) := by rw [ef_105, va_up_ne _ _ (fun q => absurd (hC.1.2 14 (by decide) 22 (by decide) q) (by decide))]; exact F_bid
                    have F_cap_ : f_105 (rt 17) = .inl (K 0, 40, .inl g_98) := by rw [ef_105, va_up_ne _ _ (fun q => absurd (hC.1.2 17 (by decide) 22 (by decide) q) (by decide))]; exact F_cap
                    have F_span_ : f_105 (rt 18) = .inl (K 0, 40, .inl g_100) := by rw [ef_105, va_up_ne _ _ (fun q => absurd (hC.1.2 18 (by decide) 22 (by decide) q) (by decide))]; exact F_span
                    have F_throttle_ : f_105 (rt 19) = .inl (K 0, 40, .inl g_102) := by rw [ef_105, va_up_ne _ _ (fun q => absurd (hC.1.2 19 (by decide) 22 (by decide) q) (by decide))]; exact F_throttle
                    have F_m := F_m_
                    have F_sort := F_sort_
                    have F_pays := F_pays_
                    have F_must := F_must_
                    have F_never := F_never_
                    have F_bid := F_bid_
                    have F_cap := F_cap_
                    have F_span := F_span_
                    have F_throttle := F_throttle_
                    have F_promised : f_105 (rt 22) = .inl (K 0, 40, .inl g_104) := by rw [ef_105, va_up_self]
                    have hC : mC rt L f_105 fm := ⟨hC.1, F_m, hC.2.2.1, hC.2.2.2⟩
                    refine lv_aload_n hx hb dX6_campaign_208 rfl (lv_at hl 3 rfl) ?_
                    refine lv_dup hx hb dX6_campaign_209 rfl ?_
                    refine g_get (ci := 6) (v := .int (nI nc)) (C := RX6) (T := TX6) (N := 51) hx hb hts uB6 hown hK hP (hC.1.1 51 (by decide)) F_m rfl 9 (by decide) wm_76 I_campaigns dX6_campaign_210 ?_
                    refine lv_iconst (v := 1) hx hb dX6_campaign_213 (by decide) ?_
                    refine lv_iadd hx hb dX6_campaign_214 ?_
                    refine lv_topi (fun x_106 ex_106 => ?_)
                    obtain rfl : x_106 = nI (nc + 1) := ex_106.trans (nI_1 nc)
                    refine g_put (ci := 6) (v := .int (nI (nc + 1))) (ty := .int) (C := RX6) (T := TX6) (N := 51) hx hb hts uB6 tyX6 tyX6_ok nmX6 hown hK hP hD hS (hC.1.1 51 (by decide)) F_m rfl 9 (by decide) wm_76 rfl (by decide +kernel) rfl rfl (by rw [hC.2.2.1]; decide) dX6_campaign_215 (fun H locs hP hD hS => ?_)
                    obtain ⟨fs_107, efs_107⟩ : ∃ z9, z9 = List.set fm 9 (.int (nI (nc + 1))) := ⟨_, rfl⟩
                    rw [← efs_107] at hP hD
                    have hlen_ : fs_107.length = 51 := by rw [efs_107, List.length_set]; exact hC.2.2.1
                    have I_campaigns : fs_107[9]? = some (.int (nI (nc + 1))) := by rw [efs_107]; exact List.getElem?_set_self (by rw [hC.2.2.1]; decide)
                    have hmr_ : ∀ k ∈ mArr, fs_107[k]? = some (.ref (rt k)) := fun k h => by rw [efs_107, List.getElem?_set_ne (fun q => by rw [← q] at h; exact absurd h (by decide))]; exact hC.2.2.2 k h
                    obtain ⟨f_108, ef_108⟩ : ∃ z9, z9 = va_up f_105 (rt 51) (.inr (6, fs_107)) := ⟨_, rfl⟩
                    have hP : va_P (dC, dI) vwCl (va_pl L f_108) H := by rw [ef_108]; exact hP
                    have hD : va_D A (va_pl L f_108) := by rw [ef_108]; exact hD
                    have F_sort_ : f_108 (rt 10) = .inl (K 0, 40, .inl g_85) := by rw [ef_108, va_up_ne _ _ (fun q => absurd (hC.1.2 10 (by decide) 51 (by decide) q) (by decide))]; exact F_sort
                    have F_pays_ : f_108 (rt 11) = .inl (K 0, 40, .inl g_88) := by rw [ef_108, va_up_ne _ _ (fun q => absurd (hC.1.2 11 (by decide) 51 (by decide) q) (by decide))]; exact F_pays
                    have F_must_ : f_108 (rt 12) = .inl (K 0, 40, .inl g_91) := by rw [ef_108, va_up_ne _ _ (fun q => absurd (hC.1.2 12 (by decide) 51 (by decide) q) (by decide))]; exact F_must
                    have F_never_ : f_108 (rt 13) = .inl (K 0, 40, .inl g_94) := by rw [ef_108, va_up_ne _ _ (fun q => absurd (hC.1.2 13 (by decide) 51 (by decide) q) (by decide))]; exact F_never
                    have F_bid_ : f_108 (rt 14) = .inl (K 0, 40, .inl g_96) := by rw [ef_108, va_up_ne _ _ (fun q => absurd (hC.1.2 14 (by decide) 51 (by decide) q) (by decide))]; exact F_bid
                    have F_cap_ : f_108 (rt 17) = .inl (K 0, 40, .inl g_98) := by rw [ef_108, va_up_ne _ _ (fun q => absurd (hC.1.2 17 (by decide) 51 (by decide) q) (by decide))]; exact F_cap
                    have F_span_ : f_108 (rt 18) = .inl (K 0, 40, .inl g_100) := by rw [ef_108, va_up_ne _ _ (fun q => absurd (hC.1.2 18 (by decide) 51 (by decide) q) (by decide))]; exact F_span
                    have F_throttle_ : f_108 (rt 19) = .inl (K 0, 40, .inl g_102) := by rw [ef_108, va_up_ne _ _ (fun q => absurd (hC.1.2 19 (by decide) 51 (by decide) q) (by decide))]; exact F_throttle
                    have F_promised_ : f_108 (rt 22) = .inl (K 0, 40, .inl g_104) := by rw [ef_108, va_up_ne _ _ (fun q => absurd (hC.1.2 22 (by decide) 51 (by decide) q) (by decide))]; exact F_promised
                    have F_sort := F_sort_
                    have F_pays := F_pays_
                    have F_must := F_must_
                    have F_never := F_never_
                    have F_bid := F_bid_
                    have F_cap := F_cap_
                    have F_span := F_span_
                    have F_throttle := F_throttle_
                    have F_promised := F_promised_
                    have F_m : f_108 (rt 51) = .inr (6, fs_107) := by rw [ef_108, va_up_self]
                    have hC : mC rt L f_108 fs_107 := ⟨hC.1, F_m, hlen_, hmr_⟩
                    refine lv_iload hx hb dX6_campaign_218 (lv_at hl 0 rfl) ?_
                    exact W.iret (v := nI nc) hx hb hr (fun t ht hW => ⟨⟨nI nc, f_108, rfl, (Or.inr (Or.inr ⟨(by subst ex_1 ex_5 ex_80 ex_81 ex_82 ex_87 ex_90 ex_93; have h1 := k_cp1 x; have h2 := k_cp2 y; simp only [Int32.lt_iff_toInt_lt, Int32.le_iff_toInt_le, ← Int32.toInt_inj, Int32.reduceToInt] at h1 h2 c_2 g_4 c_6 g_74 g_76 c_77 g_79 c_83; unfold cpOk; simp only [Int32.lt_iff_toInt_lt, Int32.le_iff_toInt_le, ← Int32.toInt_inj, Int32.reduceToInt]; omega), hfl, rfl, by rw [ef_108, efs_107, ef_105, eg_104, ef_103, eg_102, ef_101, eg_100, ef_99, eg_98, ef_97, eg_96, ef_95, eg_94, ef_92, eg_91, ef_89, eg_88, ef_86, eg_85]; subst ex_93 ex_90 ex_87 ex_82 ex_81 ex_80 ex_5 ex_1; rfl⟩)), by show va_P (dC, dI) vwCl (va_pl L f_108) t.heap; rw [ht]; exact hP⟩, hS.F ht⟩) hS.2.2 dX6_campaign_220
                  · skip
                    have hfl : nc = 40 := (nI_eq (by omega) (by decide)).mp c_84
                    refine lv_bipush (v := (-3)) hx hb dX6_campaign_112 (by decide) ?_
                    exact W.iret (v := (-3)) hx hb hr (fun t ht hW => ⟨⟨(-3), f, rfl, (Or.inr (Or.inl ⟨(by subst ex_1 ex_5 ex_80 ex_81 ex_82; have h1 := k_cp1 x; have h2 := k_cp2 y; simp only [Int32.lt_iff_toInt_lt, Int32.le_iff_toInt_le, ← Int32.toInt_inj, Int32.reduceToInt] at h1 h2 c_2 g_4 c_6 g_74 g_76 c_77 g_79 c_83; unfold cpOk; simp only [Int32.lt_iff_toInt_lt, Int32.le_iff_toInt_le, ← Int32.toInt_inj, Int32.reduceToInt]; omega), hfl, rfl, rfl⟩)), by show va_P (dC, dI) vwCl (va_pl L f) t.heap; rw [ht]; exact hP⟩, hS.F ht⟩) hS.2.2 dX6_campaign_114
                · skip
                  refine lv_iconst (v := (-1)) hx hb dX6_campaign_101 (by decide) ?_
                  exact W.iret (v := (-1)) hx hb hr (fun t ht hW => ⟨⟨(-1), f, rfl, (Or.inl ⟨(by subst ex_1 ex_5 ex_80 ex_81 ex_82; have h1 := k_cp1 x; have h2 := k_cp2 y; simp only [Int32.lt_iff_toInt_lt, Int32.le_iff_toInt_le, ← Int32.toInt_inj, Int32.reduceToInt] at h1 h2 c_2 g_4 c_6 g_74 g_76 c_77 g_79 c_83; unfold cpOk; simp only [Int32.lt_iff_toInt_lt, Int32.le_iff_toInt_le, ← Int32.toInt_inj, Int32.reduceToInt]; omega), rfl, rfl⟩), by show va_P (dC, dI) vwCl (va_pl L f) t.heap; rw [ht]; exact hP⟩, hS.F ht⟩) hS.2.2 dX6_campaign_102
            · skip
              refine lv_iload_n hx hb dX6_campaign_57 rfl (lv_at hl 4 rfl) ?_
              refine lv_if_ne (tgt := 79) hx hb dX6_campaign_58 (by decide) (fun c_109 => ?_) (fun c_109 => ?_)
              · skip
                refine lv_iconst (v := 0) hx hb dX6_campaign_79 (by decide) ?_
                refine lv_istore (lv' := [(5, .int 0), (4, .int x_1), (0, .ref (rt 51)), (1, .int x), (2, .int y), (3, .int z)]) hx hb dX6_campaign_80 hl (by decide) rfl (fun ls hl => ?_)
                refine lv_iload hx hb dX6_campaign_82 (lv_at hl 0 rfl) ?_
                refine lv_if_eq (tgt := 101) hx hb dX6_campaign_84 (by decide) (fun _ => ?_) (fun h9 => absurd (by decide) h9)
                refine lv_iconst (v := (-1)) hx hb dX6_campaign_101 (by decide) ?_
                exact W.iret (v := (-1)) hx hb hr (fun t ht hW => ⟨⟨(-1), f, rfl, (Or.inl ⟨(by subst ex_1 ex_5; have h1 := k_cp1 x; have h2 := k_cp2 y; simp only [Int32.lt_iff_toInt_lt, Int32.le_iff_toInt_le, ← Int32.toInt_inj, Int32.reduceToInt] at h1 h2 c_2 g_4 c_6 g_74 g_76 c_77 c_109; unfold cpOk; simp only [Int32.lt_iff_toInt_lt, Int32.le_iff_toInt_le, ← Int32.toInt_inj, Int32.reduceToInt]; omega), rfl, rfl⟩), by show va_P (dC, dI) vwCl (va_pl L f) t.heap; rw [ht]; exact hP⟩, hS.F ht⟩) hS.2.2 dX6_campaign_102
              · skip
                refine lv_goto (tgt := 75) hx hb dX6_campaign_61 (by decide) ?_
                refine lv_iconst (v := 1) hx hb dX6_campaign_75 (by decide) ?_
                refine lv_goto (tgt := 80) hx hb dX6_campaign_76 (by decide) ?_
                refine lv_istore (lv' := [(5, .int 1), (4, .int x_1), (0, .ref (rt 51)), (1, .int x), (2, .int y), (3, .int z)]) hx hb dX6_campaign_80 hl (by decide) rfl (fun ls hl => ?_)
                refine lv_iload hx hb dX6_campaign_82 (lv_at hl 0 rfl) ?_
                refine lv_if_eq (tgt := 101) hx hb dX6_campaign_84 (by decide) (fun h9 => absurd h9 (by decide)) (fun _ => ?_)
                refine lv_iload_n hx hb dX6_campaign_87 rfl (lv_at hl 4 rfl) ?_
                refine lv_sipush (v := 4096) hx hb dX6_campaign_88 (by decide) ?_
                refine lv_idiv hx hb dX6_campaign_91 (by decide) ?_
                refine lv_topi (fun x_110 ex_110 => ?_)
                refine lv_iload_n hx hb dX6_campaign_92 rfl (lv_at hl 4 rfl) ?_
                refine lv_sipush (v := 4096) hx hb dX6_campaign_93 (by decide) ?_
                refine lv_irem hx hb dX6_campaign_96 (by decide) ?_
                refine lv_topi (fun x_111 ex_111 => ?_)
                refine lv_iand hx hb dX6_campaign_97 ?_
                refine lv_topi (fun x_112 ex_112 => ?_)
                refine lv_if_eq (tgt := 103) hx hb dX6_campaign_98 (by decide) (fun c_113 => ?_) (fun c_113 => ?_)
                · skip
                  refine lv_aload_n hx hb dX6_campaign_103 rfl (lv_at hl 2 rfl) ?_
                  refine g_get (ci := 6) (v := .int (nI nc)) (C := RX6) (T := TX6) (N := 51) hx hb hts uB6 hown hK hP (hC.1.1 51 (by decide)) F_m rfl 9 (by decide) wm_76 I_campaigns dX6_campaign_104 ?_
                  refine lv_bipush (v := 40) hx hb dX6_campaign_107 (by decide) ?_
                  refine lv_icmp_ne (tgt := 115) hx hb dX6_campaign_109 (by decide) (fun c_114 => ?_) (fun c_114 => ?_)
                  · skip
                    have hfl : nc < 40 := Nat.lt_of_le_of_ne hnc (fun q => c_114 (by rw [q]; rfl))
                    refine lv_aload_n hx hb dX6_campaign_115 rfl (lv_at hl 2 rfl) ?_
                    refine g_get (ci := 6) (v := .int (nI nc)) (C := RX6) (T := TX6) (N := 51) hx hb hts uB6 hown hK hP (hC.1.1 51 (by decide)) F_m rfl 9 (by decide) wm_76 I_campaigns dX6_campaign_116 ?_
                    refine lv_istore (lv' := [(6, .int (nI nc)), (5, .int 1), (4, .int x_1), (0, .ref (rt 51)), (1, .int x), (2, .int y), (3, .int z)]) hx hb dX6_campaign_119 hl (by decide) rfl (fun ls hl => ?_)
                    refine lv_aload_n hx hb dX6_campaign_121 rfl (lv_at hl 3 rfl) ?_
                    refine g_get (ci := 6) (v := .ref (rt 10)) (C := RX6) (T := TX6) (N := 51) hx hb hts uB6 hown hK hP (hC.1.1 51 (by decide)) F_m rfl 10 (by decide) wm_21 (hC.2.2.2 10 (by decide)) dX6_campaign_122 ?_
                    refine lv_iload hx hb dX6_campaign_125 (lv_at hl 0 rfl) ?_
                    refine lv_iload hx hb dX6_campaign_127 (lv_at hl 2 rfl) ?_
                    refine g_iast hx hb hK hP hD hS (hC.1.1 10 (by decide)) F_sort (vp_in_nI (by omega) (by decide)) dX6_campaign_129 (fun H locs hP hD hS => ?_)
                    obtain ⟨g_115, eg_115⟩ : ∃ z9, z9 = upd g_sort (Int32.toNatClampNeg (nI nc)) x_1 := ⟨_, rfl⟩
                    rw [← eg_115] at hP hD
                    obtain ⟨f_116, ef_116⟩ : ∃ z9, z9 = va_up f (rt 10) (.inl (K 0, 40, .inl g_115)) := ⟨_, rfl⟩
                    have hP : va_P (dC, dI) vwCl (va_pl L f_116) H := by rw [ef_116]; exact hP
                    have hD : va_D A (va_pl L f_116) := by rw [ef_116]; exact hD
                    have F_m_ : f_116 (rt 51) = .inr (6, fm) := by rw [ef_116, va_up_ne _ _ (fun q => absurd (hC.1.2 51 (by decide) 10 (by decide) q) (by decide))]; exact F_m
                    have F_pays_ : f_116 (rt 11) = .inl (K 0, 40, .inl g_pays) := by rw [ef_116, va_up_ne _ _ (fun q => absurd (hC.1.2 11 (by decide) 10 (by decide) q) (by decide))]; exact F_pays
                    have F_must_ : f_116 (rt 12) = .inl (K 0, 40, .inl g_must) := by rw [ef_116, va_up_ne _ _ (fun q => absurd (hC.1.2 12 (by decide) 10 (by decide) q) (by decide))]; exact F_must
                    have F_never_ : f_116 (rt 13) = .inl (K 0, 40, .inl g_never) := by rw [ef_116, va_up_ne _ _ (fun q => absurd (hC.1.2 13 (by decide) 10 (by decide) q) (by decide))]; exact F_never
                    have F_bid_ : f_116 (rt 14) = .inl (K 0, 40, .inl g_bid) := by rw [ef_116, va_up_ne _ _ (fun q => absurd (hC.1.2 14 (by decide) 10 (by decide) q) (by decide))]; exact F_bid
                    have F_cap_ : f_116 (rt 17) = .inl (K 0, 40, .inl g_cap) := by rw [ef_116, va_up_ne _ _ (fun q => absurd (hC.1.2 17 (by decide) 10 (by decide) q) (by decide))]; exact F_cap
                    have F_span_ : f_116 (rt 18) = .inl (K 0, 40, .inl g_span) := by rw [ef_116, va_up_ne _ _ (fun q => absurd (hC.1.2 18 (by decide) 10 (by decide) q) (by decide))]; exact F_span
                    have F_throttle_ : f_116 (rt 19) = .inl (K 0, 40, .inl g_throttle) := by rw [ef_116, va_up_ne _ _ (fun q => absurd (hC.1.2 19 (by decide) 10 (by decide) q) (by decide))]; exact F_throttle
                    have F_promised_ : f_116 (rt 22) = .inl (K 0, 40, .inl g_promised) := by rw [ef_116, va_up_ne _ _ (fun q => absurd (hC.1.2 22 (by decide) 10 (by decide) q) (by decide))]; exact F_promised
                    have F_m := F_m_
                    have F_pays := F_pays_
                    have F_must := F_must_
                    have F_never := F_never_
                    have F_bid := F_bid_
                    have F_cap := F_cap_
                    have F_span := F_span_
                    have F_throttle := F_throttle_
                    have F_promised := F_promised_
                    have F_sort : f_116 (rt 10) = .inl (K 0, 40, .inl g_115) := by rw [ef_116, va_up_self]
                    have hC : mC rt L f_116 fm := ⟨hC.1, F_m, hC.2.2.1, hC.2.2.2⟩
                    refine lv_aload_n hx hb dX6_campaign_130 rfl (lv_at hl 3 rfl) ?_
                    refine g_get (ci := 6) (v := .ref (rt 11)) (C := RX6) (T := TX6) (N := 51) hx hb hts uB6 hown hK hP (hC.1.1 51 (by decide)) F_m rfl 11 (by decide) wm_1 (hC.2.2.2 11 (by decide)) dX6_campaign_131 ?_
                    refine lv_iload hx hb dX6_campaign_134 (lv_at hl 0 rfl) ?_
                    refine lv_iload_n hx hb dX6_campaign_136 rfl (lv_at hl 4 rfl) ?_
                    refine lv_bipush (v := 10) hx hb dX6_campaign_137 (by decide) ?_
                    refine lv_irem hx hb dX6_campaign_139 (by decide) ?_
                    refine lv_topi (fun x_117 ex_117 => ?_)
                    refine g_iast hx hb hK hP hD hS (hC.1.1 11 (by decide)) F_pays (vp_in_nI (by omega) (by decide)) dX6_campaign_140 (fun H locs hP hD hS => ?_)
                    obtain ⟨g_118, eg_118⟩ : ∃ z9, z9 = upd g_pays (Int32.toNatClampNeg (nI nc)) x_117 := ⟨_, rfl⟩
                    rw [← eg_118] at hP hD
                    obtain ⟨f_119, ef_119⟩ : ∃ z9, z9 = va_up f_116 (rt 11) (.inl (K 0, 40, .inl g_118)) := ⟨_, rfl⟩
                    have hP : va_P (dC, dI) vwCl (va_pl L f_119) H := by rw [ef_119]; exact hP
                    have hD : va_D A (va_pl L f_119) := by rw [ef_119]; exact hD
                    have F_m_ : f_119 (rt 51) = .inr (6, fm) := by rw [ef_119, va_up_ne _ _ (fun q => absurd (hC.1.2 51 (by decide) 11 (by decide) q) (by decide))]; exact F_m
                    have F_sort_ : f_119 (rt 10) = .inl (K 0, 40, .inl g_115) := by rw [ef_119, va_up_ne _ _ (fun q => absurd (hC.1.2 10 (by decide) 11 (by decide) q) (by decide))]; exact F_sort
                    have F_must_ : f_119 (rt 12) = .inl (K 0, 40, .inl g_must) := by rw [ef_119, va_up_ne _ _ (fun q => absurd (hC.1.2 12 (by decide) 11 (by decide) q) (by decide))]; exact F_must
                    have F_never_ : f_119 (rt 13) = .inl (K 0, 40, .inl g_never) := by rw [ef_119, va_up_ne _ _ (fun q => absurd (hC.1.2 13 (by decide) 11 (by decide) q) (by decide))]; exact F_never
                    have F_bid_ : f_119 (rt 14) = .inl (K 0, 40, .inl g_bid) := by rw [ef_119, va_up_ne _ _ (fun q => absurd (hC.1.2 14 (by decide) 11 (by decide) q) (by decide))]; exact F_bid
                    have F_cap_ : f_119 (rt 17) = .inl (K 0, 40, .inl g_cap) := by rw [ef_119, va_up_ne _ _ (fun q => absurd (hC.1.2 17 (by decide) 11 (by decide) q) (by decide))]; exact F_cap
                    have F_span_ : f_119 (rt 18) = .inl (K 0, 40, .inl g_span) := by rw [ef_119, va_up_ne _ _ (fun q => absurd (hC.1.2 18 (by decide) 11 (by decide) q) (by decide))]; exact F_span
                    have F_throttle_ : f_119 (rt 19) = .inl (K 0, 40, .inl g_throttle) := by rw [ef_119, va_up_ne _ _ (fun q => absurd (hC.1.2 19 (by decide) 11 (by decide) q) (by decide))]; exact F_throttle
                    have F_promised_ : f_119 (rt 22) = .inl (K 0, 40, .inl g_promised) := by rw [ef_119, va_up_ne _ _ (fun q => absurd (hC.1.2 22 (by decide) 11 (by decide) q) (by decide))]; exact F_promised
                    have F_m := F_m_
                    have F_sort := F_sort_
                    have F_must := F_must_
                    have F_never := F_never_
                    have F_bid := F_bid_
                    have F_cap := F_cap_
                    have F_span := F_span_
                    have F_throttle := F_throttle_
                    have F_promised := F_promised_
                    have F_pays : f_119 (rt 11) = .inl (K 0, 40, .inl g_118) := by rw [ef_119, va_up_self]
                    have hC : mC rt L f_119 fm := ⟨hC.1, F_m, hC.2.2.1, hC.2.2.2⟩
                    refine lv_aload_n hx hb dX6_campaign_141 rfl (lv_at hl 3 rfl) ?_
                    refine g_get (ci := 6) (v := .ref (rt 12)) (C := RX6) (T := TX6) (N := 51) hx hb hts uB6 hown hK hP (hC.1.1 51 (by decide)) F_m rfl 12 (by decide) wm_31 (hC.2.2.2 12 (by decide)) dX6_campaign_142 ?_
                    refine lv_iload hx hb dX6_campaign_145 (lv_at hl 0 rfl) ?_
                    refine lv_iload_n hx hb dX6_campaign_147 rfl (lv_at hl 5 rfl) ?_
                    refine lv_sipush (v := 4096) hx hb dX6_campaign_148 (by decide) ?_
                    refine lv_idiv hx hb dX6_campaign_151 (by decide) ?_
                    refine lv_topi (fun x_120 ex_120 => ?_)
                    refine g_iast hx hb hK hP hD hS (hC.1.1 12 (by decide)) F_must (vp_in_nI (by omega) (by decide)) dX6_campaign_152 (fun H locs hP hD hS => ?_)
                    obtain ⟨g_121, eg_121⟩ : ∃ z9, z9 = upd g_must (Int32.toNatClampNeg (nI nc)) x_120 := ⟨_, rfl⟩
                    rw [← eg_121] at hP hD
                    obtain ⟨f_122, ef_122⟩ : ∃ z9, z9 = va_up f_119 (rt 12) (.inl (K 0, 40, .inl g_121)) := ⟨_, rfl⟩
                    have hP : va_P (dC, dI) vwCl (va_pl L f_122) H := by rw [ef_122]; exact hP
                    have hD : va_D A (va_pl L f_122) := by rw [ef_122]; exact hD
                    have F_m_ : f_122 (rt 51) = .inr (6, fm) := by rw [ef_122, va_up_ne _ _ (fun q => absurd (hC.1.2 51 (by decide) 12 (by decide) q) (by decide))]; exact F_m
                    have F_sort_ : f_122 (rt 10) = .inl (K 0, 40, .inl g_115) := by rw [ef_122, va_up_ne _ _ (fun q => absurd (hC.1.2 10 (by decide) 12 (by decide) q) (by decide))]; exact F_sort
                    have F_pays_ : f_122 (rt 11) = .inl (K 0, 40, .inl g_118) := by rw [ef_122, va_up_ne _ _ (fun q => absurd (hC.1.2 11 (by decide) 12 (by decide) q) (by decide))]; exact F_pays
                    have F_never_ : f_122 (rt 13) = .inl (K 0, 40, .inl g_never) := by rw [ef_122, va_up_ne _ _ (fun q => absurd (hC.1.2 13 (by decide) 12 (by decide) q) (by decide))]; exact F_never
                    have F_bid_ : f_122 (rt 14) = .inl (K 0, 40, .inl g_bid) := by rw [ef_122, va_up_ne _ _ (fun q => absurd (hC.1.2 14 (by decide) 12 (by decide) q) (by decide))]; exact F_bid
                    have F_cap_ : f_122 (rt 17) = .inl (K 0, 40, .inl g_cap) := by rw [ef_122, va_up_ne _ _ (fun q => absurd (hC.1.2 17 (by decide) 12 (by decide) q) (by decide))]; exact F_cap
                    have F_span_ : f_122 (rt 18) = .inl (K 0, 40, .inl g_span) := by rw [ef_122, va_up_ne _ _ (fun q => absurd (hC.1.2 18 (by decide) 12 (by decide) q) (by decide))]; exact F_span
                    have F_throttle_ : f_122 (rt 19) = .inl (K 0, 40, .inl g_throttle) := by rw [ef_122, va_up_ne _ _ (fun q => absurd (hC.1.2 19 (by decide) 12 (by decide) q) (by decide))]; exact F_throttle
                    have F_promised_ : f_122 (rt 22) = .inl (K 0, 40, .inl g_promised) := by rw [ef_122, va_up_ne _ _ (fun q => absurd (hC.1.2 22 (by decide) 12 (by decide) q) (by decide))]; exact F_promised
                    have F_m := F_m_
                    have F_sort := F_sort_
                    have F_pays := F_pays_
                    have F_never := F_never_
                    have F_bid := F_bid_
                    have F_cap := F_cap_
                    have F_span := F_span_
                    have F_throttle := F_throttle_
                    have F_promised := F_promised_
                    have F_must : f_122 (rt 12) = .inl (K 0, 40, .inl g_121) := by rw [ef_122, va_up_self]
                    have hC : mC rt L f_122 fm := ⟨hC.1, F_m, hC.2.2.1, hC.2.2.2⟩
                    refine lv_aload_n hx hb dX6_campaign_153 rfl (lv_at hl 3 rfl) ?_
                    refine g_get (ci := 6) (v := .ref (rt 13)) (C := RX6) (T := TX6) (N := 51) hx hb hts uB6 hown hK hP (hC.1.1 51 (by decide)) F_m rfl 13 (by decide) wm_32 (hC.2.2.2 13 (by decide)) dX6_campaign_154 ?_
                    refine lv_iload hx hb dX6_campaign_157 (lv_at hl 0 rfl) ?_
                    refine lv_iload_n hx hb dX6_campaign_159 rfl (lv_at hl 5 rfl) ?_
                    refine lv_sipush (v := 4096) hx hb dX6_campaign_160 (by decide) ?_
                    refine lv_irem hx hb dX6_campaign_163 (by decide) ?_
                    refine lv_topi (fun x_123 ex_123 => ?_)
                    refine g_iast hx hb hK hP hD hS (hC.1.1 13 (by decide)) F_never (vp_in_nI (by omega) (by decide)) dX6_campaign_164 (fun H locs hP hD hS => ?_)
                    obtain ⟨g_124, eg_124⟩ : ∃ z9, z9 = upd g_never (Int32.toNatClampNeg (nI nc)) x_123 := ⟨_, rfl⟩
                    rw [← eg_124] at hP hD
                    obtain ⟨f_125, ef_125⟩ : ∃ z9, z9 = va_up f_122 (rt 13) (.inl (K 0, 40, .inl g_124)) := ⟨_, rfl⟩
                    have hP : va_P (dC, dI) vwCl (va_pl L f_125) H := by rw [ef_125]; exact hP
                    have hD : va_D A (va_pl L f_125) := by rw [ef_125]; exact hD
                    have F_m_ : f_125 (rt 51) = .inr (6, fm) := by rw [ef_125, va_up_ne _ _ (fun q => absurd (hC.1.2 51 (by decide) 13 (by decide) q) (by decide))]; exact F_m
                    have F_sort_ : f_125 (rt 10) = .inl (K 0, 40, .inl g_115) := by rw [ef_125, va_up_ne _ _ (fun q => absurd (hC.1.2 10 (by decide) 13 (by decide) q) (by decide))]; exact F_sort
                    have F_pays_ : f_125 (rt 11) = .inl (K 0, 40, .inl g_118) := by rw [ef_125, va_up_ne _ _ (fun q => absurd (hC.1.2 11 (by decide) 13 (by decide) q) (by decide))]; exact F_pays
                    have F_must_ : f_125 (rt 12) = .inl (K 0, 40, .inl g_121) := by rw [ef_125, va_up_ne _ _ (fun q => absurd (hC.1.2 12 (by decide) 13 (by decide) q) (by decide))]; exact F_must
                    have F_bid_ : f_125 (rt 14) = .inl (K 0, 40, .inl g_bid) := by rw [ef_125, va_up_ne _ _ (fun q => absurd (hC.1.2 14 (by decide) 13 (by decide) q) (by decide))]; exact F_bid
                    have F_cap_ : f_125 (rt 17) = .inl (K 0, 40, .inl g_cap) := by rw [ef_125, va_up_ne _ _ (fun q => absurd (hC.1.2 17 (by decide) 13 (by decide) q) (by decide))]; exact F_cap
                    have F_span_ : f_125 (rt 18) = .inl (K 0, 40, .inl g_span) := by rw [ef_125, va_up_ne _ _ (fun q => absurd (hC.1.2 18 (by decide) 13 (by decide) q) (by decide))]; exact F_span
                    have F_throttle_ : f_125 (rt 19) = .inl (K 0, 40, .inl g_throttle) := by rw [ef_125, va_up_ne _ _ (fun q => absurd (hC.1.2 19 (by decide) 13 (by decide) q) (by decide))]; exact F_throttle
                    have F_promised_ : f_125 (rt 22) = .inl (K 0, 40, .inl g_promised) := by rw [ef_125, va_up_ne _ _ (fun q => absurd (hC.1.2 22 (by decide) 13 (by decide) q) (by decide))]; exact F_promised
                    have F_m := F_m_
                    have F_sort := F_sort_
                    have F_pays := F_pays_
                    have F_must := F_must_
                    have F_bid := F_bid_
                    have F_cap := F_cap_
                    have F_span := F_span_
                    have F_throttle := F_throttle_
                    have F_promised := F_promised_
                    have F_never : f_125 (rt 13) = .inl (K 0, 40, .inl g_124) := by rw [ef_125, va_up_self]
                    have hC : mC rt L f_125 fm := ⟨hC.1, F_m, hC.2.2.1, hC.2.2.2⟩
                    refine lv_aload_n hx hb dX6_campaign_165 rfl (lv_at hl 3 rfl) ?_
                    refine g_get (ci := 6) (v := .ref (rt 14)) (C := RX6) (T := TX6) (N := 51) hx hb hts uB6 hown hK hP (hC.1.1 51 (by decide)) F_m rfl 14 (by decide) wm_43 (hC.2.2.2 14 (by decide)) dX6_campaign_166 ?_
                    refine lv_iload hx hb dX6_campaign_169 (lv_at hl 0 rfl) ?_
                    refine lv_iload_n hx hb dX6_campaign_171 rfl (lv_at hl 6 rfl) ?_
                    refine g_iast hx hb hK hP hD hS (hC.1.1 14 (by decide)) F_bid (vp_in_nI (by omega) (by decide)) dX6_campaign_172 (fun H locs hP hD hS => ?_)
                    obtain ⟨g_126, eg_126⟩ : ∃ z9, z9 = upd g_bid (Int32.toNatClampNeg (nI nc)) z := ⟨_, rfl⟩
                    rw [← eg_126] at hP hD
                    obtain ⟨f_127, ef_127⟩ : ∃ z9, z9 = va_up f_125 (rt 14) (.inl (K 0, 40, .inl g_126)) := ⟨_, rfl⟩
                    have hP : va_P (dC, dI) vwCl (va_pl L f_127) H := by rw [ef_127]; exact hP
                    have hD : va_D A (va_pl L f_127) := by rw [ef_127]; exact hD
                    have F_m_ : f_127 (rt 51) = .inr (6, fm) := by rw [ef_127, va_up_ne _ _ (fun q => absurd (hC.1.2 51 (by decide) 14 (by decide) q) (by decide))]; exact F_m
                    have F_sort_ : f_127 (rt 10) = .inl (K 0, 40, .inl g_115) := by rw [ef_127, va_up_ne _ _ (fun q => absurd (hC.1.2 10 (by decide) 14 (by decide) q) (by decide))]; exact F_sort
                    have F_pays_ : f_127 (rt 11) = .inl (K 0, 40, .inl g_118) := by rw [ef_127, va_up_ne _ _ (fun q => absurd (hC.1.2 11 (by decide) 14 (by decide) q) (by decide))]; exact F_pays
                    have F_must_ : f_127 (rt 12) = .inl (K 0, 40, .inl g_121) := by rw [ef_127, va_up_ne _ _ (fun q => absurd (hC.1.2 12 (by decide) 14 (by decide) q) (by decide))]; exact F_must
                    have F_never_ : f_127 (rt 13) = .inl (K 0, 40, .inl g_124) := by rw [ef_127, va_up_ne _ _ (fun q => absurd (hC.1.2 13 (by decide) 14 (by decide) q) (by decide))]; exact F_never
                    have F_cap_ : f_127 (rt 17) = .inl (K 0, 40, .inl g_cap) := by rw [ef_127, va_up_ne _ _ (fun q => absurd (hC.1.2 17 (by decide) 14 (by decide) q) (by decide))]; exact F_cap
                    have F_span_ : f_127 (rt 18) = .inl (K 0, 40, .inl g_span) := by rw [ef_127, va_up_ne _ _ (fun q => absurd (hC.1.2 18 (by decide) 14 (by decide) q) (by decide))]; exact F_span
                    have F_throttle_ : f_127 (rt 19) = .inl (K 0, 40, .inl g_throttle) := by rw [ef_127, va_up_ne _ _ (fun q => absurd (hC.1.2 19 (by decide) 14 (by decide) q) (by decide))]; exact F_throttle
                    have F_promised_ : f_127 (rt 22) = .inl (K 0, 40, .inl g_promised) := by rw [ef_127, va_up_ne _ _ (fun q => absurd (hC.1.2 22 (by decide) 14 (by decide) q) (by decide))]; exact F_promised
                    have F_m := F_m_
                    have F_sort := F_sort_
                    have F_pays := F_pays_
                    have F_must := F_must_
                    have F_never := F_never_
                    have F_cap := F_cap_
                    have F_span := F_span_
                    have F_throttle := F_throttle_
                    have F_promised := F_promised_
                    have F_bid : f_127 (rt 14) = .inl (K 0, 40, .inl g_126) := by rw [ef_127, va_up_self]
                    have hC : mC rt L f_127 fm := ⟨hC.1, F_m, hC.2.2.1, hC.2.2.2⟩
                    refine lv_aload_n hx hb dX6_campaign_173 rfl (lv_at hl 3 rfl) ?_
                    refine g_get (ci := 6) (v := .ref (rt 17)) (C := RX6) (T := TX6) (N := 51) hx hb hts uB6 hown hK hP (hC.1.1 51 (by decide)) F_m rfl 17 (by decide) wm_33 (hC.2.2.2 17 (by decide)) dX6_campaign_174 ?_
                    refine lv_iload hx hb dX6_campaign_177 (lv_at hl 0 rfl) ?_
                    refine lv_bipush (v := 9) hx hb dX6_campaign_179 (by decide) ?_
                    refine g_iast hx hb hK hP hD hS (hC.1.1 17 (by decide)) F_cap (vp_in_nI (by omega) (by decide)) dX6_campaign_181 (fun H locs hP hD hS => ?_)
                    obtain ⟨g_128, eg_128⟩ : ∃ z9, z9 = upd g_cap (Int32.toNatClampNeg (nI nc)) 9 := ⟨_, rfl⟩
                    rw [← eg_128] at hP hD
                    obtain ⟨f_129, ef_129⟩ : ∃ z9, z9 = va_up f_127 (rt 17) (.inl (K 0, 40, .inl g_128)) := ⟨_, rfl⟩
                    have hP : va_P (dC, dI) vwCl (va_pl L f_129) H := by rw [ef_129]; exact hP
                    have hD : va_D A (va_pl L f_129) := by rw [ef_129]; exact hD
                    have F_m_ : f_129 (rt 51) = .inr (6, fm) := by rw [ef_129, va_up_ne _ _ (fun q => absurd (hC.1.2 51 (by decide) 17 (by decide) q) (by decide))]; exact F_m
                    have F_sort_ : f_129 (rt 10) = .inl (K 0, 40, .inl g_115) := by rw [ef_129, va_up_ne _ _ (fun q => absurd (hC.1.2 10 (by decide) 17 (by decide) q) (by decide))]; exact F_sort
                    have F_pays_ : f_129 (rt 11) = .inl (K 0, 40, .inl g_118) := by rw [ef_129, va_up_ne _ _ (fun q => absurd (hC.1.2 11 (by decide) 17 (by decide) q) (by decide))]; exact F_pays
                    have F_must_ : f_129 (rt 12) = .inl (K 0, 40, .inl g_121) := by rw [ef_129, va_up_ne _ _ (fun q => absurd (hC.1.2 12 (by decide) 17 (by decide) q) (by decide))]; exact F_must
                    have F_never_ : f_129 (rt 13) = .inl (K 0, 40, .inl g_124) := by rw [ef_129, va_up_ne _ _ (fun q => absurd (hC.1.2 13 (by decide) 17 (by decide) q) (by decide))]; exact F_never
                    have F_bid_ : f_129 (rt 14) = .inl (K 0, 40, .inl g_126) := by rw [ef_129, va_up_ne _ _ (fun q => absurd (hC.1.2 14 (by decide) 17 (by decide) q) (by decide))]; exact F_bid
                    have F_span_ : f_129 (rt 18) = .inl (K 0, 40, .inl g_span) := by rw [ef_129, va_up_ne _ _ (fun q => absurd (hC.1.2 18 (by decide) 17 (by decide) q) (by decide))]; exact F_span
                    have F_throttle_ : f_129 (rt 19) = .inl (K 0, 40, .inl g_throttle) := by rw [ef_129, va_up_ne _ _ (fun q => absurd (hC.1.2 19 (by decide) 17 (by decide) q) (by decide))]; exact F_throttle
                    have F_promised_ : f_129 (rt 22) = .inl (K 0, 40, .inl g_promised) := by rw [ef_129, va_up_ne _ _ (fun q => absurd (hC.1.2 22 (by decide) 17 (by decide) q) (by decide))]; exact F_promised
                    have F_m := F_m_
                    have F_sort := F_sort_
                    have F_pays := F_pays_
                    have F_must := F_must_
                    have F_never := F_never_
                    have F_bid := F_bid_
                    have F_span := F_span_
                    have F_throttle := F_throttle_
                    have F_promised := F_promised_
                    have F_cap : f_129 (rt 17) = .inl (K 0, 40, .inl g_128) := by rw [ef_129, va_up_self]
                    have hC : mC rt L f_129 fm := ⟨hC.1, F_m, hC.2.2.1, hC.2.2.2⟩
                    refine lv_aload_n hx hb dX6_campaign_182 rfl (lv_at hl 3 rfl) ?_
                    refine g_get (ci := 6) (v := .ref (rt 18)) (C := RX6) (T := TX6) (N := 51) hx hb hts uB6 hown hK hP (hC.1.1 51 (by decide)) F_m rfl 18 (by decide) wm_51 (hC.2.2.2 18 (by decide)) dX6_campaign_183 ?_
                    refine lv_iload hx hb dX6_campaign_186 (lv_at hl 0 rfl) ?_
                    refine lv_iconst (v := 1) hx hb dX6_campaign_188 (by decide) ?_
                    refine g_iast hx hb hK hP hD hS (hC.1.1 18 (by decide)) F_span (vp_in_nI (by omega) (by decide)) dX6_campaign_189 (fun H locs hP hD hS => ?_)
                    obtain ⟨g_130, eg_130⟩ : ∃ z9, z9 = upd g_span (Int32.toNatClampNeg (nI nc)) 1 := ⟨_, rfl⟩
                    rw [← eg_130] at hP hD
                    obtain ⟨f_131, ef_131⟩ : ∃ z9, z9 = va_up f_129 (rt 18) (.inl (K 0, 40, .inl g_130)) := ⟨_, rfl⟩
                    have hP : va_P (dC, dI) vwCl (va_pl L f_131) H := by rw [ef_131]; exact hP
                    have hD : va_D A (va_pl L f_131) := by rw [ef_131]; exact hD
                    have F_m_ : f_131 (rt 51) = .inr (6, fm) := by rw [ef_131, va_up_ne _ _ (fun q => absurd (hC.1.2 51 (by decide) 18 (by decide) q) (by decide))]; exact F_m
                    have F_sort_ : f_131 (rt 10) = .inl (K 0, 40, .inl g_115) := by rw [ef_131, va_up_ne _ _ (fun q => absurd (hC.1.2 10 (by decide) 18 (by decide) q) (by decide))]; exact F_sort
                    have F_pays_ : f_131 (rt 11) = .inl (K 0, 40, .inl g_118) := by rw [ef_131, va_up_ne _ _ (fun q => absurd (hC.1.2 11 (by decide) 18 (by decide) q) (by decide))]; exact F_pays
                    have F_must_ : f_131 (rt 12) = .inl (K 0, 40, .inl g_121) := by rw [ef_131, va_up_ne _ _ (fun q => absurd (hC.1.2 12 (by decide) 18 (by decide) q) (by decide))]; exact F_must
                    have F_never_ : f_131 (rt 13) = .inl (K 0, 40, .inl g_124) := by rw [ef_131, va_up_ne _ _ (fun q => absurd (hC.1.2 13 (by decide) 18 (by decide) q) (by decide))]; exact F_never
                    have F_bid_ : f_131 (rt 14) = .inl (K 0, 40, .inl g_126) := by rw [ef_131, va_up_ne _ _ (fun q => absurd (hC.1.2 14 (by decide) 18 (by decide) q) (by decide))]; exact F_bid
                    have F_cap_ : f_131 (rt 17) = .inl (K 0, 40, .inl g_128) := by rw [ef_131, va_up_ne _ _ (fun q => absurd (hC.1.2 17 (by decide) 18 (by decide) q) (by decide))]; exact F_cap
                    have F_throttle_ : f_131 (rt 19) = .inl (K 0, 40, .inl g_throttle) := by rw [ef_131, va_up_ne _ _ (fun q => absurd (hC.1.2 19 (by decide) 18 (by decide) q) (by decide))]; exact F_throttle
                    have F_promised_ : f_131 (rt 22) = .inl (K 0, 40, .inl g_promised) := by rw [ef_131, va_up_ne _ _ (fun q => absurd (hC.1.2 22 (by decide) 18 (by decide) q) (by decide))]; exact F_promised
                    have F_m := F_m_
                    have F_sort := F_sort_
                    have F_pays := F_pays_
                    have F_must := F_must_
                    have F_never := F_never_
                    have F_bid := F_bid_
                    have F_cap := F_cap_
                    have F_throttle := F_throttle_
                    have F_promised := F_promised_
                    have F_span : f_131 (rt 18) = .inl (K 0, 40, .inl g_130) := by rw [ef_131, va_up_self]
                    have hC : mC rt L f_131 fm := ⟨hC.1, F_m, hC.2.2.1, hC.2.2.2⟩
                    refine lv_aload_n hx hb dX6_campaign_190 rfl (lv_at hl 3 rfl) ?_
                    refine g_get (ci := 6) (v := .ref (rt 19)) (C := RX6) (T := TX6) (N := 51) hx hb hts uB6 hown hK hP (hC.1.1 51 (by decide)) F_m rfl 19 (by decide) wm_38 (hC.2.2.2 19 (by decide)) dX6_campaign_191 ?_
                    refine lv_iload hx hb dX6_campaign_194 (lv_at hl 0 rfl) ?_
                    refine lv_sipush (v := 1000) hx hb dX6_campaign_196 (by decide) ?_
                    refine g_iast hx hb hK hP hD hS (hC.1.1 19 (by decide)) F_throttle (vp_in_nI (by omega) (by decide)) dX6_campaign_199 (fun H locs hP hD hS => ?_)
                    obtain ⟨g_132, eg_132⟩ : ∃ z9, z9 = upd g_throttle (Int32.toNatClampNeg (nI nc)) 1000 := ⟨_, rfl⟩
                    rw [← eg_132] at hP hD
                    obtain ⟨f_133, ef_133⟩ : ∃ z9, z9 = va_up f_131 (rt 19) (.inl (K 0, 40, .inl g_132)) := ⟨_, rfl⟩
                    have hP : va_P (dC, dI) vwCl (va_pl L f_133) H := by rw [ef_133]; exact hP
                    have hD : va_D A (va_pl L f_133) := by rw [ef_133]; exact hD
                    have F_m_ : f_133 (rt 51) = .inr (6, fm) := by rw [ef_133, va_up_ne _ _ (fun q => absurd (hC.1.2 51 (by decide) 19 (by decide) q) (by decide))]; exact F_m
                    have F_sort_ : f_133 (rt 10) = .inl (K 0, 40, .inl g_115) := by rw [ef_133, va_up_ne _ _ (fun q => absurd (hC.1.2 10 (by decide) 19 (by decide) q) (by decide))]; exact F_sort
                    have F_pays_ : f_133 (rt 11) = .inl (K 0, 40, .inl g_118) := by rw [ef_133, va_up_ne _ _ (fun q => absurd (hC.1.2 11 (by decide) 19 (by decide) q) (by decide))]; exact F_pays
                    have F_must_ : f_133 (rt 12) = .inl (K 0, 40, .inl g_121) := by rw [ef_133, va_up_ne _ _ (fun q => absurd (hC.1.2 12 (by decide) 19 (by decide) q) (by decide))]; exact F_must
                    have F_never_ : f_133 (rt 13) = .inl (K 0, 40, .inl g_124) := by rw [ef_133, va_up_ne _ _ (fun q => absurd (hC.1.2 13 (by decide) 19 (by decide) q) (by decide))]; exact F_never
                    have F_bid_ : f_133 (rt 14) = .inl (K 0, 40, .inl g_126) := by rw [ef_133, va_up_ne _ _ (fun q => absurd (hC.1.2 14 (by decide) 19 (by decide) q) (by decide))]; exact F_bid
                    have F_cap_ : f_133 (rt 17) = .inl (K 0, 40, .inl g_128) := by rw [ef_133, va_up_ne _ _ (fun q => absurd (hC.1.2 17 (by decide) 19 (by decide) q) (by decide))]; exact F_cap
                    have F_span_ : f_133 (rt 18) = .inl (K 0, 40, .inl g_130) := by rw [ef_133, va_up_ne _ _ (fun q => absurd (hC.1.2 18 (by decide) 19 (by decide) q) (by decide))]; exact F_span
                    have F_promised_ : f_133 (rt 22) = .inl (K 0, 40, .inl g_promised) := by rw [ef_133, va_up_ne _ _ (fun q => absurd (hC.1.2 22 (by decide) 19 (by decide) q) (by decide))]; exact F_promised
                    have F_m := F_m_
                    have F_sort := F_sort_
                    have F_pays := F_pays_
                    have F_must := F_must_
                    have F_never := F_never_
                    have F_bid := F_bid_
                    have F_cap := F_cap_
                    have F_span := F_span_
                    have F_promised := F_promised_
                    have F_throttle : f_133 (rt 19) = .inl (K 0, 40, .inl g_132) := by rw [ef_133, va_up_self]
                    have hC : mC rt L f_133 fm := ⟨hC.1, F_m, hC.2.2.1, hC.2.2.2⟩
                    refine lv_aload_n hx hb dX6_campaign_200 rfl (lv_at hl 3 rfl) ?_
                    refine g_get (ci := 6) (v := .ref (rt 22)) (C := RX6) (T := TX6) (N := 51) hx hb hts uB6 hown hK hP (hC.1.1 51 (by decide)) F_m rfl 22 (by decide) wm_22 (hC.2.2.2 22 (by decide)) dX6_campaign_201 ?_
                    refine lv_iload hx hb dX6_campaign_204 (lv_at hl 0 rfl) ?_
                    refine lv_iconst (v := 0) hx hb dX6_campaign_206 (by decide) ?_
                    refine g_iast hx hb hK hP hD hS (hC.1.1 22 (by decide)) F_promised (vp_in_nI (by omega) (by decide)) dX6_campaign_207 (fun H locs hP hD hS => ?_)
                    obtain ⟨g_134, eg_134⟩ : ∃ z9, z9 = upd g_promised (Int32.toNatClampNeg (nI nc)) 0 := ⟨_, rfl⟩
                    rw [← eg_134] at hP hD
                    obtain ⟨f_135, ef_135⟩ : ∃ z9, z9 = va_up f_133 (rt 22) (.inl (K 0, 40, .inl g_134)) := ⟨_, rfl⟩
                    have hP : va_P (dC, dI) vwCl (va_pl L f_135) H := by rw [ef_135]; exact hP
                    have hD : va_D A (va_pl L f_135) := by rw [ef_135]; exact hD
                    have F_m_ : f_135 (rt 51) = .inr (6, fm) := by rw [ef_135, va_up_ne _ _ (fun q => absurd (hC.1.2 51 (by decide) 22 (by decide) q) (by decide))]; exact F_m
                    have F_sort_ : f_135 (rt 10) = .inl (K 0, 40, .inl g_115) := by rw [ef_135, va_up_ne _ _ (fun q => absurd (hC.1.2 10 (by decide) 22 (by decide) q) (by decide))]; exact F_sort
                    have F_pays_ : f_135 (rt 11) = .inl (K 0, 40, .inl g_118) := by rw [ef_135, va_up_ne _ _ (fun q => absurd (hC.1.2 11 (by decide) 22 (by decide) q) (by decide))]; exact F_pays
                    have F_must_ : f_135 (rt 12) = .inl (K 0, 40, .inl g_121) := by rw [ef_135, va_up_ne _ _ (fun q => absurd (hC.1.2 12 (by decide) 22 (by decide) q) (by decide))]; exact F_must
                    have F_never_ : f_135 (rt 13) = .inl (K 0, 40, .inl g_124) := by rw [ef_135, va_up_ne _ _ (fun q => absurd (hC.1.2 13 (by decide) 22 (by decide) q) (by decide))]; exact F_never
                    have F_bid_ : f_135 (rt 14) = .inl (K 0, 40, .inl g_126) := by rw [ef_135, va_up_ne _ _ (fun q => absurd (hC.1.2 14 (by decide) 22 (by decide) q) (by decide))]; exact F_bid
                    have F_cap_ : f_135 (rt 17) = .inl (K 0, 40, .inl g_128) := by rw [ef_135, va_up_ne _ _ (fun q => absurd (hC.1.2 17 (by decide) 22 (by decide) q) (by decide))]; exact F_cap
                    have F_span_ : f_135 (rt 18) = .inl (K 0, 40, .inl g_130) := by rw [ef_135, va_up_ne _ _ (fun q => absurd (hC.1.2 18 (by decide) 22 (by decide) q) (by decide))]; exact F_span
                    have F_throttle_ : f_135 (rt 19) = .inl (K 0, 40, .inl g_132) := by rw [ef_135, va_up_ne _ _ (fun q => absurd (hC.1.2 19 (by decide) 22 (by decide) q) (by decide))]; exact F_throttle
                    have F_m := F_m_
                    have F_sort := F_sort_
                    have F_pays := F_pays_
                    have F_must := F_must_
                    have F_never := F_never_
                    have F_bid := F_bid_
                    have F_cap := F_cap_
                    have F_span := F_span_
                    have F_throttle := F_throttle_
                    have F_promised : f_135 (rt 22) = .inl (K 0, 40, .inl g_134) := by rw [ef_135, va_up_self]
                    have hC : mC rt L f_135 fm := ⟨hC.1, F_m, hC.2.2.1, hC.2.2.2⟩
                    refine lv_aload_n hx hb dX6_campaign_208 rfl (lv_at hl 3 rfl) ?_
                    refine lv_dup hx hb dX6_campaign_209 rfl ?_
                    refine g_get (ci := 6) (v := .int (nI nc)) (C := RX6) (T := TX6) (N := 51) hx hb hts uB6 hown hK hP (hC.1.1 51 (by decide)) F_m rfl 9 (by decide) wm_76 I_campaigns dX6_campaign_210 ?_
                    refine lv_iconst (v := 1) hx hb dX6_campaign_213 (by decide) ?_
                    refine lv_iadd hx hb dX6_campaign_214 ?_
                    refine lv_topi (fun x_136 ex_136 => ?_)
                    obtain rfl : x_136 = nI (nc + 1) := ex_136.trans (nI_1 nc)
                    refine g_put (ci := 6) (v := .int (nI (nc + 1))) (ty := .int) (C := RX6) (T := TX6) (N := 51) hx hb hts uB6 tyX6 tyX6_ok nmX6 hown hK hP hD hS (hC.1.1 51 (by decide)) F_m rfl 9 (by decide) wm_76 rfl (by decide +kernel) rfl rfl (by rw [hC.2.2.1]; decide) dX6_campaign_215 (fun H locs hP hD hS => ?_)
                    obtain ⟨fs_137, efs_137⟩ : ∃ z9, z9 = List.set fm 9 (.int (nI (nc + 1))) := ⟨_, rfl⟩
                    rw [← efs_137] at hP hD
                    have hlen_ : fs_137.length = 51 := by rw [efs_137, List.length_set]; exact hC.2.2.1
                    have I_campaigns : fs_137[9]? = some (.int (nI (nc + 1))) := by rw [efs_137]; exact List.getElem?_set_self (by rw [hC.2.2.1]; decide)
                    have hmr_ : ∀ k ∈ mArr, fs_137[k]? = some (.ref (rt k)) := fun k h => by rw [efs_137, List.getElem?_set_ne (fun q => by rw [← q] at h; exact absurd h (by decide))]; exact hC.2.2.2 k h
                    obtain ⟨f_138, ef_138⟩ : ∃ z9, z9 = va_up f_135 (rt 51) (.inr (6, fs_137)) := ⟨_, rfl⟩
                    have hP : va_P (dC, dI) vwCl (va_pl L f_138) H := by rw [ef_138]; exact hP
                    have hD : va_D A (va_pl L f_138) := by rw [ef_138]; exact hD
                    have F_sort_ : f_138 (rt 10) = .inl (K 0, 40, .inl g_115) := by rw [ef_138, va_up_ne _ _ (fun q => absurd (hC.1.2 10 (by decide) 51 (by decide) q) (by decide))]; exact F_sort
                    have F_pays_ : f_138 (rt 11) = .inl (K 0, 40, .inl g_118) := by rw [ef_138, va_up_ne _ _ (fun q => absurd (hC.1.2 11 (by decide) 51 (by decide) q) (by decide))]; exact F_pays
                    have F_must_ : f_138 (rt 12) = .inl (K 0, 40, .inl g_121) := by rw [ef_138, va_up_ne _ _ (fun q => absurd (hC.1.2 12 (by decide) 51 (by decide) q) (by decide))]; exact F_must
                    have F_never_ : f_138 (rt 13) = .inl (K 0, 40, .inl g_124) := by rw [ef_138, va_up_ne _ _ (fun q => absurd (hC.1.2 13 (by decide) 51 (by decide) q) (by decide))]; exact F_never
                    have F_bid_ : f_138 (rt 14) = .inl (K 0, 40, .inl g_126) := by rw [ef_138, va_up_ne _ _ (fun q => absurd (hC.1.2 14 (by decide) 51 (by decide) q) (by decide))]; exact F_bid
                    have F_cap_ : f_138 (rt 17) = .inl (K 0, 40, .inl g_128) := by rw [ef_138, va_up_ne _ _ (fun q => absurd (hC.1.2 17 (by decide) 51 (by decide) q) (by decide))]; exact F_cap
                    have F_span_ : f_138 (rt 18) = .inl (K 0, 40, .inl g_130) := by rw [ef_138, va_up_ne _ _ (fun q => absurd (hC.1.2 18 (by decide) 51 (by decide) q) (by decide))]; exact F_span
                    have F_throttle_ : f_138 (rt 19) = .inl (K 0, 40, .inl g_132) := by rw [ef_138, va_up_ne _ _ (fun q => absurd (hC.1.2 19 (by decide) 51 (by decide) q) (by decide))]; exact F_throttle
                    have F_promised_ : f_138 (rt 22) = .inl (K 0, 40, .inl g_134) := by rw [ef_138, va_up_ne _ _ (fun q => absurd (hC.1.2 22 (by decide) 51 (by decide) q) (by decide))]; exact F_promised
                    have F_sort := F_sort_
                    have F_pays := F_pays_
                    have F_must := F_must_
                    have F_never := F_never_
                    have F_bid := F_bid_
                    have F_cap := F_cap_
                    have F_span := F_span_
                    have F_throttle := F_throttle_
                    have F_promised := F_promised_
                    have F_m : f_138 (rt 51) = .inr (6, fs_137) := by rw [ef_138, va_up_self]
                    have hC : mC rt L f_138 fs_137 := ⟨hC.1, F_m, hlen_, hmr_⟩
                    refine lv_iload hx hb dX6_campaign_218 (lv_at hl 0 rfl) ?_
                    exact W.iret (v := nI nc) hx hb hr (fun t ht hW => ⟨⟨nI nc, f_138, rfl, (Or.inr (Or.inr ⟨(by subst ex_1 ex_5 ex_110 ex_111 ex_112 ex_117 ex_120 ex_123; have h1 := k_cp1 x; have h2 := k_cp2 y; simp only [Int32.lt_iff_toInt_lt, Int32.le_iff_toInt_le, ← Int32.toInt_inj, Int32.reduceToInt] at h1 h2 c_2 g_4 c_6 g_74 g_76 c_77 c_109 c_113; unfold cpOk; simp only [Int32.lt_iff_toInt_lt, Int32.le_iff_toInt_le, ← Int32.toInt_inj, Int32.reduceToInt]; omega), hfl, rfl, by rw [ef_138, efs_137, ef_135, eg_134, ef_133, eg_132, ef_131, eg_130, ef_129, eg_128, ef_127, eg_126, ef_125, eg_124, ef_122, eg_121, ef_119, eg_118, ef_116, eg_115]; subst ex_123 ex_120 ex_117 ex_112 ex_111 ex_110 ex_5 ex_1; rfl⟩)), by show va_P (dC, dI) vwCl (va_pl L f_138) t.heap; rw [ht]; exact hP⟩, hS.F ht⟩) hS.2.2 dX6_campaign_220
                  · skip
                    have hfl : nc = 40 := (nI_eq (by omega) (by decide)).mp c_114
                    refine lv_bipush (v := (-3)) hx hb dX6_campaign_112 (by decide) ?_
                    exact W.iret (v := (-3)) hx hb hr (fun t ht hW => ⟨⟨(-3), f, rfl, (Or.inr (Or.inl ⟨(by subst ex_1 ex_5 ex_110 ex_111 ex_112; have h1 := k_cp1 x; have h2 := k_cp2 y; simp only [Int32.lt_iff_toInt_lt, Int32.le_iff_toInt_le, ← Int32.toInt_inj, Int32.reduceToInt] at h1 h2 c_2 g_4 c_6 g_74 g_76 c_77 c_109 c_113; unfold cpOk; simp only [Int32.lt_iff_toInt_lt, Int32.le_iff_toInt_le, ← Int32.toInt_inj, Int32.reduceToInt]; omega), hfl, rfl, rfl⟩)), by show va_P (dC, dI) vwCl (va_pl L f) t.heap; rw [ht]; exact hP⟩, hS.F ht⟩) hS.2.2 dX6_campaign_114
                · skip
                  refine lv_iconst (v := (-1)) hx hb dX6_campaign_101 (by decide) ?_
                  exact W.iret (v := (-1)) hx hb hr (fun t ht hW => ⟨⟨(-1), f, rfl, (Or.inl ⟨(by subst ex_1 ex_5 ex_110 ex_111 ex_112; have h1 := k_cp1 x; have h2 := k_cp2 y; simp only [Int32.lt_iff_toInt_lt, Int32.le_iff_toInt_le, ← Int32.toInt_inj, Int32.reduceToInt] at h1 h2 c_2 g_4 c_6 g_74 g_76 c_77 c_109 c_113; unfold cpOk; simp only [Int32.lt_iff_toInt_lt, Int32.le_iff_toInt_le, ← Int32.toInt_inj, Int32.reduceToInt]; omega), rfl, rfl⟩), by show va_P (dC, dI) vwCl (va_pl L f) t.heap; rw [ht]; exact hP⟩, hS.F ht⟩) hS.2.2 dX6_campaign_102
