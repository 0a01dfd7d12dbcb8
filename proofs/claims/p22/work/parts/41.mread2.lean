theorem k_beh {P Dd Fr : Nat → Int32} {c : Nat} (h : P c = 0 ∨ ∃ a d : Nat, d ≤ 100 ∧ a < 100 * d + 100 ∧ Dd c = nI d ∧ Fr c = nI a) (hp : ¬ P c = 0) : ¬ (100 * Dd c + 100) - Fr c = 0 := by
  rcases h with h | ⟨a, d, h1, h2, h3, h4⟩
  · exact absurd h hp
  · rw [h3, h4, show (100 : Int32) = nI 100 from rfl, pk_mul, nI_add, pk_sub (by omega)]
    exact nI_ne0 (by omega) (by omega)
theorem k_ap {c : Nat} {y : Int32} (hc : c < 40) (hy : vp_in y 40) : vp_in (40 * nI c + y) 1600 := by
  obtain ⟨q, hq, rfl⟩ := vp_in_of hy (by decide)
  rw [show (40 : Int32) = nI 40 from rfl, pk_mul, nI_add]
  exact vp_in_nI (by omega) (by decide)
theorem k_20 {q : Nat} (h : q ≤ 1000) : ¬ (nI q + 20).toInt64 = 0 := by
  rw [show (20 : Int32) = nI 20 from rfl, nI_add, nI_l (by omega)]
  exact fun e => absurd ((lN_eq (b := 0) (by omega) (by decide)).mp e) (by omega)
theorem k_w1 {b z : Nat} (hb : b ≤ 1000) (hz : z ≤ 127) : (10000 : Int64) * (nI b).toInt64 * (nI z).toInt64 = lN (10000 * b * z) := by
  rw [nI_l (by omega), nI_l (by omega), show (10000 : Int64) = lN 10000 from rfl, lN_mul, lN_mul]
theorem k_w2 {W q r : Nat} (hW : W ≤ 1270000000) (hq : q ≤ 1000) (hr : r ≤ 1000) : lN W * (nI q + 1).toInt64 / (nI r + 20).toInt64 = lN (W * (q + 1) / (r + 20)) := by
  have h1 : W * (q + 1) ≤ 1270000000 * 1001 := Nat.mul_le_mul hW (by omega)
  rw [nI_1, show (20 : Int32) = nI 20 from rfl, nI_add, nI_l (by omega), nI_l (by omega), lN_mul]
  exact pk_lDiv (by omega) (by omega) (by omega)
theorem k_w3 {b z : Nat} (hb : b ≤ 1000) (hz : z ≤ 127) : 10000 * b * z ≤ 1270000000 := by
  have h1 : 10000 * b ≤ 10000000 := by omega
  have := Nat.mul_le_mul h1 hz
  omega
theorem k_w4 {W q r : Nat} (hW : W ≤ 1270000000) (hq : q ≤ 1000) : W * (q + 1) / (r + 20) ≤ 1271270000000 := by
  have h1 : W * (q + 1) ≤ 1270000000 * 1001 := Nat.mul_le_mul hW (by omega)
  exact Nat.le_trans (Nat.div_le_self _ _) (by omega)
set_option maxHeartbeats 4000000 in
set_option maxRecDepth 100000 in
theorem m_isBehind (l : Launch) (dC : Nat → ClassId) (dI : Nat → Nat → Nat) (K : Nat → ClassId) (L : List Nat) (f : Nat → va_E) (rt : Nat → Nat) {fm : List Value} (hC : mC rt L f fm) {g_sort : Nat → Int32} (F_sort : f (rt 10) = .inl (K 0, 40, .inl g_sort)) {g_promised : Nat → Int32} (F_promised : f (rt 22) = .inl (K 0, 40, .inl g_promised)) {g_promiseDay : Nat → Int32} (F_promiseDay : f (rt 23) = .inl (K 0, 40, .inl g_promiseDay)) {g_promiseFrom : Nat → Int32} (F_promiseFrom : f (rt 24) = .inl (K 0, 40, .inl g_promiseFrom)) {g_saleOf : Nat → Int32} (F_saleOf : f (rt 30) = .inl (K 0, 1000, .inl g_saleOf)) {g_state : Nat → Int32} (F_state : f (rt 32) = .inl (K 0, 1000, .inl g_state)) {g_saleTick : Nat → Int32} (F_saleTick : f (rt 26) = .inl (K 0, 1000, .inl g_saleTick)) {ns : Nat} {t : Int32} (I_sales : fm[25]? = some (.int (nI ns))) (I_tick : fm[1]? = some (.int t)) (cn : Nat) (hns : ns ≤ 1000) (hpb : ∀ c, c < 40 → g_promised c = 0 ∨ ∃ a d : Nat, d ≤ 100 ∧ a < 100 * d + 100 ∧ g_promiseDay c = nI d ∧ g_promiseFrom c = nI a) (hc : cn < 40) : gR l yX6_isBehind cX6_isBehind 4 .boolean 1 (dC, dI) K L f [.ref (rt 51), .int (nI cn)] (fun r => r = 0 ∨ r = 1) := by
  refine Met.ofW (cc := cX6_isBehind) (maxL := 4) (ret := some .boolean) (by decide) rfl ?_
  intro p e s m args below meth c s₁ B hml hv
  obtain ⟨rfl, hP, hK⟩ := hv
  have F_m := hC.2.1
  have hx := B.exec
  have hb := B.bytes
  have hr := B.returns
  have hlocks := B.notSynchronized
  have hts0 := atoms_spec (ws := Cond.code yX6_isBehind cX6_isBehind 4 (some .boolean) :: lw_B) B.pre
  have hts : ∀ w ∈ lw_B, w.before _ s = true := fun w h => hts0 w (List.mem_cons_of_mem _ h)
  have hown : s.vm.findClass RX6 = some m.cls := findClass_of_methodNamed B.named
  have hS : va_S (fun _ => False) s.heap s.heap [] := va_S.rf
  have hl := lv_entry ([.ref (rt 51), .int (nI cn)]) (n := 4) (Nat.le_of_ble_eq_true rfl)
  rw [lg_entry_eq]
  generalize (lg_sl ([.ref (rt 51), .int (nI cn)]) ++ List.replicate (4 - (lg_sl ([.ref (rt 51), .int (nI cn)])).length) Slot.unset).toArray = ls at hl ⊢
  have hl : lv_has ls 4 [(0, .ref (rt 51)), (1, .int (nI cn))] := hl
  refine lv_aload_n hx hb dX6_isBehind_0 rfl (lv_at hl 0 rfl) ?_
  refine g_get (ci := 6) (v := .ref (rt 10)) (C := RX6) (T := TX6) (N := 51) hx hb hts uB6 hown hK hP (hC.1.1 51 (by decide)) F_m rfl 10 (by decide) wm_21 (hC.2.2.2 10 (by decide)) dX6_isBehind_1 ?_
  refine lv_iload_n hx hb dX6_isBehind_4 rfl (lv_at hl 1 rfl) ?_
  refine g_iald hx hb hK hP (hC.1.1 10 (by decide)) F_sort (vp_in_nI (by omega) (by decide)) dX6_isBehind_5 ?_
  refine lv_topi (fun x_1 ex_1 => ?_)
  rw [nI_clamp (by omega)] at ex_1
  refine lv_iconst (v := 1) hx hb dX6_isBehind_6 (by decide) ?_
  refine lv_icmp_ne (tgt := 19) hx hb dX6_isBehind_7 (by decide) (fun c_2 => ?_) (fun c_2 => ?_)
  · skip
    refine lv_iconst (v := 0) hx hb dX6_isBehind_19 (by decide) ?_
    exact W.zret (v := 0) hx hb hr rfl (fun t ht hW => ⟨⟨0, (), rfl, Or.inl rfl, trivial⟩, hS.F ht⟩) hS.2.2 dX6_isBehind_20
  · skip
    refine lv_aload_n hx hb dX6_isBehind_10 rfl (lv_at hl 0 rfl) ?_
    refine g_get (ci := 6) (v := .ref (rt 22)) (C := RX6) (T := TX6) (N := 51) hx hb hts uB6 hown hK hP (hC.1.1 51 (by decide)) F_m rfl 22 (by decide) wm_22 (hC.2.2.2 22 (by decide)) dX6_isBehind_11 ?_
    refine lv_iload_n hx hb dX6_isBehind_14 rfl (lv_at hl 1 rfl) ?_
    refine g_iald hx hb hK hP (hC.1.1 22 (by decide)) F_promised (vp_in_nI (by omega) (by decide)) dX6_isBehind_15 ?_
    refine lv_topi (fun x_3 ex_3 => ?_)
    rw [nI_clamp (by omega)] at ex_3
    refine lv_if_ne (tgt := 21) hx hb dX6_isBehind_16 (by decide) (fun c_4 => ?_) (fun c_4 => ?_)
    · skip
      have hpr9 := c_4
      rw [ex_3] at hpr9
      refine lv_aload_n hx hb dX6_isBehind_21 rfl (lv_at hl 0 rfl) ?_
      refine lv_iload_n hx hb dX6_isBehind_22 rfl (lv_at hl 1 rfl) ?_
      refine lv_sipush (v := 10001) hx hb dX6_isBehind_23 (by decide) ?_
      refine gc_R (ci := 6) ⟨hx, hb, hml, hown, hts⟩ (m_showings l dC dI K L f rt hC F_saleOf F_state F_saleTick I_sales (nI cn) 10001 hns) 2 wm_23 wm_24 wm_25 wm_8 wm_26 (by decide +kernel) ⟨Nat.le_of_ble_eq_true rfl, Nat.le_of_ble_eq_true rfl⟩ hK rfl (hC.1.1 51 (by decide)) F_m rfl hl.1 rfl (Nat.le_of_ble_eq_true rfl) dX6_isBehind_26 ⟨Nat.le_of_ble_eq_true rfl, Nat.le_of_ble_eq_true rfl⟩ hS hP (fun r_5 H locs hpr_5 hP hS => ?_)
      refine lv_istore_n (lv' := [(2, .int r_5), (0, .ref (rt 51)), (1, .int (nI cn))]) hx hb dX6_isBehind_29 rfl hl (by decide) rfl (fun ls hl => ?_)
      refine lv_bipush (v := 100) hx hb dX6_isBehind_30 (by decide) ?_
      refine lv_aload_n hx hb dX6_isBehind_32 rfl (lv_at hl 1 rfl) ?_
      refine g_get (ci := 6) (v := .ref (rt 23)) (C := RX6) (T := TX6) (N := 51) hx hb hts uB6 hown hK hP (hC.1.1 51 (by decide)) F_m rfl 23 (by decide) wm_27 (hC.2.2.2 23 (by decide)) dX6_isBehind_33 ?_
      refine lv_iload_n hx hb dX6_isBehind_36 rfl (lv_at hl 2 rfl) ?_
      refine g_iald hx hb hK hP (hC.1.1 23 (by decide)) F_promiseDay (vp_in_nI (by omega) (by decide)) dX6_isBehind_37 ?_
      refine lv_topi (fun x_6 ex_6 => ?_)
      rw [nI_clamp (by omega)] at ex_6
      refine lv_imul hx hb dX6_isBehind_38 ?_
      refine lv_topi (fun x_7 ex_7 => ?_)
      refine lv_bipush (v := 100) hx hb dX6_isBehind_39 (by decide) ?_
      refine lv_iadd hx hb dX6_isBehind_41 ?_
      refine lv_topi (fun x_8 ex_8 => ?_)
      refine lv_istore_n (lv' := [(3, .int x_8), (2, .int r_5), (0, .ref (rt 51)), (1, .int (nI cn))]) hx hb dX6_isBehind_42 rfl hl (by decide) rfl (fun ls hl => ?_)
      refine lv_aload_n hx hb dX6_isBehind_43 rfl (lv_at hl 2 rfl) ?_
      refine g_get (ci := 6) (v := .int t) (C := RX6) (T := TX6) (N := 51) hx hb hts uB6 hown hK hP (hC.1.1 51 (by decide)) F_m rfl 1 (by decide) wm_13 I_tick dX6_isBehind_44 ?_
      refine lv_iload_n hx hb dX6_isBehind_47 rfl (lv_at hl 0 rfl) ?_
      refine lv_icmp_lt (tgt := 67) hx hb dX6_isBehind_48 (by decide) (fun c_9 => ?_) (fun c_9 => ?_)
      · skip
        refine lv_iload_n hx hb dX6_isBehind_67 rfl (lv_at hl 1 rfl) ?_
        refine lv_aload_n hx hb dX6_isBehind_68 rfl (lv_at hl 2 rfl) ?_
        refine g_get (ci := 6) (v := .ref (rt 22)) (C := RX6) (T := TX6) (N := 51) hx hb hts uB6 hown hK hP (hC.1.1 51 (by decide)) F_m rfl 22 (by decide) wm_22 (hC.2.2.2 22 (by decide)) dX6_isBehind_69 ?_
        refine lv_iload_n hx hb dX6_isBehind_72 rfl (lv_at hl 3 rfl) ?_
        refine g_iald hx hb hK hP (hC.1.1 22 (by decide)) F_promised (vp_in_nI (by omega) (by decide)) dX6_isBehind_73 ?_
        refine lv_topi (fun x_10 ex_10 => ?_)
        rw [nI_clamp (by omega)] at ex_10
        refine lv_aload_n hx hb dX6_isBehind_74 rfl (lv_at hl 2 rfl) ?_
        refine g_get (ci := 6) (v := .int t) (C := RX6) (T := TX6) (N := 51) hx hb hts uB6 hown hK hP (hC.1.1 51 (by decide)) F_m rfl 1 (by decide) wm_13 I_tick dX6_isBehind_75 ?_
        refine lv_aload_n hx hb dX6_isBehind_78 rfl (lv_at hl 2 rfl) ?_
        refine g_get (ci := 6) (v := .ref (rt 24)) (C := RX6) (T := TX6) (N := 51) hx hb hts uB6 hown hK hP (hC.1.1 51 (by decide)) F_m rfl 24 (by decide) wm_28 (hC.2.2.2 24 (by decide)) dX6_isBehind_79 ?_
        refine lv_iload_n hx hb dX6_isBehind_82 rfl (lv_at hl 3 rfl) ?_
        refine g_iald hx hb hK hP (hC.1.1 24 (by decide)) F_promiseFrom (vp_in_nI (by omega) (by decide)) dX6_isBehind_83 ?_
        refine lv_topi (fun x_11 ex_11 => ?_)
        rw [nI_clamp (by omega)] at ex_11
        refine lv_isub hx hb dX6_isBehind_84 ?_
        refine lv_topi (fun x_12 ex_12 => ?_)
        refine lv_imul hx hb dX6_isBehind_85 ?_
        refine lv_topi (fun x_13 ex_13 => ?_)
        refine lv_iload_n hx hb dX6_isBehind_86 rfl (lv_at hl 0 rfl) ?_
        refine lv_aload_n hx hb dX6_isBehind_87 rfl (lv_at hl 2 rfl) ?_
        refine g_get (ci := 6) (v := .ref (rt 24)) (C := RX6) (T := TX6) (N := 51) hx hb hts uB6 hown hK hP (hC.1.1 51 (by decide)) F_m rfl 24 (by decide) wm_28 (hC.2.2.2 24 (by decide)) dX6_isBehind_88 ?_
        refine lv_iload_n hx hb dX6_isBehind_91 rfl (lv_at hl 3 rfl) ?_
        refine g_iald hx hb hK hP (hC.1.1 24 (by decide)) F_promiseFrom (vp_in_nI (by omega) (by decide)) dX6_isBehind_92 ?_
        refine lv_topi (fun x_14 ex_14 => ?_)
        rw [nI_clamp (by omega)] at ex_14
        refine lv_isub hx hb dX6_isBehind_93 ?_
        refine lv_topi (fun x_15 ex_15 => ?_)
        refine lv_idiv hx hb dX6_isBehind_94 (by subst ex_1 ex_3 ex_6 ex_7 ex_8 ex_10 ex_11 ex_12 ex_13 ex_14 ex_15; exact k_beh (hpb cn hc) (by first | assumption | exact hpr9)) ?_
        refine lv_topi (fun x_16 ex_16 => ?_)
        refine lv_icmp_ge (tgt := 102) hx hb dX6_isBehind_95 (by decide) (fun c_17 => ?_) (fun c_17 => ?_)
        · skip
          refine lv_iconst (v := 0) hx hb dX6_isBehind_102 (by decide) ?_
          exact W.zret (v := 0) hx hb hr rfl (fun t ht hW => ⟨⟨0, (), rfl, Or.inl rfl, trivial⟩, hS.F ht⟩) hS.2.2 dX6_isBehind_103
        · skip
          refine lv_iconst (v := 1) hx hb dX6_isBehind_98 (by decide) ?_
          refine lv_goto (tgt := 103) hx hb dX6_isBehind_99 (by decide) ?_
          exact W.zret (v := 1) hx hb hr rfl (fun t ht hW => ⟨⟨1, (), rfl, Or.inr rfl, trivial⟩, hS.F ht⟩) hS.2.2 dX6_isBehind_103
      · skip
        refine lv_iload_n hx hb dX6_isBehind_51 rfl (lv_at hl 1 rfl) ?_
        refine lv_aload_n hx hb dX6_isBehind_52 rfl (lv_at hl 2 rfl) ?_
        refine g_get (ci := 6) (v := .ref (rt 22)) (C := RX6) (T := TX6) (N := 51) hx hb hts uB6 hown hK hP (hC.1.1 51 (by decide)) F_m rfl 22 (by decide) wm_22 (hC.2.2.2 22 (by decide)) dX6_isBehind_53 ?_
        refine lv_iload_n hx hb dX6_isBehind_56 rfl (lv_at hl 3 rfl) ?_
        refine g_iald hx hb hK hP (hC.1.1 22 (by decide)) F_promised (vp_in_nI (by omega) (by decide)) dX6_isBehind_57 ?_
        refine lv_topi (fun x_18 ex_18 => ?_)
        rw [nI_clamp (by omega)] at ex_18
        refine lv_icmp_ge (tgt := 65) hx hb dX6_isBehind_58 (by decide) (fun c_19 => ?_) (fun c_19 => ?_)
        · skip
          refine lv_iconst (v := 0) hx hb dX6_isBehind_65 (by decide) ?_
          exact W.zret (v := 0) hx hb hr rfl (fun t ht hW => ⟨⟨0, (), rfl, Or.inl rfl, trivial⟩, hS.F ht⟩) hS.2.2 dX6_isBehind_66
        · skip
          refine lv_iconst (v := 1) hx hb dX6_isBehind_61 (by decide) ?_
          refine lv_goto (tgt := 66) hx hb dX6_isBehind_62 (by decide) ?_
          exact W.zret (v := 1) hx hb hr rfl (fun t ht hW => ⟨⟨1, (), rfl, Or.inr rfl, trivial⟩, hS.F ht⟩) hS.2.2 dX6_isBehind_66
    · skip
      refine lv_iconst (v := 0) hx hb dX6_isBehind_19 (by decide) ?_
      exact W.zret (v := 0) hx hb hr rfl (fun t ht hW => ⟨⟨0, (), rfl, Or.inl rfl, trivial⟩, hS.F ht⟩) hS.2.2 dX6_isBehind_20
set_option maxHeartbeats 4000000 in
set_option maxRecDepth 100000 in
theorem m_hinders (l : Launch) (dC : Nat → ClassId) (dI : Nat → Nat → Nat) (K : Nat → ClassId) (L : List Nat) (f : Nat → va_E) (rt : Nat → Nat) {fm : List Value} (hC : mC rt L f fm) {g_stopped : Nat → Int32} (F_stopped : f (rt 20) = .inl (K 2, 40, .inl g_stopped)) {g_marks : Nat → Int32} (F_marks : f (rt 8) = .inl (K 0, 100, .inl g_marks)) {g_must : Nat → Int32} (F_must : f (rt 12) = .inl (K 0, 40, .inl g_must)) {g_never : Nat → Int32} (F_never : f (rt 13) = .inl (K 0, 40, .inl g_never)) {g_saleOf : Nat → Int32} (F_saleOf : f (rt 30) = .inl (K 0, 1000, .inl g_saleOf)) {g_saleReader : Nat → Int32} (F_saleReader : f (rt 27) = .inl (K 0, 1000, .inl g_saleReader)) {g_saleTick : Nat → Int32} (F_saleTick : f (rt 26) = .inl (K 0, 1000, .inl g_saleTick)) {g_salePage : Nat → Int32} (F_salePage : f (rt 28) = .inl (K 0, 1000, .inl g_salePage)) {g_state : Nat → Int32} (F_state : f (rt 32) = .inl (K 0, 1000, .inl g_state)) {g_span : Nat → Int32} (F_span : f (rt 18) = .inl (K 0, 40, .inl g_span)) {g_apart : Nat → Int32} (F_apart : f (rt 21) = .inl (K 2, 1600, .inl g_apart)) {g_cap : Nat → Int32} (F_cap : f (rt 17) = .inl (K 0, 40, .inl g_cap)) {g_sort : Nat → Int32} (F_sort : f (rt 10) = .inl (K 0, 40, .inl g_sort)) {g_bid : Nat → Int32} (F_bid : f (rt 14) = .inl (K 0, 40, .inl g_bid)) {g_throttle : Nat → Int32} (F_throttle : f (rt 19) = .inl (K 0, 40, .inl g_throttle)) {g_dayBudget : Nat → Int32} (F_dayBudget : f (rt 15) = .inl (K 0, 40, .inl g_dayBudget)) {g_allBudget : Nat → Int32} (F_allBudget : f (rt 16) = .inl (K 0, 40, .inl g_allBudget)) {g_pays : Nat → Int32} (F_pays : f (rt 11) = .inl (K 0, 40, .inl g_pays)) {g_price : Nat → Int32} (F_price : f (rt 31) = .inl (K 0, 1000, .inl g_price)) {ns : Nat} {t : Int32} (I_sales : fm[25]? = some (.int (nI ns))) (I_tick : fm[1]? = some (.int t)) (cn : Nat) (rd : Nat) (pg : Int32) (hns : ns ≤ 1000) (hso : ∀ j, j < ns → vp_in (g_saleOf j) 40) (hc : cn < 40) (hrd : rd < 100) : gR l yX6_hinders cX6_hinders 8 .int 3 (dC, dI) K L f [.ref (rt 51), .int (nI cn), .int (nI rd), .int pg] (fun _ => True) := by
  refine Met.ofW (cc := cX6_hinders) (maxL := 8) (ret := some .int) (by decide) rfl ?_
  intro p e s m args below meth c s₁ B hml hv
  obtain ⟨rfl, hP, hK⟩ := hv
  have F_m := hC.2.1
  have hx := B.exec
  have hb := B.bytes
  have hr := B.returns
  have hlocks := B.notSynchronized
  have hts0 := atoms_spec (ws := Cond.code yX6_hinders cX6_hinders 8 (some .int) :: lw_B) B.pre
  have hts : ∀ w ∈ lw_B, w.before _ s = true := fun w h => hts0 w (List.mem_cons_of_mem _ h)
  have hown : s.vm.findClass RX6 = some m.cls := findClass_of_methodNamed B.named
  have hS : va_S (fun _ => False) s.heap s.heap [] := va_S.rf
  have hl := lv_entry ([.ref (rt 51), .int (nI cn), .int (nI rd), .int pg]) (n := 8) (Nat.le_of_ble_eq_true rfl)
  rw [lg_entry_eq]
  generalize (lg_sl ([.ref (rt 51), .int (nI cn), .int (nI rd), .int pg]) ++ List.replicate (8 - (lg_sl ([.ref (rt 51), .int (nI cn), .int (nI rd), .int pg])).length) Slot.unset).toArray = ls at hl ⊢
  have hl : lv_has ls 8 [(0, .ref (rt 51)), (1, .int (nI cn)), (2, .int (nI rd)), (3, .int pg)] := hl
  refine lv_aload_n hx hb dX6_hinders_0 rfl (lv_at hl 0 rfl) ?_
  refine g_get (ci := 6) (v := .ref (rt 20)) (C := RX6) (T := TX6) (N := 51) hx hb hts uB6 hown hK hP (hC.1.1 51 (by decide)) F_m rfl 20 (by decide) wm_29 (hC.2.2.2 20 (by decide)) dX6_hinders_1 ?_
  refine lv_iload_n hx hb dX6_hinders_4 rfl (lv_at hl 1 rfl) ?_
  refine g_zald hx hb hK hP (hC.1.1 20 (by decide)) F_stopped (vp_in_nI (by omega) (by decide)) dX6_hinders_5 ?_
  refine lv_topi (fun x_1 ex_1 => ?_)
  rw [nI_clamp (by omega)] at ex_1
  refine lv_if_eq (tgt := 11) hx hb dX6_hinders_6 (by decide) (fun c_2 => ?_) (fun c_2 => ?_)
  · skip
    refine lv_aload_n hx hb dX6_hinders_11 rfl (lv_at hl 0 rfl) ?_
    refine g_get (ci := 6) (v := .ref (rt 8)) (C := RX6) (T := TX6) (N := 51) hx hb hts uB6 hown hK hP (hC.1.1 51 (by decide)) F_m rfl 8 (by decide) wm_30 (hC.2.2.2 8 (by decide)) dX6_hinders_12 ?_
    refine lv_iload_n hx hb dX6_hinders_15 rfl (lv_at hl 2 rfl) ?_
    refine g_iald hx hb hK hP (hC.1.1 8 (by decide)) F_marks (vp_in_nI (by omega) (by decide)) dX6_hinders_16 ?_
    refine lv_topi (fun x_3 ex_3 => ?_)
    rw [nI_clamp (by omega)] at ex_3
    refine lv_aload_n hx hb dX6_hinders_17 rfl (lv_at hl 0 rfl) ?_
    refine g_get (ci := 6) (v := .ref (rt 12)) (C := RX6) (T := TX6) (N := 51) hx hb hts uB6 hown hK hP (hC.1.1 51 (by decide)) F_m rfl 12 (by decide) wm_31 (hC.2.2.2 12 (by decide)) dX6_hinders_18 ?_
    refine lv_iload_n hx hb dX6_hinders_21 rfl (lv_at hl 1 rfl) ?_
    refine g_iald hx hb hK hP (hC.1.1 12 (by decide)) F_must (vp_in_nI (by omega) (by decide)) dX6_hinders_22 ?_
    refine lv_topi (fun x_4 ex_4 => ?_)
    rw [nI_clamp (by omega)] at ex_4
    refine lv_iand hx hb dX6_hinders_23 ?_
    refine lv_topi (fun x_5 ex_5 => ?_)
    refine lv_aload_n hx hb dX6_hinders_24 rfl (lv_at hl 0 rfl) ?_
    refine g_get (ci := 6) (v := .ref (rt 12)) (C := RX6) (T := TX6) (N := 51) hx hb hts uB6 hown hK hP (hC.1.1 51 (by decide)) F_m rfl 12 (by decide) wm_31 (hC.2.2.2 12 (by decide)) dX6_hinders_25 ?_
    refine lv_iload_n hx hb dX6_hinders_28 rfl (lv_at hl 1 rfl) ?_
    refine g_iald hx hb hK hP (hC.1.1 12 (by decide)) F_must (vp_in_nI (by omega) (by decide)) dX6_hinders_29 ?_
    refine lv_topi (fun x_6 ex_6 => ?_)
    rw [nI_clamp (by omega)] at ex_6
    refine lv_icmp_ne (tgt := 49) hx hb dX6_hinders_30 (by decide) (fun c_7 => ?_) (fun c_7 => ?_)
    · skip
      refine lv_iconst (v := 2) hx hb dX6_hinders_49 (by decide) ?_
      exact W.iret (v := 2) hx hb hr (fun t ht hW => ⟨⟨2, (), rfl, trivial, trivial⟩, hS.F ht⟩) hS.2.2 dX6_hinders_50
    · skip
      refine lv_aload_n hx hb dX6_hinders_33 rfl (lv_at hl 0 rfl) ?_
      refine g_get (ci := 6) (v := .ref (rt 8)) (C := RX6) (T := TX6) (N := 51) hx hb hts uB6 hown hK hP (hC.1.1 51 (by decide)) F_m rfl 8 (by decide) wm_30 (hC.2.2.2 8 (by decide)) dX6_hinders_34 ?_
      refine lv_iload_n hx hb dX6_hinders_37 rfl (lv_at hl 2 rfl) ?_
      refine g_iald hx hb hK hP (hC.1.1 8 (by decide)) F_marks (vp_in_nI (by omega) (by decide)) dX6_hinders_38 ?_
      refine lv_topi (fun x_8 ex_8 => ?_)
      rw [nI_clamp (by omega)] at ex_8
      refine lv_aload_n hx hb dX6_hinders_39 rfl (lv_at hl 0 rfl) ?_
      refine g_get (ci := 6) (v := .ref (rt 13)) (C := RX6) (T := TX6) (N := 51) hx hb hts uB6 hown hK hP (hC.1.1 51 (by decide)) F_m rfl 13 (by decide) wm_32 (hC.2.2.2 13 (by decide)) dX6_hinders_40 ?_
      refine lv_iload_n hx hb dX6_hinders_43 rfl (lv_at hl 1 rfl) ?_
      refine g_iald hx hb hK hP (hC.1.1 13 (by decide)) F_never (vp_in_nI (by omega) (by decide)) dX6_hinders_44 ?_
      refine lv_topi (fun x_9 ex_9 => ?_)
      rw [nI_clamp (by omega)] at ex_9
      refine lv_iand hx hb dX6_hinders_45 ?_
      refine lv_topi (fun x_10 ex_10 => ?_)
      refine lv_if_eq (tgt := 51) hx hb dX6_hinders_46 (by decide) (fun c_11 => ?_) (fun c_11 => ?_)
      · skip
        refine lv_iconst (v := 0) hx hb dX6_hinders_51 (by decide) ?_
        refine lv_istore (lv' := [(4, .int 0), (0, .ref (rt 51)), (1, .int (nI cn)), (2, .int (nI rd)), (3, .int pg)]) hx hb dX6_hinders_52 hl (by decide) rfl (fun ls hl => ?_)
        refine lv_iconst (v := 0) hx hb dX6_hinders_54 (by decide) ?_
        refine lv_istore (lv' := [(5, .int 0), (4, .int 0), (0, .ref (rt 51)), (1, .int (nI cn)), (2, .int (nI rd)), (3, .int pg)]) hx hb dX6_hinders_55 hl (by decide) rfl (fun ls hl => ?_)
        refine lv_iconst (v := 0) hx hb dX6_hinders_57 (by decide) ?_
        refine lv_istore (lv' := [(6, .int 0), (5, .int 0), (4, .int 0), (0, .ref (rt 51)), (1, .int (nI cn)), (2, .int (nI rd)), (3, .int pg)]) hx hb dX6_hinders_58 hl (by decide) rfl (fun ls hl => ?_)
        refine lv_iconst (v := 0) hx hb dX6_hinders_60 (by decide) ?_
        refine lv_istore (lv' := [(7, .int 0), (6, .int 0), (5, .int 0), (4, .int 0), (0, .ref (rt 51)), (1, .int (nI cn)), (2, .int (nI rd)), (3, .int pg)]) hx hb dX6_hinders_61 hl (by decide) rfl (fun ls hl => ?_)
        refine k_lx (pcx := 228) (fun n H locs ls => ∃ (j : Nat) (a4 : Int32) (a5 : Int32) (a6 : Int32), j + n = ns ∧ True ∧ va_P (dC, dI) vwCl (va_pl L f) H ∧ va_S (fun _ => False) s.heap H locs ∧ lv_has ls 8 [(0, .ref (rt 51)), (1, .int (nI cn)), (2, .int (nI rd)), (3, .int pg), (4, .int a4), (5, .int a5), (6, .int a6), (7, .int (nI j))]) (fun H locs ls => ∃ (j : Nat) (a4 : Int32) (a5 : Int32) (a6 : Int32), j = ns ∧ True ∧ va_P (dC, dI) vwCl (va_pl L f) H ∧ va_S (fun _ => False) s.heap H locs ∧ lv_has ls 8 [(0, .ref (rt 51)), (1, .int (nI cn)), (2, .int (nI rd)), (3, .int pg), (4, .int a4), (5, .int a5), (6, .int a6), (7, .int (nI j))]) (fun H locs ls hI => ?_) (fun n H locs ls hI hE ih => ?_) ns _ _ _ ⟨0, _, _, _, by omega, trivial, hP, hS, lv_sub hl [4, 5, 6, 7, 3, 2, 1, 0] rfl⟩
        · skip
          obtain ⟨j, a4, a5, a6, hj, hacc, hP, hS, hl⟩ := hI
          refine lv_iload hx hb dX6_hinders_228 (lv_at hl 4 rfl) ?_
          refine lv_aload_n hx hb dX6_hinders_230 rfl (lv_at hl 0 rfl) ?_
          refine g_get (ci := 6) (v := .ref (rt 17)) (C := RX6) (T := TX6) (N := 51) hx hb hts uB6 hown hK hP (hC.1.1 51 (by decide)) F_m rfl 17 (by decide) wm_33 (hC.2.2.2 17 (by decide)) dX6_hinders_231 ?_
          refine lv_iload_n hx hb dX6_hinders_234 rfl (lv_at hl 1 rfl) ?_
          refine g_iald hx hb hK hP (hC.1.1 17 (by decide)) F_cap (vp_in_nI (by omega) (by decide)) dX6_hinders_235 ?_
          refine lv_topi (fun x_12 ex_12 => ?_)
          rw [nI_clamp (by omega)] at ex_12
          refine lv_icmp_lt (tgt := 241) hx hb dX6_hinders_236 (by decide) (fun c_13 => ?_) (fun c_13 => ?_)
          · skip
            refine lv_aload_n hx hb dX6_hinders_241 rfl (lv_at hl 0 rfl) ?_
            refine g_get (ci := 6) (v := .ref (rt 10)) (C := RX6) (T := TX6) (N := 51) hx hb hts uB6 hown hK hP (hC.1.1 51 (by decide)) F_m rfl 10 (by decide) wm_21 (hC.2.2.2 10 (by decide)) dX6_hinders_242 ?_
            refine lv_iload_n hx hb dX6_hinders_245 rfl (lv_at hl 1 rfl) ?_
            refine g_iald hx hb hK hP (hC.1.1 10 (by decide)) F_sort (vp_in_nI (by omega) (by decide)) dX6_hinders_246 ?_
            refine lv_topi (fun x_14 ex_14 => ?_)
            rw [nI_clamp (by omega)] at ex_14
            refine lv_if_ne (tgt := 280) hx hb dX6_hinders_247 (by decide) (fun c_15 => ?_) (fun c_15 => ?_)
            · skip
              refine lv_aload_n hx hb dX6_hinders_280 rfl (lv_at hl 0 rfl) ?_
              refine lv_iload_n hx hb dX6_hinders_281 rfl (lv_at hl 1 rfl) ?_
              refine lv_iload_n hx hb dX6_hinders_282 rfl (lv_at hl 2 rfl) ?_
              refine gc_R (ci := 6) ⟨hx, hb, hml, hown, hts⟩ (m_drawOf l dC dI K L f rt hC I_tick (nI cn) (nI rd)) 2 wm_34 wm_35 wm_36 wm_8 wm_37 (by decide +kernel) ⟨Nat.le_of_ble_eq_true rfl, Nat.le_of_ble_eq_true rfl⟩ hK rfl (hC.1.1 51 (by decide)) F_m rfl hl.1 rfl (Nat.le_of_ble_eq_true rfl) dX6_hinders_283 ⟨Nat.le_of_ble_eq_true rfl, Nat.le_of_ble_eq_true rfl⟩ hS hP (fun r_16 H locs hpr_16 hP hS => ?_)
              refine lv_aload_n hx hb dX6_hinders_286 rfl (lv_at hl 0 rfl) ?_
              refine g_get (ci := 6) (v := .ref (rt 19)) (C := RX6) (T := TX6) (N := 51) hx hb hts uB6 hown hK hP (hC.1.1 51 (by decide)) F_m rfl 19 (by decide) wm_38 (hC.2.2.2 19 (by decide)) dX6_hinders_287 ?_
              refine lv_iload_n hx hb dX6_hinders_290 rfl (lv_at hl 1 rfl) ?_
              refine g_iald hx hb hK hP (hC.1.1 19 (by decide)) F_throttle (vp_in_nI (by omega) (by decide)) dX6_hinders_291 ?_
              refine lv_topi (fun x_17 ex_17 => ?_)
              rw [nI_clamp (by omega)] at ex_17
              refine lv_icmp_lt (tgt := 297) hx hb dX6_hinders_292 (by decide) (fun c_18 => ?_) (fun c_18 => ?_)
              · skip
                refine lv_iload hx hb dX6_hinders_297 (lv_at hl 5 rfl) ?_
                refine lv_if_eq (tgt := 307) hx hb dX6_hinders_299 (by decide) (fun c_19 => ?_) (fun c_19 => ?_)
                · skip
                  refine lv_iload hx hb dX6_hinders_307 (lv_at hl 6 rfl) ?_
                  refine lv_if_eq (tgt := 317) hx hb dX6_hinders_309 (by decide) (fun c_20 => ?_) (fun c_20 => ?_)
                  · skip
                    refine lv_iconst (v := 0) hx hb dX6_hinders_317 (by decide) ?_
                    exact W.iret (v := 0) hx hb hr (fun t ht hW => ⟨⟨0, (), rfl, trivial, trivial⟩, hS.F ht⟩) hS.2.2 dX6_hinders_318
                  · skip
                    refine lv_bipush (v := 7) hx hb dX6_hinders_312 (by decide) ?_
                    refine lv_goto (tgt := 318) hx hb dX6_hinders_314 (by decide) ?_
                    exact W.iret (v := 7) hx hb hr (fun t ht hW => ⟨⟨7, (), rfl, trivial, trivial⟩, hS.F ht⟩) hS.2.2 dX6_hinders_318
                · skip
                  refine lv_bipush (v := 6) hx hb dX6_hinders_302 (by decide) ?_
                  refine lv_goto (tgt := 318) hx hb dX6_hinders_304 (by decide) ?_
                  exact W.iret (v := 6) hx hb hr (fun t ht hW => ⟨⟨6, (), rfl, trivial, trivial⟩, hS.F ht⟩) hS.2.2 dX6_hinders_318
              · skip
                refine lv_iconst (v := 5) hx hb dX6_hinders_295 (by decide) ?_
                exact W.iret (v := 5) hx hb hr (fun t ht hW => ⟨⟨5, (), rfl, trivial, trivial⟩, hS.F ht⟩) hS.2.2 dX6_hinders_296
            · skip
              refine lv_aload_n hx hb dX6_hinders_250 rfl (lv_at hl 0 rfl) ?_
              refine lv_iload_n hx hb dX6_hinders_251 rfl (lv_at hl 1 rfl) ?_
              refine gc_R (ci := 6) ⟨hx, hb, hml, hown, hts⟩ (m_leftOfDay l dC dI K L f rt hC F_dayBudget F_saleOf F_saleTick F_state F_pays F_price I_sales I_tick cn hns hso hc) 1 wm_39 wm_40 wm_41 wm_8 wm_42 (by decide +kernel) ⟨Nat.le_of_ble_eq_true rfl, Nat.le_of_ble_eq_true rfl⟩ hK rfl (hC.1.1 51 (by decide)) F_m rfl hl.1 rfl (Nat.le_of_ble_eq_true rfl) dX6_hinders_252 ⟨Nat.le_of_ble_eq_true rfl, Nat.le_of_ble_eq_true rfl⟩ hS hP (fun r_21 H locs hpr_21 hP hS => ?_)
              refine lv_aload_n hx hb dX6_hinders_255 rfl (lv_at hl 0 rfl) ?_
              refine g_get (ci := 6) (v := .ref (rt 14)) (C := RX6) (T := TX6) (N := 51) hx hb hts uB6 hown hK hP (hC.1.1 51 (by decide)) F_m rfl 14 (by decide) wm_43 (hC.2.2.2 14 (by decide)) dX6_hinders_256 ?_
              refine lv_iload_n hx hb dX6_hinders_259 rfl (lv_at hl 1 rfl) ?_
              refine g_iald hx hb hK hP (hC.1.1 14 (by decide)) F_bid (vp_in_nI (by omega) (by decide)) dX6_hinders_260 ?_
              refine lv_topi (fun x_22 ex_22 => ?_)
              rw [nI_clamp (by omega)] at ex_22
              refine lv_icmp_lt (tgt := 278) hx hb dX6_hinders_261 (by decide) (fun c_23 => ?_) (fun c_23 => ?_)
              · skip
                refine lv_iconst (v := 4) hx hb dX6_hinders_278 (by decide) ?_
                exact W.iret (v := 4) hx hb hr (fun t ht hW => ⟨⟨4, (), rfl, trivial, trivial⟩, hS.F ht⟩) hS.2.2 dX6_hinders_279
              · skip
                refine lv_aload_n hx hb dX6_hinders_264 rfl (lv_at hl 0 rfl) ?_
                refine lv_iload_n hx hb dX6_hinders_265 rfl (lv_at hl 1 rfl) ?_
                refine gc_R (ci := 6) ⟨hx, hb, hml, hown, hts⟩ (m_leftInAll l dC dI K L f rt hC F_allBudget F_saleOf F_saleTick F_state F_pays F_price I_sales cn hns hso hc) 1 wm_44 wm_45 wm_46 wm_8 wm_47 (by decide +kernel) ⟨Nat.le_of_ble_eq_true rfl, Nat.le_of_ble_eq_true rfl⟩ hK rfl (hC.1.1 51 (by decide)) F_m rfl hl.1 rfl (Nat.le_of_ble_eq_true rfl) dX6_hinders_266 ⟨Nat.le_of_ble_eq_true rfl, Nat.le_of_ble_eq_true rfl⟩ hS hP (fun r_24 H locs hpr_24 hP hS => ?_)
                refine lv_aload_n hx hb dX6_hinders_269 rfl (lv_at hl 0 rfl) ?_
                refine g_get (ci := 6) (v := .ref (rt 14)) (C := RX6) (T := TX6) (N := 51) hx hb hts uB6 hown hK hP (hC.1.1 51 (by decide)) F_m rfl 14 (by decide) wm_43 (hC.2.2.2 14 (by decide)) dX6_hinders_270 ?_
                refine lv_iload_n hx hb dX6_hinders_273 rfl (lv_at hl 1 rfl) ?_
                refine g_iald hx hb hK hP (hC.1.1 14 (by decide)) F_bid (vp_in_nI (by omega) (by decide)) dX6_hinders_274 ?_
                refine lv_topi (fun x_25 ex_25 => ?_)
                rw [nI_clamp (by omega)] at ex_25
                refine lv_icmp_ge (tgt := 280) hx hb dX6_hinders_275 (by decide) (fun c_26 => ?_) (fun c_26 => ?_)
                · skip
                  refine lv_aload_n hx hb dX6_hinders_280 rfl (lv_at hl 0 rfl) ?_
                  refine lv_iload_n hx hb dX6_hinders_281 rfl (lv_at hl 1 rfl) ?_
                  refine lv_iload_n hx hb dX6_hinders_282 rfl (lv_at hl 2 rfl) ?_
                  refine gc_R (ci := 6) ⟨hx, hb, hml, hown, hts⟩ (m_drawOf l dC dI K L f rt hC I_tick (nI cn) (nI rd)) 2 wm_34 wm_35 wm_36 wm_8 wm_37 (by decide +kernel) ⟨Nat.le_of_ble_eq_true rfl, Nat.le_of_ble_eq_true rfl⟩ hK rfl (hC.1.1 51 (by decide)) F_m rfl hl.1 rfl (Nat.le_of_ble_eq_true rfl) dX6_hinders_283 ⟨Nat.le_of_ble_eq_true rfl, Nat.le_of_ble_eq_true rfl⟩ hS hP (fun r_27 H locs hpr_27 hP hS => ?_)
                  refine lv_aload_n hx hb dX6_hinders_286 rfl (lv_at hl 0 rfl) ?_
                  refine g_get (ci := 6) (v := .ref (rt 19)) (C := RX6) (T := TX6) (N := 51) hx hb hts uB6 hown hK hP (hC.1.1 51 (by decide)) F_m rfl 19 (by decide) wm_38 (hC.2.2.2 19 (by decide)) dX6_hinders_287 ?_
                  refine lv_iload_n hx hb dX6_hinders_290 rfl (lv_at hl 1 rfl) ?_
                  refine g_iald hx hb hK hP (hC.1.1 19 (by decide)) F_throttle (vp_in_nI (by omega) (by decide)) dX6_hinders_291 ?_
                  refine lv_topi (fun x_28 ex_28 => ?_)
                  rw [nI_clamp (by omega)] at ex_28
                  refine lv_icmp_lt (tgt := 297) hx hb dX6_hinders_292 (by decide) (fun c_29 => ?_) (fun c_29 => ?_)
                  · skip
                    refine lv_iload hx hb dX6_hinders_297 (lv_at hl 5 rfl) ?_
                    refine lv_if_eq (tgt := 307) hx hb dX6_hinders_299 (by decide) (fun c_30 => ?_) (fun c_30 => ?_)
                    · skip
                      refine lv_iload hx hb dX6_hinders_307 (lv_at hl 6 rfl) ?_
                      refine lv_if_eq (tgt := 317) hx hb dX6_hinders_309 (by decide) (fun c_31 => ?_) (fun c_31 => ?_)
                      · skip
                        refine lv_iconst (v := 0) hx hb dX6_hinders_317 (by decide) ?_
                        exact W.iret (v := 0) hx hb hr (fun t ht hW => ⟨⟨0, (), rfl, trivial, trivial⟩, hS.F ht⟩) hS.2.2 dX6_hinders_318
                      · skip
                        refine lv_bipush (v := 7) hx hb dX6_hinders_312 (by decide) ?_
                        refine lv_goto (tgt := 318) hx hb dX6_hinders_314 (by decide) ?_
                        exact W.iret (v := 7) hx hb hr (fun t ht hW => ⟨⟨7, (), rfl, trivial, trivial⟩, hS.F ht⟩) hS.2.2 dX6_hinders_318
                    · skip
                      refine lv_bipush (v := 6) hx hb dX6_hinders_302 (by decide) ?_
                      refine lv_goto (tgt := 318) hx hb dX6_hinders_304 (by decide) ?_
                      exact W.iret (v := 6) hx hb hr (fun t ht hW => ⟨⟨6, (), rfl, trivial, trivial⟩, hS.F ht⟩) hS.2.2 dX6_hinders_318
                  · skip
                    refine lv_iconst (v := 5) hx hb dX6_hinders_295 (by decide) ?_
                    exact W.iret (v := 5) hx hb hr (fun t ht hW => ⟨⟨5, (), rfl, trivial, trivial⟩, hS.F ht⟩) hS.2.2 dX6_hinders_296
                · skip
                  refine lv_iconst (v := 4) hx hb dX6_hinders_278 (by decide) ?_
                  exact W.iret (v := 4) hx hb hr (fun t ht hW => ⟨⟨4, (), rfl, trivial, trivial⟩, hS.F ht⟩) hS.2.2 dX6_hinders_279
          · skip
            refine lv_iconst (v := 3) hx hb dX6_hinders_239 (by decide) ?_
            exact W.iret (v := 3) hx hb hr (fun t ht hW => ⟨⟨3, (), rfl, trivial, trivial⟩, hS.F ht⟩) hS.2.2 dX6_hinders_240
        · skip
          obtain ⟨j, a4, a5, a6, hj, hacc, hP, hS, hl⟩ := hI
          refine lv_iload hx hb dX6_hinders_63 (lv_at hl 7 rfl) ?_
          refine lv_aload_n hx hb dX6_hinders_65 rfl (lv_at hl 0 rfl) ?_
          refine g_get (ci := 6) (v := .int (nI ns)) (C := RX6) (T := TX6) (N := 51) hx hb hts uB6 hown hK hP (hC.1.1 51 (by decide)) F_m rfl 25 (by decide) wm_4 I_sales dX6_hinders_66 ?_
          refine lv_icmp_ge (tgt := 228) hx hb dX6_hinders_69 (by decide) (fun c_32 => ?_) (fun c_32 => ?_)
          · skip
            have hjn : j = ns := by have := (nI_leI (a := ns) (b := j) (by omega) (by omega)).mp c_32; omega
            exact hE _ _ _ ⟨j, _, _, _, by omega, hacc, hP, hS, lv_sub hl [0, 1, 2, 3, 4, 5, 6, 7] rfl⟩
          · skip
            have hjn : j < ns := by rcases Nat.lt_or_ge j ns with q | q; exact q; exact absurd (nI_le q (by omega)) c_32
            refine lv_aload_n hx hb dX6_hinders_72 rfl (lv_at hl 0 rfl) ?_
            refine g_get (ci := 6) (v := .ref (rt 32)) (C := RX6) (T := TX6) (N := 51) hx hb hts uB6 hown hK hP (hC.1.1 51 (by decide)) F_m rfl 32 (by decide) wm_0 (hC.2.2.2 32 (by decide)) dX6_hinders_73 ?_
            refine lv_iload hx hb dX6_hinders_76 (lv_at hl 7 rfl) ?_
            refine g_iald hx hb hK hP (hC.1.1 32 (by decide)) F_state (vp_in_nI (by omega) (by decide)) dX6_hinders_78 ?_
            refine lv_topi (fun x_33 ex_33 => ?_)
            rw [nI_clamp (by omega)] at ex_33
            refine lv_iconst (v := 3) hx hb dX6_hinders_79 (by decide) ?_
            refine lv_icmp_ne (tgt := 86) hx hb dX6_hinders_80 (by decide) (fun c_34 => ?_) (fun c_34 => ?_)
            · skip
              refine k_jn (pcj := 139) (fun H locs ls => ∃ (b4 : Int32), True ∧ va_P (dC, dI) vwCl (va_pl L f) H ∧ va_S (fun _ => False) s.heap H locs ∧ lv_has ls 8 [(0, .ref (rt 51)), (1, .int (nI cn)), (2, .int (nI rd)), (3, .int pg), (5, .int a5), (6, .int a6), (7, .int (nI j)), (4, .int b4)]) (fun H locs ls hI => ?_) (fun hJ_k => ?_)
              · skip
                obtain ⟨b4, ha_k, hP, hS, hl⟩ := hI
                refine lv_aload_n hx hb dX6_hinders_139 rfl (lv_at hl 0 rfl) ?_
                refine g_get (ci := 6) (v := .ref (rt 26)) (C := RX6) (T := TX6) (N := 51) hx hb hts uB6 hown hK hP (hC.1.1 51 (by decide)) F_m rfl 26 (by decide) wm_10 (hC.2.2.2 26 (by decide)) dX6_hinders_140 ?_
                refine lv_iload hx hb dX6_hinders_143 (lv_at hl 6 rfl) ?_
                refine g_iald hx hb hK hP (hC.1.1 26 (by decide)) F_saleTick (vp_in_nI (by omega) (by decide)) dX6_hinders_145 ?_
                refine lv_topi (fun x_35 ex_35 => ?_)
                rw [nI_clamp (by omega)] at ex_35
                refine lv_aload_n hx hb dX6_hinders_146 rfl (lv_at hl 0 rfl) ?_
                refine g_get (ci := 6) (v := .int t) (C := RX6) (T := TX6) (N := 51) hx hb hts uB6 hown hK hP (hC.1.1 51 (by decide)) F_m rfl 1 (by decide) wm_13 I_tick dX6_hinders_147 ?_
                refine lv_icmp_ne (tgt := 222) hx hb dX6_hinders_150 (by decide) (fun c_36 => ?_) (fun c_36 => ?_)
                · skip
                  obtain ⟨x_37, ex_37⟩ : ∃ y : Int32, y = (nI j) + 1 := ⟨_, rfl⟩
                  refine lv_iinc (v := x_37) (lv' := [(7, .int x_37), (0, .ref (rt 51)), (1, .int (nI cn)), (2, .int (nI rd)), (3, .int pg), (5, .int a5), (6, .int a6), (4, .int b4)]) hx hb dX6_hinders_222 hl (k := 6) rfl (by rw [ex_37]; rfl) (by decide) rfl (fun ls hl => ?_)
                  refine lv_goto (tgt := 63) hx hb dX6_hinders_225 (by decide) ?_
                  obtain rfl : x_37 = nI (j + 1) := ex_37.trans (nI_1 j)
                  exact ih (n - 1) (by omega) _ _ _ ⟨j + 1, _, _, _, by omega, trivial, hP, hS, lv_sub hl [1, 2, 3, 4, 7, 5, 6, 0] rfl⟩
                · skip
                  refine lv_aload_n hx hb dX6_hinders_153 rfl (lv_at hl 0 rfl) ?_
                  refine g_get (ci := 6) (v := .ref (rt 28)) (C := RX6) (T := TX6) (N := 51) hx hb hts uB6 hown hK hP (hC.1.1 51 (by decide)) F_m rfl 28 (by decide) wm_48 (hC.2.2.2 28 (by decide)) dX6_hinders_154 ?_
                  refine lv_iload hx hb dX6_hinders_157 (lv_at hl 6 rfl) ?_
                  refine g_iald hx hb hK hP (hC.1.1 28 (by decide)) F_salePage (vp_in_nI (by omega) (by decide)) dX6_hinders_159 ?_
                  refine lv_topi (fun x_38 ex_38 => ?_)
                  rw [nI_clamp (by omega)] at ex_38
                  refine lv_iload_n hx hb dX6_hinders_160 rfl (lv_at hl 3 rfl) ?_
                  refine lv_icmp_eq (tgt := 167) hx hb dX6_hinders_161 (by decide) (fun c_39 => ?_) (fun c_39 => ?_)
                  · skip
                    refine k_jn (pcj := 199) (fun H locs ls => ∃ (b5 : Int32), True ∧ va_P (dC, dI) vwCl (va_pl L f) H ∧ va_S (fun _ => False) s.heap H locs ∧ lv_has ls 8 [(0, .ref (rt 51)), (1, .int (nI cn)), (2, .int (nI rd)), (3, .int pg), (4, .int b4), (6, .int a6), (7, .int (nI j)), (5, .int b5)]) (fun H locs ls hI => ?_) (fun hJ_n => ?_)
                    · skip
                      obtain ⟨b5, ha_n, hP, hS, hl⟩ := hI
                      refine lv_iload hx hb dX6_hinders_199 (lv_at hl 5 rfl) ?_
                      refine lv_if_ne (tgt := 215) hx hb dX6_hinders_201 (by decide) (fun c_40 => ?_) (fun c_40 => ?_)
                      · skip
                        refine lv_iconst (v := 1) hx hb dX6_hinders_215 (by decide) ?_
                        refine lv_goto (tgt := 220) hx hb dX6_hinders_216 (by decide) ?_
                        refine lv_istore (lv' := [(6, .int 1), (0, .ref (rt 51)), (1, .int (nI cn)), (2, .int (nI rd)), (3, .int pg), (4, .int b4), (7, .int (nI j)), (5, .int b5)]) hx hb dX6_hinders_220 hl (by decide) rfl (fun ls hl => ?_)
                        obtain ⟨x_41, ex_41⟩ : ∃ y : Int32, y = (nI j) + 1 := ⟨_, rfl⟩
                        refine lv_iinc (v := x_41) (lv' := [(7, .int x_41), (6, .int 1), (0, .ref (rt 51)), (1, .int (nI cn)), (2, .int (nI rd)), (3, .int pg), (4, .int b4), (5, .int b5)]) hx hb dX6_hinders_222 hl (k := 6) rfl (by rw [ex_41]; rfl) (by decide) rfl (fun ls hl => ?_)
                        refine lv_goto (tgt := 63) hx hb dX6_hinders_225 (by decide) ?_
                        obtain rfl : x_41 = nI (j + 1) := ex_41.trans (nI_1 j)
                        exact ih (n - 1) (by omega) _ _ _ ⟨j + 1, _, _, _, by omega, trivial, hP, hS, lv_sub hl [2, 3, 4, 5, 6, 7, 1, 0] rfl⟩
                      · skip
                        refine lv_aload_n hx hb dX6_hinders_204 rfl (lv_at hl 0 rfl) ?_
                        refine g_get (ci := 6) (v := .ref (rt 30)) (C := RX6) (T := TX6) (N := 51) hx hb hts uB6 hown hK hP (hC.1.1 51 (by decide)) F_m rfl 30 (by decide) wm_2 (hC.2.2.2 30 (by decide)) dX6_hinders_205 ?_
                        refine lv_iload hx hb dX6_hinders_208 (lv_at hl 6 rfl) ?_
                        refine g_iald hx hb hK hP (hC.1.1 30 (by decide)) F_saleOf (vp_in_nI (by omega) (by decide)) dX6_hinders_210 ?_
                        refine lv_topi (fun x_42 ex_42 => ?_)
                        rw [nI_clamp (by omega)] at ex_42
                        refine lv_iload_n hx hb dX6_hinders_211 rfl (lv_at hl 1 rfl) ?_
                        refine lv_icmp_ne (tgt := 219) hx hb dX6_hinders_212 (by decide) (fun c_43 => ?_) (fun c_43 => ?_)
                        · skip
                          refine lv_iconst (v := 0) hx hb dX6_hinders_219 (by decide) ?_
                          refine lv_istore (lv' := [(6, .int 0), (0, .ref (rt 51)), (1, .int (nI cn)), (2, .int (nI rd)), (3, .int pg), (4, .int b4), (7, .int (nI j)), (5, .int b5)]) hx hb dX6_hinders_220 hl (by decide) rfl (fun ls hl => ?_)
                          obtain ⟨x_44, ex_44⟩ : ∃ y : Int32, y = (nI j) + 1 := ⟨_, rfl⟩
                          refine lv_iinc (v := x_44) (lv' := [(7, .int x_44), (6, .int 0), (0, .ref (rt 51)), (1, .int (nI cn)), (2, .int (nI rd)), (3, .int pg), (4, .int b4), (5, .int b5)]) hx hb dX6_hinders_222 hl (k := 6) rfl (by rw [ex_44]; rfl) (by decide) rfl (fun ls hl => ?_)
                          refine lv_goto (tgt := 63) hx hb dX6_hinders_225 (by decide) ?_
                          obtain rfl : x_44 = nI (j + 1) := ex_44.trans (nI_1 j)
                          exact ih (n - 1) (by omega) _ _ _ ⟨j + 1, _, _, _, by omega, trivial, hP, hS, lv_sub hl [2, 3, 4, 5, 6, 7, 1, 0] rfl⟩
                        · skip
                          refine lv_iconst (v := 1) hx hb dX6_hinders_215 (by decide) ?_
                          refine lv_goto (tgt := 220) hx hb dX6_hinders_216 (by decide) ?_
                          refine lv_istore (lv' := [(6, .int 1), (0, .ref (rt 51)), (1, .int (nI cn)), (2, .int (nI rd)), (3, .int pg), (4, .int b4), (7, .int (nI j)), (5, .int b5)]) hx hb dX6_hinders_220 hl (by decide) rfl (fun ls hl => ?_)
                          obtain ⟨x_45, ex_45⟩ : ∃ y : Int32, y = (nI j) + 1 := ⟨_, rfl⟩
                          refine lv_iinc (v := x_45) (lv' := [(7, .int x_45), (6, .int 1), (0, .ref (rt 51)), (1, .int (nI cn)), (2, .int (nI rd)), (3, .int pg), (4, .int b4), (5, .int b5)]) hx hb dX6_hinders_222 hl (k := 6) rfl (by rw [ex_45]; rfl) (by decide) rfl (fun ls hl => ?_)
                          refine lv_goto (tgt := 63) hx hb dX6_hinders_225 (by decide) ?_
                          obtain rfl : x_45 = nI (j + 1) := ex_45.trans (nI_1 j)
                          exact ih (n - 1) (by omega) _ _ _ ⟨j + 1, _, _, _, by omega, trivial, hP, hS, lv_sub hl [2, 3, 4, 5, 6, 7, 1, 0] rfl⟩
                    · skip
                      refine lv_iload hx hb dX6_hinders_167 (lv_at hl 4 rfl) ?_
                      refine lv_if_ne (tgt := 192) hx hb dX6_hinders_169 (by decide) (fun c_46 => ?_) (fun c_46 => ?_)
                      · skip
                        refine lv_iconst (v := 1) hx hb dX6_hinders_192 (by decide) ?_
                        refine lv_goto (tgt := 197) hx hb dX6_hinders_193 (by decide) ?_
                        refine lv_istore (lv' := [(5, .int 1), (0, .ref (rt 51)), (1, .int (nI cn)), (2, .int (nI rd)), (3, .int pg), (6, .int a6), (7, .int (nI j)), (4, .int b4)]) hx hb dX6_hinders_197 hl (by decide) rfl (fun ls hl => ?_)
                        exact hJ_n _ _ _ ⟨_, trivial, hP, hS, lv_sub hl [1, 2, 3, 4, 7, 5, 6, 0] rfl⟩
                      · skip
                        refine lv_aload_n hx hb dX6_hinders_172 rfl (lv_at hl 0 rfl) ?_
                        refine g_get (ci := 6) (v := .ref (rt 21)) (C := RX6) (T := TX6) (N := 51) hx hb hts uB6 hown hK hP (hC.1.1 51 (by decide)) F_m rfl 21 (by decide) wm_49 (hC.2.2.2 21 (by decide)) dX6_hinders_173 ?_
                        refine lv_bipush (v := 40) hx hb dX6_hinders_176 (by decide) ?_
                        refine lv_iload_n hx hb dX6_hinders_178 rfl (lv_at hl 1 rfl) ?_
                        refine lv_imul hx hb dX6_hinders_179 ?_
                        refine lv_topi (fun x_47 ex_47 => ?_)
                        refine lv_aload_n hx hb dX6_hinders_180 rfl (lv_at hl 0 rfl) ?_
                        refine g_get (ci := 6) (v := .ref (rt 30)) (C := RX6) (T := TX6) (N := 51) hx hb hts uB6 hown hK hP (hC.1.1 51 (by decide)) F_m rfl 30 (by decide) wm_2 (hC.2.2.2 30 (by decide)) dX6_hinders_181 ?_
                        refine lv_iload hx hb dX6_hinders_184 (lv_at hl 6 rfl) ?_
                        refine g_iald hx hb hK hP (hC.1.1 30 (by decide)) F_saleOf (vp_in_nI (by omega) (by decide)) dX6_hinders_186 ?_
                        refine lv_topi (fun x_48 ex_48 => ?_)
                        rw [nI_clamp (by omega)] at ex_48
                        refine lv_iadd hx hb dX6_hinders_187 ?_
                        refine lv_topi (fun x_49 ex_49 => ?_)
                        refine g_zald hx hb hK hP (hC.1.1 21 (by decide)) F_apart (by subst ex_49 ex_48 ex_47; exact k_ap hc (hso j hjn)) dX6_hinders_188 ?_
                        refine lv_topi (fun x_50 ex_50 => ?_)
                        refine lv_if_eq (tgt := 196) hx hb dX6_hinders_189 (by decide) (fun c_51 => ?_) (fun c_51 => ?_)
                        · skip
                          refine lv_iconst (v := 0) hx hb dX6_hinders_196 (by decide) ?_
                          refine lv_istore (lv' := [(5, .int 0), (0, .ref (rt 51)), (1, .int (nI cn)), (2, .int (nI rd)), (3, .int pg), (6, .int a6), (7, .int (nI j)), (4, .int b4)]) hx hb dX6_hinders_197 hl (by decide) rfl (fun ls hl => ?_)
                          exact hJ_n _ _ _ ⟨_, trivial, hP, hS, lv_sub hl [1, 2, 3, 4, 7, 5, 6, 0] rfl⟩
                        · skip
                          refine lv_iconst (v := 1) hx hb dX6_hinders_192 (by decide) ?_
                          refine lv_goto (tgt := 197) hx hb dX6_hinders_193 (by decide) ?_
                          refine lv_istore (lv' := [(5, .int 1), (0, .ref (rt 51)), (1, .int (nI cn)), (2, .int (nI rd)), (3, .int pg), (6, .int a6), (7, .int (nI j)), (4, .int b4)]) hx hb dX6_hinders_197 hl (by decide) rfl (fun ls hl => ?_)
                          exact hJ_n _ _ _ ⟨_, trivial, hP, hS, lv_sub hl [1, 2, 3, 4, 7, 5, 6, 0] rfl⟩
                  · skip
                    refine lv_goto (tgt := 222) hx hb dX6_hinders_164 (by decide) ?_
                    obtain ⟨x_52, ex_52⟩ : ∃ y : Int32, y = (nI j) + 1 := ⟨_, rfl⟩
                    refine lv_iinc (v := x_52) (lv' := [(7, .int x_52), (0, .ref (rt 51)), (1, .int (nI cn)), (2, .int (nI rd)), (3, .int pg), (5, .int a5), (6, .int a6), (4, .int b4)]) hx hb dX6_hinders_222 hl (k := 6) rfl (by rw [ex_52]; rfl) (by decide) rfl (fun ls hl => ?_)
                    refine lv_goto (tgt := 63) hx hb dX6_hinders_225 (by decide) ?_
                    obtain rfl : x_52 = nI (j + 1) := ex_52.trans (nI_1 j)
                    exact ih (n - 1) (by omega) _ _ _ ⟨j + 1, _, _, _, by omega, trivial, hP, hS, lv_sub hl [1, 2, 3, 4, 7, 5, 6, 0] rfl⟩
              · skip
                refine lv_iload hx hb dX6_hinders_86 (lv_at hl 4 rfl) ?_
                refine lv_aload_n hx hb dX6_hinders_88 rfl (lv_at hl 0 rfl) ?_
                refine g_get (ci := 6) (v := .ref (rt 30)) (C := RX6) (T := TX6) (N := 51) hx hb hts uB6 hown hK hP (hC.1.1 51 (by decide)) F_m rfl 30 (by decide) wm_2 (hC.2.2.2 30 (by decide)) dX6_hinders_89 ?_
                refine lv_iload hx hb dX6_hinders_92 (lv_at hl 7 rfl) ?_
                refine g_iald hx hb hK hP (hC.1.1 30 (by decide)) F_saleOf (vp_in_nI (by omega) (by decide)) dX6_hinders_94 ?_
                refine lv_topi (fun x_53 ex_53 => ?_)
                rw [nI_clamp (by omega)] at ex_53
                refine lv_iload_n hx hb dX6_hinders_95 rfl (lv_at hl 1 rfl) ?_
                refine lv_icmp_ne (tgt := 135) hx hb dX6_hinders_96 (by decide) (fun c_54 => ?_) (fun c_54 => ?_)
                · skip
                  refine lv_iconst (v := 0) hx hb dX6_hinders_135 (by decide) ?_
                  refine lv_iadd hx hb dX6_hinders_136 ?_
                  refine lv_topi (fun x_55 ex_55 => ?_)
                  refine lv_istore (lv' := [(4, .int x_55), (0, .ref (rt 51)), (1, .int (nI cn)), (2, .int (nI rd)), (3, .int pg), (5, .int a5), (6, .int a6), (7, .int (nI j))]) hx hb dX6_hinders_137 hl (by decide) rfl (fun ls hl => ?_)
                  exact hJ_k _ _ _ ⟨_, trivial, hP, hS, lv_sub hl [1, 2, 3, 4, 5, 6, 7, 0] rfl⟩
                · skip
                  refine lv_aload_n hx hb dX6_hinders_99 rfl (lv_at hl 0 rfl) ?_
                  refine g_get (ci := 6) (v := .ref (rt 27)) (C := RX6) (T := TX6) (N := 51) hx hb hts uB6 hown hK hP (hC.1.1 51 (by decide)) F_m rfl 27 (by decide) wm_50 (hC.2.2.2 27 (by decide)) dX6_hinders_100 ?_
                  refine lv_iload hx hb dX6_hinders_103 (lv_at hl 7 rfl) ?_
                  refine g_iald hx hb hK hP (hC.1.1 27 (by decide)) F_saleReader (vp_in_nI (by omega) (by decide)) dX6_hinders_105 ?_
                  refine lv_topi (fun x_56 ex_56 => ?_)
                  rw [nI_clamp (by omega)] at ex_56
                  refine lv_iload_n hx hb dX6_hinders_106 rfl (lv_at hl 2 rfl) ?_
                  refine lv_icmp_ne (tgt := 135) hx hb dX6_hinders_107 (by decide) (fun c_57 => ?_) (fun c_57 => ?_)
                  · skip
                    refine lv_iconst (v := 0) hx hb dX6_hinders_135 (by decide) ?_
                    refine lv_iadd hx hb dX6_hinders_136 ?_
                    refine lv_topi (fun x_58 ex_58 => ?_)
                    refine lv_istore (lv' := [(4, .int x_58), (0, .ref (rt 51)), (1, .int (nI cn)), (2, .int (nI rd)), (3, .int pg), (5, .int a5), (6, .int a6), (7, .int (nI j))]) hx hb dX6_hinders_137 hl (by decide) rfl (fun ls hl => ?_)
                    exact hJ_k _ _ _ ⟨_, trivial, hP, hS, lv_sub hl [1, 2, 3, 4, 5, 6, 7, 0] rfl⟩
                  · skip
                    refine lv_aload_n hx hb dX6_hinders_110 rfl (lv_at hl 0 rfl) ?_
                    refine g_get (ci := 6) (v := .ref (rt 26)) (C := RX6) (T := TX6) (N := 51) hx hb hts uB6 hown hK hP (hC.1.1 51 (by decide)) F_m rfl 26 (by decide) wm_10 (hC.2.2.2 26 (by decide)) dX6_hinders_111 ?_
                    refine lv_iload hx hb dX6_hinders_114 (lv_at hl 7 rfl) ?_
                    refine g_iald hx hb hK hP (hC.1.1 26 (by decide)) F_saleTick (vp_in_nI (by omega) (by decide)) dX6_hinders_116 ?_
                    refine lv_topi (fun x_59 ex_59 => ?_)
                    rw [nI_clamp (by omega)] at ex_59
                    refine lv_aload_n hx hb dX6_hinders_117 rfl (lv_at hl 0 rfl) ?_
                    refine g_get (ci := 6) (v := .int t) (C := RX6) (T := TX6) (N := 51) hx hb hts uB6 hown hK hP (hC.1.1 51 (by decide)) F_m rfl 1 (by decide) wm_13 I_tick dX6_hinders_118 ?_
                    refine lv_aload_n hx hb dX6_hinders_121 rfl (lv_at hl 0 rfl) ?_
                    refine g_get (ci := 6) (v := .ref (rt 18)) (C := RX6) (T := TX6) (N := 51) hx hb hts uB6 hown hK hP (hC.1.1 51 (by decide)) F_m rfl 18 (by decide) wm_51 (hC.2.2.2 18 (by decide)) dX6_hinders_122 ?_
                    refine lv_iload_n hx hb dX6_hinders_125 rfl (lv_at hl 1 rfl) ?_
                    refine g_iald hx hb hK hP (hC.1.1 18 (by decide)) F_span (vp_in_nI (by omega) (by decide)) dX6_hinders_126 ?_
                    refine lv_topi (fun x_60 ex_60 => ?_)
                    rw [nI_clamp (by omega)] at ex_60
                    refine lv_isub hx hb dX6_hinders_127 ?_
                    refine lv_topi (fun x_61 ex_61 => ?_)
                    refine lv_icmp_le (tgt := 135) hx hb dX6_hinders_128 (by decide) (fun c_62 => ?_) (fun c_62 => ?_)
                    · skip
                      refine lv_iconst (v := 0) hx hb dX6_hinders_135 (by decide) ?_
                      refine lv_iadd hx hb dX6_hinders_136 ?_
                      refine lv_topi (fun x_63 ex_63 => ?_)
                      refine lv_istore (lv' := [(4, .int x_63), (0, .ref (rt 51)), (1, .int (nI cn)), (2, .int (nI rd)), (3, .int pg), (5, .int a5), (6, .int a6), (7, .int (nI j))]) hx hb dX6_hinders_137 hl (by decide) rfl (fun ls hl => ?_)
                      exact hJ_k _ _ _ ⟨_, trivial, hP, hS, lv_sub hl [1, 2, 3, 4, 5, 6, 7, 0] rfl⟩
                    · skip
                      refine lv_iconst (v := 1) hx hb dX6_hinders_131 (by decide) ?_
                      refine lv_goto (tgt := 136) hx hb dX6_hinders_132 (by decide) ?_
                      refine lv_iadd hx hb dX6_hinders_136 ?_
                      refine lv_topi (fun x_64 ex_64 => ?_)
                      refine lv_istore (lv' := [(4, .int x_64), (0, .ref (rt 51)), (1, .int (nI cn)), (2, .int (nI rd)), (3, .int pg), (5, .int a5), (6, .int a6), (7, .int (nI j))]) hx hb dX6_hinders_137 hl (by decide) rfl (fun ls hl => ?_)
                      exact hJ_k _ _ _ ⟨_, trivial, hP, hS, lv_sub hl [1, 2, 3, 4, 5, 6, 7, 0] rfl⟩
            · skip
              refine lv_goto (tgt := 222) hx hb dX6_hinders_83 (by decide) ?_
              obtain ⟨x_65, ex_65⟩ : ∃ y : Int32, y = (nI j) + 1 := ⟨_, rfl⟩
              refine lv_iinc (v := x_65) (lv' := [(7, .int x_65), (0, .ref (rt 51)), (1, .int (nI cn)), (2, .int (nI rd)), (3, .int pg), (4, .int a4), (5, .int a5), (6, .int a6)]) hx hb dX6_hinders_222 hl (k := 7) rfl (by rw [ex_65]; rfl) (by decide) rfl (fun ls hl => ?_)
              refine lv_goto (tgt := 63) hx hb dX6_hinders_225 (by decide) ?_
              obtain rfl : x_65 = nI (j + 1) := ex_65.trans (nI_1 j)
              exact ih (n - 1) (by omega) _ _ _ ⟨j + 1, _, _, _, by omega, trivial, hP, hS, lv_sub hl [1, 2, 3, 4, 5, 6, 7, 0] rfl⟩
      · skip
        refine lv_iconst (v := 2) hx hb dX6_hinders_49 (by decide) ?_
        exact W.iret (v := 2) hx hb hr (fun t ht hW => ⟨⟨2, (), rfl, trivial, trivial⟩, hS.F ht⟩) hS.2.2 dX6_hinders_50
  · skip
    refine lv_iconst (v := 1) hx hb dX6_hinders_9 (by decide) ?_
    exact W.iret (v := 1) hx hb hr (fun t ht hW => ⟨⟨1, (), rfl, trivial, trivial⟩, hS.F ht⟩) hS.2.2 dX6_hinders_10
set_option maxHeartbeats 4000000 in
set_option maxRecDepth 100000 in
theorem m_worthOf (l : Launch) (dC : Nat → ClassId) (dI : Nat → Nat → Nat) (K : Nat → ClassId) (L : List Nat) (f : Nat → va_E) (rt : Nat → Nat) {fm : List Value} (hC : mC rt L f fm) {g_sort : Nat → Int32} (F_sort : f (rt 10) = .inl (K 0, 40, .inl g_sort)) {g_bid : Nat → Int32} (F_bid : f (rt 14) = .inl (K 0, 40, .inl g_bid)) {g_pays : Nat → Int32} (F_pays : f (rt 11) = .inl (K 0, 40, .inl g_pays)) {g_promised : Nat → Int32} (F_promised : f (rt 22) = .inl (K 0, 40, .inl g_promised)) {g_promiseDay : Nat → Int32} (F_promiseDay : f (rt 23) = .inl (K 0, 40, .inl g_promiseDay)) {g_promiseFrom : Nat → Int32} (F_promiseFrom : f (rt 24) = .inl (K 0, 40, .inl g_promiseFrom)) {g_saleOf : Nat → Int32} (F_saleOf : f (rt 30) = .inl (K 0, 1000, .inl g_saleOf)) {g_state : Nat → Int32} (F_state : f (rt 32) = .inl (K 0, 1000, .inl g_state)) {g_saleTick : Nat → Int32} (F_saleTick : f (rt 26) = .inl (K 0, 1000, .inl g_saleTick)) {g_pressTick : Nat → Int32} (F_pressTick : f (rt 34) = .inl (K 0, 1000, .inl g_pressTick)) {ns : Nat} {t : Int32} (I_sales : fm[25]? = some (.int (nI ns))) (I_tick : fm[1]? = some (.int t)) (cn : Nat) (z : Nat) (hns : ns ≤ 1000) (hpb : ∀ c, c < 40 → g_promised c = 0 ∨ ∃ a d : Nat, d ≤ 100 ∧ a < 100 * d + 100 ∧ g_promiseDay c = nI d ∧ g_promiseFrom c = nI a) (hbd : ∀ c, c < 40 → ∃ b : Nat, b ≤ 1000 ∧ g_bid c = nI b) (hc : cn < 40) (hz : z ≤ 127) : gRl l yX6_worthOf cX6_worthOf 5 .long 2 (dC, dI) K L f [.ref (rt 51), .int (nI cn), .int (nI z)] (fun r => ∃ w9 : Nat, w9 ≤ 1272270000000 ∧ r = lN w9) := by
  refine Met.ofW (cc := cX6_worthOf) (maxL := 5) (ret := some .long) (by decide) rfl ?_
  intro p e s m args below meth c s₁ B hml hv
  obtain ⟨rfl, hP, hK⟩ := hv
  have F_m := hC.2.1
  have hx := B.exec
  have hb := B.bytes
  have hr := B.returns
  have hlocks := B.notSynchronized
  have hts0 := atoms_spec (ws := Cond.code yX6_worthOf cX6_worthOf 5 (some .long) :: lw_B) B.pre
  have hts : ∀ w ∈ lw_B, w.before _ s = true := fun w h => hts0 w (List.mem_cons_of_mem _ h)
  have hown : s.vm.findClass RX6 = some m.cls := findClass_of_methodNamed B.named
  have hS : va_S (fun _ => False) s.heap s.heap [] := va_S.rf
  have hl := lv_entry ([.ref (rt 51), .int (nI cn), .int (nI z)]) (n := 5) (Nat.le_of_ble_eq_true rfl)
  rw [lg_entry_eq]
  generalize (lg_sl ([.ref (rt 51), .int (nI cn), .int (nI z)]) ++ List.replicate (5 - (lg_sl ([.ref (rt 51), .int (nI cn), .int (nI z)])).length) Slot.unset).toArray = ls at hl ⊢
  have hl : lv_has ls 5 [(0, .ref (rt 51)), (1, .int (nI cn)), (2, .int (nI z))] := hl
  refine lv_aload_n hx hb dX6_worthOf_0 rfl (lv_at hl 0 rfl) ?_
  refine g_get (ci := 6) (v := .ref (rt 10)) (C := RX6) (T := TX6) (N := 51) hx hb hts uB6 hown hK hP (hC.1.1 51 (by decide)) F_m rfl 10 (by decide) wm_21 (hC.2.2.2 10 (by decide)) dX6_worthOf_1 ?_
  refine lv_iload_n hx hb dX6_worthOf_4 rfl (lv_at hl 1 rfl) ?_
  refine g_iald hx hb hK hP (hC.1.1 10 (by decide)) F_sort (vp_in_nI (by omega) (by decide)) dX6_worthOf_5 ?_
  refine lv_topi (fun x_1 ex_1 => ?_)
  rw [nI_clamp (by omega)] at ex_1
  refine lv_iconst (v := 2) hx hb dX6_worthOf_6 (by decide) ?_
  refine lv_icmp_ne (tgt := 12) hx hb dX6_worthOf_7 (by decide) (fun c_2 => ?_) (fun c_2 => ?_)
  · skip
    refine lv_ldc2 (v := 10000) hx hb hown (hts _ wm_52) dX6_worthOf_12 ?_
    refine lv_aload_n hx hb dX6_worthOf_15 rfl (lv_at hl 0 rfl) ?_
    refine g_get (ci := 6) (v := .ref (rt 14)) (C := RX6) (T := TX6) (N := 51) hx hb hts uB6 hown hK hP (hC.1.1 51 (by decide)) F_m rfl 14 (by decide) wm_43 (hC.2.2.2 14 (by decide)) dX6_worthOf_16 ?_
    refine lv_iload_n hx hb dX6_worthOf_19 rfl (lv_at hl 1 rfl) ?_
    refine g_iald hx hb hK hP (hC.1.1 14 (by decide)) F_bid (vp_in_nI (by omega) (by decide)) dX6_worthOf_20 ?_
    refine lv_topi (fun x_3 ex_3 => ?_)
    rw [nI_clamp (by omega)] at ex_3
    refine lv_i2l hx hb dX6_worthOf_21 rfl ?_
    refine lv_topl (fun x_4 ex_4 => ?_)
    refine lv_lmul hx hb dX6_worthOf_22 ?_
    refine lv_topl (fun x_5 ex_5 => ?_)
    refine lv_iload_n hx hb dX6_worthOf_23 rfl (lv_at hl 2 rfl) ?_
    refine lv_i2l hx hb dX6_worthOf_24 rfl ?_
    refine lv_topl (fun x_6 ex_6 => ?_)
    refine lv_lmul hx hb dX6_worthOf_25 ?_
    refine lv_topl (fun x_7 ex_7 => ?_)
    obtain ⟨b9, hb9, eb9⟩ := hbd cn hc
    obtain ⟨w9, hw9, rfl⟩ : ∃ w9 : Nat, w9 ≤ 1270000000 ∧ x_7 = lN w9 := ⟨10000 * b9 * z, k_w3 hb9 hz, by subst ex_1 ex_3 ex_4 ex_5 ex_6 ex_7; rw [eb9]; exact k_w1 hb9 hz⟩
    refine lv_lstore_n (lv' := [(3, .long (lN w9)), (0, .ref (rt 51)), (1, .int (nI cn)), (2, .int (nI z))]) hx hb dX6_worthOf_26 rfl hl (by decide) rfl (fun ls hl => ?_)
    refine lv_aload_n hx hb dX6_worthOf_27 rfl (lv_at hl 1 rfl) ?_
    refine g_get (ci := 6) (v := .ref (rt 11)) (C := RX6) (T := TX6) (N := 51) hx hb hts uB6 hown hK hP (hC.1.1 51 (by decide)) F_m rfl 11 (by decide) wm_1 (hC.2.2.2 11 (by decide)) dX6_worthOf_28 ?_
    refine lv_iload_n hx hb dX6_worthOf_31 rfl (lv_at hl 2 rfl) ?_
    refine g_iald hx hb hK hP (hC.1.1 11 (by decide)) F_pays (vp_in_nI (by omega) (by decide)) dX6_worthOf_32 ?_
    refine lv_topi (fun x_8 ex_8 => ?_)
    rw [nI_clamp (by omega)] at ex_8
    refine lv_iconst (v := 1) hx hb dX6_worthOf_33 (by decide) ?_
    refine lv_icmp_ne (tgt := 66) hx hb dX6_worthOf_34 (by decide) (fun c_9 => ?_) (fun c_9 => ?_)
    · skip
      refine lv_aload_n hx hb dX6_worthOf_66 rfl (lv_at hl 1 rfl) ?_
      refine lv_iload_n hx hb dX6_worthOf_67 rfl (lv_at hl 2 rfl) ?_
      refine gc_R (ci := 6) ⟨hx, hb, hml, hown, hts⟩ (m_isBehind l dC dI K L f rt hC F_sort F_promised F_promiseDay F_promiseFrom F_saleOf F_state F_saleTick I_sales I_tick cn hns hpb hc) 1 wm_53 wm_54 wm_55 wm_8 wm_56 (by decide +kernel) ⟨Nat.le_of_ble_eq_true rfl, Nat.le_of_ble_eq_true rfl⟩ hK rfl (hC.1.1 51 (by decide)) F_m rfl hl.1 rfl (Nat.le_of_ble_eq_true rfl) dX6_worthOf_68 ⟨Nat.le_of_ble_eq_true rfl, Nat.le_of_ble_eq_true rfl⟩ hS hP (fun r_10 H locs hpr_10 hP hS => ?_)
      refine lv_if_eq (tgt := 82) hx hb dX6_worthOf_71 (by decide) (fun c_11 => ?_) (fun c_11 => ?_)
      · skip
        refine lv_lload_n hx hb dX6_worthOf_82 rfl (lv_at hl 0 rfl) ?_
        exact W.lret (v := lN w9) hx hb hr (fun t ht hW => ⟨⟨lN w9, (), rfl, ⟨_, by omega, rfl⟩, trivial⟩, hS.F ht⟩) hS.2.2 dX6_worthOf_83
      · skip
        refine lv_lload_n hx hb dX6_worthOf_74 rfl (lv_at hl 0 rfl) ?_
        refine lv_ldc2 (v := 1000000000) hx hb hown (hts _ wm_57) dX6_worthOf_75 ?_
        refine lv_ladd hx hb dX6_worthOf_78 ?_
        refine lv_topl (fun x_12 ex_12 => ?_)
        refine lv_goto (tgt := 83) hx hb dX6_worthOf_79 (by decide) ?_
        exact W.lret (v := x_12) hx hb hr (fun t ht hW => ⟨⟨x_12, (), rfl, (by subst ex_8 ex_12; exact ⟨_, by omega, (lN_add _ 1000000000)⟩), trivial⟩, hS.F ht⟩) hS.2.2 dX6_worthOf_83
    · skip
      refine lv_lload_n hx hb dX6_worthOf_37 rfl (lv_at hl 0 rfl) ?_
      refine lv_aload_n hx hb dX6_worthOf_38 rfl (lv_at hl 1 rfl) ?_
      refine lv_iload_n hx hb dX6_worthOf_39 rfl (lv_at hl 2 rfl) ?_
      refine lv_aload_n hx hb dX6_worthOf_40 rfl (lv_at hl 1 rfl) ?_
      refine g_get (ci := 6) (v := .int t) (C := RX6) (T := TX6) (N := 51) hx hb hts uB6 hown hK hP (hC.1.1 51 (by decide)) F_m rfl 1 (by decide) wm_13 I_tick dX6_worthOf_41 ?_
      refine gc_R (ci := 6) ⟨hx, hb, hml, hown, hts⟩ (m_presses l dC dI K L f rt hC F_saleOf F_state F_pressTick I_sales (nI cn) t hns) 2 wm_58 wm_59 wm_60 wm_8 wm_61 (by decide +kernel) ⟨Nat.le_of_ble_eq_true rfl, Nat.le_of_ble_eq_true rfl⟩ hK rfl (hC.1.1 51 (by decide)) F_m rfl hl.1 rfl (Nat.le_of_ble_eq_true rfl) dX6_worthOf_44 ⟨Nat.le_of_ble_eq_true rfl, Nat.le_of_ble_eq_true rfl⟩ hS hP (fun r_13 H locs hpr_13 hP hS => ?_)
      obtain ⟨q1, hq1, rfl⟩ := hpr_13
      refine lv_iconst (v := 1) hx hb dX6_worthOf_47 (by decide) ?_
      refine lv_iadd hx hb dX6_worthOf_48 ?_
      refine lv_topi (fun x_14 ex_14 => ?_)
      refine lv_i2l hx hb dX6_worthOf_49 rfl ?_
      refine lv_topl (fun x_15 ex_15 => ?_)
      refine lv_lmul hx hb dX6_worthOf_50 ?_
      refine lv_topl (fun x_16 ex_16 => ?_)
      refine lv_aload_n hx hb dX6_worthOf_51 rfl (lv_at hl 1 rfl) ?_
      refine lv_iload_n hx hb dX6_worthOf_52 rfl (lv_at hl 2 rfl) ?_
      refine lv_aload_n hx hb dX6_worthOf_53 rfl (lv_at hl 1 rfl) ?_
      refine g_get (ci := 6) (v := .int t) (C := RX6) (T := TX6) (N := 51) hx hb hts uB6 hown hK hP (hC.1.1 51 (by decide)) F_m rfl 1 (by decide) wm_13 I_tick dX6_worthOf_54 ?_
      refine gc_R (ci := 6) ⟨hx, hb, hml, hown, hts⟩ (m_showings l dC dI K L f rt hC F_saleOf F_state F_saleTick I_sales (nI cn) t hns) 2 wm_23 wm_24 wm_25 wm_8 wm_26 (by decide +kernel) ⟨Nat.le_of_ble_eq_true rfl, Nat.le_of_ble_eq_true rfl⟩ hK rfl (hC.1.1 51 (by decide)) F_m rfl hl.1 rfl (Nat.le_of_ble_eq_true rfl) dX6_worthOf_57 ⟨Nat.le_of_ble_eq_true rfl, Nat.le_of_ble_eq_true rfl⟩ hS hP (fun r_17 H locs hpr_17 hP hS => ?_)
      obtain ⟨q2, hq2, rfl⟩ := hpr_17
      refine lv_bipush (v := 20) hx hb dX6_worthOf_60 (by decide) ?_
      refine lv_iadd hx hb dX6_worthOf_62 ?_
      refine lv_topi (fun x_18 ex_18 => ?_)
      refine lv_i2l hx hb dX6_worthOf_63 rfl ?_
      refine lv_topl (fun x_19 ex_19 => ?_)
      refine lv_ldiv hx hb dX6_worthOf_64 (by subst ex_8 ex_14 ex_15 ex_16 ex_18 ex_19; exact k_20 (by omega)) ?_
      refine lv_topl (fun x_20 ex_20 => ?_)
      obtain ⟨w92, hw92, rfl⟩ : ∃ w92 : Nat, w92 ≤ 1271270000000 ∧ x_20 = lN w92 := ⟨_, k_w4 (q := q1) (r := q2) hw9 (by omega), by subst ex_8 ex_14 ex_15 ex_16 ex_18 ex_19 ex_20; exact k_w2 hw9 (by omega) (by omega)⟩
      refine lv_lstore_n (lv' := [(3, .long (lN w92)), (0, .ref (rt 51)), (1, .int (nI cn)), (2, .int (nI z))]) hx hb dX6_worthOf_65 rfl hl (by decide) rfl (fun ls hl => ?_)
      refine lv_aload_n hx hb dX6_worthOf_66 rfl (lv_at hl 1 rfl) ?_
      refine lv_iload_n hx hb dX6_worthOf_67 rfl (lv_at hl 2 rfl) ?_
      refine gc_R (ci := 6) ⟨hx, hb, hml, hown, hts⟩ (m_isBehind l dC dI K L f rt hC F_sort F_promised F_promiseDay F_promiseFrom F_saleOf F_state F_saleTick I_sales I_tick cn hns hpb hc) 1 wm_53 wm_54 wm_55 wm_8 wm_56 (by decide +kernel) ⟨Nat.le_of_ble_eq_true rfl, Nat.le_of_ble_eq_true rfl⟩ hK rfl (hC.1.1 51 (by decide)) F_m rfl hl.1 rfl (Nat.le_of_ble_eq_true rfl) dX6_worthOf_68 ⟨Nat.le_of_ble_eq_true rfl, Nat.le_of_ble_eq_true rfl⟩ hS hP (fun r_21 H locs hpr_21 hP hS => ?_)
      refine lv_if_eq (tgt := 82) hx hb dX6_worthOf_71 (by decide) (fun c_22 => ?_) (fun c_22 => ?_)
      · skip
        refine lv_lload_n hx hb dX6_worthOf_82 rfl (lv_at hl 0 rfl) ?_
        exact W.lret (v := lN w92) hx hb hr (fun t ht hW => ⟨⟨lN w92, (), rfl, ⟨_, by omega, rfl⟩, trivial⟩, hS.F ht⟩) hS.2.2 dX6_worthOf_83
      · skip
        refine lv_lload_n hx hb dX6_worthOf_74 rfl (lv_at hl 0 rfl) ?_
        refine lv_ldc2 (v := 1000000000) hx hb hown (hts _ wm_57) dX6_worthOf_75 ?_
        refine lv_ladd hx hb dX6_worthOf_78 ?_
        refine lv_topl (fun x_23 ex_23 => ?_)
        refine lv_goto (tgt := 83) hx hb dX6_worthOf_79 (by decide) ?_
        exact W.lret (v := x_23) hx hb hr (fun t ht hW => ⟨⟨x_23, (), rfl, (by subst ex_23; exact ⟨_, by omega, (lN_add _ 1000000000)⟩), trivial⟩, hS.F ht⟩) hS.2.2 dX6_worthOf_83
  · skip
    refine lv_lconst (v := 0) hx hb dX6_worthOf_10 rfl ?_
    exact W.lret (v := 0) hx hb hr (fun t ht hW => ⟨⟨0, (), rfl, ⟨0, by omega, rfl⟩, trivial⟩, hS.F ht⟩) hS.2.2 dX6_worthOf_11
