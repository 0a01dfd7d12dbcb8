set_option maxHeartbeats 4000000 in
set_option maxRecDepth 100000 in
theorem m_count (l : Launch) (dC : Nat → ClassId) (dI : Nat → Nat → Nat) (K : Nat → ClassId) (L : List Nat) (f : Nat → va_E) (rt : Nat → Nat) {fm : List Value} (hC : mC rt L f fm) {g_state : Nat → Int32} (F_state : f (rt 32) = .inl (K 0, 1000, .inl g_state)) {g_saleOf : Nat → Int32} (F_saleOf : f (rt 30) = .inl (K 0, 1000, .inl g_saleOf)) {g_pays : Nat → Int32} (F_pays : f (rt 11) = .inl (K 0, 40, .inl g_pays)) {g_price : Nat → Int32} (F_price : f (rt 31) = .inl (K 0, 1000, .inl g_price)) {np nc ns : Nat} {tk9 : Int32} (I_pages : fm[5]? = some (.int (nI np))) (I_campaigns : fm[9]? = some (.int (nI nc))) (I_sales : fm[25]? = some (.int (nI ns))) (I_tick : fm[1]? = some (.int tk9)) (x : Int32) (hns : ns ≤ 1000) (hso : ∀ j, j < ns → vp_in (g_saleOf j) 40) : gR l yX6_count cX6_count 4 .int 1 (dC, dI) K L f [.ref (rt 51), .int x] (fun _ => True) := by
  refine Met.ofW (cc := cX6_count) (maxL := 4) (ret := some .int) (by decide) rfl ?_
  intro p e s m args below meth c s₁ B hml hv
  obtain ⟨rfl, hP, hK⟩ := hv
  have F_m := hC.2.1
  have hx := B.exec
  have hb := B.bytes
  have hr := B.returns
  have hlocks := B.notSynchronized
  have hts0 := atoms_spec (ws := Cond.code yX6_count cX6_count 4 (some .int) :: lw_B) B.pre
  have hts : ∀ w ∈ lw_B, w.before _ s = true := fun w h => hts0 w (List.mem_cons_of_mem _ h)
  have hown : s.vm.findClass RX6 = some m.cls := findClass_of_methodNamed B.named
  have hS : va_S (fun _ => False) s.heap s.heap [] := va_S.rf
  have hl := lv_entry ([.ref (rt 51), .int x]) (n := 4) (Nat.le_of_ble_eq_true rfl)
  rw [lg_entry_eq]
  generalize (lg_sl ([.ref (rt 51), .int x]) ++ List.replicate (4 - (lg_sl ([.ref (rt 51), .int x])).length) Slot.unset).toArray = ls at hl ⊢
  have hl : lv_has ls 4 [(0, .ref (rt 51)), (1, .int x)] := hl
  refine lv_iconst (v := 0) hx hb dX6_count_0 (by decide) ?_
  refine lv_istore_n (lv' := [(2, .int 0), (0, .ref (rt 51)), (1, .int x)]) hx hb dX6_count_1 rfl hl (by decide) rfl (fun ls hl => ?_)
  refine lv_iload_n hx hb dX6_count_2 rfl (lv_at hl 2 rfl) ?_
  rcases k_sw5 x with h9 | rfl | rfl | rfl | rfl | rfl | rfl
  · skip
    refine lv_tableOut (tgt := 123) hx hb dX6_count_3 h9 (by decide) ?_
    refine lv_iconst (v := (-1)) hx hb dX6_count_123 (by decide) ?_
    exact W.iret (v := (-1)) hx hb hr (fun t ht hW => ⟨⟨(-1), (), rfl, trivial, trivial⟩, hS.F ht⟩) hS.2.2 dX6_count_124
  · skip
    refine lv_tableIn (off := 37) (tgt := 40) hx hb dX6_count_3 (by decide) (by decide) rfl (by decide) ?_
    refine lv_aload_n hx hb dX6_count_40 rfl (lv_at hl 1 rfl) ?_
    refine g_get (ci := 6) (v := .int (nI np)) (C := RX6) (T := TX6) (N := 51) hx hb hts uB6 hown hK hP (hC.1.1 51 (by decide)) F_m rfl 5 (by decide) wm_75 I_pages dX6_count_41 ?_
    exact W.iret (v := nI np) hx hb hr (fun t ht hW => ⟨⟨nI np, (), rfl, trivial, trivial⟩, hS.F ht⟩) hS.2.2 dX6_count_44
  · skip
    refine lv_tableIn (off := 42) (tgt := 45) hx hb dX6_count_3 (by decide) (by decide) rfl (by decide) ?_
    refine lv_aload_n hx hb dX6_count_45 rfl (lv_at hl 1 rfl) ?_
    refine g_get (ci := 6) (v := .int (nI nc)) (C := RX6) (T := TX6) (N := 51) hx hb hts uB6 hown hK hP (hC.1.1 51 (by decide)) F_m rfl 9 (by decide) wm_76 I_campaigns dX6_count_46 ?_
    exact W.iret (v := nI nc) hx hb hr (fun t ht hW => ⟨⟨nI nc, (), rfl, trivial, trivial⟩, hS.F ht⟩) hS.2.2 dX6_count_49
  · skip
    refine lv_tableIn (off := 47) (tgt := 50) hx hb dX6_count_3 (by decide) (by decide) rfl (by decide) ?_
    refine lv_aload_n hx hb dX6_count_50 rfl (lv_at hl 1 rfl) ?_
    refine g_get (ci := 6) (v := .int (nI ns)) (C := RX6) (T := TX6) (N := 51) hx hb hts uB6 hown hK hP (hC.1.1 51 (by decide)) F_m rfl 25 (by decide) wm_4 I_sales dX6_count_51 ?_
    exact W.iret (v := nI ns) hx hb hr (fun t ht hW => ⟨⟨nI ns, (), rfl, trivial, trivial⟩, hS.F ht⟩) hS.2.2 dX6_count_54
  · skip
    refine lv_tableIn (off := 52) (tgt := 55) hx hb dX6_count_3 (by decide) (by decide) rfl (by decide) ?_
    refine lv_aload_n hx hb dX6_count_55 rfl (lv_at hl 1 rfl) ?_
    refine g_get (ci := 6) (v := .int tk9) (C := RX6) (T := TX6) (N := 51) hx hb hts uB6 hown hK hP (hC.1.1 51 (by decide)) F_m rfl 1 (by decide) wm_13 I_tick dX6_count_56 ?_
    exact W.iret (v := tk9) hx hb hr (fun t ht hW => ⟨⟨tk9, (), rfl, trivial, trivial⟩, hS.F ht⟩) hS.2.2 dX6_count_59
  · skip
    refine lv_tableIn (off := 57) (tgt := 60) hx hb dX6_count_3 (by decide) (by decide) rfl (by decide) ?_
    refine lv_iconst (v := 0) hx hb dX6_count_60 (by decide) ?_
    refine lv_istore_n (lv' := [(3, .int 0), (2, .int 0), (0, .ref (rt 51)), (1, .int 4)]) hx hb dX6_count_61 rfl hl (by decide) rfl (fun ls hl => ?_)
    refine k_lx (pcx := 94) (fun n H locs ls => ∃ (j : Nat) (acc : Int32), j + n = ns ∧ True ∧ va_P (dC, dI) vwCl (va_pl L f) H ∧ va_S (fun _ => False) s.heap H locs ∧ lv_has ls 4 [(0, .ref (rt 51)), (1, .int 4), (2, .int acc), (3, .int (nI j))]) (fun H locs ls => ∃ (j : Nat) (acc : Int32), j = ns ∧ True ∧ va_P (dC, dI) vwCl (va_pl L f) H ∧ va_S (fun _ => False) s.heap H locs ∧ lv_has ls 4 [(0, .ref (rt 51)), (1, .int 4), (2, .int acc), (3, .int (nI j))]) (fun H locs ls hI => ?_) (fun n H locs ls hI hE ih => ?_) ns _ _ _ ⟨0, _, by omega, trivial, hP, hS, lv_sub hl [2, 3, 1, 0] rfl⟩
    · skip
      obtain ⟨j, acc, hj, hacc, hP, hS, hl⟩ := hI
      refine lv_iload_n hx hb dX6_count_94 rfl (lv_at hl 2 rfl) ?_
      exact W.iret (v := acc) hx hb hr (fun t ht hW => ⟨⟨acc, (), rfl, trivial, trivial⟩, hS.F ht⟩) hS.2.2 dX6_count_95
    · skip
      obtain ⟨j, acc, hj, hacc, hP, hS, hl⟩ := hI
      refine lv_iload_n hx hb dX6_count_62 rfl (lv_at hl 3 rfl) ?_
      refine lv_aload_n hx hb dX6_count_63 rfl (lv_at hl 0 rfl) ?_
      refine g_get (ci := 6) (v := .int (nI ns)) (C := RX6) (T := TX6) (N := 51) hx hb hts uB6 hown hK hP (hC.1.1 51 (by decide)) F_m rfl 25 (by decide) wm_4 I_sales dX6_count_64 ?_
      refine lv_icmp_ge (tgt := 94) hx hb dX6_count_67 (by decide) (fun c_1 => ?_) (fun c_1 => ?_)
      · skip
        have hjn : j = ns := by have := (nI_leI (a := ns) (b := j) (by omega) (by omega)).mp c_1; omega
        exact hE _ _ _ ⟨j, _, by omega, hacc, hP, hS, lv_sub hl [0, 1, 2, 3] rfl⟩
      · skip
        have hjn : j < ns := by rcases Nat.lt_or_ge j ns with q | q; exact q; exact absurd (nI_le q (by omega)) c_1
        refine lv_iload_n hx hb dX6_count_70 rfl (lv_at hl 2 rfl) ?_
        refine lv_aload_n hx hb dX6_count_71 rfl (lv_at hl 0 rfl) ?_
        refine g_get (ci := 6) (v := .ref (rt 32)) (C := RX6) (T := TX6) (N := 51) hx hb hts uB6 hown hK hP (hC.1.1 51 (by decide)) F_m rfl 32 (by decide) wm_0 (hC.2.2.2 32 (by decide)) dX6_count_72 ?_
        refine lv_iload_n hx hb dX6_count_75 rfl (lv_at hl 3 rfl) ?_
        refine g_iald hx hb hK hP (hC.1.1 32 (by decide)) F_state (vp_in_nI (by omega) (by decide)) dX6_count_76 ?_
        refine lv_topi (fun x_2 ex_2 => ?_)
        rw [nI_clamp (by omega)] at ex_2
        refine lv_iconst (v := 3) hx hb dX6_count_77 (by decide) ?_
        refine lv_icmp_ne (tgt := 85) hx hb dX6_count_78 (by decide) (fun c_3 => ?_) (fun c_3 => ?_)
        · skip
          refine lv_iconst (v := 0) hx hb dX6_count_85 (by decide) ?_
          refine lv_iadd hx hb dX6_count_86 ?_
          refine lv_topi (fun x_4 ex_4 => ?_)
          refine lv_istore_n (lv' := [(2, .int x_4), (0, .ref (rt 51)), (1, .int 4), (3, .int (nI j))]) hx hb dX6_count_87 rfl hl (by decide) rfl (fun ls hl => ?_)
          obtain ⟨x_5, ex_5⟩ : ∃ y : Int32, y = (nI j) + 1 := ⟨_, rfl⟩
          refine lv_iinc (v := x_5) (lv' := [(3, .int x_5), (2, .int x_4), (0, .ref (rt 51)), (1, .int 4)]) hx hb dX6_count_88 hl (k := 3) rfl (by rw [ex_5]; rfl) (by decide) rfl (fun ls hl => ?_)
          refine lv_goto (tgt := 62) hx hb dX6_count_91 (by decide) ?_
          obtain rfl : x_5 = nI (j + 1) := ex_5.trans (nI_1 j)
          exact ih (n - 1) (by omega) _ _ _ ⟨j + 1, _, by omega, trivial, hP, hS, lv_sub hl [2, 3, 1, 0] rfl⟩
        · skip
          refine lv_iconst (v := 1) hx hb dX6_count_81 (by decide) ?_
          refine lv_goto (tgt := 86) hx hb dX6_count_82 (by decide) ?_
          refine lv_iadd hx hb dX6_count_86 ?_
          refine lv_topi (fun x_6 ex_6 => ?_)
          refine lv_istore_n (lv' := [(2, .int x_6), (0, .ref (rt 51)), (1, .int 4), (3, .int (nI j))]) hx hb dX6_count_87 rfl hl (by decide) rfl (fun ls hl => ?_)
          obtain ⟨x_7, ex_7⟩ : ∃ y : Int32, y = (nI j) + 1 := ⟨_, rfl⟩
          refine lv_iinc (v := x_7) (lv' := [(3, .int x_7), (2, .int x_6), (0, .ref (rt 51)), (1, .int 4)]) hx hb dX6_count_88 hl (k := 3) rfl (by rw [ex_7]; rfl) (by decide) rfl (fun ls hl => ?_)
          refine lv_goto (tgt := 62) hx hb dX6_count_91 (by decide) ?_
          obtain rfl : x_7 = nI (j + 1) := ex_7.trans (nI_1 j)
          exact ih (n - 1) (by omega) _ _ _ ⟨j + 1, _, by omega, trivial, hP, hS, lv_sub hl [2, 3, 1, 0] rfl⟩
  · skip
    refine lv_tableIn (off := 93) (tgt := 96) hx hb dX6_count_3 (by decide) (by decide) rfl (by decide) ?_
    refine lv_iconst (v := 0) hx hb dX6_count_96 (by decide) ?_
    refine lv_istore_n (lv' := [(3, .int 0), (2, .int 0), (0, .ref (rt 51)), (1, .int 5)]) hx hb dX6_count_97 rfl hl (by decide) rfl (fun ls hl => ?_)
    refine k_lx (pcx := 121) (fun n H locs ls => ∃ (j : Nat) (acc : Int32), j + n = ns ∧ True ∧ va_P (dC, dI) vwCl (va_pl L f) H ∧ va_S (fun _ => False) s.heap H locs ∧ lv_has ls 4 [(0, .ref (rt 51)), (1, .int 5), (2, .int acc), (3, .int (nI j))]) (fun H locs ls => ∃ (j : Nat) (acc : Int32), j = ns ∧ True ∧ va_P (dC, dI) vwCl (va_pl L f) H ∧ va_S (fun _ => False) s.heap H locs ∧ lv_has ls 4 [(0, .ref (rt 51)), (1, .int 5), (2, .int acc), (3, .int (nI j))]) (fun H locs ls hI => ?_) (fun n H locs ls hI hE ih => ?_) ns _ _ _ ⟨0, _, by omega, trivial, hP, hS, lv_sub hl [2, 3, 1, 0] rfl⟩
    · skip
      obtain ⟨j, acc, hj, hacc, hP, hS, hl⟩ := hI
      refine lv_iload_n hx hb dX6_count_121 rfl (lv_at hl 2 rfl) ?_
      exact W.iret (v := acc) hx hb hr (fun t ht hW => ⟨⟨acc, (), rfl, trivial, trivial⟩, hS.F ht⟩) hS.2.2 dX6_count_122
    · skip
      obtain ⟨j, acc, hj, hacc, hP, hS, hl⟩ := hI
      refine lv_iload_n hx hb dX6_count_98 rfl (lv_at hl 3 rfl) ?_
      refine lv_aload_n hx hb dX6_count_99 rfl (lv_at hl 0 rfl) ?_
      refine g_get (ci := 6) (v := .int (nI ns)) (C := RX6) (T := TX6) (N := 51) hx hb hts uB6 hown hK hP (hC.1.1 51 (by decide)) F_m rfl 25 (by decide) wm_4 I_sales dX6_count_100 ?_
      refine lv_icmp_ge (tgt := 121) hx hb dX6_count_103 (by decide) (fun c_8 => ?_) (fun c_8 => ?_)
      · skip
        have hjn : j = ns := by have := (nI_leI (a := ns) (b := j) (by omega) (by omega)).mp c_8; omega
        exact hE _ _ _ ⟨j, _, by omega, hacc, hP, hS, lv_sub hl [0, 1, 2, 3] rfl⟩
      · skip
        have hjn : j < ns := by rcases Nat.lt_or_ge j ns with q | q; exact q; exact absurd (nI_le q (by omega)) c_8
        refine lv_iload_n hx hb dX6_count_106 rfl (lv_at hl 2 rfl) ?_
        refine lv_aload_n hx hb dX6_count_107 rfl (lv_at hl 0 rfl) ?_
        refine lv_iload_n hx hb dX6_count_108 rfl (lv_at hl 3 rfl) ?_
        refine lv_iconst (v := 0) hx hb dX6_count_109 (by decide) ?_
        refine gc_R (ci := 6) ⟨hx, hb, hml, hown, hts⟩ (m_coins l dC dI K L f rt hC F_state F_saleOf F_pays F_price j 0 hns hso hjn) 2 wm_5 wm_6 wm_7 wm_8 wm_9 (by decide +kernel) ⟨Nat.le_of_ble_eq_true rfl, Nat.le_of_ble_eq_true rfl⟩ hK rfl (hC.1.1 51 (by decide)) F_m rfl hl.1 rfl (Nat.le_of_ble_eq_true rfl) dX6_count_110 ⟨Nat.le_of_ble_eq_true rfl, Nat.le_of_ble_eq_true rfl⟩ hS hP (fun r_9 H locs hpr_9 hP hS => ?_)
        refine lv_iadd hx hb dX6_count_113 ?_
        refine lv_topi (fun x_10 ex_10 => ?_)
        refine lv_istore_n (lv' := [(2, .int x_10), (0, .ref (rt 51)), (1, .int 5), (3, .int (nI j))]) hx hb dX6_count_114 rfl hl (by decide) rfl (fun ls hl => ?_)
        obtain ⟨x_11, ex_11⟩ : ∃ y : Int32, y = (nI j) + 1 := ⟨_, rfl⟩
        refine lv_iinc (v := x_11) (lv' := [(3, .int x_11), (2, .int x_10), (0, .ref (rt 51)), (1, .int 5)]) hx hb dX6_count_115 hl (k := 3) rfl (by rw [ex_11]; rfl) (by decide) rfl (fun ls hl => ?_)
        refine lv_goto (tgt := 98) hx hb dX6_count_118 (by decide) ?_
        obtain rfl : x_11 = nI (j + 1) := ex_11.trans (nI_1 j)
        exact ih (n - 1) (by omega) _ _ _ ⟨j + 1, _, by omega, trivial, hP, hS, lv_sub hl [2, 3, 1, 0] rfl⟩
set_option maxHeartbeats 4000000 in
set_option maxRecDepth 100000 in
theorem um_press (l : Launch) (dC : Nat → ClassId) (dI : Nat → Nat → Nat) (K : Nat → ClassId) (L : List Nat) (f : Nat → va_E) (rt : Nat → Nat) {fm : List Value} (hC : mC rt L f fm) {g_pays : Nat → Int32} (F_pays : f (rt 11) = .inl (K 0, 40, .inl g_pays)) {g_saleOf : Nat → Int32} (F_saleOf : f (rt 30) = .inl (K 0, 1000, .inl g_saleOf)) {g_state : Nat → Int32} (F_state : f (rt 32) = .inl (K 0, 1000, .inl g_state)) {g_saleTick : Nat → Int32} (F_saleTick : f (rt 26) = .inl (K 0, 1000, .inl g_saleTick)) {g_saleWait : Nat → Int32} (F_saleWait : f (rt 33) = .inl (K 0, 1000, .inl g_saleWait)) {g_pressTick : Nat → Int32} (F_pressTick : f (rt 34) = .inl (K 0, 1000, .inl g_pressTick)) {ns : Nat} {t : Int32} (I_sales : fm[25]? = some (.int (nI ns))) (I_tick : fm[1]? = some (.int t)) (x : Int32) (hns : ns ≤ 1000) (hso : ∀ j, j < ns → vp_in (g_saleOf j) 40) (hLn : gN L) : gMi l yX6_press cX6_press 3 2 (dC, dI) K L f [.ref (rt 51), .int x] (fun _ f' => f' = f ∨ ∃ g1 g2 : Nat → Int32, f' = va_up (va_up f (rt 32) (.inl (K 0, 1000, .inl g1))) (rt 34) (.inl (K 0, 1000, .inl g2))) := by
  refine Met.ofW (cc := cX6_press) (maxL := 3) (ret := (some .int)) (by decide) rfl ?_
  intro p e s m args below meth c s₁ B hml hv
  obtain ⟨rfl, hP, hK⟩ := hv
  have F_m := hC.2.1
  have hD : va_D (fun q : Nat => q ∈ L) (va_pl L f) := g_D hLn (fun a h => h) f
  generalize hAe : (fun q : Nat => q ∈ L) = A at hD ⊢
  have hx := B.exec
  have hb := B.bytes
  have hr := B.returns
  have hlocks := B.notSynchronized
  have hts0 := atoms_spec (ws := Cond.code yX6_press cX6_press 3 (some .int) :: lw_B) B.pre
  have hts : ∀ w ∈ lw_B, w.before _ s = true := fun w h => hts0 w (List.mem_cons_of_mem _ h)
  have hown : s.vm.findClass RX6 = some m.cls := findClass_of_methodNamed B.named
  have hS : va_S A s.heap s.heap [] := va_S.rf
  have hl := lv_entry ([.ref (rt 51), .int x]) (n := 3) (Nat.le_of_ble_eq_true rfl)
  rw [lg_entry_eq]
  generalize (lg_sl ([.ref (rt 51), .int x]) ++ List.replicate (3 - (lg_sl ([.ref (rt 51), .int x])).length) Slot.unset).toArray = ls at hl ⊢
  have hl : lv_has ls 3 [(0, .ref (rt 51)), (1, .int x)] := hl
  refine lv_aload_n hx hb dX6_press_0 rfl (lv_at hl 0 rfl) ?_
  refine lv_iload_n hx hb dX6_press_1 rfl (lv_at hl 1 rfl) ?_
  refine gc_R (ci := 6) ⟨hx, hb, hml, hown, hts⟩ (m_isSale l dC dI K L f rt hC I_sales x) 1 wm_105 wm_106 wm_107 wm_8 wm_108 (by decide +kernel) ⟨Nat.le_of_ble_eq_true rfl, Nat.le_of_ble_eq_true rfl⟩ hK rfl (hC.1.1 51 (by decide)) F_m rfl hl.1 rfl (Nat.le_of_ble_eq_true rfl) dX6_press_2 ⟨Nat.le_of_ble_eq_true rfl, Nat.le_of_ble_eq_true rfl⟩ hS hP (fun r_1 H locs hpr_1 hP hS => ?_)
  refine lv_if_ne (tgt := 10) hx hb dX6_press_5 (by decide) (fun c_2 => ?_) (fun c_2 => ?_)
  · skip
    have g_2 := k_ft hpr_1 c_2
    have hcd_sn := g_2
    obtain ⟨sn, hsn, rfl⟩ := k_ix g_2 (by omega)
    refine lv_aload_n hx hb dX6_press_10 rfl (lv_at hl 0 rfl) ?_
    refine g_get (ci := 6) (v := .ref (rt 11)) (C := RX6) (T := TX6) (N := 51) hx hb hts uB6 hown hK hP (hC.1.1 51 (by decide)) F_m rfl 11 (by decide) wm_1 (hC.2.2.2 11 (by decide)) dX6_press_11 ?_
    refine lv_aload_n hx hb dX6_press_14 rfl (lv_at hl 0 rfl) ?_
    refine g_get (ci := 6) (v := .ref (rt 30)) (C := RX6) (T := TX6) (N := 51) hx hb hts uB6 hown hK hP (hC.1.1 51 (by decide)) F_m rfl 30 (by decide) wm_2 (hC.2.2.2 30 (by decide)) dX6_press_15 ?_
    refine lv_iload_n hx hb dX6_press_18 rfl (lv_at hl 1 rfl) ?_
    refine g_iald hx hb hK hP (hC.1.1 30 (by decide)) F_saleOf (vp_in_nI (by omega) (by decide)) dX6_press_19 ?_
    refine lv_topi (fun x_3 ex_3 => ?_)
    rw [nI_clamp (by omega)] at ex_3
    refine g_iald hx hb hK hP (hC.1.1 11 (by decide)) F_pays (by rw [ex_3]; exact hso sn hsn) dX6_press_20 ?_
    refine lv_topi (fun x_4 ex_4 => ?_)
    refine lv_iconst (v := 1) hx hb dX6_press_21 (by decide) ?_
    refine lv_icmp_ne (tgt := 43) hx hb dX6_press_22 (by decide) (fun c_5 => ?_) (fun c_5 => ?_)
    · skip
      refine lv_aload_n hx hb dX6_press_43 rfl (lv_at hl 0 rfl) ?_
      refine g_get (ci := 6) (v := .ref (rt 32)) (C := RX6) (T := TX6) (N := 51) hx hb hts uB6 hown hK hP (hC.1.1 51 (by decide)) F_m rfl 32 (by decide) wm_0 (hC.2.2.2 32 (by decide)) dX6_press_44 ?_
      refine lv_iload_n hx hb dX6_press_47 rfl (lv_at hl 1 rfl) ?_
      refine g_iald hx hb hK hP (hC.1.1 32 (by decide)) F_state (vp_in_nI (by omega) (by decide)) dX6_press_48 ?_
      refine lv_topi (fun x_6 ex_6 => ?_)
      rw [nI_clamp (by omega)] at ex_6
      refine lv_if_ne (tgt := 76) hx hb dX6_press_49 (by decide) (fun c_7 => ?_) (fun c_7 => ?_)
      · skip
        refine lv_iconst (v := 0) hx hb dX6_press_76 (by decide) ?_
        refine lv_istore_n (lv' := [(2, .int 0), (0, .ref (rt 51)), (1, .int (nI sn))]) hx hb dX6_press_77 rfl hl (by decide) rfl (fun ls hl => ?_)
        refine lv_iload_n hx hb dX6_press_78 rfl (lv_at hl 0 rfl) ?_
        refine lv_if_ne (tgt := 85) hx hb dX6_press_79 (by decide) (fun h9 => absurd (by decide) h9) (fun _ => ?_)
        refine lv_bipush (v := (-2)) hx hb dX6_press_82 (by decide) ?_
        exact W.iret (v := (-2)) hx hb hr (fun t ht hW => ⟨⟨(-2), f, rfl, (Or.inl rfl), by show va_P (dC, dI) vwCl (va_pl L f) t.heap; rw [ht]; exact hP⟩, hS.F ht⟩) hS.2.2 dX6_press_84
      · skip
        refine lv_aload_n hx hb dX6_press_52 rfl (lv_at hl 0 rfl) ?_
        refine g_get (ci := 6) (v := .int t) (C := RX6) (T := TX6) (N := 51) hx hb hts uB6 hown hK hP (hC.1.1 51 (by decide)) F_m rfl 1 (by decide) wm_13 I_tick dX6_press_53 ?_
        refine lv_aload_n hx hb dX6_press_56 rfl (lv_at hl 0 rfl) ?_
        refine g_get (ci := 6) (v := .ref (rt 26)) (C := RX6) (T := TX6) (N := 51) hx hb hts uB6 hown hK hP (hC.1.1 51 (by decide)) F_m rfl 26 (by decide) wm_10 (hC.2.2.2 26 (by decide)) dX6_press_57 ?_
        refine lv_iload_n hx hb dX6_press_60 rfl (lv_at hl 1 rfl) ?_
        refine g_iald hx hb hK hP (hC.1.1 26 (by decide)) F_saleTick (vp_in_nI (by omega) (by decide)) dX6_press_61 ?_
        refine lv_topi (fun x_8 ex_8 => ?_)
        rw [nI_clamp (by omega)] at ex_8
        refine lv_aload_n hx hb dX6_press_62 rfl (lv_at hl 0 rfl) ?_
        refine g_get (ci := 6) (v := .ref (rt 33)) (C := RX6) (T := TX6) (N := 51) hx hb hts uB6 hown hK hP (hC.1.1 51 (by decide)) F_m rfl 33 (by decide) wm_122 (hC.2.2.2 33 (by decide)) dX6_press_63 ?_
        refine lv_iload_n hx hb dX6_press_66 rfl (lv_at hl 1 rfl) ?_
        refine g_iald hx hb hK hP (hC.1.1 33 (by decide)) F_saleWait (vp_in_nI (by omega) (by decide)) dX6_press_67 ?_
        refine lv_topi (fun x_9 ex_9 => ?_)
        rw [nI_clamp (by omega)] at ex_9
        refine lv_iadd hx hb dX6_press_68 ?_
        refine lv_topi (fun x_10 ex_10 => ?_)
        refine lv_icmp_gt (tgt := 76) hx hb dX6_press_69 (by decide) (fun c_11 => ?_) (fun c_11 => ?_)
        · skip
          refine lv_iconst (v := 0) hx hb dX6_press_76 (by decide) ?_
          refine lv_istore_n (lv' := [(2, .int 0), (0, .ref (rt 51)), (1, .int (nI sn))]) hx hb dX6_press_77 rfl hl (by decide) rfl (fun ls hl => ?_)
          refine lv_iload_n hx hb dX6_press_78 rfl (lv_at hl 0 rfl) ?_
          refine lv_if_ne (tgt := 85) hx hb dX6_press_79 (by decide) (fun h9 => absurd (by decide) h9) (fun _ => ?_)
          refine lv_bipush (v := (-2)) hx hb dX6_press_82 (by decide) ?_
          exact W.iret (v := (-2)) hx hb hr (fun t ht hW => ⟨⟨(-2), f, rfl, (Or.inl rfl), by show va_P (dC, dI) vwCl (va_pl L f) t.heap; rw [ht]; exact hP⟩, hS.F ht⟩) hS.2.2 dX6_press_84
        · skip
          refine lv_iconst (v := 1) hx hb dX6_press_72 (by decide) ?_
          refine lv_goto (tgt := 77) hx hb dX6_press_73 (by decide) ?_
          refine lv_istore_n (lv' := [(2, .int 1), (0, .ref (rt 51)), (1, .int (nI sn))]) hx hb dX6_press_77 rfl hl (by decide) rfl (fun ls hl => ?_)
          refine lv_iload_n hx hb dX6_press_78 rfl (lv_at hl 0 rfl) ?_
          refine lv_if_ne (tgt := 85) hx hb dX6_press_79 (by decide) (fun _ => ?_) (fun h9 => absurd h9 (by decide))
          refine lv_aload_n hx hb dX6_press_85 rfl (lv_at hl 1 rfl) ?_
          refine g_get (ci := 6) (v := .ref (rt 32)) (C := RX6) (T := TX6) (N := 51) hx hb hts uB6 hown hK hP (hC.1.1 51 (by decide)) F_m rfl 32 (by decide) wm_0 (hC.2.2.2 32 (by decide)) dX6_press_86 ?_
          refine lv_iload_n hx hb dX6_press_89 rfl (lv_at hl 2 rfl) ?_
          refine lv_iconst (v := 2) hx hb dX6_press_90 (by decide) ?_
          refine g_iast hx hb hK hP hD hS (hC.1.1 32 (by decide)) F_state (vp_in_nI (by omega) (by decide)) dX6_press_91 (fun H locs hP hD hS => ?_)
          obtain ⟨g_12, eg_12⟩ : ∃ z9, z9 = upd g_state (Int32.toNatClampNeg (nI sn)) 2 := ⟨_, rfl⟩
          rw [← eg_12] at hP hD
          obtain ⟨f_13, ef_13⟩ : ∃ z9, z9 = va_up f (rt 32) (.inl (K 0, 1000, .inl g_12)) := ⟨_, rfl⟩
          have hP : va_P (dC, dI) vwCl (va_pl L f_13) H := by rw [ef_13]; exact hP
          have hD : va_D A (va_pl L f_13) := by rw [ef_13]; exact hD
          have F_m_ : f_13 (rt 51) = .inr (6, fm) := by rw [ef_13, va_up_ne _ _ (fun q => absurd (hC.1.2 51 (by decide) 32 (by decide) q) (by decide))]; exact F_m
          have F_pays_ : f_13 (rt 11) = .inl (K 0, 40, .inl g_pays) := by rw [ef_13, va_up_ne _ _ (fun q => absurd (hC.1.2 11 (by decide) 32 (by decide) q) (by decide))]; exact F_pays
          have F_saleOf_ : f_13 (rt 30) = .inl (K 0, 1000, .inl g_saleOf) := by rw [ef_13, va_up_ne _ _ (fun q => absurd (hC.1.2 30 (by decide) 32 (by decide) q) (by decide))]; exact F_saleOf
          have F_saleTick_ : f_13 (rt 26) = .inl (K 0, 1000, .inl g_saleTick) := by rw [ef_13, va_up_ne _ _ (fun q => absurd (hC.1.2 26 (by decide) 32 (by decide) q) (by decide))]; exact F_saleTick
          have F_saleWait_ : f_13 (rt 33) = .inl (K 0, 1000, .inl g_saleWait) := by rw [ef_13, va_up_ne _ _ (fun q => absurd (hC.1.2 33 (by decide) 32 (by decide) q) (by decide))]; exact F_saleWait
          have F_pressTick_ : f_13 (rt 34) = .inl (K 0, 1000, .inl g_pressTick) := by rw [ef_13, va_up_ne _ _ (fun q => absurd (hC.1.2 34 (by decide) 32 (by decide) q) (by decide))]; exact F_pressTick
          have F_m := F_m_
          have F_pays := F_pays_
          have F_saleOf := F_saleOf_
          have F_saleTick := F_saleTick_
          have F_saleWait := F_saleWait_
          have F_pressTick := F_pressTick_
          have F_state : f_13 (rt 32) = .inl (K 0, 1000, .inl g_12) := by rw [ef_13, va_up_self]
          have hC : mC rt L f_13 fm := ⟨hC.1, F_m, hC.2.2.1, hC.2.2.2⟩
          refine lv_aload_n hx hb dX6_press_92 rfl (lv_at hl 1 rfl) ?_
          refine g_get (ci := 6) (v := .ref (rt 34)) (C := RX6) (T := TX6) (N := 51) hx hb hts uB6 hown hK hP (hC.1.1 51 (by decide)) F_m rfl 34 (by decide) wm_11 (hC.2.2.2 34 (by decide)) dX6_press_93 ?_
          refine lv_iload_n hx hb dX6_press_96 rfl (lv_at hl 2 rfl) ?_
          refine lv_aload_n hx hb dX6_press_97 rfl (lv_at hl 1 rfl) ?_
          refine g_get (ci := 6) (v := .int t) (C := RX6) (T := TX6) (N := 51) hx hb hts uB6 hown hK hP (hC.1.1 51 (by decide)) F_m rfl 1 (by decide) wm_13 I_tick dX6_press_98 ?_
          refine g_iast hx hb hK hP hD hS (hC.1.1 34 (by decide)) F_pressTick (vp_in_nI (by omega) (by decide)) dX6_press_101 (fun H locs hP hD hS => ?_)
          obtain ⟨g_14, eg_14⟩ : ∃ z9, z9 = upd g_pressTick (Int32.toNatClampNeg (nI sn)) t := ⟨_, rfl⟩
          rw [← eg_14] at hP hD
          obtain ⟨f_15, ef_15⟩ : ∃ z9, z9 = va_up f_13 (rt 34) (.inl (K 0, 1000, .inl g_14)) := ⟨_, rfl⟩
          have hP : va_P (dC, dI) vwCl (va_pl L f_15) H := by rw [ef_15]; exact hP
          have hD : va_D A (va_pl L f_15) := by rw [ef_15]; exact hD
          have F_m_ : f_15 (rt 51) = .inr (6, fm) := by rw [ef_15, va_up_ne _ _ (fun q => absurd (hC.1.2 51 (by decide) 34 (by decide) q) (by decide))]; exact F_m
          have F_pays_ : f_15 (rt 11) = .inl (K 0, 40, .inl g_pays) := by rw [ef_15, va_up_ne _ _ (fun q => absurd (hC.1.2 11 (by decide) 34 (by decide) q) (by decide))]; exact F_pays
          have F_saleOf_ : f_15 (rt 30) = .inl (K 0, 1000, .inl g_saleOf) := by rw [ef_15, va_up_ne _ _ (fun q => absurd (hC.1.2 30 (by decide) 34 (by decide) q) (by decide))]; exact F_saleOf
          have F_state_ : f_15 (rt 32) = .inl (K 0, 1000, .inl g_12) := by rw [ef_15, va_up_ne _ _ (fun q => absurd (hC.1.2 32 (by decide) 34 (by decide) q) (by decide))]; exact F_state
          have F_saleTick_ : f_15 (rt 26) = .inl (K 0, 1000, .inl g_saleTick) := by rw [ef_15, va_up_ne _ _ (fun q => absurd (hC.1.2 26 (by decide) 34 (by decide) q) (by decide))]; exact F_saleTick
          have F_saleWait_ : f_15 (rt 33) = .inl (K 0, 1000, .inl g_saleWait) := by rw [ef_15, va_up_ne _ _ (fun q => absurd (hC.1.2 33 (by decide) 34 (by decide) q) (by decide))]; exact F_saleWait
          have F_m := F_m_
          have F_pays := F_pays_
          have F_saleOf := F_saleOf_
          have F_state := F_state_
          have F_saleTick := F_saleTick_
          have F_saleWait := F_saleWait_
          have F_pressTick : f_15 (rt 34) = .inl (K 0, 1000, .inl g_14) := by rw [ef_15, va_up_self]
          have hC : mC rt L f_15 fm := ⟨hC.1, F_m, hC.2.2.1, hC.2.2.2⟩
          refine lv_iconst (v := 1) hx hb dX6_press_102 (by decide) ?_
          exact W.iret (v := 1) hx hb hr (fun t ht hW => ⟨⟨1, f_15, rfl, (Or.inr ⟨_, _, by rw [ef_15, ef_13]⟩), by show va_P (dC, dI) vwCl (va_pl L f_15) t.heap; rw [ht]; exact hP⟩, hS.F ht⟩) hS.2.2 dX6_press_103
    · skip
      refine lv_aload_n hx hb dX6_press_25 rfl (lv_at hl 0 rfl) ?_
      refine g_get (ci := 6) (v := .ref (rt 32)) (C := RX6) (T := TX6) (N := 51) hx hb hts uB6 hown hK hP (hC.1.1 51 (by decide)) F_m rfl 32 (by decide) wm_0 (hC.2.2.2 32 (by decide)) dX6_press_26 ?_
      refine lv_iload_n hx hb dX6_press_29 rfl (lv_at hl 1 rfl) ?_
      refine g_iald hx hb hK hP (hC.1.1 32 (by decide)) F_state (vp_in_nI (by omega) (by decide)) dX6_press_30 ?_
      refine lv_topi (fun x_16 ex_16 => ?_)
      rw [nI_clamp (by omega)] at ex_16
      refine lv_iconst (v := 1) hx hb dX6_press_31 (by decide) ?_
      refine lv_icmp_ne (tgt := 39) hx hb dX6_press_32 (by decide) (fun c_17 => ?_) (fun c_17 => ?_)
      · skip
        refine lv_iconst (v := 0) hx hb dX6_press_39 (by decide) ?_
        refine lv_goto (tgt := 77) hx hb dX6_press_40 (by decide) ?_
        refine lv_istore_n (lv' := [(2, .int 0), (0, .ref (rt 51)), (1, .int (nI sn))]) hx hb dX6_press_77 rfl hl (by decide) rfl (fun ls hl => ?_)
        refine lv_iload_n hx hb dX6_press_78 rfl (lv_at hl 0 rfl) ?_
        refine lv_if_ne (tgt := 85) hx hb dX6_press_79 (by decide) (fun h9 => absurd (by decide) h9) (fun _ => ?_)
        refine lv_bipush (v := (-2)) hx hb dX6_press_82 (by decide) ?_
        exact W.iret (v := (-2)) hx hb hr (fun t ht hW => ⟨⟨(-2), f, rfl, (Or.inl rfl), by show va_P (dC, dI) vwCl (va_pl L f) t.heap; rw [ht]; exact hP⟩, hS.F ht⟩) hS.2.2 dX6_press_84
      · skip
        refine lv_iconst (v := 1) hx hb dX6_press_35 (by decide) ?_
        refine lv_goto (tgt := 77) hx hb dX6_press_36 (by decide) ?_
        refine lv_istore_n (lv' := [(2, .int 1), (0, .ref (rt 51)), (1, .int (nI sn))]) hx hb dX6_press_77 rfl hl (by decide) rfl (fun ls hl => ?_)
        refine lv_iload_n hx hb dX6_press_78 rfl (lv_at hl 0 rfl) ?_
        refine lv_if_ne (tgt := 85) hx hb dX6_press_79 (by decide) (fun _ => ?_) (fun h9 => absurd h9 (by decide))
        refine lv_aload_n hx hb dX6_press_85 rfl (lv_at hl 1 rfl) ?_
        refine g_get (ci := 6) (v := .ref (rt 32)) (C := RX6) (T := TX6) (N := 51) hx hb hts uB6 hown hK hP (hC.1.1 51 (by decide)) F_m rfl 32 (by decide) wm_0 (hC.2.2.2 32 (by decide)) dX6_press_86 ?_
        refine lv_iload_n hx hb dX6_press_89 rfl (lv_at hl 2 rfl) ?_
        refine lv_iconst (v := 2) hx hb dX6_press_90 (by decide) ?_
        refine g_iast hx hb hK hP hD hS (hC.1.1 32 (by decide)) F_state (vp_in_nI (by omega) (by decide)) dX6_press_91 (fun H locs hP hD hS => ?_)
        obtain ⟨g_18, eg_18⟩ : ∃ z9, z9 = upd g_state (Int32.toNatClampNeg (nI sn)) 2 := ⟨_, rfl⟩
        rw [← eg_18] at hP hD
        obtain ⟨f_19, ef_19⟩ : ∃ z9, z9 = va_up f (rt 32) (.inl (K 0, 1000, .inl g_18)) := ⟨_, rfl⟩
        have hP : va_P (dC, dI) vwCl (va_pl L f_19) H := by rw [ef_19]; exact hP
        have hD : va_D A (va_pl L f_19) := by rw [ef_19]; exact hD
        have F_m_ : f_19 (rt 51) = .inr (6, fm) := by rw [ef_19, va_up_ne _ _ (fun q => absurd (hC.1.2 51 (by decide) 32 (by decide) q) (by decide))]; exact F_m
        have F_pays_ : f_19 (rt 11) = .inl (K 0, 40, .inl g_pays) := by rw [ef_19, va_up_ne _ _ (fun q => absurd (hC.1.2 11 (by decide) 32 (by decide) q) (by decide))]; exact F_pays
        have F_saleOf_ : f_19 (rt 30) = .inl (K 0, 1000, .inl g_saleOf) := by rw [ef_19, va_up_ne _ _ (fun q => absurd (hC.1.2 30 (by decide) 32 (by decide) q) (by decide))]; exact F_saleOf
        have F_saleTick_ : f_19 (rt 26) = .inl (K 0, 1000, .inl g_saleTick) := by rw [ef_19, va_up_ne _ _ (fun q => absurd (hC.1.2 26 (by decide) 32 (by decide) q) (by decide))]; exact F_saleTick
        have F_saleWait_ : f_19 (rt 33) = .inl (K 0, 1000, .inl g_saleWait) := by rw [ef_19, va_up_ne _ _ (fun q => absurd (hC.1.2 33 (by decide) 32 (by decide) q) (by decide))]; exact F_saleWait
        have F_pressTick_ : f_19 (rt 34) = .inl (K 0, 1000, .inl g_pressTick) := by rw [ef_19, va_up_ne _ _ (fun q => absurd (hC.1.2 34 (by decide) 32 (by decide) q) (by decide))]; exact F_pressTick
        have F_m := F_m_
        have F_pays := F_pays_
        have F_saleOf := F_saleOf_
        have F_saleTick := F_saleTick_
        have F_saleWait := F_saleWait_
        have F_pressTick := F_pressTick_
        have F_state : f_19 (rt 32) = .inl (K 0, 1000, .inl g_18) := by rw [ef_19, va_up_self]
        have hC : mC rt L f_19 fm := ⟨hC.1, F_m, hC.2.2.1, hC.2.2.2⟩
        refine lv_aload_n hx hb dX6_press_92 rfl (lv_at hl 1 rfl) ?_
        refine g_get (ci := 6) (v := .ref (rt 34)) (C := RX6) (T := TX6) (N := 51) hx hb hts uB6 hown hK hP (hC.1.1 51 (by decide)) F_m rfl 34 (by decide) wm_11 (hC.2.2.2 34 (by decide)) dX6_press_93 ?_
        refine lv_iload_n hx hb dX6_press_96 rfl (lv_at hl 2 rfl) ?_
        refine lv_aload_n hx hb dX6_press_97 rfl (lv_at hl 1 rfl) ?_
        refine g_get (ci := 6) (v := .int t) (C := RX6) (T := TX6) (N := 51) hx hb hts uB6 hown hK hP (hC.1.1 51 (by decide)) F_m rfl 1 (by decide) wm_13 I_tick dX6_press_98 ?_
        refine g_iast hx hb hK hP hD hS (hC.1.1 34 (by decide)) F_pressTick (vp_in_nI (by omega) (by decide)) dX6_press_101 (fun H locs hP hD hS => ?_)
        obtain ⟨g_20, eg_20⟩ : ∃ z9, z9 = upd g_pressTick (Int32.toNatClampNeg (nI sn)) t := ⟨_, rfl⟩
        rw [← eg_20] at hP hD
        obtain ⟨f_21, ef_21⟩ : ∃ z9, z9 = va_up f_19 (rt 34) (.inl (K 0, 1000, .inl g_20)) := ⟨_, rfl⟩
        have hP : va_P (dC, dI) vwCl (va_pl L f_21) H := by rw [ef_21]; exact hP
        have hD : va_D A (va_pl L f_21) := by rw [ef_21]; exact hD
        have F_m_ : f_21 (rt 51) = .inr (6, fm) := by rw [ef_21, va_up_ne _ _ (fun q => absurd (hC.1.2 51 (by decide) 34 (by decide) q) (by decide))]; exact F_m
        have F_pays_ : f_21 (rt 11) = .inl (K 0, 40, .inl g_pays) := by rw [ef_21, va_up_ne _ _ (fun q => absurd (hC.1.2 11 (by decide) 34 (by decide) q) (by decide))]; exact F_pays
        have F_saleOf_ : f_21 (rt 30) = .inl (K 0, 1000, .inl g_saleOf) := by rw [ef_21, va_up_ne _ _ (fun q => absurd (hC.1.2 30 (by decide) 34 (by decide) q) (by decide))]; exact F_saleOf
        have F_state_ : f_21 (rt 32) = .inl (K 0, 1000, .inl g_18) := by rw [ef_21, va_up_ne _ _ (fun q => absurd (hC.1.2 32 (by decide) 34 (by decide) q) (by decide))]; exact F_state
        have F_saleTick_ : f_21 (rt 26) = .inl (K 0, 1000, .inl g_saleTick) := by rw [ef_21, va_up_ne _ _ (fun q => absurd (hC.1.2 26 (by decide) 34 (by decide) q) (by decide))]; exact F_saleTick
        have F_saleWait_ : f_21 (rt 33) = .inl (K 0, 1000, .inl g_saleWait) := by rw [ef_21, va_up_ne _ _ (fun q => absurd (hC.1.2 33 (by decide) 34 (by decide) q) (by decide))]; exact F_saleWait
        have F_m := F_m_
        have F_pays := F_pays_
        have F_saleOf := F_saleOf_
        have F_state := F_state_
        have F_saleTick := F_saleTick_
        have F_saleWait := F_saleWait_
        have F_pressTick : f_21 (rt 34) = .inl (K 0, 1000, .inl g_20) := by rw [ef_21, va_up_self]
        have hC : mC rt L f_21 fm := ⟨hC.1, F_m, hC.2.2.1, hC.2.2.2⟩
        refine lv_iconst (v := 1) hx hb dX6_press_102 (by decide) ?_
        exact W.iret (v := 1) hx hb hr (fun t ht hW => ⟨⟨1, f_21, rfl, (Or.inr ⟨_, _, by rw [ef_21, ef_19]⟩), by show va_P (dC, dI) vwCl (va_pl L f_21) t.heap; rw [ht]; exact hP⟩, hS.F ht⟩) hS.2.2 dX6_press_103
  · skip
    have g_2 := k_ff hpr_1 c_2
    refine lv_iconst (v := (-1)) hx hb dX6_press_8 (by decide) ?_
    exact W.iret (v := (-1)) hx hb hr (fun t ht hW => ⟨⟨(-1), f, rfl, (Or.inl rfl), by show va_P (dC, dI) vwCl (va_pl L f) t.heap; rw [ht]; exact hP⟩, hS.F ht⟩) hS.2.2 dX6_press_9
set_option maxHeartbeats 4000000 in
set_option maxRecDepth 100000 in
theorem um_refund (l : Launch) (dC : Nat → ClassId) (dI : Nat → Nat → Nat) (K : Nat → ClassId) (L : List Nat) (f : Nat → va_E) (rt : Nat → Nat) {fm : List Value} (hC : mC rt L f fm) {g_state : Nat → Int32} (F_state : f (rt 32) = .inl (K 0, 1000, .inl g_state)) {g_saleOf : Nat → Int32} (F_saleOf : f (rt 30) = .inl (K 0, 1000, .inl g_saleOf)) {g_pays : Nat → Int32} (F_pays : f (rt 11) = .inl (K 0, 40, .inl g_pays)) {g_price : Nat → Int32} (F_price : f (rt 31) = .inl (K 0, 1000, .inl g_price)) {ns : Nat} (I_sales : fm[25]? = some (.int (nI ns))) (x : Int32) (hns : ns ≤ 1000) (hso : ∀ j, j < ns → vp_in (g_saleOf j) 40) (hLn : gN L) : gMi l yX6_refund cX6_refund 3 2 (dC, dI) K L f [.ref (rt 51), .int x] (fun _ f' => f' = f ∨ ∃ g1 : Nat → Int32, f' = va_up f (rt 32) (.inl (K 0, 1000, .inl g1))) := by
  refine Met.ofW (cc := cX6_refund) (maxL := 3) (ret := (some .int)) (by decide) rfl ?_
  intro p e s m args below meth c s₁ B hml hv
  obtain ⟨rfl, hP, hK⟩ := hv
  have F_m := hC.2.1
  have hD : va_D (fun q : Nat => q ∈ L) (va_pl L f) := g_D hLn (fun a h => h) f
  generalize hAe : (fun q : Nat => q ∈ L) = A at hD ⊢
  have hx := B.exec
  have hb := B.bytes
  have hr := B.returns
  have hlocks := B.notSynchronized
  have hts0 := atoms_spec (ws := Cond.code yX6_refund cX6_refund 3 (some .int) :: lw_B) B.pre
  have hts : ∀ w ∈ lw_B, w.before _ s = true := fun w h => hts0 w (List.mem_cons_of_mem _ h)
  have hown : s.vm.findClass RX6 = some m.cls := findClass_of_methodNamed B.named
  have hS : va_S A s.heap s.heap [] := va_S.rf
  have hl := lv_entry ([.ref (rt 51), .int x]) (n := 3) (Nat.le_of_ble_eq_true rfl)
  rw [lg_entry_eq]
  generalize (lg_sl ([.ref (rt 51), .int x]) ++ List.replicate (3 - (lg_sl ([.ref (rt 51), .int x])).length) Slot.unset).toArray = ls at hl ⊢
  have hl : lv_has ls 3 [(0, .ref (rt 51)), (1, .int x)] := hl
  refine lv_aload_n hx hb dX6_refund_0 rfl (lv_at hl 0 rfl) ?_
  refine lv_iload_n hx hb dX6_refund_1 rfl (lv_at hl 1 rfl) ?_
  refine gc_R (ci := 6) ⟨hx, hb, hml, hown, hts⟩ (m_isSale l dC dI K L f rt hC I_sales x) 1 wm_105 wm_106 wm_107 wm_8 wm_108 (by decide +kernel) ⟨Nat.le_of_ble_eq_true rfl, Nat.le_of_ble_eq_true rfl⟩ hK rfl (hC.1.1 51 (by decide)) F_m rfl hl.1 rfl (Nat.le_of_ble_eq_true rfl) dX6_refund_2 ⟨Nat.le_of_ble_eq_true rfl, Nat.le_of_ble_eq_true rfl⟩ hS hP (fun r_1 H locs hpr_1 hP hS => ?_)
  refine lv_if_ne (tgt := 10) hx hb dX6_refund_5 (by decide) (fun c_2 => ?_) (fun c_2 => ?_)
  · skip
    have g_2 := k_ft hpr_1 c_2
    have hcd_sn := g_2
    obtain ⟨sn, hsn, rfl⟩ := k_ix g_2 (by omega)
    refine lv_aload_n hx hb dX6_refund_10 rfl (lv_at hl 0 rfl) ?_
    refine g_get (ci := 6) (v := .ref (rt 32)) (C := RX6) (T := TX6) (N := 51) hx hb hts uB6 hown hK hP (hC.1.1 51 (by decide)) F_m rfl 32 (by decide) wm_0 (hC.2.2.2 32 (by decide)) dX6_refund_11 ?_
    refine lv_iload_n hx hb dX6_refund_14 rfl (lv_at hl 1 rfl) ?_
    refine g_iald hx hb hK hP (hC.1.1 32 (by decide)) F_state (vp_in_nI (by omega) (by decide)) dX6_refund_15 ?_
    refine lv_topi (fun x_3 ex_3 => ?_)
    rw [nI_clamp (by omega)] at ex_3
    refine lv_iconst (v := 3) hx hb dX6_refund_16 (by decide) ?_
    refine lv_icmp_ne (tgt := 23) hx hb dX6_refund_17 (by decide) (fun c_4 => ?_) (fun c_4 => ?_)
    · skip
      refine lv_aload_n hx hb dX6_refund_23 rfl (lv_at hl 0 rfl) ?_
      refine lv_iload_n hx hb dX6_refund_24 rfl (lv_at hl 1 rfl) ?_
      refine lv_iconst (v := 0) hx hb dX6_refund_25 (by decide) ?_
      refine gc_R (ci := 6) ⟨hx, hb, hml, hown, hts⟩ (m_coins l dC dI K L f rt hC F_state F_saleOf F_pays F_price sn 0 hns hso hsn) 2 wm_5 wm_6 wm_7 wm_8 wm_9 (by decide +kernel) ⟨Nat.le_of_ble_eq_true rfl, Nat.le_of_ble_eq_true rfl⟩ hK rfl (hC.1.1 51 (by decide)) F_m rfl hl.1 rfl (Nat.le_of_ble_eq_true rfl) dX6_refund_26 ⟨Nat.le_of_ble_eq_true rfl, Nat.le_of_ble_eq_true rfl⟩ hS hP (fun r_5 H locs hpr_5 hP hS => ?_)
      refine lv_istore_n (lv' := [(2, .int r_5), (0, .ref (rt 51)), (1, .int (nI sn))]) hx hb dX6_refund_29 rfl hl (by decide) rfl (fun ls hl => ?_)
      refine lv_aload_n hx hb dX6_refund_30 rfl (lv_at hl 1 rfl) ?_
      refine g_get (ci := 6) (v := .ref (rt 32)) (C := RX6) (T := TX6) (N := 51) hx hb hts uB6 hown hK hP (hC.1.1 51 (by decide)) F_m rfl 32 (by decide) wm_0 (hC.2.2.2 32 (by decide)) dX6_refund_31 ?_
      refine lv_iload_n hx hb dX6_refund_34 rfl (lv_at hl 2 rfl) ?_
      refine lv_iconst (v := 3) hx hb dX6_refund_35 (by decide) ?_
      refine g_iast hx hb hK hP hD hS (hC.1.1 32 (by decide)) F_state (vp_in_nI (by omega) (by decide)) dX6_refund_36 (fun H locs hP hD hS => ?_)
      obtain ⟨g_6, eg_6⟩ : ∃ z9, z9 = upd g_state (Int32.toNatClampNeg (nI sn)) 3 := ⟨_, rfl⟩
      rw [← eg_6] at hP hD
      obtain ⟨f_7, ef_7⟩ : ∃ z9, z9 = va_up f (rt 32) (.inl (K 0, 1000, .inl g_6)) := ⟨_, rfl⟩
      have hP : va_P (dC, dI) vwCl (va_pl L f_7) H := by rw [ef_7]; exact hP
      have hD : va_D A (va_pl L f_7) := by rw [ef_7]; exact hD
      have F_m_ : f_7 (rt 51) = .inr (6, fm) := by rw [ef_7, va_up_ne _ _ (fun q => absurd (hC.1.2 51 (by decide) 32 (by decide) q) (by decide))]; exact F_m
      have F_saleOf_ : f_7 (rt 30) = .inl (K 0, 1000, .inl g_saleOf) := by rw [ef_7, va_up_ne _ _ (fun q => absurd (hC.1.2 30 (by decide) 32 (by decide) q) (by decide))]; exact F_saleOf
      have F_pays_ : f_7 (rt 11) = .inl (K 0, 40, .inl g_pays) := by rw [ef_7, va_up_ne _ _ (fun q => absurd (hC.1.2 11 (by decide) 32 (by decide) q) (by decide))]; exact F_pays
      have F_price_ : f_7 (rt 31) = .inl (K 0, 1000, .inl g_price) := by rw [ef_7, va_up_ne _ _ (fun q => absurd (hC.1.2 31 (by decide) 32 (by decide) q) (by decide))]; exact F_price
      have F_m := F_m_
      have F_saleOf := F_saleOf_
      have F_pays := F_pays_
      have F_price := F_price_
      have F_state : f_7 (rt 32) = .inl (K 0, 1000, .inl g_6) := by rw [ef_7, va_up_self]
      have hC : mC rt L f_7 fm := ⟨hC.1, F_m, hC.2.2.1, hC.2.2.2⟩
      refine lv_iload_n hx hb dX6_refund_37 rfl (lv_at hl 0 rfl) ?_
      exact W.iret (v := r_5) hx hb hr (fun t ht hW => ⟨⟨r_5, f_7, rfl, (Or.inr ⟨_, by rw [ef_7]⟩), by show va_P (dC, dI) vwCl (va_pl L f_7) t.heap; rw [ht]; exact hP⟩, hS.F ht⟩) hS.2.2 dX6_refund_38
    · skip
      refine lv_bipush (v := (-2)) hx hb dX6_refund_20 (by decide) ?_
      exact W.iret (v := (-2)) hx hb hr (fun t ht hW => ⟨⟨(-2), f, rfl, (Or.inl rfl), by show va_P (dC, dI) vwCl (va_pl L f) t.heap; rw [ht]; exact hP⟩, hS.F ht⟩) hS.2.2 dX6_refund_22
  · skip
    have g_2 := k_ff hpr_1 c_2
    refine lv_iconst (v := (-1)) hx hb dX6_refund_8 (by decide) ?_
    exact W.iret (v := (-1)) hx hb hr (fun t ht hW => ⟨⟨(-1), f, rfl, (Or.inl rfl), by show va_P (dC, dI) vwCl (va_pl L f) t.heap; rw [ht]; exact hP⟩, hS.F ht⟩) hS.2.2 dX6_refund_9
