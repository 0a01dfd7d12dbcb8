theorem acc_next {acc x : Int32} {j : Nat} (h : ∃ q : Nat, q ≤ j ∧ acc = nI q) (e : x = acc + 0 ∨ x = acc + 1) : ∃ q : Nat, q ≤ j + 1 ∧ x = nI q := by
  obtain ⟨q, h1, rfl⟩ := h
  rcases e with e | e
  · exact ⟨q, by omega, by rw [e, show (0 : Int32) = nI 0 from rfl, nI_add, Nat.add_zero]⟩
  · exact ⟨q + 1, by omega, by rw [e, nI_1]⟩
/-- which roots there are: the arrays of the reference by their fields, the reference 51 -/
def mArr : List Nat := [6, 7, 8, 10, 11, 12, 13, 14, 15, 16, 17, 18, 19, 20, 21, 22, 23, 24, 26, 27, 28, 29, 30, 31, 32, 33, 34, 36, 37, 38, 40, 41, 42, 46, 47, 48, 49, 50]
def mRoots : List Nat := mArr ++ [51]
def rtOk (rt : Nat → Nat) (L : List Nat) : Prop := (∀ i ∈ mRoots, rt i ∈ L) ∧ (∀ i ∈ mRoots, ∀ j ∈ mRoots, rt i = rt j → i = j)
/-- the reference: its object and the roots in its fields -/
def mC (rt : Nat → Nat) (L : List Nat) (f : Nat → va_E) (fm : List Value) : Prop := rtOk rt L ∧ f (rt 51) = .inr (6, fm) ∧ fm.length = 51 ∧ ∀ k ∈ mArr, fm[k]? = some (.ref (rt k))
set_option maxHeartbeats 4000000 in
set_option maxRecDepth 100000 in
theorem m_coins (l : Launch) (dC : Nat → ClassId) (dI : Nat → Nat → Nat) (K : Nat → ClassId) (L : List Nat) (f : Nat → va_E) (rt : Nat → Nat) {fm : List Value} (hC : mC rt L f fm) {g_state : Nat → Int32} (F_state : f (rt 32) = .inl (K 0, 1000, .inl g_state)) {g_saleOf : Nat → Int32} (F_saleOf : f (rt 30) = .inl (K 0, 1000, .inl g_saleOf)) {g_pays : Nat → Int32} (F_pays : f (rt 11) = .inl (K 0, 40, .inl g_pays)) {g_price : Nat → Int32} (F_price : f (rt 31) = .inl (K 0, 1000, .inl g_price)) {ns : Nat} (j : Nat) (k : Int32) (hns : ns ≤ 1000) (hso : ∀ j, j < ns → vp_in (g_saleOf j) 40) (hj : j < ns) : gR l yX6_coins cX6_coins 4 .int 0 (dC, dI) K L f [.ref (rt 51), .int (nI j), .int k] (fun _ => True) := by
  refine Met.ofW (cc := cX6_coins) (maxL := 4) (ret := some .int) (by decide) rfl ?_
  intro p e s m args below meth c s₁ B hml hv
  obtain ⟨rfl, hP, hK⟩ := hv
  have F_m := hC.2.1
  have hx := B.exec
  have hb := B.bytes
  have hr := B.returns
  have hlocks := B.notSynchronized
  have hts0 := atoms_spec (ws := Cond.code yX6_coins cX6_coins 4 (some .int) :: lw_B) B.pre
  have hts : ∀ w ∈ lw_B, w.before _ s = true := fun w h => hts0 w (List.mem_cons_of_mem _ h)
  have hown : s.vm.findClass RX6 = some m.cls := findClass_of_methodNamed B.named
  have hS : va_S (fun _ => False) s.heap s.heap [] := va_S.rf
  have hl := lv_entry ([.ref (rt 51), .int (nI j), .int k]) (n := 4) (Nat.le_of_ble_eq_true rfl)
  rw [lg_entry_eq]
  generalize (lg_sl ([.ref (rt 51), .int (nI j), .int k]) ++ List.replicate (4 - (lg_sl ([.ref (rt 51), .int (nI j), .int k])).length) Slot.unset).toArray = ls at hl ⊢
  have hl : lv_has ls 4 [(0, .ref (rt 51)), (1, .int (nI j)), (2, .int k)] := hl
  refine lv_aload_n hx hb dX6_coins_0 rfl (lv_at hl 0 rfl) ?_
  refine g_get (ci := 6) (v := .ref (rt 32)) (C := RX6) (T := TX6) (N := 51) hx hb hts uB6 hown hK hP (hC.1.1 51 (by decide)) F_m rfl 32 (by decide) wm_0 (hC.2.2.2 32 (by decide)) dX6_coins_1 ?_
  refine lv_iload_n hx hb dX6_coins_4 rfl (lv_at hl 1 rfl) ?_
  refine g_iald hx hb hK hP (hC.1.1 32 (by decide)) F_state (vp_in_nI (by omega) (by decide)) dX6_coins_5 ?_
  refine lv_topi (fun x_1 ex_1 => ?_)
  rw [nI_clamp (by omega)] at ex_1
  refine lv_iconst (v := 3) hx hb dX6_coins_6 (by decide) ?_
  refine lv_icmp_ne (tgt := 12) hx hb dX6_coins_7 (by decide) (fun c_2 => ?_) (fun c_2 => ?_)
  · skip
    refine lv_aload_n hx hb dX6_coins_12 rfl (lv_at hl 0 rfl) ?_
    refine g_get (ci := 6) (v := .ref (rt 11)) (C := RX6) (T := TX6) (N := 51) hx hb hts uB6 hown hK hP (hC.1.1 51 (by decide)) F_m rfl 11 (by decide) wm_1 (hC.2.2.2 11 (by decide)) dX6_coins_13 ?_
    refine lv_aload_n hx hb dX6_coins_16 rfl (lv_at hl 0 rfl) ?_
    refine g_get (ci := 6) (v := .ref (rt 30)) (C := RX6) (T := TX6) (N := 51) hx hb hts uB6 hown hK hP (hC.1.1 51 (by decide)) F_m rfl 30 (by decide) wm_2 (hC.2.2.2 30 (by decide)) dX6_coins_17 ?_
    refine lv_iload_n hx hb dX6_coins_20 rfl (lv_at hl 1 rfl) ?_
    refine g_iald hx hb hK hP (hC.1.1 30 (by decide)) F_saleOf (vp_in_nI (by omega) (by decide)) dX6_coins_21 ?_
    refine lv_topi (fun x_3 ex_3 => ?_)
    rw [nI_clamp (by omega)] at ex_3
    refine g_iald hx hb hK hP (hC.1.1 11 (by decide)) F_pays (by rw [ex_3]; exact hso j hj) dX6_coins_22 ?_
    refine lv_topi (fun x_4 ex_4 => ?_)
    refine lv_iconst (v := 1) hx hb dX6_coins_23 (by decide) ?_
    refine lv_icmp_ne (tgt := 31) hx hb dX6_coins_24 (by decide) (fun c_5 => ?_) (fun c_5 => ?_)
    · skip
      refine lv_iconst (v := 0) hx hb dX6_coins_31 (by decide) ?_
      refine lv_istore_n (lv' := [(3, .int 0), (0, .ref (rt 51)), (1, .int (nI j)), (2, .int k)]) hx hb dX6_coins_32 rfl hl (by decide) rfl (fun ls hl => ?_)
      refine lv_iload_n hx hb dX6_coins_33 rfl (lv_at hl 3 rfl) ?_
      refine lv_if_eq (tgt := 62) hx hb dX6_coins_34 (by decide) (fun c_6 => ?_) (fun c_6 => ?_)
      · skip
        refine lv_iload_n hx hb dX6_coins_62 rfl (lv_at hl 0 rfl) ?_
        refine lv_if_eq (tgt := 76) hx hb dX6_coins_63 (by decide) (fun _ => ?_) (fun h9 => absurd (by decide) h9)
        refine lv_aload_n hx hb dX6_coins_76 rfl (lv_at hl 1 rfl) ?_
        refine g_get (ci := 6) (v := .ref (rt 31)) (C := RX6) (T := TX6) (N := 51) hx hb hts uB6 hown hK hP (hC.1.1 51 (by decide)) F_m rfl 31 (by decide) wm_3 (hC.2.2.2 31 (by decide)) dX6_coins_77 ?_
        refine lv_iload_n hx hb dX6_coins_80 rfl (lv_at hl 2 rfl) ?_
        refine g_iald hx hb hK hP (hC.1.1 31 (by decide)) F_price (vp_in_nI (by omega) (by decide)) dX6_coins_81 ?_
        refine lv_topi (fun x_7 ex_7 => ?_)
        rw [nI_clamp (by omega)] at ex_7
        refine lv_goto (tgt := 86) hx hb dX6_coins_82 (by decide) ?_
        exact W.iret (v := x_7) hx hb hr (fun t ht hW => ⟨⟨x_7, (), rfl, trivial, trivial⟩, hS.F ht⟩) hS.2.2 dX6_coins_86
      · skip
        refine lv_iload_n hx hb dX6_coins_37 rfl (lv_at hl 0 rfl) ?_
        refine lv_if_eq (tgt := 60) hx hb dX6_coins_38 (by decide) (fun _ => ?_) (fun h9 => absurd (by decide) h9)
        refine lv_iconst (v := 0) hx hb dX6_coins_60 (by decide) ?_
        exact W.iret (v := 0) hx hb hr (fun t ht hW => ⟨⟨0, (), rfl, trivial, trivial⟩, hS.F ht⟩) hS.2.2 dX6_coins_61
    · skip
      refine lv_iconst (v := 1) hx hb dX6_coins_27 (by decide) ?_
      refine lv_goto (tgt := 32) hx hb dX6_coins_28 (by decide) ?_
      refine lv_istore_n (lv' := [(3, .int 1), (0, .ref (rt 51)), (1, .int (nI j)), (2, .int k)]) hx hb dX6_coins_32 rfl hl (by decide) rfl (fun ls hl => ?_)
      refine lv_iload_n hx hb dX6_coins_33 rfl (lv_at hl 3 rfl) ?_
      refine lv_if_eq (tgt := 62) hx hb dX6_coins_34 (by decide) (fun c_8 => ?_) (fun c_8 => ?_)
      · skip
        refine lv_iload_n hx hb dX6_coins_62 rfl (lv_at hl 0 rfl) ?_
        refine lv_if_eq (tgt := 76) hx hb dX6_coins_63 (by decide) (fun h9 => absurd h9 (by decide)) (fun _ => ?_)
        refine lv_aload_n hx hb dX6_coins_66 rfl (lv_at hl 1 rfl) ?_
        refine g_get (ci := 6) (v := .ref (rt 32)) (C := RX6) (T := TX6) (N := 51) hx hb hts uB6 hown hK hP (hC.1.1 51 (by decide)) F_m rfl 32 (by decide) wm_0 (hC.2.2.2 32 (by decide)) dX6_coins_67 ?_
        refine lv_iload_n hx hb dX6_coins_70 rfl (lv_at hl 2 rfl) ?_
        refine g_iald hx hb hK hP (hC.1.1 32 (by decide)) F_state (vp_in_nI (by omega) (by decide)) dX6_coins_71 ?_
        refine lv_topi (fun x_9 ex_9 => ?_)
        rw [nI_clamp (by omega)] at ex_9
        refine lv_iconst (v := 2) hx hb dX6_coins_72 (by decide) ?_
        refine lv_icmp_ne (tgt := 85) hx hb dX6_coins_73 (by decide) (fun c_10 => ?_) (fun c_10 => ?_)
        · skip
          refine lv_iconst (v := 0) hx hb dX6_coins_85 (by decide) ?_
          exact W.iret (v := 0) hx hb hr (fun t ht hW => ⟨⟨0, (), rfl, trivial, trivial⟩, hS.F ht⟩) hS.2.2 dX6_coins_86
        · skip
          refine lv_aload_n hx hb dX6_coins_76 rfl (lv_at hl 1 rfl) ?_
          refine g_get (ci := 6) (v := .ref (rt 31)) (C := RX6) (T := TX6) (N := 51) hx hb hts uB6 hown hK hP (hC.1.1 51 (by decide)) F_m rfl 31 (by decide) wm_3 (hC.2.2.2 31 (by decide)) dX6_coins_77 ?_
          refine lv_iload_n hx hb dX6_coins_80 rfl (lv_at hl 2 rfl) ?_
          refine g_iald hx hb hK hP (hC.1.1 31 (by decide)) F_price (vp_in_nI (by omega) (by decide)) dX6_coins_81 ?_
          refine lv_topi (fun x_11 ex_11 => ?_)
          rw [nI_clamp (by omega)] at ex_11
          refine lv_goto (tgt := 86) hx hb dX6_coins_82 (by decide) ?_
          exact W.iret (v := x_11) hx hb hr (fun t ht hW => ⟨⟨x_11, (), rfl, trivial, trivial⟩, hS.F ht⟩) hS.2.2 dX6_coins_86
      · skip
        refine lv_iload_n hx hb dX6_coins_37 rfl (lv_at hl 0 rfl) ?_
        refine lv_if_eq (tgt := 60) hx hb dX6_coins_38 (by decide) (fun h9 => absurd h9 (by decide)) (fun _ => ?_)
        refine lv_aload_n hx hb dX6_coins_41 rfl (lv_at hl 1 rfl) ?_
        refine g_get (ci := 6) (v := .ref (rt 32)) (C := RX6) (T := TX6) (N := 51) hx hb hts uB6 hown hK hP (hC.1.1 51 (by decide)) F_m rfl 32 (by decide) wm_0 (hC.2.2.2 32 (by decide)) dX6_coins_42 ?_
        refine lv_iload_n hx hb dX6_coins_45 rfl (lv_at hl 2 rfl) ?_
        refine g_iald hx hb hK hP (hC.1.1 32 (by decide)) F_state (vp_in_nI (by omega) (by decide)) dX6_coins_46 ?_
        refine lv_topi (fun x_12 ex_12 => ?_)
        rw [nI_clamp (by omega)] at ex_12
        refine lv_iconst (v := 1) hx hb dX6_coins_47 (by decide) ?_
        refine lv_icmp_ne (tgt := 60) hx hb dX6_coins_48 (by decide) (fun c_13 => ?_) (fun c_13 => ?_)
        · skip
          refine lv_iconst (v := 0) hx hb dX6_coins_60 (by decide) ?_
          exact W.iret (v := 0) hx hb hr (fun t ht hW => ⟨⟨0, (), rfl, trivial, trivial⟩, hS.F ht⟩) hS.2.2 dX6_coins_61
        · skip
          refine lv_aload_n hx hb dX6_coins_51 rfl (lv_at hl 1 rfl) ?_
          refine g_get (ci := 6) (v := .ref (rt 31)) (C := RX6) (T := TX6) (N := 51) hx hb hts uB6 hown hK hP (hC.1.1 51 (by decide)) F_m rfl 31 (by decide) wm_3 (hC.2.2.2 31 (by decide)) dX6_coins_52 ?_
          refine lv_iload_n hx hb dX6_coins_55 rfl (lv_at hl 2 rfl) ?_
          refine g_iald hx hb hK hP (hC.1.1 31 (by decide)) F_price (vp_in_nI (by omega) (by decide)) dX6_coins_56 ?_
          refine lv_topi (fun x_14 ex_14 => ?_)
          rw [nI_clamp (by omega)] at ex_14
          refine lv_goto (tgt := 61) hx hb dX6_coins_57 (by decide) ?_
          exact W.iret (v := x_14) hx hb hr (fun t ht hW => ⟨⟨x_14, (), rfl, trivial, trivial⟩, hS.F ht⟩) hS.2.2 dX6_coins_61
  · skip
    refine lv_iconst (v := 0) hx hb dX6_coins_10 (by decide) ?_
    exact W.iret (v := 0) hx hb hr (fun t ht hW => ⟨⟨0, (), rfl, trivial, trivial⟩, hS.F ht⟩) hS.2.2 dX6_coins_11
set_option maxHeartbeats 4000000 in
set_option maxRecDepth 100000 in
theorem m_sum (l : Launch) (dC : Nat → ClassId) (dI : Nat → Nat → Nat) (K : Nat → ClassId) (L : List Nat) (f : Nat → va_E) (rt : Nat → Nat) {fm : List Value} (hC : mC rt L f fm) {g_saleOf : Nat → Int32} (F_saleOf : f (rt 30) = .inl (K 0, 1000, .inl g_saleOf)) {g_saleTick : Nat → Int32} (F_saleTick : f (rt 26) = .inl (K 0, 1000, .inl g_saleTick)) {g_state : Nat → Int32} (F_state : f (rt 32) = .inl (K 0, 1000, .inl g_state)) {g_pays : Nat → Int32} (F_pays : f (rt 11) = .inl (K 0, 40, .inl g_pays)) {g_price : Nat → Int32} (F_price : f (rt 31) = .inl (K 0, 1000, .inl g_price)) {ns : Nat} (I_sales : fm[25]? = some (.int (nI ns))) (x : Int32) (y : Int32) (u : Int32) (v : Int32) (hns : ns ≤ 1000) (hso : ∀ j, j < ns → vp_in (g_saleOf j) 40) : gR l yX6_sum cX6_sum 7 .int 1 (dC, dI) K L f [.ref (rt 51), .int x, .int y, .int u, .int v] (fun _ => True) := by
  refine Met.ofW (cc := cX6_sum) (maxL := 7) (ret := some .int) (by decide) rfl ?_
  intro p e s m args below meth c s₁ B hml hv
  obtain ⟨rfl, hP, hK⟩ := hv
  have F_m := hC.2.1
  have hx := B.exec
  have hb := B.bytes
  have hr := B.returns
  have hlocks := B.notSynchronized
  have hts0 := atoms_spec (ws := Cond.code yX6_sum cX6_sum 7 (some .int) :: lw_B) B.pre
  have hts : ∀ w ∈ lw_B, w.before _ s = true := fun w h => hts0 w (List.mem_cons_of_mem _ h)
  have hown : s.vm.findClass RX6 = some m.cls := findClass_of_methodNamed B.named
  have hS : va_S (fun _ => False) s.heap s.heap [] := va_S.rf
  have hl := lv_entry ([.ref (rt 51), .int x, .int y, .int u, .int v]) (n := 7) (Nat.le_of_ble_eq_true rfl)
  rw [lg_entry_eq]
  generalize (lg_sl ([.ref (rt 51), .int x, .int y, .int u, .int v]) ++ List.replicate (7 - (lg_sl ([.ref (rt 51), .int x, .int y, .int u, .int v])).length) Slot.unset).toArray = ls at hl ⊢
  have hl : lv_has ls 7 [(0, .ref (rt 51)), (1, .int x), (2, .int y), (3, .int u), (4, .int v)] := hl
  refine lv_iconst (v := 0) hx hb dX6_sum_0 (by decide) ?_
  refine lv_istore (lv' := [(5, .int 0), (0, .ref (rt 51)), (1, .int x), (2, .int y), (3, .int u), (4, .int v)]) hx hb dX6_sum_1 hl (by decide) rfl (fun ls hl => ?_)
  refine lv_iconst (v := 0) hx hb dX6_sum_3 (by decide) ?_
  refine lv_istore (lv' := [(6, .int 0), (5, .int 0), (0, .ref (rt 51)), (1, .int x), (2, .int y), (3, .int u), (4, .int v)]) hx hb dX6_sum_4 hl (by decide) rfl (fun ls hl => ?_)
  refine k_lx (pcx := 90) (fun n H locs ls => ∃ (j : Nat) (acc : Int32), j + n = ns ∧ True ∧ va_P (dC, dI) vwCl (va_pl L f) H ∧ va_S (fun _ => False) s.heap H locs ∧ lv_has ls 7 [(0, .ref (rt 51)), (1, .int x), (2, .int y), (3, .int u), (4, .int v), (5, .int acc), (6, .int (nI j))]) (fun H locs ls => ∃ (j : Nat) (acc : Int32), j = ns ∧ True ∧ va_P (dC, dI) vwCl (va_pl L f) H ∧ va_S (fun _ => False) s.heap H locs ∧ lv_has ls 7 [(0, .ref (rt 51)), (1, .int x), (2, .int y), (3, .int u), (4, .int v), (5, .int acc), (6, .int (nI j))]) (fun H locs ls hI => ?_) (fun n H locs ls hI hE ih => ?_) ns _ _ _ ⟨0, _, by omega, trivial, hP, hS, lv_sub hl [2, 3, 4, 5, 6, 1, 0] rfl⟩
  · skip
    obtain ⟨j, acc, hj, hacc, hP, hS, hl⟩ := hI
    refine lv_iload hx hb dX6_sum_90 (lv_at hl 5 rfl) ?_
    exact W.iret (v := acc) hx hb hr (fun t ht hW => ⟨⟨acc, (), rfl, trivial, trivial⟩, hS.F ht⟩) hS.2.2 dX6_sum_92
  · skip
    obtain ⟨j, acc, hj, hacc, hP, hS, hl⟩ := hI
    refine lv_iload hx hb dX6_sum_6 (lv_at hl 6 rfl) ?_
    refine lv_aload_n hx hb dX6_sum_8 rfl (lv_at hl 0 rfl) ?_
    refine g_get (ci := 6) (v := .int (nI ns)) (C := RX6) (T := TX6) (N := 51) hx hb hts uB6 hown hK hP (hC.1.1 51 (by decide)) F_m rfl 25 (by decide) wm_4 I_sales dX6_sum_9 ?_
    refine lv_icmp_ge (tgt := 90) hx hb dX6_sum_12 (by decide) (fun c_1 => ?_) (fun c_1 => ?_)
    · skip
      have hjn : j = ns := by have := (nI_leI (a := ns) (b := j) (by omega) (by omega)).mp c_1; omega
      exact hE _ _ _ ⟨j, _, by omega, hacc, hP, hS, lv_sub hl [0, 1, 2, 3, 4, 5, 6] rfl⟩
    · skip
      have hjn : j < ns := by rcases Nat.lt_or_ge j ns with q | q; exact q; exact absurd (nI_le q (by omega)) c_1
      refine lv_aload_n hx hb dX6_sum_15 rfl (lv_at hl 0 rfl) ?_
      refine g_get (ci := 6) (v := .ref (rt 30)) (C := RX6) (T := TX6) (N := 51) hx hb hts uB6 hown hK hP (hC.1.1 51 (by decide)) F_m rfl 30 (by decide) wm_2 (hC.2.2.2 30 (by decide)) dX6_sum_16 ?_
      refine lv_iload hx hb dX6_sum_19 (lv_at hl 6 rfl) ?_
      refine g_iald hx hb hK hP (hC.1.1 30 (by decide)) F_saleOf (vp_in_nI (by omega) (by decide)) dX6_sum_21 ?_
      refine lv_topi (fun x_2 ex_2 => ?_)
      rw [nI_clamp (by omega)] at ex_2
      refine lv_iload_n hx hb dX6_sum_22 rfl (lv_at hl 1 rfl) ?_
      refine lv_icmp_ne (tgt := 84) hx hb dX6_sum_23 (by decide) (fun c_3 => ?_) (fun c_3 => ?_)
      · skip
        obtain ⟨x_4, ex_4⟩ : ∃ y : Int32, y = (nI j) + 1 := ⟨_, rfl⟩
        refine lv_iinc (v := x_4) (lv' := [(6, .int x_4), (0, .ref (rt 51)), (1, .int x), (2, .int y), (3, .int u), (4, .int v), (5, .int acc)]) hx hb dX6_sum_84 hl (k := 6) rfl (by rw [ex_4]; rfl) (by decide) rfl (fun ls hl => ?_)
        refine lv_goto (tgt := 6) hx hb dX6_sum_87 (by decide) ?_
        obtain rfl : x_4 = nI (j + 1) := ex_4.trans (nI_1 j)
        exact ih (n - 1) (by omega) _ _ _ ⟨j + 1, _, by omega, trivial, hP, hS, lv_sub hl [1, 2, 3, 4, 5, 6, 0] rfl⟩
      · skip
        refine lv_iload_n hx hb dX6_sum_26 rfl (lv_at hl 2 rfl) ?_
        refine lv_if_lt (tgt := 47) hx hb dX6_sum_27 (by decide) (fun c_5 => ?_) (fun c_5 => ?_)
        · skip
          refine lv_iload hx hb dX6_sum_47 (lv_at hl 5 rfl) ?_
          refine lv_iload_n hx hb dX6_sum_49 rfl (lv_at hl 3 rfl) ?_
          refine lv_if_eq (tgt := 63) hx hb dX6_sum_50 (by decide) (fun c_6 => ?_) (fun c_6 => ?_)
          · skip
            refine lv_iconst (v := 0) hx hb dX6_sum_63 (by decide) ?_
            refine lv_iload hx hb dX6_sum_64 (lv_at hl 4 rfl) ?_
            refine lv_if_eq (tgt := 79) hx hb dX6_sum_66 (by decide) (fun c_7 => ?_) (fun c_7 => ?_)
            · skip
              refine lv_iconst (v := 0) hx hb dX6_sum_79 (by decide) ?_
              refine lv_iadd hx hb dX6_sum_80 ?_
              refine lv_topi (fun x_8 ex_8 => ?_)
              obtain rfl : x_8 = 0 := ex_8.trans (by decide)
              refine lv_iadd hx hb dX6_sum_81 ?_
              refine lv_topi (fun x_9 ex_9 => ?_)
              refine lv_istore (lv' := [(5, .int x_9), (0, .ref (rt 51)), (1, .int x), (2, .int y), (3, .int u), (4, .int v), (6, .int (nI j))]) hx hb dX6_sum_82 hl (by decide) rfl (fun ls hl => ?_)
              obtain ⟨x_10, ex_10⟩ : ∃ y : Int32, y = (nI j) + 1 := ⟨_, rfl⟩
              refine lv_iinc (v := x_10) (lv' := [(6, .int x_10), (5, .int x_9), (0, .ref (rt 51)), (1, .int x), (2, .int y), (3, .int u), (4, .int v)]) hx hb dX6_sum_84 hl (k := 6) rfl (by rw [ex_10]; rfl) (by decide) rfl (fun ls hl => ?_)
              refine lv_goto (tgt := 6) hx hb dX6_sum_87 (by decide) ?_
              obtain rfl : x_10 = nI (j + 1) := ex_10.trans (nI_1 j)
              exact ih (n - 1) (by omega) _ _ _ ⟨j + 1, _, by omega, trivial, hP, hS, lv_sub hl [2, 3, 4, 5, 6, 1, 0] rfl⟩
            · skip
              refine lv_aload_n hx hb dX6_sum_69 rfl (lv_at hl 0 rfl) ?_
              refine lv_iload hx hb dX6_sum_70 (lv_at hl 6 rfl) ?_
              refine lv_iconst (v := 1) hx hb dX6_sum_72 (by decide) ?_
              refine gc_R (ci := 6) ⟨hx, hb, hml, hown, hts⟩ (m_coins l dC dI K L f rt hC F_state F_saleOf F_pays F_price j 1 hns hso (by omega)) 2 wm_5 wm_6 wm_7 wm_8 wm_9 (by decide +kernel) ⟨Nat.le_of_ble_eq_true rfl, Nat.le_of_ble_eq_true rfl⟩ hK rfl (hC.1.1 51 (by decide)) F_m rfl hl.1 rfl (Nat.le_of_ble_eq_true rfl) dX6_sum_73 ⟨Nat.le_of_ble_eq_true rfl, Nat.le_of_ble_eq_true rfl⟩ hS hP (fun r_11 H locs hpr_11 hP hS => ?_)
              refine lv_goto (tgt := 80) hx hb dX6_sum_76 (by decide) ?_
              refine lv_iadd hx hb dX6_sum_80 ?_
              refine lv_topi (fun x_12 ex_12 => ?_)
              refine lv_iadd hx hb dX6_sum_81 ?_
              refine lv_topi (fun x_13 ex_13 => ?_)
              refine lv_istore (lv' := [(5, .int x_13), (0, .ref (rt 51)), (1, .int x), (2, .int y), (3, .int u), (4, .int v), (6, .int (nI j))]) hx hb dX6_sum_82 hl (by decide) rfl (fun ls hl => ?_)
              obtain ⟨x_14, ex_14⟩ : ∃ y : Int32, y = (nI j) + 1 := ⟨_, rfl⟩
              refine lv_iinc (v := x_14) (lv' := [(6, .int x_14), (5, .int x_13), (0, .ref (rt 51)), (1, .int x), (2, .int y), (3, .int u), (4, .int v)]) hx hb dX6_sum_84 hl (k := 6) rfl (by rw [ex_14]; rfl) (by decide) rfl (fun ls hl => ?_)
              refine lv_goto (tgt := 6) hx hb dX6_sum_87 (by decide) ?_
              obtain rfl : x_14 = nI (j + 1) := ex_14.trans (nI_1 j)
              exact ih (n - 1) (by omega) _ _ _ ⟨j + 1, _, by omega, trivial, hP, hS, lv_sub hl [2, 3, 4, 5, 6, 1, 0] rfl⟩
          · skip
            refine lv_aload_n hx hb dX6_sum_53 rfl (lv_at hl 0 rfl) ?_
            refine lv_iload hx hb dX6_sum_54 (lv_at hl 6 rfl) ?_
            refine lv_iconst (v := 0) hx hb dX6_sum_56 (by decide) ?_
            refine gc_R (ci := 6) ⟨hx, hb, hml, hown, hts⟩ (m_coins l dC dI K L f rt hC F_state F_saleOf F_pays F_price j 0 hns hso (by omega)) 2 wm_5 wm_6 wm_7 wm_8 wm_9 (by decide +kernel) ⟨Nat.le_of_ble_eq_true rfl, Nat.le_of_ble_eq_true rfl⟩ hK rfl (hC.1.1 51 (by decide)) F_m rfl hl.1 rfl (Nat.le_of_ble_eq_true rfl) dX6_sum_57 ⟨Nat.le_of_ble_eq_true rfl, Nat.le_of_ble_eq_true rfl⟩ hS hP (fun r_15 H locs hpr_15 hP hS => ?_)
            refine lv_goto (tgt := 64) hx hb dX6_sum_60 (by decide) ?_
            refine lv_iload hx hb dX6_sum_64 (lv_at hl 4 rfl) ?_
            refine lv_if_eq (tgt := 79) hx hb dX6_sum_66 (by decide) (fun c_16 => ?_) (fun c_16 => ?_)
            · skip
              refine lv_iconst (v := 0) hx hb dX6_sum_79 (by decide) ?_
              refine lv_iadd hx hb dX6_sum_80 ?_
              refine lv_topi (fun x_17 ex_17 => ?_)
              refine lv_iadd hx hb dX6_sum_81 ?_
              refine lv_topi (fun x_18 ex_18 => ?_)
              refine lv_istore (lv' := [(5, .int x_18), (0, .ref (rt 51)), (1, .int x), (2, .int y), (3, .int u), (4, .int v), (6, .int (nI j))]) hx hb dX6_sum_82 hl (by decide) rfl (fun ls hl => ?_)
              obtain ⟨x_19, ex_19⟩ : ∃ y : Int32, y = (nI j) + 1 := ⟨_, rfl⟩
              refine lv_iinc (v := x_19) (lv' := [(6, .int x_19), (5, .int x_18), (0, .ref (rt 51)), (1, .int x), (2, .int y), (3, .int u), (4, .int v)]) hx hb dX6_sum_84 hl (k := 6) rfl (by rw [ex_19]; rfl) (by decide) rfl (fun ls hl => ?_)
              refine lv_goto (tgt := 6) hx hb dX6_sum_87 (by decide) ?_
              obtain rfl : x_19 = nI (j + 1) := ex_19.trans (nI_1 j)
              exact ih (n - 1) (by omega) _ _ _ ⟨j + 1, _, by omega, trivial, hP, hS, lv_sub hl [2, 3, 4, 5, 6, 1, 0] rfl⟩
            · skip
              refine lv_aload_n hx hb dX6_sum_69 rfl (lv_at hl 0 rfl) ?_
              refine lv_iload hx hb dX6_sum_70 (lv_at hl 6 rfl) ?_
              refine lv_iconst (v := 1) hx hb dX6_sum_72 (by decide) ?_
              refine gc_R (ci := 6) ⟨hx, hb, hml, hown, hts⟩ (m_coins l dC dI K L f rt hC F_state F_saleOf F_pays F_price j 1 hns hso (by omega)) 2 wm_5 wm_6 wm_7 wm_8 wm_9 (by decide +kernel) ⟨Nat.le_of_ble_eq_true rfl, Nat.le_of_ble_eq_true rfl⟩ hK rfl (hC.1.1 51 (by decide)) F_m rfl hl.1 rfl (Nat.le_of_ble_eq_true rfl) dX6_sum_73 ⟨Nat.le_of_ble_eq_true rfl, Nat.le_of_ble_eq_true rfl⟩ hS hP (fun r_20 H locs hpr_20 hP hS => ?_)
              refine lv_goto (tgt := 80) hx hb dX6_sum_76 (by decide) ?_
              refine lv_iadd hx hb dX6_sum_80 ?_
              refine lv_topi (fun x_21 ex_21 => ?_)
              refine lv_iadd hx hb dX6_sum_81 ?_
              refine lv_topi (fun x_22 ex_22 => ?_)
              refine lv_istore (lv' := [(5, .int x_22), (0, .ref (rt 51)), (1, .int x), (2, .int y), (3, .int u), (4, .int v), (6, .int (nI j))]) hx hb dX6_sum_82 hl (by decide) rfl (fun ls hl => ?_)
              obtain ⟨x_23, ex_23⟩ : ∃ y : Int32, y = (nI j) + 1 := ⟨_, rfl⟩
              refine lv_iinc (v := x_23) (lv' := [(6, .int x_23), (5, .int x_22), (0, .ref (rt 51)), (1, .int x), (2, .int y), (3, .int u), (4, .int v)]) hx hb dX6_sum_84 hl (k := 6) rfl (by rw [ex_23]; rfl) (by decide) rfl (fun ls hl => ?_)
              refine lv_goto (tgt := 6) hx hb dX6_sum_87 (by decide) ?_
              obtain rfl : x_23 = nI (j + 1) := ex_23.trans (nI_1 j)
              exact ih (n - 1) (by omega) _ _ _ ⟨j + 1, _, by omega, trivial, hP, hS, lv_sub hl [2, 3, 4, 5, 6, 1, 0] rfl⟩
        · skip
          refine lv_aload_n hx hb dX6_sum_30 rfl (lv_at hl 0 rfl) ?_
          refine g_get (ci := 6) (v := .ref (rt 26)) (C := RX6) (T := TX6) (N := 51) hx hb hts uB6 hown hK hP (hC.1.1 51 (by decide)) F_m rfl 26 (by decide) wm_10 (hC.2.2.2 26 (by decide)) dX6_sum_31 ?_
          refine lv_iload hx hb dX6_sum_34 (lv_at hl 6 rfl) ?_
          refine g_iald hx hb hK hP (hC.1.1 26 (by decide)) F_saleTick (vp_in_nI (by omega) (by decide)) dX6_sum_36 ?_
          refine lv_topi (fun x_24 ex_24 => ?_)
          rw [nI_clamp (by omega)] at ex_24
          refine lv_bipush (v := 100) hx hb dX6_sum_37 (by decide) ?_
          refine lv_idiv hx hb dX6_sum_39 (by decide) ?_
          refine lv_topi (fun x_25 ex_25 => ?_)
          refine lv_iload_n hx hb dX6_sum_40 rfl (lv_at hl 2 rfl) ?_
          refine lv_icmp_eq (tgt := 47) hx hb dX6_sum_41 (by decide) (fun c_26 => ?_) (fun c_26 => ?_)
          · skip
            refine lv_iload hx hb dX6_sum_47 (lv_at hl 5 rfl) ?_
            refine lv_iload_n hx hb dX6_sum_49 rfl (lv_at hl 3 rfl) ?_
            refine lv_if_eq (tgt := 63) hx hb dX6_sum_50 (by decide) (fun c_27 => ?_) (fun c_27 => ?_)
            · skip
              refine lv_iconst (v := 0) hx hb dX6_sum_63 (by decide) ?_
              refine lv_iload hx hb dX6_sum_64 (lv_at hl 4 rfl) ?_
              refine lv_if_eq (tgt := 79) hx hb dX6_sum_66 (by decide) (fun c_28 => ?_) (fun c_28 => ?_)
              · skip
                refine lv_iconst (v := 0) hx hb dX6_sum_79 (by decide) ?_
                refine lv_iadd hx hb dX6_sum_80 ?_
                refine lv_topi (fun x_29 ex_29 => ?_)
                obtain rfl : x_29 = 0 := ex_29.trans (by decide)
                refine lv_iadd hx hb dX6_sum_81 ?_
                refine lv_topi (fun x_30 ex_30 => ?_)
                refine lv_istore (lv' := [(5, .int x_30), (0, .ref (rt 51)), (1, .int x), (2, .int y), (3, .int u), (4, .int v), (6, .int (nI j))]) hx hb dX6_sum_82 hl (by decide) rfl (fun ls hl => ?_)
                obtain ⟨x_31, ex_31⟩ : ∃ y : Int32, y = (nI j) + 1 := ⟨_, rfl⟩
                refine lv_iinc (v := x_31) (lv' := [(6, .int x_31), (5, .int x_30), (0, .ref (rt 51)), (1, .int x), (2, .int y), (3, .int u), (4, .int v)]) hx hb dX6_sum_84 hl (k := 6) rfl (by rw [ex_31]; rfl) (by decide) rfl (fun ls hl => ?_)
                refine lv_goto (tgt := 6) hx hb dX6_sum_87 (by decide) ?_
                obtain rfl : x_31 = nI (j + 1) := ex_31.trans (nI_1 j)
                exact ih (n - 1) (by omega) _ _ _ ⟨j + 1, _, by omega, trivial, hP, hS, lv_sub hl [2, 3, 4, 5, 6, 1, 0] rfl⟩
              · skip
                refine lv_aload_n hx hb dX6_sum_69 rfl (lv_at hl 0 rfl) ?_
                refine lv_iload hx hb dX6_sum_70 (lv_at hl 6 rfl) ?_
                refine lv_iconst (v := 1) hx hb dX6_sum_72 (by decide) ?_
                refine gc_R (ci := 6) ⟨hx, hb, hml, hown, hts⟩ (m_coins l dC dI K L f rt hC F_state F_saleOf F_pays F_price j 1 hns hso (by omega)) 2 wm_5 wm_6 wm_7 wm_8 wm_9 (by decide +kernel) ⟨Nat.le_of_ble_eq_true rfl, Nat.le_of_ble_eq_true rfl⟩ hK rfl (hC.1.1 51 (by decide)) F_m rfl hl.1 rfl (Nat.le_of_ble_eq_true rfl) dX6_sum_73 ⟨Nat.le_of_ble_eq_true rfl, Nat.le_of_ble_eq_true rfl⟩ hS hP (fun r_32 H locs hpr_32 hP hS => ?_)
                refine lv_goto (tgt := 80) hx hb dX6_sum_76 (by decide) ?_
                refine lv_iadd hx hb dX6_sum_80 ?_
                refine lv_topi (fun x_33 ex_33 => ?_)
                refine lv_iadd hx hb dX6_sum_81 ?_
                refine lv_topi (fun x_34 ex_34 => ?_)
                refine lv_istore (lv' := [(5, .int x_34), (0, .ref (rt 51)), (1, .int x), (2, .int y), (3, .int u), (4, .int v), (6, .int (nI j))]) hx hb dX6_sum_82 hl (by decide) rfl (fun ls hl => ?_)
                obtain ⟨x_35, ex_35⟩ : ∃ y : Int32, y = (nI j) + 1 := ⟨_, rfl⟩
                refine lv_iinc (v := x_35) (lv' := [(6, .int x_35), (5, .int x_34), (0, .ref (rt 51)), (1, .int x), (2, .int y), (3, .int u), (4, .int v)]) hx hb dX6_sum_84 hl (k := 6) rfl (by rw [ex_35]; rfl) (by decide) rfl (fun ls hl => ?_)
                refine lv_goto (tgt := 6) hx hb dX6_sum_87 (by decide) ?_
                obtain rfl : x_35 = nI (j + 1) := ex_35.trans (nI_1 j)
                exact ih (n - 1) (by omega) _ _ _ ⟨j + 1, _, by omega, trivial, hP, hS, lv_sub hl [2, 3, 4, 5, 6, 1, 0] rfl⟩
            · skip
              refine lv_aload_n hx hb dX6_sum_53 rfl (lv_at hl 0 rfl) ?_
              refine lv_iload hx hb dX6_sum_54 (lv_at hl 6 rfl) ?_
              refine lv_iconst (v := 0) hx hb dX6_sum_56 (by decide) ?_
              refine gc_R (ci := 6) ⟨hx, hb, hml, hown, hts⟩ (m_coins l dC dI K L f rt hC F_state F_saleOf F_pays F_price j 0 hns hso (by omega)) 2 wm_5 wm_6 wm_7 wm_8 wm_9 (by decide +kernel) ⟨Nat.le_of_ble_eq_true rfl, Nat.le_of_ble_eq_true rfl⟩ hK rfl (hC.1.1 51 (by decide)) F_m rfl hl.1 rfl (Nat.le_of_ble_eq_true rfl) dX6_sum_57 ⟨Nat.le_of_ble_eq_true rfl, Nat.le_of_ble_eq_true rfl⟩ hS hP (fun r_36 H locs hpr_36 hP hS => ?_)
              refine lv_goto (tgt := 64) hx hb dX6_sum_60 (by decide) ?_
              refine lv_iload hx hb dX6_sum_64 (lv_at hl 4 rfl) ?_
              refine lv_if_eq (tgt := 79) hx hb dX6_sum_66 (by decide) (fun c_37 => ?_) (fun c_37 => ?_)
              · skip
                refine lv_iconst (v := 0) hx hb dX6_sum_79 (by decide) ?_
                refine lv_iadd hx hb dX6_sum_80 ?_
                refine lv_topi (fun x_38 ex_38 => ?_)
                refine lv_iadd hx hb dX6_sum_81 ?_
                refine lv_topi (fun x_39 ex_39 => ?_)
                refine lv_istore (lv' := [(5, .int x_39), (0, .ref (rt 51)), (1, .int x), (2, .int y), (3, .int u), (4, .int v), (6, .int (nI j))]) hx hb dX6_sum_82 hl (by decide) rfl (fun ls hl => ?_)
                obtain ⟨x_40, ex_40⟩ : ∃ y : Int32, y = (nI j) + 1 := ⟨_, rfl⟩
                refine lv_iinc (v := x_40) (lv' := [(6, .int x_40), (5, .int x_39), (0, .ref (rt 51)), (1, .int x), (2, .int y), (3, .int u), (4, .int v)]) hx hb dX6_sum_84 hl (k := 6) rfl (by rw [ex_40]; rfl) (by decide) rfl (fun ls hl => ?_)
                refine lv_goto (tgt := 6) hx hb dX6_sum_87 (by decide) ?_
                obtain rfl : x_40 = nI (j + 1) := ex_40.trans (nI_1 j)
                exact ih (n - 1) (by omega) _ _ _ ⟨j + 1, _, by omega, trivial, hP, hS, lv_sub hl [2, 3, 4, 5, 6, 1, 0] rfl⟩
              · skip
                refine lv_aload_n hx hb dX6_sum_69 rfl (lv_at hl 0 rfl) ?_
                refine lv_iload hx hb dX6_sum_70 (lv_at hl 6 rfl) ?_
                refine lv_iconst (v := 1) hx hb dX6_sum_72 (by decide) ?_
                refine gc_R (ci := 6) ⟨hx, hb, hml, hown, hts⟩ (m_coins l dC dI K L f rt hC F_state F_saleOf F_pays F_price j 1 hns hso (by omega)) 2 wm_5 wm_6 wm_7 wm_8 wm_9 (by decide +kernel) ⟨Nat.le_of_ble_eq_true rfl, Nat.le_of_ble_eq_true rfl⟩ hK rfl (hC.1.1 51 (by decide)) F_m rfl hl.1 rfl (Nat.le_of_ble_eq_true rfl) dX6_sum_73 ⟨Nat.le_of_ble_eq_true rfl, Nat.le_of_ble_eq_true rfl⟩ hS hP (fun r_41 H locs hpr_41 hP hS => ?_)
                refine lv_goto (tgt := 80) hx hb dX6_sum_76 (by decide) ?_
                refine lv_iadd hx hb dX6_sum_80 ?_
                refine lv_topi (fun x_42 ex_42 => ?_)
                refine lv_iadd hx hb dX6_sum_81 ?_
                refine lv_topi (fun x_43 ex_43 => ?_)
                refine lv_istore (lv' := [(5, .int x_43), (0, .ref (rt 51)), (1, .int x), (2, .int y), (3, .int u), (4, .int v), (6, .int (nI j))]) hx hb dX6_sum_82 hl (by decide) rfl (fun ls hl => ?_)
                obtain ⟨x_44, ex_44⟩ : ∃ y : Int32, y = (nI j) + 1 := ⟨_, rfl⟩
                refine lv_iinc (v := x_44) (lv' := [(6, .int x_44), (5, .int x_43), (0, .ref (rt 51)), (1, .int x), (2, .int y), (3, .int u), (4, .int v)]) hx hb dX6_sum_84 hl (k := 6) rfl (by rw [ex_44]; rfl) (by decide) rfl (fun ls hl => ?_)
                refine lv_goto (tgt := 6) hx hb dX6_sum_87 (by decide) ?_
                obtain rfl : x_44 = nI (j + 1) := ex_44.trans (nI_1 j)
                exact ih (n - 1) (by omega) _ _ _ ⟨j + 1, _, by omega, trivial, hP, hS, lv_sub hl [2, 3, 4, 5, 6, 1, 0] rfl⟩
          · skip
            refine lv_goto (tgt := 84) hx hb dX6_sum_44 (by decide) ?_
            obtain ⟨x_45, ex_45⟩ : ∃ y : Int32, y = (nI j) + 1 := ⟨_, rfl⟩
            refine lv_iinc (v := x_45) (lv' := [(6, .int x_45), (0, .ref (rt 51)), (1, .int x), (2, .int y), (3, .int u), (4, .int v), (5, .int acc)]) hx hb dX6_sum_84 hl (k := 6) rfl (by rw [ex_45]; rfl) (by decide) rfl (fun ls hl => ?_)
            refine lv_goto (tgt := 6) hx hb dX6_sum_87 (by decide) ?_
            obtain rfl : x_45 = nI (j + 1) := ex_45.trans (nI_1 j)
            exact ih (n - 1) (by omega) _ _ _ ⟨j + 1, _, by omega, trivial, hP, hS, lv_sub hl [1, 2, 3, 4, 5, 6, 0] rfl⟩
set_option maxHeartbeats 4000000 in
set_option maxRecDepth 100000 in
theorem m_showings (l : Launch) (dC : Nat → ClassId) (dI : Nat → Nat → Nat) (K : Nat → ClassId) (L : List Nat) (f : Nat → va_E) (rt : Nat → Nat) {fm : List Value} (hC : mC rt L f fm) {g_saleOf : Nat → Int32} (F_saleOf : f (rt 30) = .inl (K 0, 1000, .inl g_saleOf)) {g_state : Nat → Int32} (F_state : f (rt 32) = .inl (K 0, 1000, .inl g_state)) {g_saleTick : Nat → Int32} (F_saleTick : f (rt 26) = .inl (K 0, 1000, .inl g_saleTick)) {ns : Nat} (I_sales : fm[25]? = some (.int (nI ns))) (x : Int32) (y : Int32) (hns : ns ≤ 1000) : gR l yX6_showings cX6_showings 5 .int 0 (dC, dI) K L f [.ref (rt 51), .int x, .int y] (fun r => ∃ q : Nat, q ≤ ns ∧ r = nI q) := by
  refine Met.ofW (cc := cX6_showings) (maxL := 5) (ret := some .int) (by decide) rfl ?_
  intro p e s m args below meth c s₁ B hml hv
  obtain ⟨rfl, hP, hK⟩ := hv
  have F_m := hC.2.1
  have hx := B.exec
  have hb := B.bytes
  have hr := B.returns
  have hlocks := B.notSynchronized
  have hts0 := atoms_spec (ws := Cond.code yX6_showings cX6_showings 5 (some .int) :: lw_B) B.pre
  have hts : ∀ w ∈ lw_B, w.before _ s = true := fun w h => hts0 w (List.mem_cons_of_mem _ h)
  have hown : s.vm.findClass RX6 = some m.cls := findClass_of_methodNamed B.named
  have hS : va_S (fun _ => False) s.heap s.heap [] := va_S.rf
  have hl := lv_entry ([.ref (rt 51), .int x, .int y]) (n := 5) (Nat.le_of_ble_eq_true rfl)
  rw [lg_entry_eq]
  generalize (lg_sl ([.ref (rt 51), .int x, .int y]) ++ List.replicate (5 - (lg_sl ([.ref (rt 51), .int x, .int y])).length) Slot.unset).toArray = ls at hl ⊢
  have hl : lv_has ls 5 [(0, .ref (rt 51)), (1, .int x), (2, .int y)] := hl
  refine lv_iconst (v := 0) hx hb dX6_showings_0 (by decide) ?_
  refine lv_istore_n (lv' := [(3, .int 0), (0, .ref (rt 51)), (1, .int x), (2, .int y)]) hx hb dX6_showings_1 rfl hl (by decide) rfl (fun ls hl => ?_)
  refine lv_iconst (v := 0) hx hb dX6_showings_2 (by decide) ?_
  refine lv_istore (lv' := [(4, .int 0), (3, .int 0), (0, .ref (rt 51)), (1, .int x), (2, .int y)]) hx hb dX6_showings_3 hl (by decide) rfl (fun ls hl => ?_)
  refine k_lx (pcx := 61) (fun n H locs ls => ∃ (j : Nat) (acc : Int32), j + n = ns ∧ (∃ q : Nat, q ≤ j ∧ acc = nI q) ∧ va_P (dC, dI) vwCl (va_pl L f) H ∧ va_S (fun _ => False) s.heap H locs ∧ lv_has ls 5 [(0, .ref (rt 51)), (1, .int x), (2, .int y), (3, .int acc), (4, .int (nI j))]) (fun H locs ls => ∃ (j : Nat) (acc : Int32), j = ns ∧ (∃ q : Nat, q ≤ j ∧ acc = nI q) ∧ va_P (dC, dI) vwCl (va_pl L f) H ∧ va_S (fun _ => False) s.heap H locs ∧ lv_has ls 5 [(0, .ref (rt 51)), (1, .int x), (2, .int y), (3, .int acc), (4, .int (nI j))]) (fun H locs ls hI => ?_) (fun n H locs ls hI hE ih => ?_) ns _ _ _ ⟨0, _, by omega, ⟨0, Nat.le_refl _, rfl⟩, hP, hS, lv_sub hl [2, 3, 4, 1, 0] rfl⟩
  · skip
    obtain ⟨j, acc, hj, hacc, hP, hS, hl⟩ := hI
    refine lv_iload_n hx hb dX6_showings_61 rfl (lv_at hl 3 rfl) ?_
    exact W.iret (v := acc) hx hb hr (fun t ht hW => ⟨⟨acc, (), rfl, by obtain ⟨q, hq1, hq2⟩ := hacc; exact ⟨q, by omega, hq2⟩, trivial⟩, hS.F ht⟩) hS.2.2 dX6_showings_62
  · skip
    obtain ⟨j, acc, hj, hacc, hP, hS, hl⟩ := hI
    refine lv_iload hx hb dX6_showings_5 (lv_at hl 4 rfl) ?_
    refine lv_aload_n hx hb dX6_showings_7 rfl (lv_at hl 0 rfl) ?_
    refine g_get (ci := 6) (v := .int (nI ns)) (C := RX6) (T := TX6) (N := 51) hx hb hts uB6 hown hK hP (hC.1.1 51 (by decide)) F_m rfl 25 (by decide) wm_4 I_sales dX6_showings_8 ?_
    refine lv_icmp_ge (tgt := 61) hx hb dX6_showings_11 (by decide) (fun c_1 => ?_) (fun c_1 => ?_)
    · skip
      have hjn : j = ns := by have := (nI_leI (a := ns) (b := j) (by omega) (by omega)).mp c_1; omega
      exact hE _ _ _ ⟨j, _, by omega, hacc, hP, hS, lv_sub hl [0, 1, 2, 3, 4] rfl⟩
    · skip
      have hjn : j < ns := by rcases Nat.lt_or_ge j ns with q | q; exact q; exact absurd (nI_le q (by omega)) c_1
      refine lv_iload_n hx hb dX6_showings_14 rfl (lv_at hl 3 rfl) ?_
      refine lv_aload_n hx hb dX6_showings_15 rfl (lv_at hl 0 rfl) ?_
      refine g_get (ci := 6) (v := .ref (rt 30)) (C := RX6) (T := TX6) (N := 51) hx hb hts uB6 hown hK hP (hC.1.1 51 (by decide)) F_m rfl 30 (by decide) wm_2 (hC.2.2.2 30 (by decide)) dX6_showings_16 ?_
      refine lv_iload hx hb dX6_showings_19 (lv_at hl 4 rfl) ?_
      refine g_iald hx hb hK hP (hC.1.1 30 (by decide)) F_saleOf (vp_in_nI (by omega) (by decide)) dX6_showings_21 ?_
      refine lv_topi (fun x_2 ex_2 => ?_)
      rw [nI_clamp (by omega)] at ex_2
      refine lv_iload_n hx hb dX6_showings_22 rfl (lv_at hl 1 rfl) ?_
      refine lv_icmp_ne (tgt := 52) hx hb dX6_showings_23 (by decide) (fun c_3 => ?_) (fun c_3 => ?_)
      · skip
        refine lv_iconst (v := 0) hx hb dX6_showings_52 (by decide) ?_
        refine lv_iadd hx hb dX6_showings_53 ?_
        refine lv_topi (fun x_4 ex_4 => ?_)
        refine lv_istore_n (lv' := [(3, .int x_4), (0, .ref (rt 51)), (1, .int x), (2, .int y), (4, .int (nI j))]) hx hb dX6_showings_54 rfl hl (by decide) rfl (fun ls hl => ?_)
        obtain ⟨x_5, ex_5⟩ : ∃ y : Int32, y = (nI j) + 1 := ⟨_, rfl⟩
        refine lv_iinc (v := x_5) (lv' := [(4, .int x_5), (3, .int x_4), (0, .ref (rt 51)), (1, .int x), (2, .int y)]) hx hb dX6_showings_55 hl (k := 4) rfl (by rw [ex_5]; rfl) (by decide) rfl (fun ls hl => ?_)
        refine lv_goto (tgt := 5) hx hb dX6_showings_58 (by decide) ?_
        obtain rfl : x_5 = nI (j + 1) := ex_5.trans (nI_1 j)
        exact ih (n - 1) (by omega) _ _ _ ⟨j + 1, _, by omega, acc_next hacc (by first | exact Or.inl ex_4 | exact Or.inr ex_4), hP, hS, lv_sub hl [2, 3, 4, 1, 0] rfl⟩
      · skip
        refine lv_aload_n hx hb dX6_showings_26 rfl (lv_at hl 0 rfl) ?_
        refine g_get (ci := 6) (v := .ref (rt 32)) (C := RX6) (T := TX6) (N := 51) hx hb hts uB6 hown hK hP (hC.1.1 51 (by decide)) F_m rfl 32 (by decide) wm_0 (hC.2.2.2 32 (by decide)) dX6_showings_27 ?_
        refine lv_iload hx hb dX6_showings_30 (lv_at hl 4 rfl) ?_
        refine g_iald hx hb hK hP (hC.1.1 32 (by decide)) F_state (vp_in_nI (by omega) (by decide)) dX6_showings_32 ?_
        refine lv_topi (fun x_6 ex_6 => ?_)
        rw [nI_clamp (by omega)] at ex_6
        refine lv_iconst (v := 3) hx hb dX6_showings_33 (by decide) ?_
        refine lv_icmp_eq (tgt := 52) hx hb dX6_showings_34 (by decide) (fun c_7 => ?_) (fun c_7 => ?_)
        · skip
          refine lv_iconst (v := 0) hx hb dX6_showings_52 (by decide) ?_
          refine lv_iadd hx hb dX6_showings_53 ?_
          refine lv_topi (fun x_8 ex_8 => ?_)
          refine lv_istore_n (lv' := [(3, .int x_8), (0, .ref (rt 51)), (1, .int x), (2, .int y), (4, .int (nI j))]) hx hb dX6_showings_54 rfl hl (by decide) rfl (fun ls hl => ?_)
          obtain ⟨x_9, ex_9⟩ : ∃ y : Int32, y = (nI j) + 1 := ⟨_, rfl⟩
          refine lv_iinc (v := x_9) (lv' := [(4, .int x_9), (3, .int x_8), (0, .ref (rt 51)), (1, .int x), (2, .int y)]) hx hb dX6_showings_55 hl (k := 4) rfl (by rw [ex_9]; rfl) (by decide) rfl (fun ls hl => ?_)
          refine lv_goto (tgt := 5) hx hb dX6_showings_58 (by decide) ?_
          obtain rfl : x_9 = nI (j + 1) := ex_9.trans (nI_1 j)
          exact ih (n - 1) (by omega) _ _ _ ⟨j + 1, _, by omega, acc_next hacc (by first | exact Or.inl ex_8 | exact Or.inr ex_8), hP, hS, lv_sub hl [2, 3, 4, 1, 0] rfl⟩
        · skip
          refine lv_aload_n hx hb dX6_showings_37 rfl (lv_at hl 0 rfl) ?_
          refine g_get (ci := 6) (v := .ref (rt 26)) (C := RX6) (T := TX6) (N := 51) hx hb hts uB6 hown hK hP (hC.1.1 51 (by decide)) F_m rfl 26 (by decide) wm_10 (hC.2.2.2 26 (by decide)) dX6_showings_38 ?_
          refine lv_iload hx hb dX6_showings_41 (lv_at hl 4 rfl) ?_
          refine g_iald hx hb hK hP (hC.1.1 26 (by decide)) F_saleTick (vp_in_nI (by omega) (by decide)) dX6_showings_43 ?_
          refine lv_topi (fun x_10 ex_10 => ?_)
          rw [nI_clamp (by omega)] at ex_10
          refine lv_iload_n hx hb dX6_showings_44 rfl (lv_at hl 2 rfl) ?_
          refine lv_icmp_ge (tgt := 52) hx hb dX6_showings_45 (by decide) (fun c_11 => ?_) (fun c_11 => ?_)
          · skip
            refine lv_iconst (v := 0) hx hb dX6_showings_52 (by decide) ?_
            refine lv_iadd hx hb dX6_showings_53 ?_
            refine lv_topi (fun x_12 ex_12 => ?_)
            refine lv_istore_n (lv' := [(3, .int x_12), (0, .ref (rt 51)), (1, .int x), (2, .int y), (4, .int (nI j))]) hx hb dX6_showings_54 rfl hl (by decide) rfl (fun ls hl => ?_)
            obtain ⟨x_13, ex_13⟩ : ∃ y : Int32, y = (nI j) + 1 := ⟨_, rfl⟩
            refine lv_iinc (v := x_13) (lv' := [(4, .int x_13), (3, .int x_12), (0, .ref (rt 51)), (1, .int x), (2, .int y)]) hx hb dX6_showings_55 hl (k := 4) rfl (by rw [ex_13]; rfl) (by decide) rfl (fun ls hl => ?_)
            refine lv_goto (tgt := 5) hx hb dX6_showings_58 (by decide) ?_
            obtain rfl : x_13 = nI (j + 1) := ex_13.trans (nI_1 j)
            exact ih (n - 1) (by omega) _ _ _ ⟨j + 1, _, by omega, acc_next hacc (by first | exact Or.inl ex_12 | exact Or.inr ex_12), hP, hS, lv_sub hl [2, 3, 4, 1, 0] rfl⟩
          · skip
            refine lv_iconst (v := 1) hx hb dX6_showings_48 (by decide) ?_
            refine lv_goto (tgt := 53) hx hb dX6_showings_49 (by decide) ?_
            refine lv_iadd hx hb dX6_showings_53 ?_
            refine lv_topi (fun x_14 ex_14 => ?_)
            refine lv_istore_n (lv' := [(3, .int x_14), (0, .ref (rt 51)), (1, .int x), (2, .int y), (4, .int (nI j))]) hx hb dX6_showings_54 rfl hl (by decide) rfl (fun ls hl => ?_)
            obtain ⟨x_15, ex_15⟩ : ∃ y : Int32, y = (nI j) + 1 := ⟨_, rfl⟩
            refine lv_iinc (v := x_15) (lv' := [(4, .int x_15), (3, .int x_14), (0, .ref (rt 51)), (1, .int x), (2, .int y)]) hx hb dX6_showings_55 hl (k := 4) rfl (by rw [ex_15]; rfl) (by decide) rfl (fun ls hl => ?_)
            refine lv_goto (tgt := 5) hx hb dX6_showings_58 (by decide) ?_
            obtain rfl : x_15 = nI (j + 1) := ex_15.trans (nI_1 j)
            exact ih (n - 1) (by omega) _ _ _ ⟨j + 1, _, by omega, acc_next hacc (by first | exact Or.inl ex_14 | exact Or.inr ex_14), hP, hS, lv_sub hl [2, 3, 4, 1, 0] rfl⟩
set_option maxHeartbeats 4000000 in
set_option maxRecDepth 100000 in
theorem m_presses (l : Launch) (dC : Nat → ClassId) (dI : Nat → Nat → Nat) (K : Nat → ClassId) (L : List Nat) (f : Nat → va_E) (rt : Nat → Nat) {fm : List Value} (hC : mC rt L f fm) {g_saleOf : Nat → Int32} (F_saleOf : f (rt 30) = .inl (K 0, 1000, .inl g_saleOf)) {g_state : Nat → Int32} (F_state : f (rt 32) = .inl (K 0, 1000, .inl g_state)) {g_pressTick : Nat → Int32} (F_pressTick : f (rt 34) = .inl (K 0, 1000, .inl g_pressTick)) {ns : Nat} (I_sales : fm[25]? = some (.int (nI ns))) (x : Int32) (y : Int32) (hns : ns ≤ 1000) : gR l yX6_presses cX6_presses 5 .int 0 (dC, dI) K L f [.ref (rt 51), .int x, .int y] (fun r => ∃ q : Nat, q ≤ ns ∧ r = nI q) := by
  refine Met.ofW (cc := cX6_presses) (maxL := 5) (ret := some .int) (by decide) rfl ?_
  intro p e s m args below meth c s₁ B hml hv
  obtain ⟨rfl, hP, hK⟩ := hv
  have F_m := hC.2.1
  have hx := B.exec
  have hb := B.bytes
  have hr := B.returns
  have hlocks := B.notSynchronized
  have hts0 := atoms_spec (ws := Cond.code yX6_presses cX6_presses 5 (some .int) :: lw_B) B.pre
  have hts : ∀ w ∈ lw_B, w.before _ s = true := fun w h => hts0 w (List.mem_cons_of_mem _ h)
  have hown : s.vm.findClass RX6 = some m.cls := findClass_of_methodNamed B.named
  have hS : va_S (fun _ => False) s.heap s.heap [] := va_S.rf
  have hl := lv_entry ([.ref (rt 51), .int x, .int y]) (n := 5) (Nat.le_of_ble_eq_true rfl)
  rw [lg_entry_eq]
  generalize (lg_sl ([.ref (rt 51), .int x, .int y]) ++ List.replicate (5 - (lg_sl ([.ref (rt 51), .int x, .int y])).length) Slot.unset).toArray = ls at hl ⊢
  have hl : lv_has ls 5 [(0, .ref (rt 51)), (1, .int x), (2, .int y)] := hl
  refine lv_iconst (v := 0) hx hb dX6_presses_0 (by decide) ?_
  refine lv_istore_n (lv' := [(3, .int 0), (0, .ref (rt 51)), (1, .int x), (2, .int y)]) hx hb dX6_presses_1 rfl hl (by decide) rfl (fun ls hl => ?_)
  refine lv_iconst (v := 0) hx hb dX6_presses_2 (by decide) ?_
  refine lv_istore (lv' := [(4, .int 0), (3, .int 0), (0, .ref (rt 51)), (1, .int x), (2, .int y)]) hx hb dX6_presses_3 hl (by decide) rfl (fun ls hl => ?_)
  refine k_lx (pcx := 61) (fun n H locs ls => ∃ (j : Nat) (acc : Int32), j + n = ns ∧ (∃ q : Nat, q ≤ j ∧ acc = nI q) ∧ va_P (dC, dI) vwCl (va_pl L f) H ∧ va_S (fun _ => False) s.heap H locs ∧ lv_has ls 5 [(0, .ref (rt 51)), (1, .int x), (2, .int y), (3, .int acc), (4, .int (nI j))]) (fun H locs ls => ∃ (j : Nat) (acc : Int32), j = ns ∧ (∃ q : Nat, q ≤ j ∧ acc = nI q) ∧ va_P (dC, dI) vwCl (va_pl L f) H ∧ va_S (fun _ => False) s.heap H locs ∧ lv_has ls 5 [(0, .ref (rt 51)), (1, .int x), (2, .int y), (3, .int acc), (4, .int (nI j))]) (fun H locs ls hI => ?_) (fun n H locs ls hI hE ih => ?_) ns _ _ _ ⟨0, _, by omega, ⟨0, Nat.le_refl _, rfl⟩, hP, hS, lv_sub hl [2, 3, 4, 1, 0] rfl⟩
  · skip
    obtain ⟨j, acc, hj, hacc, hP, hS, hl⟩ := hI
    refine lv_iload_n hx hb dX6_presses_61 rfl (lv_at hl 3 rfl) ?_
    exact W.iret (v := acc) hx hb hr (fun t ht hW => ⟨⟨acc, (), rfl, by obtain ⟨q, hq1, hq2⟩ := hacc; exact ⟨q, by omega, hq2⟩, trivial⟩, hS.F ht⟩) hS.2.2 dX6_presses_62
  · skip
    obtain ⟨j, acc, hj, hacc, hP, hS, hl⟩ := hI
    refine lv_iload hx hb dX6_presses_5 (lv_at hl 4 rfl) ?_
    refine lv_aload_n hx hb dX6_presses_7 rfl (lv_at hl 0 rfl) ?_
    refine g_get (ci := 6) (v := .int (nI ns)) (C := RX6) (T := TX6) (N := 51) hx hb hts uB6 hown hK hP (hC.1.1 51 (by decide)) F_m rfl 25 (by decide) wm_4 I_sales dX6_presses_8 ?_
    refine lv_icmp_ge (tgt := 61) hx hb dX6_presses_11 (by decide) (fun c_1 => ?_) (fun c_1 => ?_)
    · skip
      have hjn : j = ns := by have := (nI_leI (a := ns) (b := j) (by omega) (by omega)).mp c_1; omega
      exact hE _ _ _ ⟨j, _, by omega, hacc, hP, hS, lv_sub hl [0, 1, 2, 3, 4] rfl⟩
    · skip
      have hjn : j < ns := by rcases Nat.lt_or_ge j ns with q | q; exact q; exact absurd (nI_le q (by omega)) c_1
      refine lv_iload_n hx hb dX6_presses_14 rfl (lv_at hl 3 rfl) ?_
      refine lv_aload_n hx hb dX6_presses_15 rfl (lv_at hl 0 rfl) ?_
      refine g_get (ci := 6) (v := .ref (rt 30)) (C := RX6) (T := TX6) (N := 51) hx hb hts uB6 hown hK hP (hC.1.1 51 (by decide)) F_m rfl 30 (by decide) wm_2 (hC.2.2.2 30 (by decide)) dX6_presses_16 ?_
      refine lv_iload hx hb dX6_presses_19 (lv_at hl 4 rfl) ?_
      refine g_iald hx hb hK hP (hC.1.1 30 (by decide)) F_saleOf (vp_in_nI (by omega) (by decide)) dX6_presses_21 ?_
      refine lv_topi (fun x_2 ex_2 => ?_)
      rw [nI_clamp (by omega)] at ex_2
      refine lv_iload_n hx hb dX6_presses_22 rfl (lv_at hl 1 rfl) ?_
      refine lv_icmp_ne (tgt := 52) hx hb dX6_presses_23 (by decide) (fun c_3 => ?_) (fun c_3 => ?_)
      · skip
        refine lv_iconst (v := 0) hx hb dX6_presses_52 (by decide) ?_
        refine lv_iadd hx hb dX6_presses_53 ?_
        refine lv_topi (fun x_4 ex_4 => ?_)
        refine lv_istore_n (lv' := [(3, .int x_4), (0, .ref (rt 51)), (1, .int x), (2, .int y), (4, .int (nI j))]) hx hb dX6_presses_54 rfl hl (by decide) rfl (fun ls hl => ?_)
        obtain ⟨x_5, ex_5⟩ : ∃ y : Int32, y = (nI j) + 1 := ⟨_, rfl⟩
        refine lv_iinc (v := x_5) (lv' := [(4, .int x_5), (3, .int x_4), (0, .ref (rt 51)), (1, .int x), (2, .int y)]) hx hb dX6_presses_55 hl (k := 4) rfl (by rw [ex_5]; rfl) (by decide) rfl (fun ls hl => ?_)
        refine lv_goto (tgt := 5) hx hb dX6_presses_58 (by decide) ?_
        obtain rfl : x_5 = nI (j + 1) := ex_5.trans (nI_1 j)
        exact ih (n - 1) (by omega) _ _ _ ⟨j + 1, _, by omega, acc_next hacc (by first | exact Or.inl ex_4 | exact Or.inr ex_4), hP, hS, lv_sub hl [2, 3, 4, 1, 0] rfl⟩
      · skip
        refine lv_aload_n hx hb dX6_presses_26 rfl (lv_at hl 0 rfl) ?_
        refine g_get (ci := 6) (v := .ref (rt 32)) (C := RX6) (T := TX6) (N := 51) hx hb hts uB6 hown hK hP (hC.1.1 51 (by decide)) F_m rfl 32 (by decide) wm_0 (hC.2.2.2 32 (by decide)) dX6_presses_27 ?_
        refine lv_iload hx hb dX6_presses_30 (lv_at hl 4 rfl) ?_
        refine g_iald hx hb hK hP (hC.1.1 32 (by decide)) F_state (vp_in_nI (by omega) (by decide)) dX6_presses_32 ?_
        refine lv_topi (fun x_6 ex_6 => ?_)
        rw [nI_clamp (by omega)] at ex_6
        refine lv_iconst (v := 2) hx hb dX6_presses_33 (by decide) ?_
        refine lv_icmp_ne (tgt := 52) hx hb dX6_presses_34 (by decide) (fun c_7 => ?_) (fun c_7 => ?_)
        · skip
          refine lv_iconst (v := 0) hx hb dX6_presses_52 (by decide) ?_
          refine lv_iadd hx hb dX6_presses_53 ?_
          refine lv_topi (fun x_8 ex_8 => ?_)
          refine lv_istore_n (lv' := [(3, .int x_8), (0, .ref (rt 51)), (1, .int x), (2, .int y), (4, .int (nI j))]) hx hb dX6_presses_54 rfl hl (by decide) rfl (fun ls hl => ?_)
          obtain ⟨x_9, ex_9⟩ : ∃ y : Int32, y = (nI j) + 1 := ⟨_, rfl⟩
          refine lv_iinc (v := x_9) (lv' := [(4, .int x_9), (3, .int x_8), (0, .ref (rt 51)), (1, .int x), (2, .int y)]) hx hb dX6_presses_55 hl (k := 4) rfl (by rw [ex_9]; rfl) (by decide) rfl (fun ls hl => ?_)
          refine lv_goto (tgt := 5) hx hb dX6_presses_58 (by decide) ?_
          obtain rfl : x_9 = nI (j + 1) := ex_9.trans (nI_1 j)
          exact ih (n - 1) (by omega) _ _ _ ⟨j + 1, _, by omega, acc_next hacc (by first | exact Or.inl ex_8 | exact Or.inr ex_8), hP, hS, lv_sub hl [2, 3, 4, 1, 0] rfl⟩
        · skip
          refine lv_aload_n hx hb dX6_presses_37 rfl (lv_at hl 0 rfl) ?_
          refine g_get (ci := 6) (v := .ref (rt 34)) (C := RX6) (T := TX6) (N := 51) hx hb hts uB6 hown hK hP (hC.1.1 51 (by decide)) F_m rfl 34 (by decide) wm_11 (hC.2.2.2 34 (by decide)) dX6_presses_38 ?_
          refine lv_iload hx hb dX6_presses_41 (lv_at hl 4 rfl) ?_
          refine g_iald hx hb hK hP (hC.1.1 34 (by decide)) F_pressTick (vp_in_nI (by omega) (by decide)) dX6_presses_43 ?_
          refine lv_topi (fun x_10 ex_10 => ?_)
          rw [nI_clamp (by omega)] at ex_10
          refine lv_iload_n hx hb dX6_presses_44 rfl (lv_at hl 2 rfl) ?_
          refine lv_icmp_ge (tgt := 52) hx hb dX6_presses_45 (by decide) (fun c_11 => ?_) (fun c_11 => ?_)
          · skip
            refine lv_iconst (v := 0) hx hb dX6_presses_52 (by decide) ?_
            refine lv_iadd hx hb dX6_presses_53 ?_
            refine lv_topi (fun x_12 ex_12 => ?_)
            refine lv_istore_n (lv' := [(3, .int x_12), (0, .ref (rt 51)), (1, .int x), (2, .int y), (4, .int (nI j))]) hx hb dX6_presses_54 rfl hl (by decide) rfl (fun ls hl => ?_)
            obtain ⟨x_13, ex_13⟩ : ∃ y : Int32, y = (nI j) + 1 := ⟨_, rfl⟩
            refine lv_iinc (v := x_13) (lv' := [(4, .int x_13), (3, .int x_12), (0, .ref (rt 51)), (1, .int x), (2, .int y)]) hx hb dX6_presses_55 hl (k := 4) rfl (by rw [ex_13]; rfl) (by decide) rfl (fun ls hl => ?_)
            refine lv_goto (tgt := 5) hx hb dX6_presses_58 (by decide) ?_
            obtain rfl : x_13 = nI (j + 1) := ex_13.trans (nI_1 j)
            exact ih (n - 1) (by omega) _ _ _ ⟨j + 1, _, by omega, acc_next hacc (by first | exact Or.inl ex_12 | exact Or.inr ex_12), hP, hS, lv_sub hl [2, 3, 4, 1, 0] rfl⟩
          · skip
            refine lv_iconst (v := 1) hx hb dX6_presses_48 (by decide) ?_
            refine lv_goto (tgt := 53) hx hb dX6_presses_49 (by decide) ?_
            refine lv_iadd hx hb dX6_presses_53 ?_
            refine lv_topi (fun x_14 ex_14 => ?_)
            refine lv_istore_n (lv' := [(3, .int x_14), (0, .ref (rt 51)), (1, .int x), (2, .int y), (4, .int (nI j))]) hx hb dX6_presses_54 rfl hl (by decide) rfl (fun ls hl => ?_)
            obtain ⟨x_15, ex_15⟩ : ∃ y : Int32, y = (nI j) + 1 := ⟨_, rfl⟩
            refine lv_iinc (v := x_15) (lv' := [(4, .int x_15), (3, .int x_14), (0, .ref (rt 51)), (1, .int x), (2, .int y)]) hx hb dX6_presses_55 hl (k := 4) rfl (by rw [ex_15]; rfl) (by decide) rfl (fun ls hl => ?_)
            refine lv_goto (tgt := 5) hx hb dX6_presses_58 (by decide) ?_
            obtain rfl : x_15 = nI (j + 1) := ex_15.trans (nI_1 j)
            exact ih (n - 1) (by omega) _ _ _ ⟨j + 1, _, by omega, acc_next hacc (by first | exact Or.inl ex_14 | exact Or.inr ex_14), hP, hS, lv_sub hl [2, 3, 4, 1, 0] rfl⟩
set_option maxHeartbeats 4000000 in
set_option maxRecDepth 100000 in
theorem m_leftOfDay (l : Launch) (dC : Nat → ClassId) (dI : Nat → Nat → Nat) (K : Nat → ClassId) (L : List Nat) (f : Nat → va_E) (rt : Nat → Nat) {fm : List Value} (hC : mC rt L f fm) {g_dayBudget : Nat → Int32} (F_dayBudget : f (rt 15) = .inl (K 0, 40, .inl g_dayBudget)) {g_saleOf : Nat → Int32} (F_saleOf : f (rt 30) = .inl (K 0, 1000, .inl g_saleOf)) {g_saleTick : Nat → Int32} (F_saleTick : f (rt 26) = .inl (K 0, 1000, .inl g_saleTick)) {g_state : Nat → Int32} (F_state : f (rt 32) = .inl (K 0, 1000, .inl g_state)) {g_pays : Nat → Int32} (F_pays : f (rt 11) = .inl (K 0, 40, .inl g_pays)) {g_price : Nat → Int32} (F_price : f (rt 31) = .inl (K 0, 1000, .inl g_price)) {ns : Nat} {t : Int32} (I_sales : fm[25]? = some (.int (nI ns))) (I_tick : fm[1]? = some (.int t)) (cn : Nat) (hns : ns ≤ 1000) (hso : ∀ j, j < ns → vp_in (g_saleOf j) 40) (hc : cn < 40) : gR l yX6_leftOfDay cX6_leftOfDay 2 .int 2 (dC, dI) K L f [.ref (rt 51), .int (nI cn)] (fun _ => True) := by
  refine Met.ofW (cc := cX6_leftOfDay) (maxL := 2) (ret := some .int) (by decide) rfl ?_
  intro p e s m args below meth c s₁ B hml hv
  obtain ⟨rfl, hP, hK⟩ := hv
  have F_m := hC.2.1
  have hx := B.exec
  have hb := B.bytes
  have hr := B.returns
  have hlocks := B.notSynchronized
  have hts0 := atoms_spec (ws := Cond.code yX6_leftOfDay cX6_leftOfDay 2 (some .int) :: lw_B) B.pre
  have hts : ∀ w ∈ lw_B, w.before _ s = true := fun w h => hts0 w (List.mem_cons_of_mem _ h)
  have hown : s.vm.findClass RX6 = some m.cls := findClass_of_methodNamed B.named
  have hS : va_S (fun _ => False) s.heap s.heap [] := va_S.rf
  have hl := lv_entry ([.ref (rt 51), .int (nI cn)]) (n := 2) (Nat.le_of_ble_eq_true rfl)
  rw [lg_entry_eq]
  generalize (lg_sl ([.ref (rt 51), .int (nI cn)]) ++ List.replicate (2 - (lg_sl ([.ref (rt 51), .int (nI cn)])).length) Slot.unset).toArray = ls at hl ⊢
  have hl : lv_has ls 2 [(0, .ref (rt 51)), (1, .int (nI cn))] := hl
  refine lv_aload_n hx hb dX6_leftOfDay_0 rfl (lv_at hl 0 rfl) ?_
  refine g_get (ci := 6) (v := .ref (rt 15)) (C := RX6) (T := TX6) (N := 51) hx hb hts uB6 hown hK hP (hC.1.1 51 (by decide)) F_m rfl 15 (by decide) wm_12 (hC.2.2.2 15 (by decide)) dX6_leftOfDay_1 ?_
  refine lv_iload_n hx hb dX6_leftOfDay_4 rfl (lv_at hl 1 rfl) ?_
  refine g_iald hx hb hK hP (hC.1.1 15 (by decide)) F_dayBudget (vp_in_nI (by omega) (by decide)) dX6_leftOfDay_5 ?_
  refine lv_topi (fun x_1 ex_1 => ?_)
  rw [nI_clamp (by omega)] at ex_1
  refine lv_aload_n hx hb dX6_leftOfDay_6 rfl (lv_at hl 0 rfl) ?_
  refine lv_iload_n hx hb dX6_leftOfDay_7 rfl (lv_at hl 1 rfl) ?_
  refine lv_aload_n hx hb dX6_leftOfDay_8 rfl (lv_at hl 0 rfl) ?_
  refine g_get (ci := 6) (v := .int t) (C := RX6) (T := TX6) (N := 51) hx hb hts uB6 hown hK hP (hC.1.1 51 (by decide)) F_m rfl 1 (by decide) wm_13 I_tick dX6_leftOfDay_9 ?_
  refine lv_bipush (v := 100) hx hb dX6_leftOfDay_12 (by decide) ?_
  refine lv_idiv hx hb dX6_leftOfDay_14 (by decide) ?_
  refine lv_topi (fun x_2 ex_2 => ?_)
  refine lv_iconst (v := 1) hx hb dX6_leftOfDay_15 (by decide) ?_
  refine lv_iconst (v := 1) hx hb dX6_leftOfDay_16 (by decide) ?_
  refine gc_R (ci := 6) ⟨hx, hb, hml, hown, hts⟩ (m_sum l dC dI K L f rt hC F_saleOf F_saleTick F_state F_pays F_price I_sales (nI cn) x_2 1 1 hns hso) 4 wm_14 wm_15 wm_16 wm_8 wm_17 (by decide +kernel) ⟨Nat.le_of_ble_eq_true rfl, Nat.le_of_ble_eq_true rfl⟩ hK rfl (hC.1.1 51 (by decide)) F_m rfl hl.1 rfl (Nat.le_of_ble_eq_true rfl) dX6_leftOfDay_17 ⟨Nat.le_of_ble_eq_true rfl, Nat.le_of_ble_eq_true rfl⟩ hS hP (fun r_3 H locs hpr_3 hP hS => ?_)
  refine lv_isub hx hb dX6_leftOfDay_20 ?_
  refine lv_topi (fun x_4 ex_4 => ?_)
  exact W.iret (v := x_4) hx hb hr (fun t ht hW => ⟨⟨x_4, (), rfl, trivial, trivial⟩, hS.F ht⟩) hS.2.2 dX6_leftOfDay_21
set_option maxHeartbeats 4000000 in
set_option maxRecDepth 100000 in
theorem m_leftInAll (l : Launch) (dC : Nat → ClassId) (dI : Nat → Nat → Nat) (K : Nat → ClassId) (L : List Nat) (f : Nat → va_E) (rt : Nat → Nat) {fm : List Value} (hC : mC rt L f fm) {g_allBudget : Nat → Int32} (F_allBudget : f (rt 16) = .inl (K 0, 40, .inl g_allBudget)) {g_saleOf : Nat → Int32} (F_saleOf : f (rt 30) = .inl (K 0, 1000, .inl g_saleOf)) {g_saleTick : Nat → Int32} (F_saleTick : f (rt 26) = .inl (K 0, 1000, .inl g_saleTick)) {g_state : Nat → Int32} (F_state : f (rt 32) = .inl (K 0, 1000, .inl g_state)) {g_pays : Nat → Int32} (F_pays : f (rt 11) = .inl (K 0, 40, .inl g_pays)) {g_price : Nat → Int32} (F_price : f (rt 31) = .inl (K 0, 1000, .inl g_price)) {ns : Nat} (I_sales : fm[25]? = some (.int (nI ns))) (cn : Nat) (hns : ns ≤ 1000) (hso : ∀ j, j < ns → vp_in (g_saleOf j) 40) (hc : cn < 40) : gR l yX6_leftInAll cX6_leftInAll 2 .int 2 (dC, dI) K L f [.ref (rt 51), .int (nI cn)] (fun _ => True) := by
  refine Met.ofW (cc := cX6_leftInAll) (maxL := 2) (ret := some .int) (by decide) rfl ?_
  intro p e s m args below meth c s₁ B hml hv
  obtain ⟨rfl, hP, hK⟩ := hv
  have F_m := hC.2.1
  have hx := B.exec
  have hb := B.bytes
  have hr := B.returns
  have hlocks := B.notSynchronized
  have hts0 := atoms_spec (ws := Cond.code yX6_leftInAll cX6_leftInAll 2 (some .int) :: lw_B) B.pre
  have hts : ∀ w ∈ lw_B, w.before _ s = true := fun w h => hts0 w (List.mem_cons_of_mem _ h)
  have hown : s.vm.findClass RX6 = some m.cls := findClass_of_methodNamed B.named
  have hS : va_S (fun _ => False) s.heap s.heap [] := va_S.rf
  have hl := lv_entry ([.ref (rt 51), .int (nI cn)]) (n := 2) (Nat.le_of_ble_eq_true rfl)
  rw [lg_entry_eq]
  generalize (lg_sl ([.ref (rt 51), .int (nI cn)]) ++ List.replicate (2 - (lg_sl ([.ref (rt 51), .int (nI cn)])).length) Slot.unset).toArray = ls at hl ⊢
  have hl : lv_has ls 2 [(0, .ref (rt 51)), (1, .int (nI cn))] := hl
  refine lv_aload_n hx hb dX6_leftInAll_0 rfl (lv_at hl 0 rfl) ?_
  refine g_get (ci := 6) (v := .ref (rt 16)) (C := RX6) (T := TX6) (N := 51) hx hb hts uB6 hown hK hP (hC.1.1 51 (by decide)) F_m rfl 16 (by decide) wm_18 (hC.2.2.2 16 (by decide)) dX6_leftInAll_1 ?_
  refine lv_iload_n hx hb dX6_leftInAll_4 rfl (lv_at hl 1 rfl) ?_
  refine g_iald hx hb hK hP (hC.1.1 16 (by decide)) F_allBudget (vp_in_nI (by omega) (by decide)) dX6_leftInAll_5 ?_
  refine lv_topi (fun x_1 ex_1 => ?_)
  rw [nI_clamp (by omega)] at ex_1
  refine lv_aload_n hx hb dX6_leftInAll_6 rfl (lv_at hl 0 rfl) ?_
  refine lv_iload_n hx hb dX6_leftInAll_7 rfl (lv_at hl 1 rfl) ?_
  refine lv_iconst (v := (-1)) hx hb dX6_leftInAll_8 (by decide) ?_
  refine lv_iconst (v := 1) hx hb dX6_leftInAll_9 (by decide) ?_
  refine lv_iconst (v := 1) hx hb dX6_leftInAll_10 (by decide) ?_
  refine gc_R (ci := 6) ⟨hx, hb, hml, hown, hts⟩ (m_sum l dC dI K L f rt hC F_saleOf F_saleTick F_state F_pays F_price I_sales (nI cn) (-1) 1 1 hns hso) 4 wm_14 wm_15 wm_16 wm_8 wm_17 (by decide +kernel) ⟨Nat.le_of_ble_eq_true rfl, Nat.le_of_ble_eq_true rfl⟩ hK rfl (hC.1.1 51 (by decide)) F_m rfl hl.1 rfl (Nat.le_of_ble_eq_true rfl) dX6_leftInAll_11 ⟨Nat.le_of_ble_eq_true rfl, Nat.le_of_ble_eq_true rfl⟩ hS hP (fun r_2 H locs hpr_2 hP hS => ?_)
  refine lv_isub hx hb dX6_leftInAll_14 ?_
  refine lv_topi (fun x_3 ex_3 => ?_)
  exact W.iret (v := x_3) hx hb hr (fun t ht hW => ⟨⟨x_3, (), rfl, trivial, trivial⟩, hS.F ht⟩) hS.2.2 dX6_leftInAll_15
/-- DRAW, as the machine reckons it -/
def drw (t r c : Int32) : Int32 := let h := t * 40503 + r * 9973 + c * 7919; let h2 := (h ^^^ (h.toUInt32 >>> ((7 : Int32).toUInt32 &&& Int32.toUInt32 31)).toInt32) * 668265263; let u := (h2.toUInt32 >>> ((16 : Int32).toUInt32 &&& Int32.toUInt32 31)).toInt32; u - u / 1000 * 1000
set_option maxHeartbeats 4000000 in
set_option maxRecDepth 100000 in
theorem m_drawOf (l : Launch) (dC : Nat → ClassId) (dI : Nat → Nat → Nat) (K : Nat → ClassId) (L : List Nat) (f : Nat → va_E) (rt : Nat → Nat) {fm : List Value} (hC : mC rt L f fm) {t : Int32} (I_tick : fm[1]? = some (.int t)) (x : Int32) (y : Int32) : gR l yX6_drawOf cX6_drawOf 4 .int 0 (dC, dI) K L f [.ref (rt 51), .int x, .int y] (fun r => r = drw t y x) := by
  refine Met.ofW (cc := cX6_drawOf) (maxL := 4) (ret := some .int) (by decide) rfl ?_
  intro p e s m args below meth c s₁ B hml hv
  obtain ⟨rfl, hP, hK⟩ := hv
  have F_m := hC.2.1
  have hx := B.exec
  have hb := B.bytes
  have hr := B.returns
  have hlocks := B.notSynchronized
  have hts0 := atoms_spec (ws := Cond.code yX6_drawOf cX6_drawOf 4 (some .int) :: lw_B) B.pre
  have hts : ∀ w ∈ lw_B, w.before _ s = true := fun w h => hts0 w (List.mem_cons_of_mem _ h)
  have hown : s.vm.findClass RX6 = some m.cls := findClass_of_methodNamed B.named
  have hS : va_S (fun _ => False) s.heap s.heap [] := va_S.rf
  have hl := lv_entry ([.ref (rt 51), .int x, .int y]) (n := 4) (Nat.le_of_ble_eq_true rfl)
  rw [lg_entry_eq]
  generalize (lg_sl ([.ref (rt 51), .int x, .int y]) ++ List.replicate (4 - (lg_sl ([.ref (rt 51), .int x, .int y])).length) Slot.unset).toArray = ls at hl ⊢
  have hl : lv_has ls 4 [(0, .ref (rt 51)), (1, .int x), (2, .int y)] := hl
  refine lv_aload_n hx hb dX6_drawOf_0 rfl (lv_at hl 0 rfl) ?_
  refine g_get (ci := 6) (v := .int t) (C := RX6) (T := TX6) (N := 51) hx hb hts uB6 hown hK hP (hC.1.1 51 (by decide)) F_m rfl 1 (by decide) wm_13 I_tick dX6_drawOf_1 ?_
  refine lv_ldc (v := 40503) hx hb hown (hts _ wm_19) dX6_drawOf_4 ?_
  refine lv_imul hx hb dX6_drawOf_6 ?_
  refine lv_topi (fun x_1 ex_1 => ?_)
  refine lv_iload_n hx hb dX6_drawOf_7 rfl (lv_at hl 2 rfl) ?_
  refine lv_sipush (v := 9973) hx hb dX6_drawOf_8 (by decide) ?_
  refine lv_imul hx hb dX6_drawOf_11 ?_
  refine lv_topi (fun x_2 ex_2 => ?_)
  refine lv_iadd hx hb dX6_drawOf_12 ?_
  refine lv_topi (fun x_3 ex_3 => ?_)
  refine lv_iload_n hx hb dX6_drawOf_13 rfl (lv_at hl 1 rfl) ?_
  refine lv_sipush (v := 7919) hx hb dX6_drawOf_14 (by decide) ?_
  refine lv_imul hx hb dX6_drawOf_17 ?_
  refine lv_topi (fun x_4 ex_4 => ?_)
  refine lv_iadd hx hb dX6_drawOf_18 ?_
  refine lv_topi (fun x_5 ex_5 => ?_)
  refine lv_istore_n (lv' := [(3, .int x_5), (0, .ref (rt 51)), (1, .int x), (2, .int y)]) hx hb dX6_drawOf_19 rfl hl (by decide) rfl (fun ls hl => ?_)
  refine lv_iload_n hx hb dX6_drawOf_20 rfl (lv_at hl 0 rfl) ?_
  refine lv_iload_n hx hb dX6_drawOf_21 rfl (lv_at hl 0 rfl) ?_
  refine lv_bipush (v := 7) hx hb dX6_drawOf_22 (by decide) ?_
  refine lv_iushr hx hb dX6_drawOf_24 rfl ?_
  refine lv_topi (fun x_6 ex_6 => ?_)
  refine lv_ixor hx hb dX6_drawOf_25 ?_
  refine lv_topi (fun x_7 ex_7 => ?_)
  refine lv_ldc (v := 668265263) hx hb hown (hts _ wm_20) dX6_drawOf_26 ?_
  refine lv_imul hx hb dX6_drawOf_28 ?_
  refine lv_topi (fun x_8 ex_8 => ?_)
  refine lv_istore_n (lv' := [(3, .int x_8), (0, .ref (rt 51)), (1, .int x), (2, .int y)]) hx hb dX6_drawOf_29 rfl hl (by decide) rfl (fun ls hl => ?_)
  refine lv_iload_n hx hb dX6_drawOf_30 rfl (lv_at hl 0 rfl) ?_
  refine lv_bipush (v := 16) hx hb dX6_drawOf_31 (by decide) ?_
  refine lv_iushr hx hb dX6_drawOf_33 rfl ?_
  refine lv_topi (fun x_9 ex_9 => ?_)
  refine lv_sipush (v := 1000) hx hb dX6_drawOf_34 (by decide) ?_
  refine lv_irem hx hb dX6_drawOf_37 (by decide) ?_
  refine lv_topi (fun x_10 ex_10 => ?_)
  exact W.iret (v := x_10) hx hb hr (fun t ht hW => ⟨⟨x_10, (), rfl, (by subst ex_1 ex_2 ex_3 ex_4 ex_5 ex_6 ex_7 ex_8 ex_9 ex_10; rfl), trivial⟩, hS.F ht⟩) hS.2.2 dX6_drawOf_38
