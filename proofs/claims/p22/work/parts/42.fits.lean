theorem k_ap2 {x y : Int32} (hx : vp_in x 40) (hy : vp_in y 40) : vp_in (40 * x + y) 1600 := by
  obtain ⟨q, hq, rfl⟩ := vp_in_of hx (by decide)
  exact k_ap hq hy
/-- the k-th taken one stands beside i -/
def fitA (ga gb gp : Nat → Int32) (mm i k : Nat) : Prop := ¬ ga k = nI i ∧ ¬ (ga k < nI mm ∧ ¬ gp (Int32.toNatClampNeg (40 * gb i + gb (Int32.toNatClampNeg (ga k)))) = 0)
/-- i may stand behind the dp taken ones -/
def fitP (ga gb gp : Nat → Int32) (mm i dp : Nat) (wo : Int32) : Prop := ¬ nI i = wo ∧ ∀ k, k < dp → fitA ga gb gp mm i k
set_option maxHeartbeats 4000000 in
set_option maxRecDepth 100000 in
theorem m_fits (l : Launch) (dC : Nat → ClassId) (dI : Nat → Nat → Nat) (K : Nat → ClassId) (L : List Nat) (f : Nat → va_E) (rt : Nat → Nat) {fm : List Value} (hC : mC rt L f fm) {g_at : Nat → Int32} (F_at : f (rt 40) = .inl (K 0, 5, .inl g_at)) {g_mayBe : Nat → Int32} (F_mayBe : f (rt 36) = .inl (K 0, 40, .inl g_mayBe)) {g_apart : Nat → Int32} (F_apart : f (rt 21) = .inl (K 2, 1600, .inl g_apart)) {mm : Nat} (I_may : fm[35]? = some (.int (nI mm))) (i : Nat) (dp : Nat) (wo : Int32) (hmm : mm ≤ 40) (hi : i < mm) (hdp : dp ≤ 4) (hat : ∀ k, k < dp → ∃ q : Nat, q ≤ mm ∧ g_at k = nI q) (hmb : ∀ k, k < mm → vp_in (g_mayBe k) 40) : gR l yX6_fits cX6_fits 6 .boolean 0 (dC, dI) K L f [.ref (rt 51), .int (nI i), .int (nI dp), .int wo] (fun r => (r = 1 ∧ fitP g_at g_mayBe g_apart mm i dp wo) ∨ (r = 0 ∧ ¬ fitP g_at g_mayBe g_apart mm i dp wo)) := by
  refine Met.ofW (cc := cX6_fits) (maxL := 6) (ret := some .boolean) (by decide) rfl ?_
  intro p e s m args below meth c s₁ B hml hv
  obtain ⟨rfl, hP, hK⟩ := hv
  have F_m := hC.2.1
  have hx := B.exec
  have hb := B.bytes
  have hr := B.returns
  have hlocks := B.notSynchronized
  have hts0 := atoms_spec (ws := Cond.code yX6_fits cX6_fits 6 (some .boolean) :: lw_B) B.pre
  have hts : ∀ w ∈ lw_B, w.before _ s = true := fun w h => hts0 w (List.mem_cons_of_mem _ h)
  have hown : s.vm.findClass RX6 = some m.cls := findClass_of_methodNamed B.named
  have hS : va_S (fun _ => False) s.heap s.heap [] := va_S.rf
  have hl := lv_entry ([.ref (rt 51), .int (nI i), .int (nI dp), .int wo]) (n := 6) (Nat.le_of_ble_eq_true rfl)
  rw [lg_entry_eq]
  generalize (lg_sl ([.ref (rt 51), .int (nI i), .int (nI dp), .int wo]) ++ List.replicate (6 - (lg_sl ([.ref (rt 51), .int (nI i), .int (nI dp), .int wo])).length) Slot.unset).toArray = ls at hl ⊢
  have hl : lv_has ls 6 [(0, .ref (rt 51)), (1, .int (nI i)), (2, .int (nI dp)), (3, .int wo)] := hl
  refine lv_iload_n hx hb dX6_fits_0 rfl (lv_at hl 1 rfl) ?_
  refine lv_iload_n hx hb dX6_fits_1 rfl (lv_at hl 3 rfl) ?_
  refine lv_icmp_ne (tgt := 7) hx hb dX6_fits_2 (by decide) (fun c_1 => ?_) (fun c_1 => ?_)
  · skip
    have hwo := c_1
    refine lv_iconst (v := 0) hx hb dX6_fits_7 (by decide) ?_
    refine lv_istore (lv' := [(4, .int 0), (0, .ref (rt 51)), (1, .int (nI i)), (2, .int (nI dp)), (3, .int wo)]) hx hb dX6_fits_8 hl (by decide) rfl (fun ls hl => ?_)
    refine k_lx (pcx := 73) (fun n H locs ls => ∃ (j : Nat), j + n = dp ∧ (∀ k, k < j → fitA g_at g_mayBe g_apart mm i k) ∧ va_P (dC, dI) vwCl (va_pl L f) H ∧ va_S (fun _ => False) s.heap H locs ∧ lv_has ls 6 [(0, .ref (rt 51)), (1, .int (nI i)), (2, .int (nI dp)), (3, .int wo), (4, .int (nI j))]) (fun H locs ls => ∃ (j : Nat), j = dp ∧ (∀ k, k < j → fitA g_at g_mayBe g_apart mm i k) ∧ va_P (dC, dI) vwCl (va_pl L f) H ∧ va_S (fun _ => False) s.heap H locs ∧ lv_has ls 6 [(0, .ref (rt 51)), (1, .int (nI i)), (2, .int (nI dp)), (3, .int wo), (4, .int (nI j))]) (fun H locs ls hI => ?_) (fun n H locs ls hI hE ih => ?_) dp _ _ _ ⟨0, by omega, fun k hk => absurd hk (Nat.not_lt_zero k), hP, hS, lv_sub hl [1, 2, 3, 4, 0] rfl⟩
    · skip
      obtain ⟨j, hj, hacc, hP, hS, hl⟩ := hI
      refine lv_iconst (v := 1) hx hb dX6_fits_73 (by decide) ?_
      exact W.zret (v := 1) hx hb hr rfl (fun t ht hW => ⟨⟨1, (), rfl, Or.inl ⟨rfl, hwo, fun k hk => hacc k (by omega)⟩, trivial⟩, hS.F ht⟩) hS.2.2 dX6_fits_74
    · skip
      obtain ⟨j, hj, hacc, hP, hS, hl⟩ := hI
      refine lv_iload hx hb dX6_fits_10 (lv_at hl 4 rfl) ?_
      refine lv_iload_n hx hb dX6_fits_12 rfl (lv_at hl 2 rfl) ?_
      refine lv_icmp_ge (tgt := 73) hx hb dX6_fits_13 (by decide) (fun c_2 => ?_) (fun c_2 => ?_)
      · skip
        have hjn : j = dp := by have := (nI_leI (a := dp) (b := j) (by omega) (by omega)).mp c_2; omega
        exact hE _ _ _ ⟨j, by omega, hacc, hP, hS, lv_sub hl [0, 1, 2, 3, 4] rfl⟩
      · skip
        have hjn : j < dp := by rcases Nat.lt_or_ge j dp with q | q; exact q; exact absurd (nI_le q (by omega)) c_2
        refine lv_aload_n hx hb dX6_fits_16 rfl (lv_at hl 0 rfl) ?_
        refine g_get (ci := 6) (v := .ref (rt 40)) (C := RX6) (T := TX6) (N := 51) hx hb hts uB6 hown hK hP (hC.1.1 51 (by decide)) F_m rfl 40 (by decide) wm_62 (hC.2.2.2 40 (by decide)) dX6_fits_17 ?_
        refine lv_iload hx hb dX6_fits_20 (lv_at hl 4 rfl) ?_
        refine g_iald hx hb hK hP (hC.1.1 40 (by decide)) F_at (vp_in_nI (by omega) (by decide)) dX6_fits_22 ?_
        refine lv_topi (fun x_3 ex_3 => ?_)
        rw [nI_clamp (by omega)] at ex_3
        refine lv_istore (lv' := [(5, .int x_3), (0, .ref (rt 51)), (1, .int (nI i)), (2, .int (nI dp)), (3, .int wo), (4, .int (nI j))]) hx hb dX6_fits_23 hl (by decide) rfl (fun ls hl => ?_)
        refine lv_iload hx hb dX6_fits_25 (lv_at hl 0 rfl) ?_
        refine lv_iload_n hx hb dX6_fits_27 rfl (lv_at hl 2 rfl) ?_
        refine lv_icmp_eq (tgt := 65) hx hb dX6_fits_28 (by decide) (fun c_4 => ?_) (fun c_4 => ?_)
        · skip
          refine lv_iconst (v := 0) hx hb dX6_fits_65 (by decide) ?_
          exact W.zret (v := 0) hx hb hr rfl (fun t ht hW => ⟨⟨0, (), rfl, Or.inr ⟨rfl, fun q => (q.2 j hjn).1 (ex_3.symm.trans c_4)⟩, trivial⟩, hS.F ht⟩) hS.2.2 dX6_fits_66
        · skip
          have hne9 : ¬ g_at j = nI i := fun q => c_4 (ex_3.trans q)
          refine lv_iload hx hb dX6_fits_31 (lv_at hl 0 rfl) ?_
          refine lv_aload_n hx hb dX6_fits_33 rfl (lv_at hl 1 rfl) ?_
          refine g_get (ci := 6) (v := .int (nI mm)) (C := RX6) (T := TX6) (N := 51) hx hb hts uB6 hown hK hP (hC.1.1 51 (by decide)) F_m rfl 35 (by decide) wm_63 I_may dX6_fits_34 ?_
          refine lv_icmp_ge (tgt := 67) hx hb dX6_fits_37 (by decide) (fun c_5 => ?_) (fun c_5 => ?_)
          · skip
            have hfit : fitA g_at g_mayBe g_apart mm i j := ⟨hne9, fun q => by have q1 := q.1; rw [← ex_3] at q1; simp only [Int32.lt_iff_toInt_lt, Int32.le_iff_toInt_le] at q1 c_5; omega⟩
            obtain ⟨x_6, ex_6⟩ : ∃ y : Int32, y = (nI j) + 1 := ⟨_, rfl⟩
            refine lv_iinc (v := x_6) (lv' := [(4, .int x_6), (5, .int x_3), (0, .ref (rt 51)), (1, .int (nI i)), (2, .int (nI dp)), (3, .int wo)]) hx hb dX6_fits_67 hl (k := 5) rfl (by rw [ex_6]; rfl) (by decide) rfl (fun ls hl => ?_)
            refine lv_goto (tgt := 10) hx hb dX6_fits_70 (by decide) ?_
            obtain rfl : x_6 = nI (j + 1) := ex_6.trans (nI_1 j)
            exact ih (n - 1) (by omega) _ _ _ ⟨j + 1, by omega, fun k hk => (Nat.lt_or_eq_of_le (Nat.le_of_lt_succ hk)).elim (hacc k) (fun q => by rw [q]; exact hfit), hP, hS, lv_sub hl [2, 3, 4, 5, 0] rfl⟩
          · skip
            obtain ⟨q9, hq9, eq9⟩ := hat j hjn
            obtain rfl : x_3 = nI q9 := ex_3.trans eq9
            have hqm : q9 < mm := by rcases Nat.lt_or_ge q9 mm with q | q; exact q; exact absurd (nI_le q (by omega)) c_5
            refine lv_aload_n hx hb dX6_fits_40 rfl (lv_at hl 1 rfl) ?_
            refine g_get (ci := 6) (v := .ref (rt 21)) (C := RX6) (T := TX6) (N := 51) hx hb hts uB6 hown hK hP (hC.1.1 51 (by decide)) F_m rfl 21 (by decide) wm_49 (hC.2.2.2 21 (by decide)) dX6_fits_41 ?_
            refine lv_bipush (v := 40) hx hb dX6_fits_44 (by decide) ?_
            refine lv_aload_n hx hb dX6_fits_46 rfl (lv_at hl 1 rfl) ?_
            refine g_get (ci := 6) (v := .ref (rt 36)) (C := RX6) (T := TX6) (N := 51) hx hb hts uB6 hown hK hP (hC.1.1 51 (by decide)) F_m rfl 36 (by decide) wm_64 (hC.2.2.2 36 (by decide)) dX6_fits_47 ?_
            refine lv_iload_n hx hb dX6_fits_50 rfl (lv_at hl 2 rfl) ?_
            refine g_iald hx hb hK hP (hC.1.1 36 (by decide)) F_mayBe (vp_in_nI (by omega) (by decide)) dX6_fits_51 ?_
            refine lv_topi (fun x_7 ex_7 => ?_)
            rw [nI_clamp (by omega)] at ex_7
            refine lv_imul hx hb dX6_fits_52 ?_
            refine lv_topi (fun x_8 ex_8 => ?_)
            refine lv_aload_n hx hb dX6_fits_53 rfl (lv_at hl 1 rfl) ?_
            refine g_get (ci := 6) (v := .ref (rt 36)) (C := RX6) (T := TX6) (N := 51) hx hb hts uB6 hown hK hP (hC.1.1 51 (by decide)) F_m rfl 36 (by decide) wm_64 (hC.2.2.2 36 (by decide)) dX6_fits_54 ?_
            refine lv_iload hx hb dX6_fits_57 (lv_at hl 0 rfl) ?_
            refine g_iald hx hb hK hP (hC.1.1 36 (by decide)) F_mayBe (vp_in_nI (by omega) (by decide)) dX6_fits_59 ?_
            refine lv_topi (fun x_9 ex_9 => ?_)
            rw [nI_clamp (by omega)] at ex_9
            refine lv_iadd hx hb dX6_fits_60 ?_
            refine lv_topi (fun x_10 ex_10 => ?_)
            refine g_zald hx hb hK hP (hC.1.1 21 (by decide)) F_apart (by subst ex_10 ex_9 ex_8 ex_7; exact k_ap2 (hmb i hi) (hmb q9 hqm)) dX6_fits_61 ?_
            refine lv_topi (fun x_11 ex_11 => ?_)
            refine lv_if_eq (tgt := 67) hx hb dX6_fits_62 (by decide) (fun c_12 => ?_) (fun c_12 => ?_)
            · skip
              have hz9 : x_11 = g_apart (Int32.toNatClampNeg (40 * g_mayBe i + g_mayBe (Int32.toNatClampNeg (g_at j)))) := by rw [eq9, nI_clamp (by omega)]; subst ex_11 ex_10 ex_9 ex_8 ex_7; rfl
              have hfit : fitA g_at g_mayBe g_apart mm i j := ⟨hne9, fun q => q.2 (hz9.symm.trans c_12)⟩
              obtain ⟨x_13, ex_13⟩ : ∃ y : Int32, y = (nI j) + 1 := ⟨_, rfl⟩
              refine lv_iinc (v := x_13) (lv' := [(4, .int x_13), (5, .int (nI q9)), (0, .ref (rt 51)), (1, .int (nI i)), (2, .int (nI dp)), (3, .int wo)]) hx hb dX6_fits_67 hl (k := 5) rfl (by rw [ex_13]; rfl) (by decide) rfl (fun ls hl => ?_)
              refine lv_goto (tgt := 10) hx hb dX6_fits_70 (by decide) ?_
              obtain rfl : x_13 = nI (j + 1) := ex_13.trans (nI_1 j)
              exact ih (n - 1) (by omega) _ _ _ ⟨j + 1, by omega, fun k hk => (Nat.lt_or_eq_of_le (Nat.le_of_lt_succ hk)).elim (hacc k) (fun q => by rw [q]; exact hfit), hP, hS, lv_sub hl [2, 3, 4, 5, 0] rfl⟩
            · skip
              have hz9 : x_11 = g_apart (Int32.toNatClampNeg (40 * g_mayBe i + g_mayBe (Int32.toNatClampNeg (g_at j)))) := by rw [eq9, nI_clamp (by omega)]; subst ex_11 ex_10 ex_9 ex_8 ex_7; rfl
              refine lv_iconst (v := 0) hx hb dX6_fits_65 (by decide) ?_
              exact W.zret (v := 0) hx hb hr rfl (fun t ht hW => ⟨⟨0, (), rfl, Or.inr ⟨rfl, fun q => (q.2 j hjn).2 ⟨by rw [eq9]; exact nI_lt hqm (by omega), fun z => c_12 (hz9.trans z)⟩⟩, trivial⟩, hS.F ht⟩) hS.2.2 dX6_fits_66
  · skip
    refine lv_iconst (v := 0) hx hb dX6_fits_5 (by decide) ?_
    exact W.zret (v := 0) hx hb hr rfl (fun t ht hW => ⟨⟨0, (), rfl, Or.inr ⟨rfl, fun q => q.1 c_1⟩, trivial⟩, hS.F ht⟩) hS.2.2 dX6_fits_6
