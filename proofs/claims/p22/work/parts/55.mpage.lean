set_option maxHeartbeats 4000000 in
set_option maxRecDepth 100000 in
theorem um_page (l : Launch) (dC : Nat → ClassId) (dI : Nat → Nat → Nat) (K : Nat → ClassId) (L : List Nat) (f : Nat → va_E) (rt : Nat → Nat) {fm : List Value} (hC : mC rt L f fm) {g_places : Nat → Int32} (F_places : f (rt 6) = .inl (K 0, 8, .inl g_places)) {g_sizes : Nat → Int32} (F_sizes : f (rt 7) = .inl (K 0, 32, .inl g_sizes)) {np : Nat} (I_pages : fm[5]? = some (.int (nI np))) (x : Int32) (hnp : np ≤ 8) (hsz : ∀ i, i < 32 → ∃ z : Nat, z ≤ 127 ∧ g_sizes i = nI z) (hLn : gN L) : gMi l yX6_page cX6_page 6 1 (dC, dI) K L f [.ref (rt 51), .int x] (fun r f' => (¬ pgOk x ∧ r = (-1) ∧ f' = f) ∨ (pgOk x ∧ np = 8 ∧ r = (-3) ∧ f' = f) ∨ (pgOk x ∧ np < 8 ∧ r = nI np ∧ ∃ (fm' : List Value) (gs gl : Nat → Int32), gSm rt [6, 7, 51] f f' ∧ fmS [5] fm fm' ∧ mC rt L f' fm' ∧ f' (rt 7) = .inl (K 0, 32, .inl gs) ∧ f' (rt 6) = .inl (K 0, 8, .inl gl) ∧ fm'[5]? = some (.int (nI (np + 1))) ∧ (∀ i, i < 32 → ∃ z : Nat, z ≤ 127 ∧ gs i = nI z) ∧ ∃ n9 : Nat, 1 ≤ n9 ∧ n9 ≤ 4 ∧ gl = upd g_places np (nI n9))) := by
  refine Met.ofW (cc := cX6_page) (maxL := 6) (ret := (some .int)) (by decide) rfl ?_
  intro p e s m args below meth c s₁ B hml hv
  obtain ⟨rfl, hP, hK⟩ := hv
  have F_m := hC.2.1
  have hD : va_D (fun q : Nat => q ∈ L) (va_pl L f) := g_D hLn (fun a h => h) f
  generalize hAe : (fun q : Nat => q ∈ L) = A at hD ⊢
  have hx := B.exec
  have hb := B.bytes
  have hr := B.returns
  have hlocks := B.notSynchronized
  have hts0 := atoms_spec (ws := Cond.code yX6_page cX6_page 6 (some .int) :: lw_B) B.pre
  have hts : ∀ w ∈ lw_B, w.before _ s = true := fun w h => hts0 w (List.mem_cons_of_mem _ h)
  have hown : s.vm.findClass RX6 = some m.cls := findClass_of_methodNamed B.named
  have hS : va_S A s.heap s.heap [] := va_S.rf
  have hl := lv_entry ([.ref (rt 51), .int x]) (n := 6) (Nat.le_of_ble_eq_true rfl)
  rw [lg_entry_eq]
  generalize (lg_sl ([.ref (rt 51), .int x]) ++ List.replicate (6 - (lg_sl ([.ref (rt 51), .int x])).length) Slot.unset).toArray = ls at hl ⊢
  have hl : lv_has ls 6 [(0, .ref (rt 51)), (1, .int x)] := hl
  have hSm : gSm rt [6, 7, 51] f f := gSm.rf
  have hFs : fmS [5] fm fm := fmS.rf
  refine lv_iconst (v := 0) hx hb dX6_page_0 (by decide) ?_
  refine lv_istore_n (lv' := [(2, .int 0), (0, .ref (rt 51)), (1, .int x)]) hx hb dX6_page_1 rfl hl (by decide) rfl (fun ls hl => ?_)
  refine lv_iload_n hx hb dX6_page_2 rfl (lv_at hl 2 rfl) ?_
  refine lv_if_le (tgt := 10) hx hb dX6_page_3 (by decide) (fun c_1 => ?_) (fun c_1 => ?_)
  · skip
    refine lv_iconst (v := 0) hx hb dX6_page_10 (by decide) ?_
    refine lv_istore_n (lv' := [(3, .int 0), (2, .int 0), (0, .ref (rt 51)), (1, .int x)]) hx hb dX6_page_11 rfl hl (by decide) rfl (fun ls hl => ?_)
    refine lv_iload_n hx hb dX6_page_12 rfl (lv_at hl 3 rfl) ?_
    refine lv_istore (lv' := [(4, .int x), (3, .int 0), (2, .int 0), (0, .ref (rt 51)), (1, .int x)]) hx hb dX6_page_13 hl (by decide) rfl (fun ls hl => ?_)
    refine lv_iload hx hb dX6_page_15 (lv_at hl 0 rfl) ?_
    refine lv_if_le (tgt := 59) hx hb dX6_page_17 (by decide) (fun c_2 => ?_) (fun c_2 => ?_)
    · skip
      refine lv_iload_n hx hb dX6_page_59 rfl (lv_at hl 1 rfl) ?_
      refine lv_if_eq (tgt := 68) hx hb dX6_page_60 (by decide) (fun _ => ?_) (fun h9 => absurd (by decide) h9)
      refine lv_iconst (v := (-1)) hx hb dX6_page_68 (by decide) ?_
      exact W.iret (v := (-1)) hx hb hr (fun t ht hW => ⟨⟨(-1), f, rfl, (Or.inl ⟨fun q => absurd c_1 (by have q1 := q.1; simp only [Int32.lt_iff_toInt_lt, Int32.le_iff_toInt_le] at q1 ⊢; omega), rfl, rfl⟩), by show va_P (dC, dI) vwCl (va_pl L f) t.heap; rw [ht]; exact hP⟩, hS.F ht⟩) hS.2.2 dX6_page_69
    · skip
      exact absurd c_1 c_2
  · skip
    obtain ⟨X, hX, hX0, rfl⟩ := k_pos c_1
    refine lv_iconst (v := 1) hx hb dX6_page_6 (by decide) ?_
    refine lv_goto (tgt := 11) hx hb dX6_page_7 (by decide) ?_
    refine lv_istore_n (lv' := [(3, .int 1), (2, .int 0), (0, .ref (rt 51)), (1, .int (nI X))]) hx hb dX6_page_11 rfl hl (by decide) rfl (fun ls hl => ?_)
    refine lv_iload_n hx hb dX6_page_12 rfl (lv_at hl 3 rfl) ?_
    refine lv_istore (lv' := [(4, .int (nI X)), (3, .int 1), (2, .int 0), (0, .ref (rt 51)), (1, .int (nI X))]) hx hb dX6_page_13 hl (by decide) rfl (fun ls hl => ?_)
    have hSma := hSm
    have hFsa := hFs
    refine k_lx (pcx := 59) (fun n H locs ls => ∃ (fva : Nat → va_E) (fmva : List Value) (n7 : Nat) (d : Nat) (k : Nat) (g : Int32), n7 = n ∧ gSm rt [] f fva ∧ fmS [] fm fmva ∧ mC rt L fva fmva ∧ (n7 ≤ 5) ∧ (d < 128 ^ n7) ∧ (d < 2 ^ 31) ∧ (k + dgN n7 d = dgN 5 X) ∧ (k + n7 ≤ 5) ∧ ((g = 1 ∧ dgA n7 d = true) ↔ dgA 5 X = true) ∧ (g = 0 ∨ g = 1) ∧ va_P (dC, dI) vwCl (va_pl L fva) H ∧ va_S A s.heap H locs ∧ lv_has ls 6 [(0, .ref (rt 51)), (1, .int (nI X)), (2, .int (nI k)), (3, .int g), (4, .int (nI d))]) (fun H locs ls => ∃ (fva : Nat → va_E) (fmva : List Value) (n7 : Nat) (d : Nat) (k : Nat) (g : Int32), gSm rt [] f fva ∧ fmS [] fm fmva ∧ mC rt L fva fmva ∧ (k = dgN 5 X) ∧ (k ≤ 5) ∧ (g = 1 ↔ dgA 5 X = true) ∧ (g = 0 ∨ g = 1) ∧ va_P (dC, dI) vwCl (va_pl L fva) H ∧ va_S A s.heap H locs ∧ lv_has ls 6 [(0, .ref (rt 51)), (1, .int (nI X)), (2, .int (nI k)), (3, .int g), (4, .int (nI d))]) (fun H locs ls hI => ?_) (fun n H locs ls hI hEa iha => ?_) _ _ _ _ ⟨f, fm, 5, X, 0, 1, rfl, gSm.rf, fmS.rf, hC, by omega, by omega, hX, by omega, by omega, by simp, Or.inr rfl, hP, hS, lv_sub hl [3, 4, 2, 1, 0] rfl⟩
    · skip
      obtain ⟨fva, fmva, n7, d, k, g, hSm, hFs, hC, hk, hk5, hg, hg01, hP, hS, hl⟩ := hI
      have F_places : fva (rt 6) = .inl (K 0, 8, .inl g_places) := (hSm.at hC.1 (by decide) (by decide)).trans F_places
      have F_sizes : fva (rt 7) = .inl (K 0, 32, .inl g_sizes) := (hSm.at hC.1 (by decide) (by decide)).trans F_sizes
      have F_m : fva (rt 51) = .inr (6, fmva) := hC.2.1
      have I_pages : fmva[5]? = some (.int (nI np)) := (hFs.2 5 (by decide)).trans I_pages
      have hD : va_D A (va_pl L fva) := g_D hLn (fun a h => by rw [← hAe]; exact h) fva
      have hSmLa := hSm
      have hSm : gSm rt [6, 7, 51] f fva := hSma.tr hSm (by decide) (by decide)
      have hFs : fmS [5] fm fmva := hFsa.tr hFs (by decide) (by decide)
      refine lv_iload_n hx hb dX6_page_59 rfl (lv_at hl 3 rfl) ?_
      refine lv_if_eq (tgt := 68) hx hb dX6_page_60 (by decide) (fun c_3 => ?_) (fun c_3 => ?_)
      · skip
        have hno : ¬ pgOk (nI X) := fun q => by rw [hg.mpr ((k_pg hX hX0).mp q).1] at c_3; exact absurd c_3 (by decide)
        refine lv_iconst (v := (-1)) hx hb dX6_page_68 (by decide) ?_
        exact W.iret (v := (-1)) hx hb hr (fun t ht hW => ⟨⟨(-1), fva, rfl, (Or.inl ⟨hno, rfl, hSm_id hSmLa⟩), by show va_P (dC, dI) vwCl (va_pl L fva) t.heap; rw [ht]; exact hP⟩, hS.F ht⟩) hS.2.2 dX6_page_69
      · skip
        have hgg : dgA 5 X = true := hg.mp (hg01.elim (fun q => absurd q c_3) id)
        refine lv_iload_n hx hb dX6_page_63 rfl (lv_at hl 2 rfl) ?_
        refine lv_iconst (v := 4) hx hb dX6_page_64 (by decide) ?_
        refine lv_icmp_le (tgt := 70) hx hb dX6_page_65 (by decide) (fun c_4 => ?_) (fun c_4 => ?_)
        · skip
          have nc_4 : k ≤ 4 := (bn_le (a := k) (b := 4) (by omega) (by omega)).mp (show nI k ≤ nI 4 from c_4)
          have hok : pgOk (nI X) := (k_pg hX hX0).mpr ⟨hgg, by omega⟩
          have hk1 : 1 ≤ k := by rw [hk, dgN, if_neg (by omega)]; omega
          refine lv_aload_n hx hb dX6_page_70 rfl (lv_at hl 0 rfl) ?_
          refine g_get (ci := 6) (v := .int (nI np)) (C := RX6) (T := TX6) (N := 51) hx hb hts uB6 hown hK hP (hC.1.1 51 (by decide)) F_m rfl 5 (by decide) wm_75 I_pages dX6_page_71 ?_
          refine lv_bipush (v := 8) hx hb dX6_page_74 (by decide) ?_
          refine lv_icmp_ne (tgt := 82) hx hb dX6_page_76 (by decide) (fun c_5 => ?_) (fun c_5 => ?_)
          · skip
            have nc_5 : ¬ (np = 8) := fun q => c_5 (show nI np = nI 8 from (bn_eq (a := np) (b := 8) (by omega) (by omega)).mpr q)
            refine lv_iload_n hx hb dX6_page_82 rfl (lv_at hl 1 rfl) ?_
            refine lv_istore (lv' := [(4, .int (nI X)), (0, .ref (rt 51)), (1, .int (nI X)), (2, .int (nI k)), (3, .int g)]) hx hb dX6_page_83 hl (by decide) rfl (fun ls hl => ?_)
            refine lv_iload_n hx hb dX6_page_85 rfl (lv_at hl 3 rfl) ?_
            refine lv_iconst (v := 1) hx hb dX6_page_86 (by decide) ?_
            refine lv_isub hx hb dX6_page_87 ?_
            refine lv_topi (fun x_6 ex_6 => ?_)
            refine lv_istore (lv' := [(5, .int x_6), (4, .int (nI X)), (0, .ref (rt 51)), (1, .int (nI X)), (2, .int (nI k)), (3, .int g)]) hx hb dX6_page_88 hl (by decide) rfl (fun ls hl => ?_)
            subst ex_6
            have hSmb := hSm
            have hFsb := hFs
            refine k_lx (pcx := 129) (fun n H locs ls => ∃ (fvb : Nat → va_E) (fmvb : List Value) (gs : Nat → Int32) (n1 : Nat) (d2 : Nat), n1 = n ∧ gSm rt [7] fva fvb ∧ fmS [] fmva fmvb ∧ mC rt L fvb fmvb ∧ fvb (rt 7) = .inl (K 0, 32, .inl gs) ∧ (n1 ≤ 4) ∧ (d2 < 2 ^ 31) ∧ (∀ i, i < 32 → ∃ z : Nat, z ≤ 127 ∧ gs i = nI z) ∧ va_P (dC, dI) vwCl (va_pl L fvb) H ∧ va_S A s.heap H locs ∧ lv_has ls 6 [(0, .ref (rt 51)), (2, .int (nI k)), (4, .int (nI d2)), (5, .int (nI n1 - 1))]) (fun H locs ls => ∃ (fvb : Nat → va_E) (fmvb : List Value) (gs : Nat → Int32) (n1 : Nat) (d2 : Nat), gSm rt [7] fva fvb ∧ fmS [] fmva fmvb ∧ mC rt L fvb fmvb ∧ fvb (rt 7) = .inl (K 0, 32, .inl gs) ∧ (n1 ≤ 4) ∧ (d2 < 2 ^ 31) ∧ (∀ i, i < 32 → ∃ z : Nat, z ≤ 127 ∧ gs i = nI z) ∧ va_P (dC, dI) vwCl (va_pl L fvb) H ∧ va_S A s.heap H locs ∧ lv_has ls 6 [(0, .ref (rt 51)), (2, .int (nI k)), (4, .int (nI d2)), (5, .int (nI n1 - 1))]) (fun H locs ls hI => ?_) (fun n H locs ls hI hEb ihb => ?_) _ _ _ _ ⟨fva, fmva, _, k, X, rfl, gSm.rf, fmS.rf, hC, F_sizes, by omega, hX, hsz, hP, hS, lv_sub hl [2, 4, 1, 0] rfl⟩
            · skip
              obtain ⟨fvb, fmvb, gs, n1, d2, hSm, hFs, hC, NF_sizes, hn1, hd2, hgs, hP, hS, hl⟩ := hI
              have F_places : fvb (rt 6) = .inl (K 0, 8, .inl g_places) := (hSm.at hC.1 (by decide) (by decide)).trans F_places
              have F_sizes := NF_sizes
              have F_m : fvb (rt 51) = .inr (6, fmvb) := hC.2.1
              have I_pages : fmvb[5]? = some (.int (nI np)) := (hFs.2 5 (by decide)).trans I_pages
              have hD : va_D A (va_pl L fvb) := g_D hLn (fun a h => by rw [← hAe]; exact h) fvb
              have hSmLb := hSm
              have hSm : gSm rt [6, 7, 51] f fvb := hSmb.tr hSm (by decide) (by decide)
              have hFs : fmS [5] fm fmvb := hFsb.tr hFs (by decide) (by decide)
              refine lv_aload_n hx hb dX6_page_129 rfl (lv_at hl 0 rfl) ?_
              refine g_get (ci := 6) (v := .ref (rt 6)) (C := RX6) (T := TX6) (N := 51) hx hb hts uB6 hown hK hP (hC.1.1 51 (by decide)) F_m rfl 6 (by decide) wm_134 (hC.2.2.2 6 (by decide)) dX6_page_130 ?_
              refine lv_aload_n hx hb dX6_page_133 rfl (lv_at hl 0 rfl) ?_
              refine g_get (ci := 6) (v := .int (nI np)) (C := RX6) (T := TX6) (N := 51) hx hb hts uB6 hown hK hP (hC.1.1 51 (by decide)) F_m rfl 5 (by decide) wm_75 I_pages dX6_page_134 ?_
              refine lv_iload_n hx hb dX6_page_137 rfl (lv_at hl 1 rfl) ?_
              refine g_iast hx hb hK hP hD hS (hC.1.1 6 (by decide)) F_places (vp_in_nI (by omega) (by decide)) dX6_page_138 (fun H locs hP hD hS => ?_)
              obtain ⟨g_7, eg_7⟩ : ∃ z9, z9 = upd g_places (Int32.toNatClampNeg (nI np)) (nI k) := ⟨_, rfl⟩
              rw [← eg_7] at hP hD
              obtain ⟨f_8, ef_8⟩ : ∃ z9, z9 = va_up fvb (rt 6) (.inl (K 0, 8, .inl g_7)) := ⟨_, rfl⟩
              rw [← ef_8] at hP hD
              have F_sizes : f_8 (rt 7) = .inl (K 0, 32, .inl gs) := by rw [ef_8, va_up_ne _ _ (fun q => absurd (hC.1.2 7 (by decide) 6 (by decide) q) (by decide))]; exact F_sizes
              have F_m : f_8 (rt 51) = .inr (6, fmvb) := by rw [ef_8, va_up_ne _ _ (fun q => absurd (hC.1.2 51 (by decide) 6 (by decide) q) (by decide))]; exact F_m
              have F_places : f_8 (rt 6) = .inl (K 0, 8, .inl g_7) := by rw [ef_8, va_up_self]
              have hC : mC rt L f_8 fmvb := ⟨hC.1, F_m, hC.2.2.1, hC.2.2.2⟩
              have hSm : gSm rt [6, 7, 51] f f_8 := by rw [ef_8]; exact hSm.up (by decide) _
              rw [nI_clamp (by omega)] at eg_7
              refine lv_aload_n hx hb dX6_page_139 rfl (lv_at hl 0 rfl) ?_
              refine lv_dup hx hb dX6_page_140 rfl ?_
              refine g_get (ci := 6) (v := .int (nI np)) (C := RX6) (T := TX6) (N := 51) hx hb hts uB6 hown hK hP (hC.1.1 51 (by decide)) F_m rfl 5 (by decide) wm_75 I_pages dX6_page_141 ?_
              refine lv_iconst (v := 1) hx hb dX6_page_144 (by decide) ?_
              refine lv_iadd hx hb dX6_page_145 ?_
              refine lv_topi (fun x_9 ex_9 => ?_)
              obtain rfl : x_9 = nI (np + 1) := ex_9.trans (nI_add np 1)
              refine g_put (ci := 6) (v := .int (nI (np + 1))) (ty := .int) (C := RX6) (T := TX6) (N := 51) hx hb hts uB6 tyX6 tyX6_ok nmX6 hown hK hP hD hS (hC.1.1 51 (by decide)) F_m rfl 5 (by decide) wm_75 rfl (by decide +kernel) rfl rfl (by rw [hC.2.2.1]; decide) dX6_page_146 (fun H locs hP hD hS => ?_)
              obtain ⟨fs_10, efs_10⟩ : ∃ z9, z9 = List.set fmvb 5 (.int (nI (np + 1))) := ⟨_, rfl⟩
              rw [← efs_10] at hP hD
              have hlen_ : fs_10.length = 51 := by rw [efs_10, List.length_set]; exact hC.2.2.1
              have I_pages : fs_10[5]? = some (.int (nI (np + 1))) := by rw [efs_10]; exact List.getElem?_set_self (by rw [hC.2.2.1]; decide)
              have hmr_ : ∀ k ∈ mArr, fs_10[k]? = some (.ref (rt k)) := fun k h => by rw [efs_10, List.getElem?_set_ne (fun q => by rw [← q] at h; exact absurd h (by decide))]; exact hC.2.2.2 k h
              obtain ⟨f_11, ef_11⟩ : ∃ z9, z9 = va_up f_8 (rt 51) (.inr (6, fs_10)) := ⟨_, rfl⟩
              rw [← ef_11] at hP hD
              have F_places : f_11 (rt 6) = .inl (K 0, 8, .inl g_7) := by rw [ef_11, va_up_ne _ _ (fun q => absurd (hC.1.2 6 (by decide) 51 (by decide) q) (by decide))]; exact F_places
              have F_sizes : f_11 (rt 7) = .inl (K 0, 32, .inl gs) := by rw [ef_11, va_up_ne _ _ (fun q => absurd (hC.1.2 7 (by decide) 51 (by decide) q) (by decide))]; exact F_sizes
              have F_m : f_11 (rt 51) = .inr (6, fs_10) := by rw [ef_11, va_up_self]
              have hSm : gSm rt [6, 7, 51] f f_11 := by rw [ef_11]; exact hSm.up (by decide) _
              have hC : mC rt L f_11 fs_10 := ⟨hC.1, F_m, hlen_, hmr_⟩
              have hFs : fmS [5] fm fs_10 := by rw [efs_10]; exact hFs.st (by decide) _
              refine lv_aload_n hx hb dX6_page_149 rfl (lv_at hl 0 rfl) ?_
              refine g_get (ci := 6) (v := .int (nI (np + 1))) (C := RX6) (T := TX6) (N := 51) hx hb hts uB6 hown hK hP (hC.1.1 51 (by decide)) F_m rfl 5 (by decide) wm_75 I_pages dX6_page_150 ?_
              refine lv_iconst (v := 1) hx hb dX6_page_153 (by decide) ?_
              refine lv_isub hx hb dX6_page_154 ?_
              refine lv_topi (fun x_12 ex_12 => ?_)
              obtain rfl : x_12 = nI ((np + 1) - 1) := ex_12.trans (pk_sub (a := (np + 1)) (b := 1) (by omega))
              exact W.iret (v := nI ((np + 1) - 1)) hx hb hr (fun t ht hW => ⟨⟨nI ((np + 1) - 1), f_11, rfl, (Or.inr (Or.inr ⟨hok, by omega, by rw [Nat.add_sub_cancel], fs_10, _, _, hSm, hFs, hC, F_sizes, F_places, I_pages, hgs, k, hk1, by omega, eg_7⟩)), by show va_P (dC, dI) vwCl (va_pl L f_11) t.heap; rw [ht]; exact hP⟩, hS.F ht⟩) hS.2.2 dX6_page_155
            · skip
              obtain ⟨fvb, fmvb, gs, n1, d2, hmub, hSm, hFs, hC, NF_sizes, hn1, hd2, hgs, hP, hS, hl⟩ := hI
              have F_sizes := NF_sizes
              have F_m : fvb (rt 51) = .inr (6, fmvb) := hC.2.1
              have I_pages : fmvb[5]? = some (.int (nI np)) := (hFs.2 5 (by decide)).trans I_pages
              have hD : va_D A (va_pl L fvb) := g_D hLn (fun a h => by rw [← hAe]; exact h) fvb
              rcases Nat.eq_zero_or_pos n1 with hz | hz
              · skip
                subst hz
                rw [show nI 0 - 1 = (-1 : Int32) from by decide] at hl
                refine lv_iload hx hb dX6_page_90 (lv_at hl 3 rfl) ?_
                refine lv_if_lt (tgt := 129) hx hb dX6_page_92 (by decide) (fun _ => ?_) (fun h9 => absurd (by decide) h9)
                exact hEb _ _ _ ⟨fvb, fmvb, _, 0, d2, hSm, hFs, hC, F_sizes, by omega, hd2, hgs, hP, hS, lv_sub hl [0, 1, 2, 3] rfl⟩
              · skip
                obtain ⟨nn, rfl⟩ : ∃ z9, n1 = z9 + 1 := ⟨n1 - 1, by omega⟩
                rw [nI_pred] at hl
                refine lv_iload hx hb dX6_page_90 (lv_at hl 3 rfl) ?_
                refine lv_if_lt (tgt := 129) hx hb dX6_page_92 (by decide) (fun c_13 => ?_) (fun c_13 => ?_)
                · skip
                  have nc_13 : nn < 0 := (bn_lt (a := nn) (b := 0) (by omega) (by omega)).mp (show nI nn < nI 0 from c_13)
                  exact (show False by omega).elim
                · skip
                  have nc_13 : ¬ (nn < 0) := fun q => c_13 (show nI nn < nI 0 from (bn_lt (a := nn) (b := 0) (by omega) (by omega)).mpr q)
                  refine lv_aload_n hx hb dX6_page_95 rfl (lv_at hl 0 rfl) ?_
                  refine g_get (ci := 6) (v := .ref (rt 7)) (C := RX6) (T := TX6) (N := 51) hx hb hts uB6 hown hK hP (hC.1.1 51 (by decide)) F_m rfl 7 (by decide) wm_135 (hC.2.2.2 7 (by decide)) dX6_page_96 ?_
                  refine lv_iconst (v := 4) hx hb dX6_page_99 (by decide) ?_
                  refine lv_aload_n hx hb dX6_page_100 rfl (lv_at hl 0 rfl) ?_
                  refine g_get (ci := 6) (v := .int (nI np)) (C := RX6) (T := TX6) (N := 51) hx hb hts uB6 hown hK hP (hC.1.1 51 (by decide)) F_m rfl 5 (by decide) wm_75 I_pages dX6_page_101 ?_
                  refine lv_imul hx hb dX6_page_104 ?_
                  refine lv_topi (fun x_14 ex_14 => ?_)
                  obtain rfl : x_14 = nI (4 * np) := ex_14.trans (pk_mul 4 np)
                  refine lv_iload hx hb dX6_page_105 (lv_at hl 3 rfl) ?_
                  refine lv_iadd hx hb dX6_page_107 ?_
                  refine lv_topi (fun x_15 ex_15 => ?_)
                  obtain rfl : x_15 = nI ((4 * np) + nn) := ex_15.trans (nI_add (4 * np) nn)
                  refine lv_iload hx hb dX6_page_108 (lv_at hl 2 rfl) ?_
                  refine lv_sipush (v := 128) hx hb dX6_page_110 (by decide) ?_
                  refine lv_irem hx hb dX6_page_113 (by decide) ?_
                  refine lv_topi (fun x_16 ex_16 => ?_)
                  obtain rfl : x_16 = nI (d2 % 128) := ex_16.trans (k_128r hd2)
                  refine g_iast hx hb hK hP hD hS (hC.1.1 7 (by decide)) F_sizes (vp_in_nI (by omega) (by decide)) dX6_page_114 (fun H locs hP hD hS => ?_)
                  obtain ⟨g_17, eg_17⟩ : ∃ z9, z9 = upd gs (Int32.toNatClampNeg (nI ((4 * np) + nn))) (nI (d2 % 128)) := ⟨_, rfl⟩
                  rw [← eg_17] at hP hD
                  obtain ⟨f_18, ef_18⟩ : ∃ z9, z9 = va_up fvb (rt 7) (.inl (K 0, 32, .inl g_17)) := ⟨_, rfl⟩
                  rw [← ef_18] at hP hD
                  have F_m : f_18 (rt 51) = .inr (6, fmvb) := by rw [ef_18, va_up_ne _ _ (fun q => absurd (hC.1.2 51 (by decide) 7 (by decide) q) (by decide))]; exact F_m
                  have F_sizes : f_18 (rt 7) = .inl (K 0, 32, .inl g_17) := by rw [ef_18, va_up_self]
                  have hC : mC rt L f_18 fmvb := ⟨hC.1, F_m, hC.2.2.1, hC.2.2.2⟩
                  have hSm : gSm rt [7] fva f_18 := by rw [ef_18]; exact hSm.up (by decide) _
                  rw [nI_clamp (by omega)] at eg_17
                  refine lv_iload hx hb dX6_page_115 (lv_at hl 2 rfl) ?_
                  refine lv_sipush (v := 128) hx hb dX6_page_117 (by decide) ?_
                  refine lv_idiv hx hb dX6_page_120 (by decide) ?_
                  refine lv_topi (fun x_19 ex_19 => ?_)
                  obtain rfl : x_19 = nI (d2 / 128) := ex_19.trans (k_128d hd2)
                  refine lv_istore (lv' := [(4, .int (nI (d2 / 128))), (0, .ref (rt 51)), (2, .int (nI k)), (5, .int (nI nn))]) hx hb dX6_page_121 hl (by decide) rfl (fun ls hl => ?_)
                  obtain ⟨x_20, ex_20⟩ : ∃ y : Int32, y = (nI nn) + (-1) := ⟨_, rfl⟩
                  refine lv_iinc (v := x_20) (lv' := [(5, .int x_20), (4, .int (nI (d2 / 128))), (0, .ref (rt 51)), (2, .int (nI k))]) hx hb dX6_page_123 hl (k := 3) rfl (by rw [ex_20]; rfl) (by decide) rfl (fun ls hl => ?_)
                  refine lv_goto (tgt := 90) hx hb dX6_page_126 (by decide) ?_
                  obtain rfl : x_20 = nI nn - 1 := ex_20.trans (by rw [Int32.sub_eq_add_neg])
                  have hgs2 : ∀ i, i < 32 → ∃ z : Nat, z ≤ 127 ∧ g_17 i = nI z := fun i hi => by
                    by_cases q : i = 4 * np + nn
                    · rw [q, eg_17, pk_us]; exact ⟨d2 % 128, by omega, rfl⟩
                    · rw [eg_17, pk_un q]; exact hgs i hi
                  exact ihb _ (by omega) _ _ _ ⟨f_18, fmvb, _, nn, (d2 / 128), rfl, hSm, hFs, hC, F_sizes, by omega, by omega, hgs2, hP, hS, lv_sub hl [2, 3, 1, 0] rfl⟩
          · skip
            have nc_5 : np = 8 := (bn_eq (a := np) (b := 8) (by omega) (by omega)).mp (show nI np = nI 8 from c_5)
            refine lv_bipush (v := (-3)) hx hb dX6_page_79 (by decide) ?_
            exact W.iret (v := (-3)) hx hb hr (fun t ht hW => ⟨⟨(-3), fva, rfl, (Or.inr (Or.inl ⟨hok, by omega, rfl, hSm_id hSmLa⟩)), by show va_P (dC, dI) vwCl (va_pl L fva) t.heap; rw [ht]; exact hP⟩, hS.F ht⟩) hS.2.2 dX6_page_81
        · skip
          have nc_4 : ¬ (k ≤ 4) := fun q => c_4 (show nI k ≤ nI 4 from (bn_le (a := k) (b := 4) (by omega) (by omega)).mpr q)
          have hno : ¬ pgOk (nI X) := fun q => by have := ((k_pg hX hX0).mp q).2; omega
          refine lv_iconst (v := (-1)) hx hb dX6_page_68 (by decide) ?_
          exact W.iret (v := (-1)) hx hb hr (fun t ht hW => ⟨⟨(-1), fva, rfl, (Or.inl ⟨hno, rfl, hSm_id hSmLa⟩), by show va_P (dC, dI) vwCl (va_pl L fva) t.heap; rw [ht]; exact hP⟩, hS.F ht⟩) hS.2.2 dX6_page_69
    · skip
      obtain ⟨fva, fmva, n7, d, k, g, hmua, hSm, hFs, hC, hn5, hd, hd31, hk, hkn, hg, hg01, hP, hS, hl⟩ := hI
      have F_m : fva (rt 51) = .inr (6, fmva) := hC.2.1
      have I_pages : fmva[5]? = some (.int (nI np)) := (hFs.2 5 (by decide)).trans I_pages
      have hD : va_D A (va_pl L fva) := g_D hLn (fun a h => by rw [← hAe]; exact h) fva
      refine lv_iload hx hb dX6_page_15 (lv_at hl 4 rfl) ?_
      refine lv_if_le (tgt := 59) hx hb dX6_page_17 (by decide) (fun c_21 => ?_) (fun c_21 => ?_)
      · skip
        have nc_21 : d ≤ 0 := (bn_le (a := d) (b := 0) (by omega) (by omega)).mp (show nI d ≤ nI 0 from c_21)
        have hdz : d = 0 := by omega
        exact hEa _ _ _ ⟨fva, fmva, n7, d, k, g, hSm, hFs, hC, by rw [← hk, hdz, dgN_0]; rfl, by omega, by rw [hdz, dgA_0] at hg; exact ⟨fun q => hg.mp ⟨q, rfl⟩, fun q => (hg.mpr q).1⟩, hg01, hP, hS, lv_sub hl [0, 1, 2, 3, 4] rfl⟩
      · skip
        have nc_21 : ¬ (d ≤ 0) := fun q => c_21 (show nI d ≤ nI 0 from (bn_le (a := d) (b := 0) (by omega) (by omega)).mpr q)
        have hd0 : ¬ d = 0 := by omega
        obtain ⟨n8, rfl⟩ : ∃ z9, n7 = z9 + 1 := by rcases Nat.eq_zero_or_pos n7 with q | q; rw [q] at hd; omega; exact ⟨n7 - 1, by omega⟩
        refine lv_iload_n hx hb dX6_page_20 rfl (lv_at hl 3 rfl) ?_
        refine lv_if_eq (tgt := 43) hx hb dX6_page_21 (by decide) (fun c_22 => ?_) (fun c_22 => ?_)
        · skip
          have hno : ¬ (g = 1 ∧ dgA (n8 + 1) d = true) := fun q => by rw [c_22] at q; exact absurd q.1 (by decide)
          refine lv_iconst (v := 0) hx hb dX6_page_43 (by decide) ?_
          refine lv_istore_n (lv' := [(3, .int 0), (0, .ref (rt 51)), (1, .int (nI X)), (2, .int (nI k)), (4, .int (nI d))]) hx hb dX6_page_44 rfl hl (by decide) rfl (fun ls hl => ?_)
          refine lv_iinc (v := nI (k + 1)) (lv' := [(2, .int (nI (k + 1))), (3, .int 0), (0, .ref (rt 51)), (1, .int (nI X)), (4, .int (nI d))]) hx hb dX6_page_45 hl (k := 3) rfl (by exact nI_1 _) (by decide) rfl (fun ls hl => ?_)
          refine lv_iload hx hb dX6_page_48 (lv_at hl 4 rfl) ?_
          refine lv_sipush (v := 128) hx hb dX6_page_50 (by decide) ?_
          refine lv_idiv hx hb dX6_page_53 (by decide) ?_
          refine lv_topi (fun x_23 ex_23 => ?_)
          obtain rfl : x_23 = nI (d / 128) := ex_23.trans (k_128d hd31)
          refine lv_istore (lv' := [(4, .int (nI (d / 128))), (2, .int (nI (k + 1))), (3, .int 0), (0, .ref (rt 51)), (1, .int (nI X))]) hx hb dX6_page_54 hl (by decide) rfl (fun ls hl => ?_)
          refine lv_goto (tgt := 15) hx hb dX6_page_56 (by decide) ?_
          exact iha _ (by omega) _ _ _ ⟨fva, fmva, n8, (d / 128), (k + 1), 0, rfl, hSm, hFs, hC, by omega, by rw [Nat.pow_succ] at hd; omega, by omega, by rw [dgN, if_neg hd0] at hk; omega, by omega, ⟨fun q => absurd q.1 (by decide), fun q => (hno (hg.mpr q)).elim⟩, Or.inl rfl, hP, hS, lv_sub hl [3, 4, 1, 2, 0] rfl⟩
        · skip
          have hg1 : g = 1 := hg01.elim (fun q => absurd q c_22) id
          refine lv_iload hx hb dX6_page_24 (lv_at hl 4 rfl) ?_
          refine lv_sipush (v := 128) hx hb dX6_page_26 (by decide) ?_
          refine lv_irem hx hb dX6_page_29 (by decide) ?_
          refine lv_topi (fun x_24 ex_24 => ?_)
          obtain rfl : x_24 = nI (d % 128) := ex_24.trans (k_128r hd31)
          refine lv_iconst (v := 1) hx hb dX6_page_30 (by decide) ?_
          refine lv_bipush (v := 100) hx hb dX6_page_31 (by decide) ?_
          refine k_S ⟨hx, hb, hml, hown, hts⟩ (c_in l (nI (d % 128)) 1 100) 3 wm_69 wm_70 wm_8 wm_71 (by decide +kernel) ⟨Nat.le_of_ble_eq_true rfl, Nat.le_of_ble_eq_true rfl⟩ rfl hl.1 rfl (Nat.le_of_ble_eq_true rfl) dX6_page_33 ⟨Nat.le_of_ble_eq_true rfl, Nat.le_of_ble_eq_true rfl⟩ hS hP (fun r_25 H locs hpr_25 hP hS => ?_)
          refine lv_if_eq (tgt := 43) hx hb dX6_page_36 (by decide) (fun c_26 => ?_) (fun c_26 => ?_)
          · skip
            have gg := k_ff hpr_25 c_26
            have hno : ¬ (g = 1 ∧ dgA (n8 + 1) d = true) := fun q => by have q2 := q.2; rw [dgA, if_neg hd0, decide_eq_false (fun z => gg ((k_rg (by omega) (by decide) (by decide)).mpr z)), Bool.false_and] at q2; exact absurd q2 (by decide)
            refine lv_iconst (v := 0) hx hb dX6_page_43 (by decide) ?_
            refine lv_istore_n (lv' := [(3, .int 0), (0, .ref (rt 51)), (1, .int (nI X)), (2, .int (nI k)), (4, .int (nI d))]) hx hb dX6_page_44 rfl hl (by decide) rfl (fun ls hl => ?_)
            refine lv_iinc (v := nI (k + 1)) (lv' := [(2, .int (nI (k + 1))), (3, .int 0), (0, .ref (rt 51)), (1, .int (nI X)), (4, .int (nI d))]) hx hb dX6_page_45 hl (k := 3) rfl (by exact nI_1 _) (by decide) rfl (fun ls hl => ?_)
            refine lv_iload hx hb dX6_page_48 (lv_at hl 4 rfl) ?_
            refine lv_sipush (v := 128) hx hb dX6_page_50 (by decide) ?_
            refine lv_idiv hx hb dX6_page_53 (by decide) ?_
            refine lv_topi (fun x_27 ex_27 => ?_)
            obtain rfl : x_27 = nI (d / 128) := ex_27.trans (k_128d hd31)
            refine lv_istore (lv' := [(4, .int (nI (d / 128))), (2, .int (nI (k + 1))), (3, .int 0), (0, .ref (rt 51)), (1, .int (nI X))]) hx hb dX6_page_54 hl (by decide) rfl (fun ls hl => ?_)
            refine lv_goto (tgt := 15) hx hb dX6_page_56 (by decide) ?_
            exact iha _ (by omega) _ _ _ ⟨fva, fmva, n8, (d / 128), (k + 1), 0, rfl, hSm, hFs, hC, by omega, by rw [Nat.pow_succ] at hd; omega, by omega, by rw [dgN, if_neg hd0] at hk; omega, by omega, ⟨fun q => absurd q.1 (by decide), fun q => (hno (hg.mpr q)).elim⟩, Or.inl rfl, hP, hS, lv_sub hl [3, 4, 1, 2, 0] rfl⟩
          · skip
            have hgd : 1 ≤ d % 128 ∧ d % 128 ≤ 100 := (k_rg (by omega) (by decide) (by decide)).mp (k_ft hpr_25 c_26)
            refine lv_iconst (v := 1) hx hb dX6_page_39 (by decide) ?_
            refine lv_goto (tgt := 44) hx hb dX6_page_40 (by decide) ?_
            refine lv_istore_n (lv' := [(3, .int 1), (0, .ref (rt 51)), (1, .int (nI X)), (2, .int (nI k)), (4, .int (nI d))]) hx hb dX6_page_44 rfl hl (by decide) rfl (fun ls hl => ?_)
            refine lv_iinc (v := nI (k + 1)) (lv' := [(2, .int (nI (k + 1))), (3, .int 1), (0, .ref (rt 51)), (1, .int (nI X)), (4, .int (nI d))]) hx hb dX6_page_45 hl (k := 3) rfl (by exact nI_1 _) (by decide) rfl (fun ls hl => ?_)
            refine lv_iload hx hb dX6_page_48 (lv_at hl 4 rfl) ?_
            refine lv_sipush (v := 128) hx hb dX6_page_50 (by decide) ?_
            refine lv_idiv hx hb dX6_page_53 (by decide) ?_
            refine lv_topi (fun x_28 ex_28 => ?_)
            obtain rfl : x_28 = nI (d / 128) := ex_28.trans (k_128d hd31)
            refine lv_istore (lv' := [(4, .int (nI (d / 128))), (2, .int (nI (k + 1))), (3, .int 1), (0, .ref (rt 51)), (1, .int (nI X))]) hx hb dX6_page_54 hl (by decide) rfl (fun ls hl => ?_)
            refine lv_goto (tgt := 15) hx hb dX6_page_56 (by decide) ?_
            exact iha _ (by omega) _ _ _ ⟨fva, fmva, n8, (d / 128), (k + 1), 1, rfl, hSm, hFs, hC, by omega, by rw [Nat.pow_succ] at hd; omega, by omega, by rw [dgN, if_neg hd0] at hk; omega, by omega, ⟨fun q => hg.mp ⟨hg1, by rw [dgA, if_neg hd0, decide_eq_true hgd, Bool.true_and]; exact q.2⟩, fun q => ⟨rfl, by have q2 := (hg.mpr q).2; rw [dgA, if_neg hd0, decide_eq_true hgd, Bool.true_and] at q2; exact q2⟩⟩, Or.inr rfl, hP, hS, lv_sub hl [3, 4, 1, 2, 0] rfl⟩
