set_option maxHeartbeats 4000000 in
set_option maxRecDepth 100000 in
theorem f_mpage (l : Launch) (dC : Nat → ClassId) (dI : Nat → Nat → Nat) (sz : Nat) (h0 : Nat) (fs : List Value) (qs ql : Nat) (cI : ClassId) (x : Int32) (hf_n : fs[5]? = some (.int 0)) (hf_s : fs[7]? = some (.ref qs)) (hf_p : fs[6]? = some (.ref ql)) (hlen_h0 : fs.length = 51)  : mFi l yX6_page cX6_page 6 1 0 0 (dC, dI) [(h0, .inr (6, fs)), (qs, .inl (cI, 32, .inl (fun _ => 0))), (ql, .inl (cI, 8, .inl (fun _ => 0)))] sz [(cI, .int)] (fun _ => True) [.ref h0, .int x] (fun r => r = if pgOk x then 0 else (-1)) := by
  refine Met.ofW (cc := cX6_page) (maxL := 6) (ret := some .int) (by decide) rfl ?_
  intro p e s m args below meth c s₁ B hml hv
  obtain ⟨rfl, hsz, hP, hK, hD0, hex⟩ := hv
  subst hsz
  have hx := B.exec
  have hb := B.bytes
  have hr := B.returns
  have hlocks := B.notSynchronized
  have hts0 := atoms_spec (ws := Cond.code yX6_page cX6_page 6 (some .int) :: lw_B) B.pre
  have hts : ∀ w ∈ lw_B, w.before _ s = true := fun w h => hts0 w (List.mem_cons_of_mem _ h)
  have hown : s.vm.findClass RX6 = some m.cls := findClass_of_methodNamed B.named
  have hD := hD0.self (sz := s.heap.size)
  generalize hAe : va_A [(h0, .inr (6, fs)), (qs, .inl (cI, 32, .inl (fun _ => 0))), (ql, .inl (cI, 8, .inl (fun _ => 0)))] s.heap.size = A at hD ⊢
  have hA : ∀ q : Nat, s.heap.size ≤ q → A q := fun q h => by rw [← hAe]; exact Or.inr h
  have hS : va_S A s.heap s.heap [] := va_S.rf
  have hl := lv_entry ([.ref h0, .int x]) (n := 6) (Nat.le_of_ble_eq_true rfl)
  rw [lg_entry_eq]
  generalize (lg_sl ([.ref h0, .int x]) ++ List.replicate (6 - (lg_sl ([.ref h0, .int x])).length) Slot.unset).toArray = ls at hl ⊢
  have hl : lv_has ls 6 [(0, .ref h0), (1, .int x)] := hl
  refine lv_iconst (v := 0) hx hb dX6_page_0 (by decide) ?_
  refine lv_istore_n (lv' := [(2, .int 0), (0, .ref h0), (1, .int x)]) hx hb dX6_page_1 rfl hl (by decide) rfl (fun ls hl => ?_)
  refine lv_iload_n hx hb dX6_page_2 rfl (lv_at hl 2 rfl) ?_
  refine lv_if_le (tgt := 10) hx hb dX6_page_3 (by decide) (fun c_1 => ?_) (fun c_1 => ?_)
  · skip
    refine lv_iconst (v := 0) hx hb dX6_page_10 (by decide) ?_
    refine lv_istore_n (lv' := [(3, .int 0), (2, .int 0), (0, .ref h0), (1, .int x)]) hx hb dX6_page_11 rfl hl (by decide) rfl (fun ls hl => ?_)
    refine lv_iload_n hx hb dX6_page_12 rfl (lv_at hl 3 rfl) ?_
    refine lv_istore (lv' := [(4, .int x), (3, .int 0), (2, .int 0), (0, .ref h0), (1, .int x)]) hx hb dX6_page_13 hl (by decide) rfl (fun ls hl => ?_)
    refine lv_iload hx hb dX6_page_15 (lv_at hl 0 rfl) ?_
    refine lv_if_le (tgt := 59) hx hb dX6_page_17 (by decide) (fun c_2 => ?_) (fun c_2 => ?_)
    · skip
      refine lv_iload_n hx hb dX6_page_59 rfl (lv_at hl 1 rfl) ?_
      refine lv_if_eq (tgt := 68) hx hb dX6_page_60 (by decide) (fun _ => ?_) (fun h9 => absurd (by decide) h9)
      refine lv_iconst (v := (-1)) hx hb dX6_page_68 (by decide) ?_
      exact W.iret (v := (-1)) hx hb hr (fun t ht hW => ⟨⟨(-1), (), rfl, (if_neg (fun q => absurd c_1 (by have q1 := q.1; simp only [Int32.lt_iff_toInt_lt, Int32.le_iff_toInt_le] at q1 ⊢; omega))).symm, trivial⟩, hS.F ht⟩) hS.2.2 dX6_page_69
    · skip
      exact absurd c_1 c_2
  · skip
    obtain ⟨X, hX, hX0, rfl⟩ := k_pos c_1
    refine lv_iconst (v := 1) hx hb dX6_page_6 (by decide) ?_
    refine lv_goto (tgt := 11) hx hb dX6_page_7 (by decide) ?_
    refine lv_istore_n (lv' := [(3, .int 1), (2, .int 0), (0, .ref h0), (1, .int (nI X))]) hx hb dX6_page_11 rfl hl (by decide) rfl (fun ls hl => ?_)
    refine lv_iload_n hx hb dX6_page_12 rfl (lv_at hl 3 rfl) ?_
    refine lv_istore (lv' := [(4, .int (nI X)), (3, .int 1), (2, .int 0), (0, .ref h0), (1, .int (nI X))]) hx hb dX6_page_13 hl (by decide) rfl (fun ls hl => ?_)
    refine k_lx (pcx := 59) (fun n H locs ls => ∃ (d k : Nat) (g : Int32), n ≤ 5 ∧ d < 128 ^ n ∧ d < 2 ^ 31 ∧ k + dgN n d = dgN 5 X ∧ k + n ≤ 5 ∧ ((g = 1 ∧ dgA n d = true) ↔ dgA 5 X = true) ∧ (g = 0 ∨ g = 1) ∧ va_P (dC, dI) vwCl [(h0, .inr (6, fs)), (qs, .inl (cI, 32, .inl (fun _ => 0))), (ql, .inl (cI, 8, .inl (fun _ => 0)))] H ∧ va_D A [(h0, .inr (6, fs)), (qs, .inl (cI, 32, .inl (fun _ => 0))), (ql, .inl (cI, 8, .inl (fun _ => 0)))] ∧ va_S A s.heap H locs ∧ lv_has ls 6 [(0, .ref h0), (1, .int (nI X)), (2, .int (nI k)), (3, .int g), (4, .int (nI d))]) (fun H locs ls => ∃ (d k : Nat) (g : Int32), k = dgN 5 X ∧ k ≤ 5 ∧ (g = 1 ↔ dgA 5 X = true) ∧ (g = 0 ∨ g = 1) ∧ va_P (dC, dI) vwCl [(h0, .inr (6, fs)), (qs, .inl (cI, 32, .inl (fun _ => 0))), (ql, .inl (cI, 8, .inl (fun _ => 0)))] H ∧ va_D A [(h0, .inr (6, fs)), (qs, .inl (cI, 32, .inl (fun _ => 0))), (ql, .inl (cI, 8, .inl (fun _ => 0)))] ∧ va_S A s.heap H locs ∧ lv_has ls 6 [(0, .ref h0), (1, .int (nI X)), (2, .int (nI k)), (3, .int g), (4, .int (nI d))]) (fun H locs ls hI => ?_) (fun n H locs ls hI hE ih => ?_) 5 _ _ _ ⟨X, 0, 1, by omega, by omega, hX, by omega, by omega, by simp, Or.inr rfl, hP, hD, hS, lv_sub hl [3, 4, 2, 1, 0] rfl⟩
    · skip
      obtain ⟨d, k, g, hk, hk5, hg, hg01, hP, hD, hS, hl⟩ := hI
      refine lv_iload_n hx hb dX6_page_59 rfl (lv_at hl 3 rfl) ?_
      refine lv_if_eq (tgt := 68) hx hb dX6_page_60 (by decide) (fun c_3 => ?_) (fun c_3 => ?_)
      · skip
        have hno : ¬ pgOk (nI X) := fun q => by rw [hg.mpr ((k_pg hX hX0).mp q).1] at c_3; exact absurd c_3 (by decide)
        refine lv_iconst (v := (-1)) hx hb dX6_page_68 (by decide) ?_
        exact W.iret (v := (-1)) hx hb hr (fun t ht hW => ⟨⟨(-1), (), rfl, (if_neg hno).symm, trivial⟩, hS.F ht⟩) hS.2.2 dX6_page_69
      · skip
        have hgg : dgA 5 X = true := hg.mp (hg01.elim (fun q => absurd q c_3) id)
        refine lv_iload_n hx hb dX6_page_63 rfl (lv_at hl 2 rfl) ?_
        refine lv_iconst (v := 4) hx hb dX6_page_64 (by decide) ?_
        refine lv_icmp_le (tgt := 70) hx hb dX6_page_65 (by decide) (fun c_4 => ?_) (fun c_4 => ?_)
        · skip
          have hk4 : k ≤ 4 := (nI_leI (by omega) (by decide)).mp c_4
          have hok : pgOk (nI X) := (k_pg hX hX0).mpr ⟨hgg, by omega⟩
          refine lv_aload_n hx hb dX6_page_70 rfl (lv_at hl 0 rfl) ?_
          refine va_get (D := (dC, dI)) (ci := 6) (v := .int 0) (C := RX6) (T := TX6) (N := 51) hx hb hts uB6 hown hK hP 0 rfl rfl 5 (by decide) (hts _ wm_11) (fun _ h9 => h9) hf_n dX6_page_71 ?_
          refine lv_bipush (v := 8) hx hb dX6_page_74 (by decide) ?_
          refine lv_icmp_ne (tgt := 82) hx hb dX6_page_76 (by decide) (fun _ => ?_) (fun h9 => absurd h9 (by decide))
          refine lv_iload_n hx hb dX6_page_82 rfl (lv_at hl 1 rfl) ?_
          refine lv_istore (lv' := [(4, .int (nI X)), (0, .ref h0), (1, .int (nI X)), (2, .int (nI k)), (3, .int g)]) hx hb dX6_page_83 hl (by decide) rfl (fun ls hl => ?_)
          refine lv_iload_n hx hb dX6_page_85 rfl (lv_at hl 3 rfl) ?_
          refine lv_iconst (v := 1) hx hb dX6_page_86 (by decide) ?_
          refine lv_isub hx hb dX6_page_87 ?_
          refine lv_topi (fun x_5 ex_5 => ?_)
          refine lv_istore (lv' := [(5, .int x_5), (4, .int (nI X)), (0, .ref h0), (1, .int (nI X)), (2, .int (nI k)), (3, .int g)]) hx hb dX6_page_88 hl (by decide) rfl (fun ls hl => ?_)
          subst ex_5
          refine k_loop (fun n H locs ls => ∃ (r : Int32) (f : Nat → Int32), n ≤ 4 ∧ va_P (dC, dI) vwCl [(h0, .inr (6, fs)), (qs, .inl (cI, 32, .inl f)), (ql, .inl (cI, 8, .inl (fun _ => 0)))] H ∧ va_D A [(h0, .inr (6, fs)), (qs, .inl (cI, 32, .inl f)), (ql, .inl (cI, 8, .inl (fun _ => 0)))] ∧ va_S A s.heap H locs ∧ lv_has ls 6 [(0, .ref h0), (2, .int (nI k)), (4, .int r), (5, .int (nI n - 1))]) (fun H locs ls hI => ?_) (fun n H locs ls hI ih => ?_) k _ _ _ ⟨_, _, hk4, hP, hD, hS, lv_sub hl [2, 4, 1, 0] rfl⟩
          · skip
            obtain ⟨r, f, hn4, hP, hD, hS, hl⟩ := hI
            rw [show nI 0 - 1 = (-1 : Int32) from by decide] at hl
            refine lv_iload hx hb dX6_page_90 (lv_at hl 3 rfl) ?_
            refine lv_if_lt (tgt := 129) hx hb dX6_page_92 (by decide) (fun _ => ?_) (fun h9 => absurd (by decide) h9)
            refine lv_aload_n hx hb dX6_page_129 rfl (lv_at hl 0 rfl) ?_
            refine va_get (D := (dC, dI)) (ci := 6) (v := .ref ql) (C := RX6) (T := TX6) (N := 51) hx hb hts uB6 hown hK hP 0 rfl rfl 6 (by decide) (hts _ wm_139) (fun _ h9 => h9) hf_p dX6_page_130 ?_
            refine lv_aload_n hx hb dX6_page_133 rfl (lv_at hl 0 rfl) ?_
            refine va_get (D := (dC, dI)) (ci := 6) (v := .int 0) (C := RX6) (T := TX6) (N := 51) hx hb hts uB6 hown hK hP 0 rfl rfl 5 (by decide) (hts _ wm_11) (fun _ h9 => h9) hf_n dX6_page_134 ?_
            refine lv_iload_n hx hb dX6_page_137 rfl (lv_at hl 1 rfl) ?_
            refine va_iast hx hb hK hP hD hS 2 0 rfl rfl (vp_in_iff.mpr (by decide)) dX6_page_138 (fun H locs hP hD hS => ?_)
            obtain ⟨f_6, ef_6⟩ : ∃ z9, z9 = upd (fun _ => 0) (Int32.toNatClampNeg 0) (nI k) := ⟨_, rfl⟩
            have hP : va_P (dC, dI) vwCl [(h0, .inr (6, fs)), (qs, .inl (cI, 32, .inl f)), (ql, .inl (cI, 8, .inl f_6))] H := by rw [ef_6]; exact hP
            have hD : va_D A [(h0, .inr (6, fs)), (qs, .inl (cI, 32, .inl f)), (ql, .inl (cI, 8, .inl f_6))] := by rw [ef_6]; exact hD
            refine lv_aload_n hx hb dX6_page_139 rfl (lv_at hl 0 rfl) ?_
            refine lv_dup hx hb dX6_page_140 rfl ?_
            refine va_get (D := (dC, dI)) (ci := 6) (v := .int 0) (C := RX6) (T := TX6) (N := 51) hx hb hts uB6 hown hK hP 0 rfl rfl 5 (by decide) (hts _ wm_11) (fun _ h9 => h9) hf_n dX6_page_141 ?_
            refine lv_iconst (v := 1) hx hb dX6_page_144 (by decide) ?_
            refine lv_iadd hx hb dX6_page_145 ?_
            refine lv_topi (fun x_7 ex_7 => ?_)
            obtain rfl : x_7 = 1 := ex_7.trans (by decide)
            refine va_put (D := (dC, dI)) (ci := 6) (v := .int 1) (ty := .int) (C := RX6) (T := TX6) (N := 51) hx hb hts uB6 tyX6 tyX6_ok nmX6 hown hK hP hD hS 0 rfl rfl 5 (by decide) (hts _ wm_11) (fun _ h9 => h9) rfl (by decide +kernel) rfl rfl (by rw [hlen_h0]; decide) dX6_page_146 (fun H locs hP hD hS => ?_)
            obtain ⟨fs_8, efs_8⟩ : ∃ z9, z9 = (fs).set 5 (.int 1) := ⟨_, rfl⟩
            have hP : va_P (dC, dI) vwCl [(h0, .inr (6, fs_8)), (qs, .inl (cI, 32, .inl f)), (ql, .inl (cI, 8, .inl f_6))] H := by rw [efs_8]; exact hP
            have hD : va_D A [(h0, .inr (6, fs_8)), (qs, .inl (cI, 32, .inl f)), (ql, .inl (cI, 8, .inl f_6))] := by rw [efs_8]; exact hD
            have hf_s : fs_8[7]? = some (.ref qs) := by rw [efs_8, List.getElem?_set_ne (by decide)]; exact hf_s
            have hf_p : fs_8[6]? = some (.ref ql) := by rw [efs_8, List.getElem?_set_ne (by decide)]; exact hf_p
            have hf_n : fs_8[5]? = some (.int 1) := by rw [efs_8]; exact List.getElem?_set_self (by rw [hlen_h0]; decide)
            have hlen_h0 : fs_8.length = 51 := by rw [efs_8, List.length_set]; exact hlen_h0
            refine lv_aload_n hx hb dX6_page_149 rfl (lv_at hl 0 rfl) ?_
            refine va_get (D := (dC, dI)) (ci := 6) (v := .int 1) (C := RX6) (T := TX6) (N := 51) hx hb hts uB6 hown hK hP 0 rfl rfl 5 (by decide) (hts _ wm_11) (fun _ h9 => h9) hf_n dX6_page_150 ?_
            refine lv_iconst (v := 1) hx hb dX6_page_153 (by decide) ?_
            refine lv_isub hx hb dX6_page_154 ?_
            refine lv_topi (fun x_9 ex_9 => ?_)
            obtain rfl : x_9 = 0 := ex_9.trans (by decide)
            exact W.iret (v := 0) hx hb hr (fun t ht hW => ⟨⟨0, (), rfl, (if_pos hok).symm, trivial⟩, hS.F ht⟩) hS.2.2 dX6_page_155
          · skip
            obtain ⟨r, f, hn4, hP, hD, hS, hl⟩ := hI
            rw [nI_pred] at hl
            refine lv_iload hx hb dX6_page_90 (lv_at hl 3 rfl) ?_
            refine lv_if_lt (tgt := 129) hx hb dX6_page_92 (by decide) (fun c_10 => ?_) (fun c_10 => ?_)
            · skip
              exact absurd c_10 (nI_pos (by omega))
            · skip
              refine lv_aload_n hx hb dX6_page_95 rfl (lv_at hl 0 rfl) ?_
              refine va_get (D := (dC, dI)) (ci := 6) (v := .ref qs) (C := RX6) (T := TX6) (N := 51) hx hb hts uB6 hown hK hP 0 rfl rfl 7 (by decide) (hts _ wm_140) (fun _ h9 => h9) hf_s dX6_page_96 ?_
              refine lv_iconst (v := 4) hx hb dX6_page_99 (by decide) ?_
              refine lv_aload_n hx hb dX6_page_100 rfl (lv_at hl 0 rfl) ?_
              refine va_get (D := (dC, dI)) (ci := 6) (v := .int 0) (C := RX6) (T := TX6) (N := 51) hx hb hts uB6 hown hK hP 0 rfl rfl 5 (by decide) (hts _ wm_11) (fun _ h9 => h9) hf_n dX6_page_101 ?_
              refine lv_imul hx hb dX6_page_104 ?_
              refine lv_topi (fun x_11 ex_11 => ?_)
              obtain rfl : x_11 = 0 := ex_11.trans (by decide)
              refine lv_iload hx hb dX6_page_105 (lv_at hl 3 rfl) ?_
              refine lv_iadd hx hb dX6_page_107 ?_
              refine lv_topi (fun x_12 ex_12 => ?_)
              obtain rfl : x_12 = nI n := ex_12.trans (by rw [show (0 : Int32) = nI 0 from rfl, nI_add, Nat.zero_add])
              refine lv_iload hx hb dX6_page_108 (lv_at hl 2 rfl) ?_
              refine lv_sipush (v := 128) hx hb dX6_page_110 (by decide) ?_
              refine lv_irem hx hb dX6_page_113 (by decide) ?_
              refine lv_topi (fun x_13 ex_13 => ?_)
              refine va_iast hx hb hK hP hD hS 1 0 rfl rfl (vp_in_nI (by omega) (by decide)) dX6_page_114 (fun H locs hP hD hS => ?_)
              obtain ⟨f_14, ef_14⟩ : ∃ z9, z9 = upd f (Int32.toNatClampNeg (nI n)) x_13 := ⟨_, rfl⟩
              have hP : va_P (dC, dI) vwCl [(h0, .inr (6, fs)), (qs, .inl (cI, 32, .inl f_14)), (ql, .inl (cI, 8, .inl (fun _ => 0)))] H := by rw [ef_14]; exact hP
              have hD : va_D A [(h0, .inr (6, fs)), (qs, .inl (cI, 32, .inl f_14)), (ql, .inl (cI, 8, .inl (fun _ => 0)))] := by rw [ef_14]; exact hD
              refine lv_iload hx hb dX6_page_115 (lv_at hl 2 rfl) ?_
              refine lv_sipush (v := 128) hx hb dX6_page_117 (by decide) ?_
              refine lv_idiv hx hb dX6_page_120 (by decide) ?_
              refine lv_topi (fun x_15 ex_15 => ?_)
              refine lv_istore (lv' := [(4, .int x_15), (0, .ref h0), (2, .int (nI k)), (5, .int (nI n))]) hx hb dX6_page_121 hl (by decide) rfl (fun ls hl => ?_)
              obtain ⟨x_16, ex_16⟩ : ∃ y : Int32, y = (nI n) + (-1) := ⟨_, rfl⟩
              refine lv_iinc (v := x_16) (lv' := [(5, .int x_16), (4, .int x_15), (0, .ref h0), (2, .int (nI k))]) hx hb dX6_page_123 hl (k := 3) rfl (by rw [ex_16]; rfl) (by decide) rfl (fun ls hl => ?_)
              refine lv_goto (tgt := 90) hx hb dX6_page_126 (by decide) ?_
              obtain rfl : x_16 = nI n - 1 := ex_16.trans (by rw [Int32.sub_eq_add_neg])
              exact ih _ _ _ ⟨_, _, by omega, hP, hD, hS, lv_sub hl [2, 3, 1, 0] rfl⟩
        · skip
          have hno : ¬ pgOk (nI X) := fun q => c_4 (show nI k ≤ nI 4 from nI_le (by have := ((k_pg hX hX0).mp q).2; omega) (by decide))
          refine lv_iconst (v := (-1)) hx hb dX6_page_68 (by decide) ?_
          exact W.iret (v := (-1)) hx hb hr (fun t ht hW => ⟨⟨(-1), (), rfl, (if_neg hno).symm, trivial⟩, hS.F ht⟩) hS.2.2 dX6_page_69
    · skip
      obtain ⟨d, k, g, hn5, hd, hd31, hk, hkn, hg, hg01, hP, hD, hS, hl⟩ := hI
      refine lv_iload hx hb dX6_page_15 (lv_at hl 4 rfl) ?_
      refine lv_if_le (tgt := 59) hx hb dX6_page_17 (by decide) (fun c_17 => ?_) (fun c_17 => ?_)
      · skip
        have hdz : d = 0 := by rcases Nat.eq_zero_or_pos d with q | q; exact q; exact absurd c_17 (nI_nle q hd31)
        exact hE _ _ _ ⟨d, k, g, by rw [← hk, hdz, dgN_0]; rfl, by omega, by rw [hdz, dgA_0] at hg; exact ⟨fun q => hg.mp ⟨q, rfl⟩, fun q => (hg.mpr q).1⟩, hg01, hP, hD, hS, lv_sub hl [0, 1, 2, 3, 4] rfl⟩
      · skip
        have hd0 : ¬ d = 0 := fun q => c_17 (by rw [q]; decide)
        obtain ⟨n, rfl⟩ : ∃ n9, n = n9 + 1 := by rcases Nat.eq_zero_or_pos n with q | q; rw [q] at hd; omega; exact ⟨n - 1, by omega⟩
        refine lv_iload_n hx hb dX6_page_20 rfl (lv_at hl 3 rfl) ?_
        refine lv_if_eq (tgt := 43) hx hb dX6_page_21 (by decide) (fun c_18 => ?_) (fun c_18 => ?_)
        · skip
          have hno : ¬ (g = 1 ∧ dgA (n + 1) d = true) := fun q => by rw [c_18] at q; exact absurd q.1 (by decide)
          refine lv_iconst (v := 0) hx hb dX6_page_43 (by decide) ?_
          refine lv_istore_n (lv' := [(3, .int 0), (0, .ref h0), (1, .int (nI X)), (2, .int (nI k)), (4, .int (nI d))]) hx hb dX6_page_44 rfl hl (by decide) rfl (fun ls hl => ?_)
          obtain ⟨x_19, ex_19⟩ : ∃ y : Int32, y = (nI k) + 1 := ⟨_, rfl⟩
          refine lv_iinc (v := x_19) (lv' := [(2, .int x_19), (3, .int 0), (0, .ref h0), (1, .int (nI X)), (4, .int (nI d))]) hx hb dX6_page_45 hl (k := 3) rfl (by rw [ex_19]; rfl) (by decide) rfl (fun ls hl => ?_)
          refine lv_iload hx hb dX6_page_48 (lv_at hl 4 rfl) ?_
          refine lv_sipush (v := 128) hx hb dX6_page_50 (by decide) ?_
          refine lv_idiv hx hb dX6_page_53 (by decide) ?_
          refine lv_topi (fun x_20 ex_20 => ?_)
          obtain rfl : x_20 = nI (d / 128) := ex_20.trans (k_128d hd31)
          refine lv_istore (lv' := [(4, .int (nI (d / 128))), (2, .int x_19), (3, .int 0), (0, .ref h0), (1, .int (nI X))]) hx hb dX6_page_54 hl (by decide) rfl (fun ls hl => ?_)
          refine lv_goto (tgt := 15) hx hb dX6_page_56 (by decide) ?_
          obtain rfl : x_19 = nI (k + 1) := ex_19.trans (nI_1 k)
          exact ih n (by omega) _ _ _ ⟨d / 128, k + 1, 0, by omega, by rw [Nat.pow_succ] at hd; omega, by omega, by rw [dgN, if_neg hd0] at hk; omega, by omega, ⟨fun q => absurd q.1 (by decide), fun q => (hno (hg.mpr q)).elim⟩, Or.inl rfl, hP, hD, hS, lv_sub hl [3, 4, 1, 2, 0] rfl⟩
        · skip
          have hg1 : g = 1 := hg01.elim (fun q => absurd q c_18) id
          refine lv_iload hx hb dX6_page_24 (lv_at hl 4 rfl) ?_
          refine lv_sipush (v := 128) hx hb dX6_page_26 (by decide) ?_
          refine lv_irem hx hb dX6_page_29 (by decide) ?_
          refine lv_topi (fun x_21 ex_21 => ?_)
          obtain rfl : x_21 = nI (d % 128) := ex_21.trans (k_128r hd31)
          refine lv_iconst (v := 1) hx hb dX6_page_30 (by decide) ?_
          refine lv_bipush (v := 100) hx hb dX6_page_31 (by decide) ?_
          refine k_S ⟨hx, hb, hml, hown, hts⟩ (c_in l (nI (d % 128)) 1 100) 3 wm_4 wm_5 wm_6 wm_7 (by decide +kernel) ⟨Nat.le_of_ble_eq_true rfl, Nat.le_of_ble_eq_true rfl⟩ rfl hl.1 rfl (Nat.le_of_ble_eq_true rfl) dX6_page_33 ⟨Nat.le_of_ble_eq_true rfl, Nat.le_of_ble_eq_true rfl⟩ hS hP (fun r_22 H locs hpr_22 hP hS => ?_)
          refine lv_if_eq (tgt := 43) hx hb dX6_page_36 (by decide) (fun c_23 => ?_) (fun c_23 => ?_)
          · skip
            have g_23 := k_ff hpr_22 c_23
            have hno : ¬ (g = 1 ∧ dgA (n + 1) d = true) := fun q => by have q2 := q.2; rw [dgA, if_neg hd0, decide_eq_false (fun z => g_23 ((k_rg (by omega) (by decide) (by decide)).mpr z)), Bool.false_and] at q2; exact absurd q2 (by decide)
            refine lv_iconst (v := 0) hx hb dX6_page_43 (by decide) ?_
            refine lv_istore_n (lv' := [(3, .int 0), (0, .ref h0), (1, .int (nI X)), (2, .int (nI k)), (4, .int (nI d))]) hx hb dX6_page_44 rfl hl (by decide) rfl (fun ls hl => ?_)
            obtain ⟨x_24, ex_24⟩ : ∃ y : Int32, y = (nI k) + 1 := ⟨_, rfl⟩
            refine lv_iinc (v := x_24) (lv' := [(2, .int x_24), (3, .int 0), (0, .ref h0), (1, .int (nI X)), (4, .int (nI d))]) hx hb dX6_page_45 hl (k := 3) rfl (by rw [ex_24]; rfl) (by decide) rfl (fun ls hl => ?_)
            refine lv_iload hx hb dX6_page_48 (lv_at hl 4 rfl) ?_
            refine lv_sipush (v := 128) hx hb dX6_page_50 (by decide) ?_
            refine lv_idiv hx hb dX6_page_53 (by decide) ?_
            refine lv_topi (fun x_25 ex_25 => ?_)
            obtain rfl : x_25 = nI (d / 128) := ex_25.trans (k_128d hd31)
            refine lv_istore (lv' := [(4, .int (nI (d / 128))), (2, .int x_24), (3, .int 0), (0, .ref h0), (1, .int (nI X))]) hx hb dX6_page_54 hl (by decide) rfl (fun ls hl => ?_)
            refine lv_goto (tgt := 15) hx hb dX6_page_56 (by decide) ?_
            obtain rfl : x_24 = nI (k + 1) := ex_24.trans (nI_1 k)
            exact ih n (by omega) _ _ _ ⟨d / 128, k + 1, 0, by omega, by rw [Nat.pow_succ] at hd; omega, by omega, by rw [dgN, if_neg hd0] at hk; omega, by omega, ⟨fun q => absurd q.1 (by decide), fun q => (hno (hg.mpr q)).elim⟩, Or.inl rfl, hP, hD, hS, lv_sub hl [3, 4, 1, 2, 0] rfl⟩
          · skip
            have g_23 := k_ft hpr_22 c_23
            have hgd : 1 ≤ d % 128 ∧ d % 128 ≤ 100 := (k_rg (by omega) (by decide) (by decide)).mp g_23
            refine lv_iconst (v := 1) hx hb dX6_page_39 (by decide) ?_
            refine lv_goto (tgt := 44) hx hb dX6_page_40 (by decide) ?_
            refine lv_istore_n (lv' := [(3, .int 1), (0, .ref h0), (1, .int (nI X)), (2, .int (nI k)), (4, .int (nI d))]) hx hb dX6_page_44 rfl hl (by decide) rfl (fun ls hl => ?_)
            obtain ⟨x_26, ex_26⟩ : ∃ y : Int32, y = (nI k) + 1 := ⟨_, rfl⟩
            refine lv_iinc (v := x_26) (lv' := [(2, .int x_26), (3, .int 1), (0, .ref h0), (1, .int (nI X)), (4, .int (nI d))]) hx hb dX6_page_45 hl (k := 3) rfl (by rw [ex_26]; rfl) (by decide) rfl (fun ls hl => ?_)
            refine lv_iload hx hb dX6_page_48 (lv_at hl 4 rfl) ?_
            refine lv_sipush (v := 128) hx hb dX6_page_50 (by decide) ?_
            refine lv_idiv hx hb dX6_page_53 (by decide) ?_
            refine lv_topi (fun x_27 ex_27 => ?_)
            obtain rfl : x_27 = nI (d / 128) := ex_27.trans (k_128d hd31)
            refine lv_istore (lv' := [(4, .int (nI (d / 128))), (2, .int x_26), (3, .int 1), (0, .ref h0), (1, .int (nI X))]) hx hb dX6_page_54 hl (by decide) rfl (fun ls hl => ?_)
            refine lv_goto (tgt := 15) hx hb dX6_page_56 (by decide) ?_
            obtain rfl : x_26 = nI (k + 1) := ex_26.trans (nI_1 k)
            exact ih n (by omega) _ _ _ ⟨d / 128, k + 1, 1, by omega, by rw [Nat.pow_succ] at hd; omega, by omega, by rw [dgN, if_neg hd0] at hk; omega, by omega, ⟨fun q => hg.mp ⟨hg1, by rw [dgA, if_neg hd0, decide_eq_true hgd, Bool.true_and]; exact q.2⟩, fun q => ⟨rfl, by have q2 := (hg.mpr q).2; rw [dgA, if_neg hd0, decide_eq_true hgd, Bool.true_and] at q2; exact q2⟩⟩, Or.inr rfl, hP, hD, hS, lv_sub hl [3, 4, 1, 2, 0] rfl⟩
