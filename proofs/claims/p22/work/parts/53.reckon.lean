theorem ri_4 {i k j r : Nat} (hk : k < 4) (hr : r < 4) (h : 4 * i + k = 4 * j + r) : i = j ∧ k = r := by omega
set_option maxHeartbeats 4000000 in
set_option maxRecDepth 100000 in
theorem um_reckon (l : Launch) (dC : Nat → ClassId) (dI : Nat → Nat → Nat) (K : Nat → ClassId) (L : List Nat) (f : Nat → va_E) (rt : Nat → Nat) {fm : List Value} (hC : mC rt L f fm) {g_worth : Nat → Int64} (F_worth : f (rt 37) = .inl (K 1, 160, .inr (.inl g_worth))) {g_mostAt : Nat → Int64} (F_mostAt : f (rt 38) = .inl (K 1, 5, .inr (.inl g_mostAt))) {g_order : Nat → Int32} (F_order : f (rt 47) = .inl (K 0, 40, .inl g_order)) {mm sp : Nat} {wn : Nat → Nat → Nat} (I_may : fm[35]? = some (.int (nI mm))) (I_spots : fm[39]? = some (.int (nI sp))) (wo : Int32) (hmm : mm ≤ 40) (hsp1 : 1 ≤ sp) (hsp : sp ≤ 4) (hw : ∀ i k, i < mm → k < sp → g_worth (4 * i + k) = lN (wn i k) ∧ wn i k ≤ 1272270000000) (hLn : gN L) : gMv l yX6_reckon cX6_reckon 6 0 (dC, dI) K L f [.ref (rt 51), .int wo] (fun f' => ∃ (gm : Nat → Int64) (go : Nat → Int32) (ma : Nat → Nat), gSm rt [38, 47] f f' ∧ f' (rt 38) = .inl (K 1, 5, .inr (.inl gm)) ∧ f' (rt 47) = .inl (K 0, 40, .inl go) ∧ (∀ t, t < mm → ∃ q : Nat, q < mm ∧ go t = nI q) ∧ (∀ k, k ≤ sp → gm k = lN (ma k) ∧ ma k ≤ 4 * 1272270000000) ∧ ma sp = 0 ∧ (∀ k, k < sp → ma (k + 1) ≤ ma k ∧ ∀ i, i < mm → ¬ nI i = wo → ma (k + 1) + wn i k ≤ ma k)) := by
  refine Met.ofW (cc := cX6_reckon) (maxL := 6) (ret := none) (by decide) rfl ?_
  intro p e s m args below meth c s₁ B hml hv
  obtain ⟨rfl, hP, hK⟩ := hv
  have F_m := hC.2.1
  have hD : va_D (fun q : Nat => q ∈ L) (va_pl L f) := g_D hLn (fun a h => h) f
  generalize hAe : (fun q : Nat => q ∈ L) = A at hD ⊢
  have hx := B.exec
  have hb := B.bytes
  have hr := B.returns
  have hlocks := B.notSynchronized
  have hts0 := atoms_spec (ws := Cond.code yX6_reckon cX6_reckon 6 none :: lw_B) B.pre
  have hts : ∀ w ∈ lw_B, w.before _ s = true := fun w h => hts0 w (List.mem_cons_of_mem _ h)
  have hown : s.vm.findClass RX6 = some m.cls := findClass_of_methodNamed B.named
  have hS : va_S A s.heap s.heap [] := va_S.rf
  have hl := lv_entry ([.ref (rt 51), .int wo]) (n := 6) (Nat.le_of_ble_eq_true rfl)
  rw [lg_entry_eq]
  generalize (lg_sl ([.ref (rt 51), .int wo]) ++ List.replicate (6 - (lg_sl ([.ref (rt 51), .int wo])).length) Slot.unset).toArray = ls at hl ⊢
  have hl : lv_has ls 6 [(0, .ref (rt 51)), (1, .int wo)] := hl
  have hSm : gSm rt [38, 47] f f := gSm.rf
  have hFs : fmS [] fm fm := fmS.rf
  refine lv_aload_n hx hb dX6_reckon_0 rfl (lv_at hl 0 rfl) ?_
  refine g_get (ci := 6) (v := .ref (rt 38)) (C := RX6) (T := TX6) (N := 51) hx hb hts uB6 hown hK hP (hC.1.1 51 (by decide)) F_m rfl 38 (by decide) wm_130 (hC.2.2.2 38 (by decide)) dX6_reckon_1 ?_
  refine lv_aload_n hx hb dX6_reckon_4 rfl (lv_at hl 0 rfl) ?_
  refine g_get (ci := 6) (v := .int (nI sp)) (C := RX6) (T := TX6) (N := 51) hx hb hts uB6 hown hK hP (hC.1.1 51 (by decide)) F_m rfl 39 (by decide) wm_131 I_spots dX6_reckon_5 ?_
  refine lv_lconst (v := 0) hx hb dX6_reckon_8 rfl ?_
  refine g_last hx hb hK hP hD hS (hC.1.1 38 (by decide)) F_mostAt (vp_in_nI (by omega) (by decide)) dX6_reckon_9 (fun H locs hP hD hS => ?_)
  obtain ⟨g_1, eg_1⟩ : ∃ z9, z9 = vp_updL g_mostAt (Int32.toNatClampNeg (nI sp)) 0 := ⟨_, rfl⟩
  rw [← eg_1] at hP hD
  obtain ⟨f_2, ef_2⟩ : ∃ z9, z9 = va_up f (rt 38) (.inl (K 1, 5, .inr (.inl g_1))) := ⟨_, rfl⟩
  rw [← ef_2] at hP hD
  have F_m : f_2 (rt 51) = .inr (6, fm) := by rw [ef_2, va_up_ne _ _ (fun q => absurd (hC.1.2 51 (by decide) 38 (by decide) q) (by decide))]; exact F_m
  have F_order : f_2 (rt 47) = .inl (K 0, 40, .inl g_order) := by rw [ef_2, va_up_ne _ _ (fun q => absurd (hC.1.2 47 (by decide) 38 (by decide) q) (by decide))]; exact F_order
  have F_mostAt : f_2 (rt 38) = .inl (K 1, 5, .inr (.inl g_1)) := by rw [ef_2, va_up_self]
  have hC : mC rt L f_2 fm := ⟨hC.1, F_m, hC.2.2.1, hC.2.2.2⟩
  have hSm : gSm rt [38, 47] f f_2 := by rw [ef_2]; exact hSm.up (by decide) _
  rw [nI_clamp (by omega)] at eg_1
  have eg_sp := eg_1
  refine lv_aload_n hx hb dX6_reckon_10 rfl (lv_at hl 0 rfl) ?_
  refine g_get (ci := 6) (v := .int (nI sp)) (C := RX6) (T := TX6) (N := 51) hx hb hts uB6 hown hK hP (hC.1.1 51 (by decide)) F_m rfl 39 (by decide) wm_131 I_spots dX6_reckon_11 ?_
  refine lv_iconst (v := 1) hx hb dX6_reckon_14 (by decide) ?_
  refine lv_isub hx hb dX6_reckon_15 ?_
  refine lv_topi (fun x_3 ex_3 => ?_)
  refine lv_istore_n (lv' := [(2, .int x_3), (0, .ref (rt 51)), (1, .int wo)]) hx hb dX6_reckon_16 rfl hl (by decide) rfl (fun ls hl => ?_)
  subst ex_3
  have hSma := hSm
  have hFsa := hFs
  refine k_lx (pcx := 97) (fun n H locs ls => ∃ (fva : Nat → va_E) (fmva : List Value) (gm : Nat → Int64) (n1 : Nat) (ma : Nat → Nat), n1 = n ∧ gSm rt [38] f_2 fva ∧ fmS [] fm fmva ∧ mC rt L fva fmva ∧ fva (rt 38) = .inl (K 1, 5, .inr (.inl gm)) ∧ (n1 ≤ sp) ∧ ((∀ k, n1 ≤ k → k ≤ sp → gm k = lN (ma k) ∧ ma k ≤ (sp - k) * 1272270000000) ∧ ma sp = 0 ∧ (∀ k, n1 ≤ k → k < sp → ma (k + 1) ≤ ma k ∧ ∀ i, i < mm → ¬ nI i = wo → ma (k + 1) + wn i k ≤ ma k)) ∧ va_P (dC, dI) vwCl (va_pl L fva) H ∧ va_S A s.heap H locs ∧ lv_has ls 6 [(0, .ref (rt 51)), (1, .int wo), (2, .int (nI n1 - 1))]) (fun H locs ls => ∃ (fva : Nat → va_E) (fmva : List Value) (gm : Nat → Int64) (n1 : Nat) (ma : Nat → Nat), gSm rt [38] f_2 fva ∧ fmS [] fm fmva ∧ mC rt L fva fmva ∧ fva (rt 38) = .inl (K 1, 5, .inr (.inl gm)) ∧ ((∀ k, 0 ≤ k → k ≤ sp → gm k = lN (ma k) ∧ ma k ≤ (sp - k) * 1272270000000) ∧ ma sp = 0 ∧ (∀ k, 0 ≤ k → k < sp → ma (k + 1) ≤ ma k ∧ ∀ i, i < mm → ¬ nI i = wo → ma (k + 1) + wn i k ≤ ma k)) ∧ va_P (dC, dI) vwCl (va_pl L fva) H ∧ va_S A s.heap H locs ∧ lv_has ls 6 [(0, .ref (rt 51)), (1, .int wo), (2, .int (nI n1 - 1))]) (fun H locs ls hI => ?_) (fun n H locs ls hI hEa iha => ?_) _ _ _ _ ⟨f_2, fm, _, sp, (fun _ => 0), rfl, gSm.rf, fmS.rf, hC, F_mostAt, Nat.le_refl _, ⟨fun k h1 h2 => ⟨by rw [show k = sp by omega, eg_sp, pk_uLs]; rfl, Nat.zero_le _⟩, rfl, fun k h1 h2 => by omega⟩, hP, hS, lv_sub hl [1, 2, 0] rfl⟩
  · skip
    obtain ⟨fva, fmva, gm, n1, ma, hSm, hFs, hC, NF_mostAt, hma, hP, hS, hl⟩ := hI
    have F_order : fva (rt 47) = .inl (K 0, 40, .inl g_order) := (hSm.at hC.1 (by decide) (by decide)).trans F_order
    have F_mostAt := NF_mostAt
    have F_m : fva (rt 51) = .inr (6, fmva) := hC.2.1
    have I_may : fmva[35]? = some (.int (nI mm)) := (hFs.2 35 (by decide)).trans I_may
    have I_spots : fmva[39]? = some (.int (nI sp)) := (hFs.2 39 (by decide)).trans I_spots
    have hD : va_D A (va_pl L fva) := g_D hLn (fun a h => by rw [← hAe]; exact h) fva
    have hSmLa := hSm
    have hSm : gSm rt [38, 47] f fva := hSma.tr hSm (by decide) (by decide)
    have hFs : fmS [] fm fmva := hFsa.tr hFs (by decide) (by decide)
    refine lv_iconst (v := 0) hx hb dX6_reckon_97 (by decide) ?_
    refine lv_istore_n (lv' := [(2, .int 0), (0, .ref (rt 51)), (1, .int wo)]) hx hb dX6_reckon_98 rfl hl (by decide) rfl (fun ls hl => ?_)
    refine lv_iconst (v := 0) hx hb dX6_reckon_99 (by decide) ?_
    refine lv_istore_n (lv' := [(3, .int 0), (2, .int 0), (0, .ref (rt 51)), (1, .int wo)]) hx hb dX6_reckon_100 rfl hl (by decide) rfl (fun ls hl => ?_)
    have hSmd := hSm
    have hFsd := hFs
    refine k_lx (pcx := 184) (fun n H locs ls => ∃ (fvd : Nat → va_E) (fmvd : List Value) (go : Nat → Int32) (j : Nat), mm - j = n ∧ gSm rt [47] fva fvd ∧ fmS [] fmva fmvd ∧ mC rt L fvd fmvd ∧ fvd (rt 47) = .inl (K 0, 40, .inl go) ∧ (j ≤ mm) ∧ (∀ t, t < j → ∃ q : Nat, q < mm ∧ go t = nI q) ∧ va_P (dC, dI) vwCl (va_pl L fvd) H ∧ va_S A s.heap H locs ∧ lv_has ls 6 [(0, .ref (rt 51)), (2, .int (nI j)), (3, .int (nI j))]) (fun H locs ls => ∃ (fvd : Nat → va_E) (fmvd : List Value) (go : Nat → Int32) (j : Nat), gSm rt [47] fva fvd ∧ fmS [] fmva fmvd ∧ mC rt L fvd fmvd ∧ fvd (rt 47) = .inl (K 0, 40, .inl go) ∧ (∀ t, t < mm → ∃ q : Nat, q < mm ∧ go t = nI q) ∧ va_P (dC, dI) vwCl (va_pl L fvd) H ∧ va_S A s.heap H locs ∧ lv_has ls 6 [(0, .ref (rt 51)), (2, .int (nI j)), (3, .int (nI j))]) (fun H locs ls hI => ?_) (fun n H locs ls hI hEd ihd => ?_) _ _ _ _ ⟨fva, fmva, _, 0, rfl, gSm.rf, fmS.rf, hC, F_order, Nat.zero_le _, fun t h => absurd h (Nat.not_lt_zero t), hP, hS, lv_sub hl [2, 1, 0] rfl⟩
    · skip
      obtain ⟨fvd, fmvd, go, j, hSm, hFs, hC, NF_order, hor0, hP, hS, hl⟩ := hI
      have F_mostAt : fvd (rt 38) = .inl (K 1, 5, .inr (.inl gm)) := (hSm.at hC.1 (by decide) (by decide)).trans F_mostAt
      have F_order := NF_order
      have F_m : fvd (rt 51) = .inr (6, fmvd) := hC.2.1
      have I_may : fmvd[35]? = some (.int (nI mm)) := (hFs.2 35 (by decide)).trans I_may
      have I_spots : fmvd[39]? = some (.int (nI sp)) := (hFs.2 39 (by decide)).trans I_spots
      have hD : va_D A (va_pl L fvd) := g_D hLn (fun a h => by rw [← hAe]; exact h) fvd
      have hSmLd := hSm
      have hSm : gSm rt [38, 47] f fvd := hSmd.tr hSm (by decide) (by decide)
      have hFs : fmS [] fm fmvd := hFsd.tr hFs (by decide) (by decide)
      exact W.vret hx hb hr (fun t ht hW => ⟨⟨fvd, rfl, ⟨_, _, ma, hSm, F_mostAt, F_order, hor0, fun k hk => ⟨(hma.1 k (Nat.zero_le _) hk).1, Nat.le_trans (hma.1 k (Nat.zero_le _) hk).2 (Nat.mul_le_mul_right _ (by omega))⟩, hma.2.1, fun k hk => hma.2.2 k (Nat.zero_le _) hk⟩, by show va_P (dC, dI) vwCl (va_pl L fvd) t.heap; rw [ht]; exact hP⟩, hS.F ht⟩) hS.2.2 dX6_reckon_184
    · skip
      obtain ⟨fvd, fmvd, go, j, hmud, hSm, hFs, hC, NF_order, hj, hor0, hP, hS, hl⟩ := hI
      have F_order := NF_order
      have F_m : fvd (rt 51) = .inr (6, fmvd) := hC.2.1
      have I_may : fmvd[35]? = some (.int (nI mm)) := (hFs.2 35 (by decide)).trans I_may
      have I_spots : fmvd[39]? = some (.int (nI sp)) := (hFs.2 39 (by decide)).trans I_spots
      have hD : va_D A (va_pl L fvd) := g_D hLn (fun a h => by rw [← hAe]; exact h) fvd
      refine lv_iload_n hx hb dX6_reckon_101 rfl (lv_at hl 2 rfl) ?_
      refine lv_aload_n hx hb dX6_reckon_102 rfl (lv_at hl 0 rfl) ?_
      refine g_get (ci := 6) (v := .int (nI mm)) (C := RX6) (T := TX6) (N := 51) hx hb hts uB6 hown hK hP (hC.1.1 51 (by decide)) F_m rfl 35 (by decide) wm_63 I_may dX6_reckon_103 ?_
      refine lv_icmp_ge (tgt := 184) hx hb dX6_reckon_106 (by decide) (fun c_4 => ?_) (fun c_4 => ?_)
      · skip
        have nc_4 : mm ≤ j := (bn_le (a := mm) (b := j) (by omega) (by omega)).mp (show nI mm ≤ nI j from c_4)
        exact hEd _ _ _ ⟨fvd, fmvd, _, j, hSm, hFs, hC, F_order, (fun t ht => hor0 t (by omega)), hP, hS, lv_sub hl [0, 1, 2] rfl⟩
      · skip
        have nc_4 : ¬ (mm ≤ j) := fun q => c_4 (show nI mm ≤ nI j from (bn_le (a := mm) (b := j) (by omega) (by omega)).mpr q)
        refine lv_iload_n hx hb dX6_reckon_109 rfl (lv_at hl 1 rfl) ?_
        refine lv_istore (lv' := [(4, .int (nI j)), (0, .ref (rt 51)), (2, .int (nI j)), (3, .int (nI j))]) hx hb dX6_reckon_110 hl (by decide) rfl (fun ls hl => ?_)
        have hSmg := hSm
        have hFsg := hFs
        refine k_lx (pcx := 167) (fun n H locs ls => ∃ (fvg : Nat → va_E) (fmvg : List Value) (gq : Nat → Int32) (r : Nat), r = n ∧ gSm rt [47] fvd fvg ∧ fmS [] fmvd fmvg ∧ mC rt L fvg fmvg ∧ fvg (rt 47) = .inl (K 0, 40, .inl gq) ∧ (r ≤ j) ∧ (∀ t, t ≤ j → ¬ t = r → ∃ q : Nat, q < mm ∧ gq t = nI q) ∧ va_P (dC, dI) vwCl (va_pl L fvg) H ∧ va_S A s.heap H locs ∧ lv_has ls 6 [(0, .ref (rt 51)), (2, .int (nI j)), (3, .int (nI j)), (4, .int (nI r))]) (fun H locs ls => ∃ (fvg : Nat → va_E) (fmvg : List Value) (gq : Nat → Int32) (r : Nat), gSm rt [47] fvd fvg ∧ fmS [] fmvd fmvg ∧ mC rt L fvg fmvg ∧ fvg (rt 47) = .inl (K 0, 40, .inl gq) ∧ (r ≤ j) ∧ (∀ t, t ≤ j → ¬ t = r → ∃ q : Nat, q < mm ∧ gq t = nI q) ∧ va_P (dC, dI) vwCl (va_pl L fvg) H ∧ va_S A s.heap H locs ∧ lv_has ls 6 [(0, .ref (rt 51)), (2, .int (nI j)), (3, .int (nI j)), (4, .int (nI r))]) (fun H locs ls hI => ?_) (fun n H locs ls hI hEg ihg => ?_) _ _ _ _ ⟨fvd, fmvd, _, j, rfl, gSm.rf, fmS.rf, hC, F_order, Nat.le_refl _, fun t h1 h2 => hor0 t (by omega), hP, hS, lv_sub hl [1, 2, 3, 0] rfl⟩
        · skip
          obtain ⟨fvg, fmvg, gq, r, hSm, hFs, hC, NF_order, hr, hor, hP, hS, hl⟩ := hI
          have F_order := NF_order
          have F_m : fvg (rt 51) = .inr (6, fmvg) := hC.2.1
          have I_may : fmvg[35]? = some (.int (nI mm)) := (hFs.2 35 (by decide)).trans I_may
          have I_spots : fmvg[39]? = some (.int (nI sp)) := (hFs.2 39 (by decide)).trans I_spots
          have hD : va_D A (va_pl L fvg) := g_D hLn (fun a h => by rw [← hAe]; exact h) fvg
          have hSmLg := hSm
          have hSm : gSm rt [47] fva fvg := hSmg.tr hSm (by decide) (by decide)
          have hFs : fmS [] fmva fmvg := hFsg.tr hFs (by decide) (by decide)
          refine lv_aload_n hx hb dX6_reckon_167 rfl (lv_at hl 0 rfl) ?_
          refine g_get (ci := 6) (v := .ref (rt 47)) (C := RX6) (T := TX6) (N := 51) hx hb hts uB6 hown hK hP (hC.1.1 51 (by decide)) F_m rfl 47 (by decide) wm_132 (hC.2.2.2 47 (by decide)) dX6_reckon_168 ?_
          refine lv_iload hx hb dX6_reckon_171 (lv_at hl 3 rfl) ?_
          refine lv_iload_n hx hb dX6_reckon_173 rfl (lv_at hl 2 rfl) ?_
          refine g_iast hx hb hK hP hD hS (hC.1.1 47 (by decide)) F_order (vp_in_nI (by omega) (by decide)) dX6_reckon_174 (fun H locs hP hD hS => ?_)
          obtain ⟨g_5, eg_5⟩ : ∃ z9, z9 = upd gq (Int32.toNatClampNeg (nI r)) (nI j) := ⟨_, rfl⟩
          rw [← eg_5] at hP hD
          obtain ⟨f_6, ef_6⟩ : ∃ z9, z9 = va_up fvg (rt 47) (.inl (K 0, 40, .inl g_5)) := ⟨_, rfl⟩
          rw [← ef_6] at hP hD
          have F_m : f_6 (rt 51) = .inr (6, fmvg) := by rw [ef_6, va_up_ne _ _ (fun q => absurd (hC.1.2 51 (by decide) 47 (by decide) q) (by decide))]; exact F_m
          have F_order : f_6 (rt 47) = .inl (K 0, 40, .inl g_5) := by rw [ef_6, va_up_self]
          have hC : mC rt L f_6 fmvg := ⟨hC.1, F_m, hC.2.2.1, hC.2.2.2⟩
          have hSm : gSm rt [47] fva f_6 := by rw [ef_6]; exact hSm.up (by decide) _
          rw [nI_clamp (by omega)] at eg_5
          refine lv_iinc (v := nI (j + 1)) (lv' := [(2, .int (nI (j + 1))), (0, .ref (rt 51)), (3, .int (nI j)), (4, .int (nI r))]) hx hb dX6_reckon_175 hl (k := 1) rfl (by exact nI_1 _) (by decide) rfl (fun ls hl => ?_)
          refine lv_iinc (v := nI (j + 1)) (lv' := [(3, .int (nI (j + 1))), (2, .int (nI (j + 1))), (0, .ref (rt 51)), (4, .int (nI r))]) hx hb dX6_reckon_178 hl (k := 2) rfl (by exact nI_1 _) (by decide) rfl (fun ls hl => ?_)
          refine lv_goto (tgt := 101) hx hb dX6_reckon_181 (by decide) ?_
          have hor2 : ∀ t, t < (j + 1) → ∃ q : Nat, q < mm ∧ g_5 t = nI q := fun t ht => by
            by_cases hk : t = r
            · rw [hk, eg_5, pk_us]; exact ⟨j, by omega, rfl⟩
            · rw [eg_5, pk_un hk]; exact hor t (by omega) hk
          exact ihd _ (by omega) _ _ _ ⟨f_6, fmvg, _, (j + 1), rfl, hSm, hFs, hC, F_order, by omega, hor2, hP, hS, lv_sub hl [2, 1, 0] rfl⟩
        · skip
          obtain ⟨fvg, fmvg, gq, r, hmug, hSm, hFs, hC, NF_order, hr, hor, hP, hS, hl⟩ := hI
          have F_order := NF_order
          have F_m : fvg (rt 51) = .inr (6, fmvg) := hC.2.1
          have I_may : fmvg[35]? = some (.int (nI mm)) := (hFs.2 35 (by decide)).trans I_may
          have I_spots : fmvg[39]? = some (.int (nI sp)) := (hFs.2 39 (by decide)).trans I_spots
          have hD : va_D A (va_pl L fvg) := g_D hLn (fun a h => by rw [← hAe]; exact h) fvg
          refine lv_iload hx hb dX6_reckon_112 (lv_at hl 3 rfl) ?_
          refine lv_if_le (tgt := 167) hx hb dX6_reckon_114 (by decide) (fun c_7 => ?_) (fun c_7 => ?_)
          · skip
            have nc_7 : r ≤ 0 := (bn_le (a := r) (b := 0) (by omega) (by omega)).mp (show nI r ≤ nI 0 from c_7)
            exact hEg _ _ _ ⟨fvg, fmvg, _, r, hSm, hFs, hC, F_order, hr, hor, hP, hS, lv_sub hl [0, 1, 2, 3] rfl⟩
          · skip
            have nc_7 : ¬ (r ≤ 0) := fun q => c_7 (show nI r ≤ nI 0 from (bn_le (a := r) (b := 0) (by omega) (by omega)).mpr q)
            refine lv_aload_n hx hb dX6_reckon_117 rfl (lv_at hl 0 rfl) ?_
            refine g_get (ci := 6) (v := .ref (rt 37)) (C := RX6) (T := TX6) (N := 51) hx hb hts uB6 hown hK hP (hC.1.1 51 (by decide)) F_m rfl 37 (by decide) wm_133 (hC.2.2.2 37 (by decide)) dX6_reckon_118 ?_
            refine lv_iconst (v := 4) hx hb dX6_reckon_121 (by decide) ?_
            refine lv_aload_n hx hb dX6_reckon_122 rfl (lv_at hl 0 rfl) ?_
            refine g_get (ci := 6) (v := .ref (rt 47)) (C := RX6) (T := TX6) (N := 51) hx hb hts uB6 hown hK hP (hC.1.1 51 (by decide)) F_m rfl 47 (by decide) wm_132 (hC.2.2.2 47 (by decide)) dX6_reckon_123 ?_
            refine lv_iload hx hb dX6_reckon_126 (lv_at hl 3 rfl) ?_
            refine lv_iconst (v := 1) hx hb dX6_reckon_128 (by decide) ?_
            refine lv_isub hx hb dX6_reckon_129 ?_
            refine lv_topi (fun x_8 ex_8 => ?_)
            obtain rfl : x_8 = nI (r - 1) := ex_8.trans (pk_sub (a := r) (b := 1) (by omega))
            refine g_iald hx hb hK hP (hC.1.1 47 (by decide)) F_order (vp_in_nI (by omega) (by decide)) dX6_reckon_130 ?_
            refine lv_topi (fun x_9 ex_9 => ?_)
            rw [nI_clamp (by omega)] at ex_9
            obtain ⟨q9, hq9, hqe⟩ := hor (r - 1) (by omega) (by omega)
            obtain rfl : x_9 = nI (q9) := ex_9.trans hqe
            refine lv_imul hx hb dX6_reckon_131 ?_
            refine lv_topi (fun x_10 ex_10 => ?_)
            obtain rfl : x_10 = nI (4 * q9) := ex_10.trans (pk_mul 4 q9)
            refine g_lald hx hb hK hP (hC.1.1 37 (by decide)) ((hSm.at hC.1 (by decide) (by decide)).trans ((hSmg.at hC.1 (by decide) (by decide)).trans ((hSmd.at hC.1 (by decide) (by decide)).trans F_worth))) (vp_in_nI (by omega) (by decide)) dX6_reckon_132 ?_
            refine lv_topl (fun x_11 ex_11 => ?_)
            rw [nI_clamp (by omega)] at ex_11
            obtain ⟨hwe, hwb⟩ := hw q9 0 (by omega) (by omega)
            obtain rfl : x_11 = lN (wn q9 0) := ex_11.trans (Eq.trans (congrArg g_worth (by omega)) hwe)
            refine lv_aload_n hx hb dX6_reckon_133 rfl (lv_at hl 0 rfl) ?_
            refine g_get (ci := 6) (v := .ref (rt 37)) (C := RX6) (T := TX6) (N := 51) hx hb hts uB6 hown hK hP (hC.1.1 51 (by decide)) F_m rfl 37 (by decide) wm_133 (hC.2.2.2 37 (by decide)) dX6_reckon_134 ?_
            refine lv_iconst (v := 4) hx hb dX6_reckon_137 (by decide) ?_
            refine lv_iload_n hx hb dX6_reckon_138 rfl (lv_at hl 2 rfl) ?_
            refine lv_imul hx hb dX6_reckon_139 ?_
            refine lv_topi (fun x_12 ex_12 => ?_)
            obtain rfl : x_12 = nI (4 * j) := ex_12.trans (pk_mul 4 j)
            refine g_lald hx hb hK hP (hC.1.1 37 (by decide)) ((hSm.at hC.1 (by decide) (by decide)).trans ((hSmg.at hC.1 (by decide) (by decide)).trans ((hSmd.at hC.1 (by decide) (by decide)).trans F_worth))) (vp_in_nI (by omega) (by decide)) dX6_reckon_140 ?_
            refine lv_topl (fun x_13 ex_13 => ?_)
            rw [nI_clamp (by omega)] at ex_13
            obtain ⟨hwe, hwb⟩ := hw j 0 (by omega) (by omega)
            obtain rfl : x_13 = lN (wn j 0) := ex_13.trans (Eq.trans (congrArg g_worth (by omega)) hwe)
            refine W.lcmp hx hb dX6_reckon_141 ?_
            refine lv_topi (fun x_14 ex_14 => ?_)
            refine lv_if_ge (tgt := 167) hx hb dX6_reckon_142 (by decide) (fun c_15 => ?_) (fun c_15 => ?_)
            · skip
              have nc_15 : (wn j 0) ≤ (wn q9 0) := (bl_ge (a := (wn q9 0)) (b := (wn j 0)) (by omega) (by omega) ex_14).mp c_15
              exact hEg _ _ _ ⟨fvg, fmvg, _, r, hSm, hFs, hC, F_order, hr, hor, hP, hS, lv_sub hl [0, 1, 2, 3] rfl⟩
            · skip
              have nc_15 : ¬ ((wn j 0) ≤ (wn q9 0)) := fun q => c_15 ((bl_ge (a := (wn q9 0)) (b := (wn j 0)) (by omega) (by omega) ex_14).mpr q)
              refine lv_aload_n hx hb dX6_reckon_145 rfl (lv_at hl 0 rfl) ?_
              refine g_get (ci := 6) (v := .ref (rt 47)) (C := RX6) (T := TX6) (N := 51) hx hb hts uB6 hown hK hP (hC.1.1 51 (by decide)) F_m rfl 47 (by decide) wm_132 (hC.2.2.2 47 (by decide)) dX6_reckon_146 ?_
              refine lv_iload hx hb dX6_reckon_149 (lv_at hl 3 rfl) ?_
              refine lv_aload_n hx hb dX6_reckon_151 rfl (lv_at hl 0 rfl) ?_
              refine g_get (ci := 6) (v := .ref (rt 47)) (C := RX6) (T := TX6) (N := 51) hx hb hts uB6 hown hK hP (hC.1.1 51 (by decide)) F_m rfl 47 (by decide) wm_132 (hC.2.2.2 47 (by decide)) dX6_reckon_152 ?_
              refine lv_iload hx hb dX6_reckon_155 (lv_at hl 3 rfl) ?_
              refine lv_iconst (v := 1) hx hb dX6_reckon_157 (by decide) ?_
              refine lv_isub hx hb dX6_reckon_158 ?_
              refine lv_topi (fun x_16 ex_16 => ?_)
              obtain rfl : x_16 = nI (r - 1) := ex_16.trans (pk_sub (a := r) (b := 1) (by omega))
              refine g_iald hx hb hK hP (hC.1.1 47 (by decide)) F_order (vp_in_nI (by omega) (by decide)) dX6_reckon_159 ?_
              refine lv_topi (fun x_17 ex_17 => ?_)
              rw [nI_clamp (by omega)] at ex_17
              obtain ⟨q9, hq9, hqe⟩ := hor (r - 1) (by omega) (by omega)
              obtain rfl : x_17 = nI (q9) := ex_17.trans hqe
              refine g_iast hx hb hK hP hD hS (hC.1.1 47 (by decide)) F_order (vp_in_nI (by omega) (by decide)) dX6_reckon_160 (fun H locs hP hD hS => ?_)
              obtain ⟨g_18, eg_18⟩ : ∃ z9, z9 = upd gq (Int32.toNatClampNeg (nI r)) (nI q9) := ⟨_, rfl⟩
              rw [← eg_18] at hP hD
              obtain ⟨f_19, ef_19⟩ : ∃ z9, z9 = va_up fvg (rt 47) (.inl (K 0, 40, .inl g_18)) := ⟨_, rfl⟩
              rw [← ef_19] at hP hD
              have F_m : f_19 (rt 51) = .inr (6, fmvg) := by rw [ef_19, va_up_ne _ _ (fun q => absurd (hC.1.2 51 (by decide) 47 (by decide) q) (by decide))]; exact F_m
              have F_order : f_19 (rt 47) = .inl (K 0, 40, .inl g_18) := by rw [ef_19, va_up_self]
              have hC : mC rt L f_19 fmvg := ⟨hC.1, F_m, hC.2.2.1, hC.2.2.2⟩
              have hSm : gSm rt [47] fvd f_19 := by rw [ef_19]; exact hSm.up (by decide) _
              rw [nI_clamp (by omega)] at eg_18
              obtain ⟨x_20, ex_20⟩ : ∃ y : Int32, y = (nI r) + (-1) := ⟨_, rfl⟩
              refine lv_iinc (v := x_20) (lv' := [(4, .int x_20), (0, .ref (rt 51)), (2, .int (nI j)), (3, .int (nI j))]) hx hb dX6_reckon_161 hl (k := 3) rfl (by rw [ex_20]; rfl) (by decide) rfl (fun ls hl => ?_)
              refine lv_goto (tgt := 112) hx hb dX6_reckon_164 (by decide) ?_
              obtain rfl : x_20 = nI (r - 1) := ex_20.trans (by rw [← Int32.sub_eq_add_neg]; exact pk_sub (a := r) (b := 1) (by omega))
              have hor2 : ∀ t, t ≤ j → ¬ t = r - 1 → ∃ q : Nat, q < mm ∧ g_18 t = nI q := fun t ht hn => by
                by_cases hk : t = r
                · rw [hk, eg_18, pk_us]; exact ⟨q9, hq9, rfl⟩
                · rw [eg_18, pk_un hk]; exact hor t ht hk
              exact ihg _ (by omega) _ _ _ ⟨f_19, fmvg, _, (r - 1), rfl, hSm, hFs, hC, F_order, by omega, hor2, hP, hS, lv_sub hl [1, 2, 3, 0] rfl⟩
  · skip
    obtain ⟨fva, fmva, gm, n1, ma, hmua, hSm, hFs, hC, NF_mostAt, hn1, hma, hP, hS, hl⟩ := hI
    have F_mostAt := NF_mostAt
    have F_m : fva (rt 51) = .inr (6, fmva) := hC.2.1
    have I_may : fmva[35]? = some (.int (nI mm)) := (hFs.2 35 (by decide)).trans I_may
    have I_spots : fmva[39]? = some (.int (nI sp)) := (hFs.2 39 (by decide)).trans I_spots
    have hD : va_D A (va_pl L fva) := g_D hLn (fun a h => by rw [← hAe]; exact h) fva
    rcases Nat.eq_zero_or_pos n1 with hz | hz
    · skip
      subst hz
      rw [show nI 0 - 1 = (-1 : Int32) from by decide] at hl
      refine lv_iload_n hx hb dX6_reckon_17 rfl (lv_at hl 2 rfl) ?_
      refine lv_if_lt (tgt := 97) hx hb dX6_reckon_18 (by decide) (fun _ => ?_) (fun h9 => absurd (by decide) h9)
      exact hEa _ _ _ ⟨fva, fmva, _, 0, ma, hSm, hFs, hC, F_mostAt, hma, hP, hS, lv_sub hl [0, 1, 2] rfl⟩
    · skip
      obtain ⟨nn, rfl⟩ : ∃ z9, n1 = z9 + 1 := ⟨n1 - 1, by omega⟩
      rw [nI_pred] at hl
      refine lv_iload_n hx hb dX6_reckon_17 rfl (lv_at hl 2 rfl) ?_
      refine lv_if_lt (tgt := 97) hx hb dX6_reckon_18 (by decide) (fun c_21 => ?_) (fun c_21 => ?_)
      · skip
        have nc_21 : nn < 0 := (bn_lt (a := nn) (b := 0) (by omega) (by omega)).mp (show nI nn < nI 0 from c_21)
        exact (show False by omega).elim
      · skip
        have nc_21 : ¬ (nn < 0) := fun q => c_21 (show nI nn < nI 0 from (bn_lt (a := nn) (b := 0) (by omega) (by omega)).mpr q)
        refine lv_lconst (v := 0) hx hb dX6_reckon_21 rfl ?_
        refine lv_lstore_n (lv' := [(3, .long 0), (0, .ref (rt 51)), (1, .int wo), (2, .int (nI nn))]) hx hb dX6_reckon_22 rfl hl (by decide) rfl (fun ls hl => ?_)
        refine lv_iconst (v := 0) hx hb dX6_reckon_23 (by decide) ?_
        refine lv_istore (lv' := [(5, .int 0), (3, .long 0), (0, .ref (rt 51)), (1, .int wo), (2, .int (nI nn))]) hx hb dX6_reckon_24 hl (by decide) rfl (fun ls hl => ?_)
        have hSmb := hSm
        have hFsb := hFs
        refine k_lx (pcx := 75) (fun n H locs ls => ∃ (fvb : Nat → va_E) (fmvb : List Value) (j : Nat) (q8 : Nat), mm - j = n ∧ gSm rt [] fva fvb ∧ fmS [] fmva fmvb ∧ mC rt L fvb fmvb ∧ (j ≤ mm) ∧ (q8 ≤ 1272270000000) ∧ (∀ i, i < j → ¬ nI i = wo → wn i nn ≤ q8) ∧ va_P (dC, dI) vwCl (va_pl L fvb) H ∧ va_S A s.heap H locs ∧ lv_has ls 6 [(0, .ref (rt 51)), (1, .int wo), (2, .int (nI nn)), (3, .long (lN q8)), (5, .int (nI j))]) (fun H locs ls => ∃ (fvb : Nat → va_E) (fmvb : List Value) (j : Nat) (q8 : Nat), gSm rt [] fva fvb ∧ fmS [] fmva fmvb ∧ mC rt L fvb fmvb ∧ (q8 ≤ 1272270000000) ∧ (∀ i, i < mm → ¬ nI i = wo → wn i nn ≤ q8) ∧ va_P (dC, dI) vwCl (va_pl L fvb) H ∧ va_S A s.heap H locs ∧ lv_has ls 6 [(0, .ref (rt 51)), (1, .int wo), (2, .int (nI nn)), (3, .long (lN q8)), (5, .int (nI j))]) (fun H locs ls hI => ?_) (fun n H locs ls hI hEb ihb => ?_) _ _ _ _ ⟨fva, fmva, 0, 0, rfl, gSm.rf, fmS.rf, hC, Nat.zero_le _, Nat.zero_le _, fun i hi => absurd hi (Nat.not_lt_zero i), hP, hS, lv_sub hl [2, 3, 4, 1, 0] rfl⟩
        · skip
          obtain ⟨fvb, fmvb, j, q8, hSm, hFs, hC, hq8b, hq8, hP, hS, hl⟩ := hI
          have F_mostAt : fvb (rt 38) = .inl (K 1, 5, .inr (.inl gm)) := (hSm.at hC.1 (by decide) (by decide)).trans F_mostAt
          have F_m : fvb (rt 51) = .inr (6, fmvb) := hC.2.1
          have I_may : fmvb[35]? = some (.int (nI mm)) := (hFs.2 35 (by decide)).trans I_may
          have I_spots : fmvb[39]? = some (.int (nI sp)) := (hFs.2 39 (by decide)).trans I_spots
          have hD : va_D A (va_pl L fvb) := g_D hLn (fun a h => by rw [← hAe]; exact h) fvb
          have hSmLb := hSm
          have hSm : gSm rt [38] f_2 fvb := hSmb.tr hSm (by decide) (by decide)
          have hFs : fmS [] fm fmvb := hFsb.tr hFs (by decide) (by decide)
          refine lv_aload_n hx hb dX6_reckon_75 rfl (lv_at hl 0 rfl) ?_
          refine g_get (ci := 6) (v := .ref (rt 38)) (C := RX6) (T := TX6) (N := 51) hx hb hts uB6 hown hK hP (hC.1.1 51 (by decide)) F_m rfl 38 (by decide) wm_130 (hC.2.2.2 38 (by decide)) dX6_reckon_76 ?_
          refine lv_iload_n hx hb dX6_reckon_79 rfl (lv_at hl 2 rfl) ?_
          refine lv_aload_n hx hb dX6_reckon_80 rfl (lv_at hl 0 rfl) ?_
          refine g_get (ci := 6) (v := .ref (rt 38)) (C := RX6) (T := TX6) (N := 51) hx hb hts uB6 hown hK hP (hC.1.1 51 (by decide)) F_m rfl 38 (by decide) wm_130 (hC.2.2.2 38 (by decide)) dX6_reckon_81 ?_
          refine lv_iload_n hx hb dX6_reckon_84 rfl (lv_at hl 2 rfl) ?_
          refine lv_iconst (v := 1) hx hb dX6_reckon_85 (by decide) ?_
          refine lv_iadd hx hb dX6_reckon_86 ?_
          refine lv_topi (fun x_22 ex_22 => ?_)
          obtain rfl : x_22 = nI (nn + 1) := ex_22.trans (nI_add nn 1)
          refine g_lald hx hb hK hP (hC.1.1 38 (by decide)) F_mostAt (vp_in_nI (by omega) (by decide)) dX6_reckon_87 ?_
          refine lv_topl (fun x_23 ex_23 => ?_)
          rw [nI_clamp (by omega)] at ex_23
          obtain ⟨hme, hmb⟩ := hma.1 (nn + 1) (by omega) (by omega)
          obtain rfl : x_23 = lN (ma (nn + 1)) := ex_23.trans hme
          refine lv_lload_n hx hb dX6_reckon_88 rfl (lv_at hl 3 rfl) ?_
          refine lv_ladd hx hb dX6_reckon_89 ?_
          refine lv_topl (fun x_24 ex_24 => ?_)
          obtain rfl : x_24 = lN ((ma (nn + 1)) + q8) := ex_24.trans (lN_add (ma (nn + 1)) q8)
          refine g_last hx hb hK hP hD hS (hC.1.1 38 (by decide)) F_mostAt (vp_in_nI (by omega) (by decide)) dX6_reckon_90 (fun H locs hP hD hS => ?_)
          obtain ⟨g_25, eg_25⟩ : ∃ z9, z9 = vp_updL gm (Int32.toNatClampNeg (nI nn)) (lN ((ma (nn + 1)) + q8)) := ⟨_, rfl⟩
          rw [← eg_25] at hP hD
          obtain ⟨f_26, ef_26⟩ : ∃ z9, z9 = va_up fvb (rt 38) (.inl (K 1, 5, .inr (.inl g_25))) := ⟨_, rfl⟩
          rw [← ef_26] at hP hD
          have F_m : f_26 (rt 51) = .inr (6, fmvb) := by rw [ef_26, va_up_ne _ _ (fun q => absurd (hC.1.2 51 (by decide) 38 (by decide) q) (by decide))]; exact F_m
          have F_mostAt : f_26 (rt 38) = .inl (K 1, 5, .inr (.inl g_25)) := by rw [ef_26, va_up_self]
          have hC : mC rt L f_26 fmvb := ⟨hC.1, F_m, hC.2.2.1, hC.2.2.2⟩
          have hSm : gSm rt [38] f_2 f_26 := by rw [ef_26]; exact hSm.up (by decide) _
          rw [nI_clamp (by omega)] at eg_25
          obtain ⟨x_27, ex_27⟩ : ∃ y : Int32, y = (nI nn) + (-1) := ⟨_, rfl⟩
          refine lv_iinc (v := x_27) (lv' := [(2, .int x_27), (0, .ref (rt 51)), (1, .int wo), (3, .long (lN q8)), (5, .int (nI j))]) hx hb dX6_reckon_91 hl (k := 2) rfl (by rw [ex_27]; rfl) (by decide) rfl (fun ls hl => ?_)
          refine lv_goto (tgt := 17) hx hb dX6_reckon_94 (by decide) ?_
          obtain rfl : x_27 = nI nn - 1 := ex_27.trans (by rw [Int32.sub_eq_add_neg])
          obtain ⟨mb, emb⟩ : ∃ z9 : Nat → Nat, z9 = fun k => if k = nn then ma (nn + 1) + q8 else ma k := ⟨_, rfl⟩
          have hmb1 : ∀ k, ¬ k = nn → mb k = ma k := fun k h => by rw [emb]; exact if_neg h
          have hmb2 : mb nn = ma (nn + 1) + q8 := by rw [emb]; exact if_pos rfl
          have hma2 : (∀ k, nn ≤ k → k ≤ sp → g_25 k = lN (mb k) ∧ mb k ≤ (sp - k) * 1272270000000) ∧ mb sp = 0 ∧ (∀ k, nn ≤ k → k < sp → mb (k + 1) ≤ mb k ∧ ∀ i, i < mm → ¬ nI i = wo → mb (k + 1) + wn i k ≤ mb k) := by
            refine ⟨fun k h1 h2 => ?_, by rw [hmb1 _ (by omega)]; exact hma.2.1, fun k h1 h2 => ?_⟩
            · by_cases hk : k = nn
              · subst hk; rw [hmb2, eg_25, pk_uLs]
                have h8 := (hma.1 (k + 1) (by omega) (by omega)).2
                have h9 : (sp - k) * 1272270000000 = (sp - (k + 1)) * 1272270000000 + 1272270000000 := by rw [show sp - k = (sp - (k + 1)) + 1 by omega, Nat.add_mul, Nat.one_mul]
                exact ⟨rfl, by omega⟩
              · rw [hmb1 k hk, eg_25, pk_uLn hk]; exact hma.1 k (by omega) h2
            · by_cases hk : k = nn
              · subst hk; rw [hmb2, hmb1 (k + 1) (by omega)]; exact ⟨by omega, fun i hi hn => by have := hq8 i hi hn; omega⟩
              · rw [hmb1 k hk, hmb1 (k + 1) (by omega)]; exact hma.2.2 k (by omega) h2
          exact iha _ (by omega) _ _ _ ⟨f_26, fmvb, _, nn, mb, rfl, hSm, hFs, hC, F_mostAt, by omega, hma2, hP, hS, lv_sub hl [1, 2, 0] rfl⟩
        · skip
          obtain ⟨fvb, fmvb, j, q8, hmub, hSm, hFs, hC, hj, hq8b, hq8, hP, hS, hl⟩ := hI
          have F_m : fvb (rt 51) = .inr (6, fmvb) := hC.2.1
          have I_may : fmvb[35]? = some (.int (nI mm)) := (hFs.2 35 (by decide)).trans I_may
          have I_spots : fmvb[39]? = some (.int (nI sp)) := (hFs.2 39 (by decide)).trans I_spots
          have hD : va_D A (va_pl L fvb) := g_D hLn (fun a h => by rw [← hAe]; exact h) fvb
          refine lv_iload hx hb dX6_reckon_26 (lv_at hl 4 rfl) ?_
          refine lv_aload_n hx hb dX6_reckon_28 rfl (lv_at hl 0 rfl) ?_
          refine g_get (ci := 6) (v := .int (nI mm)) (C := RX6) (T := TX6) (N := 51) hx hb hts uB6 hown hK hP (hC.1.1 51 (by decide)) F_m rfl 35 (by decide) wm_63 I_may dX6_reckon_29 ?_
          refine lv_icmp_ge (tgt := 75) hx hb dX6_reckon_32 (by decide) (fun c_28 => ?_) (fun c_28 => ?_)
          · skip
            have nc_28 : mm ≤ j := (bn_le (a := mm) (b := j) (by omega) (by omega)).mp (show nI mm ≤ nI j from c_28)
            exact hEb _ _ _ ⟨fvb, fmvb, j, q8, hSm, hFs, hC, hq8b, (fun i hi hn => hq8 i (by omega) hn), hP, hS, lv_sub hl [0, 1, 2, 3, 4] rfl⟩
          · skip
            have nc_28 : ¬ (mm ≤ j) := fun q => c_28 (show nI mm ≤ nI j from (bn_le (a := mm) (b := j) (by omega) (by omega)).mpr q)
            refine lv_iload hx hb dX6_reckon_35 (lv_at hl 4 rfl) ?_
            refine lv_iload_n hx hb dX6_reckon_37 rfl (lv_at hl 1 rfl) ?_
            refine lv_icmp_eq (tgt := 69) hx hb dX6_reckon_38 (by decide) (fun c_29 => ?_) (fun c_29 => ?_)
            · skip
              have hwo : nI j = wo := c_29
              refine lv_iinc (v := nI (j + 1)) (lv' := [(5, .int (nI (j + 1))), (0, .ref (rt 51)), (1, .int wo), (2, .int (nI nn)), (3, .long (lN q8))]) hx hb dX6_reckon_69 hl (k := 4) rfl (by exact nI_1 _) (by decide) rfl (fun ls hl => ?_)
              refine lv_goto (tgt := 26) hx hb dX6_reckon_72 (by decide) ?_
              have hq82 : ∀ i, i < j + 1 → ¬ nI i = wo → wn i nn ≤ q8 := by
                intro i hi hn
                rcases Nat.lt_or_ge i j with h9 | h9
                · have := hq8 i h9 hn; omega
                · obtain rfl : i = j := by omega
                  first | exact absurd hwo hn | omega
              exact ihb _ (by omega) _ _ _ ⟨fvb, fmvb, (j + 1), q8, rfl, hSm, hFs, hC, by omega, by omega, hq82, hP, hS, lv_sub hl [1, 2, 3, 4, 0] rfl⟩
            · skip
              refine lv_aload_n hx hb dX6_reckon_41 rfl (lv_at hl 0 rfl) ?_
              refine g_get (ci := 6) (v := .ref (rt 37)) (C := RX6) (T := TX6) (N := 51) hx hb hts uB6 hown hK hP (hC.1.1 51 (by decide)) F_m rfl 37 (by decide) wm_133 (hC.2.2.2 37 (by decide)) dX6_reckon_42 ?_
              refine lv_iconst (v := 4) hx hb dX6_reckon_45 (by decide) ?_
              refine lv_iload hx hb dX6_reckon_46 (lv_at hl 4 rfl) ?_
              refine lv_imul hx hb dX6_reckon_48 ?_
              refine lv_topi (fun x_30 ex_30 => ?_)
              obtain rfl : x_30 = nI (4 * j) := ex_30.trans (pk_mul 4 j)
              refine lv_iload_n hx hb dX6_reckon_49 rfl (lv_at hl 2 rfl) ?_
              refine lv_iadd hx hb dX6_reckon_50 ?_
              refine lv_topi (fun x_31 ex_31 => ?_)
              obtain rfl : x_31 = nI ((4 * j) + nn) := ex_31.trans (nI_add (4 * j) nn)
              refine g_lald hx hb hK hP (hC.1.1 37 (by decide)) ((hSm.at hC.1 (by decide) (by decide)).trans ((hSmb.at hC.1 (by decide) (by decide)).trans ((hSma.at hC.1 (by decide) (by decide)).trans F_worth))) (vp_in_nI (by omega) (by decide)) dX6_reckon_51 ?_
              refine lv_topl (fun x_32 ex_32 => ?_)
              rw [nI_clamp (by omega)] at ex_32
              obtain ⟨hwe, hwb⟩ := hw j nn (by omega) (by omega)
              obtain rfl : x_32 = lN (wn j nn) := ex_32.trans (Eq.trans (congrArg g_worth (by omega)) hwe)
              refine lv_lload_n hx hb dX6_reckon_52 rfl (lv_at hl 3 rfl) ?_
              refine W.lcmp hx hb dX6_reckon_53 ?_
              refine lv_topi (fun x_33 ex_33 => ?_)
              refine lv_if_le (tgt := 69) hx hb dX6_reckon_54 (by decide) (fun c_34 => ?_) (fun c_34 => ?_)
              · skip
                have nc_34 : (wn j nn) ≤ q8 := (bl_le (a := (wn j nn)) (b := q8) (by omega) (by omega) ex_33).mp c_34
                refine lv_iinc (v := nI (j + 1)) (lv' := [(5, .int (nI (j + 1))), (0, .ref (rt 51)), (1, .int wo), (2, .int (nI nn)), (3, .long (lN q8))]) hx hb dX6_reckon_69 hl (k := 4) rfl (by exact nI_1 _) (by decide) rfl (fun ls hl => ?_)
                refine lv_goto (tgt := 26) hx hb dX6_reckon_72 (by decide) ?_
                have hq82 : ∀ i, i < j + 1 → ¬ nI i = wo → wn i nn ≤ q8 := by
                  intro i hi hn
                  rcases Nat.lt_or_ge i j with h9 | h9
                  · have := hq8 i h9 hn; omega
                  · obtain rfl : i = j := by omega
                    first | exact absurd hwo hn | omega
                exact ihb _ (by omega) _ _ _ ⟨fvb, fmvb, (j + 1), q8, rfl, hSm, hFs, hC, by omega, by omega, hq82, hP, hS, lv_sub hl [1, 2, 3, 4, 0] rfl⟩
              · skip
                have nc_34 : ¬ ((wn j nn) ≤ q8) := fun q => c_34 ((bl_le (a := (wn j nn)) (b := q8) (by omega) (by omega) ex_33).mpr q)
                refine lv_aload_n hx hb dX6_reckon_57 rfl (lv_at hl 0 rfl) ?_
                refine g_get (ci := 6) (v := .ref (rt 37)) (C := RX6) (T := TX6) (N := 51) hx hb hts uB6 hown hK hP (hC.1.1 51 (by decide)) F_m rfl 37 (by decide) wm_133 (hC.2.2.2 37 (by decide)) dX6_reckon_58 ?_
                refine lv_iconst (v := 4) hx hb dX6_reckon_61 (by decide) ?_
                refine lv_iload hx hb dX6_reckon_62 (lv_at hl 4 rfl) ?_
                refine lv_imul hx hb dX6_reckon_64 ?_
                refine lv_topi (fun x_35 ex_35 => ?_)
                obtain rfl : x_35 = nI (4 * j) := ex_35.trans (pk_mul 4 j)
                refine lv_iload_n hx hb dX6_reckon_65 rfl (lv_at hl 2 rfl) ?_
                refine lv_iadd hx hb dX6_reckon_66 ?_
                refine lv_topi (fun x_36 ex_36 => ?_)
                obtain rfl : x_36 = nI ((4 * j) + nn) := ex_36.trans (nI_add (4 * j) nn)
                refine g_lald hx hb hK hP (hC.1.1 37 (by decide)) ((hSm.at hC.1 (by decide) (by decide)).trans ((hSmb.at hC.1 (by decide) (by decide)).trans ((hSma.at hC.1 (by decide) (by decide)).trans F_worth))) (vp_in_nI (by omega) (by decide)) dX6_reckon_67 ?_
                refine lv_topl (fun x_37 ex_37 => ?_)
                rw [nI_clamp (by omega)] at ex_37
                obtain ⟨hwe, hwb⟩ := hw j nn (by omega) (by omega)
                obtain rfl : x_37 = lN (wn j nn) := ex_37.trans (Eq.trans (congrArg g_worth (by omega)) hwe)
                refine lv_lstore_n (lv' := [(3, .long (lN (wn j nn))), (0, .ref (rt 51)), (1, .int wo), (2, .int (nI nn)), (5, .int (nI j))]) hx hb dX6_reckon_68 rfl hl (by decide) rfl (fun ls hl => ?_)
                refine lv_iinc (v := nI (j + 1)) (lv' := [(5, .int (nI (j + 1))), (3, .long (lN (wn j nn))), (0, .ref (rt 51)), (1, .int wo), (2, .int (nI nn))]) hx hb dX6_reckon_69 hl (k := 4) rfl (by exact nI_1 _) (by decide) rfl (fun ls hl => ?_)
                refine lv_goto (tgt := 26) hx hb dX6_reckon_72 (by decide) ?_
                have hq82 : ∀ i, i < j + 1 → ¬ nI i = wo → wn i nn ≤ (wn j nn) := by
                  intro i hi hn
                  rcases Nat.lt_or_ge i j with h9 | h9
                  · have := hq8 i h9 hn; omega
                  · obtain rfl : i = j := by omega
                    first | exact absurd hwo hn | omega
                exact ihb _ (by omega) _ _ _ ⟨fvb, fmvb, (j + 1), (wn j nn), rfl, hSm, hFs, hC, by omega, by omega, hq82, hP, hS, lv_sub hl [2, 3, 4, 1, 0] rfl⟩
