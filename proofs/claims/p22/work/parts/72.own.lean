theorem k_isx {x : Int32} {n : Nat} (hn : n ≤ 1000) : (0 ≤ x ∧ x ≤ nI n - 1) ↔ (¬ x < 0 ∧ ¬ nI n ≤ x) := by
  constructor
  · intro h
    obtain ⟨q, hq, rfl⟩ := k_ix h hn
    exact ⟨nI_pos (by omega), fun z => by have := (nI_leI (a := n) (b := q) (by omega) (by omega)).mp z; omega⟩
  · intro h
    obtain ⟨j, hj, rfl⟩ := nI_of h.1
    have h2 : j < n := by
      rcases Nat.lt_or_ge j n with q | q
      · exact q
      · exact absurd (nI_le q hj) h.2
    obtain ⟨n9, rfl⟩ : ∃ n9, n = n9 + 1 := ⟨n - 1, by omega⟩
    rw [nI_pred]
    exact ⟨nI_pos' hj, nI_le (by omega) (by omega)⟩
set_option maxHeartbeats 4000000 in
set_option maxRecDepth 100000 in
theorem k_X5_isPage (l : Launch) (dC : Nat → ClassId) (dI : Nat → Nat → Nat) (K : Nat → ClassId) (L : List Nat) (f : Nat → va_E) {np nc ns lk lc tp cp gp : Nat} {G J mk st : Nat → Int32} {ap : Nat → Int64} {kd sn : Nat → Nat} (hI : cI K np nc ns lk lc tp cp gp G J mk st ap kd sn L f) (h0 : Nat) (hm_h0 : h0 ∈ L) (hk_h0 : kd h0 = 1) (x : Int32) (hg7 : G 7 = nI np) (hnp : np ≤ 8) : gR l yX5_isPage cX5_isPage 2 .boolean 0 (dC, dI) K L f [.ref h0, .int x] (fun r => (r = if 0 ≤ x ∧ x ≤ nI np - 1 then 1 else 0)) := by
  refine Met.ofW (cc := cX5_isPage) (maxL := 2) (ret := some .boolean) (by decide) rfl ?_
  intro p e s m args below meth c s₁ B hml hv
  obtain ⟨rfl, hP, hK⟩ := hv
  have hx := B.exec
  have hb := B.bytes
  have hr := B.returns
  have hlocks := B.notSynchronized
  have hts0 := atoms_spec (ws := Cond.code yX5_isPage cX5_isPage 2 (some .boolean) :: lw_B) B.pre
  have hts : ∀ w ∈ lw_B, w.before _ s = true := fun w h => hts0 w (List.mem_cons_of_mem _ h)
  have hown : s.vm.findClass RX5 = some m.cls := findClass_of_methodNamed B.named
  have hS : va_S (fun _ => False) s.heap s.heap [] := va_S.rf
  have hl := lv_entry ([.ref h0, .int x]) (n := 2) (Nat.le_of_ble_eq_true rfl)
  rw [lg_entry_eq]
  generalize (lg_sl ([.ref h0, .int x]) ++ List.replicate (2 - (lg_sl ([.ref h0, .int x])).length) Slot.unset).toArray = ls at hl ⊢
  have hl : lv_has ls 2 [(0, .ref h0), (1, .int x)] := hl
  refine lv_iload_n hx hb dX5_isPage_0 rfl (lv_at hl 1 rfl) ?_
  refine lv_if_lt (tgt := 16) hx hb dX5_isPage_1 (by decide) (fun c_1 => ?_) (fun c_1 => ?_)
  · skip
    refine lv_iconst (v := 0) hx hb dX5_isPage_16 (by decide) ?_
    exact W.zret (v := 0) hx hb hr rfl (fun t ht hW => ⟨⟨0, (), rfl, (if_neg (fun q => ((k_isx (by omega)).mp q).1 c_1)).symm, trivial⟩, hS.F ht⟩) hS.2.2 dX5_isPage_17
  · skip
    refine lv_iload_n hx hb dX5_isPage_4 rfl (lv_at hl 1 rfl) ?_
    refine lv_aload_n hx hb dX5_isPage_5 rfl (lv_at hl 0 rfl) ?_
    obtain ⟨fs2, hF2, hv2⟩ := hI.gG hm_h0 hk_h0 7 (ci := 5) ⟨rfl, rfl, by decide, rfl⟩
    rw [hg7] at hv2
    refine g_get (ci := 5) (v := .int (nI np)) (C := RX5) (T := TX5) (N := 17) hx hb hts uB5 hown hK hP hm_h0 hF2 rfl 7 (by decide) wm_72 hv2 dX5_isPage_6 ?_
    refine lv_icmp_ge (tgt := 16) hx hb dX5_isPage_9 (by decide) (fun c_3 => ?_) (fun c_3 => ?_)
    · skip
      refine lv_iconst (v := 0) hx hb dX5_isPage_16 (by decide) ?_
      exact W.zret (v := 0) hx hb hr rfl (fun t ht hW => ⟨⟨0, (), rfl, (if_neg (fun q => ((k_isx (by omega)).mp q).2 c_3)).symm, trivial⟩, hS.F ht⟩) hS.2.2 dX5_isPage_17
    · skip
      refine lv_iconst (v := 1) hx hb dX5_isPage_12 (by decide) ?_
      refine lv_goto (tgt := 17) hx hb dX5_isPage_13 (by decide) ?_
      exact W.zret (v := 1) hx hb hr rfl (fun t ht hW => ⟨⟨1, (), rfl, (if_pos ((k_isx (by omega)).mpr ⟨c_1, c_3⟩)).symm, trivial⟩, hS.F ht⟩) hS.2.2 dX5_isPage_17
set_option maxHeartbeats 4000000 in
set_option maxRecDepth 100000 in
theorem k_X5_isCampaign (l : Launch) (dC : Nat → ClassId) (dI : Nat → Nat → Nat) (K : Nat → ClassId) (L : List Nat) (f : Nat → va_E) {np nc ns lk lc tp cp gp : Nat} {G J mk st : Nat → Int32} {ap : Nat → Int64} {kd sn : Nat → Nat} (hI : cI K np nc ns lk lc tp cp gp G J mk st ap kd sn L f) (h0 : Nat) (hm_h0 : h0 ∈ L) (hk_h0 : kd h0 = 1) (x : Int32) (hg8 : G 8 = nI nc) (hnc : nc ≤ 40) : gR l yX5_isCampaign cX5_isCampaign 2 .boolean 0 (dC, dI) K L f [.ref h0, .int x] (fun r => (r = if 0 ≤ x ∧ x ≤ nI nc - 1 then 1 else 0)) := by
  refine Met.ofW (cc := cX5_isCampaign) (maxL := 2) (ret := some .boolean) (by decide) rfl ?_
  intro p e s m args below meth c s₁ B hml hv
  obtain ⟨rfl, hP, hK⟩ := hv
  have hx := B.exec
  have hb := B.bytes
  have hr := B.returns
  have hlocks := B.notSynchronized
  have hts0 := atoms_spec (ws := Cond.code yX5_isCampaign cX5_isCampaign 2 (some .boolean) :: lw_B) B.pre
  have hts : ∀ w ∈ lw_B, w.before _ s = true := fun w h => hts0 w (List.mem_cons_of_mem _ h)
  have hown : s.vm.findClass RX5 = some m.cls := findClass_of_methodNamed B.named
  have hS : va_S (fun _ => False) s.heap s.heap [] := va_S.rf
  have hl := lv_entry ([.ref h0, .int x]) (n := 2) (Nat.le_of_ble_eq_true rfl)
  rw [lg_entry_eq]
  generalize (lg_sl ([.ref h0, .int x]) ++ List.replicate (2 - (lg_sl ([.ref h0, .int x])).length) Slot.unset).toArray = ls at hl ⊢
  have hl : lv_has ls 2 [(0, .ref h0), (1, .int x)] := hl
  refine lv_iload_n hx hb dX5_isCampaign_0 rfl (lv_at hl 1 rfl) ?_
  refine lv_if_lt (tgt := 16) hx hb dX5_isCampaign_1 (by decide) (fun c_1 => ?_) (fun c_1 => ?_)
  · skip
    refine lv_iconst (v := 0) hx hb dX5_isCampaign_16 (by decide) ?_
    exact W.zret (v := 0) hx hb hr rfl (fun t ht hW => ⟨⟨0, (), rfl, (if_neg (fun q => ((k_isx (by omega)).mp q).1 c_1)).symm, trivial⟩, hS.F ht⟩) hS.2.2 dX5_isCampaign_17
  · skip
    refine lv_iload_n hx hb dX5_isCampaign_4 rfl (lv_at hl 1 rfl) ?_
    refine lv_aload_n hx hb dX5_isCampaign_5 rfl (lv_at hl 0 rfl) ?_
    obtain ⟨fs2, hF2, hv2⟩ := hI.gG hm_h0 hk_h0 8 (ci := 5) ⟨rfl, rfl, by decide, rfl⟩
    rw [hg8] at hv2
    refine g_get (ci := 5) (v := .int (nI nc)) (C := RX5) (T := TX5) (N := 17) hx hb hts uB5 hown hK hP hm_h0 hF2 rfl 8 (by decide) wm_73 hv2 dX5_isCampaign_6 ?_
    refine lv_icmp_ge (tgt := 16) hx hb dX5_isCampaign_9 (by decide) (fun c_3 => ?_) (fun c_3 => ?_)
    · skip
      refine lv_iconst (v := 0) hx hb dX5_isCampaign_16 (by decide) ?_
      exact W.zret (v := 0) hx hb hr rfl (fun t ht hW => ⟨⟨0, (), rfl, (if_neg (fun q => ((k_isx (by omega)).mp q).2 c_3)).symm, trivial⟩, hS.F ht⟩) hS.2.2 dX5_isCampaign_17
    · skip
      refine lv_iconst (v := 1) hx hb dX5_isCampaign_12 (by decide) ?_
      refine lv_goto (tgt := 17) hx hb dX5_isCampaign_13 (by decide) ?_
      exact W.zret (v := 1) hx hb hr rfl (fun t ht hW => ⟨⟨1, (), rfl, (if_pos ((k_isx (by omega)).mpr ⟨c_1, c_3⟩)).symm, trivial⟩, hS.F ht⟩) hS.2.2 dX5_isCampaign_17
set_option maxHeartbeats 4000000 in
set_option maxRecDepth 100000 in
theorem k_X5_isSale (l : Launch) (dC : Nat → ClassId) (dI : Nat → Nat → Nat) (K : Nat → ClassId) (L : List Nat) (f : Nat → va_E) {np nc ns lk lc tp cp gp : Nat} {G J mk st : Nat → Int32} {ap : Nat → Int64} {kd sn : Nat → Nat} (hI : cI K np nc ns lk lc tp cp gp G J mk st ap kd sn L f) (h0 : Nat) (hm_h0 : h0 ∈ L) (hk_h0 : kd h0 = 1) (x : Int32) (hg9 : G 9 = nI ns) (hns : ns ≤ 1000) : gR l yX5_isSale cX5_isSale 2 .boolean 0 (dC, dI) K L f [.ref h0, .int x] (fun r => (r = if 0 ≤ x ∧ x ≤ nI ns - 1 then 1 else 0)) := by
  refine Met.ofW (cc := cX5_isSale) (maxL := 2) (ret := some .boolean) (by decide) rfl ?_
  intro p e s m args below meth c s₁ B hml hv
  obtain ⟨rfl, hP, hK⟩ := hv
  have hx := B.exec
  have hb := B.bytes
  have hr := B.returns
  have hlocks := B.notSynchronized
  have hts0 := atoms_spec (ws := Cond.code yX5_isSale cX5_isSale 2 (some .boolean) :: lw_B) B.pre
  have hts : ∀ w ∈ lw_B, w.before _ s = true := fun w h => hts0 w (List.mem_cons_of_mem _ h)
  have hown : s.vm.findClass RX5 = some m.cls := findClass_of_methodNamed B.named
  have hS : va_S (fun _ => False) s.heap s.heap [] := va_S.rf
  have hl := lv_entry ([.ref h0, .int x]) (n := 2) (Nat.le_of_ble_eq_true rfl)
  rw [lg_entry_eq]
  generalize (lg_sl ([.ref h0, .int x]) ++ List.replicate (2 - (lg_sl ([.ref h0, .int x])).length) Slot.unset).toArray = ls at hl ⊢
  have hl : lv_has ls 2 [(0, .ref h0), (1, .int x)] := hl
  refine lv_iload_n hx hb dX5_isSale_0 rfl (lv_at hl 1 rfl) ?_
  refine lv_if_lt (tgt := 16) hx hb dX5_isSale_1 (by decide) (fun c_1 => ?_) (fun c_1 => ?_)
  · skip
    refine lv_iconst (v := 0) hx hb dX5_isSale_16 (by decide) ?_
    exact W.zret (v := 0) hx hb hr rfl (fun t ht hW => ⟨⟨0, (), rfl, (if_neg (fun q => ((k_isx (by omega)).mp q).1 c_1)).symm, trivial⟩, hS.F ht⟩) hS.2.2 dX5_isSale_17
  · skip
    refine lv_iload_n hx hb dX5_isSale_4 rfl (lv_at hl 1 rfl) ?_
    refine lv_aload_n hx hb dX5_isSale_5 rfl (lv_at hl 0 rfl) ?_
    obtain ⟨fs2, hF2, hv2⟩ := hI.gG hm_h0 hk_h0 9 (ci := 5) ⟨rfl, rfl, by decide, rfl⟩
    rw [hg9] at hv2
    refine g_get (ci := 5) (v := .int (nI ns)) (C := RX5) (T := TX5) (N := 17) hx hb hts uB5 hown hK hP hm_h0 hF2 rfl 9 (by decide) wm_74 hv2 dX5_isSale_6 ?_
    refine lv_icmp_ge (tgt := 16) hx hb dX5_isSale_9 (by decide) (fun c_3 => ?_) (fun c_3 => ?_)
    · skip
      refine lv_iconst (v := 0) hx hb dX5_isSale_16 (by decide) ?_
      exact W.zret (v := 0) hx hb hr rfl (fun t ht hW => ⟨⟨0, (), rfl, (if_neg (fun q => ((k_isx (by omega)).mp q).2 c_3)).symm, trivial⟩, hS.F ht⟩) hS.2.2 dX5_isSale_17
    · skip
      refine lv_iconst (v := 1) hx hb dX5_isSale_12 (by decide) ?_
      refine lv_goto (tgt := 17) hx hb dX5_isSale_13 (by decide) ?_
      exact W.zret (v := 1) hx hb hr rfl (fun t ht hW => ⟨⟨1, (), rfl, (if_pos ((k_isx (by omega)).mpr ⟨c_1, c_3⟩)).symm, trivial⟩, hS.F ht⟩) hS.2.2 dX5_isSale_17
set_option maxHeartbeats 4000000 in
set_option maxRecDepth 100000 in
theorem k_X5_drawn (l : Launch) (dC : Nat → ClassId) (dI : Nat → Nat → Nat) (K : Nat → ClassId) (L : List Nat) (f : Nat → va_E) {np nc ns lk lc tp cp gp : Nat} {G J mk st : Nat → Int32} {ap : Nat → Int64} {kd sn : Nat → Nat} {tk : Nat} (hI : cI K np nc ns lk lc tp cp gp G J mk st ap kd sn L f) (h0 : Nat) (hm_h0 : h0 ∈ L) (hk_h0 : kd h0 = 1) (x : Int32) (y : Int32) (hg12 : G 12 = nI tk) : gR l yX5_drawn cX5_drawn 5 .int 0 (dC, dI) K L f [.ref h0, .int x, .int y] (fun r => (r = drw (nI tk) y x)) := by
  refine Met.ofW (cc := cX5_drawn) (maxL := 5) (ret := some .int) (by decide) rfl ?_
  intro p e s m args below meth c s₁ B hml hv
  obtain ⟨rfl, hP, hK⟩ := hv
  have hx := B.exec
  have hb := B.bytes
  have hr := B.returns
  have hlocks := B.notSynchronized
  have hts0 := atoms_spec (ws := Cond.code yX5_drawn cX5_drawn 5 (some .int) :: lw_B) B.pre
  have hts : ∀ w ∈ lw_B, w.before _ s = true := fun w h => hts0 w (List.mem_cons_of_mem _ h)
  have hown : s.vm.findClass RX5 = some m.cls := findClass_of_methodNamed B.named
  have hS : va_S (fun _ => False) s.heap s.heap [] := va_S.rf
  have hl := lv_entry ([.ref h0, .int x, .int y]) (n := 5) (Nat.le_of_ble_eq_true rfl)
  rw [lg_entry_eq]
  generalize (lg_sl ([.ref h0, .int x, .int y]) ++ List.replicate (5 - (lg_sl ([.ref h0, .int x, .int y])).length) Slot.unset).toArray = ls at hl ⊢
  have hl : lv_has ls 5 [(0, .ref h0), (1, .int x), (2, .int y)] := hl
  refine lv_aload_n hx hb dX5_drawn_0 rfl (lv_at hl 0 rfl) ?_
  obtain ⟨fs1, hF1, hv1⟩ := hI.gG hm_h0 hk_h0 12 (ci := 5) ⟨rfl, rfl, by decide, rfl⟩
  rw [hg12] at hv1
  refine g_get (ci := 5) (v := .int (nI tk)) (C := RX5) (T := TX5) (N := 17) hx hb hts uB5 hown hK hP hm_h0 hF1 rfl 12 (by decide) wm_265 hv1 dX5_drawn_1 ?_
  refine lv_ldcw (v := 40503) hx hb hown (hts _ wm_266) dX5_drawn_4 ?_
  refine lv_imul hx hb dX5_drawn_7 ?_
  refine lv_topi (fun x_2 ex_2 => ?_)
  refine lv_iload_n hx hb dX5_drawn_8 rfl (lv_at hl 2 rfl) ?_
  refine lv_sipush (v := 9973) hx hb dX5_drawn_9 (by decide) ?_
  refine lv_imul hx hb dX5_drawn_12 ?_
  refine lv_topi (fun x_3 ex_3 => ?_)
  refine lv_iadd hx hb dX5_drawn_13 ?_
  refine lv_topi (fun x_4 ex_4 => ?_)
  refine lv_iload_n hx hb dX5_drawn_14 rfl (lv_at hl 1 rfl) ?_
  refine lv_sipush (v := 7919) hx hb dX5_drawn_15 (by decide) ?_
  refine lv_imul hx hb dX5_drawn_18 ?_
  refine lv_topi (fun x_5 ex_5 => ?_)
  refine lv_iadd hx hb dX5_drawn_19 ?_
  refine lv_topi (fun x_6 ex_6 => ?_)
  refine lv_istore_n (lv' := [(3, .int x_6), (0, .ref h0), (1, .int x), (2, .int y)]) hx hb dX5_drawn_20 rfl hl (by decide) rfl (fun ls hl => ?_)
  refine lv_iload_n hx hb dX5_drawn_21 rfl (lv_at hl 0 rfl) ?_
  refine lv_iload_n hx hb dX5_drawn_22 rfl (lv_at hl 0 rfl) ?_
  refine lv_bipush (v := 7) hx hb dX5_drawn_23 (by decide) ?_
  refine lv_iushr hx hb dX5_drawn_25 rfl ?_
  refine lv_topi (fun x_7 ex_7 => ?_)
  refine lv_ixor hx hb dX5_drawn_26 ?_
  refine lv_topi (fun x_8 ex_8 => ?_)
  refine lv_ldcw (v := 668265263) hx hb hown (hts _ wm_267) dX5_drawn_27 ?_
  refine lv_imul hx hb dX5_drawn_30 ?_
  refine lv_topi (fun x_9 ex_9 => ?_)
  refine lv_istore (lv' := [(4, .int x_9), (3, .int x_6), (0, .ref h0), (1, .int x), (2, .int y)]) hx hb dX5_drawn_31 hl (by decide) rfl (fun ls hl => ?_)
  refine lv_iload hx hb dX5_drawn_33 (lv_at hl 0 rfl) ?_
  refine lv_bipush (v := 16) hx hb dX5_drawn_35 (by decide) ?_
  refine lv_iushr hx hb dX5_drawn_37 rfl ?_
  refine lv_topi (fun x_10 ex_10 => ?_)
  refine lv_sipush (v := 1000) hx hb dX5_drawn_38 (by decide) ?_
  refine lv_irem hx hb dX5_drawn_41 (by decide) ?_
  refine lv_topi (fun x_11 ex_11 => ?_)
  exact W.iret (v := x_11) hx hb hr (fun t ht hW => ⟨⟨x_11, (), rfl, (by subst ex_11 ex_10 ex_9 ex_8 ex_7 ex_6 ex_5 ex_4 ex_3 ex_2; rfl), trivial⟩, hS.F ht⟩) hS.2.2 dX5_drawn_42
set_option maxHeartbeats 4000000 in
set_option maxRecDepth 100000 in
theorem k_X5_marks (l : Launch) (dC : Nat → ClassId) (dI : Nat → Nat → Nat) (K : Nat → ClassId) (L : List Nat) (f : Nat → va_E) {np nc ns lk lc tp cp gp : Nat} {G J mk st : Nat → Int32} {ap : Nat → Int64} {kd sn : Nat → Nat} (hI : cI K np nc ns lk lc tp cp gp G J mk st ap kd sn L f) (h0 : Nat) (hm_h0 : h0 ∈ L) (hk_h0 : kd h0 = 1) (x : Int32) (y : Int32) (hLn : gN L) : gMi l yX5_marks cX5_marks 4 1 (dC, dI) K L f [.ref h0, .int x, .int y] (fun r f' => ∃ (mk2 : Nat → Int32), cI K np nc ns lk lc tp cp gp G J mk2 st ap kd sn L f' ∧ ((¬ ((0 ≤ x ∧ x ≤ 99) ∧ (0 ≤ y ∧ y ≤ 4095)) ∧ r = (-1) ∧ mk2 = mk) ∨ (((0 ≤ x ∧ x ≤ 99) ∧ (0 ≤ y ∧ y ≤ 4095)) ∧ r = mk (Int32.toNatClampNeg x) ∧ mk2 = upd mk (Int32.toNatClampNeg x) y))) := by
  refine Met.ofW (cc := cX5_marks) (maxL := 4) (ret := (some .int)) (by decide) rfl ?_
  intro p e s m args below meth c s₁ B hml hv
  obtain ⟨rfl, hP, hK⟩ := hv
  have hD : va_D (fun q : Nat => q ∈ L) (va_pl L f) := g_D hLn (fun a h => h) f
  generalize hAe : (fun q : Nat => q ∈ L) = A at hD ⊢
  have hx := B.exec
  have hb := B.bytes
  have hr := B.returns
  have hlocks := B.notSynchronized
  have hts0 := atoms_spec (ws := Cond.code yX5_marks cX5_marks 4 (some .int) :: lw_B) B.pre
  have hts : ∀ w ∈ lw_B, w.before _ s = true := fun w h => hts0 w (List.mem_cons_of_mem _ h)
  have hown : s.vm.findClass RX5 = some m.cls := findClass_of_methodNamed B.named
  have hS : va_S A s.heap s.heap [] := va_S.rf
  have hl := lv_entry ([.ref h0, .int x, .int y]) (n := 4) (Nat.le_of_ble_eq_true rfl)
  rw [lg_entry_eq]
  generalize (lg_sl ([.ref h0, .int x, .int y]) ++ List.replicate (4 - (lg_sl ([.ref h0, .int x, .int y])).length) Slot.unset).toArray = ls at hl ⊢
  have hl : lv_has ls 4 [(0, .ref h0), (1, .int x), (2, .int y)] := hl
  refine lv_iload_n hx hb dX5_marks_0 rfl (lv_at hl 1 rfl) ?_
  refine k_S ⟨hx, hb, hml, hown, hts⟩ (c_isReader l x) 1 wm_85 wm_86 wm_67 wm_87 (by decide +kernel) ⟨Nat.le_of_ble_eq_true rfl, Nat.le_of_ble_eq_true rfl⟩ rfl hl.1 rfl (Nat.le_of_ble_eq_true rfl) dX5_marks_1 ⟨Nat.le_of_ble_eq_true rfl, Nat.le_of_ble_eq_true rfl⟩ hS hP (fun r_1 H locs hpr_1 hP hS => ?_)
  refine lv_if_eq (tgt := 18) hx hb dX5_marks_4 (by decide) (fun c_2 => ?_) (fun c_2 => ?_)
  · skip
    have g_2 := k_ff hpr_1 c_2
    refine lv_iconst (v := (-1)) hx hb dX5_marks_18 (by decide) ?_
    exact W.iret (v := (-1)) hx hb hr (fun t ht hW => ⟨⟨(-1), f, rfl, ⟨mk, hI, (Or.inl ⟨by simp only [Int32.lt_iff_toInt_lt, Int32.le_iff_toInt_le, ← Int32.toInt_inj, Int32.reduceToInt] at g_2 ⊢; omega, rfl, rfl⟩)⟩, by show va_P (dC, dI) vwCl (va_pl L f) t.heap; rw [ht]; exact hP⟩, hS.F ht⟩) hS.2.2 dX5_marks_19
  · skip
    have g_2 := k_ft hpr_1 c_2
    have gc_rd := g_2
    obtain ⟨rd, hrd, rfl⟩ := k_ix (n := 100) (x := x) g_2 (by omega)
    refine lv_iload_n hx hb dX5_marks_7 rfl (lv_at hl 2 rfl) ?_
    refine lv_iconst (v := 0) hx hb dX5_marks_8 (by decide) ?_
    refine lv_sipush (v := 4095) hx hb dX5_marks_9 (by decide) ?_
    refine k_S ⟨hx, hb, hml, hown, hts⟩ (c_isWithin l y 0 4095) 3 wm_65 wm_66 wm_67 wm_68 (by decide +kernel) ⟨Nat.le_of_ble_eq_true rfl, Nat.le_of_ble_eq_true rfl⟩ rfl hl.1 rfl (Nat.le_of_ble_eq_true rfl) dX5_marks_12 ⟨Nat.le_of_ble_eq_true rfl, Nat.le_of_ble_eq_true rfl⟩ hS hP (fun r_3 H locs hpr_3 hP hS => ?_)
    refine lv_if_ne (tgt := 20) hx hb dX5_marks_15 (by decide) (fun c_4 => ?_) (fun c_4 => ?_)
    · skip
      have g_4 := k_ft hpr_3 c_4
      refine lv_aload_n hx hb dX5_marks_20 rfl (lv_at hl 0 rfl) ?_
      obtain ⟨fs5, b_6, hF5, hv5, hm_b_6, hk_b_6⟩ := hI.gR hm_h0 hk_h0 3 (ci := 5) (t := 5) ⟨rfl, rfl, by decide, rfl⟩
      refine g_get (ci := 5) (v := .ref b_6) (C := RX5) (T := TX5) (N := 17) hx hb hts uB5 hown hK hP hm_h0 hF5 rfl 3 (by decide) wm_268 hv5 dX5_marks_21 ?_
      refine lv_iload_n hx hb dX5_marks_24 rfl (lv_at hl 1 rfl) ?_
      have hF7 := hI.a5 hm_b_6 hk_b_6
      refine g_iald hx hb hK hP hm_b_6 hF7 (vp_in_nI (by omega) (by decide)) dX5_marks_25 ?_
      refine lv_topi (fun x_8 ex_8 => ?_)
      rw [nI_clamp (by omega)] at ex_8
      refine lv_istore_n (lv' := [(3, .int x_8), (0, .ref h0), (1, .int (nI rd)), (2, .int y)]) hx hb dX5_marks_26 rfl hl (by decide) rfl (fun ls hl => ?_)
      refine lv_aload_n hx hb dX5_marks_27 rfl (lv_at hl 1 rfl) ?_
      obtain ⟨fs9, b_10, hF9, hv9, hm_b_10, hk_b_10⟩ := hI.gR hm_h0 hk_h0 3 (ci := 5) (t := 5) ⟨rfl, rfl, by decide, rfl⟩
      refine g_get (ci := 5) (v := .ref b_10) (C := RX5) (T := TX5) (N := 17) hx hb hts uB5 hown hK hP hm_h0 hF9 rfl 3 (by decide) wm_268 hv9 dX5_marks_28 ?_
      refine lv_iload_n hx hb dX5_marks_31 rfl (lv_at hl 2 rfl) ?_
      refine lv_iload_n hx hb dX5_marks_32 rfl (lv_at hl 3 rfl) ?_
      have hF11 := hI.a5 hm_b_10 hk_b_10
      refine g_iast hx hb hK hP hD hS hm_b_10 hF11 (vp_in_nI (by omega) (by decide)) dX5_marks_33 (fun H locs hP hD hS => ?_)
      obtain ⟨g_12, eg_12⟩ : ∃ z9, z9 = upd mk (Int32.toNatClampNeg (nI rd)) y := ⟨_, rfl⟩
      rw [← eg_12] at hP hD
      rw [nI_clamp (by omega)] at eg_12
      obtain ⟨f_13, ef_13⟩ : ∃ z9, z9 = va_up f b_10 (.inl (K 0, 100, .inl g_12)) := ⟨_, rfl⟩
      have hI := hI.s5 hm_b_10 hk_b_10 g_12
      rw [← ef_13] at hP hD hI
      refine lv_iload_n hx hb dX5_marks_34 rfl (lv_at hl 0 rfl) ?_
      exact W.iret (v := x_8) hx hb hr (fun t ht hW => ⟨⟨x_8, f_13, rfl, ⟨g_12, hI, (Or.inr ⟨by simp only [Int32.lt_iff_toInt_lt, Int32.le_iff_toInt_le, ← Int32.toInt_inj, Int32.reduceToInt] at g_2 g_4 ⊢; omega, (by rw [nI_clamp (by omega)]; exact ex_8), (by rw [nI_clamp (by omega)]; exact eg_12)⟩)⟩, by show va_P (dC, dI) vwCl (va_pl L f_13) t.heap; rw [ht]; exact hP⟩, hS.F ht⟩) hS.2.2 dX5_marks_35
    · skip
      have g_4 := k_ff hpr_3 c_4
      refine lv_iconst (v := (-1)) hx hb dX5_marks_18 (by decide) ?_
      exact W.iret (v := (-1)) hx hb hr (fun t ht hW => ⟨⟨(-1), f, rfl, ⟨mk, hI, (Or.inl ⟨by simp only [Int32.lt_iff_toInt_lt, Int32.le_iff_toInt_le, ← Int32.toInt_inj, Int32.reduceToInt] at g_2 g_4 ⊢; omega, rfl, rfl⟩)⟩, by show va_P (dC, dI) vwCl (va_pl L f) t.heap; rw [ht]; exact hP⟩, hS.F ht⟩) hS.2.2 dX5_marks_19
set_option maxHeartbeats 4000000 in
set_option maxRecDepth 100000 in
theorem k_X5_budget (l : Launch) (dC : Nat → ClassId) (dI : Nat → Nat → Nat) (K : Nat → ClassId) (L : List Nat) (f : Nat → va_E) {np nc ns lk lc tp cp gp : Nat} {G J mk st : Nat → Int32} {ap : Nat → Int64} {kd sn : Nat → Nat} (hI : cI K np nc ns lk lc tp cp gp G J mk st ap kd sn L f) (h0 : Nat) (hm_h0 : h0 ∈ L) (hk_h0 : kd h0 = 1) (x : Int32) (y : Int32) (z : Int32) (hg8 : G 8 = nI nc) (hnc : nc ≤ 40) (hLn : gN L) : gMi l yX5_budget cX5_budget 4 1 (dC, dI) K L f [.ref h0, .int x, .int y, .int z] (fun r f' => cI K np nc ns lk lc tp cp gp G J mk st ap kd sn L f' ∧ ((¬ ((0 ≤ x ∧ x ≤ nI nc - 1) ∧ (0 ≤ y ∧ y ≤ 1000000) ∧ (0 ≤ z ∧ z ≤ 1000000)) ∧ r = (-1)) ∨ (((0 ≤ x ∧ x ≤ nI nc - 1) ∧ (0 ≤ y ∧ y ≤ 1000000) ∧ (0 ≤ z ∧ z ≤ 1000000)) ∧ r = 1))) := by
  refine Met.ofW (cc := cX5_budget) (maxL := 4) (ret := (some .int)) (by decide) rfl ?_
  intro p e s m args below meth c s₁ B hml hv
  obtain ⟨rfl, hP, hK⟩ := hv
  have hD : va_D (fun q : Nat => q ∈ L) (va_pl L f) := g_D hLn (fun a h => h) f
  generalize hAe : (fun q : Nat => q ∈ L) = A at hD ⊢
  have hx := B.exec
  have hb := B.bytes
  have hr := B.returns
  have hlocks := B.notSynchronized
  have hts0 := atoms_spec (ws := Cond.code yX5_budget cX5_budget 4 (some .int) :: lw_B) B.pre
  have hts : ∀ w ∈ lw_B, w.before _ s = true := fun w h => hts0 w (List.mem_cons_of_mem _ h)
  have hown : s.vm.findClass RX5 = some m.cls := findClass_of_methodNamed B.named
  have hS : va_S A s.heap s.heap [] := va_S.rf
  have hl := lv_entry ([.ref h0, .int x, .int y, .int z]) (n := 4) (Nat.le_of_ble_eq_true rfl)
  rw [lg_entry_eq]
  generalize (lg_sl ([.ref h0, .int x, .int y, .int z]) ++ List.replicate (4 - (lg_sl ([.ref h0, .int x, .int y, .int z])).length) Slot.unset).toArray = ls at hl ⊢
  have hl : lv_has ls 4 [(0, .ref h0), (1, .int x), (2, .int y), (3, .int z)] := hl
  refine lv_aload_n hx hb dX5_budget_0 rfl (lv_at hl 0 rfl) ?_
  refine lv_iload_n hx hb dX5_budget_1 rfl (lv_at hl 1 rfl) ?_
  obtain ⟨fs1, hF1, -, -⟩ := hI.o hm_h0 hk_h0 rfl (ci := 5) rfl rfl
  refine gc_R (ci := 5) ⟨hx, hb, hml, hown, hts⟩ (k_X5_isCampaign l dC dI K L f hI h0 hm_h0 hk_h0 x hg8 hnc) 1 wm_77 wm_78 wm_79 wm_67 wm_80 (by decide +kernel) ⟨Nat.le_of_ble_eq_true rfl, Nat.le_of_ble_eq_true rfl⟩ hK rfl hm_h0 hF1 rfl hl.1 rfl (Nat.le_of_ble_eq_true rfl) dX5_budget_2 ⟨Nat.le_of_ble_eq_true rfl, Nat.le_of_ble_eq_true rfl⟩ hS hP (fun r_2 H locs hpr_2 hP hS => ?_)
  refine lv_if_eq (tgt := 28) hx hb dX5_budget_5 (by decide) (fun c_3 => ?_) (fun c_3 => ?_)
  · skip
    have g_3 := k_ff hpr_2 c_3
    refine lv_iconst (v := (-1)) hx hb dX5_budget_28 (by decide) ?_
    exact W.iret (v := (-1)) hx hb hr (fun t ht hW => ⟨⟨(-1), f, rfl, ⟨hI, (Or.inl ⟨by simp only [Int32.lt_iff_toInt_lt, Int32.le_iff_toInt_le, ← Int32.toInt_inj, Int32.reduceToInt] at g_3 ⊢; omega, rfl⟩)⟩, by show va_P (dC, dI) vwCl (va_pl L f) t.heap; rw [ht]; exact hP⟩, hS.F ht⟩) hS.2.2 dX5_budget_29
  · skip
    have g_3 := k_ft hpr_2 c_3
    have gc_cn := g_3
    obtain ⟨cn, hcn, rfl⟩ := k_ix (n := nc) (x := x) g_3 (by omega)
    refine lv_iload_n hx hb dX5_budget_8 rfl (lv_at hl 2 rfl) ?_
    refine lv_iconst (v := 0) hx hb dX5_budget_9 (by decide) ?_
    refine lv_ldc (v := 1000000) hx hb hown (hts _ wm_269) dX5_budget_10 ?_
    refine k_S ⟨hx, hb, hml, hown, hts⟩ (c_isWithin l y 0 1000000) 3 wm_65 wm_66 wm_67 wm_68 (by decide +kernel) ⟨Nat.le_of_ble_eq_true rfl, Nat.le_of_ble_eq_true rfl⟩ rfl hl.1 rfl (Nat.le_of_ble_eq_true rfl) dX5_budget_12 ⟨Nat.le_of_ble_eq_true rfl, Nat.le_of_ble_eq_true rfl⟩ hS hP (fun r_4 H locs hpr_4 hP hS => ?_)
    refine lv_if_eq (tgt := 28) hx hb dX5_budget_15 (by decide) (fun c_5 => ?_) (fun c_5 => ?_)
    · skip
      have g_5 := k_ff hpr_4 c_5
      refine lv_iconst (v := (-1)) hx hb dX5_budget_28 (by decide) ?_
      exact W.iret (v := (-1)) hx hb hr (fun t ht hW => ⟨⟨(-1), f, rfl, ⟨hI, (Or.inl ⟨by simp only [Int32.lt_iff_toInt_lt, Int32.le_iff_toInt_le, ← Int32.toInt_inj, Int32.reduceToInt] at g_3 g_5 ⊢; omega, rfl⟩)⟩, by show va_P (dC, dI) vwCl (va_pl L f) t.heap; rw [ht]; exact hP⟩, hS.F ht⟩) hS.2.2 dX5_budget_29
    · skip
      have g_5 := k_ft hpr_4 c_5
      refine lv_iload_n hx hb dX5_budget_18 rfl (lv_at hl 3 rfl) ?_
      refine lv_iconst (v := 0) hx hb dX5_budget_19 (by decide) ?_
      refine lv_ldc (v := 1000000) hx hb hown (hts _ wm_269) dX5_budget_20 ?_
      refine k_S ⟨hx, hb, hml, hown, hts⟩ (c_isWithin l z 0 1000000) 3 wm_65 wm_66 wm_67 wm_68 (by decide +kernel) ⟨Nat.le_of_ble_eq_true rfl, Nat.le_of_ble_eq_true rfl⟩ rfl hl.1 rfl (Nat.le_of_ble_eq_true rfl) dX5_budget_22 ⟨Nat.le_of_ble_eq_true rfl, Nat.le_of_ble_eq_true rfl⟩ hS hP (fun r_6 H locs hpr_6 hP hS => ?_)
      refine lv_if_ne (tgt := 30) hx hb dX5_budget_25 (by decide) (fun c_7 => ?_) (fun c_7 => ?_)
      · skip
        have g_7 := k_ft hpr_6 c_7
        refine lv_aload_n hx hb dX5_budget_30 rfl (lv_at hl 0 rfl) ?_
        obtain ⟨fs8, b_9, hF8, hv8, hm_b_9, hk_b_9⟩ := hI.gR hm_h0 hk_h0 1 (ci := 5) (t := 3) ⟨rfl, rfl, by decide, rfl⟩
        refine g_get (ci := 5) (v := .ref b_9) (C := RX5) (T := TX5) (N := 17) hx hb hts uB5 hown hK hP hm_h0 hF8 rfl 1 (by decide) wm_270 hv8 dX5_budget_31 ?_
        refine lv_iload_n hx hb dX5_budget_34 rfl (lv_at hl 1 rfl) ?_
        obtain ⟨g10, hF10, hgz10⟩ := hI.a3 hm_b_9 hk_b_9
        obtain ⟨b_11, hm_b_11, hk_b_11, hs_b_11, hv10⟩ := hgz10 cn (by omega)
        refine g_aldR (t := 4) hx hb hK hP hm_b_9 hF10 rfl (vp_in_nI (by omega) (by decide)) (by rw [nI_clamp (by omega)]; exact hv10) dX5_budget_35 ?_
        refine lv_iload_n hx hb dX5_budget_36 rfl (lv_at hl 2 rfl) ?_
        obtain ⟨fs12, hF12, hn12, -⟩ := hI.o hm_b_11 hk_b_11 rfl (ci := 0) rfl (n := 16) rfl
        refine g_put (ci := 0) (v := .int y) (ty := .int) (C := RX0) (T := TX0) (N := 16) hx hb hts uB0 tyX0 tyX0_ok nmX0 hown hK hP hD hS hm_b_11 hF12 rfl 6 (by decide) wm_271 rfl (by decide +kernel) rfl rfl (by rw [hn12]; decide) dX5_budget_37 (fun H locs hP hD hS => ?_)
        obtain ⟨f_13, ef_13⟩ : ∃ z9, z9 = va_up f b_11 (.inr (0, List.set fs12 6 (.int y))) := ⟨_, rfl⟩
        have hI := hI.p hm_b_11 hk_b_11 6 (ci := 0) (t := 1) (v := .int y) ⟨rfl, rfl, by decide, rfl⟩ hF12 fv1
        rw [← ef_13] at hP hD hI
        refine lv_aload_n hx hb dX5_budget_40 rfl (lv_at hl 0 rfl) ?_
        obtain ⟨fs14, b_15, hF14, hv14, hm_b_15, hk_b_15⟩ := hI.gR hm_h0 hk_h0 1 (ci := 5) (t := 3) ⟨rfl, rfl, by decide, rfl⟩
        refine g_get (ci := 5) (v := .ref b_15) (C := RX5) (T := TX5) (N := 17) hx hb hts uB5 hown hK hP hm_h0 hF14 rfl 1 (by decide) wm_270 hv14 dX5_budget_41 ?_
        refine lv_iload_n hx hb dX5_budget_44 rfl (lv_at hl 1 rfl) ?_
        obtain ⟨g16, hF16, hgz16⟩ := hI.a3 hm_b_15 hk_b_15
        obtain ⟨b_17, hm_b_17, hk_b_17, hs_b_17, hv16⟩ := hgz16 cn (by omega)
        refine g_aldR (t := 4) hx hb hK hP hm_b_15 hF16 rfl (vp_in_nI (by omega) (by decide)) (by rw [nI_clamp (by omega)]; exact hv16) dX5_budget_45 ?_
        refine lv_iload_n hx hb dX5_budget_46 rfl (lv_at hl 3 rfl) ?_
        obtain ⟨fs18, hF18, hn18, -⟩ := hI.o hm_b_17 hk_b_17 rfl (ci := 0) rfl (n := 16) rfl
        refine g_put (ci := 0) (v := .int z) (ty := .int) (C := RX0) (T := TX0) (N := 16) hx hb hts uB0 tyX0 tyX0_ok nmX0 hown hK hP hD hS hm_b_17 hF18 rfl 7 (by decide) wm_272 rfl (by decide +kernel) rfl rfl (by rw [hn18]; decide) dX5_budget_47 (fun H locs hP hD hS => ?_)
        obtain ⟨f_19, ef_19⟩ : ∃ z9, z9 = va_up f_13 b_17 (.inr (0, List.set fs18 7 (.int z))) := ⟨_, rfl⟩
        have hI := hI.p hm_b_17 hk_b_17 7 (ci := 0) (t := 1) (v := .int z) ⟨rfl, rfl, by decide, rfl⟩ hF18 fv1
        rw [← ef_19] at hP hD hI
        refine lv_iconst (v := 1) hx hb dX5_budget_50 (by decide) ?_
        exact W.iret (v := 1) hx hb hr (fun t ht hW => ⟨⟨1, f_19, rfl, ⟨hI, (Or.inr ⟨by simp only [Int32.lt_iff_toInt_lt, Int32.le_iff_toInt_le, ← Int32.toInt_inj, Int32.reduceToInt] at g_3 g_5 g_7 ⊢; omega, rfl⟩)⟩, by show va_P (dC, dI) vwCl (va_pl L f_19) t.heap; rw [ht]; exact hP⟩, hS.F ht⟩) hS.2.2 dX5_budget_51
      · skip
        have g_7 := k_ff hpr_6 c_7
        refine lv_iconst (v := (-1)) hx hb dX5_budget_28 (by decide) ?_
        exact W.iret (v := (-1)) hx hb hr (fun t ht hW => ⟨⟨(-1), f, rfl, ⟨hI, (Or.inl ⟨by simp only [Int32.lt_iff_toInt_lt, Int32.le_iff_toInt_le, ← Int32.toInt_inj, Int32.reduceToInt] at g_3 g_5 g_7 ⊢; omega, rfl⟩)⟩, by show va_P (dC, dI) vwCl (va_pl L f) t.heap; rw [ht]; exact hP⟩, hS.F ht⟩) hS.2.2 dX5_budget_29
set_option maxHeartbeats 4000000 in
set_option maxRecDepth 100000 in
theorem k_X5_cap (l : Launch) (dC : Nat → ClassId) (dI : Nat → Nat → Nat) (K : Nat → ClassId) (L : List Nat) (f : Nat → va_E) {np nc ns lk lc tp cp gp : Nat} {G J mk st : Nat → Int32} {ap : Nat → Int64} {kd sn : Nat → Nat} (hI : cI K np nc ns lk lc tp cp gp G J mk st ap kd sn L f) (h0 : Nat) (hm_h0 : h0 ∈ L) (hk_h0 : kd h0 = 1) (x : Int32) (y : Int32) (z : Int32) (hg8 : G 8 = nI nc) (hnc : nc ≤ 40) (hLn : gN L) : gMi l yX5_cap cX5_cap 4 1 (dC, dI) K L f [.ref h0, .int x, .int y, .int z] (fun r f' => cI K np nc ns lk lc tp cp gp G J mk st ap kd sn L f' ∧ ((¬ ((0 ≤ x ∧ x ≤ nI nc - 1) ∧ (1 ≤ y ∧ y ≤ 9) ∧ (1 ≤ z ∧ z ≤ 1000)) ∧ r = (-1)) ∨ (((0 ≤ x ∧ x ≤ nI nc - 1) ∧ (1 ≤ y ∧ y ≤ 9) ∧ (1 ≤ z ∧ z ≤ 1000)) ∧ r = 1))) := by
  refine Met.ofW (cc := cX5_cap) (maxL := 4) (ret := (some .int)) (by decide) rfl ?_
  intro p e s m args below meth c s₁ B hml hv
  obtain ⟨rfl, hP, hK⟩ := hv
  have hD : va_D (fun q : Nat => q ∈ L) (va_pl L f) := g_D hLn (fun a h => h) f
  generalize hAe : (fun q : Nat => q ∈ L) = A at hD ⊢
  have hx := B.exec
  have hb := B.bytes
  have hr := B.returns
  have hlocks := B.notSynchronized
  have hts0 := atoms_spec (ws := Cond.code yX5_cap cX5_cap 4 (some .int) :: lw_B) B.pre
  have hts : ∀ w ∈ lw_B, w.before _ s = true := fun w h => hts0 w (List.mem_cons_of_mem _ h)
  have hown : s.vm.findClass RX5 = some m.cls := findClass_of_methodNamed B.named
  have hS : va_S A s.heap s.heap [] := va_S.rf
  have hl := lv_entry ([.ref h0, .int x, .int y, .int z]) (n := 4) (Nat.le_of_ble_eq_true rfl)
  rw [lg_entry_eq]
  generalize (lg_sl ([.ref h0, .int x, .int y, .int z]) ++ List.replicate (4 - (lg_sl ([.ref h0, .int x, .int y, .int z])).length) Slot.unset).toArray = ls at hl ⊢
  have hl : lv_has ls 4 [(0, .ref h0), (1, .int x), (2, .int y), (3, .int z)] := hl
  refine lv_aload_n hx hb dX5_cap_0 rfl (lv_at hl 0 rfl) ?_
  refine lv_iload_n hx hb dX5_cap_1 rfl (lv_at hl 1 rfl) ?_
  obtain ⟨fs1, hF1, -, -⟩ := hI.o hm_h0 hk_h0 rfl (ci := 5) rfl rfl
  refine gc_R (ci := 5) ⟨hx, hb, hml, hown, hts⟩ (k_X5_isCampaign l dC dI K L f hI h0 hm_h0 hk_h0 x hg8 hnc) 1 wm_77 wm_78 wm_79 wm_67 wm_80 (by decide +kernel) ⟨Nat.le_of_ble_eq_true rfl, Nat.le_of_ble_eq_true rfl⟩ hK rfl hm_h0 hF1 rfl hl.1 rfl (Nat.le_of_ble_eq_true rfl) dX5_cap_2 ⟨Nat.le_of_ble_eq_true rfl, Nat.le_of_ble_eq_true rfl⟩ hS hP (fun r_2 H locs hpr_2 hP hS => ?_)
  refine lv_if_eq (tgt := 29) hx hb dX5_cap_5 (by decide) (fun c_3 => ?_) (fun c_3 => ?_)
  · skip
    have g_3 := k_ff hpr_2 c_3
    refine lv_iconst (v := (-1)) hx hb dX5_cap_29 (by decide) ?_
    exact W.iret (v := (-1)) hx hb hr (fun t ht hW => ⟨⟨(-1), f, rfl, ⟨hI, (Or.inl ⟨by simp only [Int32.lt_iff_toInt_lt, Int32.le_iff_toInt_le, ← Int32.toInt_inj, Int32.reduceToInt] at g_3 ⊢; omega, rfl⟩)⟩, by show va_P (dC, dI) vwCl (va_pl L f) t.heap; rw [ht]; exact hP⟩, hS.F ht⟩) hS.2.2 dX5_cap_30
  · skip
    have g_3 := k_ft hpr_2 c_3
    have gc_cn := g_3
    obtain ⟨cn, hcn, rfl⟩ := k_ix (n := nc) (x := x) g_3 (by omega)
    refine lv_iload_n hx hb dX5_cap_8 rfl (lv_at hl 2 rfl) ?_
    refine lv_iconst (v := 1) hx hb dX5_cap_9 (by decide) ?_
    refine lv_bipush (v := 9) hx hb dX5_cap_10 (by decide) ?_
    refine k_S ⟨hx, hb, hml, hown, hts⟩ (c_isWithin l y 1 9) 3 wm_65 wm_66 wm_67 wm_68 (by decide +kernel) ⟨Nat.le_of_ble_eq_true rfl, Nat.le_of_ble_eq_true rfl⟩ rfl hl.1 rfl (Nat.le_of_ble_eq_true rfl) dX5_cap_12 ⟨Nat.le_of_ble_eq_true rfl, Nat.le_of_ble_eq_true rfl⟩ hS hP (fun r_4 H locs hpr_4 hP hS => ?_)
    refine lv_if_eq (tgt := 29) hx hb dX5_cap_15 (by decide) (fun c_5 => ?_) (fun c_5 => ?_)
    · skip
      have g_5 := k_ff hpr_4 c_5
      refine lv_iconst (v := (-1)) hx hb dX5_cap_29 (by decide) ?_
      exact W.iret (v := (-1)) hx hb hr (fun t ht hW => ⟨⟨(-1), f, rfl, ⟨hI, (Or.inl ⟨by simp only [Int32.lt_iff_toInt_lt, Int32.le_iff_toInt_le, ← Int32.toInt_inj, Int32.reduceToInt] at g_3 g_5 ⊢; omega, rfl⟩)⟩, by show va_P (dC, dI) vwCl (va_pl L f) t.heap; rw [ht]; exact hP⟩, hS.F ht⟩) hS.2.2 dX5_cap_30
    · skip
      have g_5 := k_ft hpr_4 c_5
      refine lv_iload_n hx hb dX5_cap_18 rfl (lv_at hl 3 rfl) ?_
      refine lv_iconst (v := 1) hx hb dX5_cap_19 (by decide) ?_
      refine lv_sipush (v := 1000) hx hb dX5_cap_20 (by decide) ?_
      refine k_S ⟨hx, hb, hml, hown, hts⟩ (c_isWithin l z 1 1000) 3 wm_65 wm_66 wm_67 wm_68 (by decide +kernel) ⟨Nat.le_of_ble_eq_true rfl, Nat.le_of_ble_eq_true rfl⟩ rfl hl.1 rfl (Nat.le_of_ble_eq_true rfl) dX5_cap_23 ⟨Nat.le_of_ble_eq_true rfl, Nat.le_of_ble_eq_true rfl⟩ hS hP (fun r_6 H locs hpr_6 hP hS => ?_)
      refine lv_if_ne (tgt := 31) hx hb dX5_cap_26 (by decide) (fun c_7 => ?_) (fun c_7 => ?_)
      · skip
        have g_7 := k_ft hpr_6 c_7
        refine lv_aload_n hx hb dX5_cap_31 rfl (lv_at hl 0 rfl) ?_
        obtain ⟨fs8, b_9, hF8, hv8, hm_b_9, hk_b_9⟩ := hI.gR hm_h0 hk_h0 1 (ci := 5) (t := 3) ⟨rfl, rfl, by decide, rfl⟩
        refine g_get (ci := 5) (v := .ref b_9) (C := RX5) (T := TX5) (N := 17) hx hb hts uB5 hown hK hP hm_h0 hF8 rfl 1 (by decide) wm_270 hv8 dX5_cap_32 ?_
        refine lv_iload_n hx hb dX5_cap_35 rfl (lv_at hl 1 rfl) ?_
        obtain ⟨g10, hF10, hgz10⟩ := hI.a3 hm_b_9 hk_b_9
        obtain ⟨b_11, hm_b_11, hk_b_11, hs_b_11, hv10⟩ := hgz10 cn (by omega)
        refine g_aldR (t := 4) hx hb hK hP hm_b_9 hF10 rfl (vp_in_nI (by omega) (by decide)) (by rw [nI_clamp (by omega)]; exact hv10) dX5_cap_36 ?_
        refine lv_iload_n hx hb dX5_cap_37 rfl (lv_at hl 2 rfl) ?_
        obtain ⟨fs12, hF12, hn12, -⟩ := hI.o hm_b_11 hk_b_11 rfl (ci := 0) rfl (n := 16) rfl
        refine g_put (ci := 0) (v := .int y) (ty := .int) (C := RX0) (T := TX0) (N := 16) hx hb hts uB0 tyX0 tyX0_ok nmX0 hown hK hP hD hS hm_b_11 hF12 rfl 8 (by decide) wm_273 rfl (by decide +kernel) rfl rfl (by rw [hn12]; decide) dX5_cap_38 (fun H locs hP hD hS => ?_)
        obtain ⟨f_13, ef_13⟩ : ∃ z9, z9 = va_up f b_11 (.inr (0, List.set fs12 8 (.int y))) := ⟨_, rfl⟩
        have hI := hI.p hm_b_11 hk_b_11 8 (ci := 0) (t := 1) (v := .int y) ⟨rfl, rfl, by decide, rfl⟩ hF12 fv1
        rw [← ef_13] at hP hD hI
        refine lv_aload_n hx hb dX5_cap_41 rfl (lv_at hl 0 rfl) ?_
        obtain ⟨fs14, b_15, hF14, hv14, hm_b_15, hk_b_15⟩ := hI.gR hm_h0 hk_h0 1 (ci := 5) (t := 3) ⟨rfl, rfl, by decide, rfl⟩
        refine g_get (ci := 5) (v := .ref b_15) (C := RX5) (T := TX5) (N := 17) hx hb hts uB5 hown hK hP hm_h0 hF14 rfl 1 (by decide) wm_270 hv14 dX5_cap_42 ?_
        refine lv_iload_n hx hb dX5_cap_45 rfl (lv_at hl 1 rfl) ?_
        obtain ⟨g16, hF16, hgz16⟩ := hI.a3 hm_b_15 hk_b_15
        obtain ⟨b_17, hm_b_17, hk_b_17, hs_b_17, hv16⟩ := hgz16 cn (by omega)
        refine g_aldR (t := 4) hx hb hK hP hm_b_15 hF16 rfl (vp_in_nI (by omega) (by decide)) (by rw [nI_clamp (by omega)]; exact hv16) dX5_cap_46 ?_
        refine lv_iload_n hx hb dX5_cap_47 rfl (lv_at hl 3 rfl) ?_
        obtain ⟨fs18, hF18, hn18, -⟩ := hI.o hm_b_17 hk_b_17 rfl (ci := 0) rfl (n := 16) rfl
        refine g_put (ci := 0) (v := .int z) (ty := .int) (C := RX0) (T := TX0) (N := 16) hx hb hts uB0 tyX0 tyX0_ok nmX0 hown hK hP hD hS hm_b_17 hF18 rfl 9 (by decide) wm_274 rfl (by decide +kernel) rfl rfl (by rw [hn18]; decide) dX5_cap_48 (fun H locs hP hD hS => ?_)
        obtain ⟨f_19, ef_19⟩ : ∃ z9, z9 = va_up f_13 b_17 (.inr (0, List.set fs18 9 (.int z))) := ⟨_, rfl⟩
        have hI := hI.p hm_b_17 hk_b_17 9 (ci := 0) (t := 1) (v := .int z) ⟨rfl, rfl, by decide, rfl⟩ hF18 fv1
        rw [← ef_19] at hP hD hI
        refine lv_iconst (v := 1) hx hb dX5_cap_51 (by decide) ?_
        exact W.iret (v := 1) hx hb hr (fun t ht hW => ⟨⟨1, f_19, rfl, ⟨hI, (Or.inr ⟨by simp only [Int32.lt_iff_toInt_lt, Int32.le_iff_toInt_le, ← Int32.toInt_inj, Int32.reduceToInt] at g_3 g_5 g_7 ⊢; omega, rfl⟩)⟩, by show va_P (dC, dI) vwCl (va_pl L f_19) t.heap; rw [ht]; exact hP⟩, hS.F ht⟩) hS.2.2 dX5_cap_52
      · skip
        have g_7 := k_ff hpr_6 c_7
        refine lv_iconst (v := (-1)) hx hb dX5_cap_29 (by decide) ?_
        exact W.iret (v := (-1)) hx hb hr (fun t ht hW => ⟨⟨(-1), f, rfl, ⟨hI, (Or.inl ⟨by simp only [Int32.lt_iff_toInt_lt, Int32.le_iff_toInt_le, ← Int32.toInt_inj, Int32.reduceToInt] at g_3 g_5 g_7 ⊢; omega, rfl⟩)⟩, by show va_P (dC, dI) vwCl (va_pl L f) t.heap; rw [ht]; exact hP⟩, hS.F ht⟩) hS.2.2 dX5_cap_30
set_option maxHeartbeats 4000000 in
set_option maxRecDepth 100000 in
theorem k_X5_promise (l : Launch) (dC : Nat → ClassId) (dI : Nat → Nat → Nat) (K : Nat → ClassId) (L : List Nat) (f : Nat → va_E) {np nc ns lk lc tp cp gp : Nat} {G J mk st : Nat → Int32} {ap : Nat → Int64} {kd sn : Nat → Nat} {tk : Nat} (hI : cI K np nc ns lk lc tp cp gp G J mk st ap kd sn L f) (h0 : Nat) (hm_h0 : h0 ∈ L) (hk_h0 : kd h0 = 1) (x : Int32) (y : Int32) (z : Int32) (hg8 : G 8 = nI nc) (hg12 : G 12 = nI tk) (hnc : nc ≤ 40) (hLn : gN L) : gMi l yX5_promise cX5_promise 4 1 (dC, dI) K L f [.ref h0, .int x, .int y, .int z] (fun r f' => cI K np nc ns lk lc tp cp gp G J mk st ap kd sn L f') := by
  refine Met.ofW (cc := cX5_promise) (maxL := 4) (ret := (some .int)) (by decide) rfl ?_
  intro p e s m args below meth c s₁ B hml hv
  obtain ⟨rfl, hP, hK⟩ := hv
  have hD : va_D (fun q : Nat => q ∈ L) (va_pl L f) := g_D hLn (fun a h => h) f
  generalize hAe : (fun q : Nat => q ∈ L) = A at hD ⊢
  have hx := B.exec
  have hb := B.bytes
  have hr := B.returns
  have hlocks := B.notSynchronized
  have hts0 := atoms_spec (ws := Cond.code yX5_promise cX5_promise 4 (some .int) :: lw_B) B.pre
  have hts : ∀ w ∈ lw_B, w.before _ s = true := fun w h => hts0 w (List.mem_cons_of_mem _ h)
  have hown : s.vm.findClass RX5 = some m.cls := findClass_of_methodNamed B.named
  have hS : va_S A s.heap s.heap [] := va_S.rf
  have hl := lv_entry ([.ref h0, .int x, .int y, .int z]) (n := 4) (Nat.le_of_ble_eq_true rfl)
  rw [lg_entry_eq]
  generalize (lg_sl ([.ref h0, .int x, .int y, .int z]) ++ List.replicate (4 - (lg_sl ([.ref h0, .int x, .int y, .int z])).length) Slot.unset).toArray = ls at hl ⊢
  have hl : lv_has ls 4 [(0, .ref h0), (1, .int x), (2, .int y), (3, .int z)] := hl
  refine lv_aload_n hx hb dX5_promise_0 rfl (lv_at hl 0 rfl) ?_
  refine lv_iload_n hx hb dX5_promise_1 rfl (lv_at hl 1 rfl) ?_
  obtain ⟨fs1, hF1, -, -⟩ := hI.o hm_h0 hk_h0 rfl (ci := 5) rfl rfl
  refine gc_R (ci := 5) ⟨hx, hb, hml, hown, hts⟩ (k_X5_isCampaign l dC dI K L f hI h0 hm_h0 hk_h0 x hg8 hnc) 1 wm_77 wm_78 wm_79 wm_67 wm_80 (by decide +kernel) ⟨Nat.le_of_ble_eq_true rfl, Nat.le_of_ble_eq_true rfl⟩ hK rfl hm_h0 hF1 rfl hl.1 rfl (Nat.le_of_ble_eq_true rfl) dX5_promise_2 ⟨Nat.le_of_ble_eq_true rfl, Nat.le_of_ble_eq_true rfl⟩ hS hP (fun r_2 H locs hpr_2 hP hS => ?_)
  refine lv_if_eq (tgt := 30) hx hb dX5_promise_5 (by decide) (fun c_3 => ?_) (fun c_3 => ?_)
  · skip
    have g_3 := k_ff hpr_2 c_3
    refine lv_iconst (v := (-1)) hx hb dX5_promise_30 (by decide) ?_
    exact W.iret (v := (-1)) hx hb hr (fun t ht hW => ⟨⟨(-1), f, rfl, hI, by show va_P (dC, dI) vwCl (va_pl L f) t.heap; rw [ht]; exact hP⟩, hS.F ht⟩) hS.2.2 dX5_promise_31
  · skip
    have g_3 := k_ft hpr_2 c_3
    have gc_cn := g_3
    obtain ⟨cn, hcn, rfl⟩ := k_ix (n := nc) (x := x) g_3 (by omega)
    refine lv_iload_n hx hb dX5_promise_8 rfl (lv_at hl 2 rfl) ?_
    refine lv_iconst (v := 1) hx hb dX5_promise_9 (by decide) ?_
    refine lv_sipush (v := 1000) hx hb dX5_promise_10 (by decide) ?_
    refine k_S ⟨hx, hb, hml, hown, hts⟩ (c_isWithin l y 1 1000) 3 wm_65 wm_66 wm_67 wm_68 (by decide +kernel) ⟨Nat.le_of_ble_eq_true rfl, Nat.le_of_ble_eq_true rfl⟩ rfl hl.1 rfl (Nat.le_of_ble_eq_true rfl) dX5_promise_13 ⟨Nat.le_of_ble_eq_true rfl, Nat.le_of_ble_eq_true rfl⟩ hS hP (fun r_4 H locs hpr_4 hP hS => ?_)
    refine lv_if_eq (tgt := 30) hx hb dX5_promise_16 (by decide) (fun c_5 => ?_) (fun c_5 => ?_)
    · skip
      have g_5 := k_ff hpr_4 c_5
      refine lv_iconst (v := (-1)) hx hb dX5_promise_30 (by decide) ?_
      exact W.iret (v := (-1)) hx hb hr (fun t ht hW => ⟨⟨(-1), f, rfl, hI, by show va_P (dC, dI) vwCl (va_pl L f) t.heap; rw [ht]; exact hP⟩, hS.F ht⟩) hS.2.2 dX5_promise_31
    · skip
      have g_5 := k_ft hpr_4 c_5
      refine lv_iload_n hx hb dX5_promise_19 rfl (lv_at hl 3 rfl) ?_
      refine lv_aload_n hx hb dX5_promise_20 rfl (lv_at hl 0 rfl) ?_
      obtain ⟨fs6, hF6, hv6⟩ := hI.gG hm_h0 hk_h0 12 (ci := 5) ⟨rfl, rfl, by decide, rfl⟩
      rw [hg12] at hv6
      refine g_get (ci := 5) (v := .int (nI tk)) (C := RX5) (T := TX5) (N := 17) hx hb hts uB5 hown hK hP hm_h0 hF6 rfl 12 (by decide) wm_265 hv6 dX5_promise_21 ?_
      refine lv_bipush (v := 100) hx hb dX5_promise_24 (by decide) ?_
      refine lv_idiv hx hb dX5_promise_26 (by decide) ?_
      refine lv_topi (fun x_7 ex_7 => ?_)
      refine lv_icmp_ge (tgt := 32) hx hb dX5_promise_27 (by decide) (fun c_8 => ?_) (fun c_8 => ?_)
      · skip
        refine lv_aload_n hx hb dX5_promise_32 rfl (lv_at hl 0 rfl) ?_
        obtain ⟨fs9, b_10, hF9, hv9, hm_b_10, hk_b_10⟩ := hI.gR hm_h0 hk_h0 1 (ci := 5) (t := 3) ⟨rfl, rfl, by decide, rfl⟩
        refine g_get (ci := 5) (v := .ref b_10) (C := RX5) (T := TX5) (N := 17) hx hb hts uB5 hown hK hP hm_h0 hF9 rfl 1 (by decide) wm_270 hv9 dX5_promise_33 ?_
        refine lv_iload_n hx hb dX5_promise_36 rfl (lv_at hl 1 rfl) ?_
        obtain ⟨g11, hF11, hgz11⟩ := hI.a3 hm_b_10 hk_b_10
        obtain ⟨b_12, hm_b_12, hk_b_12, hs_b_12, hv11⟩ := hgz11 cn (by omega)
        refine g_aldR (t := 4) hx hb hK hP hm_b_10 hF11 rfl (vp_in_nI (by omega) (by decide)) (by rw [nI_clamp (by omega)]; exact hv11) dX5_promise_37 ?_
        obtain ⟨fs13, x_13, hF13, hv13⟩ := hI.gI hm_b_12 hk_b_12 0 (ci := 0) ⟨rfl, rfl, by decide, rfl⟩
        refine g_get (ci := 0) (v := .int x_13) (C := RX0) (T := TX0) (N := 16) hx hb hts uB0 hown hK hP hm_b_12 hF13 rfl 0 (by decide) wm_275 hv13 dX5_promise_38 ?_
        refine lv_iconst (v := 1) hx hb dX5_promise_41 (by decide) ?_
        refine lv_icmp_eq (tgt := 48) hx hb dX5_promise_42 (by decide) (fun c_14 => ?_) (fun c_14 => ?_)
        · skip
          refine lv_aload_n hx hb dX5_promise_48 rfl (lv_at hl 0 rfl) ?_
          obtain ⟨fs15, b_16, hF15, hv15, hm_b_16, hk_b_16⟩ := hI.gR hm_h0 hk_h0 1 (ci := 5) (t := 3) ⟨rfl, rfl, by decide, rfl⟩
          refine g_get (ci := 5) (v := .ref b_16) (C := RX5) (T := TX5) (N := 17) hx hb hts uB5 hown hK hP hm_h0 hF15 rfl 1 (by decide) wm_270 hv15 dX5_promise_49 ?_
          refine lv_iload_n hx hb dX5_promise_52 rfl (lv_at hl 1 rfl) ?_
          obtain ⟨g17, hF17, hgz17⟩ := hI.a3 hm_b_16 hk_b_16
          obtain ⟨b_18, hm_b_18, hk_b_18, hs_b_18, hv17⟩ := hgz17 cn (by omega)
          refine g_aldR (t := 4) hx hb hK hP hm_b_16 hF17 rfl (vp_in_nI (by omega) (by decide)) (by rw [nI_clamp (by omega)]; exact hv17) dX5_promise_53 ?_
          refine lv_iload_n hx hb dX5_promise_54 rfl (lv_at hl 2 rfl) ?_
          refine lv_aload_n hx hb dX5_promise_55 rfl (lv_at hl 0 rfl) ?_
          obtain ⟨fs19, hF19, hv19⟩ := hI.gG hm_h0 hk_h0 12 (ci := 5) ⟨rfl, rfl, by decide, rfl⟩
          rw [hg12] at hv19
          refine g_get (ci := 5) (v := .int (nI tk)) (C := RX5) (T := TX5) (N := 17) hx hb hts uB5 hown hK hP hm_h0 hF19 rfl 12 (by decide) wm_265 hv19 dX5_promise_56 ?_
          refine lv_ldc2 (v := 100) hx hb hown (hts _ wm_276) dX5_promise_59 ?_
          refine lv_iload_n hx hb dX5_promise_62 rfl (lv_at hl 3 rfl) ?_
          refine lv_i2l hx hb dX5_promise_63 rfl ?_
          refine lv_topl (fun x_20 ex_20 => ?_)
          refine lv_lconst (v := 1) hx hb dX5_promise_64 rfl ?_
          refine lv_ladd hx hb dX5_promise_65 ?_
          refine lv_topl (fun x_21 ex_21 => ?_)
          refine lv_lmul hx hb dX5_promise_66 ?_
          refine lv_topl (fun x_22 ex_22 => ?_)
          obtain ⟨fs23, hF23, -, -⟩ := hI.o hm_b_18 hk_b_18 rfl (ci := 0) rfl rfl
          refine gc_Mv (ci := 0) ⟨hx, hb, hml, hown, hts⟩ (k_X0_takePromise l dC dI K L f hI b_18 hm_b_18 hk_b_18 y (nI tk) x_22 hLn) 3 wm_277 wm_278 wm_279 wm_205 wm_280 (by decide +kernel) ⟨Nat.le_of_ble_eq_true rfl, Nat.le_of_ble_eq_true rfl⟩ hK rfl hm_b_18 hF23 rfl hl.1 rfl (Nat.le_of_ble_eq_true rfl) dX5_promise_67 ⟨Nat.le_of_ble_eq_true rfl, Nat.le_of_ble_eq_true rfl⟩ (fun a h => by rw [← hAe]; exact h) hS hP (fun fw_24 H locs hpw hP hS => ?_)
          have hI := hpw
          have hD : va_D A (va_pl L fw_24) := g_D hLn (fun a h => by rw [← hAe]; exact h) fw_24
          refine lv_iconst (v := 1) hx hb dX5_promise_70 (by decide) ?_
          exact W.iret (v := 1) hx hb hr (fun t ht hW => ⟨⟨1, fw_24, rfl, hI, by show va_P (dC, dI) vwCl (va_pl L fw_24) t.heap; rw [ht]; exact hP⟩, hS.F ht⟩) hS.2.2 dX5_promise_71
        · skip
          refine lv_bipush (v := (-2)) hx hb dX5_promise_45 (by decide) ?_
          exact W.iret (v := (-2)) hx hb hr (fun t ht hW => ⟨⟨(-2), f, rfl, hI, by show va_P (dC, dI) vwCl (va_pl L f) t.heap; rw [ht]; exact hP⟩, hS.F ht⟩) hS.2.2 dX5_promise_47
      · skip
        refine lv_iconst (v := (-1)) hx hb dX5_promise_30 (by decide) ?_
        exact W.iret (v := (-1)) hx hb hr (fun t ht hW => ⟨⟨(-1), f, rfl, hI, by show va_P (dC, dI) vwCl (va_pl L f) t.heap; rw [ht]; exact hP⟩, hS.F ht⟩) hS.2.2 dX5_promise_31
set_option maxHeartbeats 4000000 in
set_option maxRecDepth 100000 in
theorem k_X5_stop (l : Launch) (dC : Nat → ClassId) (dI : Nat → Nat → Nat) (K : Nat → ClassId) (L : List Nat) (f : Nat → va_E) {np nc ns lk lc tp cp gp : Nat} {G J mk st : Nat → Int32} {ap : Nat → Int64} {kd sn : Nat → Nat} (hI : cI K np nc ns lk lc tp cp gp G J mk st ap kd sn L f) (h0 : Nat) (hm_h0 : h0 ∈ L) (hk_h0 : kd h0 = 1) (x : Int32) (y : Int32) (hg8 : G 8 = nI nc) (hnc : nc ≤ 40) (hLn : gN L) : gMi l yX5_stop cX5_stop 4 1 (dC, dI) K L f [.ref h0, .int x, .int y] (fun r f' => ∃ (st2 : Nat → Int32), cI K np nc ns lk lc tp cp gp G J mk st2 ap kd sn L f' ∧ ((¬ ((0 ≤ x ∧ x ≤ nI nc - 1) ∧ (0 ≤ y ∧ y ≤ 1)) ∧ r = (-1) ∧ st2 = st) ∨ (((0 ≤ x ∧ x ≤ nI nc - 1) ∧ (0 ≤ y ∧ y ≤ 1)) ∧ r = st (Int32.toNatClampNeg x) ∧ st2 = va_up st (Int32.toNatClampNeg x) y))) := by
  refine Met.ofW (cc := cX5_stop) (maxL := 4) (ret := (some .int)) (by decide) rfl ?_
  intro p e s m args below meth c s₁ B hml hv
  obtain ⟨rfl, hP, hK⟩ := hv
  have hD : va_D (fun q : Nat => q ∈ L) (va_pl L f) := g_D hLn (fun a h => h) f
  generalize hAe : (fun q : Nat => q ∈ L) = A at hD ⊢
  have hx := B.exec
  have hb := B.bytes
  have hr := B.returns
  have hlocks := B.notSynchronized
  have hts0 := atoms_spec (ws := Cond.code yX5_stop cX5_stop 4 (some .int) :: lw_B) B.pre
  have hts : ∀ w ∈ lw_B, w.before _ s = true := fun w h => hts0 w (List.mem_cons_of_mem _ h)
  have hown : s.vm.findClass RX5 = some m.cls := findClass_of_methodNamed B.named
  have hS : va_S A s.heap s.heap [] := va_S.rf
  have hl := lv_entry ([.ref h0, .int x, .int y]) (n := 4) (Nat.le_of_ble_eq_true rfl)
  rw [lg_entry_eq]
  generalize (lg_sl ([.ref h0, .int x, .int y]) ++ List.replicate (4 - (lg_sl ([.ref h0, .int x, .int y])).length) Slot.unset).toArray = ls at hl ⊢
  have hl : lv_has ls 4 [(0, .ref h0), (1, .int x), (2, .int y)] := hl
  refine lv_aload_n hx hb dX5_stop_0 rfl (lv_at hl 0 rfl) ?_
  refine lv_iload_n hx hb dX5_stop_1 rfl (lv_at hl 1 rfl) ?_
  obtain ⟨fs1, hF1, -, -⟩ := hI.o hm_h0 hk_h0 rfl (ci := 5) rfl rfl
  refine gc_R (ci := 5) ⟨hx, hb, hml, hown, hts⟩ (k_X5_isCampaign l dC dI K L f hI h0 hm_h0 hk_h0 x hg8 hnc) 1 wm_77 wm_78 wm_79 wm_67 wm_80 (by decide +kernel) ⟨Nat.le_of_ble_eq_true rfl, Nat.le_of_ble_eq_true rfl⟩ hK rfl hm_h0 hF1 rfl hl.1 rfl (Nat.le_of_ble_eq_true rfl) dX5_stop_2 ⟨Nat.le_of_ble_eq_true rfl, Nat.le_of_ble_eq_true rfl⟩ hS hP (fun r_2 H locs hpr_2 hP hS => ?_)
  refine lv_if_eq (tgt := 17) hx hb dX5_stop_5 (by decide) (fun c_3 => ?_) (fun c_3 => ?_)
  · skip
    have g_3 := k_ff hpr_2 c_3
    refine lv_iconst (v := (-1)) hx hb dX5_stop_17 (by decide) ?_
    exact W.iret (v := (-1)) hx hb hr (fun t ht hW => ⟨⟨(-1), f, rfl, ⟨st, hI, (Or.inl ⟨by simp only [Int32.lt_iff_toInt_lt, Int32.le_iff_toInt_le, ← Int32.toInt_inj, Int32.reduceToInt] at g_3 ⊢; omega, rfl, rfl⟩)⟩, by show va_P (dC, dI) vwCl (va_pl L f) t.heap; rw [ht]; exact hP⟩, hS.F ht⟩) hS.2.2 dX5_stop_18
  · skip
    have g_3 := k_ft hpr_2 c_3
    have gc_cn := g_3
    obtain ⟨cn, hcn, rfl⟩ := k_ix (n := nc) (x := x) g_3 (by omega)
    refine lv_iload_n hx hb dX5_stop_8 rfl (lv_at hl 2 rfl) ?_
    refine lv_iconst (v := 0) hx hb dX5_stop_9 (by decide) ?_
    refine lv_iconst (v := 1) hx hb dX5_stop_10 (by decide) ?_
    refine k_S ⟨hx, hb, hml, hown, hts⟩ (c_isWithin l y 0 1) 3 wm_65 wm_66 wm_67 wm_68 (by decide +kernel) ⟨Nat.le_of_ble_eq_true rfl, Nat.le_of_ble_eq_true rfl⟩ rfl hl.1 rfl (Nat.le_of_ble_eq_true rfl) dX5_stop_11 ⟨Nat.le_of_ble_eq_true rfl, Nat.le_of_ble_eq_true rfl⟩ hS hP (fun r_4 H locs hpr_4 hP hS => ?_)
    refine lv_if_ne (tgt := 19) hx hb dX5_stop_14 (by decide) (fun c_5 => ?_) (fun c_5 => ?_)
    · skip
      have g_5 := k_ft hpr_4 c_5
      refine lv_aload_n hx hb dX5_stop_19 rfl (lv_at hl 0 rfl) ?_
      obtain ⟨fs6, b_7, hF6, hv6, hm_b_7, hk_b_7⟩ := hI.gR hm_h0 hk_h0 1 (ci := 5) (t := 3) ⟨rfl, rfl, by decide, rfl⟩
      refine g_get (ci := 5) (v := .ref b_7) (C := RX5) (T := TX5) (N := 17) hx hb hts uB5 hown hK hP hm_h0 hF6 rfl 1 (by decide) wm_270 hv6 dX5_stop_20 ?_
      refine lv_iload_n hx hb dX5_stop_23 rfl (lv_at hl 1 rfl) ?_
      obtain ⟨g8, hF8, hgz8⟩ := hI.a3 hm_b_7 hk_b_7
      obtain ⟨b_9, hm_b_9, hk_b_9, hs_b_9, hv8⟩ := hgz8 cn (by omega)
      refine g_aldR (t := 4) hx hb hK hP hm_b_7 hF8 rfl (vp_in_nI (by omega) (by decide)) (by rw [nI_clamp (by omega)]; exact hv8) dX5_stop_24 ?_
      obtain ⟨fs10, hF10, hv10⟩ := hI.gS hm_b_9 hk_b_9 11 (ci := 0) ⟨rfl, rfl, by decide, rfl⟩
      rw [hs_b_9] at hv10
      refine g_get (ci := 0) (v := .int (st cn)) (C := RX0) (T := TX0) (N := 16) hx hb hts uB0 hown hK hP hm_b_9 hF10 rfl 11 (by decide) wm_281 hv10 dX5_stop_25 ?_
      refine lv_istore_n (lv' := [(3, .int (st cn)), (0, .ref h0), (1, .int (nI cn)), (2, .int y)]) hx hb dX5_stop_28 rfl hl (by decide) rfl (fun ls hl => ?_)
      refine lv_aload_n hx hb dX5_stop_29 rfl (lv_at hl 1 rfl) ?_
      obtain ⟨fs11, b_12, hF11, hv11, hm_b_12, hk_b_12⟩ := hI.gR hm_h0 hk_h0 1 (ci := 5) (t := 3) ⟨rfl, rfl, by decide, rfl⟩
      refine g_get (ci := 5) (v := .ref b_12) (C := RX5) (T := TX5) (N := 17) hx hb hts uB5 hown hK hP hm_h0 hF11 rfl 1 (by decide) wm_270 hv11 dX5_stop_30 ?_
      refine lv_iload_n hx hb dX5_stop_33 rfl (lv_at hl 2 rfl) ?_
      obtain ⟨g13, hF13, hgz13⟩ := hI.a3 hm_b_12 hk_b_12
      obtain ⟨b_14, hm_b_14, hk_b_14, hs_b_14, hv13⟩ := hgz13 cn (by omega)
      refine g_aldR (t := 4) hx hb hK hP hm_b_12 hF13 rfl (vp_in_nI (by omega) (by decide)) (by rw [nI_clamp (by omega)]; exact hv13) dX5_stop_34 ?_
      refine lv_iload_n hx hb dX5_stop_35 rfl (lv_at hl 3 rfl) ?_
      obtain ⟨fs15, hF15, hn15, -⟩ := hI.o hm_b_14 hk_b_14 rfl (ci := 0) rfl (n := 16) rfl
      refine g_put (ci := 0) (v := .int y) (ty := .int) (C := RX0) (T := TX0) (N := 16) hx hb hts uB0 tyX0 tyX0_ok nmX0 hown hK hP hD hS hm_b_14 hF15 rfl 11 (by decide) wm_281 rfl (by decide +kernel) rfl rfl (by rw [hn15]; decide) dX5_stop_36 (fun H locs hP hD hS => ?_)
      obtain ⟨f_16, ef_16⟩ : ∃ z9, z9 = va_up f b_14 (.inr (0, List.set fs15 11 (.int y))) := ⟨_, rfl⟩
      have hI := hI.pS hm_b_14 hk_b_14 hF15 y
      rw [← ef_16] at hP hD hI
      rw [hs_b_14] at hI
      refine lv_iload_n hx hb dX5_stop_39 rfl (lv_at hl 0 rfl) ?_
      exact W.iret (v := st cn) hx hb hr (fun t ht hW => ⟨⟨st cn, f_16, rfl, ⟨va_up st cn y, hI, (Or.inr ⟨by simp only [Int32.lt_iff_toInt_lt, Int32.le_iff_toInt_le, ← Int32.toInt_inj, Int32.reduceToInt] at g_3 g_5 ⊢; omega, (by rw [nI_clamp (by omega)]), (by rw [nI_clamp (by omega)])⟩)⟩, by show va_P (dC, dI) vwCl (va_pl L f_16) t.heap; rw [ht]; exact hP⟩, hS.F ht⟩) hS.2.2 dX5_stop_40
    · skip
      have g_5 := k_ff hpr_4 c_5
      refine lv_iconst (v := (-1)) hx hb dX5_stop_17 (by decide) ?_
      exact W.iret (v := (-1)) hx hb hr (fun t ht hW => ⟨⟨(-1), f, rfl, ⟨st, hI, (Or.inl ⟨by simp only [Int32.lt_iff_toInt_lt, Int32.le_iff_toInt_le, ← Int32.toInt_inj, Int32.reduceToInt] at g_3 g_5 ⊢; omega, rfl, rfl⟩)⟩, by show va_P (dC, dI) vwCl (va_pl L f) t.heap; rw [ht]; exact hP⟩, hS.F ht⟩) hS.2.2 dX5_stop_18
set_option maxHeartbeats 4000000 in
set_option maxRecDepth 100000 in
theorem k_X5_rule (l : Launch) (dC : Nat → ClassId) (dI : Nat → Nat → Nat) (K : Nat → ClassId) (L : List Nat) (f : Nat → va_E) {np nc ns lk lc tp cp gp : Nat} {G J mk st : Nat → Int32} {ap : Nat → Int64} {kd sn : Nat → Nat} {ru : Int32} (hI : cI K np nc ns lk lc tp cp gp G J mk st ap kd sn L f) (h0 : Nat) (hm_h0 : h0 ∈ L) (hk_h0 : kd h0 = 1) (x : Int32) (hg13 : G 13 = ru) (hLn : gN L) : gMi l yX5_rule cX5_rule 3 0 (dC, dI) K L f [.ref h0, .int x] (fun r f' => ∃ (G2 : Nat → Int32), cI K np nc ns lk lc tp cp gp G2 J mk st ap kd sn L f' ∧ (gS [13] G G2) ∧ ((¬ (0 ≤ x ∧ x ≤ 1) ∧ r = (-1) ∧ G2 13 = ru) ∨ ((0 ≤ x ∧ x ≤ 1) ∧ r = ru ∧ G2 13 = x))) := by
  refine Met.ofW (cc := cX5_rule) (maxL := 3) (ret := (some .int)) (by decide) rfl ?_
  intro p e s m args below meth c s₁ B hml hv
  obtain ⟨rfl, hP, hK⟩ := hv
  have hD : va_D (fun q : Nat => q ∈ L) (va_pl L f) := g_D hLn (fun a h => h) f
  generalize hAe : (fun q : Nat => q ∈ L) = A at hD ⊢
  have hx := B.exec
  have hb := B.bytes
  have hr := B.returns
  have hlocks := B.notSynchronized
  have hts0 := atoms_spec (ws := Cond.code yX5_rule cX5_rule 3 (some .int) :: lw_B) B.pre
  have hts : ∀ w ∈ lw_B, w.before _ s = true := fun w h => hts0 w (List.mem_cons_of_mem _ h)
  have hown : s.vm.findClass RX5 = some m.cls := findClass_of_methodNamed B.named
  have hS : va_S A s.heap s.heap [] := va_S.rf
  have hGS : gS [13] G G := gS.rf
  have hl := lv_entry ([.ref h0, .int x]) (n := 3) (Nat.le_of_ble_eq_true rfl)
  rw [lg_entry_eq]
  generalize (lg_sl ([.ref h0, .int x]) ++ List.replicate (3 - (lg_sl ([.ref h0, .int x])).length) Slot.unset).toArray = ls at hl ⊢
  have hl : lv_has ls 3 [(0, .ref h0), (1, .int x)] := hl
  refine lv_iload_n hx hb dX5_rule_0 rfl (lv_at hl 1 rfl) ?_
  refine lv_if_eq (tgt := 11) hx hb dX5_rule_1 (by decide) (fun c_1 => ?_) (fun c_1 => ?_)
  · skip
    refine lv_aload_n hx hb dX5_rule_11 rfl (lv_at hl 0 rfl) ?_
    obtain ⟨fs2, hF2, hv2⟩ := hI.gG hm_h0 hk_h0 13 (ci := 5) ⟨rfl, rfl, by decide, rfl⟩
    rw [hg13] at hv2
    refine g_get (ci := 5) (v := .int ru) (C := RX5) (T := TX5) (N := 17) hx hb hts uB5 hown hK hP hm_h0 hF2 rfl 13 (by decide) wm_282 hv2 dX5_rule_12 ?_
    refine lv_istore_n (lv' := [(2, .int ru), (0, .ref h0), (1, .int x)]) hx hb dX5_rule_15 rfl hl (by decide) rfl (fun ls hl => ?_)
    refine lv_aload_n hx hb dX5_rule_16 rfl (lv_at hl 1 rfl) ?_
    refine lv_iload_n hx hb dX5_rule_17 rfl (lv_at hl 2 rfl) ?_
    obtain ⟨fs3, hF3, hn3, -⟩ := hI.o hm_h0 hk_h0 rfl (ci := 5) rfl (n := 17) rfl
    refine g_put (ci := 5) (v := .int x) (ty := .int) (C := RX5) (T := TX5) (N := 17) hx hb hts uB5 tyX5 tyX5_ok nmX5 hown hK hP hD hS hm_h0 hF3 rfl 13 (by decide) wm_282 rfl (by decide +kernel) rfl rfl (by rw [hn3]; decide) dX5_rule_18 (fun H locs hP hD hS => ?_)
    obtain ⟨f_4, ef_4⟩ : ∃ z9, z9 = va_up f h0 (.inr (5, List.set fs3 13 (.int x))) := ⟨_, rfl⟩
    have hI := hI.pG hm_h0 hk_h0 13 (by decide) hF3 x
    rw [← ef_4] at hP hD hI
    obtain ⟨G_5, eG_5⟩ : ∃ z9, z9 = va_up G 13 x := ⟨_, rfl⟩
    rw [← eG_5] at hI
    have hg13 : G_5 13 = x := by rw [eG_5, va_up_self]
    have hGS : gS [13] G G_5 := by rw [eG_5]; exact hGS.up (by decide) _
    refine lv_iload_n hx hb dX5_rule_21 rfl (lv_at hl 0 rfl) ?_
    exact W.iret (v := ru) hx hb hr (fun t ht hW => ⟨⟨ru, f_4, rfl, ⟨G_5, hI, hGS, (Or.inr ⟨by simp only [Int32.lt_iff_toInt_lt, Int32.le_iff_toInt_le, ← Int32.toInt_inj, Int32.reduceToInt] at c_1 ⊢; omega, rfl, hg13⟩)⟩, by show va_P (dC, dI) vwCl (va_pl L f_4) t.heap; rw [ht]; exact hP⟩, hS.F ht⟩) hS.2.2 dX5_rule_22
  · skip
    refine lv_iload_n hx hb dX5_rule_4 rfl (lv_at hl 1 rfl) ?_
    refine lv_iconst (v := 1) hx hb dX5_rule_5 (by decide) ?_
    refine lv_icmp_eq (tgt := 11) hx hb dX5_rule_6 (by decide) (fun c_6 => ?_) (fun c_6 => ?_)
    · skip
      refine lv_aload_n hx hb dX5_rule_11 rfl (lv_at hl 0 rfl) ?_
      obtain ⟨fs7, hF7, hv7⟩ := hI.gG hm_h0 hk_h0 13 (ci := 5) ⟨rfl, rfl, by decide, rfl⟩
      rw [hg13] at hv7
      refine g_get (ci := 5) (v := .int ru) (C := RX5) (T := TX5) (N := 17) hx hb hts uB5 hown hK hP hm_h0 hF7 rfl 13 (by decide) wm_282 hv7 dX5_rule_12 ?_
      refine lv_istore_n (lv' := [(2, .int ru), (0, .ref h0), (1, .int x)]) hx hb dX5_rule_15 rfl hl (by decide) rfl (fun ls hl => ?_)
      refine lv_aload_n hx hb dX5_rule_16 rfl (lv_at hl 1 rfl) ?_
      refine lv_iload_n hx hb dX5_rule_17 rfl (lv_at hl 2 rfl) ?_
      obtain ⟨fs8, hF8, hn8, -⟩ := hI.o hm_h0 hk_h0 rfl (ci := 5) rfl (n := 17) rfl
      refine g_put (ci := 5) (v := .int x) (ty := .int) (C := RX5) (T := TX5) (N := 17) hx hb hts uB5 tyX5 tyX5_ok nmX5 hown hK hP hD hS hm_h0 hF8 rfl 13 (by decide) wm_282 rfl (by decide +kernel) rfl rfl (by rw [hn8]; decide) dX5_rule_18 (fun H locs hP hD hS => ?_)
      obtain ⟨f_9, ef_9⟩ : ∃ z9, z9 = va_up f h0 (.inr (5, List.set fs8 13 (.int x))) := ⟨_, rfl⟩
      have hI := hI.pG hm_h0 hk_h0 13 (by decide) hF8 x
      rw [← ef_9] at hP hD hI
      obtain ⟨G_10, eG_10⟩ : ∃ z9, z9 = va_up G 13 x := ⟨_, rfl⟩
      rw [← eG_10] at hI
      have hg13 : G_10 13 = x := by rw [eG_10, va_up_self]
      have hGS : gS [13] G G_10 := by rw [eG_10]; exact hGS.up (by decide) _
      refine lv_iload_n hx hb dX5_rule_21 rfl (lv_at hl 0 rfl) ?_
      exact W.iret (v := ru) hx hb hr (fun t ht hW => ⟨⟨ru, f_9, rfl, ⟨G_10, hI, hGS, (Or.inr ⟨by simp only [Int32.lt_iff_toInt_lt, Int32.le_iff_toInt_le, ← Int32.toInt_inj, Int32.reduceToInt] at c_1 c_6 ⊢; omega, rfl, hg13⟩)⟩, by show va_P (dC, dI) vwCl (va_pl L f_9) t.heap; rw [ht]; exact hP⟩, hS.F ht⟩) hS.2.2 dX5_rule_22
    · skip
      refine lv_iconst (v := (-1)) hx hb dX5_rule_9 (by decide) ?_
      exact W.iret (v := (-1)) hx hb hr (fun t ht hW => ⟨⟨(-1), f, rfl, ⟨G, hI, hGS, (Or.inl ⟨by simp only [Int32.lt_iff_toInt_lt, Int32.le_iff_toInt_le, ← Int32.toInt_inj, Int32.reduceToInt] at c_1 c_6 ⊢; omega, rfl, hg13⟩)⟩, by show va_P (dC, dI) vwCl (va_pl L f) t.heap; rw [ht]; exact hP⟩, hS.F ht⟩) hS.2.2 dX5_rule_10
set_option maxHeartbeats 4000000 in
set_option maxRecDepth 100000 in
theorem k_X5_pace (l : Launch) (dC : Nat → ClassId) (dI : Nat → Nat → Nat) (K : Nat → ClassId) (L : List Nat) (f : Nat → va_E) {np nc ns lk lc tp cp gp : Nat} {G J mk st : Nat → Int32} {ap : Nat → Int64} {kd sn : Nat → Nat} (hI : cI K np nc ns lk lc tp cp gp G J mk st ap kd sn L f) (h0 : Nat) (hm_h0 : h0 ∈ L) (hk_h0 : kd h0 = 1) (x : Int32) (y : Int32) (hLn : gN L) : gMi l yX5_pace cX5_pace 3 1 (dC, dI) K L f [.ref h0, .int x, .int y] (fun r f' => ∃ (G2 : Nat → Int32), cI K np nc ns lk lc tp cp gp G2 J mk st ap kd sn L f' ∧ (gS [14, 15] G G2) ∧ ((¬ ((x = 0 ∨ (10 ≤ x ∧ x ≤ 100)) ∧ (1 ≤ y ∧ y ≤ 200)) ∧ r = (-1)) ∨ (((x = 0 ∨ (10 ≤ x ∧ x ≤ 100)) ∧ (1 ≤ y ∧ y ≤ 200)) ∧ r = 1))) := by
  refine Met.ofW (cc := cX5_pace) (maxL := 3) (ret := (some .int)) (by decide) rfl ?_
  intro p e s m args below meth c s₁ B hml hv
  obtain ⟨rfl, hP, hK⟩ := hv
  have hD : va_D (fun q : Nat => q ∈ L) (va_pl L f) := g_D hLn (fun a h => h) f
  generalize hAe : (fun q : Nat => q ∈ L) = A at hD ⊢
  have hx := B.exec
  have hb := B.bytes
  have hr := B.returns
  have hlocks := B.notSynchronized
  have hts0 := atoms_spec (ws := Cond.code yX5_pace cX5_pace 3 (some .int) :: lw_B) B.pre
  have hts : ∀ w ∈ lw_B, w.before _ s = true := fun w h => hts0 w (List.mem_cons_of_mem _ h)
  have hown : s.vm.findClass RX5 = some m.cls := findClass_of_methodNamed B.named
  have hS : va_S A s.heap s.heap [] := va_S.rf
  have hGS : gS [14, 15] G G := gS.rf
  have hl := lv_entry ([.ref h0, .int x, .int y]) (n := 3) (Nat.le_of_ble_eq_true rfl)
  rw [lg_entry_eq]
  generalize (lg_sl ([.ref h0, .int x, .int y]) ++ List.replicate (3 - (lg_sl ([.ref h0, .int x, .int y])).length) Slot.unset).toArray = ls at hl ⊢
  have hl : lv_has ls 3 [(0, .ref h0), (1, .int x), (2, .int y)] := hl
  refine lv_iload_n hx hb dX5_pace_0 rfl (lv_at hl 1 rfl) ?_
  refine lv_if_eq (tgt := 17) hx hb dX5_pace_1 (by decide) (fun c_1 => ?_) (fun c_1 => ?_)
  · skip
    refine lv_iload_n hx hb dX5_pace_17 rfl (lv_at hl 2 rfl) ?_
    refine lv_iconst (v := 1) hx hb dX5_pace_18 (by decide) ?_
    refine lv_sipush (v := 200) hx hb dX5_pace_19 (by decide) ?_
    refine k_S ⟨hx, hb, hml, hown, hts⟩ (c_isWithin l y 1 200) 3 wm_65 wm_66 wm_67 wm_68 (by decide +kernel) ⟨Nat.le_of_ble_eq_true rfl, Nat.le_of_ble_eq_true rfl⟩ rfl hl.1 rfl (Nat.le_of_ble_eq_true rfl) dX5_pace_22 ⟨Nat.le_of_ble_eq_true rfl, Nat.le_of_ble_eq_true rfl⟩ hS hP (fun r_2 H locs hpr_2 hP hS => ?_)
    refine lv_if_ne (tgt := 30) hx hb dX5_pace_25 (by decide) (fun c_3 => ?_) (fun c_3 => ?_)
    · skip
      have g_3 := k_ft hpr_2 c_3
      refine lv_aload_n hx hb dX5_pace_30 rfl (lv_at hl 0 rfl) ?_
      refine lv_iload_n hx hb dX5_pace_31 rfl (lv_at hl 1 rfl) ?_
      obtain ⟨fs4, hF4, hn4, -⟩ := hI.o hm_h0 hk_h0 rfl (ci := 5) rfl (n := 17) rfl
      refine g_put (ci := 5) (v := .int x) (ty := .int) (C := RX5) (T := TX5) (N := 17) hx hb hts uB5 tyX5 tyX5_ok nmX5 hown hK hP hD hS hm_h0 hF4 rfl 14 (by decide) wm_283 rfl (by decide +kernel) rfl rfl (by rw [hn4]; decide) dX5_pace_32 (fun H locs hP hD hS => ?_)
      obtain ⟨f_5, ef_5⟩ : ∃ z9, z9 = va_up f h0 (.inr (5, List.set fs4 14 (.int x))) := ⟨_, rfl⟩
      have hI := hI.pG hm_h0 hk_h0 14 (by decide) hF4 x
      rw [← ef_5] at hP hD hI
      obtain ⟨G_6, eG_6⟩ : ∃ z9, z9 = va_up G 14 x := ⟨_, rfl⟩
      rw [← eG_6] at hI
      have hGS : gS [14, 15] G G_6 := by rw [eG_6]; exact hGS.up (by decide) _
      refine lv_aload_n hx hb dX5_pace_35 rfl (lv_at hl 0 rfl) ?_
      refine lv_iload_n hx hb dX5_pace_36 rfl (lv_at hl 2 rfl) ?_
      obtain ⟨fs7, hF7, hn7, -⟩ := hI.o hm_h0 hk_h0 rfl (ci := 5) rfl (n := 17) rfl
      refine g_put (ci := 5) (v := .int y) (ty := .int) (C := RX5) (T := TX5) (N := 17) hx hb hts uB5 tyX5 tyX5_ok nmX5 hown hK hP hD hS hm_h0 hF7 rfl 15 (by decide) wm_284 rfl (by decide +kernel) rfl rfl (by rw [hn7]; decide) dX5_pace_37 (fun H locs hP hD hS => ?_)
      obtain ⟨f_8, ef_8⟩ : ∃ z9, z9 = va_up f_5 h0 (.inr (5, List.set fs7 15 (.int y))) := ⟨_, rfl⟩
      have hI := hI.pG hm_h0 hk_h0 15 (by decide) hF7 y
      rw [← ef_8] at hP hD hI
      obtain ⟨G_9, eG_9⟩ : ∃ z9, z9 = va_up G_6 15 y := ⟨_, rfl⟩
      rw [← eG_9] at hI
      have hGS : gS [14, 15] G G_9 := by rw [eG_9]; exact hGS.up (by decide) _
      refine lv_iconst (v := 1) hx hb dX5_pace_40 (by decide) ?_
      exact W.iret (v := 1) hx hb hr (fun t ht hW => ⟨⟨1, f_8, rfl, ⟨G_9, hI, hGS, (Or.inr ⟨by simp only [Int32.lt_iff_toInt_lt, Int32.le_iff_toInt_le, ← Int32.toInt_inj, Int32.reduceToInt] at c_1 g_3 ⊢; omega, rfl⟩)⟩, by show va_P (dC, dI) vwCl (va_pl L f_8) t.heap; rw [ht]; exact hP⟩, hS.F ht⟩) hS.2.2 dX5_pace_41
    · skip
      have g_3 := k_ff hpr_2 c_3
      refine lv_iconst (v := (-1)) hx hb dX5_pace_28 (by decide) ?_
      exact W.iret (v := (-1)) hx hb hr (fun t ht hW => ⟨⟨(-1), f, rfl, ⟨G, hI, hGS, (Or.inl ⟨by simp only [Int32.lt_iff_toInt_lt, Int32.le_iff_toInt_le, ← Int32.toInt_inj, Int32.reduceToInt] at c_1 g_3 ⊢; omega, rfl⟩)⟩, by show va_P (dC, dI) vwCl (va_pl L f) t.heap; rw [ht]; exact hP⟩, hS.F ht⟩) hS.2.2 dX5_pace_29
  · skip
    refine lv_iload_n hx hb dX5_pace_4 rfl (lv_at hl 1 rfl) ?_
    refine lv_bipush (v := 10) hx hb dX5_pace_5 (by decide) ?_
    refine lv_bipush (v := 100) hx hb dX5_pace_7 (by decide) ?_
    refine k_S ⟨hx, hb, hml, hown, hts⟩ (c_isWithin l x 10 100) 3 wm_65 wm_66 wm_67 wm_68 (by decide +kernel) ⟨Nat.le_of_ble_eq_true rfl, Nat.le_of_ble_eq_true rfl⟩ rfl hl.1 rfl (Nat.le_of_ble_eq_true rfl) dX5_pace_9 ⟨Nat.le_of_ble_eq_true rfl, Nat.le_of_ble_eq_true rfl⟩ hS hP (fun r_10 H locs hpr_10 hP hS => ?_)
    refine lv_if_ne (tgt := 17) hx hb dX5_pace_12 (by decide) (fun c_11 => ?_) (fun c_11 => ?_)
    · skip
      have g_11 := k_ft hpr_10 c_11
      refine lv_iload_n hx hb dX5_pace_17 rfl (lv_at hl 2 rfl) ?_
      refine lv_iconst (v := 1) hx hb dX5_pace_18 (by decide) ?_
      refine lv_sipush (v := 200) hx hb dX5_pace_19 (by decide) ?_
      refine k_S ⟨hx, hb, hml, hown, hts⟩ (c_isWithin l y 1 200) 3 wm_65 wm_66 wm_67 wm_68 (by decide +kernel) ⟨Nat.le_of_ble_eq_true rfl, Nat.le_of_ble_eq_true rfl⟩ rfl hl.1 rfl (Nat.le_of_ble_eq_true rfl) dX5_pace_22 ⟨Nat.le_of_ble_eq_true rfl, Nat.le_of_ble_eq_true rfl⟩ hS hP (fun r_12 H locs hpr_12 hP hS => ?_)
      refine lv_if_ne (tgt := 30) hx hb dX5_pace_25 (by decide) (fun c_13 => ?_) (fun c_13 => ?_)
      · skip
        have g_13 := k_ft hpr_12 c_13
        refine lv_aload_n hx hb dX5_pace_30 rfl (lv_at hl 0 rfl) ?_
        refine lv_iload_n hx hb dX5_pace_31 rfl (lv_at hl 1 rfl) ?_
        obtain ⟨fs14, hF14, hn14, -⟩ := hI.o hm_h0 hk_h0 rfl (ci := 5) rfl (n := 17) rfl
        refine g_put (ci := 5) (v := .int x) (ty := .int) (C := RX5) (T := TX5) (N := 17) hx hb hts uB5 tyX5 tyX5_ok nmX5 hown hK hP hD hS hm_h0 hF14 rfl 14 (by decide) wm_283 rfl (by decide +kernel) rfl rfl (by rw [hn14]; decide) dX5_pace_32 (fun H locs hP hD hS => ?_)
        obtain ⟨f_15, ef_15⟩ : ∃ z9, z9 = va_up f h0 (.inr (5, List.set fs14 14 (.int x))) := ⟨_, rfl⟩
        have hI := hI.pG hm_h0 hk_h0 14 (by decide) hF14 x
        rw [← ef_15] at hP hD hI
        obtain ⟨G_16, eG_16⟩ : ∃ z9, z9 = va_up G 14 x := ⟨_, rfl⟩
        rw [← eG_16] at hI
        have hGS : gS [14, 15] G G_16 := by rw [eG_16]; exact hGS.up (by decide) _
        refine lv_aload_n hx hb dX5_pace_35 rfl (lv_at hl 0 rfl) ?_
        refine lv_iload_n hx hb dX5_pace_36 rfl (lv_at hl 2 rfl) ?_
        obtain ⟨fs17, hF17, hn17, -⟩ := hI.o hm_h0 hk_h0 rfl (ci := 5) rfl (n := 17) rfl
        refine g_put (ci := 5) (v := .int y) (ty := .int) (C := RX5) (T := TX5) (N := 17) hx hb hts uB5 tyX5 tyX5_ok nmX5 hown hK hP hD hS hm_h0 hF17 rfl 15 (by decide) wm_284 rfl (by decide +kernel) rfl rfl (by rw [hn17]; decide) dX5_pace_37 (fun H locs hP hD hS => ?_)
        obtain ⟨f_18, ef_18⟩ : ∃ z9, z9 = va_up f_15 h0 (.inr (5, List.set fs17 15 (.int y))) := ⟨_, rfl⟩
        have hI := hI.pG hm_h0 hk_h0 15 (by decide) hF17 y
        rw [← ef_18] at hP hD hI
        obtain ⟨G_19, eG_19⟩ : ∃ z9, z9 = va_up G_16 15 y := ⟨_, rfl⟩
        rw [← eG_19] at hI
        have hGS : gS [14, 15] G G_19 := by rw [eG_19]; exact hGS.up (by decide) _
        refine lv_iconst (v := 1) hx hb dX5_pace_40 (by decide) ?_
        exact W.iret (v := 1) hx hb hr (fun t ht hW => ⟨⟨1, f_18, rfl, ⟨G_19, hI, hGS, (Or.inr ⟨by simp only [Int32.lt_iff_toInt_lt, Int32.le_iff_toInt_le, ← Int32.toInt_inj, Int32.reduceToInt] at c_1 g_11 g_13 ⊢; omega, rfl⟩)⟩, by show va_P (dC, dI) vwCl (va_pl L f_18) t.heap; rw [ht]; exact hP⟩, hS.F ht⟩) hS.2.2 dX5_pace_41
      · skip
        have g_13 := k_ff hpr_12 c_13
        refine lv_iconst (v := (-1)) hx hb dX5_pace_28 (by decide) ?_
        exact W.iret (v := (-1)) hx hb hr (fun t ht hW => ⟨⟨(-1), f, rfl, ⟨G, hI, hGS, (Or.inl ⟨by simp only [Int32.lt_iff_toInt_lt, Int32.le_iff_toInt_le, ← Int32.toInt_inj, Int32.reduceToInt] at c_1 g_11 g_13 ⊢; omega, rfl⟩)⟩, by show va_P (dC, dI) vwCl (va_pl L f) t.heap; rw [ht]; exact hP⟩, hS.F ht⟩) hS.2.2 dX5_pace_29
    · skip
      have g_11 := k_ff hpr_10 c_11
      refine lv_iconst (v := (-1)) hx hb dX5_pace_15 (by decide) ?_
      exact W.iret (v := (-1)) hx hb hr (fun t ht hW => ⟨⟨(-1), f, rfl, ⟨G, hI, hGS, (Or.inl ⟨by simp only [Int32.lt_iff_toInt_lt, Int32.le_iff_toInt_le, ← Int32.toInt_inj, Int32.reduceToInt] at c_1 g_11 ⊢; omega, rfl⟩)⟩, by show va_P (dC, dI) vwCl (va_pl L f) t.heap; rw [ht]; exact hP⟩, hS.F ht⟩) hS.2.2 dX5_pace_16
set_option maxHeartbeats 4000000 in
set_option maxRecDepth 100000 in
theorem k_X5_draw (l : Launch) (dC : Nat → ClassId) (dI : Nat → Nat → Nat) (K : Nat → ClassId) (L : List Nat) (f : Nat → va_E) {np nc ns lk lc tp cp gp : Nat} {G J mk st : Nat → Int32} {ap : Nat → Int64} {kd sn : Nat → Nat} {tk : Nat} (hI : cI K np nc ns lk lc tp cp gp G J mk st ap kd sn L f) (h0 : Nat) (hm_h0 : h0 ∈ L) (hk_h0 : kd h0 = 1) (x : Int32) (y : Int32) (hg8 : G 8 = nI nc) (hg12 : G 12 = nI tk) (hnc : nc ≤ 40) : gR l yX5_draw cX5_draw 3 .int 1 (dC, dI) K L f [.ref h0, .int x, .int y] (fun r => (r = if (0 ≤ x ∧ x ≤ nI nc - 1) ∧ (0 ≤ y ∧ y ≤ 99) then drw (nI tk) y x else (-1))) := by
  refine Met.ofW (cc := cX5_draw) (maxL := 3) (ret := some .int) (by decide) rfl ?_
  intro p e s m args below meth c s₁ B hml hv
  obtain ⟨rfl, hP, hK⟩ := hv
  have hx := B.exec
  have hb := B.bytes
  have hr := B.returns
  have hlocks := B.notSynchronized
  have hts0 := atoms_spec (ws := Cond.code yX5_draw cX5_draw 3 (some .int) :: lw_B) B.pre
  have hts : ∀ w ∈ lw_B, w.before _ s = true := fun w h => hts0 w (List.mem_cons_of_mem _ h)
  have hown : s.vm.findClass RX5 = some m.cls := findClass_of_methodNamed B.named
  have hS : va_S (fun _ => False) s.heap s.heap [] := va_S.rf
  have hl := lv_entry ([.ref h0, .int x, .int y]) (n := 3) (Nat.le_of_ble_eq_true rfl)
  rw [lg_entry_eq]
  generalize (lg_sl ([.ref h0, .int x, .int y]) ++ List.replicate (3 - (lg_sl ([.ref h0, .int x, .int y])).length) Slot.unset).toArray = ls at hl ⊢
  have hl : lv_has ls 3 [(0, .ref h0), (1, .int x), (2, .int y)] := hl
  refine lv_aload_n hx hb dX5_draw_0 rfl (lv_at hl 0 rfl) ?_
  refine lv_iload_n hx hb dX5_draw_1 rfl (lv_at hl 1 rfl) ?_
  obtain ⟨fs1, hF1, -, -⟩ := hI.o hm_h0 hk_h0 rfl (ci := 5) rfl rfl
  refine gc_R (ci := 5) ⟨hx, hb, hml, hown, hts⟩ (k_X5_isCampaign l dC dI K L f hI h0 hm_h0 hk_h0 x hg8 hnc) 1 wm_77 wm_78 wm_79 wm_67 wm_80 (by decide +kernel) ⟨Nat.le_of_ble_eq_true rfl, Nat.le_of_ble_eq_true rfl⟩ hK rfl hm_h0 hF1 rfl hl.1 rfl (Nat.le_of_ble_eq_true rfl) dX5_draw_2 ⟨Nat.le_of_ble_eq_true rfl, Nat.le_of_ble_eq_true rfl⟩ hS hP (fun r_2 H locs hpr_2 hP hS => ?_)
  refine lv_if_eq (tgt := 15) hx hb dX5_draw_5 (by decide) (fun c_3 => ?_) (fun c_3 => ?_)
  · skip
    have g_3 := k_ff hpr_2 c_3
    refine lv_iconst (v := (-1)) hx hb dX5_draw_15 (by decide) ?_
    exact W.iret (v := (-1)) hx hb hr (fun t ht hW => ⟨⟨(-1), (), rfl, (if_neg (by simp only [Int32.lt_iff_toInt_lt, Int32.le_iff_toInt_le, ← Int32.toInt_inj, Int32.reduceToInt] at g_3 ⊢; omega)).symm, trivial⟩, hS.F ht⟩) hS.2.2 dX5_draw_16
  · skip
    have g_3 := k_ft hpr_2 c_3
    refine lv_iload_n hx hb dX5_draw_8 rfl (lv_at hl 2 rfl) ?_
    refine k_S ⟨hx, hb, hml, hown, hts⟩ (c_isReader l y) 1 wm_85 wm_86 wm_67 wm_87 (by decide +kernel) ⟨Nat.le_of_ble_eq_true rfl, Nat.le_of_ble_eq_true rfl⟩ rfl hl.1 rfl (Nat.le_of_ble_eq_true rfl) dX5_draw_9 ⟨Nat.le_of_ble_eq_true rfl, Nat.le_of_ble_eq_true rfl⟩ hS hP (fun r_4 H locs hpr_4 hP hS => ?_)
    refine lv_if_ne (tgt := 17) hx hb dX5_draw_12 (by decide) (fun c_5 => ?_) (fun c_5 => ?_)
    · skip
      have g_5 := k_ft hpr_4 c_5
      refine lv_aload_n hx hb dX5_draw_17 rfl (lv_at hl 0 rfl) ?_
      refine lv_iload_n hx hb dX5_draw_18 rfl (lv_at hl 1 rfl) ?_
      refine lv_iload_n hx hb dX5_draw_19 rfl (lv_at hl 2 rfl) ?_
      obtain ⟨fs6, hF6, -, -⟩ := hI.o hm_h0 hk_h0 rfl (ci := 5) rfl rfl
      refine gc_R (ci := 5) ⟨hx, hb, hml, hown, hts⟩ (k_X5_drawn l dC dI K L f hI h0 hm_h0 hk_h0 x y hg12) 2 wm_285 wm_286 wm_287 wm_67 wm_288 (by decide +kernel) ⟨Nat.le_of_ble_eq_true rfl, Nat.le_of_ble_eq_true rfl⟩ hK rfl hm_h0 hF6 rfl hl.1 rfl (Nat.le_of_ble_eq_true rfl) dX5_draw_20 ⟨Nat.le_of_ble_eq_true rfl, Nat.le_of_ble_eq_true rfl⟩ hS hP (fun r_7 H locs hpr_7 hP hS => ?_)
      exact W.iret (v := r_7) hx hb hr (fun t ht hW => ⟨⟨r_7, (), rfl, (hpr_7.trans (if_pos (by simp only [Int32.lt_iff_toInt_lt, Int32.le_iff_toInt_le, ← Int32.toInt_inj, Int32.reduceToInt] at g_3 g_5 ⊢; omega)).symm), trivial⟩, hS.F ht⟩) hS.2.2 dX5_draw_23
    · skip
      have g_5 := k_ff hpr_4 c_5
      refine lv_iconst (v := (-1)) hx hb dX5_draw_15 (by decide) ?_
      exact W.iret (v := (-1)) hx hb hr (fun t ht hW => ⟨⟨(-1), (), rfl, (if_neg (by simp only [Int32.lt_iff_toInt_lt, Int32.le_iff_toInt_le, ← Int32.toInt_inj, Int32.reduceToInt] at g_3 g_5 ⊢; omega)).symm, trivial⟩, hS.F ht⟩) hS.2.2 dX5_draw_16
