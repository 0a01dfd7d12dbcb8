theorem k_pl0 {x : Int32} (h : 0 < x) : ¬ x.toInt64 = 0 := fun q => by
  have h1 : (x.toInt64).toInt = (0 : Int64).toInt := by rw [q]
  rw [Int32.toInt_toInt64] at h1
  have h2 := Int32.lt_iff_toInt_lt.mp h
  have h3 : (0 : Int64).toInt = 0 := rfl
  have h4 : (0 : Int32).toInt = 0 := rfl
  omega
theorem k_cmp0 {x : Int32} {a b : Int64} (e : x = lg_cmp a b) (h : 0 < x) : ¬ a = b := fun q => by
  rw [e] at h
  have h1 := (lg_cmp_gt a b).mp h
  rw [q] at h1
  have h2 := Int64.lt_iff_toInt_lt.mp h1
  omega
/-- whether the bit y is set -/
def apb (v : Int64) (y : Int32) : Int32 := if ((v.toUInt64 >>> (y.toInt64.toUInt64 &&& Int64.toUInt64 63)).toInt64 &&& 1) = 1 then 1 else 0
/-- the bit y is set or not -/
def setAp (v : Int64) (y z : Int32) : Int64 := if z = 0 then v &&& ((1 : Int64) <<< (y.toInt64 &&& 63) ^^^ (-1)) else v ||| ((1 : Int64) <<< (y.toInt64 &&& 63))
def snO (sn : Nat → Nat) : Option Nat → Nat
  | none => 0
  | some b => sn b + 1
set_option maxHeartbeats 4000000 in
set_option maxRecDepth 100000 in
theorem k_X4_endTick (l : Launch) (dC : Nat → ClassId) (dI : Nat → Nat → Nat) (K : Nat → ClassId) (L : List Nat) (f : Nat → va_E) {np nc ns lk lc tp cp gp : Nat} {G J mk st : Nat → Int32} {ap : Nat → Int64} {kd sn : Nat → Nat} (hI : cI K np nc ns lk lc tp cp gp G J mk st ap kd sn L f) (h0 : Nat) (hm_h0 : h0 ∈ L) (hk_h0 : kd h0 = 19) (hLn : gN L) : gMv l yX4_endTick cX4_endTick 1 0 (dC, dI) K L f [.ref h0] (fun f' => cI K np nc ns lk lc tp cp gp G J mk st ap kd sn L f') := by
  refine Met.ofW (cc := cX4_endTick) (maxL := 1) (ret := none) (by decide) rfl ?_
  intro p e s m args below meth c s₁ B hml hv
  obtain ⟨rfl, hP, hK⟩ := hv
  have hD : va_D (fun q : Nat => q ∈ L) (va_pl L f) := g_D hLn (fun a h => h) f
  generalize hAe : (fun q : Nat => q ∈ L) = A at hD ⊢
  have hx := B.exec
  have hb := B.bytes
  have hr := B.returns
  have hlocks := B.notSynchronized
  have hts0 := atoms_spec (ws := Cond.code yX4_endTick cX4_endTick 1 none :: lw_B) B.pre
  have hts : ∀ w ∈ lw_B, w.before _ s = true := fun w h => hts0 w (List.mem_cons_of_mem _ h)
  have hown : s.vm.findClass RX4 = some m.cls := findClass_of_methodNamed B.named
  have hS : va_S A s.heap s.heap [] := va_S.rf
  have hl := lv_entry ([.ref h0]) (n := 1) (Nat.le_of_ble_eq_true rfl)
  rw [lg_entry_eq]
  generalize (lg_sl ([.ref h0]) ++ List.replicate (1 - (lg_sl ([.ref h0])).length) Slot.unset).toArray = ls at hl ⊢
  have hl : lv_has ls 1 [(0, .ref h0)] := hl
  refine lv_aload_n hx hb dX4_endTick_0 rfl (lv_at hl 0 rfl) ?_
  refine lv_iconst (v := 0) hx hb dX4_endTick_1 (by decide) ?_
  obtain ⟨fs1, hF1, hn1, -⟩ := hI.o hm_h0 hk_h0 rfl (ci := 4) rfl (n := 8) rfl
  refine g_put (ci := 4) (v := .int 0) (ty := .int) (C := RX4) (T := TX4) (N := 8) hx hb hts uB4 tyX4 tyX4_ok nmX4 hown hK hP hD hS hm_h0 hF1 rfl 4 (by decide) wm_179 rfl (by decide +kernel) rfl rfl (by rw [hn1]; decide) dX4_endTick_2 (fun H locs hP hD hS => ?_)
  obtain ⟨f_2, ef_2⟩ : ∃ z9, z9 = va_up f h0 (.inr (4, List.set fs1 4 (.int 0))) := ⟨_, rfl⟩
  have hI := hI.p hm_h0 hk_h0 4 (ci := 4) (t := 1) (v := .int 0) ⟨rfl, rfl, by decide, rfl⟩ hF1 fv1
  rw [← ef_2] at hP hD hI
  refine lv_aload_n hx hb dX4_endTick_5 rfl (lv_at hl 0 rfl) ?_
  refine lv_iconst (v := 0) hx hb dX4_endTick_6 (by decide) ?_
  obtain ⟨fs3, hF3, hn3, -⟩ := hI.o hm_h0 hk_h0 rfl (ci := 4) rfl (n := 8) rfl
  refine g_put (ci := 4) (v := .int 0) (ty := .int) (C := RX4) (T := TX4) (N := 8) hx hb hts uB4 tyX4 tyX4_ok nmX4 hown hK hP hD hS hm_h0 hF3 rfl 6 (by decide) wm_180 rfl (by decide +kernel) rfl rfl (by rw [hn3]; decide) dX4_endTick_7 (fun H locs hP hD hS => ?_)
  obtain ⟨f_4, ef_4⟩ : ∃ z9, z9 = va_up f_2 h0 (.inr (4, List.set fs3 6 (.int 0))) := ⟨_, rfl⟩
  have hI := hI.p hm_h0 hk_h0 6 (ci := 4) (t := 1) (v := .int 0) ⟨rfl, rfl, by decide, rfl⟩ hF3 fv1
  rw [← ef_4] at hP hD hI
  exact W.vret hx hb hr (fun t ht hW => ⟨⟨f_4, rfl, hI, by show va_P (dC, dI) vwCl (va_pl L f_4) t.heap; rw [ht]; exact hP⟩, hS.F ht⟩) hS.2.2 dX4_endTick_10
set_option maxHeartbeats 4000000 in
set_option maxRecDepth 100000 in
theorem k_X4_chanceOf (l : Launch) (dC : Nat → ClassId) (dI : Nat → Nat → Nat) (K : Nat → ClassId) (L : List Nat) (f : Nat → va_E) {np nc ns lk lc tp cp gp : Nat} {G J mk st : Nat → Int32} {ap : Nat → Int64} {kd sn : Nat → Nat} (hI : cI K np nc ns lk lc tp cp gp G J mk st ap kd sn L f) (h0 : Nat) (hm_h0 : h0 ∈ L) (hk_h0 : kd h0 = 19) (z : Int64) : gRl l yX4_chanceOf cX4_chanceOf 4 .long 0 (dC, dI) K L f [.ref h0, .long z] (fun r => True) := by
  refine Met.ofW (cc := cX4_chanceOf) (maxL := 4) (ret := some .long) (by decide) rfl ?_
  intro p e s m args below meth c s₁ B hml hv
  obtain ⟨rfl, hP, hK⟩ := hv
  have hx := B.exec
  have hb := B.bytes
  have hr := B.returns
  have hlocks := B.notSynchronized
  have hts0 := atoms_spec (ws := Cond.code yX4_chanceOf cX4_chanceOf 4 (some .long) :: lw_B) B.pre
  have hts : ∀ w ∈ lw_B, w.before _ s = true := fun w h => hts0 w (List.mem_cons_of_mem _ h)
  have hown : s.vm.findClass RX4 = some m.cls := findClass_of_methodNamed B.named
  have hS : va_S (fun _ => False) s.heap s.heap [] := va_S.rf
  have hl := lv_entry ([.ref h0, .long z]) (n := 4) (Nat.le_of_ble_eq_true rfl)
  rw [lg_entry_eq]
  generalize (lg_sl ([.ref h0, .long z]) ++ List.replicate (4 - (lg_sl ([.ref h0, .long z])).length) Slot.unset).toArray = ls at hl ⊢
  have hl : lv_has ls 4 [(0, .ref h0), (1, .long z)] := hl
  refine lv_aload_n hx hb dX4_chanceOf_0 rfl (lv_at hl 0 rfl) ?_
  obtain ⟨fs1, x_1, hF1, hv1⟩ := hI.gI hm_h0 hk_h0 3 (ci := 4) ⟨rfl, rfl, by decide, rfl⟩
  refine g_get (ci := 4) (v := .int x_1) (C := RX4) (T := TX4) (N := 8) hx hb hts uB4 hown hK hP hm_h0 hF1 rfl 3 (by decide) wm_181 hv1 dX4_chanceOf_1 ?_
  refine lv_aload_n hx hb dX4_chanceOf_4 rfl (lv_at hl 0 rfl) ?_
  obtain ⟨fs2, x_2, hF2, hv2⟩ := hI.gI hm_h0 hk_h0 4 (ci := 4) ⟨rfl, rfl, by decide, rfl⟩
  refine g_get (ci := 4) (v := .int x_2) (C := RX4) (T := TX4) (N := 8) hx hb hts uB4 hown hK hP hm_h0 hF2 rfl 4 (by decide) wm_179 hv2 dX4_chanceOf_5 ?_
  refine lv_isub hx hb dX4_chanceOf_8 ?_
  refine lv_topi (fun x_3 ex_3 => ?_)
  refine lv_bipush (v := 20) hx hb dX4_chanceOf_9 (by decide) ?_
  refine lv_iadd hx hb dX4_chanceOf_11 ?_
  refine lv_topi (fun x_4 ex_4 => ?_)
  refine lv_istore_n (lv' := [(3, .int x_4), (0, .ref h0), (1, .long z)]) hx hb dX4_chanceOf_12 rfl hl (by decide) rfl (fun ls hl => ?_)
  refine lv_iload_n hx hb dX4_chanceOf_13 rfl (lv_at hl 0 rfl) ?_
  refine lv_if_gt (tgt := 19) hx hb dX4_chanceOf_14 (by decide) (fun c_5 => ?_) (fun c_5 => ?_)
  · skip
    have h14 := c_5
    refine lv_lload_n hx hb dX4_chanceOf_19 rfl (lv_at hl 2 rfl) ?_
    refine lv_aload_n hx hb dX4_chanceOf_20 rfl (lv_at hl 1 rfl) ?_
    obtain ⟨fs6, x_6, hF6, hv6⟩ := hI.gI hm_h0 hk_h0 5 (ci := 4) ⟨rfl, rfl, by decide, rfl⟩
    refine g_get (ci := 4) (v := .int x_6) (C := RX4) (T := TX4) (N := 8) hx hb hts uB4 hown hK hP hm_h0 hF6 rfl 5 (by decide) wm_182 hv6 dX4_chanceOf_21 ?_
    refine lv_aload_n hx hb dX4_chanceOf_24 rfl (lv_at hl 1 rfl) ?_
    obtain ⟨fs7, x_7, hF7, hv7⟩ := hI.gI hm_h0 hk_h0 6 (ci := 4) ⟨rfl, rfl, by decide, rfl⟩
    refine g_get (ci := 4) (v := .int x_7) (C := RX4) (T := TX4) (N := 8) hx hb hts uB4 hown hK hP hm_h0 hF7 rfl 6 (by decide) wm_180 hv7 dX4_chanceOf_25 ?_
    refine lv_isub hx hb dX4_chanceOf_28 ?_
    refine lv_topi (fun x_8 ex_8 => ?_)
    refine lv_iconst (v := 1) hx hb dX4_chanceOf_29 (by decide) ?_
    refine lv_iadd hx hb dX4_chanceOf_30 ?_
    refine lv_topi (fun x_9 ex_9 => ?_)
    refine lv_i2l hx hb dX4_chanceOf_31 rfl ?_
    refine lv_topl (fun x_10 ex_10 => ?_)
    refine lv_lmul hx hb dX4_chanceOf_32 ?_
    refine lv_topl (fun x_11 ex_11 => ?_)
    refine lv_iload_n hx hb dX4_chanceOf_33 rfl (lv_at hl 0 rfl) ?_
    refine lv_i2l hx hb dX4_chanceOf_34 rfl ?_
    refine lv_topl (fun x_12 ex_12 => ?_)
    refine lv_ldiv hx hb dX4_chanceOf_35 (by rw [ex_12]; exact k_pl0 h14) ?_
    refine lv_topl (fun x_13 ex_13 => ?_)
    exact W.lret (v := x_13) hx hb hr (fun t ht hW => ⟨⟨x_13, (), rfl, trivial, trivial⟩, hS.F ht⟩) hS.2.2 dX4_chanceOf_36
  · skip
    refine lv_lconst (v := 0) hx hb dX4_chanceOf_17 rfl ?_
    exact W.lret (v := 0) hx hb hr (fun t ht hW => ⟨⟨0, (), rfl, trivial, trivial⟩, hS.F ht⟩) hS.2.2 dX4_chanceOf_18
set_option maxHeartbeats 4000000 in
set_option maxRecDepth 100000 in
theorem k_X4_showsTo (l : Launch) (dC : Nat → ClassId) (dI : Nat → Nat → Nat) (K : Nat → ClassId) (L : List Nat) (f : Nat → va_E) {np nc ns lk lc tp cp gp : Nat} {G J mk st : Nat → Int32} {ap : Nat → Int64} {kd sn : Nat → Nat} (hI : cI K np nc ns lk lc tp cp gp G J mk st ap kd sn L f) (h0 : Nat) (hm_h0 : h0 ∈ L) (hk_h0 : kd h0 = 19) (x : Int32) (y : Int32) : gR l yX4_showsTo cX4_showsTo 5 .int 0 (dC, dI) K L f [.ref h0, .int x, .int y] (fun r => True) := by
  refine Met.ofW (cc := cX4_showsTo) (maxL := 5) (ret := some .int) (by decide) rfl ?_
  intro p e s m args below meth c s₁ B hml hv
  obtain ⟨rfl, hP, hK⟩ := hv
  have hx := B.exec
  have hb := B.bytes
  have hr := B.returns
  have hlocks := B.notSynchronized
  have hts0 := atoms_spec (ws := Cond.code yX4_showsTo cX4_showsTo 5 (some .int) :: lw_B) B.pre
  have hts : ∀ w ∈ lw_B, w.before _ s = true := fun w h => hts0 w (List.mem_cons_of_mem _ h)
  have hown : s.vm.findClass RX4 = some m.cls := findClass_of_methodNamed B.named
  have hS : va_S (fun _ => False) s.heap s.heap [] := va_S.rf
  have hl := lv_entry ([.ref h0, .int x, .int y]) (n := 5) (Nat.le_of_ble_eq_true rfl)
  rw [lg_entry_eq]
  generalize (lg_sl ([.ref h0, .int x, .int y]) ++ List.replicate (5 - (lg_sl ([.ref h0, .int x, .int y])).length) Slot.unset).toArray = ls at hl ⊢
  have hl : lv_has ls 5 [(0, .ref h0), (1, .int x), (2, .int y)] := hl
  refine lv_iconst (v := 0) hx hb dX4_showsTo_0 (by decide) ?_
  refine lv_istore_n (lv' := [(3, .int 0), (0, .ref h0), (1, .int x), (2, .int y)]) hx hb dX4_showsTo_1 rfl hl (by decide) rfl (fun ls hl => ?_)
  refine lv_aload_n hx hb dX4_showsTo_2 rfl (lv_at hl 1 rfl) ?_
  obtain ⟨fs1, hF1, hv1⟩ := hI.g9 hm_h0 hk_h0 7 (ci := 4) ⟨rfl, rfl, by decide, rfl⟩
  rcases hv1 with hv1 | ⟨b_1, hm_b_1, hk_b_1, hs_b_1, hv1⟩
  · skip
    refine g_get (ci := 4) (v := .null) (C := RX4) (T := TX4) (N := 8) hx hb hts uB4 hown hK hP hm_h0 hF1 rfl 7 (by decide) wm_183 hv1 dX4_showsTo_3 ?_
    refine lv_astoreN (lv' := [(4, .null), (3, .int 0), (0, .ref h0), (1, .int x), (2, .int y)]) hx hb dX4_showsTo_6 hl (by decide) rfl (fun ls hl => ?_)
    refine k_lx (pcx := 53) (fun n H locs ls => ∃ (cnt : Int32) (o9 : Option Nat), snO sn o9 = n ∧ (o9 = none ∨ ∃ b, b ∈ L ∧ kd b = 18 ∧ o9 = some b) ∧ va_P (dC, dI) vwCl (va_pl L f) H ∧ va_S (fun _ => False) s.heap H locs ∧ lv_has ls 5 [(0, .ref h0), (1, .int x), (2, .int y), (3, .int cnt), (4, (va_rf o9))]) (fun H locs ls => ∃ (cnt : Int32) (o9 : Option Nat), va_P (dC, dI) vwCl (va_pl L f) H ∧ va_S (fun _ => False) s.heap H locs ∧ lv_has ls 5 [(0, .ref h0), (1, .int x), (2, .int y), (3, .int cnt)]) (fun H locs ls hI_ => ?_) (fun n H locs ls hI_ hEa iha => ?_) _ _ _ _ ⟨_, none, rfl, Or.inl rfl, hP, hS, lv_sub hl [2, 3, 4, 1, 0] rfl⟩
    · skip
      obtain ⟨cnt, o9, hP, hS, hl⟩ := hI_
      refine lv_iload_n hx hb dX4_showsTo_53 rfl (lv_at hl 3 rfl) ?_
      exact W.iret (v := cnt) hx hb hr (fun t ht hW => ⟨⟨cnt, (), rfl, trivial, trivial⟩, hS.F ht⟩) hS.2.2 dX4_showsTo_54
    · skip
      obtain ⟨cnt, o9, hmua, ho, hP, hS, hl⟩ := hI_
      rcases ho with rfl | ⟨b9, hm_b9, hk_b9, rfl⟩
      · skip
        have hl : lv_has ls 5 [(0, .ref h0), (1, .int x), (2, .int y), (3, .int cnt), (4, .null)] := hl
        refine lv_aloadN hx hb dX4_showsTo_8 (lv_at hl 4 rfl) ?_
        refine lv_ifnullN (tgt := 53) hx hb dX4_showsTo_10 (by decide) ?_
        exact hEa _ _ _ ⟨_, none, hP, hS, lv_sub hl [0, 1, 2, 3] rfl⟩
      · skip
        have hl : lv_has ls 5 [(0, .ref h0), (1, .int x), (2, .int y), (3, .int cnt), (4, .ref b9)] := hl
        refine lv_aload hx hb dX4_showsTo_8 (lv_at hl 4 rfl) ?_
        refine lv_ifnull hx hb dX4_showsTo_10 ?_
        refine lv_aload hx hb dX4_showsTo_13 (lv_at hl 4 rfl) ?_
        obtain ⟨fs2, x_2, hF2, hv2⟩ := hI.gI hm_b9 hk_b9 0 (ci := 3) ⟨rfl, rfl, by decide, rfl⟩
        refine g_get (ci := 3) (v := .int x_2) (C := RX3) (T := TX3) (N := 12) hx hb hts uB3 hown hK hP hm_b9 hF2 rfl 0 (by decide) wm_184 hv2 dX4_showsTo_15 ?_
        refine lv_iload_n hx hb dX4_showsTo_18 rfl (lv_at hl 2 rfl) ?_
        refine lv_icmp_le (tgt := 53) hx hb dX4_showsTo_19 (by decide) (fun c_3 => ?_) (fun c_3 => ?_)
        · skip
          exact hEa _ _ _ ⟨_, none, hP, hS, lv_sub hl [0, 1, 2, 3] rfl⟩
        · skip
          refine lv_aload hx hb dX4_showsTo_22 (lv_at hl 4 rfl) ?_
          obtain ⟨fs4, x_4, hF4, hv4⟩ := hI.gI hm_b9 hk_b9 1 (ci := 3) ⟨rfl, rfl, by decide, rfl⟩
          refine g_get (ci := 3) (v := .int x_4) (C := RX3) (T := TX3) (N := 12) hx hb hts uB3 hown hK hP hm_b9 hF4 rfl 1 (by decide) wm_185 hv4 dX4_showsTo_24 ?_
          refine lv_iload_n hx hb dX4_showsTo_27 rfl (lv_at hl 1 rfl) ?_
          refine lv_icmp_ne (tgt := 43) hx hb dX4_showsTo_28 (by decide) (fun c_5 => ?_) (fun c_5 => ?_)
          · skip
            refine lv_aload hx hb dX4_showsTo_43 (lv_at hl 4 rfl) ?_
            obtain ⟨fs6, hF6, hv6⟩ := hI.g8 hm_b9 hk_b9 11 (ci := 3) ⟨rfl, rfl, by decide, rfl⟩
            rcases hv6 with hv6 | ⟨b_6, hm_b_6, hk_b_6, hs_b_6, hv6⟩
            · skip
              refine g_get (ci := 3) (v := .null) (C := RX3) (T := TX3) (N := 12) hx hb hts uB3 hown hK hP hm_b9 hF6 rfl 11 (by decide) wm_186 hv6 dX4_showsTo_45 ?_
              refine lv_astoreN (lv' := [(4, .null), (0, .ref h0), (1, .int x), (2, .int y), (3, .int cnt)]) hx hb dX4_showsTo_48 hl (by decide) rfl (fun ls hl => ?_)
              refine lv_goto (tgt := 8) hx hb dX4_showsTo_50 (by decide) ?_
              exact iha _ (by rw [← hmua]; exact Nat.succ_pos _) _ _ _ ⟨_, none, rfl, Or.inl rfl, hP, hS, lv_sub hl [1, 2, 3, 4, 0] rfl⟩
            · skip
              refine g_get (ci := 3) (v := .ref b_6) (C := RX3) (T := TX3) (N := 12) hx hb hts uB3 hown hK hP hm_b9 hF6 rfl 11 (by decide) wm_186 hv6 dX4_showsTo_45 ?_
              refine lv_astore (lv' := [(4, .ref b_6), (0, .ref h0), (1, .int x), (2, .int y), (3, .int cnt)]) hx hb dX4_showsTo_48 hl (by decide) rfl (fun ls hl => ?_)
              refine lv_goto (tgt := 8) hx hb dX4_showsTo_50 (by decide) ?_
              exact iha _ (by rw [← hmua]; exact Nat.succ_lt_succ hs_b_6) _ _ _ ⟨_, (some b_6), rfl, Or.inr ⟨b_6, hm_b_6, hk_b_6, rfl⟩, hP, hS, lv_sub hl [1, 2, 3, 4, 0] rfl⟩
          · skip
            refine lv_aload hx hb dX4_showsTo_31 (lv_at hl 4 rfl) ?_
            obtain ⟨fs7, x_7, hF7, hv7⟩ := hI.gI hm_b9 hk_b9 6 (ci := 3) ⟨rfl, rfl, by decide, rfl⟩
            refine g_get (ci := 3) (v := .int x_7) (C := RX3) (T := TX3) (N := 12) hx hb hts uB3 hown hK hP hm_b9 hF7 rfl 6 (by decide) wm_187 hv7 dX4_showsTo_33 ?_
            refine lv_iconst (v := 3) hx hb dX4_showsTo_36 (by decide) ?_
            refine lv_icmp_eq (tgt := 43) hx hb dX4_showsTo_37 (by decide) (fun c_8 => ?_) (fun c_8 => ?_)
            · skip
              refine lv_aload hx hb dX4_showsTo_43 (lv_at hl 4 rfl) ?_
              obtain ⟨fs9, hF9, hv9⟩ := hI.g8 hm_b9 hk_b9 11 (ci := 3) ⟨rfl, rfl, by decide, rfl⟩
              rcases hv9 with hv9 | ⟨b_9, hm_b_9, hk_b_9, hs_b_9, hv9⟩
              · skip
                refine g_get (ci := 3) (v := .null) (C := RX3) (T := TX3) (N := 12) hx hb hts uB3 hown hK hP hm_b9 hF9 rfl 11 (by decide) wm_186 hv9 dX4_showsTo_45 ?_
                refine lv_astoreN (lv' := [(4, .null), (0, .ref h0), (1, .int x), (2, .int y), (3, .int cnt)]) hx hb dX4_showsTo_48 hl (by decide) rfl (fun ls hl => ?_)
                refine lv_goto (tgt := 8) hx hb dX4_showsTo_50 (by decide) ?_
                exact iha _ (by rw [← hmua]; exact Nat.succ_pos _) _ _ _ ⟨_, none, rfl, Or.inl rfl, hP, hS, lv_sub hl [1, 2, 3, 4, 0] rfl⟩
              · skip
                refine g_get (ci := 3) (v := .ref b_9) (C := RX3) (T := TX3) (N := 12) hx hb hts uB3 hown hK hP hm_b9 hF9 rfl 11 (by decide) wm_186 hv9 dX4_showsTo_45 ?_
                refine lv_astore (lv' := [(4, .ref b_9), (0, .ref h0), (1, .int x), (2, .int y), (3, .int cnt)]) hx hb dX4_showsTo_48 hl (by decide) rfl (fun ls hl => ?_)
                refine lv_goto (tgt := 8) hx hb dX4_showsTo_50 (by decide) ?_
                exact iha _ (by rw [← hmua]; exact Nat.succ_lt_succ hs_b_9) _ _ _ ⟨_, (some b_9), rfl, Or.inr ⟨b_9, hm_b_9, hk_b_9, rfl⟩, hP, hS, lv_sub hl [1, 2, 3, 4, 0] rfl⟩
            · skip
              obtain ⟨x_10, ex_10⟩ : ∃ y : Int32, y = cnt + 1 := ⟨_, rfl⟩
              refine lv_iinc (v := x_10) (lv' := [(3, .int x_10), (0, .ref h0), (1, .int x), (2, .int y), (4, .ref b9)]) hx hb dX4_showsTo_40 hl (k := 3) rfl (by rw [ex_10]; rfl) (by decide) rfl (fun ls hl => ?_)
              refine lv_aload hx hb dX4_showsTo_43 (lv_at hl 4 rfl) ?_
              obtain ⟨fs11, hF11, hv11⟩ := hI.g8 hm_b9 hk_b9 11 (ci := 3) ⟨rfl, rfl, by decide, rfl⟩
              rcases hv11 with hv11 | ⟨b_11, hm_b_11, hk_b_11, hs_b_11, hv11⟩
              · skip
                refine g_get (ci := 3) (v := .null) (C := RX3) (T := TX3) (N := 12) hx hb hts uB3 hown hK hP hm_b9 hF11 rfl 11 (by decide) wm_186 hv11 dX4_showsTo_45 ?_
                refine lv_astoreN (lv' := [(4, .null), (3, .int x_10), (0, .ref h0), (1, .int x), (2, .int y)]) hx hb dX4_showsTo_48 hl (by decide) rfl (fun ls hl => ?_)
                refine lv_goto (tgt := 8) hx hb dX4_showsTo_50 (by decide) ?_
                exact iha _ (by rw [← hmua]; exact Nat.succ_pos _) _ _ _ ⟨_, none, rfl, Or.inl rfl, hP, hS, lv_sub hl [2, 3, 4, 1, 0] rfl⟩
              · skip
                refine g_get (ci := 3) (v := .ref b_11) (C := RX3) (T := TX3) (N := 12) hx hb hts uB3 hown hK hP hm_b9 hF11 rfl 11 (by decide) wm_186 hv11 dX4_showsTo_45 ?_
                refine lv_astore (lv' := [(4, .ref b_11), (3, .int x_10), (0, .ref h0), (1, .int x), (2, .int y)]) hx hb dX4_showsTo_48 hl (by decide) rfl (fun ls hl => ?_)
                refine lv_goto (tgt := 8) hx hb dX4_showsTo_50 (by decide) ?_
                exact iha _ (by rw [← hmua]; exact Nat.succ_lt_succ hs_b_11) _ _ _ ⟨_, (some b_11), rfl, Or.inr ⟨b_11, hm_b_11, hk_b_11, rfl⟩, hP, hS, lv_sub hl [2, 3, 4, 1, 0] rfl⟩
  · skip
    refine g_get (ci := 4) (v := .ref b_1) (C := RX4) (T := TX4) (N := 8) hx hb hts uB4 hown hK hP hm_h0 hF1 rfl 7 (by decide) wm_183 hv1 dX4_showsTo_3 ?_
    refine lv_astore (lv' := [(4, .ref b_1), (3, .int 0), (0, .ref h0), (1, .int x), (2, .int y)]) hx hb dX4_showsTo_6 hl (by decide) rfl (fun ls hl => ?_)
    refine k_lx (pcx := 53) (fun n H locs ls => ∃ (cnt : Int32) (o9 : Option Nat), snO sn o9 = n ∧ (o9 = none ∨ ∃ b, b ∈ L ∧ kd b = 18 ∧ o9 = some b) ∧ va_P (dC, dI) vwCl (va_pl L f) H ∧ va_S (fun _ => False) s.heap H locs ∧ lv_has ls 5 [(0, .ref h0), (1, .int x), (2, .int y), (3, .int cnt), (4, (va_rf o9))]) (fun H locs ls => ∃ (cnt : Int32) (o9 : Option Nat), va_P (dC, dI) vwCl (va_pl L f) H ∧ va_S (fun _ => False) s.heap H locs ∧ lv_has ls 5 [(0, .ref h0), (1, .int x), (2, .int y), (3, .int cnt)]) (fun H locs ls hI_ => ?_) (fun n H locs ls hI_ hEa iha => ?_) _ _ _ _ ⟨_, (some b_1), rfl, Or.inr ⟨b_1, hm_b_1, hk_b_1, rfl⟩, hP, hS, lv_sub hl [2, 3, 4, 1, 0] rfl⟩
    · skip
      obtain ⟨cnt, o9, hP, hS, hl⟩ := hI_
      refine lv_iload_n hx hb dX4_showsTo_53 rfl (lv_at hl 3 rfl) ?_
      exact W.iret (v := cnt) hx hb hr (fun t ht hW => ⟨⟨cnt, (), rfl, trivial, trivial⟩, hS.F ht⟩) hS.2.2 dX4_showsTo_54
    · skip
      obtain ⟨cnt, o9, hmua, ho, hP, hS, hl⟩ := hI_
      rcases ho with rfl | ⟨b9, hm_b9, hk_b9, rfl⟩
      · skip
        have hl : lv_has ls 5 [(0, .ref h0), (1, .int x), (2, .int y), (3, .int cnt), (4, .null)] := hl
        refine lv_aloadN hx hb dX4_showsTo_8 (lv_at hl 4 rfl) ?_
        refine lv_ifnullN (tgt := 53) hx hb dX4_showsTo_10 (by decide) ?_
        exact hEa _ _ _ ⟨_, none, hP, hS, lv_sub hl [0, 1, 2, 3] rfl⟩
      · skip
        have hl : lv_has ls 5 [(0, .ref h0), (1, .int x), (2, .int y), (3, .int cnt), (4, .ref b9)] := hl
        refine lv_aload hx hb dX4_showsTo_8 (lv_at hl 4 rfl) ?_
        refine lv_ifnull hx hb dX4_showsTo_10 ?_
        refine lv_aload hx hb dX4_showsTo_13 (lv_at hl 4 rfl) ?_
        obtain ⟨fs12, x_12, hF12, hv12⟩ := hI.gI hm_b9 hk_b9 0 (ci := 3) ⟨rfl, rfl, by decide, rfl⟩
        refine g_get (ci := 3) (v := .int x_12) (C := RX3) (T := TX3) (N := 12) hx hb hts uB3 hown hK hP hm_b9 hF12 rfl 0 (by decide) wm_184 hv12 dX4_showsTo_15 ?_
        refine lv_iload_n hx hb dX4_showsTo_18 rfl (lv_at hl 2 rfl) ?_
        refine lv_icmp_le (tgt := 53) hx hb dX4_showsTo_19 (by decide) (fun c_13 => ?_) (fun c_13 => ?_)
        · skip
          exact hEa _ _ _ ⟨_, none, hP, hS, lv_sub hl [0, 1, 2, 3] rfl⟩
        · skip
          refine lv_aload hx hb dX4_showsTo_22 (lv_at hl 4 rfl) ?_
          obtain ⟨fs14, x_14, hF14, hv14⟩ := hI.gI hm_b9 hk_b9 1 (ci := 3) ⟨rfl, rfl, by decide, rfl⟩
          refine g_get (ci := 3) (v := .int x_14) (C := RX3) (T := TX3) (N := 12) hx hb hts uB3 hown hK hP hm_b9 hF14 rfl 1 (by decide) wm_185 hv14 dX4_showsTo_24 ?_
          refine lv_iload_n hx hb dX4_showsTo_27 rfl (lv_at hl 1 rfl) ?_
          refine lv_icmp_ne (tgt := 43) hx hb dX4_showsTo_28 (by decide) (fun c_15 => ?_) (fun c_15 => ?_)
          · skip
            refine lv_aload hx hb dX4_showsTo_43 (lv_at hl 4 rfl) ?_
            obtain ⟨fs16, hF16, hv16⟩ := hI.g8 hm_b9 hk_b9 11 (ci := 3) ⟨rfl, rfl, by decide, rfl⟩
            rcases hv16 with hv16 | ⟨b_16, hm_b_16, hk_b_16, hs_b_16, hv16⟩
            · skip
              refine g_get (ci := 3) (v := .null) (C := RX3) (T := TX3) (N := 12) hx hb hts uB3 hown hK hP hm_b9 hF16 rfl 11 (by decide) wm_186 hv16 dX4_showsTo_45 ?_
              refine lv_astoreN (lv' := [(4, .null), (0, .ref h0), (1, .int x), (2, .int y), (3, .int cnt)]) hx hb dX4_showsTo_48 hl (by decide) rfl (fun ls hl => ?_)
              refine lv_goto (tgt := 8) hx hb dX4_showsTo_50 (by decide) ?_
              exact iha _ (by rw [← hmua]; exact Nat.succ_pos _) _ _ _ ⟨_, none, rfl, Or.inl rfl, hP, hS, lv_sub hl [1, 2, 3, 4, 0] rfl⟩
            · skip
              refine g_get (ci := 3) (v := .ref b_16) (C := RX3) (T := TX3) (N := 12) hx hb hts uB3 hown hK hP hm_b9 hF16 rfl 11 (by decide) wm_186 hv16 dX4_showsTo_45 ?_
              refine lv_astore (lv' := [(4, .ref b_16), (0, .ref h0), (1, .int x), (2, .int y), (3, .int cnt)]) hx hb dX4_showsTo_48 hl (by decide) rfl (fun ls hl => ?_)
              refine lv_goto (tgt := 8) hx hb dX4_showsTo_50 (by decide) ?_
              exact iha _ (by rw [← hmua]; exact Nat.succ_lt_succ hs_b_16) _ _ _ ⟨_, (some b_16), rfl, Or.inr ⟨b_16, hm_b_16, hk_b_16, rfl⟩, hP, hS, lv_sub hl [1, 2, 3, 4, 0] rfl⟩
          · skip
            refine lv_aload hx hb dX4_showsTo_31 (lv_at hl 4 rfl) ?_
            obtain ⟨fs17, x_17, hF17, hv17⟩ := hI.gI hm_b9 hk_b9 6 (ci := 3) ⟨rfl, rfl, by decide, rfl⟩
            refine g_get (ci := 3) (v := .int x_17) (C := RX3) (T := TX3) (N := 12) hx hb hts uB3 hown hK hP hm_b9 hF17 rfl 6 (by decide) wm_187 hv17 dX4_showsTo_33 ?_
            refine lv_iconst (v := 3) hx hb dX4_showsTo_36 (by decide) ?_
            refine lv_icmp_eq (tgt := 43) hx hb dX4_showsTo_37 (by decide) (fun c_18 => ?_) (fun c_18 => ?_)
            · skip
              refine lv_aload hx hb dX4_showsTo_43 (lv_at hl 4 rfl) ?_
              obtain ⟨fs19, hF19, hv19⟩ := hI.g8 hm_b9 hk_b9 11 (ci := 3) ⟨rfl, rfl, by decide, rfl⟩
              rcases hv19 with hv19 | ⟨b_19, hm_b_19, hk_b_19, hs_b_19, hv19⟩
              · skip
                refine g_get (ci := 3) (v := .null) (C := RX3) (T := TX3) (N := 12) hx hb hts uB3 hown hK hP hm_b9 hF19 rfl 11 (by decide) wm_186 hv19 dX4_showsTo_45 ?_
                refine lv_astoreN (lv' := [(4, .null), (0, .ref h0), (1, .int x), (2, .int y), (3, .int cnt)]) hx hb dX4_showsTo_48 hl (by decide) rfl (fun ls hl => ?_)
                refine lv_goto (tgt := 8) hx hb dX4_showsTo_50 (by decide) ?_
                exact iha _ (by rw [← hmua]; exact Nat.succ_pos _) _ _ _ ⟨_, none, rfl, Or.inl rfl, hP, hS, lv_sub hl [1, 2, 3, 4, 0] rfl⟩
              · skip
                refine g_get (ci := 3) (v := .ref b_19) (C := RX3) (T := TX3) (N := 12) hx hb hts uB3 hown hK hP hm_b9 hF19 rfl 11 (by decide) wm_186 hv19 dX4_showsTo_45 ?_
                refine lv_astore (lv' := [(4, .ref b_19), (0, .ref h0), (1, .int x), (2, .int y), (3, .int cnt)]) hx hb dX4_showsTo_48 hl (by decide) rfl (fun ls hl => ?_)
                refine lv_goto (tgt := 8) hx hb dX4_showsTo_50 (by decide) ?_
                exact iha _ (by rw [← hmua]; exact Nat.succ_lt_succ hs_b_19) _ _ _ ⟨_, (some b_19), rfl, Or.inr ⟨b_19, hm_b_19, hk_b_19, rfl⟩, hP, hS, lv_sub hl [1, 2, 3, 4, 0] rfl⟩
            · skip
              obtain ⟨x_20, ex_20⟩ : ∃ y : Int32, y = cnt + 1 := ⟨_, rfl⟩
              refine lv_iinc (v := x_20) (lv' := [(3, .int x_20), (0, .ref h0), (1, .int x), (2, .int y), (4, .ref b9)]) hx hb dX4_showsTo_40 hl (k := 3) rfl (by rw [ex_20]; rfl) (by decide) rfl (fun ls hl => ?_)
              refine lv_aload hx hb dX4_showsTo_43 (lv_at hl 4 rfl) ?_
              obtain ⟨fs21, hF21, hv21⟩ := hI.g8 hm_b9 hk_b9 11 (ci := 3) ⟨rfl, rfl, by decide, rfl⟩
              rcases hv21 with hv21 | ⟨b_21, hm_b_21, hk_b_21, hs_b_21, hv21⟩
              · skip
                refine g_get (ci := 3) (v := .null) (C := RX3) (T := TX3) (N := 12) hx hb hts uB3 hown hK hP hm_b9 hF21 rfl 11 (by decide) wm_186 hv21 dX4_showsTo_45 ?_
                refine lv_astoreN (lv' := [(4, .null), (3, .int x_20), (0, .ref h0), (1, .int x), (2, .int y)]) hx hb dX4_showsTo_48 hl (by decide) rfl (fun ls hl => ?_)
                refine lv_goto (tgt := 8) hx hb dX4_showsTo_50 (by decide) ?_
                exact iha _ (by rw [← hmua]; exact Nat.succ_pos _) _ _ _ ⟨_, none, rfl, Or.inl rfl, hP, hS, lv_sub hl [2, 3, 4, 1, 0] rfl⟩
              · skip
                refine g_get (ci := 3) (v := .ref b_21) (C := RX3) (T := TX3) (N := 12) hx hb hts uB3 hown hK hP hm_b9 hF21 rfl 11 (by decide) wm_186 hv21 dX4_showsTo_45 ?_
                refine lv_astore (lv' := [(4, .ref b_21), (3, .int x_20), (0, .ref h0), (1, .int x), (2, .int y)]) hx hb dX4_showsTo_48 hl (by decide) rfl (fun ls hl => ?_)
                refine lv_goto (tgt := 8) hx hb dX4_showsTo_50 (by decide) ?_
                exact iha _ (by rw [← hmua]; exact Nat.succ_lt_succ hs_b_21) _ _ _ ⟨_, (some b_21), rfl, Or.inr ⟨b_21, hm_b_21, hk_b_21, rfl⟩, hP, hS, lv_sub hl [2, 3, 4, 1, 0] rfl⟩
set_option maxHeartbeats 4000000 in
set_option maxRecDepth 100000 in
theorem k_X4_addShowing (l : Launch) (dC : Nat → ClassId) (dI : Nat → Nat → Nat) (K : Nat → ClassId) (L : List Nat) (f : Nat → va_E) {np nc ns lk lc tp cp gp : Nat} {G J mk st : Nat → Int32} {ap : Nat → Int64} {kd sn : Nat → Nat} (hI : cI K np nc ns lk lc tp cp gp G J mk st ap kd sn L f) (h0 : Nat) (hm_h0 : h0 ∈ L) (hk_h0 : kd h0 = 19) (b : Nat) (hm_b : b ∈ L) (hk_b : kd b = 18) (hlk : lk ≤ sn b) (hLn : gN L) : gMv l yX4_addShowing cX4_addShowing 2 0 (dC, dI) K L f [.ref h0, .ref b] (fun f' => cI K np nc ns (sn b + 1) lc tp cp gp G J mk st ap kd sn L f') := by
  refine Met.ofW (cc := cX4_addShowing) (maxL := 2) (ret := none) (by decide) rfl ?_
  intro p e s m args below meth c s₁ B hml hv
  obtain ⟨rfl, hP, hK⟩ := hv
  have hD : va_D (fun q : Nat => q ∈ L) (va_pl L f) := g_D hLn (fun a h => h) f
  generalize hAe : (fun q : Nat => q ∈ L) = A at hD ⊢
  have hx := B.exec
  have hb := B.bytes
  have hr := B.returns
  have hlocks := B.notSynchronized
  have hts0 := atoms_spec (ws := Cond.code yX4_addShowing cX4_addShowing 2 none :: lw_B) B.pre
  have hts : ∀ w ∈ lw_B, w.before _ s = true := fun w h => hts0 w (List.mem_cons_of_mem _ h)
  have hown : s.vm.findClass RX4 = some m.cls := findClass_of_methodNamed B.named
  have hS : va_S A s.heap s.heap [] := va_S.rf
  have hl := lv_entry ([.ref h0, .ref b]) (n := 2) (Nat.le_of_ble_eq_true rfl)
  rw [lg_entry_eq]
  generalize (lg_sl ([.ref h0, .ref b]) ++ List.replicate (2 - (lg_sl ([.ref h0, .ref b])).length) Slot.unset).toArray = ls at hl ⊢
  have hl : lv_has ls 2 [(0, .ref h0), (1, .ref b)] := hl
  refine lv_aload_n hx hb dX4_addShowing_0 rfl (lv_at hl 0 rfl) ?_
  refine lv_dup hx hb dX4_addShowing_1 rfl ?_
  obtain ⟨fs1, x_1, hF1, hv1⟩ := hI.gI hm_h0 hk_h0 3 (ci := 4) ⟨rfl, rfl, by decide, rfl⟩
  refine g_get (ci := 4) (v := .int x_1) (C := RX4) (T := TX4) (N := 8) hx hb hts uB4 hown hK hP hm_h0 hF1 rfl 3 (by decide) wm_181 hv1 dX4_addShowing_2 ?_
  refine lv_iconst (v := 1) hx hb dX4_addShowing_5 (by decide) ?_
  refine lv_iadd hx hb dX4_addShowing_6 ?_
  refine lv_topi (fun x_2 ex_2 => ?_)
  obtain ⟨fs3, hF3, hn3, -⟩ := hI.o hm_h0 hk_h0 rfl (ci := 4) rfl (n := 8) rfl
  refine g_put (ci := 4) (v := .int x_2) (ty := .int) (C := RX4) (T := TX4) (N := 8) hx hb hts uB4 tyX4 tyX4_ok nmX4 hown hK hP hD hS hm_h0 hF3 rfl 3 (by decide) wm_181 rfl (by decide +kernel) rfl rfl (by rw [hn3]; decide) dX4_addShowing_7 (fun H locs hP hD hS => ?_)
  obtain ⟨f_4, ef_4⟩ : ∃ z9, z9 = va_up f h0 (.inr (4, List.set fs3 3 (.int x_2))) := ⟨_, rfl⟩
  have hI := hI.p hm_h0 hk_h0 3 (ci := 4) (t := 1) (v := .int x_2) ⟨rfl, rfl, by decide, rfl⟩ hF3 fv1
  rw [← ef_4] at hP hD hI
  refine lv_aload_n hx hb dX4_addShowing_10 rfl (lv_at hl 0 rfl) ?_
  refine lv_dup hx hb dX4_addShowing_11 rfl ?_
  obtain ⟨fs5, x_5, hF5, hv5⟩ := hI.gI hm_h0 hk_h0 4 (ci := 4) ⟨rfl, rfl, by decide, rfl⟩
  refine g_get (ci := 4) (v := .int x_5) (C := RX4) (T := TX4) (N := 8) hx hb hts uB4 hown hK hP hm_h0 hF5 rfl 4 (by decide) wm_179 hv5 dX4_addShowing_12 ?_
  refine lv_iconst (v := 1) hx hb dX4_addShowing_15 (by decide) ?_
  refine lv_iadd hx hb dX4_addShowing_16 ?_
  refine lv_topi (fun x_6 ex_6 => ?_)
  obtain ⟨fs7, hF7, hn7, -⟩ := hI.o hm_h0 hk_h0 rfl (ci := 4) rfl (n := 8) rfl
  refine g_put (ci := 4) (v := .int x_6) (ty := .int) (C := RX4) (T := TX4) (N := 8) hx hb hts uB4 tyX4 tyX4_ok nmX4 hown hK hP hD hS hm_h0 hF7 rfl 4 (by decide) wm_179 rfl (by decide +kernel) rfl rfl (by rw [hn7]; decide) dX4_addShowing_17 (fun H locs hP hD hS => ?_)
  obtain ⟨f_8, ef_8⟩ : ∃ z9, z9 = va_up f_4 h0 (.inr (4, List.set fs7 4 (.int x_6))) := ⟨_, rfl⟩
  have hI := hI.p hm_h0 hk_h0 4 (ci := 4) (t := 1) (v := .int x_6) ⟨rfl, rfl, by decide, rfl⟩ hF7 fv1
  rw [← ef_8] at hP hD hI
  refine lv_aload_n hx hb dX4_addShowing_20 rfl (lv_at hl 1 rfl) ?_
  refine lv_aload_n hx hb dX4_addShowing_21 rfl (lv_at hl 0 rfl) ?_
  obtain ⟨fs9, hF9, hv9⟩ := hI.g9 hm_h0 hk_h0 7 (ci := 4) ⟨rfl, rfl, by decide, rfl⟩
  rcases hv9 with hv9 | ⟨b_9, hm_b_9, hk_b_9, hs_b_9, hv9⟩
  · skip
    refine g_get (ci := 4) (v := .null) (C := RX4) (T := TX4) (N := 8) hx hb hts uB4 hown hK hP hm_h0 hF9 rfl 7 (by decide) wm_183 hv9 dX4_addShowing_22 ?_
    obtain ⟨fs10, hF10, hn10, -⟩ := hI.o hm_b hk_b rfl (ci := 3) rfl (n := 12) rfl
    refine g_put (ci := 3) (v := .null) (ty := .object "NoticeMarket$Sale") (C := RX3) (T := TX3) (N := 12) hx hb hts uB3 tyX3 tyX3_ok nmX3 hown hK hP hD hS hm_b hF10 rfl 11 (by decide) wm_186 rfl (by decide +kernel) rfl rfl (by rw [hn10]; decide) dX4_addShowing_25 (fun H locs hP hD hS => ?_)
    obtain ⟨f_11, ef_11⟩ : ∃ z9, z9 = va_up f_8 b (.inr (3, List.set fs10 11 (.null))) := ⟨_, rfl⟩
    have hI := hI.p hm_b hk_b 11 (ci := 3) (t := 8) (v := .null) ⟨rfl, rfl, by decide, rfl⟩ hF10 fv8n
    rw [← ef_11] at hP hD hI
    have hI := hI.le (lk' := sn b + 1) (Nat.le_succ_of_le hlk) (Nat.le_refl _) (Nat.le_refl _) (Nat.le_refl _) (Nat.le_refl _)
    refine lv_aload_n hx hb dX4_addShowing_28 rfl (lv_at hl 0 rfl) ?_
    refine lv_aload_n hx hb dX4_addShowing_29 rfl (lv_at hl 1 rfl) ?_
    obtain ⟨fs12, hF12, hn12, -⟩ := hI.o hm_h0 hk_h0 rfl (ci := 4) rfl (n := 8) rfl
    refine g_put (ci := 4) (v := .ref b) (ty := .object "NoticeMarket$Sale") (C := RX4) (T := TX4) (N := 8) hx hb hts uB4 tyX4 tyX4_ok nmX4 hown hK hP hD hS hm_h0 hF12 rfl 7 (by decide) wm_183 rfl (by decide +kernel) rfl rfl (by rw [hn12]; decide) dX4_addShowing_30 (fun H locs hP hD hS => ?_)
    obtain ⟨f_13, ef_13⟩ : ∃ z9, z9 = va_up f_11 h0 (.inr (4, List.set fs12 7 (.ref b))) := ⟨_, rfl⟩
    have hI := hI.p hm_h0 hk_h0 7 (ci := 4) (t := 9) (v := .ref b) ⟨rfl, rfl, by decide, rfl⟩ hF12 (fv9 hm_b hk_b (Nat.lt_succ_self _))
    rw [← ef_13] at hP hD hI
    exact W.vret hx hb hr (fun t ht hW => ⟨⟨f_13, rfl, hI, by show va_P (dC, dI) vwCl (va_pl L f_13) t.heap; rw [ht]; exact hP⟩, hS.F ht⟩) hS.2.2 dX4_addShowing_33
  · skip
    refine g_get (ci := 4) (v := .ref b_9) (C := RX4) (T := TX4) (N := 8) hx hb hts uB4 hown hK hP hm_h0 hF9 rfl 7 (by decide) wm_183 hv9 dX4_addShowing_22 ?_
    obtain ⟨fs14, hF14, hn14, -⟩ := hI.o hm_b hk_b rfl (ci := 3) rfl (n := 12) rfl
    refine g_put (ci := 3) (v := .ref b_9) (ty := .object "NoticeMarket$Sale") (C := RX3) (T := TX3) (N := 12) hx hb hts uB3 tyX3 tyX3_ok nmX3 hown hK hP hD hS hm_b hF14 rfl 11 (by decide) wm_186 rfl (by decide +kernel) rfl rfl (by rw [hn14]; decide) dX4_addShowing_25 (fun H locs hP hD hS => ?_)
    obtain ⟨f_15, ef_15⟩ : ∃ z9, z9 = va_up f_8 b (.inr (3, List.set fs14 11 (.ref b_9))) := ⟨_, rfl⟩
    have hI := hI.p hm_b hk_b 11 (ci := 3) (t := 8) (v := .ref b_9) ⟨rfl, rfl, by decide, rfl⟩ hF14 (fv8 hm_b_9 hk_b_9 (Nat.lt_of_lt_of_le hs_b_9 hlk))
    rw [← ef_15] at hP hD hI
    have hI := hI.le (lk' := sn b + 1) (Nat.le_succ_of_le hlk) (Nat.le_refl _) (Nat.le_refl _) (Nat.le_refl _) (Nat.le_refl _)
    refine lv_aload_n hx hb dX4_addShowing_28 rfl (lv_at hl 0 rfl) ?_
    refine lv_aload_n hx hb dX4_addShowing_29 rfl (lv_at hl 1 rfl) ?_
    obtain ⟨fs16, hF16, hn16, -⟩ := hI.o hm_h0 hk_h0 rfl (ci := 4) rfl (n := 8) rfl
    refine g_put (ci := 4) (v := .ref b) (ty := .object "NoticeMarket$Sale") (C := RX4) (T := TX4) (N := 8) hx hb hts uB4 tyX4 tyX4_ok nmX4 hown hK hP hD hS hm_h0 hF16 rfl 7 (by decide) wm_183 rfl (by decide +kernel) rfl rfl (by rw [hn16]; decide) dX4_addShowing_30 (fun H locs hP hD hS => ?_)
    obtain ⟨f_17, ef_17⟩ : ∃ z9, z9 = va_up f_15 h0 (.inr (4, List.set fs16 7 (.ref b))) := ⟨_, rfl⟩
    have hI := hI.p hm_h0 hk_h0 7 (ci := 4) (t := 9) (v := .ref b) ⟨rfl, rfl, by decide, rfl⟩ hF16 (fv9 hm_b hk_b (Nat.lt_succ_self _))
    rw [← ef_17] at hP hD hI
    exact W.vret hx hb hr (fun t ht hW => ⟨⟨f_17, rfl, hI, by show va_P (dC, dI) vwCl (va_pl L f_17) t.heap; rw [ht]; exact hP⟩, hS.F ht⟩) hS.2.2 dX4_addShowing_33
set_option maxHeartbeats 4000000 in
set_option maxRecDepth 100000 in
theorem k_X0_isApartFrom (l : Launch) (dC : Nat → ClassId) (dI : Nat → Nat → Nat) (K : Nat → ClassId) (L : List Nat) (f : Nat → va_E) {np nc ns lk lc tp cp gp : Nat} {G J mk st : Nat → Int32} {ap : Nat → Int64} {kd sn : Nat → Nat} (hI : cI K np nc ns lk lc tp cp gp G J mk st ap kd sn L f) (h0 : Nat) (hm_h0 : h0 ∈ L) (hk_h0 : kd h0 = 20) (x : Int32) : gR l yX0_isApartFrom cX0_isApartFrom 2 .boolean 0 (dC, dI) K L f [.ref h0, .int x] (fun r => (r = apb (ap (sn h0)) x)) := by
  refine Met.ofW (cc := cX0_isApartFrom) (maxL := 2) (ret := some .boolean) (by decide) rfl ?_
  intro p e s m args below meth c s₁ B hml hv
  obtain ⟨rfl, hP, hK⟩ := hv
  have hx := B.exec
  have hb := B.bytes
  have hr := B.returns
  have hlocks := B.notSynchronized
  have hts0 := atoms_spec (ws := Cond.code yX0_isApartFrom cX0_isApartFrom 2 (some .boolean) :: lw_B) B.pre
  have hts : ∀ w ∈ lw_B, w.before _ s = true := fun w h => hts0 w (List.mem_cons_of_mem _ h)
  have hown : s.vm.findClass RX0 = some m.cls := findClass_of_methodNamed B.named
  have hS : va_S (fun _ => False) s.heap s.heap [] := va_S.rf
  have hl := lv_entry ([.ref h0, .int x]) (n := 2) (Nat.le_of_ble_eq_true rfl)
  rw [lg_entry_eq]
  generalize (lg_sl ([.ref h0, .int x]) ++ List.replicate (2 - (lg_sl ([.ref h0, .int x])).length) Slot.unset).toArray = ls at hl ⊢
  have hl : lv_has ls 2 [(0, .ref h0), (1, .int x)] := hl
  refine lv_aload_n hx hb dX0_isApartFrom_0 rfl (lv_at hl 0 rfl) ?_
  obtain ⟨fs1, hF1, hv1⟩ := hI.gA hm_h0 hk_h0 12 (ci := 0) ⟨rfl, rfl, by decide, rfl⟩
  refine g_get (ci := 0) (v := .long (ap (sn h0))) (C := RX0) (T := TX0) (N := 16) hx hb hts uB0 hown hK hP hm_h0 hF1 rfl 12 (by decide) wm_188 hv1 dX0_isApartFrom_1 ?_
  refine lv_iload_n hx hb dX0_isApartFrom_4 rfl (lv_at hl 1 rfl) ?_
  refine lv_lushr hx hb dX0_isApartFrom_5 rfl ?_
  refine lv_topl (fun x_2 ex_2 => ?_)
  refine lv_lconst (v := 1) hx hb dX0_isApartFrom_6 rfl ?_
  refine lv_land hx hb dX0_isApartFrom_7 ?_
  refine lv_topl (fun x_3 ex_3 => ?_)
  refine lv_lconst (v := 1) hx hb dX0_isApartFrom_8 rfl ?_
  refine W.lcmp hx hb dX0_isApartFrom_9 ?_
  refine lv_topi (fun x_4 ex_4 => ?_)
  refine lv_if_ne (tgt := 17) hx hb dX0_isApartFrom_10 (by decide) (fun c_5 => ?_) (fun c_5 => ?_)
  · skip
    have hcm : ¬ ((_ : Int64) = 1) := (fun q => c_5 (by rw [ex_4]; exact (lg_cmp_eq _ _).mpr q))
    refine lv_iconst (v := 0) hx hb dX0_isApartFrom_17 (by decide) ?_
    exact W.zret (v := 0) hx hb hr rfl (fun t ht hW => ⟨⟨0, (), rfl, (by subst ex_3 ex_2; exact (if_neg hcm).symm), trivial⟩, hS.F ht⟩) hS.2.2 dX0_isApartFrom_18
  · skip
    have hcm : ((_ : Int64) = 1) := ((lg_cmp_eq _ _).mp (by rw [← ex_4]; exact c_5))
    refine lv_iconst (v := 1) hx hb dX0_isApartFrom_13 (by decide) ?_
    refine lv_goto (tgt := 18) hx hb dX0_isApartFrom_14 (by decide) ?_
    exact W.zret (v := 1) hx hb hr rfl (fun t ht hW => ⟨⟨1, (), rfl, (by subst ex_3 ex_2; exact (if_pos hcm).symm), trivial⟩, hS.F ht⟩) hS.2.2 dX0_isApartFrom_18
set_option maxHeartbeats 4000000 in
set_option maxRecDepth 100000 in
theorem k_X0_setApart (l : Launch) (dC : Nat → ClassId) (dI : Nat → Nat → Nat) (K : Nat → ClassId) (L : List Nat) (f : Nat → va_E) {np nc ns lk lc tp cp gp : Nat} {G J mk st : Nat → Int32} {ap : Nat → Int64} {kd sn : Nat → Nat} (hI : cI K np nc ns lk lc tp cp gp G J mk st ap kd sn L f) (h0 : Nat) (hm_h0 : h0 ∈ L) (hk_h0 : kd h0 = 20) (x : Int32) (y : Int32) (hLn : gN L) : gMv l yX0_setApart cX0_setApart 3 0 (dC, dI) K L f [.ref h0, .int x, .int y] (fun f' => cI K np nc ns lk lc tp cp gp G J mk st (va_up ap (sn h0) (setAp (ap (sn h0)) x y)) kd sn L f') := by
  refine Met.ofW (cc := cX0_setApart) (maxL := 3) (ret := none) (by decide) rfl ?_
  intro p e s m args below meth c s₁ B hml hv
  obtain ⟨rfl, hP, hK⟩ := hv
  have hD : va_D (fun q : Nat => q ∈ L) (va_pl L f) := g_D hLn (fun a h => h) f
  generalize hAe : (fun q : Nat => q ∈ L) = A at hD ⊢
  have hx := B.exec
  have hb := B.bytes
  have hr := B.returns
  have hlocks := B.notSynchronized
  have hts0 := atoms_spec (ws := Cond.code yX0_setApart cX0_setApart 3 none :: lw_B) B.pre
  have hts : ∀ w ∈ lw_B, w.before _ s = true := fun w h => hts0 w (List.mem_cons_of_mem _ h)
  have hown : s.vm.findClass RX0 = some m.cls := findClass_of_methodNamed B.named
  have hS : va_S A s.heap s.heap [] := va_S.rf
  have hl := lv_entry ([.ref h0, .int x, .int y]) (n := 3) (Nat.le_of_ble_eq_true rfl)
  rw [lg_entry_eq]
  generalize (lg_sl ([.ref h0, .int x, .int y]) ++ List.replicate (3 - (lg_sl ([.ref h0, .int x, .int y])).length) Slot.unset).toArray = ls at hl ⊢
  have hl : lv_has ls 3 [(0, .ref h0), (1, .int x), (2, .int y)] := hl
  refine lv_iload_n hx hb dX0_setApart_0 rfl (lv_at hl 2 rfl) ?_
  refine lv_if_eq (tgt := 19) hx hb dX0_setApart_1 (by decide) (fun c_1 => ?_) (fun c_1 => ?_)
  · skip
    refine lv_aload_n hx hb dX0_setApart_19 rfl (lv_at hl 0 rfl) ?_
    refine lv_dup hx hb dX0_setApart_20 rfl ?_
    obtain ⟨fs2, hF2, hv2⟩ := hI.gA hm_h0 hk_h0 12 (ci := 0) ⟨rfl, rfl, by decide, rfl⟩
    refine g_get (ci := 0) (v := .long (ap (sn h0))) (C := RX0) (T := TX0) (N := 16) hx hb hts uB0 hown hK hP hm_h0 hF2 rfl 12 (by decide) wm_188 hv2 dX0_setApart_21 ?_
    refine lv_lconst (v := 1) hx hb dX0_setApart_24 rfl ?_
    refine lv_iload_n hx hb dX0_setApart_25 rfl (lv_at hl 1 rfl) ?_
    refine lv_lshl hx hb dX0_setApart_26 rfl ?_
    refine lv_topl (fun x_3 ex_3 => ?_)
    refine lv_ldc2 (v := (-1)) hx hb hown (hts _ wm_189) dX0_setApart_27 ?_
    refine lv_lxor hx hb dX0_setApart_30 ?_
    refine lv_topl (fun x_4 ex_4 => ?_)
    refine lv_land hx hb dX0_setApart_31 ?_
    refine lv_topl (fun x_5 ex_5 => ?_)
    obtain ⟨fs6, hF6, hn6, -⟩ := hI.o hm_h0 hk_h0 rfl (ci := 0) rfl (n := 16) rfl
    refine g_put (ci := 0) (v := .long x_5) (ty := .long) (C := RX0) (T := TX0) (N := 16) hx hb hts uB0 tyX0 tyX0_ok nmX0 hown hK hP hD hS hm_h0 hF6 rfl 12 (by decide) wm_188 rfl (by decide +kernel) rfl rfl (by rw [hn6]; decide) dX0_setApart_32 (fun H locs hP hD hS => ?_)
    obtain ⟨f_7, ef_7⟩ : ∃ z9, z9 = va_up f h0 (.inr (0, List.set fs6 12 (.long x_5))) := ⟨_, rfl⟩
    have hI := hI.pA hm_h0 hk_h0 hF6 x_5
    rw [← ef_7] at hP hD hI
    have hz9 : x_5 = setAp (ap (sn h0)) x y := by rw [setAp, if_pos c_1]; subst ex_5 ex_4 ex_3; rfl
    rw [hz9] at hI
    exact W.vret hx hb hr (fun t ht hW => ⟨⟨f_7, rfl, hI, by show va_P (dC, dI) vwCl (va_pl L f_7) t.heap; rw [ht]; exact hP⟩, hS.F ht⟩) hS.2.2 dX0_setApart_35
  · skip
    refine lv_aload_n hx hb dX0_setApart_4 rfl (lv_at hl 0 rfl) ?_
    refine lv_dup hx hb dX0_setApart_5 rfl ?_
    obtain ⟨fs8, hF8, hv8⟩ := hI.gA hm_h0 hk_h0 12 (ci := 0) ⟨rfl, rfl, by decide, rfl⟩
    refine g_get (ci := 0) (v := .long (ap (sn h0))) (C := RX0) (T := TX0) (N := 16) hx hb hts uB0 hown hK hP hm_h0 hF8 rfl 12 (by decide) wm_188 hv8 dX0_setApart_6 ?_
    refine lv_lconst (v := 1) hx hb dX0_setApart_9 rfl ?_
    refine lv_iload_n hx hb dX0_setApart_10 rfl (lv_at hl 1 rfl) ?_
    refine lv_lshl hx hb dX0_setApart_11 rfl ?_
    refine lv_topl (fun x_9 ex_9 => ?_)
    refine lv_lor hx hb dX0_setApart_12 ?_
    refine lv_topl (fun x_10 ex_10 => ?_)
    obtain ⟨fs11, hF11, hn11, -⟩ := hI.o hm_h0 hk_h0 rfl (ci := 0) rfl (n := 16) rfl
    refine g_put (ci := 0) (v := .long x_10) (ty := .long) (C := RX0) (T := TX0) (N := 16) hx hb hts uB0 tyX0 tyX0_ok nmX0 hown hK hP hD hS hm_h0 hF11 rfl 12 (by decide) wm_188 rfl (by decide +kernel) rfl rfl (by rw [hn11]; decide) dX0_setApart_13 (fun H locs hP hD hS => ?_)
    obtain ⟨f_12, ef_12⟩ : ∃ z9, z9 = va_up f h0 (.inr (0, List.set fs11 12 (.long x_10))) := ⟨_, rfl⟩
    have hI := hI.pA hm_h0 hk_h0 hF11 x_10
    rw [← ef_12] at hP hD hI
    refine lv_goto (tgt := 35) hx hb dX0_setApart_16 (by decide) ?_
    have hz9 : x_10 = setAp (ap (sn h0)) x y := by rw [setAp, if_neg c_1]; subst ex_10 ex_9; rfl
    rw [hz9] at hI
    exact W.vret hx hb hr (fun t ht hW => ⟨⟨f_12, rfl, hI, by show va_P (dC, dI) vwCl (va_pl L f_12) t.heap; rw [ht]; exact hP⟩, hS.F ht⟩) hS.2.2 dX0_setApart_35
set_option maxHeartbeats 4000000 in
set_option maxRecDepth 100000 in
theorem k_X0_takePromise (l : Launch) (dC : Nat → ClassId) (dI : Nat → Nat → Nat) (K : Nat → ClassId) (L : List Nat) (f : Nat → va_E) {np nc ns lk lc tp cp gp : Nat} {G J mk st : Nat → Int32} {ap : Nat → Int64} {kd sn : Nat → Nat} (hI : cI K np nc ns lk lc tp cp gp G J mk st ap kd sn L f) (h0 : Nat) (hm_h0 : h0 ∈ L) (hk_h0 : kd h0 = 20) (x : Int32) (y : Int32) (z : Int64) (hLn : gN L) : gMv l yX0_takePromise cX0_takePromise 5 0 (dC, dI) K L f [.ref h0, .int x, .int y, .long z] (fun f' => cI K np nc ns lk lc tp cp gp G J mk st ap kd sn L f') := by
  refine Met.ofW (cc := cX0_takePromise) (maxL := 5) (ret := none) (by decide) rfl ?_
  intro p e s m args below meth c s₁ B hml hv
  obtain ⟨rfl, hP, hK⟩ := hv
  have hD : va_D (fun q : Nat => q ∈ L) (va_pl L f) := g_D hLn (fun a h => h) f
  generalize hAe : (fun q : Nat => q ∈ L) = A at hD ⊢
  have hx := B.exec
  have hb := B.bytes
  have hr := B.returns
  have hlocks := B.notSynchronized
  have hts0 := atoms_spec (ws := Cond.code yX0_takePromise cX0_takePromise 5 none :: lw_B) B.pre
  have hts : ∀ w ∈ lw_B, w.before _ s = true := fun w h => hts0 w (List.mem_cons_of_mem _ h)
  have hown : s.vm.findClass RX0 = some m.cls := findClass_of_methodNamed B.named
  have hS : va_S A s.heap s.heap [] := va_S.rf
  have hl := lv_entry ([.ref h0, .int x, .int y, .long z]) (n := 5) (Nat.le_of_ble_eq_true rfl)
  rw [lg_entry_eq]
  generalize (lg_sl ([.ref h0, .int x, .int y, .long z]) ++ List.replicate (5 - (lg_sl ([.ref h0, .int x, .int y, .long z])).length) Slot.unset).toArray = ls at hl ⊢
  have hl : lv_has ls 5 [(0, .ref h0), (1, .int x), (2, .int y), (3, .long z)] := hl
  refine lv_aload_n hx hb dX0_takePromise_0 rfl (lv_at hl 0 rfl) ?_
  refine lv_iload_n hx hb dX0_takePromise_1 rfl (lv_at hl 1 rfl) ?_
  obtain ⟨fs1, hF1, hn1, -⟩ := hI.o hm_h0 hk_h0 rfl (ci := 0) rfl (n := 16) rfl
  refine g_put (ci := 0) (v := .int x) (ty := .int) (C := RX0) (T := TX0) (N := 16) hx hb hts uB0 tyX0 tyX0_ok nmX0 hown hK hP hD hS hm_h0 hF1 rfl 13 (by decide) wm_190 rfl (by decide +kernel) rfl rfl (by rw [hn1]; decide) dX0_takePromise_2 (fun H locs hP hD hS => ?_)
  obtain ⟨f_2, ef_2⟩ : ∃ z9, z9 = va_up f h0 (.inr (0, List.set fs1 13 (.int x))) := ⟨_, rfl⟩
  have hI := hI.p hm_h0 hk_h0 13 (ci := 0) (t := 1) (v := .int x) ⟨rfl, rfl, by decide, rfl⟩ hF1 fv1
  rw [← ef_2] at hP hD hI
  refine lv_aload_n hx hb dX0_takePromise_5 rfl (lv_at hl 0 rfl) ?_
  refine lv_iload_n hx hb dX0_takePromise_6 rfl (lv_at hl 2 rfl) ?_
  obtain ⟨fs3, hF3, hn3, -⟩ := hI.o hm_h0 hk_h0 rfl (ci := 0) rfl (n := 16) rfl
  refine g_put (ci := 0) (v := .int y) (ty := .int) (C := RX0) (T := TX0) (N := 16) hx hb hts uB0 tyX0 tyX0_ok nmX0 hown hK hP hD hS hm_h0 hF3 rfl 14 (by decide) wm_191 rfl (by decide +kernel) rfl rfl (by rw [hn3]; decide) dX0_takePromise_7 (fun H locs hP hD hS => ?_)
  obtain ⟨f_4, ef_4⟩ : ∃ z9, z9 = va_up f_2 h0 (.inr (0, List.set fs3 14 (.int y))) := ⟨_, rfl⟩
  have hI := hI.p hm_h0 hk_h0 14 (ci := 0) (t := 1) (v := .int y) ⟨rfl, rfl, by decide, rfl⟩ hF3 fv1
  rw [← ef_4] at hP hD hI
  refine lv_aload_n hx hb dX0_takePromise_10 rfl (lv_at hl 0 rfl) ?_
  refine lv_lload_n hx hb dX0_takePromise_11 rfl (lv_at hl 3 rfl) ?_
  obtain ⟨fs5, hF5, hn5, -⟩ := hI.o hm_h0 hk_h0 rfl (ci := 0) rfl (n := 16) rfl
  refine g_put (ci := 0) (v := .long z) (ty := .long) (C := RX0) (T := TX0) (N := 16) hx hb hts uB0 tyX0 tyX0_ok nmX0 hown hK hP hD hS hm_h0 hF5 rfl 15 (by decide) wm_192 rfl (by decide +kernel) rfl rfl (by rw [hn5]; decide) dX0_takePromise_12 (fun H locs hP hD hS => ?_)
  obtain ⟨f_6, ef_6⟩ : ∃ z9, z9 = va_up f_4 h0 (.inr (0, List.set fs5 15 (.long z))) := ⟨_, rfl⟩
  have hI := hI.p hm_h0 hk_h0 15 (ci := 0) (t := 2) (v := .long z) ⟨rfl, rfl, by decide, rfl⟩ hF5 fv2
  rw [← ef_6] at hP hD hI
  exact W.vret hx hb hr (fun t ht hW => ⟨⟨f_6, rfl, hI, by show va_P (dC, dI) vwCl (va_pl L f_6) t.heap; rw [ht]; exact hP⟩, hS.F ht⟩) hS.2.2 dX0_takePromise_15
set_option maxHeartbeats 4000000 in
set_option maxRecDepth 100000 in
theorem k_X0_wants (l : Launch) (dC : Nat → ClassId) (dI : Nat → Nat → Nat) (K : Nat → ClassId) (L : List Nat) (f : Nat → va_E) {np nc ns lk lc tp cp gp : Nat} {G J mk st : Nat → Int32} {ap : Nat → Int64} {kd sn : Nat → Nat} (hI : cI K np nc ns lk lc tp cp gp G J mk st ap kd sn L f) (h0 : Nat) (hm_h0 : h0 ∈ L) (hk_h0 : kd h0 = 20) (x : Int32) : gR l yX0_wants cX0_wants 2 .boolean 0 (dC, dI) K L f [.ref h0, .int x] (fun r => True) := by
  refine Met.ofW (cc := cX0_wants) (maxL := 2) (ret := some .boolean) (by decide) rfl ?_
  intro p e s m args below meth c s₁ B hml hv
  obtain ⟨rfl, hP, hK⟩ := hv
  have hx := B.exec
  have hb := B.bytes
  have hr := B.returns
  have hlocks := B.notSynchronized
  have hts0 := atoms_spec (ws := Cond.code yX0_wants cX0_wants 2 (some .boolean) :: lw_B) B.pre
  have hts : ∀ w ∈ lw_B, w.before _ s = true := fun w h => hts0 w (List.mem_cons_of_mem _ h)
  have hown : s.vm.findClass RX0 = some m.cls := findClass_of_methodNamed B.named
  have hS : va_S (fun _ => False) s.heap s.heap [] := va_S.rf
  have hl := lv_entry ([.ref h0, .int x]) (n := 2) (Nat.le_of_ble_eq_true rfl)
  rw [lg_entry_eq]
  generalize (lg_sl ([.ref h0, .int x]) ++ List.replicate (2 - (lg_sl ([.ref h0, .int x])).length) Slot.unset).toArray = ls at hl ⊢
  have hl : lv_has ls 2 [(0, .ref h0), (1, .int x)] := hl
  refine lv_iload_n hx hb dX0_wants_0 rfl (lv_at hl 1 rfl) ?_
  refine lv_aload_n hx hb dX0_wants_1 rfl (lv_at hl 0 rfl) ?_
  obtain ⟨fs1, x_1, hF1, hv1⟩ := hI.gI hm_h0 hk_h0 2 (ci := 0) ⟨rfl, rfl, by decide, rfl⟩
  refine g_get (ci := 0) (v := .int x_1) (C := RX0) (T := TX0) (N := 16) hx hb hts uB0 hown hK hP hm_h0 hF1 rfl 2 (by decide) wm_193 hv1 dX0_wants_2 ?_
  refine lv_iand hx hb dX0_wants_5 ?_
  refine lv_topi (fun x_2 ex_2 => ?_)
  refine lv_aload_n hx hb dX0_wants_6 rfl (lv_at hl 0 rfl) ?_
  obtain ⟨fs3, x_3, hF3, hv3⟩ := hI.gI hm_h0 hk_h0 2 (ci := 0) ⟨rfl, rfl, by decide, rfl⟩
  refine g_get (ci := 0) (v := .int x_3) (C := RX0) (T := TX0) (N := 16) hx hb hts uB0 hown hK hP hm_h0 hF3 rfl 2 (by decide) wm_193 hv3 dX0_wants_7 ?_
  refine lv_icmp_ne (tgt := 26) hx hb dX0_wants_10 (by decide) (fun c_4 => ?_) (fun c_4 => ?_)
  · skip
    refine lv_iconst (v := 0) hx hb dX0_wants_26 (by decide) ?_
    exact W.zret (v := 0) hx hb hr rfl (fun t ht hW => ⟨⟨0, (), rfl, trivial, trivial⟩, hS.F ht⟩) hS.2.2 dX0_wants_27
  · skip
    refine lv_iload_n hx hb dX0_wants_13 rfl (lv_at hl 1 rfl) ?_
    refine lv_aload_n hx hb dX0_wants_14 rfl (lv_at hl 0 rfl) ?_
    obtain ⟨fs5, x_5, hF5, hv5⟩ := hI.gI hm_h0 hk_h0 3 (ci := 0) ⟨rfl, rfl, by decide, rfl⟩
    refine g_get (ci := 0) (v := .int x_5) (C := RX0) (T := TX0) (N := 16) hx hb hts uB0 hown hK hP hm_h0 hF5 rfl 3 (by decide) wm_194 hv5 dX0_wants_15 ?_
    refine lv_iand hx hb dX0_wants_18 ?_
    refine lv_topi (fun x_6 ex_6 => ?_)
    refine lv_if_ne (tgt := 26) hx hb dX0_wants_19 (by decide) (fun c_7 => ?_) (fun c_7 => ?_)
    · skip
      refine lv_iconst (v := 0) hx hb dX0_wants_26 (by decide) ?_
      exact W.zret (v := 0) hx hb hr rfl (fun t ht hW => ⟨⟨0, (), rfl, trivial, trivial⟩, hS.F ht⟩) hS.2.2 dX0_wants_27
    · skip
      refine lv_iconst (v := 1) hx hb dX0_wants_22 (by decide) ?_
      refine lv_goto (tgt := 27) hx hb dX0_wants_23 (by decide) ?_
      exact W.zret (v := 1) hx hb hr rfl (fun t ht hW => ⟨⟨1, (), rfl, trivial, trivial⟩, hS.F ht⟩) hS.2.2 dX0_wants_27
set_option maxHeartbeats 4000000 in
set_option maxRecDepth 100000 in
theorem k_X0_leftToday (l : Launch) (dC : Nat → ClassId) (dI : Nat → Nat → Nat) (K : Nat → ClassId) (L : List Nat) (f : Nat → va_E) {np nc ns lk lc tp cp gp : Nat} {G J mk st : Nat → Int32} {ap : Nat → Int64} {kd sn : Nat → Nat} (hI : cI K np nc ns lk lc tp cp gp G J mk st ap kd sn L f) (h0 : Nat) (hm_h0 : h0 ∈ L) (hk_h0 : kd h0 = 20) : gR l yX0_leftToday cX0_leftToday 1 .int 0 (dC, dI) K L f [.ref h0] (fun r => True) := by
  refine Met.ofW (cc := cX0_leftToday) (maxL := 1) (ret := some .int) (by decide) rfl ?_
  intro p e s m args below meth c s₁ B hml hv
  obtain ⟨rfl, hP, hK⟩ := hv
  have hx := B.exec
  have hb := B.bytes
  have hr := B.returns
  have hlocks := B.notSynchronized
  have hts0 := atoms_spec (ws := Cond.code yX0_leftToday cX0_leftToday 1 (some .int) :: lw_B) B.pre
  have hts : ∀ w ∈ lw_B, w.before _ s = true := fun w h => hts0 w (List.mem_cons_of_mem _ h)
  have hown : s.vm.findClass RX0 = some m.cls := findClass_of_methodNamed B.named
  have hS : va_S (fun _ => False) s.heap s.heap [] := va_S.rf
  have hl := lv_entry ([.ref h0]) (n := 1) (Nat.le_of_ble_eq_true rfl)
  rw [lg_entry_eq]
  generalize (lg_sl ([.ref h0]) ++ List.replicate (1 - (lg_sl ([.ref h0])).length) Slot.unset).toArray = ls at hl ⊢
  have hl : lv_has ls 1 [(0, .ref h0)] := hl
  refine lv_aload_n hx hb dX0_leftToday_0 rfl (lv_at hl 0 rfl) ?_
  obtain ⟨fs1, x_1, hF1, hv1⟩ := hI.gI hm_h0 hk_h0 6 (ci := 0) ⟨rfl, rfl, by decide, rfl⟩
  refine g_get (ci := 0) (v := .int x_1) (C := RX0) (T := TX0) (N := 16) hx hb hts uB0 hown hK hP hm_h0 hF1 rfl 6 (by decide) wm_195 hv1 dX0_leftToday_1 ?_
  refine lv_aload_n hx hb dX0_leftToday_4 rfl (lv_at hl 0 rfl) ?_
  obtain ⟨fs2, b_3, hF2, hv2, hm_b_3, hk_b_3⟩ := hI.gR hm_h0 hk_h0 5 (ci := 0) (t := 19) ⟨rfl, rfl, by decide, rfl⟩
  refine g_get (ci := 0) (v := .ref b_3) (C := RX0) (T := TX0) (N := 16) hx hb hts uB0 hown hK hP hm_h0 hF2 rfl 5 (by decide) wm_196 hv2 dX0_leftToday_5 ?_
  obtain ⟨fs4, x_4, hF4, hv4⟩ := hI.gI hm_b_3 hk_b_3 2 (ci := 4) ⟨rfl, rfl, by decide, rfl⟩
  refine g_get (ci := 4) (v := .int x_4) (C := RX4) (T := TX4) (N := 8) hx hb hts uB4 hown hK hP hm_b_3 hF4 rfl 2 (by decide) wm_197 hv4 dX0_leftToday_8 ?_
  refine lv_isub hx hb dX0_leftToday_11 ?_
  refine lv_topi (fun x_5 ex_5 => ?_)
  exact W.iret (v := x_5) hx hb hr (fun t ht hW => ⟨⟨x_5, (), rfl, trivial, trivial⟩, hS.F ht⟩) hS.2.2 dX0_leftToday_12
set_option maxHeartbeats 4000000 in
set_option maxRecDepth 100000 in
theorem k_X0_leftInAll (l : Launch) (dC : Nat → ClassId) (dI : Nat → Nat → Nat) (K : Nat → ClassId) (L : List Nat) (f : Nat → va_E) {np nc ns lk lc tp cp gp : Nat} {G J mk st : Nat → Int32} {ap : Nat → Int64} {kd sn : Nat → Nat} (hI : cI K np nc ns lk lc tp cp gp G J mk st ap kd sn L f) (h0 : Nat) (hm_h0 : h0 ∈ L) (hk_h0 : kd h0 = 20) : gR l yX0_leftInAll cX0_leftInAll 1 .int 0 (dC, dI) K L f [.ref h0] (fun r => True) := by
  refine Met.ofW (cc := cX0_leftInAll) (maxL := 1) (ret := some .int) (by decide) rfl ?_
  intro p e s m args below meth c s₁ B hml hv
  obtain ⟨rfl, hP, hK⟩ := hv
  have hx := B.exec
  have hb := B.bytes
  have hr := B.returns
  have hlocks := B.notSynchronized
  have hts0 := atoms_spec (ws := Cond.code yX0_leftInAll cX0_leftInAll 1 (some .int) :: lw_B) B.pre
  have hts : ∀ w ∈ lw_B, w.before _ s = true := fun w h => hts0 w (List.mem_cons_of_mem _ h)
  have hown : s.vm.findClass RX0 = some m.cls := findClass_of_methodNamed B.named
  have hS : va_S (fun _ => False) s.heap s.heap [] := va_S.rf
  have hl := lv_entry ([.ref h0]) (n := 1) (Nat.le_of_ble_eq_true rfl)
  rw [lg_entry_eq]
  generalize (lg_sl ([.ref h0]) ++ List.replicate (1 - (lg_sl ([.ref h0])).length) Slot.unset).toArray = ls at hl ⊢
  have hl : lv_has ls 1 [(0, .ref h0)] := hl
  refine lv_aload_n hx hb dX0_leftInAll_0 rfl (lv_at hl 0 rfl) ?_
  obtain ⟨fs1, x_1, hF1, hv1⟩ := hI.gI hm_h0 hk_h0 7 (ci := 0) ⟨rfl, rfl, by decide, rfl⟩
  refine g_get (ci := 0) (v := .int x_1) (C := RX0) (T := TX0) (N := 16) hx hb hts uB0 hown hK hP hm_h0 hF1 rfl 7 (by decide) wm_198 hv1 dX0_leftInAll_1 ?_
  refine lv_aload_n hx hb dX0_leftInAll_4 rfl (lv_at hl 0 rfl) ?_
  obtain ⟨fs2, b_3, hF2, hv2, hm_b_3, hk_b_3⟩ := hI.gR hm_h0 hk_h0 5 (ci := 0) (t := 19) ⟨rfl, rfl, by decide, rfl⟩
  refine g_get (ci := 0) (v := .ref b_3) (C := RX0) (T := TX0) (N := 16) hx hb hts uB0 hown hK hP hm_h0 hF2 rfl 5 (by decide) wm_196 hv2 dX0_leftInAll_5 ?_
  obtain ⟨fs4, x_4, hF4, hv4⟩ := hI.gI hm_b_3 hk_b_3 0 (ci := 4) ⟨rfl, rfl, by decide, rfl⟩
  refine g_get (ci := 4) (v := .int x_4) (C := RX4) (T := TX4) (N := 8) hx hb hts uB4 hown hK hP hm_b_3 hF4 rfl 0 (by decide) wm_199 hv4 dX0_leftInAll_8 ?_
  refine lv_isub hx hb dX0_leftInAll_11 ?_
  refine lv_topi (fun x_5 ex_5 => ?_)
  refine lv_aload_n hx hb dX0_leftInAll_12 rfl (lv_at hl 0 rfl) ?_
  obtain ⟨fs6, b_7, hF6, hv6, hm_b_7, hk_b_7⟩ := hI.gR hm_h0 hk_h0 5 (ci := 0) (t := 19) ⟨rfl, rfl, by decide, rfl⟩
  refine g_get (ci := 0) (v := .ref b_7) (C := RX0) (T := TX0) (N := 16) hx hb hts uB0 hown hK hP hm_h0 hF6 rfl 5 (by decide) wm_196 hv6 dX0_leftInAll_13 ?_
  obtain ⟨fs8, x_8, hF8, hv8⟩ := hI.gI hm_b_7 hk_b_7 1 (ci := 4) ⟨rfl, rfl, by decide, rfl⟩
  refine g_get (ci := 4) (v := .int x_8) (C := RX4) (T := TX4) (N := 8) hx hb hts uB4 hown hK hP hm_b_7 hF8 rfl 1 (by decide) wm_200 hv8 dX0_leftInAll_16 ?_
  refine lv_isub hx hb dX0_leftInAll_19 ?_
  refine lv_topi (fun x_9 ex_9 => ?_)
  exact W.iret (v := x_9) hx hb hr (fun t ht hW => ⟨⟨x_9, (), rfl, trivial, trivial⟩, hS.F ht⟩) hS.2.2 dX0_leftInAll_20
set_option maxHeartbeats 4000000 in
set_option maxRecDepth 100000 in
theorem k_X0_dueBy (l : Launch) (dC : Nat → ClassId) (dI : Nat → Nat → Nat) (K : Nat → ClassId) (L : List Nat) (f : Nat → va_E) {np nc ns lk lc tp cp gp : Nat} {G J mk st : Nat → Int32} {ap : Nat → Int64} {kd sn : Nat → Nat} (hI : cI K np nc ns lk lc tp cp gp G J mk st ap kd sn L f) (h0 : Nat) (hm_h0 : h0 ∈ L) (hk_h0 : kd h0 = 20) (x : Int32) : gRl l yX0_dueBy cX0_dueBy 4 .long 0 (dC, dI) K L f [.ref h0, .int x] (fun r => True) := by
  refine Met.ofW (cc := cX0_dueBy) (maxL := 4) (ret := some .long) (by decide) rfl ?_
  intro p e s m args below meth c s₁ B hml hv
  obtain ⟨rfl, hP, hK⟩ := hv
  have hx := B.exec
  have hb := B.bytes
  have hr := B.returns
  have hlocks := B.notSynchronized
  have hts0 := atoms_spec (ws := Cond.code yX0_dueBy cX0_dueBy 4 (some .long) :: lw_B) B.pre
  have hts : ∀ w ∈ lw_B, w.before _ s = true := fun w h => hts0 w (List.mem_cons_of_mem _ h)
  have hown : s.vm.findClass RX0 = some m.cls := findClass_of_methodNamed B.named
  have hS : va_S (fun _ => False) s.heap s.heap [] := va_S.rf
  have hl := lv_entry ([.ref h0, .int x]) (n := 4) (Nat.le_of_ble_eq_true rfl)
  rw [lg_entry_eq]
  generalize (lg_sl ([.ref h0, .int x]) ++ List.replicate (4 - (lg_sl ([.ref h0, .int x])).length) Slot.unset).toArray = ls at hl ⊢
  have hl : lv_has ls 4 [(0, .ref h0), (1, .int x)] := hl
  refine lv_aload_n hx hb dX0_dueBy_0 rfl (lv_at hl 0 rfl) ?_
  obtain ⟨fs1, x_1, hF1, hv1⟩ := hI.gL hm_h0 hk_h0 15 (ci := 0) ⟨rfl, rfl, by decide, rfl⟩
  refine g_get (ci := 0) (v := .long x_1) (C := RX0) (T := TX0) (N := 16) hx hb hts uB0 hown hK hP hm_h0 hF1 rfl 15 (by decide) wm_192 hv1 dX0_dueBy_1 ?_
  refine lv_aload_n hx hb dX0_dueBy_4 rfl (lv_at hl 0 rfl) ?_
  obtain ⟨fs2, x_2, hF2, hv2⟩ := hI.gI hm_h0 hk_h0 14 (ci := 0) ⟨rfl, rfl, by decide, rfl⟩
  refine g_get (ci := 0) (v := .int x_2) (C := RX0) (T := TX0) (N := 16) hx hb hts uB0 hown hK hP hm_h0 hF2 rfl 14 (by decide) wm_191 hv2 dX0_dueBy_5 ?_
  refine lv_i2l hx hb dX0_dueBy_8 rfl ?_
  refine lv_topl (fun x_3 ex_3 => ?_)
  refine lv_lsub hx hb dX0_dueBy_9 ?_
  refine lv_topl (fun x_4 ex_4 => ?_)
  refine lv_lstore_n (lv' := [(2, .long x_4), (0, .ref h0), (1, .int x)]) hx hb dX0_dueBy_10 rfl hl (by decide) rfl (fun ls hl => ?_)
  refine lv_iload_n hx hb dX0_dueBy_11 rfl (lv_at hl 2 rfl) ?_
  refine lv_i2l hx hb dX0_dueBy_12 rfl ?_
  refine lv_topl (fun x_5 ex_5 => ?_)
  refine lv_aload_n hx hb dX0_dueBy_13 rfl (lv_at hl 1 rfl) ?_
  obtain ⟨fs6, x_6, hF6, hv6⟩ := hI.gL hm_h0 hk_h0 15 (ci := 0) ⟨rfl, rfl, by decide, rfl⟩
  refine g_get (ci := 0) (v := .long x_6) (C := RX0) (T := TX0) (N := 16) hx hb hts uB0 hown hK hP hm_h0 hF6 rfl 15 (by decide) wm_192 hv6 dX0_dueBy_14 ?_
  refine W.lcmp hx hb dX0_dueBy_17 ?_
  refine lv_topi (fun x_7 ex_7 => ?_)
  refine lv_if_ge (tgt := 27) hx hb dX0_dueBy_18 (by decide) (fun c_8 => ?_) (fun c_8 => ?_)
  · skip
    refine lv_aload_n hx hb dX0_dueBy_27 rfl (lv_at hl 1 rfl) ?_
    obtain ⟨fs9, x_9, hF9, hv9⟩ := hI.gI hm_h0 hk_h0 13 (ci := 0) ⟨rfl, rfl, by decide, rfl⟩
    refine g_get (ci := 0) (v := .int x_9) (C := RX0) (T := TX0) (N := 16) hx hb hts uB0 hown hK hP hm_h0 hF9 rfl 13 (by decide) wm_190 hv9 dX0_dueBy_28 ?_
    refine lv_i2l hx hb dX0_dueBy_31 rfl ?_
    refine lv_topl (fun x_10 ex_10 => ?_)
    exact W.lret (v := x_10) hx hb hr (fun t ht hW => ⟨⟨x_10, (), rfl, trivial, trivial⟩, hS.F ht⟩) hS.2.2 dX0_dueBy_32
  · skip
    refine lv_lload_n hx hb dX0_dueBy_21 rfl (lv_at hl 0 rfl) ?_
    refine lv_lconst (v := 0) hx hb dX0_dueBy_22 rfl ?_
    refine W.lcmp hx hb dX0_dueBy_23 ?_
    refine lv_topi (fun x_11 ex_11 => ?_)
    refine lv_if_gt (tgt := 33) hx hb dX0_dueBy_24 (by decide) (fun c_12 => ?_) (fun c_12 => ?_)
    · skip
      have h24 := k_cmp0 ex_11 c_12
      refine lv_aload_n hx hb dX0_dueBy_33 rfl (lv_at hl 1 rfl) ?_
      obtain ⟨fs13, x_13, hF13, hv13⟩ := hI.gI hm_h0 hk_h0 13 (ci := 0) ⟨rfl, rfl, by decide, rfl⟩
      refine g_get (ci := 0) (v := .int x_13) (C := RX0) (T := TX0) (N := 16) hx hb hts uB0 hown hK hP hm_h0 hF13 rfl 13 (by decide) wm_190 hv13 dX0_dueBy_34 ?_
      refine lv_i2l hx hb dX0_dueBy_37 rfl ?_
      refine lv_topl (fun x_14 ex_14 => ?_)
      refine lv_iload_n hx hb dX0_dueBy_38 rfl (lv_at hl 2 rfl) ?_
      refine lv_aload_n hx hb dX0_dueBy_39 rfl (lv_at hl 1 rfl) ?_
      obtain ⟨fs15, x_15, hF15, hv15⟩ := hI.gI hm_h0 hk_h0 14 (ci := 0) ⟨rfl, rfl, by decide, rfl⟩
      refine g_get (ci := 0) (v := .int x_15) (C := RX0) (T := TX0) (N := 16) hx hb hts uB0 hown hK hP hm_h0 hF15 rfl 14 (by decide) wm_191 hv15 dX0_dueBy_40 ?_
      refine lv_isub hx hb dX0_dueBy_43 ?_
      refine lv_topi (fun x_16 ex_16 => ?_)
      refine lv_i2l hx hb dX0_dueBy_44 rfl ?_
      refine lv_topl (fun x_17 ex_17 => ?_)
      refine lv_lmul hx hb dX0_dueBy_45 ?_
      refine lv_topl (fun x_18 ex_18 => ?_)
      refine lv_lload_n hx hb dX0_dueBy_46 rfl (lv_at hl 0 rfl) ?_
      refine lv_ldiv hx hb dX0_dueBy_47 h24 ?_
      refine lv_topl (fun x_19 ex_19 => ?_)
      exact W.lret (v := x_19) hx hb hr (fun t ht hW => ⟨⟨x_19, (), rfl, trivial, trivial⟩, hS.F ht⟩) hS.2.2 dX0_dueBy_48
    · skip
      refine lv_aload_n hx hb dX0_dueBy_27 rfl (lv_at hl 1 rfl) ?_
      obtain ⟨fs20, x_20, hF20, hv20⟩ := hI.gI hm_h0 hk_h0 13 (ci := 0) ⟨rfl, rfl, by decide, rfl⟩
      refine g_get (ci := 0) (v := .int x_20) (C := RX0) (T := TX0) (N := 16) hx hb hts uB0 hown hK hP hm_h0 hF20 rfl 13 (by decide) wm_190 hv20 dX0_dueBy_28 ?_
      refine lv_i2l hx hb dX0_dueBy_31 rfl ?_
      refine lv_topl (fun x_21 ex_21 => ?_)
      exact W.lret (v := x_21) hx hb hr (fun t ht hW => ⟨⟨x_21, (), rfl, trivial, trivial⟩, hS.F ht⟩) hS.2.2 dX0_dueBy_32
set_option maxHeartbeats 4000000 in
set_option maxRecDepth 100000 in
theorem k_X0_isBehind (l : Launch) (dC : Nat → ClassId) (dI : Nat → Nat → Nat) (K : Nat → ClassId) (L : List Nat) (f : Nat → va_E) {np nc ns lk lc tp cp gp : Nat} {G J mk st : Nat → Int32} {ap : Nat → Int64} {kd sn : Nat → Nat} (hI : cI K np nc ns lk lc tp cp gp G J mk st ap kd sn L f) (h0 : Nat) (hm_h0 : h0 ∈ L) (hk_h0 : kd h0 = 20) (x : Int32) : gR l yX0_isBehind cX0_isBehind 2 .boolean 1 (dC, dI) K L f [.ref h0, .int x] (fun r => True) := by
  refine Met.ofW (cc := cX0_isBehind) (maxL := 2) (ret := some .boolean) (by decide) rfl ?_
  intro p e s m args below meth c s₁ B hml hv
  obtain ⟨rfl, hP, hK⟩ := hv
  have hx := B.exec
  have hb := B.bytes
  have hr := B.returns
  have hlocks := B.notSynchronized
  have hts0 := atoms_spec (ws := Cond.code yX0_isBehind cX0_isBehind 2 (some .boolean) :: lw_B) B.pre
  have hts : ∀ w ∈ lw_B, w.before _ s = true := fun w h => hts0 w (List.mem_cons_of_mem _ h)
  have hown : s.vm.findClass RX0 = some m.cls := findClass_of_methodNamed B.named
  have hS : va_S (fun _ => False) s.heap s.heap [] := va_S.rf
  have hl := lv_entry ([.ref h0, .int x]) (n := 2) (Nat.le_of_ble_eq_true rfl)
  rw [lg_entry_eq]
  generalize (lg_sl ([.ref h0, .int x]) ++ List.replicate (2 - (lg_sl ([.ref h0, .int x])).length) Slot.unset).toArray = ls at hl ⊢
  have hl : lv_has ls 2 [(0, .ref h0), (1, .int x)] := hl
  refine lv_aload_n hx hb dX0_isBehind_0 rfl (lv_at hl 0 rfl) ?_
  obtain ⟨fs1, x_1, hF1, hv1⟩ := hI.gI hm_h0 hk_h0 13 (ci := 0) ⟨rfl, rfl, by decide, rfl⟩
  refine g_get (ci := 0) (v := .int x_1) (C := RX0) (T := TX0) (N := 16) hx hb hts uB0 hown hK hP hm_h0 hF1 rfl 13 (by decide) wm_190 hv1 dX0_isBehind_1 ?_
  refine lv_if_ne (tgt := 9) hx hb dX0_isBehind_4 (by decide) (fun c_2 => ?_) (fun c_2 => ?_)
  · skip
    refine lv_aload_n hx hb dX0_isBehind_9 rfl (lv_at hl 0 rfl) ?_
    obtain ⟨fs3, b_4, hF3, hv3, hm_b_4, hk_b_4⟩ := hI.gR hm_h0 hk_h0 5 (ci := 0) (t := 19) ⟨rfl, rfl, by decide, rfl⟩
    refine g_get (ci := 0) (v := .ref b_4) (C := RX0) (T := TX0) (N := 16) hx hb hts uB0 hown hK hP hm_h0 hF3 rfl 5 (by decide) wm_196 hv3 dX0_isBehind_10 ?_
    obtain ⟨fs5, x_5, hF5, hv5⟩ := hI.gI hm_b_4 hk_b_4 3 (ci := 4) ⟨rfl, rfl, by decide, rfl⟩
    refine g_get (ci := 4) (v := .int x_5) (C := RX4) (T := TX4) (N := 8) hx hb hts uB4 hown hK hP hm_b_4 hF5 rfl 3 (by decide) wm_201 hv5 dX0_isBehind_13 ?_
    refine lv_i2l hx hb dX0_isBehind_16 rfl ?_
    refine lv_topl (fun x_6 ex_6 => ?_)
    refine lv_aload_n hx hb dX0_isBehind_17 rfl (lv_at hl 0 rfl) ?_
    refine lv_iload_n hx hb dX0_isBehind_18 rfl (lv_at hl 1 rfl) ?_
    obtain ⟨fs7, hF7, -, -⟩ := hI.o hm_h0 hk_h0 rfl (ci := 0) rfl rfl
    refine gc_Rl (ci := 0) ⟨hx, hb, hml, hown, hts⟩ (k_X0_dueBy l dC dI K L f hI h0 hm_h0 hk_h0 x) 1 wm_202 wm_203 wm_204 wm_205 wm_206 (by decide +kernel) ⟨Nat.le_of_ble_eq_true rfl, Nat.le_of_ble_eq_true rfl⟩ hK rfl hm_h0 hF7 rfl hl.1 rfl (Nat.le_of_ble_eq_true rfl) dX0_isBehind_19 ⟨Nat.le_of_ble_eq_true rfl, Nat.le_of_ble_eq_true rfl⟩ hS hP (fun r_8 H locs hpr_8 hP hS => ?_)
    refine W.lcmp hx hb dX0_isBehind_22 ?_
    refine lv_topi (fun x_9 ex_9 => ?_)
    refine lv_if_ge (tgt := 30) hx hb dX0_isBehind_23 (by decide) (fun c_10 => ?_) (fun c_10 => ?_)
    · skip
      refine lv_iconst (v := 0) hx hb dX0_isBehind_30 (by decide) ?_
      exact W.zret (v := 0) hx hb hr rfl (fun t ht hW => ⟨⟨0, (), rfl, trivial, trivial⟩, hS.F ht⟩) hS.2.2 dX0_isBehind_31
    · skip
      refine lv_iconst (v := 1) hx hb dX0_isBehind_26 (by decide) ?_
      refine lv_goto (tgt := 31) hx hb dX0_isBehind_27 (by decide) ?_
      exact W.zret (v := 1) hx hb hr rfl (fun t ht hW => ⟨⟨1, (), rfl, trivial, trivial⟩, hS.F ht⟩) hS.2.2 dX0_isBehind_31
  · skip
    refine lv_iconst (v := 0) hx hb dX0_isBehind_7 (by decide) ?_
    exact W.zret (v := 0) hx hb hr rfl (fun t ht hW => ⟨⟨0, (), rfl, trivial, trivial⟩, hS.F ht⟩) hS.2.2 dX0_isBehind_8
set_option maxHeartbeats 4000000 in
set_option maxRecDepth 100000 in
theorem k_X0_worthAt (l : Launch) (dC : Nat → ClassId) (dI : Nat → Nat → Nat) (K : Nat → ClassId) (L : List Nat) (f : Nat → va_E) {np nc ns lk lc tp cp gp : Nat} {G J mk st : Nat → Int32} {ap : Nat → Int64} {kd sn : Nat → Nat} (hI : cI K np nc ns lk lc tp cp gp G J mk st ap kd sn L f) (h0 : Nat) (hm_h0 : h0 ∈ L) (hk_h0 : kd h0 = 20) (x : Int32) (y : Int32) : gRl l yX0_worthAt cX0_worthAt 5 .long 1 (dC, dI) K L f [.ref h0, .int x, .int y] (fun r => True) := by
  refine Met.ofW (cc := cX0_worthAt) (maxL := 5) (ret := some .long) (by decide) rfl ?_
  intro p e s m args below meth c s₁ B hml hv
  obtain ⟨rfl, hP, hK⟩ := hv
  have hx := B.exec
  have hb := B.bytes
  have hr := B.returns
  have hlocks := B.notSynchronized
  have hts0 := atoms_spec (ws := Cond.code yX0_worthAt cX0_worthAt 5 (some .long) :: lw_B) B.pre
  have hts : ∀ w ∈ lw_B, w.before _ s = true := fun w h => hts0 w (List.mem_cons_of_mem _ h)
  have hown : s.vm.findClass RX0 = some m.cls := findClass_of_methodNamed B.named
  have hS : va_S (fun _ => False) s.heap s.heap [] := va_S.rf
  have hl := lv_entry ([.ref h0, .int x, .int y]) (n := 5) (Nat.le_of_ble_eq_true rfl)
  rw [lg_entry_eq]
  generalize (lg_sl ([.ref h0, .int x, .int y]) ++ List.replicate (5 - (lg_sl ([.ref h0, .int x, .int y])).length) Slot.unset).toArray = ls at hl ⊢
  have hl : lv_has ls 5 [(0, .ref h0), (1, .int x), (2, .int y)] := hl
  refine lv_aload_n hx hb dX0_worthAt_0 rfl (lv_at hl 0 rfl) ?_
  obtain ⟨fs1, x_1, hF1, hv1⟩ := hI.gI hm_h0 hk_h0 0 (ci := 0) ⟨rfl, rfl, by decide, rfl⟩
  refine g_get (ci := 0) (v := .int x_1) (C := RX0) (T := TX0) (N := 16) hx hb hts uB0 hown hK hP hm_h0 hF1 rfl 0 (by decide) wm_207 hv1 dX0_worthAt_1 ?_
  refine lv_iconst (v := 2) hx hb dX0_worthAt_4 (by decide) ?_
  refine lv_icmp_ne (tgt := 10) hx hb dX0_worthAt_5 (by decide) (fun c_2 => ?_) (fun c_2 => ?_)
  · skip
    refine lv_ldc2 (v := 10000) hx hb hown (hts _ wm_208) dX0_worthAt_10 ?_
    refine lv_aload_n hx hb dX0_worthAt_13 rfl (lv_at hl 0 rfl) ?_
    obtain ⟨fs3, x_3, hF3, hv3⟩ := hI.gI hm_h0 hk_h0 4 (ci := 0) ⟨rfl, rfl, by decide, rfl⟩
    refine g_get (ci := 0) (v := .int x_3) (C := RX0) (T := TX0) (N := 16) hx hb hts uB0 hown hK hP hm_h0 hF3 rfl 4 (by decide) wm_209 hv3 dX0_worthAt_14 ?_
    refine lv_i2l hx hb dX0_worthAt_17 rfl ?_
    refine lv_topl (fun x_4 ex_4 => ?_)
    refine lv_lmul hx hb dX0_worthAt_18 ?_
    refine lv_topl (fun x_5 ex_5 => ?_)
    refine lv_iload_n hx hb dX0_worthAt_19 rfl (lv_at hl 1 rfl) ?_
    refine lv_i2l hx hb dX0_worthAt_20 rfl ?_
    refine lv_topl (fun x_6 ex_6 => ?_)
    refine lv_lmul hx hb dX0_worthAt_21 ?_
    refine lv_topl (fun x_7 ex_7 => ?_)
    refine lv_lstore_n (lv' := [(3, .long x_7), (0, .ref h0), (1, .int x), (2, .int y)]) hx hb dX0_worthAt_22 rfl hl (by decide) rfl (fun ls hl => ?_)
    refine lv_aload_n hx hb dX0_worthAt_23 rfl (lv_at hl 1 rfl) ?_
    obtain ⟨fs8, x_8, hF8, hv8⟩ := hI.gI hm_h0 hk_h0 1 (ci := 0) ⟨rfl, rfl, by decide, rfl⟩
    refine g_get (ci := 0) (v := .int x_8) (C := RX0) (T := TX0) (N := 16) hx hb hts uB0 hown hK hP hm_h0 hF8 rfl 1 (by decide) wm_210 hv8 dX0_worthAt_24 ?_
    refine lv_if_eq (tgt := 39) hx hb dX0_worthAt_27 (by decide) (fun c_9 => ?_) (fun c_9 => ?_)
    · skip
      refine lv_iload_n hx hb dX0_worthAt_39 rfl (lv_at hl 3 rfl) ?_
      refine lv_if_eq (tgt := 51) hx hb dX0_worthAt_40 (by decide) (fun c_10 => ?_) (fun c_10 => ?_)
      · skip
        refine lv_lload_n hx hb dX0_worthAt_51 rfl (lv_at hl 0 rfl) ?_
        exact W.lret (v := x_7) hx hb hr (fun t ht hW => ⟨⟨x_7, (), rfl, trivial, trivial⟩, hS.F ht⟩) hS.2.2 dX0_worthAt_52
      · skip
        refine lv_lload_n hx hb dX0_worthAt_43 rfl (lv_at hl 0 rfl) ?_
        refine lv_ldc2 (v := 1000000000) hx hb hown (hts _ wm_211) dX0_worthAt_44 ?_
        refine lv_ladd hx hb dX0_worthAt_47 ?_
        refine lv_topl (fun x_11 ex_11 => ?_)
        refine lv_goto (tgt := 52) hx hb dX0_worthAt_48 (by decide) ?_
        exact W.lret (v := x_11) hx hb hr (fun t ht hW => ⟨⟨x_11, (), rfl, trivial, trivial⟩, hS.F ht⟩) hS.2.2 dX0_worthAt_52
    · skip
      refine lv_aload_n hx hb dX0_worthAt_30 rfl (lv_at hl 1 rfl) ?_
      obtain ⟨fs12, b_13, hF12, hv12, hm_b_13, hk_b_13⟩ := hI.gR hm_h0 hk_h0 5 (ci := 0) (t := 19) ⟨rfl, rfl, by decide, rfl⟩
      refine g_get (ci := 0) (v := .ref b_13) (C := RX0) (T := TX0) (N := 16) hx hb hts uB0 hown hK hP hm_h0 hF12 rfl 5 (by decide) wm_196 hv12 dX0_worthAt_31 ?_
      refine lv_lload_n hx hb dX0_worthAt_34 rfl (lv_at hl 0 rfl) ?_
      obtain ⟨fs14, hF14, -, -⟩ := hI.o hm_b_13 hk_b_13 rfl (ci := 4) rfl rfl
      refine gc_Rl (ci := 4) ⟨hx, hb, hml, hown, hts⟩ (k_X4_chanceOf l dC dI K L f hI b_13 hm_b_13 hk_b_13 x_7) 1 wm_212 wm_213 wm_214 wm_215 wm_216 (by decide +kernel) ⟨Nat.le_of_ble_eq_true rfl, Nat.le_of_ble_eq_true rfl⟩ hK rfl hm_b_13 hF14 rfl hl.1 rfl (Nat.le_of_ble_eq_true rfl) dX0_worthAt_35 ⟨Nat.le_of_ble_eq_true rfl, Nat.le_of_ble_eq_true rfl⟩ hS hP (fun r_15 H locs hpr_15 hP hS => ?_)
      exact W.lret (v := r_15) hx hb hr (fun t ht hW => ⟨⟨r_15, (), rfl, trivial, trivial⟩, hS.F ht⟩) hS.2.2 dX0_worthAt_38
  · skip
    refine lv_lconst (v := 0) hx hb dX0_worthAt_8 rfl ?_
    exact W.lret (v := 0) hx hb hr (fun t ht hW => ⟨⟨0, (), rfl, trivial, trivial⟩, hS.F ht⟩) hS.2.2 dX0_worthAt_9
set_option maxHeartbeats 4000000 in
set_option maxRecDepth 100000 in
theorem k_X0_setThrottle (l : Launch) (dC : Nat → ClassId) (dI : Nat → Nat → Nat) (K : Nat → ClassId) (L : List Nat) (f : Nat → va_E) {np nc ns lk lc tp cp gp : Nat} {G J mk st : Nat → Int32} {ap : Nat → Int64} {kd sn : Nat → Nat} (hI : cI K np nc ns lk lc tp cp gp G J mk st ap kd sn L f) (h0 : Nat) (hm_h0 : h0 ∈ L) (hk_h0 : kd h0 = 20) (x : Int32) (hLn : gN L) : gMv l yX0_setThrottle cX0_setThrottle 6 1 (dC, dI) K L f [.ref h0, .int x] (fun f' => cI K np nc ns lk lc tp cp gp G J mk st ap kd sn L f') := by
  refine Met.ofW (cc := cX0_setThrottle) (maxL := 6) (ret := none) (by decide) rfl ?_
  intro p e s m args below meth c s₁ B hml hv
  obtain ⟨rfl, hP, hK⟩ := hv
  have hD : va_D (fun q : Nat => q ∈ L) (va_pl L f) := g_D hLn (fun a h => h) f
  generalize hAe : (fun q : Nat => q ∈ L) = A at hD ⊢
  have hx := B.exec
  have hb := B.bytes
  have hr := B.returns
  have hlocks := B.notSynchronized
  have hts0 := atoms_spec (ws := Cond.code yX0_setThrottle cX0_setThrottle 6 none :: lw_B) B.pre
  have hts : ∀ w ∈ lw_B, w.before _ s = true := fun w h => hts0 w (List.mem_cons_of_mem _ h)
  have hown : s.vm.findClass RX0 = some m.cls := findClass_of_methodNamed B.named
  have hS : va_S A s.heap s.heap [] := va_S.rf
  have hl := lv_entry ([.ref h0, .int x]) (n := 6) (Nat.le_of_ble_eq_true rfl)
  rw [lg_entry_eq]
  generalize (lg_sl ([.ref h0, .int x]) ++ List.replicate (6 - (lg_sl ([.ref h0, .int x])).length) Slot.unset).toArray = ls at hl ⊢
  have hl : lv_has ls 6 [(0, .ref h0), (1, .int x)] := hl
  refine lv_iload_n hx hb dX0_setThrottle_0 rfl (lv_at hl 1 rfl) ?_
  refine lv_if_ne (tgt := 5) hx hb dX0_setThrottle_1 (by decide) (fun c_1 => ?_) (fun c_1 => ?_)
  · skip
    refine lv_aload_n hx hb dX0_setThrottle_5 rfl (lv_at hl 0 rfl) ?_
    obtain ⟨fs2, b_3, hF2, hv2, hm_b_3, hk_b_3⟩ := hI.gR hm_h0 hk_h0 5 (ci := 0) (t := 19) ⟨rfl, rfl, by decide, rfl⟩
    refine g_get (ci := 0) (v := .ref b_3) (C := RX0) (T := TX0) (N := 16) hx hb hts uB0 hown hK hP hm_h0 hF2 rfl 5 (by decide) wm_196 hv2 dX0_setThrottle_6 ?_
    obtain ⟨fs4, x_4, hF4, hv4⟩ := hI.gI hm_b_3 hk_b_3 2 (ci := 4) ⟨rfl, rfl, by decide, rfl⟩
    refine g_get (ci := 4) (v := .int x_4) (C := RX4) (T := TX4) (N := 8) hx hb hts uB4 hown hK hP hm_b_3 hF4 rfl 2 (by decide) wm_197 hv4 dX0_setThrottle_9 ?_
    refine lv_i2l hx hb dX0_setThrottle_12 rfl ?_
    refine lv_topl (fun x_5 ex_5 => ?_)
    refine lv_ldc2 (v := 100) hx hb hown (hts _ wm_217) dX0_setThrottle_13 ?_
    refine lv_lmul hx hb dX0_setThrottle_16 ?_
    refine lv_topl (fun x_6 ex_6 => ?_)
    refine lv_lstore_n (lv' := [(2, .long x_6), (0, .ref h0), (1, .int x)]) hx hb dX0_setThrottle_17 rfl hl (by decide) rfl (fun ls hl => ?_)
    refine lv_aload_n hx hb dX0_setThrottle_18 rfl (lv_at hl 1 rfl) ?_
    obtain ⟨fs7, x_7, hF7, hv7⟩ := hI.gI hm_h0 hk_h0 6 (ci := 0) ⟨rfl, rfl, by decide, rfl⟩
    refine g_get (ci := 0) (v := .int x_7) (C := RX0) (T := TX0) (N := 16) hx hb hts uB0 hown hK hP hm_h0 hF7 rfl 6 (by decide) wm_195 hv7 dX0_setThrottle_19 ?_
    refine lv_i2l hx hb dX0_setThrottle_22 rfl ?_
    refine lv_topl (fun x_8 ex_8 => ?_)
    refine lv_iload_n hx hb dX0_setThrottle_23 rfl (lv_at hl 2 rfl) ?_
    refine lv_i2l hx hb dX0_setThrottle_24 rfl ?_
    refine lv_topl (fun x_9 ex_9 => ?_)
    refine lv_lmul hx hb dX0_setThrottle_25 ?_
    refine lv_topl (fun x_10 ex_10 => ?_)
    refine lv_lstore (lv' := [(4, .long x_10), (2, .long x_6), (0, .ref h0), (1, .int x)]) hx hb dX0_setThrottle_26 hl (by decide) rfl (fun ls hl => ?_)
    refine lv_lload_n hx hb dX0_setThrottle_28 rfl (lv_at hl 1 rfl) ?_
    refine lv_lload hx hb dX0_setThrottle_29 (lv_at hl 0 rfl) ?_
    refine W.lcmp hx hb dX0_setThrottle_31 ?_
    refine lv_topi (fun x_11 ex_11 => ?_)
    refine lv_if_le (tgt := 56) hx hb dX0_setThrottle_32 (by decide) (fun c_12 => ?_) (fun c_12 => ?_)
    · skip
      refine lv_lload_n hx hb dX0_setThrottle_56 rfl (lv_at hl 1 rfl) ?_
      refine lv_lload hx hb dX0_setThrottle_57 (lv_at hl 0 rfl) ?_
      refine W.lcmp hx hb dX0_setThrottle_59 ?_
      refine lv_topi (fun x_13 ex_13 => ?_)
      refine lv_if_ge (tgt := 85) hx hb dX0_setThrottle_60 (by decide) (fun c_14 => ?_) (fun c_14 => ?_)
      · skip
        exact W.vret hx hb hr (fun t ht hW => ⟨⟨f, rfl, hI, by show va_P (dC, dI) vwCl (va_pl L f) t.heap; rw [ht]; exact hP⟩, hS.F ht⟩) hS.2.2 dX0_setThrottle_85
      · skip
        refine lv_aload_n hx hb dX0_setThrottle_63 rfl (lv_at hl 2 rfl) ?_
        refine lv_sipush (v := 1000) hx hb dX0_setThrottle_64 (by decide) ?_
        refine lv_aload_n hx hb dX0_setThrottle_67 rfl (lv_at hl 2 rfl) ?_
        obtain ⟨fs15, x_15, hF15, hv15⟩ := hI.gI hm_h0 hk_h0 10 (ci := 0) ⟨rfl, rfl, by decide, rfl⟩
        refine g_get (ci := 0) (v := .int x_15) (C := RX0) (T := TX0) (N := 16) hx hb hts uB0 hown hK hP hm_h0 hF15 rfl 10 (by decide) wm_218 hv15 dX0_setThrottle_68 ?_
        refine lv_bipush (v := 11) hx hb dX0_setThrottle_71 (by decide) ?_
        refine lv_imul hx hb dX0_setThrottle_73 ?_
        refine lv_topi (fun x_16 ex_16 => ?_)
        refine lv_bipush (v := 10) hx hb dX0_setThrottle_74 (by decide) ?_
        refine lv_idiv hx hb dX0_setThrottle_76 (by decide) ?_
        refine lv_topi (fun x_17 ex_17 => ?_)
        refine lv_iconst (v := 1) hx hb dX0_setThrottle_77 (by decide) ?_
        refine lv_iadd hx hb dX0_setThrottle_78 ?_
        refine lv_topi (fun x_18 ex_18 => ?_)
        refine va_mmin hx hb (by rw [hml]; exact hl.1.symm) hown (hts _ wm_219) (hts _ wm_220) (hts _ wm_221) (hts _ wm_222) (Nat.le_of_ble_eq_true rfl) (Nat.le_of_ble_eq_true rfl) (Nat.le_of_ble_eq_true rfl) (Nat.le_of_ble_eq_true rfl) dX0_setThrottle_79 ?_
        refine lv_topi (fun x_19 ex_19 => ?_)
        obtain ⟨fs20, hF20, hn20, -⟩ := hI.o hm_h0 hk_h0 rfl (ci := 0) rfl (n := 16) rfl
        refine g_put (ci := 0) (v := .int x_19) (ty := .int) (C := RX0) (T := TX0) (N := 16) hx hb hts uB0 tyX0 tyX0_ok nmX0 hown hK hP hD hS hm_h0 hF20 rfl 10 (by decide) wm_218 rfl (by decide +kernel) rfl rfl (by rw [hn20]; decide) dX0_setThrottle_82 (fun H locs hP hD hS => ?_)
        obtain ⟨f_21, ef_21⟩ : ∃ z9, z9 = va_up f h0 (.inr (0, List.set fs20 10 (.int x_19))) := ⟨_, rfl⟩
        have hI := hI.p hm_h0 hk_h0 10 (ci := 0) (t := 1) (v := .int x_19) ⟨rfl, rfl, by decide, rfl⟩ hF20 fv1
        rw [← ef_21] at hP hD hI
        exact W.vret hx hb hr (fun t ht hW => ⟨⟨f_21, rfl, hI, by show va_P (dC, dI) vwCl (va_pl L f_21) t.heap; rw [ht]; exact hP⟩, hS.F ht⟩) hS.2.2 dX0_setThrottle_85
    · skip
      refine lv_aload_n hx hb dX0_setThrottle_35 rfl (lv_at hl 2 rfl) ?_
      refine lv_iconst (v := 1) hx hb dX0_setThrottle_36 (by decide) ?_
      refine lv_aload_n hx hb dX0_setThrottle_37 rfl (lv_at hl 2 rfl) ?_
      obtain ⟨fs22, x_22, hF22, hv22⟩ := hI.gI hm_h0 hk_h0 10 (ci := 0) ⟨rfl, rfl, by decide, rfl⟩
      refine g_get (ci := 0) (v := .int x_22) (C := RX0) (T := TX0) (N := 16) hx hb hts uB0 hown hK hP hm_h0 hF22 rfl 10 (by decide) wm_218 hv22 dX0_setThrottle_38 ?_
      refine lv_bipush (v := 9) hx hb dX0_setThrottle_41 (by decide) ?_
      refine lv_imul hx hb dX0_setThrottle_43 ?_
      refine lv_topi (fun x_23 ex_23 => ?_)
      refine lv_bipush (v := 10) hx hb dX0_setThrottle_44 (by decide) ?_
      refine lv_idiv hx hb dX0_setThrottle_46 (by decide) ?_
      refine lv_topi (fun x_24 ex_24 => ?_)
      refine va_mmax hx hb (by rw [hml]; exact hl.1.symm) hown (hts _ wm_223) (hts _ wm_224) (hts _ wm_221) (hts _ wm_225) (Nat.le_of_ble_eq_true rfl) (Nat.le_of_ble_eq_true rfl) (Nat.le_of_ble_eq_true rfl) (Nat.le_of_ble_eq_true rfl) dX0_setThrottle_47 ?_
      refine lv_topi (fun x_25 ex_25 => ?_)
      obtain ⟨fs26, hF26, hn26, -⟩ := hI.o hm_h0 hk_h0 rfl (ci := 0) rfl (n := 16) rfl
      refine g_put (ci := 0) (v := .int x_25) (ty := .int) (C := RX0) (T := TX0) (N := 16) hx hb hts uB0 tyX0 tyX0_ok nmX0 hown hK hP hD hS hm_h0 hF26 rfl 10 (by decide) wm_218 rfl (by decide +kernel) rfl rfl (by rw [hn26]; decide) dX0_setThrottle_50 (fun H locs hP hD hS => ?_)
      obtain ⟨f_27, ef_27⟩ : ∃ z9, z9 = va_up f h0 (.inr (0, List.set fs26 10 (.int x_25))) := ⟨_, rfl⟩
      have hI := hI.p hm_h0 hk_h0 10 (ci := 0) (t := 1) (v := .int x_25) ⟨rfl, rfl, by decide, rfl⟩ hF26 fv1
      rw [← ef_27] at hP hD hI
      refine lv_goto (tgt := 85) hx hb dX0_setThrottle_53 (by decide) ?_
      exact W.vret hx hb hr (fun t ht hW => ⟨⟨f_27, rfl, hI, by show va_P (dC, dI) vwCl (va_pl L f_27) t.heap; rw [ht]; exact hP⟩, hS.F ht⟩) hS.2.2 dX0_setThrottle_85
  · skip
    exact W.vret hx hb hr (fun t ht hW => ⟨⟨f, rfl, hI, by show va_P (dC, dI) vwCl (va_pl L f) t.heap; rw [ht]; exact hP⟩, hS.F ht⟩) hS.2.2 dX0_setThrottle_4
