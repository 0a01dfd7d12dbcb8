/-- the pool has grown: what was there is of its kind still -/
def cE (L L' : List Nat) (kd kd' sn sn' : Nat → Nat) : Prop := ∀ a ∈ L, a ∈ L' ∧ (¬ kd a = 0 → kd' a = kd a ∧ sn' a = sn a)
section CE
variable {L L0 L2 : List Nat} {kd k0 k2 sn n0 n2 : Nat → Nat} {q : Nat}
theorem cE.rf : cE L L kd kd sn sn := fun _ h => ⟨h, fun _ => ⟨rfl, rfl⟩⟩
theorem cE.push (h : cE L L0 kd k0 sn n0) (hq : q ∉ L0) (κ s9 : Nat) : cE L (L0 ++ [q]) kd (va_up k0 q κ) sn (va_up n0 q s9) := fun a ha => by
  have hn : ¬ a = q := fun z => hq (by rw [← z]; exact (h a ha).1)
  exact ⟨List.mem_append_left _ (h a ha).1, fun z => by rw [va_up_ne _ _ hn, va_up_ne _ _ hn]; exact (h a ha).2 z⟩
theorem cE.rk (h : cE L L0 kd k0 sn n0) (h0 : k0 q = 0) (κ s9 : Nat) : cE L L0 kd (va_up k0 q κ) sn (va_up n0 q s9) := fun a ha => by
  refine ⟨(h a ha).1, fun z => ?_⟩
  have hn : ¬ a = q := fun y => by rw [← y, ((h a ha).2 z).1] at h0; exact z h0
  rw [va_up_ne _ _ hn, va_up_ne _ _ hn]; exact (h a ha).2 z
theorem cE.tr (h : cE L L0 kd k0 sn n0) (h2 : cE L0 L2 k0 k2 n0 n2) : cE L L2 kd k2 sn n2 := fun a ha => by
  refine ⟨(h2 a (h a ha).1).1, fun z => ?_⟩
  have e1 := (h a ha).2 z
  have e2 := (h2 a (h a ha).1).2 (by rw [e1.1]; exact z)
  exact ⟨e2.1.trans e1.1, e2.2.trans e1.2⟩
end CE
theorem up_id (f : Nat → Nat) (q : Nat) : va_up f q (f q) = f := funext (fun j => by by_cases h : j = q; rw [h, va_up_self]; rw [va_up_ne _ _ h])
/-- Tally(): nothing comes of it -/
abbrev mT0 (l : Launch) (b : Nat) : Prop := Met l yX4_init (Cond.code yX4_init cX4_init 1 none :: lw_B) (rmD 1 0 0) (va_Pc [.ref b] (fun _ => True)) qRv 0 0 (fun _ => False)
set_option maxHeartbeats 4000000 in
set_option maxRecDepth 100000 in
theorem k_X4_init0 (l : Launch) (h0 : Nat) : mT0 l h0 := by
  refine Met.ofW (cc := cX4_init) (maxL := 1) (ret := none) (by decide) rfl ?_
  intro p e s m args below meth c s₁ B hml hv
  obtain ⟨rfl, -⟩ := hv
  have hx := B.exec
  have hb := B.bytes
  have hr := B.returns
  have hlocks := B.notSynchronized
  have hts0 := atoms_spec (ws := Cond.code yX4_init cX4_init 1 none :: lw_B) B.pre
  have hts : ∀ w ∈ lw_B, w.before _ s = true := fun w h => hts0 w (List.mem_cons_of_mem _ h)
  have hown : s.vm.findClass RX4 = some m.cls := findClass_of_methodNamed B.named
  have hS : va_S (fun _ => False) s.heap s.heap [] := va_S.rf
  have hl := lv_entry ([.ref h0]) (n := 1) (Nat.le_of_ble_eq_true rfl)
  rw [lg_entry_eq]
  generalize (lg_sl ([.ref h0]) ++ List.replicate (1 - (lg_sl ([.ref h0])).length) Slot.unset).toArray = ls at hl ⊢
  have hl : lv_has ls 1 [(0, .ref h0)] := hl
  refine lv_aload_n hx hb dX4_init_0 rfl (lv_at hl 0 rfl) ?_
  refine W.objInit hx hb hown (hts _ wm_460) (hts _ wm_461) (hts _ wm_462) rfl (by rw [hml]; exact hl.1) rfl dX4_init_1 (Nat.le_of_ble_eq_true rfl) (Nat.le_of_ble_eq_true rfl) ?_
  refine W.eq (g2 := F0 m 4 ls []) rfl ?_
  exact W.vret hx hb hr (fun t ht hW => ⟨⟨(), rfl, trivial, trivial⟩, hS.F ht⟩) hS.2.2 dX4_init_4
section KT
variable {p : Program} {l : Launch} {e : Env} {R : Room} {s : State} {m : MethodId} {args : Array Value} {below : List Frame} {meth : Method} {c : Code} {H : Heap} {locs : List Loc} {cells slots : Nat} {Q : State → Prop}
variable {A0 : Nat → Prop} {H0 : Heap} {D : va_G} {cl : List vw_C} {ws : va_W} {pc : Nat} {ls : Array Slot} {st0 rest : List Value} {cc : ByteArray} {nL index : Nat} {own host : String}
theorem k_T0 {b : Nat} (S : CallFix p m c cc nL s args lw_B own) (hM : mT0 l b) (w1 : va_Nw (.methodLinkNest own index yX4_init host) s) (w2 : Cond.instanceMethod yX4_init ∈ lw_B) (w4 : Cond.initialized yX4_init.cls ∈ lw_B) (w5 : Cond.code yX4_init cX4_init 1 none ∈ lw_B)
    (hd : yX4_init.cls ≠ "java/lang/invoke/MethodHandle" ∧ yX4_init.cls ≠ "java/lang/invoke/VarHandle" ∧ (parseMethodDescriptor yX4_init.desc).map (fun d => d.parameters.length) = some 0) (hR : 1 + 1 ≤ R.frames ∧ 8 + (1 + 11) + 40 * 1 ≤ R.locals)
    (hn : ([] : List Value).length = 0) (hls : ls.size = nL) (hst : st0 = ([] : List Value).reverse ++ .ref b :: rest) (hW : (rest.map fun v => v.category).sum ≤ 8) (hdg : decode cc pc = .ok (.invokespecial index, 3)) (hf : cells + 0 ≤ R.cells ∧ slots + 0 ≤ R.slots)
    (hS : va_S A0 H0 H locs) (hP : va_P D cl ws H)
    (kk : ∀ (H1 : Heap) (locs1 : List Loc), va_P D cl ws H1 → va_S A0 H0 H1 locs1 → W p l e R s m args below meth c H1 locs1 cells slots Q (F0 m (pc + 3) ls rest)) : W p l e R s m args below meth c H locs cells slots Q (F0 m pc ls st0) := by
  have ht := S.2.2.2.2
  exact va_callv (va_runIN (As := []) (rest := rest) S hM ⟨va_cnB 0 ht (lb_GI (lb_c w5)) rfl rfl rfl w1 (ht _ w4) hd hR, rfl, ht _ w2⟩ ⟨fun _ _ _ _ q => q, fun _ _ _ => ⟨rfl, trivial⟩⟩ rfl hn hls hst (lv_room hW) hdg hf) hS (fun _ _ h => h.elim) (fun _ h => h.elim) (fun _ _ H1 locs1 _ _ _ _ _ hk hS1 => kk H1 locs1 (hP.kept fun k q hq => hk q.1 (hP k q hq).lt id) hS1)
end KT
set_option maxHeartbeats 4000000 in
set_option maxRecDepth 100000 in
theorem k_X4_init (l : Launch) (dC : Nat → ClassId) (dI : Nat → Nat → Nat) (K : Nat → ClassId) (L : List Nat) (f : Nat → va_E) {np nc ns lk lc tp cp gp : Nat} {G J mk st : Nat → Int32} {ap : Nat → Int64} {kd sn : Nat → Nat} (hI : cI K np nc ns lk lc tp cp gp G J mk st ap kd sn L f) (h0 : Nat) (hm_h0 : h0 ∈ L) (hk_h0 : kd h0 = 19) (hLn : gN L) (sz : Nat) : gAv l yX4_init cX4_init 1 1 0 0 (dC, dI) K L f sz (fun _ => True) [.ref h0] (fun L' f' => cI K np nc ns lk lc tp cp gp G J mk st ap kd sn L' f' ∧ cE L L' kd kd sn sn ∧ gN L' ∧ (∀ a ∈ L', a ∈ L ∨ sz ≤ a)) := by
  refine Met.ofW (cc := cX4_init) (maxL := 1) (ret := none) (by decide) rfl ?_
  intro p e s m args below meth c s₁ B hml hv
  obtain ⟨rfl, hsz, hP, hK, hex⟩ := hv
  subst hsz
  have hD : va_D (fun q : Nat => q ∈ L ∨ s.heap.size ≤ q) (va_pl L f) := g_D hLn (fun a h => Or.inl h) f
  generalize hAe : (fun q : Nat => q ∈ L ∨ s.heap.size ≤ q) = A at hD ⊢
  have hA : ∀ q : Nat, s.heap.size ≤ q → A q := fun q h => by rw [← hAe]; exact Or.inr h
  have hLA : ∀ a ∈ L, A a := fun a h => by rw [← hAe]; exact Or.inl h
  have hCE : cE L L kd kd sn sn := cE.rf
  have hx := B.exec
  have hb := B.bytes
  have hr := B.returns
  have hlocks := B.notSynchronized
  have hts0 := atoms_spec (ws := Cond.code yX4_init cX4_init 1 none :: lw_B) B.pre
  have hts : ∀ w ∈ lw_B, w.before _ s = true := fun w h => hts0 w (List.mem_cons_of_mem _ h)
  have hown : s.vm.findClass RX4 = some m.cls := findClass_of_methodNamed B.named
  have hin : meth.name = "<init>" := (name_of_methodNamed B.named B.method).1
  have hS : va_S A s.heap s.heap [] := va_S.rf
  have hl := lv_entry ([.ref h0]) (n := 1) (Nat.le_of_ble_eq_true rfl)
  rw [lg_entry_eq]
  generalize (lg_sl ([.ref h0]) ++ List.replicate (1 - (lg_sl ([.ref h0])).length) Slot.unset).toArray = ls at hl ⊢
  have hl : lv_has ls 1 [(0, .ref h0)] := hl
  refine lv_aload_n hx hb dX4_init_0 rfl (lv_at hl 0 rfl) ?_
  refine W.objInit hx hb hown (hts _ wm_460) (hts _ wm_461) (hts _ wm_462) rfl (by rw [hml]; exact hl.1) rfl dX4_init_1 (Nat.le_of_ble_eq_true rfl) (Nat.le_of_ble_eq_true rfl) ?_
  refine W.eq (g2 := F0 m 4 ls []) rfl ?_
  refine W.widen (k := 0) (n := 0) (Nat.le_of_ble_eq_true rfl) (Nat.le_of_ble_eq_true rfl) ?_
  exact W.vret hx hb hr (fun t ht hW => ⟨⟨(L, f), rfl, ⟨hI, hCE, hLn, (fun a h => by have h9 := hLA a h; rw [← hAe] at h9; exact h9)⟩, by show va_P (dC, dI) vwCl (va_pl L f) t.heap; rw [ht]; exact hP⟩, hS.F ht⟩) hS.2.2 dX4_init_4
set_option maxHeartbeats 4000000 in
set_option maxRecDepth 100000 in
theorem k_X3_init (l : Launch) (dC : Nat → ClassId) (dI : Nat → Nat → Nat) (K : Nat → ClassId) (L : List Nat) (f : Nat → va_E) {np nc ns lk lc tp cp gp : Nat} {G J mk st : Nat → Int32} {ap : Nat → Int64} {kd sn : Nat → Nat} (hI : cI K np nc ns lk lc tp cp gp G J mk st ap kd sn L f) (h0 : Nat) (hm_h0 : h0 ∈ L) (hk_h0 : kd h0 = 18) (x : Int32) (y : Int32) (pg : Nat) (z : Int32) (cn : Nat) (hpg : pg < np) (hcn : cn < nc) (hLn : gN L) (sz : Nat) : gAv l yX3_init cX3_init 6 1 0 0 (dC, dI) K L f sz (fun _ => True) [.ref h0, .int x, .int y, .int (nI pg), .int z, .int (nI cn)] (fun L' f' => cI K np nc ns lk lc tp cp gp G J mk st ap kd sn L' f' ∧ cE L L' kd kd sn sn ∧ gN L' ∧ (∀ a ∈ L', a ∈ L ∨ sz ≤ a) ∧ (L' = L)) := by
  refine Met.ofW (cc := cX3_init) (maxL := 6) (ret := none) (by decide) rfl ?_
  intro p e s m args below meth c s₁ B hml hv
  obtain ⟨rfl, hsz, hP, hK, hex⟩ := hv
  subst hsz
  have hD : va_D (fun q : Nat => q ∈ L ∨ s.heap.size ≤ q) (va_pl L f) := g_D hLn (fun a h => Or.inl h) f
  generalize hAe : (fun q : Nat => q ∈ L ∨ s.heap.size ≤ q) = A at hD ⊢
  have hA : ∀ q : Nat, s.heap.size ≤ q → A q := fun q h => by rw [← hAe]; exact Or.inr h
  have hLA : ∀ a ∈ L, A a := fun a h => by rw [← hAe]; exact Or.inl h
  have hCE : cE L L kd kd sn sn := cE.rf
  have hx := B.exec
  have hb := B.bytes
  have hr := B.returns
  have hlocks := B.notSynchronized
  have hts0 := atoms_spec (ws := Cond.code yX3_init cX3_init 6 none :: lw_B) B.pre
  have hts : ∀ w ∈ lw_B, w.before _ s = true := fun w h => hts0 w (List.mem_cons_of_mem _ h)
  have hown : s.vm.findClass RX3 = some m.cls := findClass_of_methodNamed B.named
  have hin : meth.name = "<init>" := (name_of_methodNamed B.named B.method).1
  have hS : va_S A s.heap s.heap [] := va_S.rf
  have hl := lv_entry ([.ref h0, .int x, .int y, .int (nI pg), .int z, .int (nI cn)]) (n := 6) (Nat.le_of_ble_eq_true rfl)
  rw [lg_entry_eq]
  generalize (lg_sl ([.ref h0, .int x, .int y, .int (nI pg), .int z, .int (nI cn)]) ++ List.replicate (6 - (lg_sl ([.ref h0, .int x, .int y, .int (nI pg), .int z, .int (nI cn)])).length) Slot.unset).toArray = ls at hl ⊢
  have hl : lv_has ls 6 [(0, .ref h0), (1, .int x), (2, .int y), (3, .int (nI pg)), (4, .int z), (5, .int (nI cn))] := hl
  refine lv_aload_n hx hb dX3_init_0 rfl (lv_at hl 0 rfl) ?_
  refine W.objInit hx hb hown (hts _ wm_463) (hts _ wm_461) (hts _ wm_462) rfl (by rw [hml]; exact hl.1) rfl dX3_init_1 (Nat.le_of_ble_eq_true rfl) (Nat.le_of_ble_eq_true rfl) ?_
  refine W.eq (g2 := F0 m 4 ls []) rfl ?_
  refine lv_aload_n hx hb dX3_init_4 rfl (lv_at hl 0 rfl) ?_
  refine lv_iload_n hx hb dX3_init_5 rfl (lv_at hl 1 rfl) ?_
  obtain ⟨fs1, hF1, hn1, -⟩ := hI.o hm_h0 hk_h0 rfl (ci := 3) rfl (n := 12) rfl
  refine g_putF (ci := 3) (v := .int x) (ty := .int) (C := RX3) (T := TX3) (N := 12) hx hb hts uB3 tyX3 tyX3_ok nmX3 hown hK hP hD hS hm_h0 hF1 rfl 0 (by decide) wm_464 rfl hin rfl (by decide +kernel) rfl rfl (by rw [hn1]; decide) dX3_init_6 (fun H locs hP hD hS => ?_)
  obtain ⟨f_2, ef_2⟩ : ∃ z9, z9 = va_up f h0 (.inr (3, List.set fs1 0 (.int x))) := ⟨_, rfl⟩
  have hI := hI.p hm_h0 hk_h0 0 (ci := 3) (t := 1) (v := .int x) ⟨rfl, rfl, by decide, rfl⟩ hF1 fv1
  rw [← ef_2] at hP hD hI
  refine lv_aload_n hx hb dX3_init_9 rfl (lv_at hl 0 rfl) ?_
  refine lv_iload_n hx hb dX3_init_10 rfl (lv_at hl 2 rfl) ?_
  obtain ⟨fs3, hF3, hn3, -⟩ := hI.o hm_h0 hk_h0 rfl (ci := 3) rfl (n := 12) rfl
  refine g_putF (ci := 3) (v := .int y) (ty := .int) (C := RX3) (T := TX3) (N := 12) hx hb hts uB3 tyX3 tyX3_ok nmX3 hown hK hP hD hS hm_h0 hF3 rfl 1 (by decide) wm_465 rfl hin rfl (by decide +kernel) rfl rfl (by rw [hn3]; decide) dX3_init_11 (fun H locs hP hD hS => ?_)
  obtain ⟨f_4, ef_4⟩ : ∃ z9, z9 = va_up f_2 h0 (.inr (3, List.set fs3 1 (.int y))) := ⟨_, rfl⟩
  have hI := hI.p hm_h0 hk_h0 1 (ci := 3) (t := 1) (v := .int y) ⟨rfl, rfl, by decide, rfl⟩ hF3 fv1
  rw [← ef_4] at hP hD hI
  refine lv_aload_n hx hb dX3_init_14 rfl (lv_at hl 0 rfl) ?_
  refine lv_iload_n hx hb dX3_init_15 rfl (lv_at hl 3 rfl) ?_
  obtain ⟨fs5, hF5, hn5, -⟩ := hI.o hm_h0 hk_h0 rfl (ci := 3) rfl (n := 12) rfl
  refine g_putF (ci := 3) (v := .int (nI pg)) (ty := .int) (C := RX3) (T := TX3) (N := 12) hx hb hts uB3 tyX3 tyX3_ok nmX3 hown hK hP hD hS hm_h0 hF5 rfl 2 (by decide) wm_466 rfl hin rfl (by decide +kernel) rfl rfl (by rw [hn5]; decide) dX3_init_16 (fun H locs hP hD hS => ?_)
  obtain ⟨f_6, ef_6⟩ : ∃ z9, z9 = va_up f_4 h0 (.inr (3, List.set fs5 2 (.int (nI pg)))) := ⟨_, rfl⟩
  have hI := hI.p hm_h0 hk_h0 2 (ci := 3) (t := 6) (v := .int (nI pg)) ⟨rfl, rfl, by decide, rfl⟩ hF5 (fv6 hpg)
  rw [← ef_6] at hP hD hI
  refine lv_aload_n hx hb dX3_init_19 rfl (lv_at hl 0 rfl) ?_
  refine lv_iload hx hb dX3_init_20 (lv_at hl 4 rfl) ?_
  obtain ⟨fs7, hF7, hn7, -⟩ := hI.o hm_h0 hk_h0 rfl (ci := 3) rfl (n := 12) rfl
  refine g_putF (ci := 3) (v := .int z) (ty := .int) (C := RX3) (T := TX3) (N := 12) hx hb hts uB3 tyX3 tyX3_ok nmX3 hown hK hP hD hS hm_h0 hF7 rfl 3 (by decide) wm_467 rfl hin rfl (by decide +kernel) rfl rfl (by rw [hn7]; decide) dX3_init_22 (fun H locs hP hD hS => ?_)
  obtain ⟨f_8, ef_8⟩ : ∃ z9, z9 = va_up f_6 h0 (.inr (3, List.set fs7 3 (.int z))) := ⟨_, rfl⟩
  have hI := hI.p hm_h0 hk_h0 3 (ci := 3) (t := 1) (v := .int z) ⟨rfl, rfl, by decide, rfl⟩ hF7 fv1
  rw [← ef_8] at hP hD hI
  refine lv_aload_n hx hb dX3_init_25 rfl (lv_at hl 0 rfl) ?_
  refine lv_iload hx hb dX3_init_26 (lv_at hl 5 rfl) ?_
  obtain ⟨fs9, hF9, hn9, -⟩ := hI.o hm_h0 hk_h0 rfl (ci := 3) rfl (n := 12) rfl
  refine g_putF (ci := 3) (v := .int (nI cn)) (ty := .int) (C := RX3) (T := TX3) (N := 12) hx hb hts uB3 tyX3 tyX3_ok nmX3 hown hK hP hD hS hm_h0 hF9 rfl 4 (by decide) wm_468 rfl hin rfl (by decide +kernel) rfl rfl (by rw [hn9]; decide) dX3_init_28 (fun H locs hP hD hS => ?_)
  obtain ⟨f_10, ef_10⟩ : ∃ z9, z9 = va_up f_8 h0 (.inr (3, List.set fs9 4 (.int (nI cn)))) := ⟨_, rfl⟩
  have hI := hI.p hm_h0 hk_h0 4 (ci := 3) (t := 7) (v := .int (nI cn)) ⟨rfl, rfl, by decide, rfl⟩ hF9 (fv7 hcn)
  rw [← ef_10] at hP hD hI
  refine W.widen (k := 0) (n := 0) (Nat.le_of_ble_eq_true rfl) (Nat.le_of_ble_eq_true rfl) ?_
  exact W.vret hx hb hr (fun t ht hW => ⟨⟨(L, f_10), rfl, ⟨hI, hCE, hLn, (fun a h => by have h9 := hLA a h; rw [← hAe] at h9; exact h9), rfl⟩, by show va_P (dC, dI) vwCl (va_pl L f_10) t.heap; rw [ht]; exact hP⟩, hS.F ht⟩) hS.2.2 dX3_init_31
set_option maxHeartbeats 4000000 in
set_option maxRecDepth 100000 in
theorem k_X2_init (l : Launch) (dC : Nat → ClassId) (dI : Nat → Nat → Nat) (K : Nat → ClassId) (L : List Nat) (f : Nat → va_E) {np nc ns lk lc tp cp gp : Nat} {G J mk st : Nat → Int32} {ap : Nat → Int64} {kd sn : Nat → Nat} (hI : cI K np nc ns lk lc tp cp gp G J mk st ap kd sn L f) (h0 : Nat) (hm_h0 : h0 ∈ L) (hk_h0 : kd h0 = 0) (hF_h0 : f h0 = .inr (2, [.null, .int 0, .int 0, .long 0])) (x : Int32) (k : Nat) (hk1 : 1 ≤ k) (hk4 : k ≤ 4) (hLn : gN L) (sz : Nat) : gAv l yX2_init cX2_init 5 1 1 4 (dC, dI) K L f sz (fun _ => True) [.ref h0, .int x, .int (nI k)] (fun L' f' => ∃ (kd2 : Nat → Nat) (sn2 : Nat → Nat) (fs9 : List Value) (b9 : Nat), cI K np nc ns lk lc tp cp gp G J mk st ap kd2 sn2 L' f' ∧ cE L L' kd kd2 sn sn2 ∧ gN L' ∧ (∀ a ∈ L', a ∈ L ∨ sz ≤ a) ∧ (f' h0 = .inr (2, fs9)) ∧ (fs9.length = 4) ∧ (fs9[0]? = some (.ref b9)) ∧ (b9 ∈ L') ∧ (kd2 b9 = 17) ∧ (fs9[1]? = some (.int (nI k))) ∧ (fs9[2]? = some (.int 0)) ∧ (fs9[3]? = some (.long 0)) ∧ (kd2 h0 = 0)) := by
  refine Met.ofW (cc := cX2_init) (maxL := 5) (ret := none) (by decide) rfl ?_
  intro p e s m args below meth c s₁ B hml hv
  obtain ⟨rfl, hsz, hP, hK, hex⟩ := hv
  subst hsz
  have hD : va_D (fun q : Nat => q ∈ L ∨ s.heap.size ≤ q) (va_pl L f) := g_D hLn (fun a h => Or.inl h) f
  generalize hAe : (fun q : Nat => q ∈ L ∨ s.heap.size ≤ q) = A at hD ⊢
  have hA : ∀ q : Nat, s.heap.size ≤ q → A q := fun q h => by rw [← hAe]; exact Or.inr h
  have hLA : ∀ a ∈ L, A a := fun a h => by rw [← hAe]; exact Or.inl h
  have hCE : cE L L kd kd sn sn := cE.rf
  have hx := B.exec
  have hb := B.bytes
  have hr := B.returns
  have hlocks := B.notSynchronized
  have hts0 := atoms_spec (ws := Cond.code yX2_init cX2_init 5 none :: lw_B) B.pre
  have hts : ∀ w ∈ lw_B, w.before _ s = true := fun w h => hts0 w (List.mem_cons_of_mem _ h)
  have hown : s.vm.findClass RX2 = some m.cls := findClass_of_methodNamed B.named
  have hin : meth.name = "<init>" := (name_of_methodNamed B.named B.method).1
  have hS : va_S A s.heap s.heap [] := va_S.rf
  have hl_h0 : ([.null, .int 0, .int 0, .long 0] : List Value).length = 4 := rfl
  have hl := lv_entry ([.ref h0, .int x, .int (nI k)]) (n := 5) (Nat.le_of_ble_eq_true rfl)
  rw [lg_entry_eq]
  generalize (lg_sl ([.ref h0, .int x, .int (nI k)]) ++ List.replicate (5 - (lg_sl ([.ref h0, .int x, .int (nI k)])).length) Slot.unset).toArray = ls at hl ⊢
  have hl : lv_has ls 5 [(0, .ref h0), (1, .int x), (2, .int (nI k))] := hl
  have hr0_h0 : ([.null, .int 0, .int 0, .long 0] : List Value)[0]? = some (.null) := rfl
  have hr1_h0 : ([.null, .int 0, .int 0, .long 0] : List Value)[1]? = some (.int 0) := rfl
  have hr2_h0 : ([.null, .int 0, .int 0, .long 0] : List Value)[2]? = some (.int 0) := rfl
  have hr3_h0 : ([.null, .int 0, .int 0, .long 0] : List Value)[3]? = some (.long 0) := rfl
  refine lv_aload_n hx hb dX2_init_0 rfl (lv_at hl 0 rfl) ?_
  refine W.objInit hx hb hown (hts _ wm_469) (hts _ wm_461) (hts _ wm_462) rfl (by rw [hml]; exact hl.1) rfl dX2_init_1 (Nat.le_of_ble_eq_true rfl) (Nat.le_of_ble_eq_true rfl) ?_
  refine W.eq (g2 := F0 m 4 ls []) rfl ?_
  refine lv_aload_n hx hb dX2_init_4 rfl (lv_at hl 0 rfl) ?_
  refine lv_iconst (v := 4) hx hb dX2_init_5 (by decide) ?_
  refine g_newa hx hb (hts _ wm_470) hK hP hLn hLA hS hA (Nat.le_of_ble_eq_true rfl) (Nat.le_of_ble_eq_true rfl) dX2_init_6 (fun q_1 H hq_q_1 hLn hLA hP hS => ?_)
  obtain ⟨L_2, eL_2⟩ : ∃ z9, z9 = L ++ [q_1] := ⟨_, rfl⟩
  obtain ⟨kd_3, ekd_3⟩ : ∃ z9, z9 = va_up kd q_1 17 := ⟨_, rfl⟩
  obtain ⟨f_4, ef_4⟩ : ∃ z9, z9 = va_up f q_1 (.inl (K 0, 4, .inl (fun _ => 0))) := ⟨_, rfl⟩
  have hI := hI.nk hq_q_1 17 0 (by decide) (by decide) (sizes_ok (g := fun _ => 0))
  obtain ⟨sn_5, esn_5⟩ : ∃ z9, z9 = va_up sn q_1 0 := ⟨_, rfl⟩
  rw [← esn_5, ← ekd_3, ← eL_2, ← ef_4] at hI
  rw [← eL_2, ← ef_4] at hP
  rw [← eL_2] at hLn hLA
  have hCE := hCE.push hq_q_1 17 0
  rw [← ekd_3, ← eL_2, ← esn_5] at hCE
  have hk_h0 : kd_3 h0 = 0 := by rw [ekd_3, va_up_ne _ _ (fun z => hq_q_1 (by rw [← z]; exact hm_h0))]; exact hk_h0
  have hF_h0 : f_4 h0 = .inr (2, ([.null, .int 0, .int 0, .long 0] : List Value)) := by rw [ef_4, va_up_ne _ _ (fun z => hq_q_1 (by rw [← z]; exact hm_h0))]; exact hF_h0
  have hm_h0 : h0 ∈ L_2 := by rw [eL_2]; exact List.mem_append_left _ hm_h0
  have hm_q_1 : q_1 ∈ L_2 := by rw [eL_2]; exact List.mem_append_right _ (List.mem_singleton.mpr rfl)
  have hk_q_1 : kd_3 q_1 = 17 := by rw [ekd_3, va_up_self]
  have hsn_q_1 : sn_5 q_1 = 0 := by rw [esn_5, va_up_self]
  have hD : va_D A (va_pl L_2 f_4) := g_D hLn hLA f_4
  refine g_putF (ci := 2) (v := .ref q_1) (ty := .array (.int)) (C := RX2) (T := TX2) (N := 4) hx hb hts uB2 tyX2 tyX2_ok nmX2 hown hK hP hD hS hm_h0 hF_h0 rfl 0 (by decide) wm_471 rfl hin rfl (by decide +kernel) rfl rfl (by rw [hl_h0]; decide) dX2_init_8 (fun H locs hP hD hS => ?_)
  obtain ⟨fs_6, efs_6⟩ : ∃ z9, z9 = List.set ([.null, .int 0, .int 0, .long 0] : List Value) 0 (.ref q_1) := ⟨_, rfl⟩
  rw [← efs_6] at hP hD
  obtain ⟨f_7, ef_7⟩ : ∃ z9, z9 = va_up f_4 h0 (.inr (2, fs_6)) := ⟨_, rfl⟩
  have hI := hI.w0 hm_h0 hk_h0 (.inr (2, fs_6))
  rw [← ef_7] at hP hD hI
  have hF_h0 : f_7 h0 = .inr (2, fs_6) := by rw [ef_7, va_up_self]
  have hr1_h0 : fs_6[1]? = some (.int 0) := by rw [efs_6, List.getElem?_set_ne (by decide)]; exact hr1_h0
  have hr2_h0 : fs_6[2]? = some (.int 0) := by rw [efs_6, List.getElem?_set_ne (by decide)]; exact hr2_h0
  have hr3_h0 : fs_6[3]? = some (.long 0) := by rw [efs_6, List.getElem?_set_ne (by decide)]; exact hr3_h0
  have hr0_h0 : fs_6[0]? = some (.ref q_1) := by rw [efs_6]; exact List.getElem?_set_self (by rw [hl_h0]; decide)
  have hl_h0 : fs_6.length = 4 := by rw [efs_6, List.length_set]; exact hl_h0
  refine lv_aload_n hx hb dX2_init_11 rfl (lv_at hl 0 rfl) ?_
  refine lv_iload_n hx hb dX2_init_12 rfl (lv_at hl 2 rfl) ?_
  refine g_putF (ci := 2) (v := .int (nI k)) (ty := .int) (C := RX2) (T := TX2) (N := 4) hx hb hts uB2 tyX2 tyX2_ok nmX2 hown hK hP hD hS hm_h0 hF_h0 rfl 1 (by decide) wm_472 rfl hin rfl (by decide +kernel) rfl rfl (by rw [hl_h0]; decide) dX2_init_13 (fun H locs hP hD hS => ?_)
  obtain ⟨fs_8, efs_8⟩ : ∃ z9, z9 = List.set fs_6 1 (.int (nI k)) := ⟨_, rfl⟩
  rw [← efs_8] at hP hD
  obtain ⟨f_9, ef_9⟩ : ∃ z9, z9 = va_up f_7 h0 (.inr (2, fs_8)) := ⟨_, rfl⟩
  have hI := hI.w0 hm_h0 hk_h0 (.inr (2, fs_8))
  rw [← ef_9] at hP hD hI
  have hF_h0 : f_9 h0 = .inr (2, fs_8) := by rw [ef_9, va_up_self]
  have hr2_h0 : fs_8[2]? = some (.int 0) := by rw [efs_8, List.getElem?_set_ne (by decide)]; exact hr2_h0
  have hr3_h0 : fs_8[3]? = some (.long 0) := by rw [efs_8, List.getElem?_set_ne (by decide)]; exact hr3_h0
  have hr0_h0 : fs_8[0]? = some (.ref q_1) := by rw [efs_8, List.getElem?_set_ne (by decide)]; exact hr0_h0
  have hr1_h0 : fs_8[1]? = some (.int (nI k)) := by rw [efs_8]; exact List.getElem?_set_self (by rw [hl_h0]; decide)
  have hl_h0 : fs_8.length = 4 := by rw [efs_8, List.length_set]; exact hl_h0
  refine lv_iload_n hx hb dX2_init_16 rfl (lv_at hl 1 rfl) ?_
  refine lv_istore_n (lv' := [(3, .int x), (0, .ref h0), (1, .int x), (2, .int (nI k))]) hx hb dX2_init_17 rfl hl (by decide) rfl (fun ls hl => ?_)
  refine lv_iload_n hx hb dX2_init_18 rfl (lv_at hl 3 rfl) ?_
  refine lv_iconst (v := 4) hx hb dX2_init_19 (by decide) ?_
  refine va_mmin hx hb (by rw [hml]; exact hl.1.symm) hown (hts _ wm_473) (hts _ wm_220) (hts _ wm_221) (hts _ wm_222) (Nat.le_of_ble_eq_true rfl) (Nat.le_of_ble_eq_true rfl) (Nat.le_of_ble_eq_true rfl) (Nat.le_of_ble_eq_true rfl) dX2_init_20 ?_
  refine lv_topi (fun x_10 ex_10 => ?_)
  obtain rfl : x_10 = nI k := ex_10.trans (if_neg (show ¬ nI 4 < nI k from fun q => absurd ((nI_ltI (by decide) (by omega)).mp q) (by omega)))
  refine lv_iconst (v := 1) hx hb dX2_init_23 (by decide) ?_
  refine lv_isub hx hb dX2_init_24 ?_
  refine lv_topi (fun x_11 ex_11 => ?_)
  refine lv_istore (lv' := [(4, .int x_11), (3, .int x), (0, .ref h0), (1, .int x), (2, .int (nI k))]) hx hb dX2_init_25 hl (by decide) rfl (fun ls hl => ?_)
  subst ex_11
  refine k_lx (pcx := 56) (fun n H locs ls => ∃ (fva : Nat → va_E) (n1 : Nat) (rs : Int32), n1 = n ∧ cI K np nc ns lk lc tp cp gp G J mk st ap kd_3 sn_5 L_2 fva ∧ (n1 ≤ 4) ∧ (fva h0 = .inr (2, fs_8)) ∧ va_P (dC, dI) vwCl (va_pl L_2 fva) H ∧ va_S A s.heap H locs ∧ lv_has ls 5 [(0, .ref h0), (3, .int rs), (4, .int (nI n1 - 1))]) (fun H locs ls => ∃ (fva : Nat → va_E) (n1 : Nat) (rs : Int32), cI K np nc ns lk lc tp cp gp G J mk st ap kd_3 sn_5 L_2 fva ∧ (fva h0 = .inr (2, fs_8)) ∧ va_P (dC, dI) vwCl (va_pl L_2 fva) H ∧ va_S A s.heap H locs ∧ lv_has ls 5 [(0, .ref h0)]) (fun H locs ls hI_ => ?_) (fun n H locs ls hI_ hEa iha => ?_) _ _ _ _ ⟨f_9, k, _, rfl, hI, hk4, hF_h0, hP, hS, lv_sub hl [2, 1, 0] rfl⟩
  · skip
    obtain ⟨fva, n1, rs, hI, hF_h0, hP, hS, hl⟩ := hI_
    have hD : va_D A (va_pl L_2 fva) := g_D hLn hLA fva
    refine W.widen (k := 1) (n := 4) (Nat.le_of_ble_eq_true rfl) (Nat.le_of_ble_eq_true rfl) ?_
    exact W.vret hx hb hr (fun t ht hW => ⟨⟨(L_2, fva), rfl, ⟨kd_3, sn_5, fs_8, q_1, hI, hCE, hLn, (fun a h => by have h9 := hLA a h; rw [← hAe] at h9; exact h9), hF_h0, hl_h0, hr0_h0, hm_q_1, hk_q_1, hr1_h0, hr2_h0, hr3_h0, hk_h0⟩, by show va_P (dC, dI) vwCl (va_pl L_2 fva) t.heap; rw [ht]; exact hP⟩, hS.F ht⟩) hS.2.2 dX2_init_56
  · skip
    obtain ⟨fva, n1, rs, hmua, hI, hn1, hF_h0, hP, hS, hl⟩ := hI_
    have hD : va_D A (va_pl L_2 fva) := g_D hLn hLA fva
    rcases Nat.eq_zero_or_pos n1 with hz | hz
    · skip
      subst hz
      rw [show nI 0 - 1 = (-1 : Int32) from by decide] at hl
      refine lv_iload hx hb dX2_init_27 (lv_at hl 2 rfl) ?_
      refine lv_if_lt (tgt := 56) hx hb dX2_init_29 (by decide) (fun _ => ?_) (fun h9 => absurd (by decide) h9)
      exact hEa _ _ _ ⟨fva, 0, rs, hI, hF_h0, hP, hS, lv_sub hl [0] rfl⟩
    · skip
      obtain ⟨nn, rfl⟩ : ∃ z9, n1 = z9 + 1 := ⟨n1 - 1, by omega⟩
      rw [nI_pred] at hl
      refine lv_iload hx hb dX2_init_27 (lv_at hl 2 rfl) ?_
      refine lv_if_lt (tgt := 56) hx hb dX2_init_29 (by decide) (fun c_12 => ?_) (fun c_12 => ?_)
      · skip
        have nc_12 : nn < 0 := (bn_lt (a := nn) (b := 0) (by omega) (by omega)).mp (show nI nn < nI 0 from c_12)
        exact (show False by omega).elim
      · skip
        have nc_12 : ¬ (nn < 0) := fun q => c_12 (show nI nn < nI 0 from (bn_lt (a := nn) (b := 0) (by omega) (by omega)).mpr q)
        refine lv_aload_n hx hb dX2_init_32 rfl (lv_at hl 0 rfl) ?_
        refine g_get (ci := 2) (v := .ref q_1) (C := RX2) (T := TX2) (N := 4) hx hb hts uB2 hown hK hP hm_h0 hF_h0 rfl 0 (by decide) wm_471 hr0_h0 dX2_init_33 ?_
        refine lv_iload hx hb dX2_init_36 (lv_at hl 2 rfl) ?_
        refine lv_iload_n hx hb dX2_init_38 rfl (lv_at hl 1 rfl) ?_
        refine lv_sipush (v := 128) hx hb dX2_init_39 (by decide) ?_
        refine lv_irem hx hb dX2_init_42 (by decide) ?_
        refine lv_topi (fun x_13 ex_13 => ?_)
        obtain ⟨g14, hF14⟩ := hI.a17 hm_q_1 hk_q_1
        refine g_iast hx hb hK hP hD hS hm_q_1 hF14 (vp_in_nI (by omega) (by decide)) dX2_init_43 (fun H locs hP hD hS => ?_)
        obtain ⟨g_15, eg_15⟩ : ∃ z9, z9 = upd g14 (Int32.toNatClampNeg (nI nn)) x_13 := ⟨_, rfl⟩
        rw [← eg_15] at hP hD
        rw [nI_clamp (by omega)] at eg_15
        obtain ⟨f_16, ef_16⟩ : ∃ z9, z9 = va_up fva q_1 (.inl (K 0, 4, .inl g_15)) := ⟨_, rfl⟩
        have hI := hI.s17 hm_q_1 hk_q_1 g_15
        rw [← ef_16] at hP hD hI
        have hF_h0 : f_16 h0 = .inr (2, fs_8) := by rw [ef_16, va_up_ne _ _ (fun z => by rw [z, hk_q_1] at hk_h0; exact absurd hk_h0 (by decide))]; exact hF_h0
        refine lv_iload_n hx hb dX2_init_44 rfl (lv_at hl 1 rfl) ?_
        refine lv_sipush (v := 128) hx hb dX2_init_45 (by decide) ?_
        refine lv_idiv hx hb dX2_init_48 (by decide) ?_
        refine lv_topi (fun x_17 ex_17 => ?_)
        refine lv_istore_n (lv' := [(3, .int x_17), (0, .ref h0), (4, .int (nI nn))]) hx hb dX2_init_49 rfl hl (by decide) rfl (fun ls hl => ?_)
        obtain ⟨x_18, ex_18⟩ : ∃ y : Int32, y = (nI nn) + (-1) := ⟨_, rfl⟩
        refine lv_iinc (v := x_18) (lv' := [(4, .int x_18), (3, .int x_17), (0, .ref h0)]) hx hb dX2_init_50 hl (k := 2) rfl (by rw [ex_18]; rfl) (by decide) rfl (fun ls hl => ?_)
        refine lv_goto (tgt := 27) hx hb dX2_init_53 (by decide) ?_
        obtain rfl : x_18 = nI nn - 1 := ex_18.trans (by rw [Int32.sub_eq_add_neg])
        exact iha _ (by omega) _ _ _ ⟨f_16, nn, _, rfl, hI, by omega, hF_h0, hP, hS, lv_sub hl [2, 1, 0] rfl⟩
set_option maxHeartbeats 4000000 in
set_option maxRecDepth 100000 in
theorem k_X0_init (l : Launch) (dC : Nat → ClassId) (dI : Nat → Nat → Nat) (K : Nat → ClassId) (L : List Nat) (f : Nat → va_E) {np nc ns lk lc tp cp gp : Nat} {G J mk st : Nat → Int32} {ap : Nat → Int64} {kd sn : Nat → Nat} (hI : cI K np nc ns lk lc tp cp gp G J mk st ap kd sn L f) (h0 : Nat) (hm_h0 : h0 ∈ L) (hk_h0 : kd h0 = 0) (hF_h0 : f h0 = .inr (0, [.int 0, .int 0, .int 0, .int 0, .int 0, .null, .int 0, .int 0, .int 0, .int 0, .int 0, .int 0, .long 0, .int 0, .int 0, .long 0])) (x : Int32) (y : Int32) (z : Int32) (hLn : gN L) (sz : Nat) : gAv l yX0_init cX0_init 4 2 1 8 (dC, dI) K L f sz (va_Nw (.methodLinkNest RX0 11 yX4_init "NoticeMarket")) [.ref h0, .int x, .int y, .int z] (fun L' f' => ∃ (kd2 : Nat → Nat) (sn2 : Nat → Nat) (fs9 : List Value) (b9 : Nat) (x09 : Int32) (x19 : Int32) (x29 : Int32) (x39 : Int32) (x49 : Int32) (x69 : Int32) (x79 : Int32) (x89 : Int32) (x99 : Int32) (x109 : Int32) (x139 : Int32) (x149 : Int32) (x159 : Int64), cI K np nc ns lk lc tp cp gp G J mk st ap kd2 sn2 L' f' ∧ cE L L' kd kd2 sn sn2 ∧ gN L' ∧ (∀ a ∈ L', a ∈ L ∨ sz ≤ a) ∧ (f' h0 = .inr (0, fs9)) ∧ (fs9.length = 16) ∧ (fs9[0]? = some (.int x09)) ∧ (fs9[1]? = some (.int x19)) ∧ (fs9[2]? = some (.int x29)) ∧ (fs9[3]? = some (.int x39)) ∧ (fs9[4]? = some (.int x49)) ∧ (fs9[6]? = some (.int x69)) ∧ (fs9[7]? = some (.int x79)) ∧ (fs9[8]? = some (.int x89)) ∧ (fs9[9]? = some (.int x99)) ∧ (fs9[10]? = some (.int x109)) ∧ (fs9[13]? = some (.int x139)) ∧ (fs9[14]? = some (.int x149)) ∧ (fs9[5]? = some (.ref b9)) ∧ (b9 ∈ L') ∧ (kd2 b9 = 19) ∧ (fs9[11]? = some (.int 0)) ∧ (fs9[12]? = some (.long 0)) ∧ (fs9[15]? = some (.long x159)) ∧ (kd2 h0 = 0)) := by
  refine Met.ofW (cc := cX0_init) (maxL := 4) (ret := none) (by decide) rfl ?_
  intro p e s m args below meth c s₁ B hml hv
  obtain ⟨rfl, hsz, hP, hK, hex⟩ := hv
  subst hsz
  have hD : va_D (fun q : Nat => q ∈ L ∨ s.heap.size ≤ q) (va_pl L f) := g_D hLn (fun a h => Or.inl h) f
  generalize hAe : (fun q : Nat => q ∈ L ∨ s.heap.size ≤ q) = A at hD ⊢
  have hA : ∀ q : Nat, s.heap.size ≤ q → A q := fun q h => by rw [← hAe]; exact Or.inr h
  have hLA : ∀ a ∈ L, A a := fun a h => by rw [← hAe]; exact Or.inl h
  have hCE : cE L L kd kd sn sn := cE.rf
  have hx := B.exec
  have hb := B.bytes
  have hr := B.returns
  have hlocks := B.notSynchronized
  have hts0 := atoms_spec (ws := Cond.code yX0_init cX0_init 4 none :: lw_B) B.pre
  have hts : ∀ w ∈ lw_B, w.before _ s = true := fun w h => hts0 w (List.mem_cons_of_mem _ h)
  have hown : s.vm.findClass RX0 = some m.cls := findClass_of_methodNamed B.named
  have hin : meth.name = "<init>" := (name_of_methodNamed B.named B.method).1
  have hS : va_S A s.heap s.heap [] := va_S.rf
  have hl_h0 : ([.int 0, .int 0, .int 0, .int 0, .int 0, .null, .int 0, .int 0, .int 0, .int 0, .int 0, .int 0, .long 0, .int 0, .int 0, .long 0] : List Value).length = 16 := rfl
  have hl := lv_entry ([.ref h0, .int x, .int y, .int z]) (n := 4) (Nat.le_of_ble_eq_true rfl)
  rw [lg_entry_eq]
  generalize (lg_sl ([.ref h0, .int x, .int y, .int z]) ++ List.replicate (4 - (lg_sl ([.ref h0, .int x, .int y, .int z])).length) Slot.unset).toArray = ls at hl ⊢
  have hl : lv_has ls 4 [(0, .ref h0), (1, .int x), (2, .int y), (3, .int z)] := hl
  have hr0_h0 : ([.int 0, .int 0, .int 0, .int 0, .int 0, .null, .int 0, .int 0, .int 0, .int 0, .int 0, .int 0, .long 0, .int 0, .int 0, .long 0] : List Value)[0]? = some (.int 0) := rfl
  have hr1_h0 : ([.int 0, .int 0, .int 0, .int 0, .int 0, .null, .int 0, .int 0, .int 0, .int 0, .int 0, .int 0, .long 0, .int 0, .int 0, .long 0] : List Value)[1]? = some (.int 0) := rfl
  have hr2_h0 : ([.int 0, .int 0, .int 0, .int 0, .int 0, .null, .int 0, .int 0, .int 0, .int 0, .int 0, .int 0, .long 0, .int 0, .int 0, .long 0] : List Value)[2]? = some (.int 0) := rfl
  have hr3_h0 : ([.int 0, .int 0, .int 0, .int 0, .int 0, .null, .int 0, .int 0, .int 0, .int 0, .int 0, .int 0, .long 0, .int 0, .int 0, .long 0] : List Value)[3]? = some (.int 0) := rfl
  have hr4_h0 : ([.int 0, .int 0, .int 0, .int 0, .int 0, .null, .int 0, .int 0, .int 0, .int 0, .int 0, .int 0, .long 0, .int 0, .int 0, .long 0] : List Value)[4]? = some (.int 0) := rfl
  have hr5_h0 : ([.int 0, .int 0, .int 0, .int 0, .int 0, .null, .int 0, .int 0, .int 0, .int 0, .int 0, .int 0, .long 0, .int 0, .int 0, .long 0] : List Value)[5]? = some (.null) := rfl
  have hr6_h0 : ([.int 0, .int 0, .int 0, .int 0, .int 0, .null, .int 0, .int 0, .int 0, .int 0, .int 0, .int 0, .long 0, .int 0, .int 0, .long 0] : List Value)[6]? = some (.int 0) := rfl
  have hr7_h0 : ([.int 0, .int 0, .int 0, .int 0, .int 0, .null, .int 0, .int 0, .int 0, .int 0, .int 0, .int 0, .long 0, .int 0, .int 0, .long 0] : List Value)[7]? = some (.int 0) := rfl
  have hr8_h0 : ([.int 0, .int 0, .int 0, .int 0, .int 0, .null, .int 0, .int 0, .int 0, .int 0, .int 0, .int 0, .long 0, .int 0, .int 0, .long 0] : List Value)[8]? = some (.int 0) := rfl
  have hr9_h0 : ([.int 0, .int 0, .int 0, .int 0, .int 0, .null, .int 0, .int 0, .int 0, .int 0, .int 0, .int 0, .long 0, .int 0, .int 0, .long 0] : List Value)[9]? = some (.int 0) := rfl
  have hr10_h0 : ([.int 0, .int 0, .int 0, .int 0, .int 0, .null, .int 0, .int 0, .int 0, .int 0, .int 0, .int 0, .long 0, .int 0, .int 0, .long 0] : List Value)[10]? = some (.int 0) := rfl
  have hr11_h0 : ([.int 0, .int 0, .int 0, .int 0, .int 0, .null, .int 0, .int 0, .int 0, .int 0, .int 0, .int 0, .long 0, .int 0, .int 0, .long 0] : List Value)[11]? = some (.int 0) := rfl
  have hr12_h0 : ([.int 0, .int 0, .int 0, .int 0, .int 0, .null, .int 0, .int 0, .int 0, .int 0, .int 0, .int 0, .long 0, .int 0, .int 0, .long 0] : List Value)[12]? = some (.long 0) := rfl
  have hr13_h0 : ([.int 0, .int 0, .int 0, .int 0, .int 0, .null, .int 0, .int 0, .int 0, .int 0, .int 0, .int 0, .long 0, .int 0, .int 0, .long 0] : List Value)[13]? = some (.int 0) := rfl
  have hr14_h0 : ([.int 0, .int 0, .int 0, .int 0, .int 0, .null, .int 0, .int 0, .int 0, .int 0, .int 0, .int 0, .long 0, .int 0, .int 0, .long 0] : List Value)[14]? = some (.int 0) := rfl
  have hr15_h0 : ([.int 0, .int 0, .int 0, .int 0, .int 0, .null, .int 0, .int 0, .int 0, .int 0, .int 0, .int 0, .long 0, .int 0, .int 0, .long 0] : List Value)[15]? = some (.long 0) := rfl
  refine lv_aload_n hx hb dX0_init_0 rfl (lv_at hl 0 rfl) ?_
  refine W.objInit hx hb hown (hts _ wm_474) (hts _ wm_461) (hts _ wm_462) rfl (by rw [hml]; exact hl.1) rfl dX0_init_1 (Nat.le_of_ble_eq_true rfl) (Nat.le_of_ble_eq_true rfl) ?_
  refine W.eq (g2 := F0 m 4 ls []) rfl ?_
  refine lv_aload_n hx hb dX0_init_4 rfl (lv_at hl 0 rfl) ?_
  refine g_new (ci := 4) (fs := [.int 0, .int 0, .int 0, .int 0, .int 0, .int 0, .int 0, .null]) (C := RX4) (T := TX4) (N := 8) hx hb hts uB4 tyX4 tyX4_ok hown (hts _ wm_475) (hts _ wm_476) (hts _ wm_215) hK hP hLn hLA hS hA rfl (by decide +kernel) (Nat.le_of_ble_eq_true rfl) (Nat.le_of_ble_eq_true rfl) dX0_init_5 (fun q_1 H hq_q_1 hLn hLA hP hS => ?_)
  obtain ⟨L_2, eL_2⟩ : ∃ z9, z9 = L ++ [q_1] := ⟨_, rfl⟩
  obtain ⟨kd_3, ekd_3⟩ : ∃ z9, z9 = va_up kd q_1 19 := ⟨_, rfl⟩
  obtain ⟨f_4, ef_4⟩ : ∃ z9, z9 = va_up f q_1 (.inr (4, [.int 0, .int 0, .int 0, .int 0, .int 0, .int 0, .int 0, .null])) := ⟨_, rfl⟩
  have hI := hI.nk hq_q_1 19 0 (by decide) (by decide) tally_ok
  obtain ⟨sn_5, esn_5⟩ : ∃ z9, z9 = va_up sn q_1 0 := ⟨_, rfl⟩
  rw [← esn_5, ← ekd_3, ← eL_2, ← ef_4] at hI
  rw [← eL_2, ← ef_4] at hP
  rw [← eL_2] at hLn hLA
  have hCE := hCE.push hq_q_1 19 0
  rw [← ekd_3, ← eL_2, ← esn_5] at hCE
  have hk_h0 : kd_3 h0 = 0 := by rw [ekd_3, va_up_ne _ _ (fun z => hq_q_1 (by rw [← z]; exact hm_h0))]; exact hk_h0
  have hF_h0 : f_4 h0 = .inr (0, ([.int 0, .int 0, .int 0, .int 0, .int 0, .null, .int 0, .int 0, .int 0, .int 0, .int 0, .int 0, .long 0, .int 0, .int 0, .long 0] : List Value)) := by rw [ef_4, va_up_ne _ _ (fun z => hq_q_1 (by rw [← z]; exact hm_h0))]; exact hF_h0
  have hm_h0 : h0 ∈ L_2 := by rw [eL_2]; exact List.mem_append_left _ hm_h0
  have hm_q_1 : q_1 ∈ L_2 := by rw [eL_2]; exact List.mem_append_right _ (List.mem_singleton.mpr rfl)
  have hk_q_1 : kd_3 q_1 = 19 := by rw [ekd_3, va_up_self]
  have hsn_q_1 : sn_5 q_1 = 0 := by rw [esn_5, va_up_self]
  have hD : va_D A (va_pl L_2 f_4) := g_D hLn hLA f_4
  refine lv_dup hx hb dX0_init_8 rfl ?_
  refine k_T0 ⟨hx, hb, hml, hown, hts⟩ (k_X4_init0 l q_1) hex wm_477 wm_215 wm_478 (by decide +kernel) ⟨Nat.le_of_ble_eq_true rfl, Nat.le_of_ble_eq_true rfl⟩ rfl hl.1 rfl (Nat.le_of_ble_eq_true rfl) dX0_init_9 ⟨Nat.le_of_ble_eq_true rfl, Nat.le_of_ble_eq_true rfl⟩ hS hP (fun H locs hP hS => ?_)
  refine g_putF (ci := 0) (v := .ref q_1) (ty := .object "NoticeMarket$Tally") (C := RX0) (T := TX0) (N := 16) hx hb hts uB0 tyX0 tyX0_ok nmX0 hown hK hP hD hS hm_h0 hF_h0 rfl 5 (by decide) wm_196 rfl hin rfl (by decide +kernel) rfl rfl (by rw [hl_h0]; decide) dX0_init_12 (fun H locs hP hD hS => ?_)
  obtain ⟨fs_6, efs_6⟩ : ∃ z9, z9 = List.set ([.int 0, .int 0, .int 0, .int 0, .int 0, .null, .int 0, .int 0, .int 0, .int 0, .int 0, .int 0, .long 0, .int 0, .int 0, .long 0] : List Value) 5 (.ref q_1) := ⟨_, rfl⟩
  rw [← efs_6] at hP hD
  obtain ⟨f_7, ef_7⟩ : ∃ z9, z9 = va_up f_4 h0 (.inr (0, fs_6)) := ⟨_, rfl⟩
  have hI := hI.w0 hm_h0 hk_h0 (.inr (0, fs_6))
  rw [← ef_7] at hP hD hI
  have hF_h0 : f_7 h0 = .inr (0, fs_6) := by rw [ef_7, va_up_self]
  have hr0_h0 : fs_6[0]? = some (.int 0) := by rw [efs_6, List.getElem?_set_ne (by decide)]; exact hr0_h0
  have hr1_h0 : fs_6[1]? = some (.int 0) := by rw [efs_6, List.getElem?_set_ne (by decide)]; exact hr1_h0
  have hr2_h0 : fs_6[2]? = some (.int 0) := by rw [efs_6, List.getElem?_set_ne (by decide)]; exact hr2_h0
  have hr3_h0 : fs_6[3]? = some (.int 0) := by rw [efs_6, List.getElem?_set_ne (by decide)]; exact hr3_h0
  have hr4_h0 : fs_6[4]? = some (.int 0) := by rw [efs_6, List.getElem?_set_ne (by decide)]; exact hr4_h0
  have hr6_h0 : fs_6[6]? = some (.int 0) := by rw [efs_6, List.getElem?_set_ne (by decide)]; exact hr6_h0
  have hr7_h0 : fs_6[7]? = some (.int 0) := by rw [efs_6, List.getElem?_set_ne (by decide)]; exact hr7_h0
  have hr8_h0 : fs_6[8]? = some (.int 0) := by rw [efs_6, List.getElem?_set_ne (by decide)]; exact hr8_h0
  have hr9_h0 : fs_6[9]? = some (.int 0) := by rw [efs_6, List.getElem?_set_ne (by decide)]; exact hr9_h0
  have hr10_h0 : fs_6[10]? = some (.int 0) := by rw [efs_6, List.getElem?_set_ne (by decide)]; exact hr10_h0
  have hr11_h0 : fs_6[11]? = some (.int 0) := by rw [efs_6, List.getElem?_set_ne (by decide)]; exact hr11_h0
  have hr12_h0 : fs_6[12]? = some (.long 0) := by rw [efs_6, List.getElem?_set_ne (by decide)]; exact hr12_h0
  have hr13_h0 : fs_6[13]? = some (.int 0) := by rw [efs_6, List.getElem?_set_ne (by decide)]; exact hr13_h0
  have hr14_h0 : fs_6[14]? = some (.int 0) := by rw [efs_6, List.getElem?_set_ne (by decide)]; exact hr14_h0
  have hr15_h0 : fs_6[15]? = some (.long 0) := by rw [efs_6, List.getElem?_set_ne (by decide)]; exact hr15_h0
  have hr5_h0 : fs_6[5]? = some (.ref q_1) := by rw [efs_6]; exact List.getElem?_set_self (by rw [hl_h0]; decide)
  have hl_h0 : fs_6.length = 16 := by rw [efs_6, List.length_set]; exact hl_h0
  refine lv_aload_n hx hb dX0_init_15 rfl (lv_at hl 0 rfl) ?_
  refine lv_bipush (v := 9) hx hb dX0_init_16 (by decide) ?_
  refine g_put (ci := 0) (v := .int 9) (ty := .int) (C := RX0) (T := TX0) (N := 16) hx hb hts uB0 tyX0 tyX0_ok nmX0 hown hK hP hD hS hm_h0 hF_h0 rfl 8 (by decide) wm_479 rfl (by decide +kernel) rfl rfl (by rw [hl_h0]; decide) dX0_init_18 (fun H locs hP hD hS => ?_)
  obtain ⟨fs_8, efs_8⟩ : ∃ z9, z9 = List.set fs_6 8 (.int 9) := ⟨_, rfl⟩
  rw [← efs_8] at hP hD
  obtain ⟨f_9, ef_9⟩ : ∃ z9, z9 = va_up f_7 h0 (.inr (0, fs_8)) := ⟨_, rfl⟩
  have hI := hI.w0 hm_h0 hk_h0 (.inr (0, fs_8))
  rw [← ef_9] at hP hD hI
  have hF_h0 : f_9 h0 = .inr (0, fs_8) := by rw [ef_9, va_up_self]
  have hr0_h0 : fs_8[0]? = some (.int 0) := by rw [efs_8, List.getElem?_set_ne (by decide)]; exact hr0_h0
  have hr1_h0 : fs_8[1]? = some (.int 0) := by rw [efs_8, List.getElem?_set_ne (by decide)]; exact hr1_h0
  have hr2_h0 : fs_8[2]? = some (.int 0) := by rw [efs_8, List.getElem?_set_ne (by decide)]; exact hr2_h0
  have hr3_h0 : fs_8[3]? = some (.int 0) := by rw [efs_8, List.getElem?_set_ne (by decide)]; exact hr3_h0
  have hr4_h0 : fs_8[4]? = some (.int 0) := by rw [efs_8, List.getElem?_set_ne (by decide)]; exact hr4_h0
  have hr6_h0 : fs_8[6]? = some (.int 0) := by rw [efs_8, List.getElem?_set_ne (by decide)]; exact hr6_h0
  have hr7_h0 : fs_8[7]? = some (.int 0) := by rw [efs_8, List.getElem?_set_ne (by decide)]; exact hr7_h0
  have hr9_h0 : fs_8[9]? = some (.int 0) := by rw [efs_8, List.getElem?_set_ne (by decide)]; exact hr9_h0
  have hr10_h0 : fs_8[10]? = some (.int 0) := by rw [efs_8, List.getElem?_set_ne (by decide)]; exact hr10_h0
  have hr11_h0 : fs_8[11]? = some (.int 0) := by rw [efs_8, List.getElem?_set_ne (by decide)]; exact hr11_h0
  have hr12_h0 : fs_8[12]? = some (.long 0) := by rw [efs_8, List.getElem?_set_ne (by decide)]; exact hr12_h0
  have hr13_h0 : fs_8[13]? = some (.int 0) := by rw [efs_8, List.getElem?_set_ne (by decide)]; exact hr13_h0
  have hr14_h0 : fs_8[14]? = some (.int 0) := by rw [efs_8, List.getElem?_set_ne (by decide)]; exact hr14_h0
  have hr15_h0 : fs_8[15]? = some (.long 0) := by rw [efs_8, List.getElem?_set_ne (by decide)]; exact hr15_h0
  have hr5_h0 : fs_8[5]? = some (.ref q_1) := by rw [efs_8, List.getElem?_set_ne (by decide)]; exact hr5_h0
  have hr8_h0 : fs_8[8]? = some (.int 9) := by rw [efs_8]; exact List.getElem?_set_self (by rw [hl_h0]; decide)
  have hl_h0 : fs_8.length = 16 := by rw [efs_8, List.length_set]; exact hl_h0
  refine lv_aload_n hx hb dX0_init_21 rfl (lv_at hl 0 rfl) ?_
  refine lv_iconst (v := 1) hx hb dX0_init_22 (by decide) ?_
  refine g_put (ci := 0) (v := .int 1) (ty := .int) (C := RX0) (T := TX0) (N := 16) hx hb hts uB0 tyX0 tyX0_ok nmX0 hown hK hP hD hS hm_h0 hF_h0 rfl 9 (by decide) wm_480 rfl (by decide +kernel) rfl rfl (by rw [hl_h0]; decide) dX0_init_23 (fun H locs hP hD hS => ?_)
  obtain ⟨fs_10, efs_10⟩ : ∃ z9, z9 = List.set fs_8 9 (.int 1) := ⟨_, rfl⟩
  rw [← efs_10] at hP hD
  obtain ⟨f_11, ef_11⟩ : ∃ z9, z9 = va_up f_9 h0 (.inr (0, fs_10)) := ⟨_, rfl⟩
  have hI := hI.w0 hm_h0 hk_h0 (.inr (0, fs_10))
  rw [← ef_11] at hP hD hI
  have hF_h0 : f_11 h0 = .inr (0, fs_10) := by rw [ef_11, va_up_self]
  have hr0_h0 : fs_10[0]? = some (.int 0) := by rw [efs_10, List.getElem?_set_ne (by decide)]; exact hr0_h0
  have hr1_h0 : fs_10[1]? = some (.int 0) := by rw [efs_10, List.getElem?_set_ne (by decide)]; exact hr1_h0
  have hr2_h0 : fs_10[2]? = some (.int 0) := by rw [efs_10, List.getElem?_set_ne (by decide)]; exact hr2_h0
  have hr3_h0 : fs_10[3]? = some (.int 0) := by rw [efs_10, List.getElem?_set_ne (by decide)]; exact hr3_h0
  have hr4_h0 : fs_10[4]? = some (.int 0) := by rw [efs_10, List.getElem?_set_ne (by decide)]; exact hr4_h0
  have hr6_h0 : fs_10[6]? = some (.int 0) := by rw [efs_10, List.getElem?_set_ne (by decide)]; exact hr6_h0
  have hr7_h0 : fs_10[7]? = some (.int 0) := by rw [efs_10, List.getElem?_set_ne (by decide)]; exact hr7_h0
  have hr10_h0 : fs_10[10]? = some (.int 0) := by rw [efs_10, List.getElem?_set_ne (by decide)]; exact hr10_h0
  have hr11_h0 : fs_10[11]? = some (.int 0) := by rw [efs_10, List.getElem?_set_ne (by decide)]; exact hr11_h0
  have hr12_h0 : fs_10[12]? = some (.long 0) := by rw [efs_10, List.getElem?_set_ne (by decide)]; exact hr12_h0
  have hr13_h0 : fs_10[13]? = some (.int 0) := by rw [efs_10, List.getElem?_set_ne (by decide)]; exact hr13_h0
  have hr14_h0 : fs_10[14]? = some (.int 0) := by rw [efs_10, List.getElem?_set_ne (by decide)]; exact hr14_h0
  have hr15_h0 : fs_10[15]? = some (.long 0) := by rw [efs_10, List.getElem?_set_ne (by decide)]; exact hr15_h0
  have hr5_h0 : fs_10[5]? = some (.ref q_1) := by rw [efs_10, List.getElem?_set_ne (by decide)]; exact hr5_h0
  have hr8_h0 : fs_10[8]? = some (.int 9) := by rw [efs_10, List.getElem?_set_ne (by decide)]; exact hr8_h0
  have hr9_h0 : fs_10[9]? = some (.int 1) := by rw [efs_10]; exact List.getElem?_set_self (by rw [hl_h0]; decide)
  have hl_h0 : fs_10.length = 16 := by rw [efs_10, List.length_set]; exact hl_h0
  refine lv_aload_n hx hb dX0_init_26 rfl (lv_at hl 0 rfl) ?_
  refine lv_sipush (v := 1000) hx hb dX0_init_27 (by decide) ?_
  refine g_put (ci := 0) (v := .int 1000) (ty := .int) (C := RX0) (T := TX0) (N := 16) hx hb hts uB0 tyX0 tyX0_ok nmX0 hown hK hP hD hS hm_h0 hF_h0 rfl 10 (by decide) wm_218 rfl (by decide +kernel) rfl rfl (by rw [hl_h0]; decide) dX0_init_30 (fun H locs hP hD hS => ?_)
  obtain ⟨fs_12, efs_12⟩ : ∃ z9, z9 = List.set fs_10 10 (.int 1000) := ⟨_, rfl⟩
  rw [← efs_12] at hP hD
  obtain ⟨f_13, ef_13⟩ : ∃ z9, z9 = va_up f_11 h0 (.inr (0, fs_12)) := ⟨_, rfl⟩
  have hI := hI.w0 hm_h0 hk_h0 (.inr (0, fs_12))
  rw [← ef_13] at hP hD hI
  have hF_h0 : f_13 h0 = .inr (0, fs_12) := by rw [ef_13, va_up_self]
  have hr0_h0 : fs_12[0]? = some (.int 0) := by rw [efs_12, List.getElem?_set_ne (by decide)]; exact hr0_h0
  have hr1_h0 : fs_12[1]? = some (.int 0) := by rw [efs_12, List.getElem?_set_ne (by decide)]; exact hr1_h0
  have hr2_h0 : fs_12[2]? = some (.int 0) := by rw [efs_12, List.getElem?_set_ne (by decide)]; exact hr2_h0
  have hr3_h0 : fs_12[3]? = some (.int 0) := by rw [efs_12, List.getElem?_set_ne (by decide)]; exact hr3_h0
  have hr4_h0 : fs_12[4]? = some (.int 0) := by rw [efs_12, List.getElem?_set_ne (by decide)]; exact hr4_h0
  have hr6_h0 : fs_12[6]? = some (.int 0) := by rw [efs_12, List.getElem?_set_ne (by decide)]; exact hr6_h0
  have hr7_h0 : fs_12[7]? = some (.int 0) := by rw [efs_12, List.getElem?_set_ne (by decide)]; exact hr7_h0
  have hr11_h0 : fs_12[11]? = some (.int 0) := by rw [efs_12, List.getElem?_set_ne (by decide)]; exact hr11_h0
  have hr12_h0 : fs_12[12]? = some (.long 0) := by rw [efs_12, List.getElem?_set_ne (by decide)]; exact hr12_h0
  have hr13_h0 : fs_12[13]? = some (.int 0) := by rw [efs_12, List.getElem?_set_ne (by decide)]; exact hr13_h0
  have hr14_h0 : fs_12[14]? = some (.int 0) := by rw [efs_12, List.getElem?_set_ne (by decide)]; exact hr14_h0
  have hr15_h0 : fs_12[15]? = some (.long 0) := by rw [efs_12, List.getElem?_set_ne (by decide)]; exact hr15_h0
  have hr5_h0 : fs_12[5]? = some (.ref q_1) := by rw [efs_12, List.getElem?_set_ne (by decide)]; exact hr5_h0
  have hr8_h0 : fs_12[8]? = some (.int 9) := by rw [efs_12, List.getElem?_set_ne (by decide)]; exact hr8_h0
  have hr9_h0 : fs_12[9]? = some (.int 1) := by rw [efs_12, List.getElem?_set_ne (by decide)]; exact hr9_h0
  have hr10_h0 : fs_12[10]? = some (.int 1000) := by rw [efs_12]; exact List.getElem?_set_self (by rw [hl_h0]; decide)
  have hl_h0 : fs_12.length = 16 := by rw [efs_12, List.length_set]; exact hl_h0
  refine lv_aload_n hx hb dX0_init_33 rfl (lv_at hl 0 rfl) ?_
  refine lv_iload_n hx hb dX0_init_34 rfl (lv_at hl 1 rfl) ?_
  refine lv_bipush (v := 10) hx hb dX0_init_35 (by decide) ?_
  refine lv_idiv hx hb dX0_init_37 (by decide) ?_
  refine lv_topi (fun x_14 ex_14 => ?_)
  refine g_putF (ci := 0) (v := .int x_14) (ty := .int) (C := RX0) (T := TX0) (N := 16) hx hb hts uB0 tyX0 tyX0_ok nmX0 hown hK hP hD hS hm_h0 hF_h0 rfl 0 (by decide) wm_207 rfl hin rfl (by decide +kernel) rfl rfl (by rw [hl_h0]; decide) dX0_init_38 (fun H locs hP hD hS => ?_)
  obtain ⟨fs_15, efs_15⟩ : ∃ z9, z9 = List.set fs_12 0 (.int x_14) := ⟨_, rfl⟩
  rw [← efs_15] at hP hD
  obtain ⟨f_16, ef_16⟩ : ∃ z9, z9 = va_up f_13 h0 (.inr (0, fs_15)) := ⟨_, rfl⟩
  have hI := hI.w0 hm_h0 hk_h0 (.inr (0, fs_15))
  rw [← ef_16] at hP hD hI
  have hF_h0 : f_16 h0 = .inr (0, fs_15) := by rw [ef_16, va_up_self]
  have hr1_h0 : fs_15[1]? = some (.int 0) := by rw [efs_15, List.getElem?_set_ne (by decide)]; exact hr1_h0
  have hr2_h0 : fs_15[2]? = some (.int 0) := by rw [efs_15, List.getElem?_set_ne (by decide)]; exact hr2_h0
  have hr3_h0 : fs_15[3]? = some (.int 0) := by rw [efs_15, List.getElem?_set_ne (by decide)]; exact hr3_h0
  have hr4_h0 : fs_15[4]? = some (.int 0) := by rw [efs_15, List.getElem?_set_ne (by decide)]; exact hr4_h0
  have hr6_h0 : fs_15[6]? = some (.int 0) := by rw [efs_15, List.getElem?_set_ne (by decide)]; exact hr6_h0
  have hr7_h0 : fs_15[7]? = some (.int 0) := by rw [efs_15, List.getElem?_set_ne (by decide)]; exact hr7_h0
  have hr11_h0 : fs_15[11]? = some (.int 0) := by rw [efs_15, List.getElem?_set_ne (by decide)]; exact hr11_h0
  have hr12_h0 : fs_15[12]? = some (.long 0) := by rw [efs_15, List.getElem?_set_ne (by decide)]; exact hr12_h0
  have hr13_h0 : fs_15[13]? = some (.int 0) := by rw [efs_15, List.getElem?_set_ne (by decide)]; exact hr13_h0
  have hr14_h0 : fs_15[14]? = some (.int 0) := by rw [efs_15, List.getElem?_set_ne (by decide)]; exact hr14_h0
  have hr15_h0 : fs_15[15]? = some (.long 0) := by rw [efs_15, List.getElem?_set_ne (by decide)]; exact hr15_h0
  have hr5_h0 : fs_15[5]? = some (.ref q_1) := by rw [efs_15, List.getElem?_set_ne (by decide)]; exact hr5_h0
  have hr8_h0 : fs_15[8]? = some (.int 9) := by rw [efs_15, List.getElem?_set_ne (by decide)]; exact hr8_h0
  have hr9_h0 : fs_15[9]? = some (.int 1) := by rw [efs_15, List.getElem?_set_ne (by decide)]; exact hr9_h0
  have hr10_h0 : fs_15[10]? = some (.int 1000) := by rw [efs_15, List.getElem?_set_ne (by decide)]; exact hr10_h0
  have hr0_h0 : fs_15[0]? = some (.int x_14) := by rw [efs_15]; exact List.getElem?_set_self (by rw [hl_h0]; decide)
  have hl_h0 : fs_15.length = 16 := by rw [efs_15, List.length_set]; exact hl_h0
  refine lv_aload_n hx hb dX0_init_41 rfl (lv_at hl 0 rfl) ?_
  refine lv_iload_n hx hb dX0_init_42 rfl (lv_at hl 1 rfl) ?_
  refine lv_bipush (v := 10) hx hb dX0_init_43 (by decide) ?_
  refine lv_irem hx hb dX0_init_45 (by decide) ?_
  refine lv_topi (fun x_17 ex_17 => ?_)
  refine lv_iconst (v := 1) hx hb dX0_init_46 (by decide) ?_
  refine lv_icmp_ne (tgt := 54) hx hb dX0_init_47 (by decide) (fun c_18 => ?_) (fun c_18 => ?_)
  · skip
    refine lv_iconst (v := 0) hx hb dX0_init_54 (by decide) ?_
    refine g_putF (ci := 0) (v := .int 0) (ty := .boolean) (C := RX0) (T := TX0) (N := 16) hx hb hts uB0 tyX0 tyX0_ok nmX0 hown hK hP hD hS hm_h0 hF_h0 rfl 1 (by decide) wm_210 rfl hin rfl (by decide +kernel) rfl rfl (by rw [hl_h0]; decide) dX0_init_55 (fun H locs hP hD hS => ?_)
    obtain ⟨fs_19, efs_19⟩ : ∃ z9, z9 = List.set fs_15 1 (.int 0) := ⟨_, rfl⟩
    rw [← efs_19] at hP hD
    obtain ⟨f_20, ef_20⟩ : ∃ z9, z9 = va_up f_16 h0 (.inr (0, fs_19)) := ⟨_, rfl⟩
    have hI := hI.w0 hm_h0 hk_h0 (.inr (0, fs_19))
    rw [← ef_20] at hP hD hI
    have hF_h0 : f_20 h0 = .inr (0, fs_19) := by rw [ef_20, va_up_self]
    have hr2_h0 : fs_19[2]? = some (.int 0) := by rw [efs_19, List.getElem?_set_ne (by decide)]; exact hr2_h0
    have hr3_h0 : fs_19[3]? = some (.int 0) := by rw [efs_19, List.getElem?_set_ne (by decide)]; exact hr3_h0
    have hr4_h0 : fs_19[4]? = some (.int 0) := by rw [efs_19, List.getElem?_set_ne (by decide)]; exact hr4_h0
    have hr6_h0 : fs_19[6]? = some (.int 0) := by rw [efs_19, List.getElem?_set_ne (by decide)]; exact hr6_h0
    have hr7_h0 : fs_19[7]? = some (.int 0) := by rw [efs_19, List.getElem?_set_ne (by decide)]; exact hr7_h0
    have hr11_h0 : fs_19[11]? = some (.int 0) := by rw [efs_19, List.getElem?_set_ne (by decide)]; exact hr11_h0
    have hr12_h0 : fs_19[12]? = some (.long 0) := by rw [efs_19, List.getElem?_set_ne (by decide)]; exact hr12_h0
    have hr13_h0 : fs_19[13]? = some (.int 0) := by rw [efs_19, List.getElem?_set_ne (by decide)]; exact hr13_h0
    have hr14_h0 : fs_19[14]? = some (.int 0) := by rw [efs_19, List.getElem?_set_ne (by decide)]; exact hr14_h0
    have hr15_h0 : fs_19[15]? = some (.long 0) := by rw [efs_19, List.getElem?_set_ne (by decide)]; exact hr15_h0
    have hr5_h0 : fs_19[5]? = some (.ref q_1) := by rw [efs_19, List.getElem?_set_ne (by decide)]; exact hr5_h0
    have hr8_h0 : fs_19[8]? = some (.int 9) := by rw [efs_19, List.getElem?_set_ne (by decide)]; exact hr8_h0
    have hr9_h0 : fs_19[9]? = some (.int 1) := by rw [efs_19, List.getElem?_set_ne (by decide)]; exact hr9_h0
    have hr10_h0 : fs_19[10]? = some (.int 1000) := by rw [efs_19, List.getElem?_set_ne (by decide)]; exact hr10_h0
    have hr0_h0 : fs_19[0]? = some (.int x_14) := by rw [efs_19, List.getElem?_set_ne (by decide)]; exact hr0_h0
    have hr1_h0 : fs_19[1]? = some (.int 0) := by rw [efs_19]; exact List.getElem?_set_self (by rw [hl_h0]; decide)
    have hl_h0 : fs_19.length = 16 := by rw [efs_19, List.length_set]; exact hl_h0
    refine lv_aload_n hx hb dX0_init_58 rfl (lv_at hl 0 rfl) ?_
    refine lv_iload_n hx hb dX0_init_59 rfl (lv_at hl 2 rfl) ?_
    refine lv_sipush (v := 4096) hx hb dX0_init_60 (by decide) ?_
    refine lv_idiv hx hb dX0_init_63 (by decide) ?_
    refine lv_topi (fun x_21 ex_21 => ?_)
    refine g_putF (ci := 0) (v := .int x_21) (ty := .int) (C := RX0) (T := TX0) (N := 16) hx hb hts uB0 tyX0 tyX0_ok nmX0 hown hK hP hD hS hm_h0 hF_h0 rfl 2 (by decide) wm_193 rfl hin rfl (by decide +kernel) rfl rfl (by rw [hl_h0]; decide) dX0_init_64 (fun H locs hP hD hS => ?_)
    obtain ⟨fs_22, efs_22⟩ : ∃ z9, z9 = List.set fs_19 2 (.int x_21) := ⟨_, rfl⟩
    rw [← efs_22] at hP hD
    obtain ⟨f_23, ef_23⟩ : ∃ z9, z9 = va_up f_20 h0 (.inr (0, fs_22)) := ⟨_, rfl⟩
    have hI := hI.w0 hm_h0 hk_h0 (.inr (0, fs_22))
    rw [← ef_23] at hP hD hI
    have hF_h0 : f_23 h0 = .inr (0, fs_22) := by rw [ef_23, va_up_self]
    have hr3_h0 : fs_22[3]? = some (.int 0) := by rw [efs_22, List.getElem?_set_ne (by decide)]; exact hr3_h0
    have hr4_h0 : fs_22[4]? = some (.int 0) := by rw [efs_22, List.getElem?_set_ne (by decide)]; exact hr4_h0
    have hr6_h0 : fs_22[6]? = some (.int 0) := by rw [efs_22, List.getElem?_set_ne (by decide)]; exact hr6_h0
    have hr7_h0 : fs_22[7]? = some (.int 0) := by rw [efs_22, List.getElem?_set_ne (by decide)]; exact hr7_h0
    have hr11_h0 : fs_22[11]? = some (.int 0) := by rw [efs_22, List.getElem?_set_ne (by decide)]; exact hr11_h0
    have hr12_h0 : fs_22[12]? = some (.long 0) := by rw [efs_22, List.getElem?_set_ne (by decide)]; exact hr12_h0
    have hr13_h0 : fs_22[13]? = some (.int 0) := by rw [efs_22, List.getElem?_set_ne (by decide)]; exact hr13_h0
    have hr14_h0 : fs_22[14]? = some (.int 0) := by rw [efs_22, List.getElem?_set_ne (by decide)]; exact hr14_h0
    have hr15_h0 : fs_22[15]? = some (.long 0) := by rw [efs_22, List.getElem?_set_ne (by decide)]; exact hr15_h0
    have hr5_h0 : fs_22[5]? = some (.ref q_1) := by rw [efs_22, List.getElem?_set_ne (by decide)]; exact hr5_h0
    have hr8_h0 : fs_22[8]? = some (.int 9) := by rw [efs_22, List.getElem?_set_ne (by decide)]; exact hr8_h0
    have hr9_h0 : fs_22[9]? = some (.int 1) := by rw [efs_22, List.getElem?_set_ne (by decide)]; exact hr9_h0
    have hr10_h0 : fs_22[10]? = some (.int 1000) := by rw [efs_22, List.getElem?_set_ne (by decide)]; exact hr10_h0
    have hr0_h0 : fs_22[0]? = some (.int x_14) := by rw [efs_22, List.getElem?_set_ne (by decide)]; exact hr0_h0
    have hr1_h0 : fs_22[1]? = some (.int 0) := by rw [efs_22, List.getElem?_set_ne (by decide)]; exact hr1_h0
    have hr2_h0 : fs_22[2]? = some (.int x_21) := by rw [efs_22]; exact List.getElem?_set_self (by rw [hl_h0]; decide)
    have hl_h0 : fs_22.length = 16 := by rw [efs_22, List.length_set]; exact hl_h0
    refine lv_aload_n hx hb dX0_init_67 rfl (lv_at hl 0 rfl) ?_
    refine lv_iload_n hx hb dX0_init_68 rfl (lv_at hl 2 rfl) ?_
    refine lv_sipush (v := 4096) hx hb dX0_init_69 (by decide) ?_
    refine lv_irem hx hb dX0_init_72 (by decide) ?_
    refine lv_topi (fun x_24 ex_24 => ?_)
    refine g_putF (ci := 0) (v := .int x_24) (ty := .int) (C := RX0) (T := TX0) (N := 16) hx hb hts uB0 tyX0 tyX0_ok nmX0 hown hK hP hD hS hm_h0 hF_h0 rfl 3 (by decide) wm_194 rfl hin rfl (by decide +kernel) rfl rfl (by rw [hl_h0]; decide) dX0_init_73 (fun H locs hP hD hS => ?_)
    obtain ⟨fs_25, efs_25⟩ : ∃ z9, z9 = List.set fs_22 3 (.int x_24) := ⟨_, rfl⟩
    rw [← efs_25] at hP hD
    obtain ⟨f_26, ef_26⟩ : ∃ z9, z9 = va_up f_23 h0 (.inr (0, fs_25)) := ⟨_, rfl⟩
    have hI := hI.w0 hm_h0 hk_h0 (.inr (0, fs_25))
    rw [← ef_26] at hP hD hI
    have hF_h0 : f_26 h0 = .inr (0, fs_25) := by rw [ef_26, va_up_self]
    have hr4_h0 : fs_25[4]? = some (.int 0) := by rw [efs_25, List.getElem?_set_ne (by decide)]; exact hr4_h0
    have hr6_h0 : fs_25[6]? = some (.int 0) := by rw [efs_25, List.getElem?_set_ne (by decide)]; exact hr6_h0
    have hr7_h0 : fs_25[7]? = some (.int 0) := by rw [efs_25, List.getElem?_set_ne (by decide)]; exact hr7_h0
    have hr11_h0 : fs_25[11]? = some (.int 0) := by rw [efs_25, List.getElem?_set_ne (by decide)]; exact hr11_h0
    have hr12_h0 : fs_25[12]? = some (.long 0) := by rw [efs_25, List.getElem?_set_ne (by decide)]; exact hr12_h0
    have hr13_h0 : fs_25[13]? = some (.int 0) := by rw [efs_25, List.getElem?_set_ne (by decide)]; exact hr13_h0
    have hr14_h0 : fs_25[14]? = some (.int 0) := by rw [efs_25, List.getElem?_set_ne (by decide)]; exact hr14_h0
    have hr15_h0 : fs_25[15]? = some (.long 0) := by rw [efs_25, List.getElem?_set_ne (by decide)]; exact hr15_h0
    have hr5_h0 : fs_25[5]? = some (.ref q_1) := by rw [efs_25, List.getElem?_set_ne (by decide)]; exact hr5_h0
    have hr8_h0 : fs_25[8]? = some (.int 9) := by rw [efs_25, List.getElem?_set_ne (by decide)]; exact hr8_h0
    have hr9_h0 : fs_25[9]? = some (.int 1) := by rw [efs_25, List.getElem?_set_ne (by decide)]; exact hr9_h0
    have hr10_h0 : fs_25[10]? = some (.int 1000) := by rw [efs_25, List.getElem?_set_ne (by decide)]; exact hr10_h0
    have hr0_h0 : fs_25[0]? = some (.int x_14) := by rw [efs_25, List.getElem?_set_ne (by decide)]; exact hr0_h0
    have hr1_h0 : fs_25[1]? = some (.int 0) := by rw [efs_25, List.getElem?_set_ne (by decide)]; exact hr1_h0
    have hr2_h0 : fs_25[2]? = some (.int x_21) := by rw [efs_25, List.getElem?_set_ne (by decide)]; exact hr2_h0
    have hr3_h0 : fs_25[3]? = some (.int x_24) := by rw [efs_25]; exact List.getElem?_set_self (by rw [hl_h0]; decide)
    have hl_h0 : fs_25.length = 16 := by rw [efs_25, List.length_set]; exact hl_h0
    refine lv_aload_n hx hb dX0_init_76 rfl (lv_at hl 0 rfl) ?_
    refine lv_iload_n hx hb dX0_init_77 rfl (lv_at hl 3 rfl) ?_
    refine g_putF (ci := 0) (v := .int z) (ty := .int) (C := RX0) (T := TX0) (N := 16) hx hb hts uB0 tyX0 tyX0_ok nmX0 hown hK hP hD hS hm_h0 hF_h0 rfl 4 (by decide) wm_209 rfl hin rfl (by decide +kernel) rfl rfl (by rw [hl_h0]; decide) dX0_init_78 (fun H locs hP hD hS => ?_)
    obtain ⟨fs_27, efs_27⟩ : ∃ z9, z9 = List.set fs_25 4 (.int z) := ⟨_, rfl⟩
    rw [← efs_27] at hP hD
    obtain ⟨f_28, ef_28⟩ : ∃ z9, z9 = va_up f_26 h0 (.inr (0, fs_27)) := ⟨_, rfl⟩
    have hI := hI.w0 hm_h0 hk_h0 (.inr (0, fs_27))
    rw [← ef_28] at hP hD hI
    have hF_h0 : f_28 h0 = .inr (0, fs_27) := by rw [ef_28, va_up_self]
    have hr6_h0 : fs_27[6]? = some (.int 0) := by rw [efs_27, List.getElem?_set_ne (by decide)]; exact hr6_h0
    have hr7_h0 : fs_27[7]? = some (.int 0) := by rw [efs_27, List.getElem?_set_ne (by decide)]; exact hr7_h0
    have hr11_h0 : fs_27[11]? = some (.int 0) := by rw [efs_27, List.getElem?_set_ne (by decide)]; exact hr11_h0
    have hr12_h0 : fs_27[12]? = some (.long 0) := by rw [efs_27, List.getElem?_set_ne (by decide)]; exact hr12_h0
    have hr13_h0 : fs_27[13]? = some (.int 0) := by rw [efs_27, List.getElem?_set_ne (by decide)]; exact hr13_h0
    have hr14_h0 : fs_27[14]? = some (.int 0) := by rw [efs_27, List.getElem?_set_ne (by decide)]; exact hr14_h0
    have hr15_h0 : fs_27[15]? = some (.long 0) := by rw [efs_27, List.getElem?_set_ne (by decide)]; exact hr15_h0
    have hr5_h0 : fs_27[5]? = some (.ref q_1) := by rw [efs_27, List.getElem?_set_ne (by decide)]; exact hr5_h0
    have hr8_h0 : fs_27[8]? = some (.int 9) := by rw [efs_27, List.getElem?_set_ne (by decide)]; exact hr8_h0
    have hr9_h0 : fs_27[9]? = some (.int 1) := by rw [efs_27, List.getElem?_set_ne (by decide)]; exact hr9_h0
    have hr10_h0 : fs_27[10]? = some (.int 1000) := by rw [efs_27, List.getElem?_set_ne (by decide)]; exact hr10_h0
    have hr0_h0 : fs_27[0]? = some (.int x_14) := by rw [efs_27, List.getElem?_set_ne (by decide)]; exact hr0_h0
    have hr1_h0 : fs_27[1]? = some (.int 0) := by rw [efs_27, List.getElem?_set_ne (by decide)]; exact hr1_h0
    have hr2_h0 : fs_27[2]? = some (.int x_21) := by rw [efs_27, List.getElem?_set_ne (by decide)]; exact hr2_h0
    have hr3_h0 : fs_27[3]? = some (.int x_24) := by rw [efs_27, List.getElem?_set_ne (by decide)]; exact hr3_h0
    have hr4_h0 : fs_27[4]? = some (.int z) := by rw [efs_27]; exact List.getElem?_set_self (by rw [hl_h0]; decide)
    have hl_h0 : fs_27.length = 16 := by rw [efs_27, List.length_set]; exact hl_h0
    refine W.widen (k := 1) (n := 8) (Nat.le_of_ble_eq_true rfl) (Nat.le_of_ble_eq_true rfl) ?_
    exact W.vret hx hb hr (fun t ht hW => ⟨⟨(L_2, f_28), rfl, ⟨kd_3, sn_5, fs_27, q_1, x_14, 0, x_21, x_24, z, 0, 0, 9, 1, 1000, 0, 0, 0, hI, hCE, hLn, (fun a h => by have h9 := hLA a h; rw [← hAe] at h9; exact h9), hF_h0, hl_h0, hr0_h0, hr1_h0, hr2_h0, hr3_h0, hr4_h0, hr6_h0, hr7_h0, hr8_h0, hr9_h0, hr10_h0, hr13_h0, hr14_h0, hr5_h0, hm_q_1, hk_q_1, hr11_h0, hr12_h0, hr15_h0, hk_h0⟩, by show va_P (dC, dI) vwCl (va_pl L_2 f_28) t.heap; rw [ht]; exact hP⟩, hS.F ht⟩) hS.2.2 dX0_init_81
  · skip
    refine lv_iconst (v := 1) hx hb dX0_init_50 (by decide) ?_
    refine lv_goto (tgt := 55) hx hb dX0_init_51 (by decide) ?_
    refine g_putF (ci := 0) (v := .int 1) (ty := .boolean) (C := RX0) (T := TX0) (N := 16) hx hb hts uB0 tyX0 tyX0_ok nmX0 hown hK hP hD hS hm_h0 hF_h0 rfl 1 (by decide) wm_210 rfl hin rfl (by decide +kernel) rfl rfl (by rw [hl_h0]; decide) dX0_init_55 (fun H locs hP hD hS => ?_)
    obtain ⟨fs_29, efs_29⟩ : ∃ z9, z9 = List.set fs_15 1 (.int 1) := ⟨_, rfl⟩
    rw [← efs_29] at hP hD
    obtain ⟨f_30, ef_30⟩ : ∃ z9, z9 = va_up f_16 h0 (.inr (0, fs_29)) := ⟨_, rfl⟩
    have hI := hI.w0 hm_h0 hk_h0 (.inr (0, fs_29))
    rw [← ef_30] at hP hD hI
    have hF_h0 : f_30 h0 = .inr (0, fs_29) := by rw [ef_30, va_up_self]
    have hr2_h0 : fs_29[2]? = some (.int 0) := by rw [efs_29, List.getElem?_set_ne (by decide)]; exact hr2_h0
    have hr3_h0 : fs_29[3]? = some (.int 0) := by rw [efs_29, List.getElem?_set_ne (by decide)]; exact hr3_h0
    have hr4_h0 : fs_29[4]? = some (.int 0) := by rw [efs_29, List.getElem?_set_ne (by decide)]; exact hr4_h0
    have hr6_h0 : fs_29[6]? = some (.int 0) := by rw [efs_29, List.getElem?_set_ne (by decide)]; exact hr6_h0
    have hr7_h0 : fs_29[7]? = some (.int 0) := by rw [efs_29, List.getElem?_set_ne (by decide)]; exact hr7_h0
    have hr11_h0 : fs_29[11]? = some (.int 0) := by rw [efs_29, List.getElem?_set_ne (by decide)]; exact hr11_h0
    have hr12_h0 : fs_29[12]? = some (.long 0) := by rw [efs_29, List.getElem?_set_ne (by decide)]; exact hr12_h0
    have hr13_h0 : fs_29[13]? = some (.int 0) := by rw [efs_29, List.getElem?_set_ne (by decide)]; exact hr13_h0
    have hr14_h0 : fs_29[14]? = some (.int 0) := by rw [efs_29, List.getElem?_set_ne (by decide)]; exact hr14_h0
    have hr15_h0 : fs_29[15]? = some (.long 0) := by rw [efs_29, List.getElem?_set_ne (by decide)]; exact hr15_h0
    have hr5_h0 : fs_29[5]? = some (.ref q_1) := by rw [efs_29, List.getElem?_set_ne (by decide)]; exact hr5_h0
    have hr8_h0 : fs_29[8]? = some (.int 9) := by rw [efs_29, List.getElem?_set_ne (by decide)]; exact hr8_h0
    have hr9_h0 : fs_29[9]? = some (.int 1) := by rw [efs_29, List.getElem?_set_ne (by decide)]; exact hr9_h0
    have hr10_h0 : fs_29[10]? = some (.int 1000) := by rw [efs_29, List.getElem?_set_ne (by decide)]; exact hr10_h0
    have hr0_h0 : fs_29[0]? = some (.int x_14) := by rw [efs_29, List.getElem?_set_ne (by decide)]; exact hr0_h0
    have hr1_h0 : fs_29[1]? = some (.int 1) := by rw [efs_29]; exact List.getElem?_set_self (by rw [hl_h0]; decide)
    have hl_h0 : fs_29.length = 16 := by rw [efs_29, List.length_set]; exact hl_h0
    refine lv_aload_n hx hb dX0_init_58 rfl (lv_at hl 0 rfl) ?_
    refine lv_iload_n hx hb dX0_init_59 rfl (lv_at hl 2 rfl) ?_
    refine lv_sipush (v := 4096) hx hb dX0_init_60 (by decide) ?_
    refine lv_idiv hx hb dX0_init_63 (by decide) ?_
    refine lv_topi (fun x_31 ex_31 => ?_)
    refine g_putF (ci := 0) (v := .int x_31) (ty := .int) (C := RX0) (T := TX0) (N := 16) hx hb hts uB0 tyX0 tyX0_ok nmX0 hown hK hP hD hS hm_h0 hF_h0 rfl 2 (by decide) wm_193 rfl hin rfl (by decide +kernel) rfl rfl (by rw [hl_h0]; decide) dX0_init_64 (fun H locs hP hD hS => ?_)
    obtain ⟨fs_32, efs_32⟩ : ∃ z9, z9 = List.set fs_29 2 (.int x_31) := ⟨_, rfl⟩
    rw [← efs_32] at hP hD
    obtain ⟨f_33, ef_33⟩ : ∃ z9, z9 = va_up f_30 h0 (.inr (0, fs_32)) := ⟨_, rfl⟩
    have hI := hI.w0 hm_h0 hk_h0 (.inr (0, fs_32))
    rw [← ef_33] at hP hD hI
    have hF_h0 : f_33 h0 = .inr (0, fs_32) := by rw [ef_33, va_up_self]
    have hr3_h0 : fs_32[3]? = some (.int 0) := by rw [efs_32, List.getElem?_set_ne (by decide)]; exact hr3_h0
    have hr4_h0 : fs_32[4]? = some (.int 0) := by rw [efs_32, List.getElem?_set_ne (by decide)]; exact hr4_h0
    have hr6_h0 : fs_32[6]? = some (.int 0) := by rw [efs_32, List.getElem?_set_ne (by decide)]; exact hr6_h0
    have hr7_h0 : fs_32[7]? = some (.int 0) := by rw [efs_32, List.getElem?_set_ne (by decide)]; exact hr7_h0
    have hr11_h0 : fs_32[11]? = some (.int 0) := by rw [efs_32, List.getElem?_set_ne (by decide)]; exact hr11_h0
    have hr12_h0 : fs_32[12]? = some (.long 0) := by rw [efs_32, List.getElem?_set_ne (by decide)]; exact hr12_h0
    have hr13_h0 : fs_32[13]? = some (.int 0) := by rw [efs_32, List.getElem?_set_ne (by decide)]; exact hr13_h0
    have hr14_h0 : fs_32[14]? = some (.int 0) := by rw [efs_32, List.getElem?_set_ne (by decide)]; exact hr14_h0
    have hr15_h0 : fs_32[15]? = some (.long 0) := by rw [efs_32, List.getElem?_set_ne (by decide)]; exact hr15_h0
    have hr5_h0 : fs_32[5]? = some (.ref q_1) := by rw [efs_32, List.getElem?_set_ne (by decide)]; exact hr5_h0
    have hr8_h0 : fs_32[8]? = some (.int 9) := by rw [efs_32, List.getElem?_set_ne (by decide)]; exact hr8_h0
    have hr9_h0 : fs_32[9]? = some (.int 1) := by rw [efs_32, List.getElem?_set_ne (by decide)]; exact hr9_h0
    have hr10_h0 : fs_32[10]? = some (.int 1000) := by rw [efs_32, List.getElem?_set_ne (by decide)]; exact hr10_h0
    have hr0_h0 : fs_32[0]? = some (.int x_14) := by rw [efs_32, List.getElem?_set_ne (by decide)]; exact hr0_h0
    have hr1_h0 : fs_32[1]? = some (.int 1) := by rw [efs_32, List.getElem?_set_ne (by decide)]; exact hr1_h0
    have hr2_h0 : fs_32[2]? = some (.int x_31) := by rw [efs_32]; exact List.getElem?_set_self (by rw [hl_h0]; decide)
    have hl_h0 : fs_32.length = 16 := by rw [efs_32, List.length_set]; exact hl_h0
    refine lv_aload_n hx hb dX0_init_67 rfl (lv_at hl 0 rfl) ?_
    refine lv_iload_n hx hb dX0_init_68 rfl (lv_at hl 2 rfl) ?_
    refine lv_sipush (v := 4096) hx hb dX0_init_69 (by decide) ?_
    refine lv_irem hx hb dX0_init_72 (by decide) ?_
    refine lv_topi (fun x_34 ex_34 => ?_)
    refine g_putF (ci := 0) (v := .int x_34) (ty := .int) (C := RX0) (T := TX0) (N := 16) hx hb hts uB0 tyX0 tyX0_ok nmX0 hown hK hP hD hS hm_h0 hF_h0 rfl 3 (by decide) wm_194 rfl hin rfl (by decide +kernel) rfl rfl (by rw [hl_h0]; decide) dX0_init_73 (fun H locs hP hD hS => ?_)
    obtain ⟨fs_35, efs_35⟩ : ∃ z9, z9 = List.set fs_32 3 (.int x_34) := ⟨_, rfl⟩
    rw [← efs_35] at hP hD
    obtain ⟨f_36, ef_36⟩ : ∃ z9, z9 = va_up f_33 h0 (.inr (0, fs_35)) := ⟨_, rfl⟩
    have hI := hI.w0 hm_h0 hk_h0 (.inr (0, fs_35))
    rw [← ef_36] at hP hD hI
    have hF_h0 : f_36 h0 = .inr (0, fs_35) := by rw [ef_36, va_up_self]
    have hr4_h0 : fs_35[4]? = some (.int 0) := by rw [efs_35, List.getElem?_set_ne (by decide)]; exact hr4_h0
    have hr6_h0 : fs_35[6]? = some (.int 0) := by rw [efs_35, List.getElem?_set_ne (by decide)]; exact hr6_h0
    have hr7_h0 : fs_35[7]? = some (.int 0) := by rw [efs_35, List.getElem?_set_ne (by decide)]; exact hr7_h0
    have hr11_h0 : fs_35[11]? = some (.int 0) := by rw [efs_35, List.getElem?_set_ne (by decide)]; exact hr11_h0
    have hr12_h0 : fs_35[12]? = some (.long 0) := by rw [efs_35, List.getElem?_set_ne (by decide)]; exact hr12_h0
    have hr13_h0 : fs_35[13]? = some (.int 0) := by rw [efs_35, List.getElem?_set_ne (by decide)]; exact hr13_h0
    have hr14_h0 : fs_35[14]? = some (.int 0) := by rw [efs_35, List.getElem?_set_ne (by decide)]; exact hr14_h0
    have hr15_h0 : fs_35[15]? = some (.long 0) := by rw [efs_35, List.getElem?_set_ne (by decide)]; exact hr15_h0
    have hr5_h0 : fs_35[5]? = some (.ref q_1) := by rw [efs_35, List.getElem?_set_ne (by decide)]; exact hr5_h0
    have hr8_h0 : fs_35[8]? = some (.int 9) := by rw [efs_35, List.getElem?_set_ne (by decide)]; exact hr8_h0
    have hr9_h0 : fs_35[9]? = some (.int 1) := by rw [efs_35, List.getElem?_set_ne (by decide)]; exact hr9_h0
    have hr10_h0 : fs_35[10]? = some (.int 1000) := by rw [efs_35, List.getElem?_set_ne (by decide)]; exact hr10_h0
    have hr0_h0 : fs_35[0]? = some (.int x_14) := by rw [efs_35, List.getElem?_set_ne (by decide)]; exact hr0_h0
    have hr1_h0 : fs_35[1]? = some (.int 1) := by rw [efs_35, List.getElem?_set_ne (by decide)]; exact hr1_h0
    have hr2_h0 : fs_35[2]? = some (.int x_31) := by rw [efs_35, List.getElem?_set_ne (by decide)]; exact hr2_h0
    have hr3_h0 : fs_35[3]? = some (.int x_34) := by rw [efs_35]; exact List.getElem?_set_self (by rw [hl_h0]; decide)
    have hl_h0 : fs_35.length = 16 := by rw [efs_35, List.length_set]; exact hl_h0
    refine lv_aload_n hx hb dX0_init_76 rfl (lv_at hl 0 rfl) ?_
    refine lv_iload_n hx hb dX0_init_77 rfl (lv_at hl 3 rfl) ?_
    refine g_putF (ci := 0) (v := .int z) (ty := .int) (C := RX0) (T := TX0) (N := 16) hx hb hts uB0 tyX0 tyX0_ok nmX0 hown hK hP hD hS hm_h0 hF_h0 rfl 4 (by decide) wm_209 rfl hin rfl (by decide +kernel) rfl rfl (by rw [hl_h0]; decide) dX0_init_78 (fun H locs hP hD hS => ?_)
    obtain ⟨fs_37, efs_37⟩ : ∃ z9, z9 = List.set fs_35 4 (.int z) := ⟨_, rfl⟩
    rw [← efs_37] at hP hD
    obtain ⟨f_38, ef_38⟩ : ∃ z9, z9 = va_up f_36 h0 (.inr (0, fs_37)) := ⟨_, rfl⟩
    have hI := hI.w0 hm_h0 hk_h0 (.inr (0, fs_37))
    rw [← ef_38] at hP hD hI
    have hF_h0 : f_38 h0 = .inr (0, fs_37) := by rw [ef_38, va_up_self]
    have hr6_h0 : fs_37[6]? = some (.int 0) := by rw [efs_37, List.getElem?_set_ne (by decide)]; exact hr6_h0
    have hr7_h0 : fs_37[7]? = some (.int 0) := by rw [efs_37, List.getElem?_set_ne (by decide)]; exact hr7_h0
    have hr11_h0 : fs_37[11]? = some (.int 0) := by rw [efs_37, List.getElem?_set_ne (by decide)]; exact hr11_h0
    have hr12_h0 : fs_37[12]? = some (.long 0) := by rw [efs_37, List.getElem?_set_ne (by decide)]; exact hr12_h0
    have hr13_h0 : fs_37[13]? = some (.int 0) := by rw [efs_37, List.getElem?_set_ne (by decide)]; exact hr13_h0
    have hr14_h0 : fs_37[14]? = some (.int 0) := by rw [efs_37, List.getElem?_set_ne (by decide)]; exact hr14_h0
    have hr15_h0 : fs_37[15]? = some (.long 0) := by rw [efs_37, List.getElem?_set_ne (by decide)]; exact hr15_h0
    have hr5_h0 : fs_37[5]? = some (.ref q_1) := by rw [efs_37, List.getElem?_set_ne (by decide)]; exact hr5_h0
    have hr8_h0 : fs_37[8]? = some (.int 9) := by rw [efs_37, List.getElem?_set_ne (by decide)]; exact hr8_h0
    have hr9_h0 : fs_37[9]? = some (.int 1) := by rw [efs_37, List.getElem?_set_ne (by decide)]; exact hr9_h0
    have hr10_h0 : fs_37[10]? = some (.int 1000) := by rw [efs_37, List.getElem?_set_ne (by decide)]; exact hr10_h0
    have hr0_h0 : fs_37[0]? = some (.int x_14) := by rw [efs_37, List.getElem?_set_ne (by decide)]; exact hr0_h0
    have hr1_h0 : fs_37[1]? = some (.int 1) := by rw [efs_37, List.getElem?_set_ne (by decide)]; exact hr1_h0
    have hr2_h0 : fs_37[2]? = some (.int x_31) := by rw [efs_37, List.getElem?_set_ne (by decide)]; exact hr2_h0
    have hr3_h0 : fs_37[3]? = some (.int x_34) := by rw [efs_37, List.getElem?_set_ne (by decide)]; exact hr3_h0
    have hr4_h0 : fs_37[4]? = some (.int z) := by rw [efs_37]; exact List.getElem?_set_self (by rw [hl_h0]; decide)
    have hl_h0 : fs_37.length = 16 := by rw [efs_37, List.length_set]; exact hl_h0
    refine W.widen (k := 1) (n := 8) (Nat.le_of_ble_eq_true rfl) (Nat.le_of_ble_eq_true rfl) ?_
    exact W.vret hx hb hr (fun t ht hW => ⟨⟨(L_2, f_38), rfl, ⟨kd_3, sn_5, fs_37, q_1, x_14, 1, x_31, x_34, z, 0, 0, 9, 1, 1000, 0, 0, 0, hI, hCE, hLn, (fun a h => by have h9 := hLA a h; rw [← hAe] at h9; exact h9), hF_h0, hl_h0, hr0_h0, hr1_h0, hr2_h0, hr3_h0, hr4_h0, hr6_h0, hr7_h0, hr8_h0, hr9_h0, hr10_h0, hr13_h0, hr14_h0, hr5_h0, hm_q_1, hk_q_1, hr11_h0, hr12_h0, hr15_h0, hk_h0⟩, by show va_P (dC, dI) vwCl (va_pl L_2 f_38) t.heap; rw [ht]; exact hP⟩, hS.F ht⟩) hS.2.2 dX0_init_81
