section CN
variable {K : Nat → ClassId} {np nc ns lk lc tp cp gp lk' lc' : Nat} {G J mk st st' : Nat → Int32} {ap ap' : Nat → Int64} {kd sn : Nat → Nat} {L : List Nat} {f : Nat → va_E} {a : Nat}
theorem cI.w0 (h : cI K np nc ns lk lc tp cp gp G J mk st ap kd sn L f) (hm : a ∈ L) (hk : kd a = 0) (e : va_E) : cI K np nc ns lk lc tp cp gp G J mk st ap kd sn L (va_up f a e) := h.w hm (by rw [hk]; unfold cOk isO; simp)
theorem cI.s2 (h : cI K np nc ns lk lc tp cp gp G J mk st ap kd sn L f) (hm : a ∈ L) (hk : kd a = 2) {g : Nat → Option Nat} (hg : ∀ i, i < np → ∃ b, b ∈ L ∧ kd b = 16 ∧ g i = some b) {b : Nat} (hb : b ∈ L) (hkb : kd b = 16) : cI K (np + 1) nc ns lk lc tp cp gp G J mk st ap kd sn L (va_up f a (.inl (K 3, 8, .inr (.inr (.inr (.inr (va_up g np (some b)))))))) := by
  refine h.cw hm ?_ (fun _ _ => rfl) (fun _ _ => rfl) (Nat.le_succ _) (fun q => absurd hk q) (Nat.le_refl _) (fun _ => Nat.le_refl _) (fun _ => Nat.le_refl _) (Nat.le_refl _) (Nat.le_refl _) (fun _ _ _ _ => rfl) (fun _ _ _ _ => rfl) (fun _ => rfl) (fun _ => Nat.le_refl _) (fun _ => Nat.le_refl _) (fun _ => Nat.le_refl _)
  rw [hk]; unfold cOk isO
  simp
  refine ⟨_, rfl, fun i hi => ?_⟩
  by_cases q : i = np
  · rw [q, va_up_self]; exact ⟨b, hb, hkb, rfl⟩
  · rw [va_up_ne _ _ q]; exact hg i (by omega)
theorem cI.s3 (h : cI K np nc ns lk lc tp cp gp G J mk st ap kd sn L f) (hm : a ∈ L) (hk : kd a = 3) {g : Nat → Option Nat} (hg : ∀ i, i < nc → ∃ b, b ∈ L ∧ kd b = 20 ∧ sn b = i ∧ g i = some b) {b : Nat} (hb : b ∈ L) (hkb : kd b = 20) (hsb : sn b = nc) : cI K np (nc + 1) ns lk lc tp cp gp G J mk st ap kd sn L (va_up f a (.inl (K 4, 40, .inr (.inr (.inr (.inr (va_up g nc (some b)))))))) := by
  refine h.cw hm ?_ (fun _ _ => rfl) (fun _ _ => rfl) (Nat.le_refl _) (fun _ => Nat.le_refl _) (Nat.le_succ _) (fun q => absurd hk q) (fun _ => Nat.le_refl _) (Nat.le_refl _) (Nat.le_refl _) (fun _ _ _ _ => rfl) (fun _ _ _ _ => rfl) (fun _ => rfl) (fun _ => Nat.le_refl _) (fun _ => Nat.le_refl _) (fun _ => Nat.le_refl _)
  rw [hk]; unfold cOk isO
  simp
  refine ⟨_, rfl, fun i hi => ?_⟩
  by_cases q : i = nc
  · rw [q, va_up_self]; exact ⟨b, hb, hkb, hsb, rfl⟩
  · rw [va_up_ne _ _ q]; exact hg i (by omega)
theorem cI.s4 (h : cI K np nc ns lk lc tp cp gp G J mk st ap kd sn L f) (hm : a ∈ L) (hk : kd a = 4) {g : Nat → Option Nat} (hg : ∀ i, i < ns → ∃ b, b ∈ L ∧ kd b = 18 ∧ g i = some b) {b : Nat} (hb : b ∈ L) (hkb : kd b = 18) : cI K np nc (ns + 1) lk lc tp cp gp G J mk st ap kd sn L (va_up f a (.inl (K 5, 1000, .inr (.inr (.inr (.inr (va_up g ns (some b)))))))) := by
  refine h.cw hm ?_ (fun _ _ => rfl) (fun _ _ => rfl) (Nat.le_refl _) (fun _ => Nat.le_refl _) (Nat.le_refl _) (fun _ => Nat.le_refl _) (fun q => absurd hk q) (Nat.le_refl _) (Nat.le_refl _) (fun _ _ _ _ => rfl) (fun _ _ _ _ => rfl) (fun _ => rfl) (fun _ => Nat.le_refl _) (fun _ => Nat.le_refl _) (fun _ => Nat.le_refl _)
  rw [hk]; unfold cOk isO
  simp
  refine ⟨_, rfl, fun i hi => ?_⟩
  by_cases q : i = ns
  · rw [q, va_up_self]; exact ⟨b, hb, hkb, rfl⟩
  · rw [va_up_ne _ _ q]; exact hg i (by omega)
/-- a new cell of a kind (no campaign) -/
theorem cI.nk (h : cI K np nc ns lk lc tp cp gp G J mk st ap kd sn L f) {q : Nat} (hq : q ∉ L) (κ s9 : Nat) (hκ : 14 ≤ κ) (hκ2 : ¬ κ = 20) {e : va_E} (he : cOk K np nc ns lk lc tp cp gp G J mk st ap (va_up kd q κ) (va_up sn q s9) (L ++ [q]) q κ e) : cI K np nc ns lk lc tp cp gp G J mk st ap (va_up kd q κ) (va_up sn q s9) (L ++ [q]) (va_up f q e) := by
  have h1 := (h.n0 hq e).rk (a := q) (List.mem_append_right _ (List.mem_singleton.mpr rfl)) (va_up_self _ _ _) κ s9 hκ (Nat.le_refl _) (Nat.le_refl _) (st' := st) (ap' := ap) (fun _ _ _ => rfl) (fun _ _ _ => rfl) (fun z => absurd z hκ2) (by rw [bx_uu, va_up_self]; exact he)
  rw [bx_uu] at h1
  exact h1
theorem sale_ok {q : Nat} (hnp : 0 < np) (hnc : 0 < nc) : cOk K np nc ns lk lc tp cp gp G J mk st ap kd sn L q 18 (.inr (3, [.int 0, .int 0, .int 0, .int 0, .int 0, .int 0, .int 0, .int 0, .int 0, .int 0, .int 0, .null])) := by
  refine ⟨fun _ => ⟨_, rfl, rfl, fun i hi => ?_⟩, by simp, by simp, by simp, by simp, by simp, by simp, by simp, by simp, by simp, by simp, by simp, by simp, by simp, by simp, by simp⟩
  have hi : i < 12 := hi
  have hh : i = 0 ∨ i = 1 ∨ i = 2 ∨ i = 3 ∨ i = 4 ∨ i = 5 ∨ i = 6 ∨ i = 7 ∨ i = 8 ∨ i = 9 ∨ i = 10 ∨ i = 11 := by omega
  rcases hh with rfl | rfl | rfl | rfl | rfl | rfl | rfl | rfl | rfl | rfl | rfl | rfl
  · exact fv1
  · exact fv1
  · exact fv6 (q := 0) hnp
  · exact fv1
  · exact fv7 (q := 0) hnc
  · exact fv1
  · exact fv1
  · exact fv1
  · exact fv1
  · exact fv1
  · exact fv1
  · exact fv8n
theorem tally_ok {q : Nat} : cOk K np nc ns lk lc tp cp gp G J mk st ap kd sn L q 19 (.inr (4, [.int 0, .int 0, .int 0, .int 0, .int 0, .int 0, .int 0, .null])) := by
  refine ⟨fun _ => ⟨_, rfl, rfl, fun i hi => ?_⟩, by simp, by simp, by simp, by simp, by simp, by simp, by simp, by simp, by simp, by simp, by simp, by simp, by simp, by simp, by simp⟩
  have hi : i < 8 := hi
  have hh : i = 0 ∨ i = 1 ∨ i = 2 ∨ i = 3 ∨ i = 4 ∨ i = 5 ∨ i = 6 ∨ i = 7 := by omega
  rcases hh with rfl | rfl | rfl | rfl | rfl | rfl | rfl | rfl
  · exact fv1
  · exact fv1
  · exact fv1
  · exact fv1
  · exact fv1
  · exact fv1
  · exact fv1
  · exact fv9n
theorem sizes_ok {q : Nat} {g : Nat → Int32} : cOk K np nc ns lk lc tp cp gp G J mk st ap kd sn L q 17 (.inl (K 0, 4, .inl g)) := by unfold cOk isO; simp
theorem fvO {t k : Nat} {o : Option Value} {v : Value} (h : o = some v) (hv : fvOk np nc lk G J st ap kd sn L t k a (some v)) : fvOk np nc lk G J st ap kd sn L t k a o := by rw [h]; exact hv
theorem page_ok {fs : List Value} {b : Nat} (hl : fs.length = 4) (h0 : fs[0]? = some (.ref b)) (hb : b ∈ L) (hkb : kd b = 17) (h1 : fs[1]? = some (.int (nI (sn a)))) (hs1 : 1 ≤ sn a) (hs4 : sn a ≤ 4) {x : Int32} (h2 : fs[2]? = some (.int x)) {y : Int64} (h3 : fs[3]? = some (.long y)) : cOk K np nc ns lk lc tp cp gp G J mk st ap kd sn L a 16 (.inr (2, fs)) := by
  refine ⟨fun _ => ⟨fs, rfl, hl, fun i hi => ?_⟩, by simp, by simp, by simp, by simp, by simp, by simp, by simp, by simp, by simp, by simp, by simp, by simp, by simp, by simp, by simp⟩
  have hi : i < 4 := hi
  have hh : i = 0 ∨ i = 1 ∨ i = 2 ∨ i = 3 := by omega
  rcases hh with rfl | rfl | rfl | rfl
  · exact fvO h0 (fvR (t := 17) hb hkb)
  · exact fvO h1 (fv5 hs1 hs4)
  · exact fvO h2 fv1
  · exact fvO h3 fv2
theorem camp_ok {fs : List Value} {b : Nat} {x0 x1 x2 x3 x4 x6 x7 x8 x9 x10 x13 x14 : Int32} {x15 : Int64} (hl : fs.length = 16) (h0 : fs[0]? = some (.int x0)) (h1 : fs[1]? = some (.int x1)) (h2 : fs[2]? = some (.int x2)) (h3 : fs[3]? = some (.int x3)) (h4 : fs[4]? = some (.int x4)) (h5 : fs[5]? = some (.ref b)) (hb : b ∈ L) (hkb : kd b = 19) (h6 : fs[6]? = some (.int x6)) (h7 : fs[7]? = some (.int x7)) (h8 : fs[8]? = some (.int x8)) (h9 : fs[9]? = some (.int x9)) (h10 : fs[10]? = some (.int x10)) (h11 : fs[11]? = some (.int (st (sn a)))) (h12 : fs[12]? = some (.long (ap (sn a)))) (h13 : fs[13]? = some (.int x13)) (h14 : fs[14]? = some (.int x14)) (h15 : fs[15]? = some (.long x15)) (hlc : sn a < lc) : cOk K np nc ns lk lc tp cp gp G J mk st ap kd sn L a 20 (.inr (0, fs)) := by
  refine ⟨fun _ => ⟨fs, rfl, hl, fun i hi => ?_⟩, by simp, by simp, by simp, by simp, by simp, by simp, by simp, by simp, by simp, by simp, by simp, by simp, by simp, by simp, fun _ => hlc⟩
  have hi : i < 16 := hi
  have hh : i = 0 ∨ i = 1 ∨ i = 2 ∨ i = 3 ∨ i = 4 ∨ i = 5 ∨ i = 6 ∨ i = 7 ∨ i = 8 ∨ i = 9 ∨ i = 10 ∨ i = 11 ∨ i = 12 ∨ i = 13 ∨ i = 14 ∨ i = 15 := by omega
  rcases hh with rfl | rfl | rfl | rfl | rfl | rfl | rfl | rfl | rfl | rfl | rfl | rfl | rfl | rfl | rfl | rfl
  · exact fvO h0 fv1
  · exact fvO h1 fv1
  · exact fvO h2 fv1
  · exact fvO h3 fv1
  · exact fvO h4 fv1
  · exact fvO h5 (fvR (t := 19) hb hkb)
  · exact fvO h6 fv1
  · exact fvO h7 fv1
  · exact fvO h8 fv1
  · exact fvO h9 fv1
  · exact fvO h10 fv1
  · exact fvO h11 fv10
  · exact fvO h12 fv11
  · exact fvO h13 fv1
  · exact fvO h14 fv1
  · exact fvO h15 fv2
end CN
theorem g_push {A : Nat → Prop} {L : List Nat} {f : Nat → va_E} {q : Nat} {e : va_E} (hn : gN L) (hD : va_D A (va_pl L f ++ [(q, e)])) : q ∉ L ∧ gN (L ++ [q]) ∧ A q := by
  have hlen : (va_pl L f).length = L.length := by unfold va_pl; rw [List.length_map]
  have hq : (va_pl L f ++ [(q, e)])[(va_pl L f).length]? = some (q, e) := by rw [List.getElem?_append_right (Nat.le_refl _), Nat.sub_self]; rfl
  have h1 : q ∉ L := fun hm => by
    obtain ⟨k, hk⟩ := g_at (f := f) hm rfl
    have hlt := (List.getElem?_eq_some_iff.mp hk).1
    have := hD.1 k _ (q, f q) (q, e) (by rw [List.getElem?_append_left hlt]; exact hk) hq rfl
    omega
  refine ⟨h1, fun i j a hi hj => ?_, hD.2 _ _ hq⟩
  have hc : ∀ i a, (L ++ [q])[i]? = some a → (i < L.length ∧ L[i]? = some a) ∨ (i = L.length ∧ a = q) := fun i a h => by
    rcases Nat.lt_or_ge i L.length with z | z
    · rw [List.getElem?_append_left z] at h; exact Or.inl ⟨z, h⟩
    · rw [List.getElem?_append_right z] at h
      have h0 := (List.getElem?_eq_some_iff.mp h).1
      have hz : i - L.length = 0 := by simp at h0; omega
      rw [hz] at h
      exact Or.inr ⟨by omega, (Option.some.inj h).symm⟩
  rcases hc i a hi with ⟨z1, z2⟩ | ⟨z1, z2⟩
  · rcases hc j a hj with ⟨y1, y2⟩ | ⟨y1, y2⟩
    · exact hn i j a z2 y2
    · rw [y2] at z2; exact absurd (List.mem_of_getElem? z2) h1
  · rcases hc j a hj with ⟨y1, y2⟩ | ⟨y1, y2⟩
    · rw [z2] at y2; exact absurd (List.mem_of_getElem? y2) h1
    · omega
section GN
variable {p : Program} {l : Launch} {e : Env} {R : Room} {s : State} {m : MethodId} {args : Array Value} {below : List Frame} {meth : Method} {c : Code} {H : Heap} {locs : List Loc} {cells slots : Nat} {Q : State → Prop}
variable {cc : ByteArray} {pc : Nat} {ls : Array Slot} {rest : List Value} {D : va_G} {A : Nat → Prop} {a : Nat} {K : Nat → ClassId} {L : List Nat} {f : Nat → va_E} {H0 : Heap}
theorem g_putF (hexec : p.tables.exec = Jvm.exec) (hb : c.code = cc) {own C : String} {T : u_T} {N ci index : Nat} (hts : ∀ w ∈ lw_B, w.before args s = true) (hin : ∀ w ∈ u_ws C T N, w ∈ lw_B) (ty0 : Nat → FieldType) (hty : ∀ k, k < N → parseFieldDescriptor (T k).2.2.1 = some (ty0 k)) (hnm : ∀ a, a < N → ∀ b, b < N → a ≠ b → (T a).2.1 ≠ (T b).2.1) (hown : s.vm.findClass own = some m.cls) (hK : va_K D vwCl (tyK K) s) (hP : va_P D vwCl (va_pl L f) H) (hD : va_D A (va_pl L f)) (hS : va_S A H0 H locs) (ha : a ∈ L) {fs : List Value} (he : f a = .inr (ci, fs)) (hc : vwCl[ci]? = some (C, T, N)) (k : Nat) (hk : k < N) (hlink : Cond.fieldLink own index (T k).1 (T k).2.1 (T k).2.2.1 ∈ lw_B) (hfin : (T k).2.2.2 = true) (hin2 : meth.name = "<init>") (hdecl : (T k).1 = own) {ty : FieldType} {v : Value} (hd : parseFieldDescriptor (T k).2.2.1 = some ty) (hn : narrow ty v = v) (hfit : fits ty v = true) (hl : k < fs.length)
    (hdg : decode cc pc = .ok (.putfield index, 3)) (kk : ∀ (H1 : Heap) (locs1 : List Loc), va_P D vwCl (va_pl L (va_up f a (.inr (ci, fs.set k v)))) H1 → va_D A (va_pl L (va_up f a (.inr (ci, fs.set k v)))) → va_S A H0 H1 locs1 → W p l e R s m args below meth c H1 locs1 cells slots Q (F0 m (pc + 3) ls rest)) : W p l e R s m args below meth c H locs cells slots Q (F0 m pc ls (v :: .ref a :: rest)) := by
  obtain ⟨q0, hq⟩ := g_at ha he
  refine va_putF hexec hb hts hin ty0 hty hnm hown hK hP hD hS q0 hq hc k hk (hts _ hlink) (fun _ h9 => h9) hfin hin2 hdecl hd hn hfit hl hdg (fun H1 locs1 h1 h2 h3 => ?_)
  rw [g_set hD ha he hq] at h1 h2
  exact kk H1 locs1 h1 h2 h3
theorem g_new {c0 : Code} (hexec : p.tables.exec = Jvm.exec) (hb : c0.code = cc) {own C : String} {T : u_T} {N ci index : Nat} (hts : ∀ w ∈ lw_B, w.before args s = true) (hin : ∀ w ∈ u_ws C T N, w ∈ lw_B) (ty : Nat → FieldType) (hty : ∀ k, k < N → parseFieldDescriptor (T k).2.2.1 = some (ty k)) (hown : s.vm.findClass own = some m.cls) (hcl : (Cond.classLink own index C).before args s = true) (hinst : (Cond.instantiable C N).before args s = true) (hini : (Cond.initialized C).before args s = true)
    (hK : va_K D vwCl (tyK K) s) (hP : va_P D vwCl (va_pl L f) H) (hLn : gN L) (hLA : ∀ a ∈ L, A a) (hS : va_S A H0 H locs) (hA : ∀ q, H0.size ≤ q → A q) (hc : vwCl[ci]? = some (C, T, N)) {fs : List Value} (hfs : ∀ j, j < N → defaultValue (ty j) = vp_V fs j) (hcells : cells + 1 ≤ R.cells) (hslots : slots + N ≤ R.slots) (hdg : decode cc pc = .ok (.new index, 3))
    (kk : ∀ (q : Nat) (H1 : Heap), q ∉ L → gN (L ++ [q]) → (∀ a ∈ L ++ [q], A a) → va_P D vwCl (va_pl (L ++ [q]) (va_up f q (.inr (ci, fs)))) H1 → va_S A H0 H1 locs →
      W p l e R s m args below meth c0 H1 locs (cells + 1) (slots + N) Q (F0 m (pc + 3) ls (.ref q :: rest))) : W p l e R s m args below meth c0 H locs cells slots Q (F0 m pc ls rest) := by
  refine va_new hexec hb hts hin ty hty hown hcl hinst hini hK hP (g_D hLn hLA f) hS hA hc hfs hcells hslots hdg (fun q H1 h1 h2 h3 => ?_)
  obtain ⟨z1, z2, z3⟩ := g_push hLn h2
  rw [va_pl_push z1] at h1
  exact kk q H1 z1 z2 (fun a ha => (List.mem_append.mp ha).elim (hLA a) (fun h => by rw [List.mem_singleton.mp h]; exact z3)) h1 h3
theorem g_newa (hexec : p.tables.exec = Jvm.exec) (hb : c.code = cc) (harr : (Cond.arrayClass .int).before args s = true) (hK : va_K D vwCl (tyK K) s) (hP : va_P D vwCl (va_pl L f) H) (hLn : gN L) (hLA : ∀ a ∈ L, A a) (hS : va_S A H0 H locs) (hA : ∀ q, H0.size ≤ q → A q) (hcells : cells + 1 ≤ R.cells) (hslots : slots + 4 ≤ R.slots) (hdg : decode cc pc = .ok (.newarray .int, 2))
    (kk : ∀ (q : Nat) (H1 : Heap), q ∉ L → gN (L ++ [q]) → (∀ a ∈ L ++ [q], A a) → va_P D vwCl (va_pl (L ++ [q]) (va_up f q (.inl (K 0, 4, .inl (fun _ => 0))))) H1 → va_S A H0 H1 locs →
      W p l e R s m args below meth c H1 locs (cells + 1) (slots + 4) Q (F0 m (pc + 2) ls (.ref q :: rest))) : W p l e R s m args below meth c H locs cells slots Q (F0 m pc ls (.int 4 :: rest)) := by
  refine va_newa (atype := .int) (N' := 4) (a0 := (4, .inl (fun _ => 0))) hexec hb harr rfl hK hP (g_D hLn hLA f) hS hA (fun _ => rfl) (by decide) rfl (Nat.le_of_ble_eq_true rfl) hcells hslots hdg (fun q cA H1 hK1 h1 h2 h3 => ?_)
  have e1 : cA = K 0 := Option.some.inj ((hK1.2 8 (cA, .int) rfl).2.symm.trans (hK1.2 0 (K 0, .int) rfl).2)
  subst e1
  obtain ⟨z1, z2, z3⟩ := g_push hLn h2
  rw [va_pl_push z1] at h1
  exact kk q H1 z1 z2 (fun a ha => (List.mem_append.mp ha).elim (hLA a) (fun h => by rw [List.mem_singleton.mp h]; exact z3)) h1 h3
theorem g_astR (hexec : p.tables.exec = Jvm.exec) (hb : c.code = cc) (hK : va_K D vwCl (tyK K) s) (hP : va_P D vwCl (va_pl L f) H) (hD : va_D A (va_pl L f)) (hS : va_S A H0 H locs) (ha : a ∈ L) {t n : Nat} {g : Nat → Option Nat} (he : f a = .inl (K t, n, .inr (.inr (.inr (.inr g))))) {v ci : Nat} {vs : List Value} {r : vw_C} (hv : v ∈ L) (hve : f v = .inr (ci, vs)) (hc : vwCl[ci]? = some r) (ht : (tyK K)[t]? = some (K t, .object r.1)) {i : Int32} (hin : vp_in i n) (hdg : decode cc pc = .ok (.aastore, 1))
    (kk : ∀ (H1 : Heap) (locs1 : List Loc), va_P D vwCl (va_pl L (va_up f a (.inl (K t, n, .inr (.inr (.inr (.inr (va_up g i.toNatClampNeg (some v))))))))) H1 → va_D A (va_pl L (va_up f a (.inl (K t, n, .inr (.inr (.inr (.inr (va_up g i.toNatClampNeg (some v))))))))) → va_S A H0 H1 locs1 → W p l e R s m args below meth c H1 locs1 cells slots Q (F0 m (pc + 1) ls rest)) : W p l e R s m args below meth c H locs cells slots Q (F0 m pc ls (.ref v :: .int i :: .ref a :: rest)) := by
  obtain ⟨q0, hq⟩ := g_at ha he
  obtain ⟨qk, hqk⟩ := g_at hv hve
  refine va_astq hexec hb hK hP hD hS q0 t qk ci hq ht hqk hc hin hdg (fun H1 locs1 h1 h2 h3 => ?_)
  rw [g_set hD ha he hq] at h1 h2
  exact kk H1 locs1 h1 h2 h3
end GN
/-- methods that make cells: the pool becomes L', the map f' -/
abbrev gAv (l : Launch) (y : MethodName) (bytes : ByteArray) (maxL d mc ms : Nat) (D : va_G) (K : Nat → ClassId) (L : List Nat) (f : Nat → va_E) (sz : Nat) (ex : State → Prop) (As : List Value) (post : List Nat → (Nat → va_E) → Prop) : Prop :=
  Met l y (Cond.code y bytes maxL none :: lw_B) (rmD d mc ms) (va_Pc As (fun U => U.heap.size = sz ∧ va_P D vwCl (va_pl L f) U.heap ∧ va_K D vwCl (tyK K) U ∧ ex U)) (va_Qv (fun u : List Nat × (Nat → va_E) => post u.1 u.2) (fun u U => va_P D vwCl (va_pl u.1 u.2) U.heap) (fun q => q ∈ L ∨ sz ≤ q)) mc ms (fun q => q ∈ L ∨ sz ≤ q)
abbrev gAi (l : Launch) (y : MethodName) (bytes : ByteArray) (maxL d mc ms : Nat) (D : va_G) (K : Nat → ClassId) (L : List Nat) (f : Nat → va_E) (sz : Nat) (ex : State → Prop) (As : List Value) (post : Int32 → List Nat → (Nat → va_E) → Prop) : Prop :=
  Met l y (Cond.code y bytes maxL (some .int) :: lw_B) (rmD d mc ms) (va_Pc As (fun U => U.heap.size = sz ∧ va_P D vwCl (va_pl L f) U.heap ∧ va_K D vwCl (tyK K) U ∧ ex U)) (va_Qi (fun r (u : List Nat × (Nat → va_E)) => post r u.1 u.2) (fun u U => va_P D vwCl (va_pl u.1 u.2) U.heap) (fun q => q ∈ L ∨ sz ≤ q)) mc ms (fun q => q ∈ L ∨ sz ≤ q)
section GA
variable {p : Program} {l : Launch} {e : Env} {R : Room} {s : State} {m : MethodId} {args : Array Value} {below : List Frame} {meth : Method} {c : Code} {H : Heap} {locs : List Loc} {cells slots : Nat} {Q : State → Prop}
variable {A0 : Nat → Prop} {H0 : Heap} {D : va_G} {K : Nat → ClassId} {L : List Nat} {f : Nat → va_E} {pc : Nat} {ls : Array Slot} {st0 rest : List Value} {y : MethodName} {bytes cc : ByteArray} {maxL nL index d n mc ms : Nat} {own : String} {As : List Value} {ex : State → Prop}
theorem gc_Av {post : List Nat → (Nat → va_E) → Prop} {b ci : Nat} {fs : List Value} {q : vw_C} (S : CallFix p m c cc nL s args lw_B own) (hM : gAv l y bytes maxL d mc ms D K L f H.size ex (.ref b :: As) post) (hex : exOk s ex) (n : Nat) (w1 : Cond.methodLink own index y ∈ lw_B) (w2 : Cond.instanceMethod y ∈ lw_B) (w3 : Cond.selects q.1 y y ∈ lw_B) (w4 : Cond.initialized q.1 ∈ lw_B) (w5 : Cond.code y bytes maxL none ∈ lw_B)
    (hd : y.cls = q.1 ∧ y.cls ≠ "java/lang/invoke/MethodHandle" ∧ y.cls ≠ "java/lang/invoke/VarHandle" ∧ (parseMethodDescriptor y.desc).map (fun d => d.parameters.length) = some n) (hR : d + 1 ≤ R.frames ∧ 8 + (maxL + 11) + 40 * d ≤ R.locals)
    (hK : va_K D vwCl (tyK K) s) (hc : vwCl[ci]? = some q) (hbL : b ∈ L) (hbf : f b = .inr (ci, fs))
    (hn : As.length = n) (hls : ls.size = nL) (hst : st0 = As.reverse ++ .ref b :: rest) (hW : (rest.map fun v => v.category).sum ≤ 8) (hdg : decode cc pc = .ok (.invokevirtual index, 3)) (hf : cells + mc ≤ R.cells ∧ slots + ms ≤ R.slots)
    (hLA : ∀ a ∈ L, A0 a) (hA : ∀ q, H0.size ≤ q → A0 q) (hS : va_S A0 H0 H locs) (hP : va_P D vwCl (va_pl L f) H)
    (kk : ∀ (L' : List Nat) (f' : Nat → va_E) (H1 : Heap) (locs1 : List Loc), post L' f' → va_P D vwCl (va_pl L' f') H1 → va_S A0 H0 H1 locs1 → W p l e R s m args below meth c H1 locs1 (cells + mc) (slots + ms) Q (F0 m (pc + 3) ls rest)) : W p l e R s m args below meth c H locs cells slots Q (F0 m pc ls st0) := by
  obtain ⟨k, hk⟩ := g_at hbL hbf
  have hF : ∀ q, (q ∈ L ∨ H.size ≤ q) → A0 q := fun q h => h.elim (hLA q) (fun h => hA q (Nat.le_trans hS.1 h))
  refine va_callv (va_runV (As := As) (rest := rest) S hM (cwV n S.2.2.2.2 (lb_V w1 w2 w3 w4 w5) rfl rfl rfl hd hR) ⟨fun a U g mk q => ⟨q.1, q.2.1, q.2.2.1, va_K.moved (u := U) (U := U.calling g mk a) (Vm.Alike.refl U.vm) q.2.2.2.1, hex.1 a U g mk q.2.2.2.2⟩, va_recv hK hP hc hk, fun U hU hW => ⟨rfl, by rw [hU], by rw [hU]; exact hP, va_K.moved hW.alike hK, hex.2 U hW⟩⟩ rfl hn hls hst (lv_room hW) hdg hf) hS (fun q _ h => hF q h) hF (fun u t H1 locs1 ht _ hp hB _ _ hS1 => ?_)
  rw [ht] at hB
  exact kk u.1 u.2 H1 locs1 hp hB hS1
theorem gc_Ai {post : Int32 → List Nat → (Nat → va_E) → Prop} {b ci : Nat} {fs : List Value} {q : vw_C} (S : CallFix p m c cc nL s args lw_B own) (hM : gAi l y bytes maxL d mc ms D K L f H.size ex (.ref b :: As) post) (hex : exOk s ex) (n : Nat) (w1 : Cond.methodLink own index y ∈ lw_B) (w2 : Cond.instanceMethod y ∈ lw_B) (w3 : Cond.selects q.1 y y ∈ lw_B) (w4 : Cond.initialized q.1 ∈ lw_B) (w5 : Cond.code y bytes maxL (some .int) ∈ lw_B)
    (hd : y.cls = q.1 ∧ y.cls ≠ "java/lang/invoke/MethodHandle" ∧ y.cls ≠ "java/lang/invoke/VarHandle" ∧ (parseMethodDescriptor y.desc).map (fun d => d.parameters.length) = some n) (hR : d + 1 ≤ R.frames ∧ 8 + (maxL + 11) + 40 * d ≤ R.locals)
    (hK : va_K D vwCl (tyK K) s) (hc : vwCl[ci]? = some q) (hbL : b ∈ L) (hbf : f b = .inr (ci, fs))
    (hn : As.length = n) (hls : ls.size = nL) (hst : st0 = As.reverse ++ .ref b :: rest) (hW : (rest.map fun v => v.category).sum ≤ 8) (hdg : decode cc pc = .ok (.invokevirtual index, 3)) (hf : cells + mc ≤ R.cells ∧ slots + ms ≤ R.slots)
    (hLA : ∀ a ∈ L, A0 a) (hA : ∀ q, H0.size ≤ q → A0 q) (hS : va_S A0 H0 H locs) (hP : va_P D vwCl (va_pl L f) H)
    (kk : ∀ (r : Int32) (L' : List Nat) (f' : Nat → va_E) (H1 : Heap) (locs1 : List Loc), post r L' f' → va_P D vwCl (va_pl L' f') H1 → (∀ q : Nat, q < H.size → ¬ (q ∈ L ∨ H.size ≤ q) → H1[q]? = H[q]?) → va_S A0 H0 H1 locs1 → W p l e R s m args below meth c H1 locs1 (cells + mc) (slots + ms) Q (F0 m (pc + 3) ls (.int r :: rest))) : W p l e R s m args below meth c H locs cells slots Q (F0 m pc ls st0) := by
  obtain ⟨k, hk⟩ := g_at hbL hbf
  have hF : ∀ q, (q ∈ L ∨ H.size ≤ q) → A0 q := fun q h => h.elim (hLA q) (fun h => hA q (Nat.le_trans hS.1 h))
  refine va_calli (va_runV (As := As) (rest := rest) S hM (cwV n S.2.2.2.2 (lb_V w1 w2 w3 w4 w5) rfl rfl rfl hd hR) ⟨fun a U g mk q => ⟨q.1, q.2.1, q.2.2.1, va_K.moved (u := U) (U := U.calling g mk a) (Vm.Alike.refl U.vm) q.2.2.2.1, hex.1 a U g mk q.2.2.2.2⟩, va_recv hK hP hc hk, fun U hU hW => ⟨rfl, by rw [hU], by rw [hU]; exact hP, va_K.moved hW.alike hK, hex.2 U hW⟩⟩ rfl hn hls hst (lv_room hW) hdg hf) hS (fun q _ h => hF q h) hF (fun r u t H1 locs1 ht _ hp hB _ hk1 hS1 => ?_)
  rw [ht] at hB
  exact kk r u.1 u.2 H1 locs1 hp hB hk1 hS1
/-- a constructor -/
theorem gc_AI {post : List Nat → (Nat → va_E) → Prop} {b : Nat} (S : CallFix p m c cc nL s args lw_B own) (hM : gAv l y bytes maxL d mc ms D K L f H.size ex (.ref b :: As) post) (hex : exOk s ex) (n : Nat) (w1 : Cond.methodLink own index y ∈ lw_B) (w2 : Cond.instanceMethod y ∈ lw_B) (w4 : Cond.initialized y.cls ∈ lw_B) (w5 : Cond.code y bytes maxL none ∈ lw_B) (hy : y.name = "<init>")
    (hd : y.cls ≠ "java/lang/invoke/MethodHandle" ∧ y.cls ≠ "java/lang/invoke/VarHandle" ∧ (parseMethodDescriptor y.desc).map (fun d => d.parameters.length) = some n) (hR : d + 1 ≤ R.frames ∧ 8 + (maxL + 11) + 40 * d ≤ R.locals) (hK : va_K D vwCl (tyK K) s)
    (hn : As.length = n) (hls : ls.size = nL) (hst : st0 = As.reverse ++ .ref b :: rest) (hW : (rest.map fun v => v.category).sum ≤ 8) (hdg : decode cc pc = .ok (.invokespecial index, 3)) (hf : cells + mc ≤ R.cells ∧ slots + ms ≤ R.slots)
    (hLA : ∀ a ∈ L, A0 a) (hA : ∀ q, H0.size ≤ q → A0 q) (hS : va_S A0 H0 H locs) (hP : va_P D vwCl (va_pl L f) H)
    (kk : ∀ (L' : List Nat) (f' : Nat → va_E) (H1 : Heap) (locs1 : List Loc), post L' f' → va_P D vwCl (va_pl L' f') H1 → va_S A0 H0 H1 locs1 → W p l e R s m args below meth c H1 locs1 (cells + mc) (slots + ms) Q (F0 m (pc + 3) ls rest)) : W p l e R s m args below meth c H locs cells slots Q (F0 m pc ls st0) := by
  have hF : ∀ q, (q ∈ L ∨ H.size ≤ q) → A0 q := fun q h => h.elim (hLA q) (fun h => hA q (Nat.le_trans hS.1 h))
  have ht := S.2.2.2.2
  refine va_callv (va_runI (As := As) (rest := rest) S hM (cwI n ht (lb_GI (lb_c w5)) rfl rfl rfl (ht _ w4) (ht _ w1) (ht _ w2) hy hd hR) ⟨fun a U g mk q => ⟨q.1, q.2.1, q.2.2.1, va_K.moved (u := U) (U := U.calling g mk a) (Vm.Alike.refl U.vm) q.2.2.2.1, hex.1 a U g mk q.2.2.2.2⟩, fun U hU hW => ⟨rfl, by rw [hU], by rw [hU]; exact hP, va_K.moved hW.alike hK, hex.2 U hW⟩⟩ rfl hn hls hst (lv_room hW) hdg hf) hS (fun q _ h => hF q h) hF (fun u t H1 locs1 ht _ hp hB _ _ hS1 => ?_)
  rw [ht] at hB
  exact kk u.1 u.2 H1 locs1 hp hB hS1
/-- a nest mate's private constructor -/
theorem gc_AIN {host : String} {post : List Nat → (Nat → va_E) → Prop} {b : Nat} (S : CallFix p m c cc nL s args lw_B own) (hM : gAv l y bytes maxL d mc ms D K L f H.size ex (.ref b :: As) post) (hex : exOk s ex) (n : Nat) (w1 : va_Nw (.methodLinkNest own index y host) s) (w2 : Cond.instanceMethod y ∈ lw_B) (w4 : Cond.initialized y.cls ∈ lw_B) (w5 : Cond.code y bytes maxL none ∈ lw_B) (hy : y.name = "<init>")
    (hd : y.cls ≠ "java/lang/invoke/MethodHandle" ∧ y.cls ≠ "java/lang/invoke/VarHandle" ∧ (parseMethodDescriptor y.desc).map (fun d => d.parameters.length) = some n) (hR : d + 1 ≤ R.frames ∧ 8 + (maxL + 11) + 40 * d ≤ R.locals) (hK : va_K D vwCl (tyK K) s)
    (hn : As.length = n) (hls : ls.size = nL) (hst : st0 = As.reverse ++ .ref b :: rest) (hW : (rest.map fun v => v.category).sum ≤ 8) (hdg : decode cc pc = .ok (.invokespecial index, 3)) (hf : cells + mc ≤ R.cells ∧ slots + ms ≤ R.slots)
    (hLA : ∀ a ∈ L, A0 a) (hA : ∀ q, H0.size ≤ q → A0 q) (hS : va_S A0 H0 H locs) (hP : va_P D vwCl (va_pl L f) H)
    (kk : ∀ (L' : List Nat) (f' : Nat → va_E) (H1 : Heap) (locs1 : List Loc), post L' f' → va_P D vwCl (va_pl L' f') H1 → va_S A0 H0 H1 locs1 → W p l e R s m args below meth c H1 locs1 (cells + mc) (slots + ms) Q (F0 m (pc + 3) ls rest)) : W p l e R s m args below meth c H locs cells slots Q (F0 m pc ls st0) := by
  have hF : ∀ q, (q ∈ L ∨ H.size ≤ q) → A0 q := fun q h => h.elim (hLA q) (fun h => hA q (Nat.le_trans hS.1 h))
  have ht := S.2.2.2.2
  refine va_callv (va_runIN (As := As) (rest := rest) S hM ⟨va_cnB n ht (lb_GI (lb_c w5)) rfl rfl rfl w1 (ht _ w4) hd hR, hy, ht _ w2⟩ ⟨fun a U g mk q => ⟨q.1, q.2.1, q.2.2.1, va_K.moved (u := U) (U := U.calling g mk a) (Vm.Alike.refl U.vm) q.2.2.2.1, hex.1 a U g mk q.2.2.2.2⟩, fun U hU hW => ⟨rfl, by rw [hU], by rw [hU]; exact hP, va_K.moved hW.alike hK, hex.2 U hW⟩⟩ rfl hn hls hst (lv_room hW) hdg hf) hS (fun q _ h => hF q h) hF (fun u t H1 locs1 ht _ hp hB _ _ hS1 => ?_)
  rw [ht] at hB
  exact kk u.1 u.2 H1 locs1 hp hB hS1
end GA
