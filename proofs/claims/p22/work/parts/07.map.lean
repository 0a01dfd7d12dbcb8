/-! THE HEAP AS A MAP: the cells at the addresses L hold what f says. One world for all; a store is va_up f, a new cell goes to L -/
/-- the array classes: int, long, boolean, Page, Campaign, Sale, long[], int[] -/
abbrev tyK (K : Nat → ClassId) : List (ClassId × FieldType) := [(K 0, .int), (K 1, .long), (K 2, .boolean), (K 3, .object RX2), (K 4, .object RX0), (K 5, .object RX3), (K 6, .array .long), (K 7, .array .int)]
theorem g_mem {L : List Nat} {f : Nat → va_E} {k : Nat} {q : Nat × va_E} (h : (va_pl L f)[k]? = some q) : L[k]? = some q.1 ∧ q.2 = f q.1 := by
  unfold va_pl at h
  rw [List.getElem?_map] at h
  cases hk : L[k]? with
  | none => rw [hk] at h; cases h
  | some a => rw [hk] at h; cases h; exact ⟨rfl, rfl⟩
/-- no address twice -/
def gN (L : List Nat) : Prop := ∀ i j a : Nat, L[i]? = some a → L[j]? = some a → i = j
theorem g_D {A : Nat → Prop} {L : List Nat} (hn : gN L) (hA : ∀ a ∈ L, A a) (f : Nat → va_E) : va_D A (va_pl L f) :=
  ⟨fun i j x y hi hj hxy => hn i j y.1 (by rw [← hxy]; exact (g_mem hi).1) (g_mem hj).1, fun k q hk => hA _ (List.mem_of_getElem? (g_mem hk).1)⟩
theorem g_at {L : List Nat} {f : Nat → va_E} {a : Nat} (h : a ∈ L) {e : va_E} (he : f a = e) : ∃ k : Nat, (va_pl L f)[k]? = some (a, e) := by
  obtain ⟨k, hk⟩ := va_pl_get (X := []) (f := f) h
  rw [List.nil_append, he] at hk
  exact ⟨k, hk⟩
theorem g_set {A : Nat → Prop} {L : List Nat} {f : Nat → va_E} {a k : Nat} {e e' : va_E} (hD : va_D A (va_pl L f)) (h : a ∈ L) (he : f a = e) (hk : (va_pl L f)[k]? = some (a, e)) : (va_pl L f).set k (a, e') = va_pl L (va_up f a e') := by
  have := va_pl_set (X := []) (e := e') (A := A) (by rw [List.nil_append]; exact hD) h (by rw [List.nil_append, he]; exact hk)
  rw [List.nil_append, List.nil_append] at this
  exact this
section GK
variable {p : Program} {l : Launch} {e : Env} {R : Room} {s : State} {m : MethodId} {args : Array Value} {below : List Frame} {meth : Method} {c : Code} {H : Heap} {locs : List Loc} {cells slots : Nat} {Q : State → Prop}
variable {cc : ByteArray} {pc : Nat} {ls : Array Slot} {rest : List Value} {D : va_G} {A : Nat → Prop} {a : Nat} {K : Nat → ClassId} {L : List Nat} {f : Nat → va_E} {H0 : Heap}
theorem g_get (hexec : p.tables.exec = Jvm.exec) (hb : c.code = cc) {own C : String} {T : u_T} {N ci index : Nat} (hts : ∀ w ∈ lw_B, w.before args s = true) (hin : ∀ w ∈ u_ws C T N, w ∈ lw_B) (hown : s.vm.findClass own = some m.cls) (hK : va_K D vwCl (tyK K) s) (hP : va_P D vwCl (va_pl L f) H) (ha : a ∈ L) {fs : List Value} (he : f a = .inr (ci, fs)) (hc : vwCl[ci]? = some (C, T, N)) (k : Nat) (hk : k < N) (hlink : Cond.fieldLink own index (T k).1 (T k).2.1 (T k).2.2.1 ∈ lw_B) {v : Value} (hv : fs[k]? = some v) (hdg : decode cc pc = .ok (.getfield index, 3))
    (kk : W p l e R s m args below meth c H locs cells slots Q (F0 m (pc + 3) ls (v :: rest))) : W p l e R s m args below meth c H locs cells slots Q (F0 m pc ls (.ref a :: rest)) := by
  obtain ⟨q0, hq⟩ := g_at ha he
  exact va_get hexec hb hts hin hown hK hP q0 hq hc k hk (hts _ hlink) (fun _ h9 => h9) hv hdg kk
theorem g_put (hexec : p.tables.exec = Jvm.exec) (hb : c.code = cc) {own C : String} {T : u_T} {N ci index : Nat} (hts : ∀ w ∈ lw_B, w.before args s = true) (hin : ∀ w ∈ u_ws C T N, w ∈ lw_B) (ty0 : Nat → FieldType) (hty : ∀ k, k < N → parseFieldDescriptor (T k).2.2.1 = some (ty0 k)) (hnm : ∀ a, a < N → ∀ b, b < N → a ≠ b → (T a).2.1 ≠ (T b).2.1) (hown : s.vm.findClass own = some m.cls) (hK : va_K D vwCl (tyK K) s) (hP : va_P D vwCl (va_pl L f) H) (hD : va_D A (va_pl L f)) (hS : va_S A H0 H locs) (ha : a ∈ L) {fs : List Value} (he : f a = .inr (ci, fs)) (hc : vwCl[ci]? = some (C, T, N)) (k : Nat) (hk : k < N) (hlink : Cond.fieldLink own index (T k).1 (T k).2.1 (T k).2.2.1 ∈ lw_B) (hfin : (T k).2.2.2 = false) {ty : FieldType} {v : Value} (hd : parseFieldDescriptor (T k).2.2.1 = some ty) (hn : narrow ty v = v) (hfit : fits ty v = true) (hl : k < fs.length)
    (hdg : decode cc pc = .ok (.putfield index, 3)) (kk : ∀ (H1 : Heap) (locs1 : List Loc), va_P D vwCl (va_pl L (va_up f a (.inr (ci, fs.set k v)))) H1 → va_D A (va_pl L (va_up f a (.inr (ci, fs.set k v)))) → va_S A H0 H1 locs1 → W p l e R s m args below meth c H1 locs1 cells slots Q (F0 m (pc + 3) ls rest)) : W p l e R s m args below meth c H locs cells slots Q (F0 m pc ls (v :: .ref a :: rest)) := by
  obtain ⟨q0, hq⟩ := g_at ha he
  refine va_put hexec hb hts hin ty0 hty hnm hown hK hP hD hS q0 hq hc k hk (hts _ hlink) (fun _ h9 => h9) hfin hd hn hfit hl hdg (fun H1 locs1 h1 h2 h3 => ?_)
  rw [g_set hD ha he hq] at h1 h2
  exact kk H1 locs1 h1 h2 h3
theorem g_iald (hexec : p.tables.exec = Jvm.exec) (hb : c.code = cc) (hK : va_K D vwCl (tyK K) s) (hP : va_P D vwCl (va_pl L f) H) (ha : a ∈ L) {n : Nat} {g : Nat → Int32} (he : f a = .inl (K 0, n, .inl g)) {i : Int32} (hin : vp_in i n) (hdg : decode cc pc = .ok (.iaload, 1))
    (kk : W p l e R s m args below meth c H locs cells slots Q (F0 m (pc + 1) ls (.int (g i.toNatClampNeg) :: rest))) : W p l e R s m args below meth c H locs cells slots Q (F0 m pc ls (.int i :: .ref a :: rest)) := by
  obtain ⟨q0, hq⟩ := g_at ha he
  exact va_iald hexec hb hK hP q0 0 hq rfl hin hdg kk
theorem g_iast (hexec : p.tables.exec = Jvm.exec) (hb : c.code = cc) (hK : va_K D vwCl (tyK K) s) (hP : va_P D vwCl (va_pl L f) H) (hD : va_D A (va_pl L f)) (hS : va_S A H0 H locs) (ha : a ∈ L) {n : Nat} {g : Nat → Int32} (he : f a = .inl (K 0, n, .inl g)) {i x : Int32} (hin : vp_in i n) (hdg : decode cc pc = .ok (.iastore, 1))
    (kk : ∀ (H1 : Heap) (locs1 : List Loc), va_P D vwCl (va_pl L (va_up f a (.inl (K 0, n, .inl (upd g i.toNatClampNeg x))))) H1 → va_D A (va_pl L (va_up f a (.inl (K 0, n, .inl (upd g i.toNatClampNeg x))))) → va_S A H0 H1 locs1 → W p l e R s m args below meth c H1 locs1 cells slots Q (F0 m (pc + 1) ls rest)) : W p l e R s m args below meth c H locs cells slots Q (F0 m pc ls (.int x :: .int i :: .ref a :: rest)) := by
  obtain ⟨q0, hq⟩ := g_at ha he
  refine va_iast hexec hb hK hP hD hS q0 0 hq rfl hin hdg (fun H1 locs1 h1 h2 h3 => ?_)
  rw [g_set hD ha he hq] at h1 h2
  exact kk H1 locs1 h1 h2 h3
theorem g_zald (hexec : p.tables.exec = Jvm.exec) (hb : c.code = cc) (hK : va_K D vwCl (tyK K) s) (hP : va_P D vwCl (va_pl L f) H) (ha : a ∈ L) {n : Nat} {g : Nat → Int32} (he : f a = .inl (K 2, n, .inl g)) {i : Int32} (hin : vp_in i n) (hdg : decode cc pc = .ok (.baload, 1))
    (kk : W p l e R s m args below meth c H locs cells slots Q (F0 m (pc + 1) ls (.int (g i.toNatClampNeg) :: rest))) : W p l e R s m args below meth c H locs cells slots Q (F0 m pc ls (.int i :: .ref a :: rest)) := by
  obtain ⟨q0, hq⟩ := g_at ha he
  exact va_zald hexec hb hK hP q0 2 hq rfl hin hdg kk
theorem g_zast (hexec : p.tables.exec = Jvm.exec) (hb : c.code = cc) (hK : va_K D vwCl (tyK K) s) (hP : va_P D vwCl (va_pl L f) H) (hD : va_D A (va_pl L f)) (hS : va_S A H0 H locs) (ha : a ∈ L) {n : Nat} {g : Nat → Int32} (he : f a = .inl (K 2, n, .inl g)) {i x : Int32} (hin : vp_in i n) (hdg : decode cc pc = .ok (.bastore, 1))
    (kk : ∀ (H1 : Heap) (locs1 : List Loc), va_P D vwCl (va_pl L (va_up f a (.inl (K 2, n, .inl (upd g i.toNatClampNeg (vp_nar .boolean x)))))) H1 → va_D A (va_pl L (va_up f a (.inl (K 2, n, .inl (upd g i.toNatClampNeg (vp_nar .boolean x)))))) → va_S A H0 H1 locs1 → W p l e R s m args below meth c H1 locs1 cells slots Q (F0 m (pc + 1) ls rest)) : W p l e R s m args below meth c H locs cells slots Q (F0 m pc ls (.int x :: .int i :: .ref a :: rest)) := by
  obtain ⟨q0, hq⟩ := g_at ha he
  refine va_zast hexec hb hK hP hD hS q0 2 hq rfl hin hdg (fun H1 locs1 h1 h2 h3 => ?_)
  rw [g_set hD ha he hq] at h1 h2
  exact kk H1 locs1 h1 h2 h3
theorem g_lald (hexec : p.tables.exec = Jvm.exec) (hb : c.code = cc) (hK : va_K D vwCl (tyK K) s) (hP : va_P D vwCl (va_pl L f) H) (ha : a ∈ L) {n : Nat} {g : Nat → Int64} (he : f a = .inl (K 1, n, .inr (.inl g))) {i : Int32} (hin : vp_in i n) (hdg : decode cc pc = .ok (.laload, 1))
    (kk : W p l e R s m args below meth c H locs cells slots Q (F0 m (pc + 1) ls (.long (g i.toNatClampNeg) :: rest))) : W p l e R s m args below meth c H locs cells slots Q (F0 m pc ls (.int i :: .ref a :: rest)) := by
  obtain ⟨q0, hq⟩ := g_at ha he
  exact va_lald hexec hb hK hP q0 1 hq rfl hin hdg kk
theorem g_last (hexec : p.tables.exec = Jvm.exec) (hb : c.code = cc) (hK : va_K D vwCl (tyK K) s) (hP : va_P D vwCl (va_pl L f) H) (hD : va_D A (va_pl L f)) (hS : va_S A H0 H locs) (ha : a ∈ L) {n : Nat} {g : Nat → Int64} (he : f a = .inl (K 1, n, .inr (.inl g))) {i : Int32} {x : Int64} (hin : vp_in i n) (hdg : decode cc pc = .ok (.lastore, 1))
    (kk : ∀ (H1 : Heap) (locs1 : List Loc), va_P D vwCl (va_pl L (va_up f a (.inl (K 1, n, .inr (.inl (vp_updL g i.toNatClampNeg x)))))) H1 → va_D A (va_pl L (va_up f a (.inl (K 1, n, .inr (.inl (vp_updL g i.toNatClampNeg x)))))) → va_S A H0 H1 locs1 → W p l e R s m args below meth c H1 locs1 cells slots Q (F0 m (pc + 1) ls rest)) : W p l e R s m args below meth c H locs cells slots Q (F0 m pc ls (.long x :: .int i :: .ref a :: rest)) := by
  obtain ⟨q0, hq⟩ := g_at ha he
  refine va_last hexec hb hK hP hD hS q0 1 hq rfl hin hdg (fun H1 locs1 h1 h2 h3 => ?_)
  rw [g_set hD ha he hq] at h1 h2
  exact kk H1 locs1 h1 h2 h3
end GK
/-- a method that changes nothing, over the whole map -/
abbrev gR (l : Launch) (y : MethodName) (bytes : ByteArray) (maxL : Nat) (ret : FieldType) (d : Nat) (D : va_G) (K : Nat → ClassId) (L : List Nat) (f : Nat → va_E) (As : List Value) (post : Int32 → Prop) : Prop := mV l y bytes maxL ret d D (va_pl L f) (tyK K) As post
abbrev gRl (l : Launch) (y : MethodName) (bytes : ByteArray) (maxL : Nat) (ret : FieldType) (d : Nat) (D : va_G) (K : Nat → ClassId) (L : List Nat) (f : Nat → va_E) (As : List Value) (post : Int64 → Prop) : Prop := mVl l y bytes maxL ret d D (va_pl L f) (tyK K) As post
/-- a void method that makes nothing new: the map becomes f' -/
abbrev gMv (l : Launch) (y : MethodName) (bytes : ByteArray) (maxL : Nat) (d : Nat) (D : va_G) (K : Nat → ClassId) (L : List Nat) (f : Nat → va_E) (As : List Value) (post : (Nat → va_E) → Prop) : Prop :=
  Met l y (Cond.code y bytes maxL none :: lw_B) (rmD d 0 0) (va_Pc As (fun U => va_P D vwCl (va_pl L f) U.heap ∧ va_K D vwCl (tyK K) U)) (va_Qv (fun f' : Nat → va_E => post f') (fun f' U => va_P D vwCl (va_pl L f') U.heap) (fun q => q ∈ L)) 0 0 (fun q => q ∈ L)
abbrev gMi (l : Launch) (y : MethodName) (bytes : ByteArray) (maxL : Nat) (d : Nat) (D : va_G) (K : Nat → ClassId) (L : List Nat) (f : Nat → va_E) (As : List Value) (post : Int32 → (Nat → va_E) → Prop) : Prop :=
  Met l y (Cond.code y bytes maxL (some .int) :: lw_B) (rmD d 0 0) (va_Pc As (fun U => va_P D vwCl (va_pl L f) U.heap ∧ va_K D vwCl (tyK K) U)) (va_Qi (fun r (f' : Nat → va_E) => post r f') (fun f' U => va_P D vwCl (va_pl L f') U.heap) (fun q => q ∈ L)) 0 0 (fun q => q ∈ L)
abbrev gMl (l : Launch) (y : MethodName) (bytes : ByteArray) (maxL : Nat) (d : Nat) (D : va_G) (K : Nat → ClassId) (L : List Nat) (f : Nat → va_E) (As : List Value) (post : Int64 → (Nat → va_E) → Prop) : Prop :=
  Met l y (Cond.code y bytes maxL (some .long) :: lw_B) (rmD d 0 0) (va_Pc As (fun U => va_P D vwCl (va_pl L f) U.heap ∧ va_K D vwCl (tyK K) U)) (va_Ql (fun r (f' : Nat → va_E) => post r f') (fun f' U => va_P D vwCl (va_pl L f') U.heap) (fun q => q ∈ L)) 0 0 (fun q => q ∈ L)
section GC
variable {p : Program} {l : Launch} {e : Env} {R : Room} {s : State} {m : MethodId} {args : Array Value} {below : List Frame} {meth : Method} {c : Code} {H : Heap} {locs : List Loc} {cells slots : Nat} {Q : State → Prop}
variable {A0 : Nat → Prop} {H0 : Heap} {D : va_G} {K : Nat → ClassId} {L : List Nat} {f : Nat → va_E} {pc : Nat} {ls : Array Slot} {st0 rest : List Value} {y : MethodName} {bytes cc : ByteArray} {maxL nL index d n : Nat} {own : String} {As : List Value}
/-- a call of a method that changes nothing -/
theorem gc_R {ret : FieldType} {post : Int32 → Prop} {b ci : Nat} {fs : List Value} {q : vw_C} (S : CallFix p m c cc nL s args lw_B own) (hM : gR l y bytes maxL ret d D K L f (.ref b :: As) post) (n : Nat) (w1 : Cond.methodLink own index y ∈ lw_B) (w2 : Cond.instanceMethod y ∈ lw_B) (w3 : Cond.selects q.1 y y ∈ lw_B) (w4 : Cond.initialized q.1 ∈ lw_B) (w5 : Cond.code y bytes maxL (some ret) ∈ lw_B)
    (hd : y.cls = q.1 ∧ y.cls ≠ "java/lang/invoke/MethodHandle" ∧ y.cls ≠ "java/lang/invoke/VarHandle" ∧ (parseMethodDescriptor y.desc).map (fun d => d.parameters.length) = some n) (hR : d + 1 ≤ R.frames ∧ 8 + (maxL + 11) + 40 * d ≤ R.locals)
    (hK : va_K D vwCl (tyK K) s) (hc : vwCl[ci]? = some q) (hbL : b ∈ L) (hbf : f b = .inr (ci, fs))
    (hn : As.length = n) (hls : ls.size = nL) (hst : st0 = As.reverse ++ .ref b :: rest) (hW : (rest.map fun v => v.category).sum ≤ 8) (hdg : decode cc pc = .ok (.invokevirtual index, 3)) (hf : cells + 0 ≤ R.cells ∧ slots + 0 ≤ R.slots)
    (hS : va_S A0 H0 H locs) (hP : va_P D vwCl (va_pl L f) H)
    (kk : ∀ (r : Int32) (H1 : Heap) (locs1 : List Loc), post r → va_P D vwCl (va_pl L f) H1 → va_S A0 H0 H1 locs1 → W p l e R s m args below meth c H1 locs1 cells slots Q (F0 m (pc + 3) ls (.int r :: rest))) : W p l e R s m args below meth c H locs cells slots Q (F0 m pc ls st0) := by
  obtain ⟨k, hk⟩ := g_at hbL hbf
  exact k_V S hM n w1 w2 w3 w4 w5 hd hR hP hK hc hk hn hls hst hW hdg hf hS hP kk
theorem gc_Rl {ret : FieldType} {post : Int64 → Prop} {b ci : Nat} {fs : List Value} {q : vw_C} (S : CallFix p m c cc nL s args lw_B own) (hM : gRl l y bytes maxL ret d D K L f (.ref b :: As) post) (n : Nat) (w1 : Cond.methodLink own index y ∈ lw_B) (w2 : Cond.instanceMethod y ∈ lw_B) (w3 : Cond.selects q.1 y y ∈ lw_B) (w4 : Cond.initialized q.1 ∈ lw_B) (w5 : Cond.code y bytes maxL (some ret) ∈ lw_B)
    (hd : y.cls = q.1 ∧ y.cls ≠ "java/lang/invoke/MethodHandle" ∧ y.cls ≠ "java/lang/invoke/VarHandle" ∧ (parseMethodDescriptor y.desc).map (fun d => d.parameters.length) = some n) (hR : d + 1 ≤ R.frames ∧ 8 + (maxL + 11) + 40 * d ≤ R.locals)
    (hK : va_K D vwCl (tyK K) s) (hc : vwCl[ci]? = some q) (hbL : b ∈ L) (hbf : f b = .inr (ci, fs))
    (hn : As.length = n) (hls : ls.size = nL) (hst : st0 = As.reverse ++ .ref b :: rest) (hW : (rest.map fun v => v.category).sum ≤ 8) (hdg : decode cc pc = .ok (.invokevirtual index, 3)) (hf : cells + 0 ≤ R.cells ∧ slots + 0 ≤ R.slots)
    (hS : va_S A0 H0 H locs) (hP : va_P D vwCl (va_pl L f) H)
    (kk : ∀ (r : Int64) (H1 : Heap) (locs1 : List Loc), post r → va_P D vwCl (va_pl L f) H1 → va_S A0 H0 H1 locs1 → W p l e R s m args below meth c H1 locs1 cells slots Q (F0 m (pc + 3) ls (.long r :: rest))) : W p l e R s m args below meth c H locs cells slots Q (F0 m pc ls st0) := by
  obtain ⟨k, hk⟩ := g_at hbL hbf
  exact k_Vl S hM n w1 w2 w3 w4 w5 hd hR hP hK hc hk hn hls hst hW hdg hf hS hP kk
theorem gc_Mv {post : (Nat → va_E) → Prop} {b ci : Nat} {fs : List Value} {q : vw_C} (S : CallFix p m c cc nL s args lw_B own) (hM : gMv l y bytes maxL d D K L f (.ref b :: As) post) (n : Nat) (w1 : Cond.methodLink own index y ∈ lw_B) (w2 : Cond.instanceMethod y ∈ lw_B) (w3 : Cond.selects q.1 y y ∈ lw_B) (w4 : Cond.initialized q.1 ∈ lw_B) (w5 : Cond.code y bytes maxL none ∈ lw_B)
    (hd : y.cls = q.1 ∧ y.cls ≠ "java/lang/invoke/MethodHandle" ∧ y.cls ≠ "java/lang/invoke/VarHandle" ∧ (parseMethodDescriptor y.desc).map (fun d => d.parameters.length) = some n) (hR : d + 1 ≤ R.frames ∧ 8 + (maxL + 11) + 40 * d ≤ R.locals)
    (hK : va_K D vwCl (tyK K) s) (hc : vwCl[ci]? = some q) (hbL : b ∈ L) (hbf : f b = .inr (ci, fs))
    (hn : As.length = n) (hls : ls.size = nL) (hst : st0 = As.reverse ++ .ref b :: rest) (hW : (rest.map fun v => v.category).sum ≤ 8) (hdg : decode cc pc = .ok (.invokevirtual index, 3)) (hf : cells + 0 ≤ R.cells ∧ slots + 0 ≤ R.slots)
    (hLA : ∀ a ∈ L, A0 a) (hS : va_S A0 H0 H locs) (hP : va_P D vwCl (va_pl L f) H)
    (kk : ∀ (f' : Nat → va_E) (H1 : Heap) (locs1 : List Loc), post f' → va_P D vwCl (va_pl L f') H1 → va_S A0 H0 H1 locs1 → W p l e R s m args below meth c H1 locs1 cells slots Q (F0 m (pc + 3) ls rest)) : W p l e R s m args below meth c H locs cells slots Q (F0 m pc ls st0) := by
  obtain ⟨k, hk⟩ := g_at hbL hbf
  refine va_callv (va_runV (As := As) (rest := rest) S hM (cwV n S.2.2.2.2 (lb_V w1 w2 w3 w4 w5) rfl rfl rfl hd hR) ⟨fun a U g mk q => ⟨q.1, q.2.1, va_K.moved (u := U) (U := U.calling g mk a) (Vm.Alike.refl U.vm) q.2.2⟩, va_recv hK hP hc hk, fun U hU hW => ⟨rfl, by rw [hU]; exact hP, va_K.moved hW.alike hK⟩⟩ rfl hn hls hst (lv_room hW) hdg hf) hS (fun q _ h => hLA q h) (fun q h => hLA q h) (fun f' t H1 locs1 ht _ hp hB _ _ hS1 => ?_)
  rw [ht] at hB
  exact kk f' H1 locs1 hp hB hS1
theorem gc_Mi {post : Int32 → (Nat → va_E) → Prop} {b ci : Nat} {fs : List Value} {q : vw_C} (S : CallFix p m c cc nL s args lw_B own) (hM : gMi l y bytes maxL d D K L f (.ref b :: As) post) (n : Nat) (w1 : Cond.methodLink own index y ∈ lw_B) (w2 : Cond.instanceMethod y ∈ lw_B) (w3 : Cond.selects q.1 y y ∈ lw_B) (w4 : Cond.initialized q.1 ∈ lw_B) (w5 : Cond.code y bytes maxL (some .int) ∈ lw_B)
    (hd : y.cls = q.1 ∧ y.cls ≠ "java/lang/invoke/MethodHandle" ∧ y.cls ≠ "java/lang/invoke/VarHandle" ∧ (parseMethodDescriptor y.desc).map (fun d => d.parameters.length) = some n) (hR : d + 1 ≤ R.frames ∧ 8 + (maxL + 11) + 40 * d ≤ R.locals)
    (hK : va_K D vwCl (tyK K) s) (hc : vwCl[ci]? = some q) (hbL : b ∈ L) (hbf : f b = .inr (ci, fs))
    (hn : As.length = n) (hls : ls.size = nL) (hst : st0 = As.reverse ++ .ref b :: rest) (hW : (rest.map fun v => v.category).sum ≤ 8) (hdg : decode cc pc = .ok (.invokevirtual index, 3)) (hf : cells + 0 ≤ R.cells ∧ slots + 0 ≤ R.slots)
    (hLA : ∀ a ∈ L, A0 a) (hS : va_S A0 H0 H locs) (hP : va_P D vwCl (va_pl L f) H)
    (kk : ∀ (r : Int32) (f' : Nat → va_E) (H1 : Heap) (locs1 : List Loc), post r f' → va_P D vwCl (va_pl L f') H1 → va_S A0 H0 H1 locs1 → W p l e R s m args below meth c H1 locs1 cells slots Q (F0 m (pc + 3) ls (.int r :: rest))) : W p l e R s m args below meth c H locs cells slots Q (F0 m pc ls st0) := by
  obtain ⟨k, hk⟩ := g_at hbL hbf
  refine va_calli (va_runV (As := As) (rest := rest) S hM (cwV n S.2.2.2.2 (lb_V w1 w2 w3 w4 w5) rfl rfl rfl hd hR) ⟨fun a U g mk q => ⟨q.1, q.2.1, va_K.moved (u := U) (U := U.calling g mk a) (Vm.Alike.refl U.vm) q.2.2⟩, va_recv hK hP hc hk, fun U hU hW => ⟨rfl, by rw [hU]; exact hP, va_K.moved hW.alike hK⟩⟩ rfl hn hls hst (lv_room hW) hdg hf) hS (fun q _ h => hLA q h) (fun q h => hLA q h) (fun r f' t H1 locs1 ht _ hp hB _ _ hS1 => ?_)
  rw [ht] at hB
  exact kk r f' H1 locs1 hp hB hS1
theorem gc_Ml {post : Int64 → (Nat → va_E) → Prop} {b ci : Nat} {fs : List Value} {q : vw_C} (S : CallFix p m c cc nL s args lw_B own) (hM : gMl l y bytes maxL d D K L f (.ref b :: As) post) (n : Nat) (w1 : Cond.methodLink own index y ∈ lw_B) (w2 : Cond.instanceMethod y ∈ lw_B) (w3 : Cond.selects q.1 y y ∈ lw_B) (w4 : Cond.initialized q.1 ∈ lw_B) (w5 : Cond.code y bytes maxL (some .long) ∈ lw_B)
    (hd : y.cls = q.1 ∧ y.cls ≠ "java/lang/invoke/MethodHandle" ∧ y.cls ≠ "java/lang/invoke/VarHandle" ∧ (parseMethodDescriptor y.desc).map (fun d => d.parameters.length) = some n) (hR : d + 1 ≤ R.frames ∧ 8 + (maxL + 11) + 40 * d ≤ R.locals)
    (hK : va_K D vwCl (tyK K) s) (hc : vwCl[ci]? = some q) (hbL : b ∈ L) (hbf : f b = .inr (ci, fs))
    (hn : As.length = n) (hls : ls.size = nL) (hst : st0 = As.reverse ++ .ref b :: rest) (hW : (rest.map fun v => v.category).sum ≤ 8) (hdg : decode cc pc = .ok (.invokevirtual index, 3)) (hf : cells + 0 ≤ R.cells ∧ slots + 0 ≤ R.slots)
    (hLA : ∀ a ∈ L, A0 a) (hS : va_S A0 H0 H locs) (hP : va_P D vwCl (va_pl L f) H)
    (kk : ∀ (r : Int64) (f' : Nat → va_E) (H1 : Heap) (locs1 : List Loc), post r f' → va_P D vwCl (va_pl L f') H1 → va_S A0 H0 H1 locs1 → W p l e R s m args below meth c H1 locs1 cells slots Q (F0 m (pc + 3) ls (.long r :: rest))) : W p l e R s m args below meth c H locs cells slots Q (F0 m pc ls st0) := by
  obtain ⟨k, hk⟩ := g_at hbL hbf
  refine va_calll (va_runV (As := As) (rest := rest) S hM (cwV n S.2.2.2.2 (lb_V w1 w2 w3 w4 w5) rfl rfl rfl hd hR) ⟨fun a U g mk q => ⟨q.1, q.2.1, va_K.moved (u := U) (U := U.calling g mk a) (Vm.Alike.refl U.vm) q.2.2⟩, va_recv hK hP hc hk, fun U hU hW => ⟨rfl, by rw [hU]; exact hP, va_K.moved hW.alike hK⟩⟩ rfl hn hls hst (lv_room hW) hdg hf) hS (fun q _ h => hLA q h) (fun q h => hLA q h) (fun r f' t H1 locs1 ht _ hp hB _ _ hS1 => ?_)
  rw [ht] at hB
  exact kk r f' H1 locs1 hp hB hS1
end GC
section GJ
variable {p : Program} {l : Launch} {e : Env} {R : Room} {s : State} {m : MethodId} {args : Array Value} {below : List Frame} {meth : Method} {c : Code} {cells slots : Nat} {Q : State → Prop} {pc pcj : Nat} {H0 : Heap} {locs0 : List Loc} {ls0 : Array Slot} {st : List Value}
/-- ways that come together at pcj -/
theorem k_jn (I : Heap → List Loc → Array Slot → Prop) (J : ∀ (H : Heap) (locs : List Loc) (ls : Array Slot), I H locs ls → W p l e R s m args below meth c H locs cells slots Q (F0 m pcj ls []))
    (k : (∀ (H : Heap) (locs : List Loc) (ls : Array Slot), I H locs ls → W p l e R s m args below meth c H locs cells slots Q (F0 m pcj ls [])) → W p l e R s m args below meth c H0 locs0 cells slots Q (F0 m pc ls0 st)) : W p l e R s m args below meth c H0 locs0 cells slots Q (F0 m pc ls0 st) := k J
end GJ
theorem g_upself {f : Nat → va_E} {a : Nat} {e : va_E} (h : f a = e) : f = va_up f a e := funext (fun j => by by_cases q : j = a; rw [q, va_up_self]; exact h; rw [va_up_ne _ _ q])
