/-- what a method of one object may change: the object, and what is new -/
abbrev aO (b sz : Nat) : Nat → Prop := fun q => q = b ∨ sz ≤ q
/-- void methods that change nothing -/
abbrev qRv : Array Value → State → Outcome → State → Prop := va_Qv (fun (_ : Unit) => True) (fun _ _ => True) (fun _ => False)
abbrev mVv (l : Launch) (y : MethodName) (bytes : ByteArray) (maxL : Nat) (d : Nat) (D : va_G) (wc : va_W) (tc : List (ClassId × FieldType)) (As : List Value) : Prop :=
  Met l y (Cond.code y bytes maxL none :: lw_B) (rmD d 0 0) (va_Pc As (fun U => va_P D vwCl wc U.heap ∧ va_K D vwCl tc U)) qRv 0 0 (fun _ => False)
/-- void methods of one object: its fields change to fs' -/
abbrev mOv (l : Launch) (y : MethodName) (bytes : ByteArray) (maxL : Nat) (d mc ms : Nat) (D : va_G) (b ci : Nat) (fs : List Value) (sz : Nat) (tc : List (ClassId × FieldType)) (ex : State → Prop) (As : List Value) (post : List Value → Prop) : Prop :=
  Met l y (Cond.code y bytes maxL none :: lw_B) (rmD d mc ms) (va_Pc As (fun U => U.heap.size = sz ∧ va_P D vwCl [(b, .inr (ci, fs))] U.heap ∧ va_K D vwCl tc U ∧ ex U)) (va_Qv (fun fs' : List Value => post fs') (fun fs' U => va_P D vwCl [(b, .inr (ci, fs'))] U.heap) (aO b sz)) mc ms (aO b sz)
/-- methods of several cells of which only the answer is told -/
abbrev mFi (l : Launch) (y : MethodName) (bytes : ByteArray) (maxL : Nat) (d mc ms : Nat) (D : va_G) (wc : va_W) (sz : Nat) (tc : List (ClassId × FieldType)) (ex : State → Prop) (As : List Value) (post : Int32 → Prop) : Prop :=
  Met l y (Cond.code y bytes maxL (some .int) :: lw_B) (rmD d mc ms) (va_Pc As (fun U => U.heap.size = sz ∧ va_P D vwCl wc U.heap ∧ va_K D vwCl tc U ∧ va_D (fun _ => True) wc ∧ ex U)) (va_Qi (fun r (_ : Unit) => post r) (fun _ _ => True) (va_A wc sz)) mc ms (va_A wc sz)
/-- what is passed down of the tables beside the words: blind of the frame, and it stays -/
def exOk (s : State) (ex : State → Prop) : Prop := (∀ (a : Array Value) (U : State) (g : JFrame) (mk : MethodId), ex U → ex (U.calling g mk a)) ∧ ∀ U : State, s.WarmedH U.vm → ex U
theorem exT {s : State} : exOk s (fun _ => True) := ⟨fun _ _ _ _ _ => trivial, fun _ _ => trivial⟩
section KO
variable {p : Program} {l : Launch} {e : Env} {R : Room} {s : State} {m : MethodId} {args : Array Value} {below : List Frame} {meth : Method} {c : Code} {H : Heap} {locs : List Loc} {cells slots : Nat} {Q : State → Prop}
variable {A0 : Nat → Prop} {H0 : Heap} {D : va_G} {ws : va_W} {pc : Nat} {ls : Array Slot} {st0 rest : List Value} {y : MethodName} {bytes cc : ByteArray} {maxL nL index d n mc ms : Nat} {own : String} {As : List Value}
theorem k_set {b q0 ci : Nat} {fs fs' : List Value} {H1 : Heap} (he : ws[q0]? = some (b, .inr (ci, fs))) (hP : va_P D vwCl ws H) (hD : va_D A0 ws) (hB : va_P D vwCl [(b, .inr (ci, fs'))] H1) (hk : ∀ q : Nat, q < H.size → ¬ aO b H.size q → H1[q]? = H[q]?) : va_P D vwCl (ws.set q0 (b, .inr (ci, fs'))) H1 := by
  have hl := (List.getElem?_eq_some_iff.mp he).1
  intro k q hkq
  by_cases hkp : k = q0
  · subst hkp
    rw [List.getElem?_set_self hl] at hkq
    cases hkq
    exact hB 0 _ rfl
  · rw [List.getElem?_set_ne (Ne.symm hkp)] at hkq
    have hlt := (hP k q hkq).lt
    exact (hP k q hkq).kept (hk q.1 hlt (fun h => h.elim (fun h => hkp (hD.1 k q0 q _ hkq he h)) (fun h => by omega)))
theorem k_Oc {b q0 ci : Nat} {fs : List Value} {post : List Value → Prop} {a : Array Value} (he : ws[q0]? = some (b, .inr (ci, fs))) (hP : va_P D vwCl ws H) (hD : va_D A0 ws) (hS : va_S A0 H0 H locs) (hA : ∀ q, H0.size ≤ q → A0 q)
    (hr : va_Run p l e R s m args below meth c H locs cells slots mc ms (F0 m pc ls st0) rest (va_Qv (fun fs' : List Value => post fs') (fun fs' U => va_P D vwCl [(b, .inr (ci, fs'))] U.heap) (aO b H.size) a) (aO b H.size))
    (kk : ∀ (fs' : List Value) (H1 : Heap) (locs1 : List Loc), post fs' → va_P D vwCl (ws.set q0 (b, .inr (ci, fs'))) H1 → va_D A0 (ws.set q0 (b, .inr (ci, fs'))) → va_S A0 H0 H1 locs1 → W p l e R s m args below meth c H1 locs1 (cells + mc) (slots + ms) Q (F0 m (pc + 3) ls rest)) : W p l e R s m args below meth c H locs cells slots Q (F0 m pc ls st0) := by
  have hF : ∀ q, aO b H.size q → A0 q := fun q h => h.elim (fun h => by rw [h]; exact hD.2 q0 _ he) (fun h => hA q (Nat.le_trans hS.1 h))
  refine va_callv hr hS (fun q _ h => hF q h) hF (fun fs' t H1 locs1 ht _ hp hB _ hk hS1 => ?_)
  rw [ht] at hB
  exact kk fs' H1 locs1 hp (k_set he hP hD hB hk) (hD.set he) hS1
/-- a call of a void method of one object -/
theorem k_Ov {b q0 ci : Nat} {fs : List Value} {q : vw_C} {tc : List (ClassId × FieldType)} {ex : State → Prop} {post : List Value → Prop} (S : CallFix p m c cc nL s args lw_B own) (hM : mOv l y bytes maxL d mc ms D b ci fs H.size tc ex (.ref b :: As) post) (n : Nat) (w1 : Cond.methodLink own index y ∈ lw_B) (w2 : Cond.instanceMethod y ∈ lw_B) (w3 : Cond.selects q.1 y y ∈ lw_B) (w4 : Cond.initialized q.1 ∈ lw_B) (w5 : Cond.code y bytes maxL none ∈ lw_B)
    (hd : y.cls = q.1 ∧ y.cls ≠ "java/lang/invoke/MethodHandle" ∧ y.cls ≠ "java/lang/invoke/VarHandle" ∧ (parseMethodDescriptor y.desc).map (fun d => d.parameters.length) = some n) (hR : d + 1 ≤ R.frames ∧ 8 + (maxL + 11) + 40 * d ≤ R.locals)
    (hKc : va_K D vwCl tc s) (hex : exOk s ex) (hc : vwCl[ci]? = some q) (he : ws[q0]? = some (b, .inr (ci, fs)))
    (hn : As.length = n) (hls : ls.size = nL) (hst : st0 = As.reverse ++ .ref b :: rest) (hW : (rest.map fun v => v.category).sum ≤ 8) (hdg : decode cc pc = .ok (.invokevirtual index, 3)) (hf : cells + mc ≤ R.cells ∧ slots + ms ≤ R.slots)
    (hP : va_P D vwCl ws H) (hD : va_D A0 ws) (hS : va_S A0 H0 H locs) (hA : ∀ q, H0.size ≤ q → A0 q)
    (kk : ∀ (fs' : List Value) (H1 : Heap) (locs1 : List Loc), post fs' → va_P D vwCl (ws.set q0 (b, .inr (ci, fs'))) H1 → va_D A0 (ws.set q0 (b, .inr (ci, fs'))) → va_S A0 H0 H1 locs1 → W p l e R s m args below meth c H1 locs1 (cells + mc) (slots + ms) Q (F0 m (pc + 3) ls rest)) : W p l e R s m args below meth c H locs cells slots Q (F0 m pc ls st0) := by
  have hPc : va_P D vwCl [(b, .inr (ci, fs))] H := fun k q hk => by
    have h0 : k < 1 := (List.getElem?_eq_some_iff.mp hk).1
    rw [show k = 0 by omega] at hk
    cases hk
    exact hP q0 _ he
  exact k_Oc he hP hD hS hA (va_runV (As := As) (rest := rest) S hM (cwV n S.2.2.2.2 (lb_V w1 w2 w3 w4 w5) rfl rfl rfl hd hR) ⟨fun a U g mk q => ⟨q.1, q.2.1, q.2.2.1, va_K.moved (u := U) (U := U.calling g mk a) (Vm.Alike.refl U.vm) q.2.2.2.1, hex.1 a U g mk q.2.2.2.2⟩, va_recv hKc hPc hc (q0 := 0) rfl, fun U hU hW => ⟨rfl, by rw [hU], by rw [hU]; exact hPc, va_K.moved hW.alike hKc, hex.2 U hW⟩⟩ rfl hn hls hst (lv_room hW) hdg hf) kk
/-- a call of a constructor -/
theorem k_OI {b q0 ci : Nat} {fs : List Value} {tc : List (ClassId × FieldType)} {ex : State → Prop} {post : List Value → Prop} (S : CallFix p m c cc nL s args lw_B own) (hM : mOv l y bytes maxL d mc ms D b ci fs H.size tc ex (.ref b :: As) post) (n : Nat) (w1 : Cond.methodLink own index y ∈ lw_B) (w2 : Cond.instanceMethod y ∈ lw_B) (w4 : Cond.initialized y.cls ∈ lw_B) (w5 : Cond.code y bytes maxL none ∈ lw_B) (hy : y.name = "<init>")
    (hd : y.cls ≠ "java/lang/invoke/MethodHandle" ∧ y.cls ≠ "java/lang/invoke/VarHandle" ∧ (parseMethodDescriptor y.desc).map (fun d => d.parameters.length) = some n) (hR : d + 1 ≤ R.frames ∧ 8 + (maxL + 11) + 40 * d ≤ R.locals)
    (hKc : va_K D vwCl tc s) (hex : exOk s ex) (he : ws[q0]? = some (b, .inr (ci, fs)))
    (hn : As.length = n) (hls : ls.size = nL) (hst : st0 = As.reverse ++ .ref b :: rest) (hW : (rest.map fun v => v.category).sum ≤ 8) (hdg : decode cc pc = .ok (.invokespecial index, 3)) (hf : cells + mc ≤ R.cells ∧ slots + ms ≤ R.slots)
    (hP : va_P D vwCl ws H) (hD : va_D A0 ws) (hS : va_S A0 H0 H locs) (hA : ∀ q, H0.size ≤ q → A0 q)
    (kk : ∀ (fs' : List Value) (H1 : Heap) (locs1 : List Loc), post fs' → va_P D vwCl (ws.set q0 (b, .inr (ci, fs'))) H1 → va_D A0 (ws.set q0 (b, .inr (ci, fs'))) → va_S A0 H0 H1 locs1 → W p l e R s m args below meth c H1 locs1 (cells + mc) (slots + ms) Q (F0 m (pc + 3) ls rest)) : W p l e R s m args below meth c H locs cells slots Q (F0 m pc ls st0) := by
  have hPc : va_P D vwCl [(b, .inr (ci, fs))] H := fun k q hk => by
    have h0 : k < 1 := (List.getElem?_eq_some_iff.mp hk).1
    rw [show k = 0 by omega] at hk
    cases hk
    exact hP q0 _ he
  have ht := S.2.2.2.2
  exact k_Oc he hP hD hS hA (va_runI (As := As) (rest := rest) S hM (cwI n ht (lb_GI (lb_c w5)) rfl rfl rfl (ht _ w4) (ht _ w1) (ht _ w2) hy hd hR) ⟨fun a U g mk q => ⟨q.1, q.2.1, q.2.2.1, va_K.moved (u := U) (U := U.calling g mk a) (Vm.Alike.refl U.vm) q.2.2.2.1, hex.1 a U g mk q.2.2.2.2⟩, fun U hU hW => ⟨rfl, by rw [hU], by rw [hU]; exact hPc, va_K.moved hW.alike hKc, hex.2 U hW⟩⟩ rfl hn hls hst (lv_room hW) hdg hf) kk
/-- a call of a nest mate's private constructor -/
theorem k_OIN {host : String} {b q0 ci : Nat} {fs : List Value} {tc : List (ClassId × FieldType)} {ex : State → Prop} {post : List Value → Prop} (S : CallFix p m c cc nL s args lw_B own) (hM : mOv l y bytes maxL d mc ms D b ci fs H.size tc ex (.ref b :: As) post) (n : Nat) (w1 : va_Nw (.methodLinkNest own index y host) s) (w2 : Cond.instanceMethod y ∈ lw_B) (w4 : Cond.initialized y.cls ∈ lw_B) (w5 : Cond.code y bytes maxL none ∈ lw_B) (hy : y.name = "<init>")
    (hd : y.cls ≠ "java/lang/invoke/MethodHandle" ∧ y.cls ≠ "java/lang/invoke/VarHandle" ∧ (parseMethodDescriptor y.desc).map (fun d => d.parameters.length) = some n) (hR : d + 1 ≤ R.frames ∧ 8 + (maxL + 11) + 40 * d ≤ R.locals)
    (hKc : va_K D vwCl tc s) (hex : exOk s ex) (he : ws[q0]? = some (b, .inr (ci, fs)))
    (hn : As.length = n) (hls : ls.size = nL) (hst : st0 = As.reverse ++ .ref b :: rest) (hW : (rest.map fun v => v.category).sum ≤ 8) (hdg : decode cc pc = .ok (.invokespecial index, 3)) (hf : cells + mc ≤ R.cells ∧ slots + ms ≤ R.slots)
    (hP : va_P D vwCl ws H) (hD : va_D A0 ws) (hS : va_S A0 H0 H locs) (hA : ∀ q, H0.size ≤ q → A0 q)
    (kk : ∀ (fs' : List Value) (H1 : Heap) (locs1 : List Loc), post fs' → va_P D vwCl (ws.set q0 (b, .inr (ci, fs'))) H1 → va_D A0 (ws.set q0 (b, .inr (ci, fs'))) → va_S A0 H0 H1 locs1 → W p l e R s m args below meth c H1 locs1 (cells + mc) (slots + ms) Q (F0 m (pc + 3) ls rest)) : W p l e R s m args below meth c H locs cells slots Q (F0 m pc ls st0) := by
  have hPc : va_P D vwCl [(b, .inr (ci, fs))] H := fun k q hk => by
    have h0 : k < 1 := (List.getElem?_eq_some_iff.mp hk).1
    rw [show k = 0 by omega] at hk
    cases hk
    exact hP q0 _ he
  have ht := S.2.2.2.2
  exact k_Oc he hP hD hS hA (va_runIN (As := As) (rest := rest) S hM ⟨va_cnB n ht (lb_GI (lb_c w5)) rfl rfl rfl w1 (ht _ w4) hd hR, hy, ht _ w2⟩ ⟨fun a U g mk q => ⟨q.1, q.2.1, q.2.2.1, va_K.moved (u := U) (U := U.calling g mk a) (Vm.Alike.refl U.vm) q.2.2.2.1, hex.1 a U g mk q.2.2.2.2⟩, fun U hU hW => ⟨rfl, by rw [hU], by rw [hU]; exact hPc, va_K.moved hW.alike hKc, hex.2 U hW⟩⟩ rfl hn hls hst (lv_room hW) hdg hf) kk
/-- a call of a void method that changes nothing -/
theorem k_Vv {wc : va_W} {tc : List (ClassId × FieldType)} {cl : List vw_C} {b ci q0 : Nat} {fs : List Value} {q : vw_C} (S : CallFix p m c cc nL s args lw_B own) (hM : mVv l y bytes maxL d D wc tc (.ref b :: As)) (n : Nat) (w1 : Cond.methodLink own index y ∈ lw_B) (w2 : Cond.instanceMethod y ∈ lw_B) (w3 : Cond.selects q.1 y y ∈ lw_B) (w4 : Cond.initialized q.1 ∈ lw_B) (w5 : Cond.code y bytes maxL none ∈ lw_B)
    (hd : y.cls = q.1 ∧ y.cls ≠ "java/lang/invoke/MethodHandle" ∧ y.cls ≠ "java/lang/invoke/VarHandle" ∧ (parseMethodDescriptor y.desc).map (fun d => d.parameters.length) = some n) (hR : d + 1 ≤ R.frames ∧ 8 + (maxL + 11) + 40 * d ≤ R.locals)
    (hPc : va_P D vwCl wc H) (hKc : va_K D vwCl tc s) (hc : vwCl[ci]? = some q) (he : wc[q0]? = some (b, .inr (ci, fs)))
    (hn : As.length = n) (hls : ls.size = nL) (hst : st0 = As.reverse ++ .ref b :: rest) (hW : (rest.map fun v => v.category).sum ≤ 8) (hdg : decode cc pc = .ok (.invokevirtual index, 3)) (hf : cells + 0 ≤ R.cells ∧ slots + 0 ≤ R.slots)
    (hS : va_S A0 H0 H locs) (hP : va_P D cl ws H)
    (kk : ∀ (H1 : Heap) (locs1 : List Loc), va_P D cl ws H1 → va_S A0 H0 H1 locs1 → W p l e R s m args below meth c H1 locs1 cells slots Q (F0 m (pc + 3) ls rest)) : W p l e R s m args below meth c H locs cells slots Q (F0 m pc ls st0) :=
  va_callv (va_runV (As := As) (rest := rest) S hM (cwV n S.2.2.2.2 (lb_V w1 w2 w3 w4 w5) rfl rfl rfl hd hR) ⟨fun a U g mk q => ⟨q.1, q.2.1, va_K.moved (u := U) (U := U.calling g mk a) (Vm.Alike.refl U.vm) q.2.2⟩, va_recv hKc hPc hc he, fun U hU hW => ⟨rfl, by rw [hU]; exact hPc, va_K.moved hW.alike hKc⟩⟩ rfl hn hls hst (lv_room hW) hdg hf) hS (fun _ _ h => h.elim) (fun _ h => h.elim) (fun _ _ H1 locs1 _ _ _ _ _ hk hS1 => kk H1 locs1 (hP.kept fun k q hq => hk q.1 (hP k q hq).lt id) hS1)
/-- a call of which only the answer is told; the cells wr are kept -/
theorem k_Fi {wc wr : va_W} {tc : List (ClassId × FieldType)} {ex : State → Prop} {b ci q0 : Nat} {fs : List Value} {q : vw_C} {post : Int32 → Prop} (S : CallFix p m c cc nL s args lw_B own) (hM : mFi l y bytes maxL d mc ms D wc H.size tc ex (.ref b :: As) post) (n : Nat) (w1 : Cond.methodLink own index y ∈ lw_B) (w2 : Cond.instanceMethod y ∈ lw_B) (w3 : Cond.selects q.1 y y ∈ lw_B) (w4 : Cond.initialized q.1 ∈ lw_B) (w5 : Cond.code y bytes maxL (some .int) ∈ lw_B)
    (hd : y.cls = q.1 ∧ y.cls ≠ "java/lang/invoke/MethodHandle" ∧ y.cls ≠ "java/lang/invoke/VarHandle" ∧ (parseMethodDescriptor y.desc).map (fun d => d.parameters.length) = some n) (hR : d + 1 ≤ R.frames ∧ 8 + (maxL + 11) + 40 * d ≤ R.locals)
    (hKc : va_K D vwCl tc s) (hex : exOk s ex) (hc : vwCl[ci]? = some q) (he : wc[q0]? = some (b, .inr (ci, fs))) (isC isR : List Nat) (hn0 : va_nd isC = true) (hC : isC.map (fun i => ws[i]?) = wc.map some) (hRr : isR.map (fun i => ws[i]?) = wr.map some) (hn1 : va_nd isR = true) (hdis : ∀ i ∈ isR, i ∉ isC)
    (hn : As.length = n) (hls : ls.size = nL) (hst : st0 = As.reverse ++ .ref b :: rest) (hW : (rest.map fun v => v.category).sum ≤ 8) (hdg : decode cc pc = .ok (.invokevirtual index, 3)) (hf : cells + mc ≤ R.cells ∧ slots + ms ≤ R.slots)
    (hP : va_P D vwCl ws H) (hD : va_D A0 ws) (hS : va_S A0 H0 H locs) (hA : ∀ q, H0.size ≤ q → A0 q)
    (kk : ∀ (r : Int32) (H1 : Heap) (locs1 : List Loc), post r → va_P D vwCl wr H1 → va_D A0 wr → va_S A0 H0 H1 locs1 → W p l e R s m args below meth c H1 locs1 (cells + mc) (slots + ms) Q (F0 m (pc + 3) ls (.int r :: rest))) : W p l e R s m args below meth c H locs cells slots Q (F0 m pc ls st0) := by
  have hDc : va_D A0 wc := hD.sub isC hn0 hC
  have hPc : va_P D vwCl wc H := fun k q hk => by
    have h1 : (isC.map (fun i => ws[i]?))[k]? = some (some q) := by rw [hC, List.getElem?_map, hk]; rfl
    rw [List.getElem?_map] at h1
    cases hi : isC[k]? with
    | none => rw [hi] at h1; cases h1
    | some i => rw [hi] at h1; exact hP i q (Option.some.inj h1)
  have hF := va_free (wc := wc) hD hS hA isC hC
  refine va_calli (va_runV (As := As) (rest := rest) S hM (cwV n S.2.2.2.2 (lb_V w1 w2 w3 w4 w5) rfl rfl rfl hd hR) ⟨fun a U g mk q => ⟨q.1, q.2.1, q.2.2.1, va_K.moved (u := U) (U := U.calling g mk a) (Vm.Alike.refl U.vm) q.2.2.2.1, q.2.2.2.2.1, hex.1 a U g mk q.2.2.2.2.2⟩, va_recv hKc hPc hc he, fun U hU hW => ⟨rfl, by rw [hU], by rw [hU]; exact hPc, va_K.moved hW.alike hKc, hDc.weaken (fun _ _ _ _ => trivial), hex.2 U hW⟩⟩ rfl hn hls hst (lv_room hW) hdg hf) hS (fun q _ h => hF q h) hF (fun r _ t H1 locs1 ht _ hp _ _ hk hS1 => ?_)
  obtain ⟨h1, h2⟩ := va_join (w1 := []) hP hD isC isR hC hRr hn1 hdis hk hF (fun k q h => by simp at h) ⟨fun i j p q h => by simp at h, fun k q h => by simp at h⟩
  rw [List.append_nil] at h1 h2
  exact kk r H1 locs1 hp h1 h2 hS1
/-- a loop whose rounds make nothing new: n rounds are left -/
theorem k_loop (I : Nat → Heap → List Loc → Array Slot → Prop)
    (base : ∀ (H : Heap) (locs : List Loc) (ls : Array Slot), I 0 H locs ls → W p l e R s m args below meth c H locs cells slots Q (F0 m pc ls []))
    (step : ∀ (n : Nat) (H : Heap) (locs : List Loc) (ls : Array Slot), I (n + 1) H locs ls → (∀ (H1 : Heap) (locs1 : List Loc) (ls1 : Array Slot), I n H1 locs1 ls1 → W p l e R s m args below meth c H1 locs1 cells slots Q (F0 m pc ls1 [])) → W p l e R s m args below meth c H locs cells slots Q (F0 m pc ls [])) :
    ∀ (n : Nat) (H : Heap) (locs : List Loc) (ls : Array Slot), I n H locs ls → W p l e R s m args below meth c H locs cells slots Q (F0 m pc ls []) := by
  intro n
  induction n with
  | zero => exact base
  | succ n ih => exact fun H locs ls h => step n H locs ls h ih
end KO
theorem k_r100 {x : Int32} (h : 1 ≤ x ∧ x ≤ 100) : ∃ N : Nat, 1 ≤ N ∧ N ≤ 100 ∧ x = nI N := by
  obtain ⟨j, hj, rfl⟩ := nI_of2 (M := 100) (n := 100) rfl (by have h1 := h.1; simp only [Int32.lt_iff_toInt_lt, Int32.le_iff_toInt_le, Int32.reduceToInt] at h1 ⊢; omega) h.2
  exact ⟨j, (nI_leI (a := 1) (b := j) (by decide) (by omega)).mp h.1, hj, rfl⟩
section KL
variable {p : Program} {l : Launch} {e : Env} {R : Room} {s : State} {m : MethodId} {args : Array Value} {below : List Frame} {meth : Method} {c : Code} {cells slots : Nat} {Q : State → Prop} {pc pcx : Nat}
/-- a loop with a measure n and a way out at pcx -/
theorem k_lx (I : Nat → Heap → List Loc → Array Slot → Prop) (E : Heap → List Loc → Array Slot → Prop)
    (exit : ∀ (H : Heap) (locs : List Loc) (ls : Array Slot), E H locs ls → W p l e R s m args below meth c H locs cells slots Q (F0 m pcx ls []))
    (step : ∀ (n : Nat) (H : Heap) (locs : List Loc) (ls : Array Slot), I n H locs ls → (∀ (H1 : Heap) (locs1 : List Loc) (ls1 : Array Slot), E H1 locs1 ls1 → W p l e R s m args below meth c H1 locs1 cells slots Q (F0 m pcx ls1 [])) → (∀ (k : Nat), k < n → ∀ (H1 : Heap) (locs1 : List Loc) (ls1 : Array Slot), I k H1 locs1 ls1 → W p l e R s m args below meth c H1 locs1 cells slots Q (F0 m pc ls1 [])) → W p l e R s m args below meth c H locs cells slots Q (F0 m pc ls [])) :
    ∀ (n : Nat) (H : Heap) (locs : List Loc) (ls : Array Slot), I n H locs ls → W p l e R s m args below meth c H locs cells slots Q (F0 m pc ls []) := by
  intro n
  induction n using Nat.strongRecOn with
  | ind n ih => exact fun H locs ls h => step n H locs ls h exit ih
end KL
theorem exNw {s : State} {a : String} {i : Nat} {y : MethodName} {h : String} (hw : va_Nw (.methodLinkNest a i y h) s) : exOk s (va_Nw (.methodLinkNest a i y h)) := ⟨fun _ U _ _ q => va_Nw.same rfl (u := U) rfl q, fun _ hW => va_Nw.warmM hW hw⟩
section KVL
variable {p : Program} {l : Launch} {e : Env} {R : Room} {s : State} {m : MethodId} {args : Array Value} {below : List Frame} {meth : Method} {c : Code} {H : Heap} {locs : List Loc} {cells slots : Nat} {Q : State → Prop}
variable {A0 : Nat → Prop} {H0 : Heap} {D : va_G} {cl : List vw_C} {ws : va_W} {pc : Nat} {ls : Array Slot} {st0 rest : List Value} {y : MethodName} {bytes cc : ByteArray} {maxL nL index d n : Nat} {ret : FieldType} {own : String} {As : List Value} {post : Int64 → Prop}
/-- a call of a method of an object that changes nothing and answers a long -/
theorem k_Vl {wc : va_W} {tc : List (ClassId × FieldType)} {b ci q0 : Nat} {fs : List Value} {q : vw_C} (S : CallFix p m c cc nL s args lw_B own) (hM : mVl l y bytes maxL ret d D wc tc (.ref b :: As) post) (n : Nat) (w1 : Cond.methodLink own index y ∈ lw_B) (w2 : Cond.instanceMethod y ∈ lw_B) (w3 : Cond.selects q.1 y y ∈ lw_B) (w4 : Cond.initialized q.1 ∈ lw_B) (w5 : Cond.code y bytes maxL (some ret) ∈ lw_B)
    (hd : y.cls = q.1 ∧ y.cls ≠ "java/lang/invoke/MethodHandle" ∧ y.cls ≠ "java/lang/invoke/VarHandle" ∧ (parseMethodDescriptor y.desc).map (fun d => d.parameters.length) = some n) (hR : d + 1 ≤ R.frames ∧ 8 + (maxL + 11) + 40 * d ≤ R.locals)
    (hPc : va_P D vwCl wc H) (hKc : va_K D vwCl tc s) (hc : vwCl[ci]? = some q) (he : wc[q0]? = some (b, .inr (ci, fs)))
    (hn : As.length = n) (hls : ls.size = nL) (hst : st0 = As.reverse ++ .ref b :: rest) (hW : (rest.map fun v => v.category).sum ≤ 8) (hdg : decode cc pc = .ok (.invokevirtual index, 3)) (hf : cells + 0 ≤ R.cells ∧ slots + 0 ≤ R.slots)
    (hS : va_S A0 H0 H locs) (hP : va_P D cl ws H)
    (kk : ∀ (r : Int64) (H1 : Heap) (locs1 : List Loc), post r → va_P D cl ws H1 → va_S A0 H0 H1 locs1 → W p l e R s m args below meth c H1 locs1 cells slots Q (F0 m (pc + 3) ls (.long r :: rest))) : W p l e R s m args below meth c H locs cells slots Q (F0 m pc ls st0) :=
  va_calll (va_runV (As := As) (rest := rest) S hM (cwV n S.2.2.2.2 (lb_V w1 w2 w3 w4 w5) rfl rfl rfl hd hR) ⟨fun a U g mk q => ⟨q.1, q.2.1, va_K.moved (u := U) (U := U.calling g mk a) (Vm.Alike.refl U.vm) q.2.2⟩, va_recv hKc hPc hc he, fun U hU hW => ⟨rfl, by rw [hU]; exact hPc, va_K.moved hW.alike hKc⟩⟩ rfl hn hls hst (lv_room hW) hdg hf) hS (fun _ _ h => h.elim) (fun _ h => h.elim) (fun r _ _ H1 locs1 _ _ hp _ _ hk hS1 => kk r H1 locs1 hp (hP.kept fun k q hq => hk q.1 (hP k q hq).lt id) hS1)
end KVL
theorem lt_1 (i : Nat) {w : Cond} (h : tables_1_1[i]? = some w) : w ∈ lw_tbl := List.mem_append_right _ (List.mem_append_left _ (List.mem_of_getElem? h))
theorem lt_2 (i : Nat) {w : Cond} (h : tables_1_2[i]? = some w) : w ∈ lw_tbl := List.mem_append_right _ (List.mem_append_right _ (List.mem_append_left _ (List.mem_of_getElem? h)))
