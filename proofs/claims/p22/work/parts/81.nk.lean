/-- a constructor whose world is told whole; the array classes are known -/
abbrev mNk {S : Type} (l : Launch) (y : MethodName) (bytes : ByteArray) (maxL : Nat) (d mc ms : Nat) (D : va_G) (K : Nat → ClassId) (b ci : Nat) (fs : List Value) (sz : Nat) (ex : State → Prop) (As : List Value) (post : S → Prop) (w1 : S → va_W) : Prop :=
  Met l y (Cond.code y bytes maxL none :: lw_B) (rmD d mc ms) (va_Pc As (fun U => U.heap.size = sz ∧ va_P D vwCl [(b, .inr (ci, fs))] U.heap ∧ va_K D vwCl (tyK K) U ∧ va_D (fun _ => True) [(b, .inr (ci, fs))] ∧ ex U)) (va_Qv post (fun u U => va_P D vwCl (w1 u) U.heap ∧ va_D (va_A [(b, .inr (ci, fs))] sz) (w1 u)) (va_A [(b, .inr (ci, fs))] sz)) mc ms (va_A [(b, .inr (ci, fs))] sz)
theorem K_int {A : Array Value} {s : State} (h : (Cond.arrayClass .int).before A s = true) : ∃ cA : ClassId, ArrOfT s cA .int ∧ va_RA s cA .int := by
  obtain ⟨comp, kC, cC, hcomp, hkC, hkind⟩ := Cond.arrayClass_spec h
  exact ⟨comp, fun N z => ⟨(fun k h => by cases h), kC, hkC, cC, hkind⟩, hcomp⟩
theorem K_long {A : Array Value} {s : State} (h : (Cond.arrayClass .long).before A s = true) : ∃ cA : ClassId, ArrOfT s cA .long ∧ va_RA s cA .long := by
  obtain ⟨comp, kC, cC, hcomp, hkC, hkind⟩ := Cond.arrayClass_spec h
  exact ⟨comp, fun N z => ⟨(fun k h => by cases h), kC, hkC, cC, hkind⟩, hcomp⟩
theorem K_bool {A : Array Value} {s : State} (h : (Cond.arrayClass .boolean).before A s = true) : ∃ cA : ClassId, ArrOfT s cA .boolean ∧ va_RA s cA .boolean := by
  obtain ⟨comp, kC, cC, hcomp, hkC, hkind⟩ := Cond.arrayClass_spec h
  exact ⟨comp, fun N z => ⟨(fun k h => by cases h), kC, hkC, cC, hkind⟩, hcomp⟩
theorem K_obj {C : String} {s : State} (h : va_AO C s) : ∃ cA : ClassId, ArrOfT s cA (.object C) ∧ va_RA s cA (.object C) := by
  obtain ⟨comp, c, k, h1, h2, h3, h4, h5⟩ := Cond.arrayOver_spec h
  exact ⟨c, fun N z => ⟨(fun k h => by cases h), k, h3, comp, h4⟩, k, comp, h3, h4, h1, h5⟩
theorem K_arr {t : FieldType} {s : State} (h : aoA t s) : ∃ cA : ClassId, ArrOfT s cA (.array t) ∧ va_RA s cA (.array t) := by
  obtain ⟨comp, cA, kA, h1, h2, h3, h4⟩ := h
  exact ⟨cA, fun N z => ⟨(fun k h => by cases h), kA, h2, comp, h3⟩, h4⟩
theorem K_all {A : Array Value} {s : State} {dC : Nat → ClassId} {dI : Nat → Nat → Nat} (hc : ∀ (k : Nat) (q : vw_C), vwCl[k]? = some q → u_Kn s q.1 q.2.1 q.2.2 (dC k) (dI k)) (h0 : (Cond.arrayClass .int).before A s = true) (h1 : (Cond.arrayClass .long).before A s = true) (h2 : (Cond.arrayClass .boolean).before A s = true) (h3 : exC s) : ∃ K : Nat → ClassId, va_K (dC, dI) vwCl (tyK K) s := by
  obtain ⟨c0, z0⟩ := K_int h0
  obtain ⟨c1, z1⟩ := K_long h1
  obtain ⟨c2, z2⟩ := K_bool h2
  obtain ⟨c3, z3⟩ := K_obj h3.1
  obtain ⟨c4, z4⟩ := K_obj h3.2.1
  obtain ⟨c5, z5⟩ := K_obj h3.2.2.1
  obtain ⟨c6, z6⟩ := K_arr h3.2.2.2.1.1
  obtain ⟨c7, z7⟩ := K_arr h3.2.2.2.1.2
  refine ⟨fun k => if k = 0 then c0 else if k = 1 then c1 else if k = 2 then c2 else if k = 3 then c3 else if k = 4 then c4 else if k = 5 then c5 else if k = 6 then c6 else c7, hc, fun k q hq => ?_⟩
  match k, hq with
  | 0, hq => cases hq; exact z0
  | 1, hq => cases hq; exact z1
  | 2, hq => cases hq; exact z2
  | 3, hq => cases hq; exact z3
  | 4, hq => cases hq; exact z4
  | 5, hq => cases hq; exact z5
  | 6, hq => cases hq; exact z6
  | 7, hq => cases hq; exact z7
  | k + 8, hq => simp [tyK] at hq
section KN
variable {p : Program} {l : Launch} {e : Env} {R : Room} {s : State} {m : MethodId} {args : Array Value} {below : List Frame} {meth : Method} {c : Code} {H : Heap} {locs : List Loc} {cells slots : Nat} {Q : State → Prop}
variable {A0 : Nat → Prop} {H0 : Heap} {D : va_G} {ws : va_W} {pc : Nat} {ls : Array Slot} {st0 rest : List Value} {y : MethodName} {bytes cc : ByteArray} {maxL nL index d n mc ms : Nat} {own : String} {As : List Value}
theorem k_Nk {S : Type} {b q0 ci : Nat} {fs : List Value} {ex : State → Prop} {post : S → Prop} {w1 : S → va_W} {wr : va_W} {K : Nat → ClassId} (C : CallFix p m c cc nL s args lw_B own) (hM : mNk l y bytes maxL d mc ms D K b ci fs H.size ex (.ref b :: As) post w1) (n : Nat) (w1' : Cond.methodLink own index y ∈ lw_B) (w2 : Cond.instanceMethod y ∈ lw_B) (w4 : Cond.initialized y.cls ∈ lw_B) (w5 : Cond.code y bytes maxL none ∈ lw_B) (hy : y.name = "<init>")
    (hd : y.cls ≠ "java/lang/invoke/MethodHandle" ∧ y.cls ≠ "java/lang/invoke/VarHandle" ∧ (parseMethodDescriptor y.desc).map (fun d => d.parameters.length) = some n) (hR : d + 1 ≤ R.frames ∧ 8 + (maxL + 11) + 40 * d ≤ R.locals)
    (hK : va_K D vwCl (tyK K) s) (hex : exOk s ex) (he : ws[q0]? = some (b, .inr (ci, fs))) (isR : List Nat) (hRr : isR.map (fun i => ws[i]?) = wr.map some) (hn1 : va_nd isR = true) (hdis : ∀ i ∈ isR, i ∉ [q0])
    (hn : As.length = n) (hls : ls.size = nL) (hst : st0 = As.reverse ++ .ref b :: rest) (hW : (rest.map fun v => v.category).sum ≤ 8) (hdg : decode cc pc = .ok (.invokespecial index, 3)) (hf : cells + mc ≤ R.cells ∧ slots + ms ≤ R.slots)
    (hP : va_P D vwCl ws H) (hD : va_D A0 ws) (hS : va_S A0 H0 H locs) (hA : ∀ q, H0.size ≤ q → A0 q)
    (kk : ∀ (u : S) (H1 : Heap) (locs1 : List Loc), post u → va_P D vwCl (wr ++ w1 u) H1 → va_D A0 (wr ++ w1 u) → va_S A0 H0 H1 locs1 → W p l e R s m args below meth c H1 locs1 (cells + mc) (slots + ms) Q (F0 m (pc + 3) ls rest)) : W p l e R s m args below meth c H locs cells slots Q (F0 m pc ls st0) := by
  have hC : [q0].map (fun i => ws[i]?) = ([(b, .inr (ci, fs))] : va_W).map some := by simp [he]
  have hPc : va_P D vwCl [(b, .inr (ci, fs))] H := fun k q hk => by
    have h0 : k < 1 := (List.getElem?_eq_some_iff.mp hk).1
    rw [show k = 0 by omega] at hk
    cases hk
    exact hP q0 _ he
  have hDc : va_D A0 [(b, .inr (ci, fs))] := hD.sub [q0] (by simp [va_nd]) hC
  have hF := va_free (wc := [(b, .inr (ci, fs))]) hD hS hA [q0] hC
  have ht := C.2.2.2.2
  refine va_callv (va_runI (As := As) (rest := rest) C hM (cwI n ht (lb_GI (lb_c w5)) rfl rfl rfl (ht _ w4) (ht _ w1') (ht _ w2) hy hd hR) ⟨fun a U g mk q => ⟨q.1, q.2.1, q.2.2.1, va_K.moved (u := U) (U := U.calling g mk a) (Vm.Alike.refl U.vm) q.2.2.2.1, q.2.2.2.2.1, hex.1 a U g mk q.2.2.2.2.2⟩, fun U hU hW => ⟨rfl, by rw [hU], by rw [hU]; exact hPc, va_K.moved hW.alike hK, hDc.weaken (fun _ _ _ _ => trivial), hex.2 U hW⟩⟩ rfl hn hls hst (lv_room hW) hdg hf) hS (fun q _ h => hF q h) hF (fun u t H1 locs1 ht1 hvm hp hB _ hk hS1 => ?_)
  obtain ⟨hP1, hD1⟩ := hB
  rw [ht1] at hP1
  obtain ⟨h1, h2⟩ := va_join hP hD [q0] isR hC hRr hn1 hdis hk hF hP1 hD1
  exact kk u H1 locs1 hp h1 h2 hS1
theorem k_NkN {host : String} {S : Type} {b q0 ci : Nat} {fs : List Value} {ex : State → Prop} {post : S → Prop} {w1 : S → va_W} {wr : va_W} {K : Nat → ClassId} (C : CallFix p m c cc nL s args lw_B own) (hM : mNk l y bytes maxL d mc ms D K b ci fs H.size ex (.ref b :: As) post w1) (n : Nat) (w1' : va_Nw (.methodLinkNest own index y host) s) (w2 : Cond.instanceMethod y ∈ lw_B) (w4 : Cond.initialized y.cls ∈ lw_B) (w5 : Cond.code y bytes maxL none ∈ lw_B) (hy : y.name = "<init>")
    (hd : y.cls ≠ "java/lang/invoke/MethodHandle" ∧ y.cls ≠ "java/lang/invoke/VarHandle" ∧ (parseMethodDescriptor y.desc).map (fun d => d.parameters.length) = some n) (hR : d + 1 ≤ R.frames ∧ 8 + (maxL + 11) + 40 * d ≤ R.locals)
    (hK : va_K D vwCl (tyK K) s) (hex : exOk s ex) (he : ws[q0]? = some (b, .inr (ci, fs))) (isR : List Nat) (hRr : isR.map (fun i => ws[i]?) = wr.map some) (hn1 : va_nd isR = true) (hdis : ∀ i ∈ isR, i ∉ [q0])
    (hn : As.length = n) (hls : ls.size = nL) (hst : st0 = As.reverse ++ .ref b :: rest) (hW : (rest.map fun v => v.category).sum ≤ 8) (hdg : decode cc pc = .ok (.invokespecial index, 3)) (hf : cells + mc ≤ R.cells ∧ slots + ms ≤ R.slots)
    (hP : va_P D vwCl ws H) (hD : va_D A0 ws) (hS : va_S A0 H0 H locs) (hA : ∀ q, H0.size ≤ q → A0 q)
    (kk : ∀ (u : S) (H1 : Heap) (locs1 : List Loc), post u → va_P D vwCl (wr ++ w1 u) H1 → va_D A0 (wr ++ w1 u) → va_S A0 H0 H1 locs1 → W p l e R s m args below meth c H1 locs1 (cells + mc) (slots + ms) Q (F0 m (pc + 3) ls rest)) : W p l e R s m args below meth c H locs cells slots Q (F0 m pc ls st0) := by
  have hC : [q0].map (fun i => ws[i]?) = ([(b, .inr (ci, fs))] : va_W).map some := by simp [he]
  have hPc : va_P D vwCl [(b, .inr (ci, fs))] H := fun k q hk => by
    have h0 : k < 1 := (List.getElem?_eq_some_iff.mp hk).1
    rw [show k = 0 by omega] at hk
    cases hk
    exact hP q0 _ he
  have hDc : va_D A0 [(b, .inr (ci, fs))] := hD.sub [q0] (by simp [va_nd]) hC
  have hF := va_free (wc := [(b, .inr (ci, fs))]) hD hS hA [q0] hC
  have ht := C.2.2.2.2
  refine va_callv (va_runIN (As := As) (rest := rest) C hM ⟨va_cnB n ht (lb_GI (lb_c w5)) rfl rfl rfl w1' (ht _ w4) hd hR, hy, ht _ w2⟩ ⟨fun a U g mk q => ⟨q.1, q.2.1, q.2.2.1, va_K.moved (u := U) (U := U.calling g mk a) (Vm.Alike.refl U.vm) q.2.2.2.1, q.2.2.2.2.1, hex.1 a U g mk q.2.2.2.2.2⟩, fun U hU hW => ⟨rfl, by rw [hU], by rw [hU]; exact hPc, va_K.moved hW.alike hK, hDc.weaken (fun _ _ _ _ => trivial), hex.2 U hW⟩⟩ rfl hn hls hst (lv_room hW) hdg hf) hS (fun q _ h => hF q h) hF (fun u t H1 locs1 ht1 hvm hp hB _ hk hS1 => ?_)
  obtain ⟨hP1, hD1⟩ := hB
  rw [ht1] at hP1
  obtain ⟨h1, h2⟩ := va_join hP hD [q0] isR hC hRr hn1 hdis hk hF hP1 hD1
  exact kk u H1 locs1 hp h1 h2 hS1
end KN
