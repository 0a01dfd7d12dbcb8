/-! new T[4][K]: the kit's own row for it names a module that rounds don't have; so here is one for four rows -/
/-- the tables have the class of arrays of arrays -/
def aoA (t : FieldType) (U : State) : Prop := ∃ (comp cA : ClassId) (kA : Class), U.vm.findClass (FieldType.array t).toString = some comp ∧ U.vm.classes[cA]? = some kA ∧ kA.kind = .array comp (.array t) ∧ U.vm.findClass ("[" ++ (FieldType.array t).toString) = some cA
theorem aoA_of {t : FieldType} {A : Array Value} {U : State} (h : (Cond.arrayOver (.array t)).before A U = true) : aoA t U := by
  obtain ⟨comp, cA, kA, hcomp, -, hkA, hkindA, hnameA⟩ := arrayOverA_spec h
  exact ⟨comp, cA, kA, hcomp, hkA, hkindA, hnameA⟩
theorem aoA_moved {t : FieldType} {u U : State} (hvm : u.vm.Alike U.vm) (h : aoA t u) : aoA t U := by
  obtain ⟨comp, cA, kA, h1, h2, h3, h4⟩ := h
  obtain ⟨k', hk', he⟩ := hvm.2.2 _ _ h2
  exact ⟨comp, cA, k', by rw [hvm.findClass]; exact h1, hk', by rw [he]; exact h3, by rw [hvm.findClass]; exact h4⟩
section KG
abbrev kgI (cI : ClassId) (K : Nat) (dv : Value) : Cell := { cls := cI, slots := Array.replicate K dv, vm := .none }
abbrev kgO (cA : ClassId) : Cell := { cls := cA, slots := Array.replicate 4 .null, vm := .none }
/-- i rows are made: the outer array's cell is read off the heap -/
def kgF (V : State) (cA cI : ClassId) (K : Nat) (dv : Value) : Nat → State
  | 0 => V.pushCell (kgO cA)
  | i + 1 => ((kgF V cA cI K dv i).pushCell (kgI cI K dv)).setCell V.heap.size ((((kgF V cA cI K dv i).heap[V.heap.size]?).getD (kgO cA)).setSlot i (.ref (kgF V cA cI K dv i).heap.size))
theorem kgF_top (V : State) (f : JFrame) (cA cI : ClassId) (K : Nat) (dv : Value) : ∀ i, kgF (V.setTop f) cA cI K dv i = (kgF V cA cI K dv i).setTop f
  | 0 => rfl
  | i + 1 => by simp only [kgF, kgF_top V f cA cI K dv i, State.heap_setTop, State.pushCell_setTop, State.setCell_setTop]
/-- what holds behind i rows -/
def kgG (V U : State) (cA : ClassId) (i : Nat) : Prop := U.heap.size = V.heap.size + 1 + i ∧ (∃ o : Cell, U.heap[V.heap.size]? = some o ∧ o.cls = cA ∧ o.vm = .none ∧ o.slots.size = 4) ∧ (∀ a, a < V.heap.size → U.heap[a]? = V.heap[a]?) ∧ U.vm = V.vm
theorem kgF_G (V : State) (cA cI : ClassId) (K : Nat) (dv : Value) : ∀ i, kgG V (kgF V cA cI K dv i) cA i
  | 0 => ⟨by simp [kgF], ⟨kgO cA, by simp [kgF], rfl, rfl, by simp⟩, fun a h => State.heap_pushCell_of_lt _ _ h, rfl⟩
  | i + 1 => by
    obtain ⟨h1, ⟨o, h2, h3, h4, h5⟩, h6, h7⟩ := kgF_G V cA cI K dv i
    have hlt : V.heap.size < (kgF V cA cI K dv i).heap.size := by omega
    have hp : ((kgF V cA cI K dv i).pushCell (kgI cI K dv)).heap[V.heap.size]? = some o := by rw [State.heap_pushCell_of_lt (h := hlt)]; exact h2
    have hg : ((kgF V cA cI K dv i).heap[V.heap.size]?).getD (kgO cA) = o := by rw [h2]; rfl
    refine ⟨?_, ⟨o.setSlot i (.ref (kgF V cA cI K dv i).heap.size), ?_, by simp [Cell.setSlot, h3], by simp [Cell.setSlot, h4], by simp [Cell.setSlot, h5]⟩, fun a h => ?_, ?_⟩
    · simp [kgF, State.setCell, h1]; omega
    · rw [kgF, hg]; exact State.heap_setCell_self hp
    · have hla : a < (kgF V cA cI K dv i).heap.size := by omega
      rw [kgF, State.heap_setCell_other (Nat.ne_of_gt h), State.heap_pushCell_of_lt (h := hla)]
      exact h6 a h
    · simp [kgF, h7]
theorem kgF_H (V : State) (cA cI : ClassId) (K : Nat) (dv : Value) : ∀ i, (kgF V cA cI K dv i).heap[V.heap.size]? = some (arrV cA 4 (fun j => if j < i then .ref (V.heap.size + 1 + j) else .null)) ∧ ∀ j, j < i → (kgF V cA cI K dv i).heap[V.heap.size + 1 + j]? = some (kgI cI K dv)
  | 0 => ⟨by
      have h1 : (kgF V cA cI K dv 0).heap[V.heap.size]? = some (kgO cA) := by simp [kgF]
      rw [h1, show kgO cA = arrV cA 4 (fun _ => .null) from arrV_new cA 4 .null]
      rfl, fun j hj => absurd hj (Nat.not_lt_zero j)⟩
  | i + 1 => by
    obtain ⟨a1, a2⟩ := kgF_H V cA cI K dv i
    obtain ⟨h1, -, -, -⟩ := kgF_G V cA cI K dv i
    have hlt : V.heap.size < (kgF V cA cI K dv i).heap.size := by omega
    have hp : ((kgF V cA cI K dv i).pushCell (kgI cI K dv)).heap[V.heap.size]? = some (arrV cA 4 (fun j => if j < i then .ref (V.heap.size + 1 + j) else .null)) := by rw [State.heap_pushCell_of_lt (h := hlt)]; exact a1
    have hg : ((kgF V cA cI K dv i).heap[V.heap.size]?).getD (kgO cA) = arrV cA 4 (fun j => if j < i then .ref (V.heap.size + 1 + j) else .null) := by rw [a1]; rfl
    refine ⟨?_, fun j hj => ?_⟩
    · rw [kgF, hg, State.heap_setCell_self hp, arrV_store, h1]
      congr 2
      funext j
      unfold updV
      by_cases q : j = i
      · rw [if_pos q, if_pos (by omega), q]
      · rw [if_neg q]
        by_cases z : j < i
        · show (if j < i then _ else _) = _
          rw [if_pos z, if_pos (by omega)]
        · show (if j < i then _ else _) = _
          rw [if_neg z, if_neg (by omega)]
    · rw [kgF, State.heap_setCell_other (show V.heap.size ≠ V.heap.size + 1 + j by omega)]
      by_cases q : j = i
      · subst q
        rw [← h1]
        simp
      · have hl2 : V.heap.size + 1 + j < (kgF V cA cI K dv i).heap.size := by omega
        rw [State.heap_pushCell_of_lt (h := hl2)]
        exact a2 j (by omega)
variable {p : Program} {l : Launch} {e : Env} {R : Room} {s : State} {m : MethodId} {args : Array Value} {below : List Frame} {meth : Method} {c : Code} {cells slots : Nat} {locs : List Loc}
theorem kgF_X {V : State} (X : Stand p l e R s m args below meth c V locs cells slots) (cA cI : ClassId) (K : Nat) (dv : Value) : ∀ i, ∃ L : List Loc, Stand p l e R s m args below meth c (kgF V cA cI K dv i) (locs ++ L) (cells + 1 + i) (slots + 4 + i * K) ∧ ∀ x ∈ L, x.base = V.heap.size
  | 0 => ⟨[], by
      have h := X.pushed (kgO cA)
      rw [show (kgO cA).slots.size = 4 by simp] at h
      simpa [kgF] using h, fun x h => by cases h⟩
  | i + 1 => by
    obtain ⟨L, Xi, hL⟩ := kgF_X X cA cI K dv i
    obtain ⟨h1, ⟨o, h2, h3, h4, h5⟩, h6, h7⟩ := kgF_G V cA cI K dv i
    have hlt : V.heap.size < (kgF V cA cI K dv i).heap.size := by omega
    have hp : ((kgF V cA cI K dv i).pushCell (kgI cI K dv)).heap[V.heap.size]? = some o := by rw [State.heap_pushCell_of_lt (h := hlt)]; exact h2
    have hg : ((kgF V cA cI K dv i).heap[V.heap.size]?).getD (kgO cA) = o := by rw [h2]; rfl
    have h := (Xi.pushed (kgI cI K dv)).stored hp i (.ref (kgF V cA cI K dv i).heap.size)
    rw [show (kgI cI K dv).slots.size = K by simp] at h
    refine ⟨L ++ [⟨V.heap.size, i⟩], ?_, fun x hx => ?_⟩
    · rw [kgF, hg, ← List.append_assoc, show slots + 4 + (i + 1) * K = slots + 4 + i * K + K by rw [Nat.succ_mul]; omega]
      exact h
    · rcases List.mem_append.mp hx with q | q
      · exact hL x q
      · rw [List.mem_singleton.mp q]
theorem kg_ref {t : FieldType} (v : Addr) : fits (.array t) (.ref v) = true := rfl
/-- the machine's own 'make' of four rows -/
theorem kg_make {E : CtlPost} {d : Bool} {acts : List Action} {V : State} {cA cI cc : ClassId} {kA kC : Class} {ty : FieldType} {k : Int32} (X : Stand p l e R s m args below meth c V locs cells slots) (f : JFrame)
    (hkA : V.vm.classes[cA]? = some kA) (hkindA : kA.kind = .array cI (.array ty)) (hkC : V.vm.classes[cI]? = some kC) (hkindC : kC.kind = .array cc ty) (hk : ¬ k < 0)
    (hl1 : ¬ 4 > e.platform.arrayLengthLimit) (hh1 : ¬ 4 * componentBytes (.array ty) > e.platform.maxHeapBytes) (hl2 : ¬ k.toNatClampNeg > e.platform.arrayLengthLimit) (hh2 : ¬ k.toNatClampNeg * componentBytes ty > e.platform.maxHeapBytes)
    (hdf : fits ty (defaultValue ty) = true) (hcells : cells + 5 ≤ R.cells) (hslots : slots + (4 + 4 * k.toNatClampNeg) ≤ R.slots)
    {Q : Addr → Pre} (hq : ∀ d' acts', Q V.heap.size d' acts' ((kgF V cA cI k.toNatClampNeg (defaultValue ty) 4).setTop f)) :
    wp (multianewarray.make cA [4, k]) Q E e d acts (V.setTop f) := by
  have h4 : (4 : Int32).toNatClampNeg = 4 := by decide
  have hf4 : ¬ (4 : Int32) < 0 := by decide
  have hfind : ([k].find? (· < 0)) = none := by simp [hk]
  have hroom : ∀ i, i ≤ 4 → (kgF V cA cI k.toNatClampNeg (defaultValue ty) i).heap.size + (4 - i) ≤ e.platform.maxCells ∧ (kgF V cA cI k.toNatClampNeg (defaultValue ty) i).slotsUsed + (4 - i) * k.toNatClampNeg ≤ e.platform.maxSlots := fun i hi => by
    obtain ⟨L, Xi, -⟩ := kgF_X X cA cI k.toNatClampNeg (defaultValue ty) i
    have hm : i * k.toNatClampNeg + (4 - i) * k.toNatClampNeg = 4 * k.toNatClampNeg := by rw [← Nat.add_mul, Nat.add_sub_cancel' hi]
    exact Xi.roomAbove (by omega) (by omega)
  obtain ⟨r1, r2⟩ := X.roomAbove (show cells + 1 ≤ R.cells by omega) (show slots + 4 ≤ R.slots by omega)
  rw [multianewarray.make]
  simp only [wp_bind', W.ite, hf4, if_false, wp_pure', W.theClass, State.vm_setTop, hkA, hkindA, Option.some.injEq, exists_eq_left', h4]
  refine W.newArray_of (k := kA) (comp := cI) (type := .array ty) (by exact hkA) hkindA hl1 hh1 (by show V.heap.size < _; omega) (by show V.slotsUsed + 4 ≤ _; omega) rfl (fun acts1 => ?_)
  simp only [hfind]
  rw [ite_self, wp_bind', Std.Legacy.Range.forIn_eq_forIn_range']
  show wp (forIn (List.range' 0 4 1) PUnit.unit _) _ E e d acts1 _
  refine wp_forIn_inv (fun rest U => ∃ i, i ≤ 4 ∧ rest = List.range' i (4 - i) ∧ U = (kgF V cA cI k.toNatClampNeg (defaultValue ty) i).setTop f) _ _ ⟨0, Nat.zero_le _, rfl, rfl⟩ ?_ ?_
  · rintro x rest U d' acts' Q' ⟨i, hi, hl, rfl⟩ hnext
    have hlt : i < 4 := by
      rcases Nat.lt_or_ge i 4 with h | h
      · exact h
      · rw [show 4 - i = 0 by omega] at hl; simp at hl
    rw [show 4 - i = (4 - (i + 1)) + 1 by omega, List.range'_succ] at hl
    obtain ⟨rfl, hrest⟩ := List.cons.inj hl
    obtain ⟨g1, ⟨o, g2, g3, g4, g5⟩, -, g7⟩ := kgF_G V cA cI k.toNatClampNeg (defaultValue ty) x
    obtain ⟨q1, q2⟩ := hroom x (by omega)
    have hmul : k.toNatClampNeg ≤ (4 - x) * k.toNatClampNeg := Nat.le_mul_of_pos_left _ (by omega)
    simp only [wp_bind']
    rw [multianewarray.make]
    simp only [wp_bind', W.ite, hk, if_false, wp_pure', W.theClass, State.vm_setTop, g7, hkC, hkindC, Option.some.injEq, exists_eq_left']
    refine W.newArray_of (k := kC) (comp := cc) (type := ty) (by show (kgF V cA cI _ _ x).vm.classes[cI]? = _; rw [g7]; exact hkC) hkindC hl2 hh2 (by show (kgF V cA cI _ _ x).heap.size < _; omega) (by show (kgF V cA cI _ _ x).slotsUsed + _ ≤ _; omega) hdf (fun acts2 => ?_)
    simp only [wp_bind', W.writeLoc, wp_pure']
    have hsz : V.heap.size < (kgF V cA cI k.toNatClampNeg (defaultValue ty) x).heap.size := by omega
    refine ⟨o, ?_, by rw [g4]; simp, by rw [g5]; exact hlt, ?_, hnext _ _ _ ⟨x + 1, hlt, hrest, ?_⟩⟩
    · show ((kgF V cA cI k.toNatClampNeg (defaultValue ty) x).pushCell _).heap[V.heap.size]? = some o
      rw [State.heap_pushCell_of_lt (h := hsz)]; exact g2
    · rw [g3, g4]
      simp [State.fitsSlot, State.slotType?, g7, hkA, hkindA, kg_ref]
    · rw [kgF, g2]
      rfl
  · rintro U d' acts' ⟨i, hi, hl, rfl⟩
    have hi4 : i = 4 := by
      rcases Nat.lt_or_ge i 4 with h | h
      · rw [show 4 - i = (4 - (i + 1)) + 1 by omega, List.range'_succ] at hl; cases hl
      · omega
    subst hi4
    simp only [wp_pure']
    exact hq _ _
variable {H : Heap} {Q : State → Prop} {A : Nat → Prop} {H0 : Heap} {D : va_G} {cl : List vw_C} {ws : va_W} {pc : Nat} {ls : Array Slot} {rest : List Value}
theorem k_grid2 {cc : ByteArray} (hexec : p.tables.exec = Jvm.exec) (hb : c.code = cc) {own : String} {index : Nat} {ty : FieldType} (hown : s.vm.findClass own = some m.cls) (hclink : (Cond.classLink own index ("[" ++ (FieldType.array ty).toString)).before args s = true) (hover : aoA ty s) (harr : (Cond.arrayClass ty).before args s = true)
    {k : Int32} {K : Nat} (hk : ¬ k < 0) (hK : k.toNatClampNeg = K) (hb2 : K * componentBytes ty ≤ 536870912) (hb3 : K ≤ 536870912) (hdf : fits ty (defaultValue ty) = true) (hcells : cells + 5 ≤ R.cells) (hslots : slots + (4 + 4 * K) ≤ R.slots) (hdg : decode cc pc = .ok (.multianewarray index 2, 4))
    (hP : va_P D cl ws H) (hS : va_S A H0 H locs) (hA : ∀ q, H0.size ≤ q → A q)
    (kk : ∀ (q : Nat) (cA comp : ClassId) (H1 : Heap) (locs1 : List Loc), q = H.size → s.vm.findClass ("[" ++ (FieldType.array ty).toString) = some cA → s.vm.findClass (FieldType.array ty).toString = some comp → H1[q]? = some (arrV cA 4 (fun j => if j < 4 then .ref (q + 1 + j) else .null)) → (∀ j, j < 4 → H1[q + 1 + j]? = some (arrV comp K (fun _ => defaultValue ty))) → va_P D cl ws H1 → va_S A H0 H1 locs1 → W p l e R s m args below meth c H1 locs1 (cells + 5) (slots + (4 + 4 * K)) Q (F0 m (pc + 4) ls (.ref q :: rest))) : W p l e R s m args below meth c H locs cells slots Q (F0 m pc ls (.int k :: .int 4 :: rest)) := by
  intro T hT X
  subst hT; subst hb; subst hK
  have hpl : e.platform.magicAccessors = ({} : Platform).magicAccessors := by rw [X.admits.platform]
  obtain ⟨comp, cA, kA, hcomp, hkA, hkindA, hnameA⟩ := hover
  obtain ⟨comp', kC, cC, hcomp', hkC, hkindC⟩ := Cond.arrayClass_spec harr
  cases hcomp'.symm.trans hcomp
  obtain ⟨c0, hfc0, hcl⟩ := Cond.classLink_spec hown hclink e.platform hpl
  cases hnameA.symm.trans hfc0
  obtain ⟨hg₁, hwarm₁, hready₁⟩ := State.classEntry (e := e) X.warmed hcl
  generalize T.vm.noted m.cls index (.cls cA) = vm₁ at hg₁ hwarm₁ hready₁
  have hal : s.vm.Alike vm₁ := hwarm₁.alike
  obtain ⟨kA₁, hkA₁, heA⟩ := hal.2.2 _ _ hkA
  obtain ⟨kC₁, hkC₁, heC⟩ := hal.2.2 _ _ hkC
  have hkindA₁ : kA₁.kind = .array comp (.array ty) := by rw [heA]; exact hkindA
  have hkindC₁ : kC₁.kind = .array cC ty := by rw [heC]; exact hkindC
  have X₁ := X.noted hwarm₁
  have hl1 : ¬ 4 > e.platform.arrayLengthLimit := by rw [Launch.admits_arrayLengthLimit X.admits]; omega
  have hh1 : ¬ 4 * componentBytes (.array ty) > e.platform.maxHeapBytes := by
    rw [Launch.admits_maxHeapBytes X.admits]; show ¬ 4 * 4 > 536870912; omega
  have hl2 : ¬ k.toNatClampNeg > e.platform.arrayLengthLimit := by rw [Launch.admits_arrayLengthLimit X.admits]; omega
  have hh2 : ¬ k.toNatClampNeg * componentBytes ty > e.platform.maxHeapBytes := by rw [Launch.admits_maxHeapBytes X.admits]; omega
  obtain ⟨L, XF, hL⟩ := kgF_X X₁ cA comp k.toNatClampNeg (defaultValue ty) 4
  obtain ⟨g1, -, g3, -⟩ := kgF_G (T.setVm vm₁) cA comp k.toNatClampNeg (defaultValue ty) 4
  have hsame : ∀ a, a < T.heap.size → (kgF (T.setVm vm₁) cA comp k.toNatClampNeg (defaultValue ty) 4).heap[a]? = T.heap[a]? := g3
  have hsz : (kgF (T.setVm vm₁) cA comp k.toNatClampNeg (defaultValue ty) 4).heap.size = T.heap.size + 1 + 4 := g1
  have XF : Stand p l e R s m args below meth c (kgF (T.setVm vm₁) cA comp k.toNatClampNeg (defaultValue ty) 4) (locs ++ L) (cells + 5) (slots + (4 + 4 * k.toNatClampNeg)) := by
    have q := XF
    rw [show cells + 1 + 4 = cells + 5 by omega, show slots + 4 + 4 * k.toNatClampNeg = slots + (4 + 4 * k.toNatClampNeg) by omega] at q
    exact q
  obtain ⟨q1, q2⟩ := kgF_H (T.setVm vm₁) cA comp k.toNatClampNeg (defaultValue ty) 4
  obtain ⟨t, a1, b1⟩ := kk T.heap.size cA comp _ (locs ++ L) rfl hnameA hcomp q1 (fun j hj => (q2 j hj).trans (by rw [← arrV_new])) (hP.kept (fun i q hq => hsame q.1 (hP i q hq).lt)) ⟨by rw [hsz]; have := hS.1; omega, fun q h1 h2 => (hsame q (Nat.lt_of_lt_of_le h1 hS.1)).trans (hS.2.1 q h1 h2), fun x hx => by
    rcases List.mem_append.mp hx with q | q
    · exact hS.2.2 x q
    · rw [hL x q]; exact hA _ hS.1⟩ _ rfl XF
  refine ⟨t, ?_, b1⟩
  jvm_step X.here [hexec, hdg]
  simp only [multianewarray.sem, wp_bind', W.resolveClassAt_links (State.method?_setTop (F0 m pc ls (.int k :: .int 4 :: rest)) X.here.top) hg₁]
  rw [W.popN, if_neg (by decide)]
  refine ⟨F0 m pc ls (.int k :: .int 4 :: rest), State.topJava?_setTop' (s := T.setVm vm₁) _ X.here.top, [.int 4, .int k], rest, rfl, rfl, ?_⟩
  simp only [List.mapM_cons, List.mapM_nil, wp_bind', wp_pure']
  have eS : ((T.setTop (F0 m pc ls (.int k :: .int 4 :: rest))).setVm vm₁).setTop (F0 m pc ls rest) = (T.setVm vm₁).setTop (F0 m pc ls rest) := by
    show ((T.setVm vm₁).setTop _).setTop _ = _
    rw [State.setTop_setTop]
  show wp _ _ _ e _ _ (((T.setTop (F0 m pc ls (.int k :: .int 4 :: rest))).setVm vm₁).setTop (F0 m pc ls rest))
  rw [eS]
  refine kg_make X₁ (F0 m pc ls rest) hkA₁ hkindA₁ hkC₁ hkindC₁ hk hl1 hh1 hl2 hh2 hdf hcells hslots (fun d' acts' => ?_)
  simp only [wp_bind', W.mark, W.pushRef, State.topJava?_setTop' _ XF.here.top, Option.some.injEq, exists_eq_left', State.setTop_setTop, State.heap_setTop]
  intro acts
  simp [jvm, XF.here.top]
  exact a1
end KG
/-- what Giver() needs of the tables beside the words; what NoticeMarket() needs -/
abbrev exG (U : State) : Prop := aoA .long U ∧ aoA .int U
abbrev exC (U : State) : Prop := va_AO RX2 U ∧ va_AO RX0 U ∧ va_AO RX3 U ∧ exG U ∧ va_Nw (.methodLinkNest RX5 33 yX1_init "NoticeMarket") U
theorem exG_ok {s : State} (h : exG s) : exOk s exG := ⟨fun _ U _ _ q => ⟨aoA_moved (u := U) (Vm.Alike.refl U.vm) q.1, aoA_moved (u := U) (Vm.Alike.refl U.vm) q.2⟩, fun _ hW => ⟨aoA_moved hW.alike h.1, aoA_moved hW.alike h.2⟩⟩
theorem exC_ok {s : State} (h : exC s) : exOk s exC := ⟨fun a U g mk q => ⟨va_AO.moved (u := U) (Vm.Alike.refl U.vm) q.1, va_AO.moved (u := U) (Vm.Alike.refl U.vm) q.2.1, va_AO.moved (u := U) (Vm.Alike.refl U.vm) q.2.2.1, (exG_ok q.2.2.2.1).1 a U g mk q.2.2.2.1, va_Nw.same rfl (u := U) rfl q.2.2.2.2⟩, fun U hW => ⟨va_AO.moved hW.alike h.1, va_AO.moved hW.alike h.2.1, va_AO.moved hW.alike h.2.2.1, (exG_ok h.2.2.2.1).2 U hW, va_Nw.warmM hW h.2.2.2.2⟩⟩
theorem va_D_ap {A : Nat → Prop} {ws ws2 : va_W} {N : Nat} (hD : va_D A ws) (hlt : ∀ (k : Nat) (q : Nat × va_E), ws[k]? = some q → q.1 < N) (hD2 : va_D A ws2) (hge : ∀ (k : Nat) (q : Nat × va_E), ws2[k]? = some q → N ≤ q.1) : va_D A (ws ++ ws2) := by
  have hc : ∀ (k : Nat) (q : Nat × va_E), (ws ++ ws2)[k]? = some q → (k < ws.length ∧ ws[k]? = some q) ∨ (ws.length ≤ k ∧ ws2[k - ws.length]? = some q) := fun k q h => by
    rcases Nat.lt_or_ge k ws.length with z | z
    · rw [List.getElem?_append_left z] at h; exact Or.inl ⟨z, h⟩
    · rw [List.getElem?_append_right z] at h; exact Or.inr ⟨z, h⟩
  refine ⟨fun i j x y hi hj hxy => ?_, fun k q h => ?_⟩
  · rcases hc i x hi with ⟨z1, z2⟩ | ⟨z1, z2⟩ <;> rcases hc j y hj with ⟨y1, y2⟩ | ⟨y1, y2⟩
    · exact hD.1 i j x y z2 y2 hxy
    · have := hlt i x z2; have := hge _ y y2; omega
    · have := hge _ x z2; have := hlt j y y2; omega
    · have := hD2.1 _ _ x y z2 y2 hxy; omega
  · rcases hc k q h with ⟨z1, z2⟩ | ⟨z1, z2⟩
    · exact hD.2 k q z2
    · exact hD2.2 _ q z2
/-- the five cells of new T[4][K] -/
def gW (q : Nat) (cA comp : ClassId) (a : vp_A) : va_W := [(q, .inl (cA, 4, .inr (.inr (.inr (.inr (fun i => if i < 4 then some (q + 1 + i) else none)))))), (q + 1, .inl (comp, a)), (q + 2, .inl (comp, a)), (q + 3, .inl (comp, a)), (q + 4, .inl (comp, a))]
theorem gW_at {q : Nat} {cA comp : ClassId} {a : vp_A} : ∀ (k : Nat) (x : Nat × va_E), (gW q cA comp a)[k]? = some x → x.1 = q + k ∧ k < 5
  | 0, x, h => by cases h; exact ⟨rfl, by omega⟩
  | 1, x, h => by cases h; exact ⟨rfl, by omega⟩
  | 2, x, h => by cases h; exact ⟨rfl, by omega⟩
  | 3, x, h => by cases h; exact ⟨rfl, by omega⟩
  | 4, x, h => by cases h; exact ⟨rfl, by omega⟩
  | k + 5, x, h => by simp [gW] at h
theorem gW_P {D : va_G} {cl : List vw_C} {q : Nat} {cA comp : ClassId} {a : vp_A} {N : Nat} {z : Nat → Value} {H : Heap} (hz : vp_cell comp a = arrV comp N z) (h0 : H[q]? = some (arrV cA 4 (fun j => if j < 4 then .ref (q + 1 + j) else .null))) (h1 : ∀ j, j < 4 → H[q + 1 + j]? = some (arrV comp N z)) : va_P D cl (gW q cA comp a) H
  | 0, x, h => by
    cases h
    show H[q]? = some (vp_cell _ _)
    rw [h0, vp_cell_q]
    congr 2
    funext j
    by_cases y : j < 4
    · rw [if_pos y, if_pos y]; rfl
    · rw [if_neg y, if_neg y]; rfl
  | 1, x, h => by cases h; show H[q + 1]? = some (vp_cell _ _); rw [hz]; exact h1 0 (by omega)
  | 2, x, h => by cases h; show H[q + 2]? = some (vp_cell _ _); rw [hz]; exact h1 1 (by omega)
  | 3, x, h => by cases h; show H[q + 3]? = some (vp_cell _ _); rw [hz]; exact h1 2 (by omega)
  | 4, x, h => by cases h; show H[q + 4]? = some (vp_cell _ _); rw [hz]; exact h1 3 (by omega)
  | k + 5, x, h => by simp [gW] at h
