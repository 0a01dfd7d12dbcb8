/-! the words: all good words of the tables, one list for every method -/
def lw_B : List Cond := lw_tbl.filter goodWord
theorem lb_m {w : Cond} (h : w ∈ lw_tbl) (g : goodWord w = true) : w ∈ lw_B := List.mem_filter.mpr ⟨h, g⟩
theorem lb_t {w : Cond} (h : w ∈ tables_1) (g : goodWord w = true) : w ∈ lw_B := lb_m (List.mem_append_right _ h) g
theorem lb_0 (i : Nat) {w : Cond} (h : (k2_sels lw_privs)[i]? = some w) (g : goodWord w = true) : w ∈ lw_B := lb_m (List.mem_append_left _ (List.mem_of_getElem? h)) g
theorem lb_1 (i : Nat) {w : Cond} (h : tables_1_1[i]? = some w) (g : goodWord w = true) : w ∈ lw_B := lb_t (List.mem_append_left _ (List.mem_of_getElem? h)) g
theorem lb_2 (i : Nat) {w : Cond} (h : tables_1_2[i]? = some w) (g : goodWord w = true) : w ∈ lw_B := lb_t (List.mem_append_right _ (List.mem_append_left _ (List.mem_of_getElem? h))) g
theorem lb_3 (i : Nat) {w : Cond} (h : tables_1_3[i]? = some w) (g : goodWord w = true) : w ∈ lw_B := lb_t (List.mem_append_right _ (List.mem_append_right _ (List.mem_append_left _ (List.mem_of_getElem? h)))) g
theorem lb_4 (i : Nat) {w : Cond} (h : tables_1_4[i]? = some w) (g : goodWord w = true) : w ∈ lw_B := lb_t (List.mem_append_right _ (List.mem_append_right _ (List.mem_append_right _ (List.mem_append_left _ (List.mem_of_getElem? h))))) g
theorem lb_5 (i : Nat) {w : Cond} (h : tables_1_5[i]? = some w) (g : goodWord w = true) : w ∈ lw_B := lb_t (List.mem_append_right _ (List.mem_append_right _ (List.mem_append_right _ (List.mem_append_right _ (List.mem_of_getElem? h))))) g
theorem lb_gd {w : Cond} (h : w ∈ lw_B) : (w.onTables && w.keeps) = true ∨ ∃ ty, w = .arrayClass ty := good_of_word (List.mem_filter.mp h).2
theorem lb_GI {ws : List Cond} (h : ∀ w ∈ ws, w ∈ lw_B) : GoodIn lw_B ws := fun w hw => ⟨h w hw, lb_gd (h w hw)⟩
theorem lb_c {c2 : Cond} (h : c2 ∈ lw_B) : ∀ w ∈ c2 :: lw_B, w ∈ lw_B := fun w hw => (List.mem_cons.mp hw).elim (fun e => by rw [e]; exact h) id
theorem lb_ps {ws : List Cond} (ps : List Nat) (hp : ws = ps.filterMap (fun i => tables_1[i]?)) (hg : ws.all goodWord = true) : ∀ w ∈ ws, w ∈ lw_B := by
  intro w hw
  have h1 := List.all_eq_true.mp hg w hw
  rw [hp] at hw
  obtain ⟨i, -, hi⟩ := List.mem_filterMap.mp hw
  exact lb_t (List.mem_of_getElem? hi) h1
theorem lb_V {own : String} {index : Nat} {C : String} {y : MethodName} {c2 : Cond} (w1 : Cond.methodLink own index y ∈ lw_B) (w2 : Cond.instanceMethod y ∈ lw_B) (w3 : Cond.selects C y y ∈ lw_B) (w4 : Cond.initialized C ∈ lw_B) (w5 : c2 ∈ lw_B) : GoodIn lw_B (wsV own index C y (c2 :: lw_B)) := lb_GI (fun w hw => by
  rcases List.mem_append.mp hw with h | h
  · simp only [List.mem_cons, List.not_mem_nil, or_false] at h
    rcases h with rfl | rfl | rfl | rfl <;> assumption
  · exact lb_c w5 w h)
theorem lb_S {own : String} {index : Nat} {y : MethodName} {c2 : Cond} (w1 : Cond.methodLink own index y ∈ lw_B) (w2 : Cond.static y ∈ lw_B) (w3 : Cond.initialized y.cls ∈ lw_B) (w5 : c2 ∈ lw_B) : GoodIn lw_B (va_wsS own index y (c2 :: lw_B)) := lb_GI (fun w hw => by
  rcases List.mem_append.mp hw with h | h
  · simp only [List.mem_cons, List.not_mem_nil, or_false] at h
    rcases h with rfl | rfl | rfl <;> assumption
  · exact lb_c w5 w h)
/-- a room by the depth of calls below -/
abbrev rmD (d cells slots : Nat) : Room := { frames := d, cells := cells, slots := slots, locals := 40 * d }
/-- methods that change nothing: their end -/
abbrev qR (post : Int32 → Prop) : Array Value → State → Outcome → State → Prop := va_Qi (fun r (_ : Unit) => post r) (fun _ _ => True) (fun _ => False)
abbrev qRl (post : Int64 → Prop) : Array Value → State → Outcome → State → Prop := va_Ql (fun r (_ : Unit) => post r) (fun _ _ => True) (fun _ => False)
/-- a static method that changes nothing -/
abbrev mS (l : Launch) (y : MethodName) (bytes : ByteArray) (maxL : Nat) (ret : FieldType) (d : Nat) (As : List Value) (post : Int32 → Prop) : Prop :=
  Met l y (Cond.code y bytes maxL (some ret) :: lw_B) (rmD d 0 0) (va_Pc As (fun _ => True)) (qR post) 0 0 (fun _ => False)
/-- a method of an object that changes nothing -/
abbrev mV (l : Launch) (y : MethodName) (bytes : ByteArray) (maxL : Nat) (ret : FieldType) (d : Nat) (D : va_G) (wc : va_W) (tc : List (ClassId × FieldType)) (As : List Value) (post : Int32 → Prop) : Prop :=
  Met l y (Cond.code y bytes maxL (some ret) :: lw_B) (rmD d 0 0) (va_Pc As (fun U => va_P D vwCl wc U.heap ∧ va_K D vwCl tc U)) (qR post) 0 0 (fun _ => False)
abbrev mVl (l : Launch) (y : MethodName) (bytes : ByteArray) (maxL : Nat) (ret : FieldType) (d : Nat) (D : va_G) (wc : va_W) (tc : List (ClassId × FieldType)) (As : List Value) (post : Int64 → Prop) : Prop :=
  Met l y (Cond.code y bytes maxL (some ret) :: lw_B) (rmD d 0 0) (va_Pc As (fun U => va_P D vwCl wc U.heap ∧ va_K D vwCl tc U)) (qRl post) 0 0 (fun _ => False)
theorem k_no1 (x : Int32) : ¬ (0 ≤ x ∧ x ≤ 0 - 1) := by
  rw [show (0 : Int32) - 1 = -1 from rfl]; simp only [Int32.le_iff_toInt_le, Int32.reduceToInt]; have := (show (-1 : Int32).toInt = -1 from rfl); omega
theorem k_ite {P Q : Prop} [Decidable P] [Decidable Q] (h : P ↔ Q) (a b : Int32) : (if P then a else b) = (if Q then a else b) := by
  by_cases hp : P
  · rw [if_pos hp, if_pos (h.mp hp)]
  · rw [if_neg hp, if_neg (fun q => hp (h.mpr q))]
theorem k_ff {P : Prop} [Decidable P] {r : Int32} (h : r = if P then 1 else 0) (c : r = 0) : ¬ P := fun q => by rw [h, if_pos q] at c; exact absurd c (by decide)
theorem k_ft {P : Prop} [Decidable P] {r : Int32} (h : r = if P then 1 else 0) (c : ¬ r = 0) : P := Classical.byContradiction (fun q => c (by rw [h, if_neg q]))
theorem k_sw5 (x : Int32) : (x.toInt < 0 ∨ 5 < x.toInt) ∨ x = 0 ∨ x = 1 ∨ x = 2 ∨ x = 3 ∨ x = 4 ∨ x = 5 := by
  simp only [← Int32.toInt_inj, Int32.reduceToInt]; omega
theorem k_sw22 (x : Int32) : (x.toInt < 0 ∨ 22 < x.toInt) ∨ x = 0 ∨ x = 1 ∨ x = 2 ∨ x = 3 ∨ x = 4 ∨ x = 5 ∨ x = 6 ∨ x = 7 ∨ x = 8 ∨ x = 9 ∨ x = 10 ∨ x = 11 ∨ x = 12 ∨ x = 13 ∨ x = 14 ∨ x = 15 ∨ x = 16 ∨ x = 17 ∨ x = 18 ∨ x = 19 ∨ x = 20 ∨ x = 21 ∨ x = 22 := by
  simp only [← Int32.toInt_inj, Int32.reduceToInt]; omega
theorem k_no0 (x : Int32) : ¬ (0 ≤ x ∧ x < 0) := by
  simp only [Int32.lt_iff_toInt_lt, Int32.le_iff_toInt_le]; omega
section KC
variable {p : Program} {l : Launch} {e : Env} {R : Room} {s : State} {m : MethodId} {args : Array Value} {below : List Frame} {meth : Method} {c : Code} {H : Heap} {locs : List Loc} {cells slots : Nat} {Q : State → Prop}
variable {A0 : Nat → Prop} {H0 : Heap} {D : va_G} {cl : List vw_C} {ws : va_W} {pc : Nat} {ls : Array Slot} {st0 rest : List Value} {y : MethodName} {bytes cc : ByteArray} {maxL nL index d n : Nat} {ret : FieldType} {own : String} {As : List Value} {post : Int32 → Prop}
theorem k_ro {a : Array Value} (hr : va_Run p l e R s m args below meth c H locs cells slots 0 0 (F0 m pc ls st0) rest (qR post a) (fun _ => False)) (hS : va_S A0 H0 H locs) (hP : va_P D cl ws H)
    (kk : ∀ (r : Int32) (H1 : Heap) (locs1 : List Loc), post r → va_P D cl ws H1 → va_S A0 H0 H1 locs1 → W p l e R s m args below meth c H1 locs1 cells slots Q (F0 m (pc + 3) ls (.int r :: rest))) : W p l e R s m args below meth c H locs cells slots Q (F0 m pc ls st0) :=
  va_calli hr hS (fun _ _ h => h.elim) (fun _ h => h.elim) (fun r _ _ H1 locs1 _ _ hp _ _ hk hS1 => kk r H1 locs1 hp (hP.kept fun k q hq => hk q.1 (hP k q hq).lt id) hS1)
/-- a call of a static method that changes nothing -/
theorem k_S (S : CallFix p m c cc nL s args lw_B own) (hM : mS l y bytes maxL ret d As post) (n : Nat) (w1 : Cond.methodLink own index y ∈ lw_B) (w2 : Cond.static y ∈ lw_B) (w3 : Cond.initialized y.cls ∈ lw_B) (w4 : Cond.code y bytes maxL (some ret) ∈ lw_B)
    (hd : y.cls ≠ "java/lang/invoke/MethodHandle" ∧ y.cls ≠ "java/lang/invoke/VarHandle" ∧ (parseMethodDescriptor y.desc).map (fun d => d.parameters.length) = some n) (hR : d + 1 ≤ R.frames ∧ 8 + (maxL + 11) + 40 * d ≤ R.locals)
    (hn : As.length = n) (hls : ls.size = nL) (hst : st0 = As.reverse ++ rest) (hW : (rest.map fun v => v.category).sum ≤ 8) (hdg : decode cc pc = .ok (.invokestatic index, 3)) (hf : cells + 0 ≤ R.cells ∧ slots + 0 ≤ R.slots)
    (hS : va_S A0 H0 H locs) (hP : va_P D cl ws H)
    (kk : ∀ (r : Int32) (H1 : Heap) (locs1 : List Loc), post r → va_P D cl ws H1 → va_S A0 H0 H1 locs1 → W p l e R s m args below meth c H1 locs1 cells slots Q (F0 m (pc + 3) ls (.int r :: rest))) : W p l e R s m args below meth c H locs cells slots Q (F0 m pc ls st0) :=
  k_ro (va_runS (As := As) (rest := rest) S hM (va_cwS n S.2.2.2.2 (lb_S w1 w2 w3 w4) rfl rfl rfl hd hR) ⟨fun _ _ _ _ q => q, fun _ _ _ => ⟨rfl, trivial⟩⟩ rfl hn hls hst (lv_room hW) hdg hf) hS hP kk
/-- a call of a method of an object that changes nothing -/
theorem k_V {wc : va_W} {tc : List (ClassId × FieldType)} {b ci q0 : Nat} {fs : List Value} {q : vw_C} (S : CallFix p m c cc nL s args lw_B own) (hM : mV l y bytes maxL ret d D wc tc (.ref b :: As) post) (n : Nat) (w1 : Cond.methodLink own index y ∈ lw_B) (w2 : Cond.instanceMethod y ∈ lw_B) (w3 : Cond.selects q.1 y y ∈ lw_B) (w4 : Cond.initialized q.1 ∈ lw_B) (w5 : Cond.code y bytes maxL (some ret) ∈ lw_B)
    (hd : y.cls = q.1 ∧ y.cls ≠ "java/lang/invoke/MethodHandle" ∧ y.cls ≠ "java/lang/invoke/VarHandle" ∧ (parseMethodDescriptor y.desc).map (fun d => d.parameters.length) = some n) (hR : d + 1 ≤ R.frames ∧ 8 + (maxL + 11) + 40 * d ≤ R.locals)
    (hPc : va_P D vwCl wc H) (hKc : va_K D vwCl tc s) (hc : vwCl[ci]? = some q) (he : wc[q0]? = some (b, .inr (ci, fs)))
    (hn : As.length = n) (hls : ls.size = nL) (hst : st0 = As.reverse ++ .ref b :: rest) (hW : (rest.map fun v => v.category).sum ≤ 8) (hdg : decode cc pc = .ok (.invokevirtual index, 3)) (hf : cells + 0 ≤ R.cells ∧ slots + 0 ≤ R.slots)
    (hS : va_S A0 H0 H locs) (hP : va_P D cl ws H)
    (kk : ∀ (r : Int32) (H1 : Heap) (locs1 : List Loc), post r → va_P D cl ws H1 → va_S A0 H0 H1 locs1 → W p l e R s m args below meth c H1 locs1 cells slots Q (F0 m (pc + 3) ls (.int r :: rest))) : W p l e R s m args below meth c H locs cells slots Q (F0 m pc ls st0) :=
  k_ro (va_runV (As := As) (rest := rest) S hM (cwV n S.2.2.2.2 (lb_V w1 w2 w3 w4 w5) rfl rfl rfl hd hR) ⟨fun a U g mk q => ⟨q.1, q.2.1, va_K.moved (u := U) (U := U.calling g mk a) (Vm.Alike.refl U.vm) q.2.2⟩, va_recv hKc hPc hc he, fun U hU hW => ⟨rfl, by rw [hU]; exact hPc, va_K.moved hW.alike hKc⟩⟩ rfl hn hls hst (lv_room hW) hdg hf) hS hP kk
end KC
set_option maxRecDepth 20000 in
theorem uB0 : ∀ w ∈ wsX00, w ∈ lw_B := lb_ps [239, 241, 243, 245, 247, 249, 251, 253, 255, 257, 259, 261, 263, 265, 267, 269] (by decide +kernel) (by decide +kernel)
set_option maxRecDepth 20000 in
theorem uB1 : ∀ w ∈ wsX10, w ∈ lw_B := lb_ps [43, 45, 47, 49, 51, 53, 55, 57, 59] (by decide +kernel) (by decide +kernel)
set_option maxRecDepth 20000 in
theorem uB2 : ∀ w ∈ wsX20, w ∈ lw_B := lb_ps [140, 142, 144, 146] (by decide +kernel) (by decide +kernel)
set_option maxRecDepth 20000 in
theorem uB3 : ∀ w ∈ wsX30, w ∈ lw_B := lb_ps [520, 522, 524, 526, 528, 530, 532, 534, 536, 538, 540, 542] (by decide +kernel) (by decide +kernel)
set_option maxRecDepth 20000 in
theorem uB4 : ∀ w ∈ wsX40, w ∈ lw_B := lb_ps [196, 198, 200, 202, 204, 206, 208, 210] (by decide +kernel) (by decide +kernel)
set_option maxRecDepth 20000 in
theorem uB5 : ∀ w ∈ wsX50, w ∈ lw_B := lb_ps [81, 83, 85, 87, 89, 91, 93, 95, 97, 99, 101, 103, 105, 107, 109, 111, 113] (by decide +kernel) (by decide +kernel)
set_option maxRecDepth 20000 in
theorem uB6 : ∀ w ∈ wsX60, w ∈ lw_B := lb_ps [680, 682, 684, 686, 688, 690, 692, 694, 696, 698, 700, 702, 704, 706, 708, 710, 712, 714, 716, 718, 720, 722, 724, 726, 728, 730, 732, 734, 736, 738, 740, 742, 744, 746, 748, 750, 752, 754, 756, 758, 760, 762, 764, 766, 768, 770, 772, 774, 776, 778, 780] (by decide +kernel) (by decide +kernel)
