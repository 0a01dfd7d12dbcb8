section CA
variable {K : Nat → ClassId} {np nc ns lk lc tp cp gp tp' cp' gp' : Nat} {G J mk st : Nat → Int32} {ap : Nat → Int64} {kd sn : Nat → Nat} {L : List Nat} {f : Nat → va_E} {a : Nat}
theorem cI.at (h : cI K np nc ns lk lc tp cp gp G J mk st ap kd sn L f) (hm : a ∈ L) {κ : Nat} (hk : kd a = κ) : cOk K np nc ns lk lc tp cp gp G J mk st ap kd sn L a κ (f a) := by rw [← hk]; exact h.1 a hm
theorem cI.a2 (h : cI K np nc ns lk lc tp cp gp G J mk st ap kd sn L f) (hm : a ∈ L) (hk : kd a = 2) : okR K kd L 3 8 np 16 (f a) := (h.at hm hk).2.1 rfl
theorem cI.a3 (h : cI K np nc ns lk lc tp cp gp G J mk st ap kd sn L f) (hm : a ∈ L) (hk : kd a = 3) : okC K nc kd sn L (f a) := (h.at hm hk).2.2.1 rfl
theorem cI.a4 (h : cI K np nc ns lk lc tp cp gp G J mk st ap kd sn L f) (hm : a ∈ L) (hk : kd a = 4) : okR K kd L 5 1000 ns 18 (f a) := (h.at hm hk).2.2.2.1 rfl
theorem cI.a5 (h : cI K np nc ns lk lc tp cp gp G J mk st ap kd sn L f) (hm : a ∈ L) (hk : kd a = 5) : f a = .inl (K 0, 100, .inl mk) := (h.at hm hk).2.2.2.2.1 rfl
theorem cI.a7 (h : cI K np nc ns lk lc tp cp gp G J mk st ap kd sn L f) (hm : a ∈ L) (hk : kd a = 7) : okV K nc gp (f a) := (h.at hm hk).2.2.2.2.2.1 rfl
theorem cI.a8 (h : cI K np nc ns lk lc tp cp gp G J mk st ap kd sn L f) (hm : a ∈ L) (hk : kd a = 8) : ∃ g : Nat → Int32, f a = .inl (K 0, 4, .inl g) := (h.at hm hk).2.2.2.2.2.2.1 rfl
theorem cI.a9 (h : cI K np nc ns lk lc tp cp gp G J mk st ap kd sn L f) (hm : a ∈ L) (hk : kd a = 9) : okV K nc cp (f a) := (h.at hm hk).2.2.2.2.2.2.2.1 rfl
theorem cI.a10 (h : cI K np nc ns lk lc tp cp gp G J mk st ap kd sn L f) (hm : a ∈ L) (hk : kd a = 10) : okV K nc tp (f a) := (h.at hm hk).2.2.2.2.2.2.2.2.1 rfl
theorem cI.a11 (h : cI K np nc ns lk lc tp cp gp G J mk st ap kd sn L f) (hm : a ∈ L) (hk : kd a = 11) : okR K kd L 6 4 4 14 (f a) := (h.at hm hk).2.2.2.2.2.2.2.2.2.1 rfl
theorem cI.a12 (h : cI K np nc ns lk lc tp cp gp G J mk st ap kd sn L f) (hm : a ∈ L) (hk : kd a = 12) : okR K kd L 7 4 4 15 (f a) := (h.at hm hk).2.2.2.2.2.2.2.2.2.2.1 rfl
theorem cI.a13 (h : cI K np nc ns lk lc tp cp gp G J mk st ap kd sn L f) (hm : a ∈ L) (hk : kd a = 13) : ∃ g : Nat → Int64, f a = .inl (K 1, 40, .inr (.inl g)) := (h.at hm hk).2.2.2.2.2.2.2.2.2.2.2.1 rfl
theorem cI.a14 (h : cI K np nc ns lk lc tp cp gp G J mk st ap kd sn L f) (hm : a ∈ L) (hk : kd a = 14) : ∃ g : Nat → Int64, f a = .inl (K 1, 40, .inr (.inl g)) := (h.at hm hk).2.2.2.2.2.2.2.2.2.2.2.2.1 rfl
theorem cI.a15 (h : cI K np nc ns lk lc tp cp gp G J mk st ap kd sn L f) (hm : a ∈ L) (hk : kd a = 15) : ∃ g : Nat → Int32, f a = .inl (K 0, 40, .inl g) ∧ ∀ i, i < 40 → ∃ q : Nat, q < 40 ∧ (q < nc ∨ q = 0) ∧ g i = nI q := (h.at hm hk).2.2.2.2.2.2.2.2.2.2.2.2.2.1 rfl
theorem cI.a17 (h : cI K np nc ns lk lc tp cp gp G J mk st ap kd sn L f) (hm : a ∈ L) (hk : kd a = 17) : ∃ g : Nat → Int32, f a = .inl (K 0, 4, .inl g) := (h.at hm hk).2.2.2.2.2.2.2.2.2.2.2.2.2.2.1 rfl
theorem cI.s8 (h : cI K np nc ns lk lc tp cp gp G J mk st ap kd sn L f) (hm : a ∈ L) (hk : kd a = 8) (g : Nat → Int32) : cI K np nc ns lk lc tp cp gp G J mk st ap kd sn L (va_up f a (.inl (K 0, 4, .inl g))) := h.w hm (by rw [hk]; unfold cOk isO; simp)
theorem cI.s17 (h : cI K np nc ns lk lc tp cp gp G J mk st ap kd sn L f) (hm : a ∈ L) (hk : kd a = 17) (g : Nat → Int32) : cI K np nc ns lk lc tp cp gp G J mk st ap kd sn L (va_up f a (.inl (K 0, 4, .inl g))) := h.w hm (by rw [hk]; unfold cOk isO; simp)
theorem cI.s13 (h : cI K np nc ns lk lc tp cp gp G J mk st ap kd sn L f) (hm : a ∈ L) (hk : kd a = 13) (g : Nat → Int64) : cI K np nc ns lk lc tp cp gp G J mk st ap kd sn L (va_up f a (.inl (K 1, 40, .inr (.inl g)))) := h.w hm (by rw [hk]; unfold cOk isO; simp)
theorem cI.s14 (h : cI K np nc ns lk lc tp cp gp G J mk st ap kd sn L f) (hm : a ∈ L) (hk : kd a = 14) (g : Nat → Int64) : cI K np nc ns lk lc tp cp gp G J mk st ap kd sn L (va_up f a (.inl (K 1, 40, .inr (.inl g)))) := h.w hm (by rw [hk]; unfold cOk isO; simp)
theorem cI.s15 (h : cI K np nc ns lk lc tp cp gp G J mk st ap kd sn L f) (hm : a ∈ L) (hk : kd a = 15) {g : Nat → Int32} (hg : ∀ i, i < 40 → ∃ q : Nat, q < 40 ∧ (q < nc ∨ q = 0) ∧ g i = nI q) : cI K np nc ns lk lc tp cp gp G J mk st ap kd sn L (va_up f a (.inl (K 0, 40, .inl g))) := h.w hm (by rw [hk]; unfold cOk isO; simp; exact hg)
theorem cI.s5 (h : cI K np nc ns lk lc tp cp gp G J mk st ap kd sn L f) (hm : a ∈ L) (hk : kd a = 5) (g : Nat → Int32) : cI K np nc ns lk lc tp cp gp G J g st ap kd sn L (va_up f a (.inl (K 0, 100, .inl g))) :=
  h.cw hm (by rw [hk]; unfold cOk isO; simp) (fun _ _ => rfl) (fun _ _ => rfl) (Nat.le_refl _) (fun _ => Nat.le_refl _) (Nat.le_refl _) (fun _ => Nat.le_refl _) (fun _ => Nat.le_refl _) (Nat.le_refl _) (Nat.le_refl _) (fun _ _ _ _ => rfl) (fun _ _ _ _ => rfl) (fun q => absurd hk q) (fun _ => Nat.le_refl _) (fun _ => Nat.le_refl _) (fun _ => Nat.le_refl _)
theorem cI.s7 (h : cI K np nc ns lk lc tp cp gp G J mk st ap kd sn L f) (hm : a ∈ L) (hk : kd a = 7) {g : Nat → Int32} (hg : ∀ i, i < gp' → vld nc (g i)) : cI K np nc ns lk lc tp cp gp' G J mk st ap kd sn L (va_up f a (.inl (K 0, 4, .inl g))) :=
  h.cw hm (by rw [hk]; unfold cOk isO; simp; exact ⟨g, rfl, hg⟩) (fun _ _ => rfl) (fun _ _ => rfl) (Nat.le_refl _) (fun _ => Nat.le_refl _) (Nat.le_refl _) (fun _ => Nat.le_refl _) (fun _ => Nat.le_refl _) (Nat.le_refl _) (Nat.le_refl _) (fun _ _ _ _ => rfl) (fun _ _ _ _ => rfl) (fun _ => rfl) (fun _ => Nat.le_refl _) (fun _ => Nat.le_refl _) (fun q => absurd hk q)
theorem cI.s9 (h : cI K np nc ns lk lc tp cp gp G J mk st ap kd sn L f) (hm : a ∈ L) (hk : kd a = 9) {g : Nat → Int32} (hg : ∀ i, i < cp' → vld nc (g i)) : cI K np nc ns lk lc tp cp' gp G J mk st ap kd sn L (va_up f a (.inl (K 0, 4, .inl g))) :=
  h.cw hm (by rw [hk]; unfold cOk isO; simp; exact ⟨g, rfl, hg⟩) (fun _ _ => rfl) (fun _ _ => rfl) (Nat.le_refl _) (fun _ => Nat.le_refl _) (Nat.le_refl _) (fun _ => Nat.le_refl _) (fun _ => Nat.le_refl _) (Nat.le_refl _) (Nat.le_refl _) (fun _ _ _ _ => rfl) (fun _ _ _ _ => rfl) (fun _ => rfl) (fun _ => Nat.le_refl _) (fun q => absurd hk q) (fun _ => Nat.le_refl _)
theorem cI.s10 (h : cI K np nc ns lk lc tp cp gp G J mk st ap kd sn L f) (hm : a ∈ L) (hk : kd a = 10) {g : Nat → Int32} (hg : ∀ i, i < tp' → vld nc (g i)) : cI K np nc ns lk lc tp' cp gp G J mk st ap kd sn L (va_up f a (.inl (K 0, 4, .inl g))) :=
  h.cw hm (by rw [hk]; unfold cOk isO; simp; exact ⟨g, rfl, hg⟩) (fun _ _ => rfl) (fun _ _ => rfl) (Nat.le_refl _) (fun _ => Nat.le_refl _) (Nat.le_refl _) (fun _ => Nat.le_refl _) (fun _ => Nat.le_refl _) (Nat.le_refl _) (Nat.le_refl _) (fun _ _ _ _ => rfl) (fun _ _ _ _ => rfl) (fun _ => rfl) (fun q => absurd hk q) (fun _ => Nat.le_refl _) (fun _ => Nat.le_refl _)
end CA
/-- the numbers agree but for those at ks -/
def gS (ks : List Nat) (G G' : Nat → Int32) : Prop := ∀ k : Nat, k ∉ ks → G' k = G k
theorem gS.rf {ks : List Nat} {G : Nat → Int32} : gS ks G G := fun _ _ => rfl
theorem gS.up {ks : List Nat} {G G' : Nat → Int32} (h : gS ks G G') {k : Nat} (hk : k ∈ ks) (v : Int32) : gS ks G (va_up G' k v) := fun j hj => (va_up_ne _ _ (fun q => hj (by rw [q]; exact hk))).trans (h j hj)
theorem gS.tr {k1 k2 ks : List Nat} {G G' G2 : Nat → Int32} (h : gS k1 G G') (h2 : gS k2 G' G2) (h3 : ∀ k ∈ k1, k ∈ ks) (h4 : ∀ k ∈ k2, k ∈ ks) : gS ks G G2 := fun j hj => (h2 j (fun q => hj (h4 j q))).trans (h j (fun q => hj (h3 j q)))
section GK2
variable {p : Program} {l : Launch} {e : Env} {R : Room} {s : State} {m : MethodId} {args : Array Value} {below : List Frame} {meth : Method} {c : Code} {H : Heap} {locs : List Loc} {cells slots : Nat} {Q : State → Prop}
variable {cc : ByteArray} {pc : Nat} {ls : Array Slot} {rest : List Value} {D : va_G} {A : Nat → Prop} {a : Nat} {K : Nat → ClassId} {L : List Nat} {f : Nat → va_E} {H0 : Heap}
theorem g_aldR (hexec : p.tables.exec = Jvm.exec) (hb : c.code = cc) (hK : va_K D vwCl (tyK K) s) (hP : va_P D vwCl (va_pl L f) H) (ha : a ∈ L) {t n : Nat} {g : Nat → Option Nat} (he : f a = .inl (K t, n, .inr (.inr (.inr (.inr g))))) {C : String} (ht : (tyK K)[t]? = some (K t, .object C)) {i : Int32} (hin : vp_in i n) {b : Nat} (hv : g i.toNatClampNeg = some b) (hdg : decode cc pc = .ok (.aaload, 1))
    (kk : W p l e R s m args below meth c H locs cells slots Q (F0 m (pc + 1) ls (.ref b :: rest))) : W p l e R s m args below meth c H locs cells slots Q (F0 m pc ls (.int i :: .ref a :: rest)) := by
  obtain ⟨q0, hq⟩ := g_at ha he
  refine va_aldq hexec hb hK hP q0 t hq ht hin hdg ?_
  rw [hv]; exact kk
theorem g_ald2 (hexec : p.tables.exec = Jvm.exec) (hb : c.code = cc) (hK : va_K D vwCl (tyK K) s) (hP : va_P D vwCl (va_pl L f) H) (ha : a ∈ L) {t n : Nat} {g : Nat → Option Nat} (he : f a = .inl (K t, n, .inr (.inr (.inr (.inr g))))) {ty : FieldType} (ht : (tyK K)[t]? = some (K t, .array ty)) {i : Int32} (hin : vp_in i n) {b : Nat} (hv : g i.toNatClampNeg = some b) (hdg : decode cc pc = .ok (.aaload, 1))
    (kk : W p l e R s m args below meth c H locs cells slots Q (F0 m (pc + 1) ls (.ref b :: rest))) : W p l e R s m args below meth c H locs cells slots Q (F0 m pc ls (.int i :: .ref a :: rest)) := by
  obtain ⟨q0, hq⟩ := g_at ha he
  have hlt : i.toNatClampNeg < n := Nat.not_le.mp fun q => hin (Or.inr q)
  refine W.aald (v := va_rf (g i.toNatClampNeg)) (ty := .array ty) hexec hb (hP q0 _ hq) ((hK.2 t _ ht).1 n (fun j => va_rf (g j))) rfl (fun q => by cases q) (by show ¬ (i < 0 ∨ (arrV _ _ _).slots.size ≤ _); rw [arrV_size]; exact hin) (by show (arrV _ _ _).slots[_]? = _; rw [arrV_read _ _ hlt]) rfl rfl hdg ?_
  rw [hv]; exact kk
end GK2
