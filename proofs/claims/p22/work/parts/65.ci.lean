/-! THE CLASS'S HEAP, TYPED: each address in L has a kind (kd), and its cell is as its kind says.
kinds: 1 market, 2 pages, 3 campaigns, 4 sales, 5 marks, 6 giver, 7 given, 8 prices, 9 chosen, 10 trial, 11 weights, 12 order, 13 apartFrom, 14 a row of weights, 15 a row of order, 16 page, 17 sizes, 18 sale, 19 tally, 20 campaign; 0: nothing is said -/
/-- the types of an object's fields: 1 int, 2 long, 3 the market's numbers, 4 the giver's, 5 places, 6 a page's number, 7 a campaign's number, 8 the sale ahead, 9 the newest sale, 10 stopped, 11 apart, 100 + k a reference to kind k -/
def ftb (k : Nat) : List Nat :=
  if k = 1 then [102, 103, 104, 105, 106, 107, 108, 3, 3, 3, 3, 3, 3, 3, 3, 3, 3] else if k = 6 then [109, 110, 111, 112, 113, 4, 4, 2, 2] else if k = 16 then [117, 5, 1, 2] else
  if k = 18 then [1, 1, 6, 1, 7, 1, 1, 1, 1, 1, 1, 8] else if k = 19 then [1, 1, 1, 1, 1, 1, 1, 9] else if k = 20 then [1, 1, 1, 1, 1, 119, 1, 1, 1, 1, 1, 10, 11, 1, 1, 2] else []
def cls (k : Nat) : Nat := if k = 1 then 5 else if k = 6 then 1 else if k = 16 then 2 else if k = 18 then 3 else if k = 19 then 4 else 0
def isO (k : Nat) : Bool := k == 1 || k == 6 || k == 16 || k == 18 || k == 19 || k == 20
/-- a number that names a campaign, or none -/
def vld (nc : Nat) (x : Int32) : Prop := x = (-1) ∨ ∃ q : Nat, q < nc ∧ x = nI q
section CI
variable (K : Nat → ClassId) (np nc ns lk lc tp cp gp : Nat) (G J mk st : Nat → Int32) (ap : Nat → Int64) (kd sn : Nat → Nat) (L : List Nat)
def fvOk (t k a : Nat) (o : Option Value) : Prop :=
  (t = 1 → ∃ x, o = some (.int x)) ∧ (t = 2 → ∃ x, o = some (.long x)) ∧ (t = 3 → o = some (.int (G k))) ∧ (t = 4 → o = some (.int (J k))) ∧ (t = 5 → 1 ≤ sn a ∧ sn a ≤ 4 ∧ o = some (.int (nI (sn a)))) ∧ (t = 6 → ∃ q : Nat, q < np ∧ o = some (.int (nI q))) ∧ (t = 7 → ∃ q : Nat, q < nc ∧ o = some (.int (nI q))) ∧
  (t = 8 → o = some .null ∨ ∃ b, b ∈ L ∧ kd b = 18 ∧ sn b < sn a ∧ o = some (.ref b)) ∧ (t = 9 → o = some .null ∨ ∃ b, b ∈ L ∧ kd b = 18 ∧ sn b < lk ∧ o = some (.ref b)) ∧ (t = 10 → o = some (.int (st (sn a)))) ∧ (t = 11 → o = some (.long (ap (sn a)))) ∧ (100 ≤ t → ∃ b, b ∈ L ∧ kd b = t - 100 ∧ o = some (.ref b))
def okO (k a : Nat) (e : va_E) : Prop := ∃ fs : List Value, e = .inr (cls k, fs) ∧ fs.length = (ftb k).length ∧ ∀ i, i < (ftb k).length → fvOk np nc lk G J st ap kd sn L ((ftb k).getD i 0) i a fs[i]?
/-- a row of references: the first n point to kind k -/
def okR (t len n k : Nat) (e : va_E) : Prop := ∃ g : Nat → Option Nat, e = .inl (K t, len, .inr (.inr (.inr (.inr g)))) ∧ ∀ i, i < n → ∃ b, b ∈ L ∧ kd b = k ∧ g i = some b
def okC (e : va_E) : Prop := ∃ g : Nat → Option Nat, e = .inl (K 4, 40, .inr (.inr (.inr (.inr g)))) ∧ ∀ i, i < nc → ∃ b, b ∈ L ∧ kd b = 20 ∧ sn b = i ∧ g i = some b
/-- a row of ints: the first n name campaigns or none -/
def okV (n : Nat) (e : va_E) : Prop := ∃ g : Nat → Int32, e = .inl (K 0, 4, .inl g) ∧ ∀ i, i < n → vld nc (g i)
def cOk (a k : Nat) (e : va_E) : Prop :=
  (isO k = true → okO np nc lk G J st ap kd sn L k a e) ∧ (k = 2 → okR K kd L 3 8 np 16 e) ∧ (k = 3 → okC K nc kd sn L e) ∧ (k = 4 → okR K kd L 5 1000 ns 18 e) ∧ (k = 5 → e = .inl (K 0, 100, .inl mk)) ∧ (k = 7 → okV K nc gp e) ∧ (k = 8 → ∃ g : Nat → Int32, e = .inl (K 0, 4, .inl g)) ∧ (k = 9 → okV K nc cp e) ∧ (k = 10 → okV K nc tp e) ∧
  (k = 11 → okR K kd L 6 4 4 14 e) ∧ (k = 12 → okR K kd L 7 4 4 15 e) ∧ (k = 13 → ∃ g : Nat → Int64, e = .inl (K 1, 40, .inr (.inl g))) ∧ (k = 14 → ∃ g : Nat → Int64, e = .inl (K 1, 40, .inr (.inl g))) ∧ (k = 15 → ∃ g : Nat → Int32, e = .inl (K 0, 40, .inl g) ∧ ∀ i, i < 40 → ∃ q : Nat, q < 40 ∧ (q < nc ∨ q = 0) ∧ g i = nI q) ∧ (k = 17 → ∃ g : Nat → Int32, e = .inl (K 0, 4, .inl g)) ∧ (k = 20 → sn a < lc)
/-- the class's heap -/
def cI (f : Nat → va_E) : Prop := (∀ a ∈ L, cOk K np nc ns lk lc tp cp gp G J mk st ap kd sn L a (kd a) (f a)) ∧ (∀ a ∈ L, ∀ b ∈ L, kd a = kd b → 0 < kd a → kd a < 14 → a = b) ∧ (∀ a ∈ L, ∀ b ∈ L, kd a = 20 → kd b = 20 → sn a = sn b → a = b)
end CI
section CL
variable {K : Nat → ClassId} {np nc ns lk lc tp cp gp : Nat} {G J mk st : Nat → Int32} {ap : Nat → Int64} {kd sn : Nat → Nat} {L : List Nat} {f : Nat → va_E} {a κ k : Nat}
abbrev cX (K : Nat → ClassId) (np nc ns lk lc tp cp gp : Nat) (G J mk st : Nat → Int32) (ap : Nat → Int64) (kd sn : Nat → Nat) (L : List Nat) (f : Nat → va_E) : Prop := cI K np nc ns lk lc tp cp gp G J mk st ap kd sn L f
theorem cI.o (h : cI K np nc ns lk lc tp cp gp G J mk st ap kd sn L f) (hm : a ∈ L) (hk : kd a = κ) (ho : isO κ = true) {ci n : Nat} (hc : cls κ = ci) (hn : (ftb κ).length = n) : ∃ fs : List Value, f a = .inr (ci, fs) ∧ fs.length = n ∧ ∀ i, i < n → fvOk np nc lk G J st ap kd sn L ((ftb κ).getD i 0) i a fs[i]? := by
  obtain ⟨fs, h1, h2, h3⟩ := (h.1 a hm).1 (by rw [hk]; exact ho)
  rw [hk, hc] at h1
  rw [hk, hn] at h2 h3
  exact ⟨fs, h1, h2, h3⟩
/-- a field is read -/
theorem cI.g (h : cI K np nc ns lk lc tp cp gp G J mk st ap kd sn L f) (hm : a ∈ L) (hk : kd a = κ) (k : Nat) {ci t : Nat} (hx : isO κ = true ∧ cls κ = ci ∧ k < (ftb κ).length ∧ (ftb κ).getD k 0 = t) : ∃ fs : List Value, f a = .inr (ci, fs) ∧ fvOk np nc lk G J st ap kd sn L t k a fs[k]? := by
  obtain ⟨fs, h1, h2, h3⟩ := h.o hm hk hx.1 hx.2.1 rfl
  exact ⟨fs, h1, by rw [← hx.2.2.2]; exact h3 k hx.2.2.1⟩
theorem cI.gI (h : cI K np nc ns lk lc tp cp gp G J mk st ap kd sn L f) (hm : a ∈ L) (hk : kd a = κ) (k : Nat) {ci : Nat} (hx : isO κ = true ∧ cls κ = ci ∧ k < (ftb κ).length ∧ (ftb κ).getD k 0 = 1) : ∃ (fs : List Value) (x : Int32), f a = .inr (ci, fs) ∧ fs[k]? = some (.int x) := by
  obtain ⟨fs, h1, h2⟩ := h.g hm hk k hx
  obtain ⟨x, h3⟩ := h2.1 rfl
  exact ⟨fs, x, h1, h3⟩
theorem cI.gL (h : cI K np nc ns lk lc tp cp gp G J mk st ap kd sn L f) (hm : a ∈ L) (hk : kd a = κ) (k : Nat) {ci : Nat} (hx : isO κ = true ∧ cls κ = ci ∧ k < (ftb κ).length ∧ (ftb κ).getD k 0 = 2) : ∃ (fs : List Value) (x : Int64), f a = .inr (ci, fs) ∧ fs[k]? = some (.long x) := by
  obtain ⟨fs, h1, h2⟩ := h.g hm hk k hx
  obtain ⟨x, h3⟩ := h2.2.1 rfl
  exact ⟨fs, x, h1, h3⟩
theorem cI.gG (h : cI K np nc ns lk lc tp cp gp G J mk st ap kd sn L f) (hm : a ∈ L) (hk : kd a = κ) (k : Nat) {ci : Nat} (hx : isO κ = true ∧ cls κ = ci ∧ k < (ftb κ).length ∧ (ftb κ).getD k 0 = 3) : ∃ (fs : List Value), f a = .inr (ci, fs) ∧ fs[k]? = some (.int (G k)) := by
  obtain ⟨fs, h1, h2⟩ := h.g hm hk k hx
  exact ⟨fs, h1, h2.2.2.1 rfl⟩
theorem cI.gJ (h : cI K np nc ns lk lc tp cp gp G J mk st ap kd sn L f) (hm : a ∈ L) (hk : kd a = κ) (k : Nat) {ci : Nat} (hx : isO κ = true ∧ cls κ = ci ∧ k < (ftb κ).length ∧ (ftb κ).getD k 0 = 4) : ∃ (fs : List Value), f a = .inr (ci, fs) ∧ fs[k]? = some (.int (J k)) := by
  obtain ⟨fs, h1, h2⟩ := h.g hm hk k hx
  exact ⟨fs, h1, h2.2.2.2.1 rfl⟩
theorem cI.g5 (h : cI K np nc ns lk lc tp cp gp G J mk st ap kd sn L f) (hm : a ∈ L) (hk : kd a = κ) (k : Nat) {ci : Nat} (hx : isO κ = true ∧ cls κ = ci ∧ k < (ftb κ).length ∧ (ftb κ).getD k 0 = 5) : ∃ (fs : List Value), f a = .inr (ci, fs) ∧ fs[k]? = some (.int (nI (sn a))) ∧ 1 ≤ sn a ∧ sn a ≤ 4 := by
  obtain ⟨fs, h1, h2⟩ := h.g hm hk k hx
  obtain ⟨h3, h4, h5⟩ := h2.2.2.2.2.1 rfl
  exact ⟨fs, h1, h5, h3, h4⟩
theorem cI.g6 (h : cI K np nc ns lk lc tp cp gp G J mk st ap kd sn L f) (hm : a ∈ L) (hk : kd a = κ) (k : Nat) {ci : Nat} (hx : isO κ = true ∧ cls κ = ci ∧ k < (ftb κ).length ∧ (ftb κ).getD k 0 = 6) : ∃ (fs : List Value) (q : Nat), f a = .inr (ci, fs) ∧ fs[k]? = some (.int (nI q)) ∧ q < np := by
  obtain ⟨fs, h1, h2⟩ := h.g hm hk k hx
  obtain ⟨q, h3, h5⟩ := h2.2.2.2.2.2.1 rfl
  exact ⟨fs, q, h1, h5, h3⟩
theorem cI.g7 (h : cI K np nc ns lk lc tp cp gp G J mk st ap kd sn L f) (hm : a ∈ L) (hk : kd a = κ) (k : Nat) {ci : Nat} (hx : isO κ = true ∧ cls κ = ci ∧ k < (ftb κ).length ∧ (ftb κ).getD k 0 = 7) : ∃ (fs : List Value) (q : Nat), f a = .inr (ci, fs) ∧ fs[k]? = some (.int (nI q)) ∧ q < nc := by
  obtain ⟨fs, h1, h2⟩ := h.g hm hk k hx
  obtain ⟨q, h3, h5⟩ := h2.2.2.2.2.2.2.1 rfl
  exact ⟨fs, q, h1, h5, h3⟩
theorem cI.g8 (h : cI K np nc ns lk lc tp cp gp G J mk st ap kd sn L f) (hm : a ∈ L) (hk : kd a = κ) (k : Nat) {ci : Nat} (hx : isO κ = true ∧ cls κ = ci ∧ k < (ftb κ).length ∧ (ftb κ).getD k 0 = 8) : ∃ (fs : List Value), f a = .inr (ci, fs) ∧ (fs[k]? = some .null ∨ ∃ b, b ∈ L ∧ kd b = 18 ∧ sn b < sn a ∧ fs[k]? = some (.ref b)) := by
  obtain ⟨fs, h1, h2⟩ := h.g hm hk k hx
  exact ⟨fs, h1, h2.2.2.2.2.2.2.2.1 rfl⟩
theorem cI.g9 (h : cI K np nc ns lk lc tp cp gp G J mk st ap kd sn L f) (hm : a ∈ L) (hk : kd a = κ) (k : Nat) {ci : Nat} (hx : isO κ = true ∧ cls κ = ci ∧ k < (ftb κ).length ∧ (ftb κ).getD k 0 = 9) : ∃ (fs : List Value), f a = .inr (ci, fs) ∧ (fs[k]? = some .null ∨ ∃ b, b ∈ L ∧ kd b = 18 ∧ sn b < lk ∧ fs[k]? = some (.ref b)) := by
  obtain ⟨fs, h1, h2⟩ := h.g hm hk k hx
  exact ⟨fs, h1, h2.2.2.2.2.2.2.2.2.1 rfl⟩
theorem cI.gS (h : cI K np nc ns lk lc tp cp gp G J mk st ap kd sn L f) (hm : a ∈ L) (hk : kd a = κ) (k : Nat) {ci : Nat} (hx : isO κ = true ∧ cls κ = ci ∧ k < (ftb κ).length ∧ (ftb κ).getD k 0 = 10) : ∃ (fs : List Value), f a = .inr (ci, fs) ∧ fs[k]? = some (.int (st (sn a))) := by
  obtain ⟨fs, h1, h2⟩ := h.g hm hk k hx
  exact ⟨fs, h1, h2.2.2.2.2.2.2.2.2.2.1 rfl⟩
theorem cI.gA (h : cI K np nc ns lk lc tp cp gp G J mk st ap kd sn L f) (hm : a ∈ L) (hk : kd a = κ) (k : Nat) {ci : Nat} (hx : isO κ = true ∧ cls κ = ci ∧ k < (ftb κ).length ∧ (ftb κ).getD k 0 = 11) : ∃ (fs : List Value), f a = .inr (ci, fs) ∧ fs[k]? = some (.long (ap (sn a))) := by
  obtain ⟨fs, h1, h2⟩ := h.g hm hk k hx
  exact ⟨fs, h1, h2.2.2.2.2.2.2.2.2.2.2.1 rfl⟩
theorem cI.gR (h : cI K np nc ns lk lc tp cp gp G J mk st ap kd sn L f) (hm : a ∈ L) (hk : kd a = κ) (k : Nat) {ci t : Nat} (hx : isO κ = true ∧ cls κ = ci ∧ k < (ftb κ).length ∧ (ftb κ).getD k 0 = t + 100) : ∃ (fs : List Value) (b : Nat), f a = .inr (ci, fs) ∧ fs[k]? = some (.ref b) ∧ b ∈ L ∧ kd b = t := by
  obtain ⟨fs, h1, h2⟩ := h.g hm hk k hx
  obtain ⟨b, h3, h4, h5⟩ := h2.2.2.2.2.2.2.2.2.2.2.2 (Nat.le_add_left _ _)
  rw [Nat.add_sub_cancel] at h4
  exact ⟨fs, b, h1, h5, h3, h4⟩
/-- a cell is written as its kind says -/
theorem cI.w (h : cI K np nc ns lk lc tp cp gp G J mk st ap kd sn L f) {e : va_E} (hm : a ∈ L) (he : cOk K np nc ns lk lc tp cp gp G J mk st ap kd sn L a (kd a) e) : cI K np nc ns lk lc tp cp gp G J mk st ap kd sn L (va_up f a e) := by
  refine ⟨fun b hb => ?_, h.2⟩
  by_cases q : b = a
  · rw [q, va_up_self]; exact he
  · rw [va_up_ne _ _ q]; exact h.1 b hb
theorem isO_ne {κ j : Nat} (ho : isO κ = true) (hj : isO j = false) : ¬ κ = j := fun q => by rw [q, hj] at ho; exact absurd ho (by decide)
/-- a field is written -/
theorem cI.p (h : cI K np nc ns lk lc tp cp gp G J mk st ap kd sn L f) (hm : a ∈ L) (hk : kd a = κ) (k : Nat) {ci t : Nat} (hx : isO κ = true ∧ cls κ = ci ∧ k < (ftb κ).length ∧ (ftb κ).getD k 0 = t) {fs : List Value} (hf : f a = .inr (ci, fs)) {v : Value} (hv : fvOk np nc lk G J st ap kd sn L t k a (some v)) : cI K np nc ns lk lc tp cp gp G J mk st ap kd sn L (va_up f a (.inr (ci, fs.set k v))) := by
  obtain ⟨fs2, h1, h2, h3⟩ := h.o hm hk hx.1 hx.2.1 rfl
  rw [hf] at h1
  cases h1
  have h0 := h.1 a hm
  rw [hk] at h0
  refine h.w hm ?_
  rw [hk]
  have hn : ∀ j, isO j = false → ¬ κ = j := fun j hj => isO_ne hx.1 hj
  refine ⟨fun _ => ⟨fs.set k v, by rw [hx.2.1], by rw [List.length_set]; exact h2, fun i hi => ?_⟩, fun q => absurd q (hn 2 rfl), fun q => absurd q (hn 3 rfl), fun q => absurd q (hn 4 rfl), fun q => absurd q (hn 5 rfl), fun q => absurd q (hn 7 rfl), fun q => absurd q (hn 8 rfl), fun q => absurd q (hn 9 rfl), fun q => absurd q (hn 10 rfl), fun q => absurd q (hn 11 rfl), fun q => absurd q (hn 12 rfl), fun q => absurd q (hn 13 rfl), fun q => absurd q (hn 14 rfl), fun q => absurd q (hn 15 rfl), fun q => absurd q (hn 17 rfl), h0.2.2.2.2.2.2.2.2.2.2.2.2.2.2.2⟩
  by_cases q : k = i
  · subst q
    rw [List.getElem?_set_self (by rw [h2]; exact hi), hx.2.2.2]
    exact hv
  · rw [List.getElem?_set_ne q]; exact h3 i hi
theorem fv1 {x : Int32} : fvOk np nc lk G J st ap kd sn L 1 k a (some (.int x)) := by unfold fvOk; refine ⟨fun _ => ⟨x, rfl⟩, ?_⟩; simp
theorem fv2 {x : Int64} : fvOk np nc lk G J st ap kd sn L 2 k a (some (.long x)) := by unfold fvOk; refine ⟨by simp, fun _ => ⟨x, rfl⟩, ?_⟩; simp
theorem fv5 (h1 : 1 ≤ sn a) (h2 : sn a ≤ 4) : fvOk np nc lk G J st ap kd sn L 5 k a (some (.int (nI (sn a)))) := by unfold fvOk; refine ⟨by simp, by simp, by simp, by simp, fun _ => ⟨h1, h2, rfl⟩, ?_⟩; simp
theorem fv6 {q : Nat} (h1 : q < np) : fvOk np nc lk G J st ap kd sn L 6 k a (some (.int (nI q))) := by unfold fvOk; refine ⟨by simp, by simp, by simp, by simp, by simp, fun _ => ⟨q, h1, rfl⟩, ?_⟩; simp
theorem fv7 {q : Nat} (h1 : q < nc) : fvOk np nc lk G J st ap kd sn L 7 k a (some (.int (nI q))) := by unfold fvOk; refine ⟨by simp, by simp, by simp, by simp, by simp, by simp, fun _ => ⟨q, h1, rfl⟩, ?_⟩; simp
theorem fv8n : fvOk np nc lk G J st ap kd sn L 8 k a (some .null) := by unfold fvOk; refine ⟨by simp, by simp, by simp, by simp, by simp, by simp, by simp, fun _ => Or.inl rfl, ?_⟩; simp
theorem fv8 {b : Nat} (h1 : b ∈ L) (h2 : kd b = 18) (h3 : sn b < sn a) : fvOk np nc lk G J st ap kd sn L 8 k a (some (.ref b)) := by unfold fvOk; refine ⟨by simp, by simp, by simp, by simp, by simp, by simp, by simp, fun _ => Or.inr ⟨b, h1, h2, h3, rfl⟩, ?_⟩; simp
theorem fv9 {b : Nat} (h1 : b ∈ L) (h2 : kd b = 18) (h3 : sn b < lk) : fvOk np nc lk G J st ap kd sn L 9 k a (some (.ref b)) := by unfold fvOk; refine ⟨by simp, by simp, by simp, by simp, by simp, by simp, by simp, by simp, fun _ => Or.inr ⟨b, h1, h2, h3, rfl⟩, ?_⟩; simp
theorem fv9n : fvOk np nc lk G J st ap kd sn L 9 k a (some .null) := by unfold fvOk; refine ⟨by simp, by simp, by simp, by simp, by simp, by simp, by simp, by simp, fun _ => Or.inl rfl, ?_⟩; simp
theorem fv10 : fvOk np nc lk G J st ap kd sn L 10 k a (some (.int (st (sn a)))) := by unfold fvOk; simp
theorem fv11 : fvOk np nc lk G J st ap kd sn L 11 k a (some (.long (ap (sn a)))) := by unfold fvOk; simp
theorem fv3 : fvOk np nc lk G J st ap kd sn L 3 k a (some (.int (G k))) := by unfold fvOk; simp
theorem fv4 : fvOk np nc lk G J st ap kd sn L 4 k a (some (.int (J k))) := by unfold fvOk; simp
theorem fvR {b t : Nat} (h1 : b ∈ L) (h2 : kd b = t) : fvOk np nc lk G J st ap kd sn L (t + 100) k a (some (.ref b)) := by
  unfold fvOk
  refine ⟨by omega, by omega, by omega, by omega, by omega, by omega, by omega, by omega, by omega, by omega, by omega, fun _ => ⟨b, h1, by omega, rfl⟩⟩
end CL
