/-- an array of the reference is of its shape -/
def mTy (K : Nat → ClassId) (k : Nat) (e : va_E) : Prop := (mKd k = 1 ∧ ∃ g : Nat → Int64, e = .inl (K 1, mLen k, .inr (.inl g))) ∨ (¬ mKd k = 1 ∧ ∃ g : Nat → Int32, e = .inl (K (mKd k), mLen k, .inl g))
theorem mTy.i {K : Nat → ClassId} {k : Nat} {e : va_E} (h : mTy K k e) {t n : Nat} (hk : mKd k = t ∧ ¬ t = 1 ∧ mLen k = n) : ∃ g : Nat → Int32, e = .inl (K t, n, .inl g) := by
  rcases h with h | h
  · exact absurd (hk.1.symm.trans h.1) hk.2.1
  · rw [hk.1, hk.2.2] at h; exact h.2
theorem mTy.l {K : Nat → ClassId} {k : Nat} {e : va_E} (h : mTy K k e) {n : Nat} (hk : mKd k = 1 ∧ mLen k = n) : ∃ g : Nat → Int64, e = .inl (K 1, n, .inr (.inl g)) := by
  rcases h with h | h
  · rw [hk.2] at h; exact h.2
  · exact absurd hk.1 h.1
theorem mTy_i {K : Nat → ClassId} {k t n : Nat} {e : va_E} {g : Nat → Int32} (hk : mKd k = t ∧ ¬ t = 1 ∧ mLen k = n) (h : e = .inl (K t, n, .inl g)) : mTy K k e := Or.inr ⟨by rw [hk.1]; exact hk.2.1, g, by rw [hk.1, hk.2.2]; exact h⟩
theorem mTy_l {K : Nat → ClassId} {k n : Nat} {e : va_E} {g : Nat → Int64} (hk : mKd k = 1 ∧ mLen k = n) (h : e = .inl (K 1, n, .inr (.inl g))) : mTy K k e := Or.inl ⟨hk.1, g, by rw [hk.2]; exact h⟩
/-- the reference as the law needs it -/
def mI (K : Nat → ClassId) (rt : Nat → Nat) (L : List Nat) (f : Nat → va_E) (np nc ns tk : Nat) (ru : Int32) (mk : Nat → Int32) : Prop := ∃ fm : List Value, mC rt L f fm ∧ (∀ k ∈ mArr, mTy K k (f (rt k))) ∧ np ≤ 8 ∧ nc ≤ 40 ∧ ns ≤ 1000 ∧ tk ≤ 10000 ∧
  fm[1]? = some (.int (nI tk)) ∧ fm[2]? = some (.int ru) ∧ (∃ v, fm[3]? = some (.int v)) ∧ (∃ v, fm[4]? = some (.int v)) ∧ fm[5]? = some (.int (nI np)) ∧ fm[9]? = some (.int (nI nc)) ∧ fm[25]? = some (.int (nI ns)) ∧ (∃ v, fm[35]? = some (.int v)) ∧ (∃ v, fm[39]? = some (.int v)) ∧ (∃ v, fm[43]? = some (.long v)) ∧ (∃ v, fm[44]? = some (.int v)) ∧ (∃ v, fm[45]? = some (.int v)) ∧
  f (rt 8) = .inl (K 0, 100, .inl mk) ∧
  (∀ g : Nat → Int32, f (rt 6) = .inl (K 0, 8, .inl g) → ∀ i, i < np → ∃ q : Nat, 1 ≤ q ∧ q ≤ 4 ∧ g i = nI q) ∧ (∀ g : Nat → Int32, f (rt 7) = .inl (K 0, 32, .inl g) → ∀ i, i < 32 → ∃ z : Nat, z ≤ 127 ∧ g i = nI z) ∧ (∀ g : Nat → Int32, f (rt 14) = .inl (K 0, 40, .inl g) → ∀ c, c < 40 → ∃ b : Nat, b ≤ 1000 ∧ g c = nI b) ∧
  (∀ g1 g2 g3 : Nat → Int32, f (rt 22) = .inl (K 0, 40, .inl g1) → f (rt 23) = .inl (K 0, 40, .inl g2) → f (rt 24) = .inl (K 0, 40, .inl g3) → ∀ c, c < 40 → g1 c = 0 ∨ ∃ a d : Nat, d ≤ 100 ∧ a < 100 * d + 100 ∧ g2 c = nI d ∧ g3 c = nI a) ∧ (∀ g : Nat → Int32, f (rt 30) = .inl (K 0, 1000, .inl g) → ∀ j, j < ns → vp_in (g j) 40)
theorem mTy_keep {K : Nat → ClassId} {rt : Nat → Nat} {L ks : List Nat} {f f' : Nat → va_E} (hr : rtOk rt L) (hA : ∀ k ∈ mArr, mTy K k (f (rt k))) (hs : gSm rt ks f f') (hks : ∀ j ∈ ks, j ∈ mRoots) (hn : ∀ k ∈ ks, k ∈ mArr → mTy K k (f' (rt k))) : ∀ k ∈ mArr, mTy K k (f' (rt k)) := fun k hk => by
  by_cases q : k ∈ ks
  · exact hn k q hk
  · rw [hs.at hr (List.mem_append_left _ hk) (fun j hj => ⟨hks j hj, fun z => q (by rw [← z]; exact hj)⟩)]; exact hA k hk
theorem up_arr {n : Nat} {g : Nat → Int32} {K0 : ClassId} {e : va_E} {g' : Nat → Int32} (h : e = .inl (K0, n, .inl g')) (h2 : e = .inl (K0, n, .inl g)) : g = g' := by rw [h] at h2; cases h2; rfl
theorem pb_new {t : Nat} {z : Int32} (ht : t ≤ 10000) (h : 0 ≤ z ∧ z ≤ 100) (h2 : ¬ z < nI t / 100) : ∃ a d : Nat, d ≤ 100 ∧ a < 100 * d + 100 ∧ z = nI d ∧ nI t = nI a := by
  obtain ⟨d, hd, rfl⟩ := nI_of2 (M := 100) (n := 100) rfl (by have h1 := h.1; simp only [Int32.lt_iff_toInt_lt, Int32.le_iff_toInt_le, Int32.reduceToInt] at h1 ⊢; omega) h.2
  have e1 : nI t / 100 = nI (t / 100) := pk_div (by omega) (by decide) (by decide)
  rw [e1] at h2
  have h3 : ¬ d < t / 100 := fun q => h2 (nI_lt q (by omega))
  exact ⟨t, d, hd, by omega, rfl, rfl⟩
theorem bid_new {x z : Int32} (h : (x / 10 = 2 ∧ z = 0) ∨ (¬ x / 10 = 2 ∧ 1 ≤ z ∧ z ≤ 1000)) : ∃ b : Nat, b ≤ 1000 ∧ z = nI b := by
  rcases h with h | h
  · exact ⟨0, by omega, h.2⟩
  · exact nI_of2 (M := 1000) (n := 1000) rfl (by have h1 := h.2.1; simp only [Int32.lt_iff_toInt_lt, Int32.le_iff_toInt_le, Int32.reduceToInt] at h1 ⊢; omega) h.2.2
