/-- how many places these sizes are for (f more at most), k counted already; 0: not as said -/
def plc : Nat → Nat → Nat → Nat
  | 0, k, r => if r = 0 then k else 0
  | f + 1, k, r => if r = 0 then k else if 1 ≤ r % 128 ∧ r % 128 ≤ 100 then plc f (k + 1) (r / 128) else 0
/-- all digits are as said; how many there are -/
def dgA : Nat → Nat → Bool
  | 0, _ => true
  | f + 1, r => if r = 0 then true else decide (1 ≤ r % 128 ∧ r % 128 ≤ 100) && dgA f (r / 128)
def dgN : Nat → Nat → Nat
  | 0, _ => 0
  | f + 1, r => if r = 0 then 0 else 1 + dgN f (r / 128)
theorem dgA_0 (f : Nat) : dgA f 0 = true := by cases f <;> simp [dgA]
theorem dgN_0 (f : Nat) : dgN f 0 = 0 := by cases f <;> simp [dgN]
theorem plc_dg : ∀ (f k r : Nat), plc f k r = if dgA (f + 1) r = true ∧ dgN (f + 1) r ≤ f then k + dgN (f + 1) r else 0
  | 0, k, r => by
    by_cases h : r = 0
    · subst h; simp [plc, dgA, dgN]
    · simp [plc, dgA, dgN, h]
  | f + 1, k, r => by
    by_cases h : r = 0
    · subst h; simp [plc, dgA, dgN]
    · by_cases g : 1 ≤ r % 128 ∧ r % 128 ≤ 100
      · have e1 : plc (f + 1) k r = plc f (k + 1) (r / 128) := by rw [plc, if_neg h, if_pos g]
        have e2 : dgA (f + 1 + 1) r = dgA (f + 1) (r / 128) := by rw [dgA, if_neg h, decide_eq_true g, Bool.true_and]
        have e3 : dgN (f + 1 + 1) r = 1 + dgN (f + 1) (r / 128) := by rw [dgN, if_neg h]
        rw [e1, e2, e3, plc_dg f (k + 1) (r / 128)]
        by_cases q : dgA (f + 1) (r / 128) = true ∧ dgN (f + 1) (r / 128) ≤ f
        · rw [if_pos q, if_pos ⟨q.1, by omega⟩]; omega
        · rw [if_neg q, if_neg (fun z => q ⟨z.1, by omega⟩)]
      · have e1 : plc (f + 1) k r = 0 := by rw [plc, if_neg h, if_neg g]
        have e2 : dgA (f + 1 + 1) r = false := by rw [dgA, if_neg h, decide_eq_false g, Bool.false_and]
        rw [e1, if_neg (fun z => by rw [e2] at z; exact absurd z.1 (by decide))]
theorem plc_le : ∀ (f k r : Nat), plc f k r ≤ k + f
  | 0, k, r => by unfold plc; split <;> omega
  | f + 1, k, r => by
    unfold plc
    split
    · omega
    · split
      · have := plc_le f (k + 1) (r / 128); omega
      · omega
/-- sizes that are as said -/
abbrev pgOk (x : Int32) : Prop := 0 < x ∧ ¬ plc 4 0 x.toNatClampNeg = 0
theorem k_128d {r : Nat} (h : r < 2 ^ 31) : nI r / 128 = nI (r / 128) := pk_div h (by decide) (by decide)
theorem k_128r {r : Nat} (h : r < 2 ^ 31) : nI r - nI r / 128 * 128 = nI (r % 128) := pk_rem h (by decide) (by decide)
theorem k_rg {r lo hi : Nat} (hr : r < 2 ^ 31) (hl : lo < 2 ^ 31) (hh : hi < 2 ^ 31) : (nI lo ≤ nI r ∧ nI r ≤ nI hi) ↔ (lo ≤ r ∧ r ≤ hi) := and_congr (nI_leI hl hr) (nI_leI hr hh)
theorem k_pos {x : Int32} (h : ¬ x ≤ 0) : ∃ X : Nat, X < 2 ^ 31 ∧ 0 < X ∧ x = nI X := by
  obtain ⟨j, hj, rfl⟩ := nI_of (x := x) (by simp only [Int32.lt_iff_toInt_lt, Int32.le_iff_toInt_le, Int32.reduceToInt] at h ⊢; omega)
  refine ⟨j, hj, ?_, rfl⟩
  rcases Nat.eq_zero_or_pos j with q | q
  · subst q; exact absurd (by decide) h
  · exact q
theorem k_pl {x r : Int32} (h : (x ≤ 0 → r = 0) ∧ ∀ X : Nat, X < 2 ^ 31 → x = nI X → r = nI (plc 4 0 X)) : (r = 0 ∧ ¬ pgOk x) ∨ (pgOk x ∧ ∃ k : Nat, 1 ≤ k ∧ k ≤ 4 ∧ r = nI k) := by
  by_cases hn : x ≤ 0
  · exact Or.inl ⟨h.1 hn, fun q => by have q1 := q.1; simp only [Int32.lt_iff_toInt_lt, Int32.le_iff_toInt_le] at hn q1; omega⟩
  · obtain ⟨X, hX, hX0, rfl⟩ := k_pos hn
    have hr := h.2 X hX rfl
    have hle := plc_le 4 0 X
    by_cases hz : plc 4 0 X = 0
    · exact Or.inl ⟨by rw [hr, hz]; rfl, fun q => q.2 (by rw [nI_clamp hX]; exact hz)⟩
    · exact Or.inr ⟨⟨(nI_lt hX0 hX : nI 0 < nI X), by rw [nI_clamp hX]; exact hz⟩, plc 4 0 X, by omega, by omega, hr⟩
theorem k_pg {X : Nat} (hX : X < 2 ^ 31) (h0 : 0 < X) : pgOk (nI X) ↔ (dgA 5 X = true ∧ dgN 5 X ≤ 4) := by
  have e : plc 4 0 X = if dgA 5 X = true ∧ dgN 5 X ≤ 4 then 0 + dgN 5 X else 0 := plc_dg 4 0 X
  have hn : 1 ≤ dgN 5 X := by rw [dgN, if_neg (by omega)]; omega
  unfold pgOk
  rw [nI_clamp hX, e]
  constructor
  · intro q
    by_cases g : dgA 5 X = true ∧ dgN 5 X ≤ 4
    · exact g
    · exact absurd (if_neg g) q.2
  · intro g
    exact ⟨(nI_lt h0 hX : nI 0 < nI X), by rw [if_pos g]; omega⟩
theorem k_cp1 (x : Int32) : (x = 0 ∨ x = 1 ∨ x = 10 ∨ x = 20) ↔ (¬ x < 0 ∧ (0 ≤ x / 10 ∧ x / 10 ≤ 2) ∧ ((x / 10 = 0 ∧ 0 ≤ x - x / 10 * 10 ∧ x - x / 10 * 10 ≤ 1) ∨ (¬ x / 10 = 0 ∧ 0 ≤ x - x / 10 * 10 ∧ x - x / 10 * 10 ≤ 0))) := by
  by_cases hn : x < 0
  · constructor
    · rintro (h | h | h | h) <;> subst h <;> exact absurd hn (by decide)
    · exact fun h => absurd hn h.1
  · obtain ⟨X, hX, rfl⟩ := nI_of hn
    have e1 : nI X / 10 = nI (X / 10) := pk_div hX (by decide) (by decide)
    have e2 : nI X - nI X / 10 * 10 = nI (X % 10) := pk_rem hX (by decide) (by decide)
    have i0 : ∀ {a b : Nat}, a < 2 ^ 31 → b < 2 ^ 31 → (nI a = nI b ↔ a = b) := fun h1 h2 => nI_eq h1 h2
    have il : ∀ {a b : Nat}, a < 2 ^ 31 → b < 2 ^ 31 → (nI a ≤ nI b ↔ a ≤ b) := fun h1 h2 => nI_leI h1 h2
    rw [e2, e1]
    have q0 : (nI X = 0 ↔ X = 0) := i0 hX (by decide)
    have q1 : (nI X = 1 ↔ X = 1) := i0 hX (by decide)
    have q10 : (nI X = 10 ↔ X = 10) := i0 hX (by decide)
    have q20 : (nI X = 20 ↔ X = 20) := i0 hX (by decide)
    have d0 : (nI (X / 10) = 0 ↔ X / 10 = 0) := i0 (by omega) (by decide)
    have d1 : (0 ≤ nI (X / 10) ↔ 0 ≤ X / 10) := il (by decide) (by omega)
    have d2 : (nI (X / 10) ≤ 2 ↔ X / 10 ≤ 2) := il (by omega) (by decide)
    have r0 : (0 ≤ nI (X % 10) ↔ 0 ≤ X % 10) := il (by decide) (by omega)
    have r1 : (nI (X % 10) ≤ 1 ↔ X % 10 ≤ 1) := il (by omega) (by decide)
    have r2 : (nI (X % 10) ≤ 0 ↔ X % 10 ≤ 0) := il (by omega) (by decide)
    rw [q0, q1, q10, q20, d0, d1, d2, r0, r1, r2]
    have hn' : ¬ nI X < 0 := hn
    constructor
    · intro h; refine ⟨hn', ?_⟩; omega
    · intro h; have := h.2; omega
theorem k_cp2 (y : Int32) : (0 ≤ y ∧ y / 4096 ≤ 4095) ↔ (0 ≤ y ∧ y ≤ 16777215) := by
  by_cases hn : y < 0
  · constructor
    · intro h; have := h.1; simp only [Int32.lt_iff_toInt_lt, Int32.le_iff_toInt_le] at hn this; omega
    · intro h; have := h.1; simp only [Int32.lt_iff_toInt_lt, Int32.le_iff_toInt_le] at hn this; omega
  · obtain ⟨Y, hY, rfl⟩ := nI_of hn
    have e1 : nI Y / 4096 = nI (Y / 4096) := pk_div hY (by decide) (by decide)
    have d1 : (nI (Y / 4096) ≤ 4095 ↔ Y / 4096 ≤ 4095) := nI_leI (by omega) (by decide)
    have d2 : (nI Y ≤ 16777215 ↔ Y ≤ 16777215) := nI_leI hY (by decide)
    rw [e1, d1, d2]
    constructor
    · intro h; exact ⟨h.1, by have := h.2; omega⟩
    · intro h; exact ⟨h.1, by have := h.2; omega⟩
/-- a campaign's numbers that are as said -/
abbrev cpOk (x y z : Int32) : Prop := (x = 0 ∨ x = 1 ∨ x = 10 ∨ x = 20) ∧ (0 ≤ y ∧ y / 4096 ≤ 4095 ∧ (y / 4096 &&& (y - y / 4096 * 4096)) = 0) ∧ ((x / 10 = 2 ∧ z = 0) ∨ (¬ x / 10 = 2 ∧ 1 ≤ z ∧ z ≤ 1000))
