/-- how many places these sizes are for (f more at most), k counted already; 0: not as said -/
def plc : Nat → Nat → Nat → Nat
  | 0, k, r => if r = 0 then k else 0
  | f + 1, k, r => if r = 0 then k else if 1 ≤ r % 128 ∧ r % 128 ≤ 100 then plc f (k + 1) (r / 128) else 0
/-- all digits are as said; how many there are -/
def dgA : Nat → Nat → Bool
  | 0, _ => true
  | f + 1, r => if r = 0 then true else decide (1 ≤ r % 128 ∧ r % 128 ≤ 100) && dgA f (r / 128)
def dgN : Nat → Nat → Nat
  | 0, _ => 0
  | f + 1, r => if r = 0 then 0 else 1 + dgN f (r / 128)
theorem dgA_0 (f : Nat) : dgA f 0 = true := by cases f <;> simp [dgA]
theorem dgN_0 (f : Nat) : dgN f 0 = 0 := by cases f <;> simp [dgN]
theorem plc_dg : ∀ (f k r : Nat), plc f k r = if dgA (f + 1) r = true ∧ dgN (f + 1) r ≤ f then k + dgN (f + 1) r else 0
  | 0, k, r => by
    by_cases h : r = 0
    · subst h; simp [plc, dgA, dgN]
    · simp [plc, dgA, dgN, h]
  | f + 1, k, r => by
    by_cases h : r = 0
    · subst h; simp [plc, dgA, dgN]
    · by_cases g : 1 ≤ r % 128 ∧ r % 128 ≤ 100
      · have e1 : plc (f + 1) k r = plc f (k + 1) (r / 128) := by rw [plc, if_neg h, if_pos g]
        have e2 : dgA (f + 1 + 1) r = dgA (f + 1) (r / 128) := by rw [dgA, if_neg h, decide_eq_true g, Bool.true_and]
        have e3 : dgN (f + 1 + 1) r = 1 + dgN (f + 1) (r / 128) := by rw [dgN, if_neg h]
        rw [e1, e2, e3, plc_dg f (k + 1) (r / 128)]
        by_cases q : dgA (f + 1) (r / 128) = true ∧ dgN (f + 1) (r / 128) ≤ f
        · rw [if_pos q, if_pos ⟨q.1, by omega⟩]; omega
        · rw [if_neg q, if_neg (fun z => q ⟨z.1, by omega⟩)]
      · have e1 : plc (f + 1) k r = 0 := by rw [plc, if_neg h, if_neg g]
        have e2 : dgA (f + 1 + 1) r = false := by rw [dgA, if_neg h, decide_eq_false g, Bool.false_and]
        rw [e1, if_neg (fun z => by rw [e2] at z; exact absurd z.1 (by decide))]
theorem plc_le : ∀ (f k r : Nat), plc f k r ≤ k + f
  | 0, k, r => by unfold plc; split <;> omega
  | f + 1, k, r => by
    unfold plc
    split
    · omega
    · split
      · have := plc_le f (k + 1) (r / 128); omega
      · omega
/-- sizes that are as said -/
abbrev pgOk (x : Int32) : Prop := 0 < x ∧ ¬ plc 4 0 x.toNatClampNeg = 0
theorem k_128d {r : Nat} (h : r < 2 ^ 31) : nI r / 128 = nI (r / 128) := pk_div h (by decide) (by decide)
theorem k_128r {r : Nat} (h : r < 2 ^ 31) : nI r - nI r / 128 * 128 = nI (r % 128) := pk_rem h (by decide) (by decide)
theorem k_rg {r lo hi : Nat} (hr : r < 2 ^ 31) (hl : lo < 2 ^ 31) (hh : hi < 2 ^ 31) : (nI lo ≤ nI r ∧ nI r ≤ nI hi) ↔ (lo ≤ r ∧ r ≤ hi) := and_congr (nI_leI hl hr) (nI_leI hr hh)
theorem k_pos {x : Int32} (h : ¬ x ≤ 0) : ∃ X : Nat, X < 2 ^ 31 ∧ 0 < X ∧ x = nI X := by
  obtain ⟨j, hj, rfl⟩ := nI_of (x := x) (by simp only [Int32.lt_iff_toInt_lt, Int32.le_iff_toInt_le, Int32.reduceToInt] at h ⊢; omega)
  refine ⟨j, hj, ?_, rfl⟩
  rcases Nat.eq_zero_or_pos j with q | q
  · subst q; exact absurd (by decide) h
  · exact q
theorem k_pl {x r : Int32} (h : (x ≤ 0 → r = 0) ∧ ∀ X : Nat, X < 2 ^ 31 → x = nI X → r = nI (plc 4 0 X)) : (r = 0 ∧ ¬ pgOk x) ∨ (pgOk x ∧ ∃ k : Nat, 1 ≤ k ∧ k ≤ 4 ∧ r = nI k) := by
  by_cases hn : x ≤ 0
  · exact Or.inl ⟨h.1 hn, fun q => by have q1 := q.1; simp only [Int32.lt_iff_toInt_lt, Int32.le_iff_toInt_le] at hn q1; omega⟩
  · obtain ⟨X, hX, hX0, rfl⟩ := k_pos hn
    have hr := h.2 X hX rfl
    have hle := plc_le 4 0 X
    by_cases hz : plc 4 0 X = 0
    · exact Or.inl ⟨by rw [hr, hz]; rfl, fun q => q.2 (by rw [nI_clamp hX]; exact hz)⟩
    · exact Or.inr ⟨⟨(nI_lt hX0 hX : nI 0 < nI X), by rw [nI_clamp hX]; exact hz⟩, plc 4 0 X, by omega, by omega, hr⟩
theorem k_pg {X : Nat} (hX : X < 2 ^ 31) (h0 : 0 < X) : pgOk (nI X) ↔ (dgA 5 X = true ∧ dgN 5 X ≤ 4) := by
  have e : plc 4 0 X = if dgA 5 X = true ∧ dgN 5 X ≤ 4 then 0 + dgN 5 X else 0 := plc_dg 4 0 X
  have hn : 1 ≤ dgN 5 X := by rw [dgN, if_neg (by omega)]; omega
  unfold pgOk
  rw [nI_clamp hX, e]
  constructor
  · intro q
    by_cases g : dgA 5 X = true ∧ dgN 5 X ≤ 4
    · exact g
    · exact absurd (if_neg g) q.2
  · intro g
    exact ⟨(nI_lt h0 hX : nI 0 < nI X), by rw [if_pos g]; omega⟩
