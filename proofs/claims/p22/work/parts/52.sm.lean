/-- the maps agree but for the roots ks -/
def gSm (rt : Nat → Nat) (ks : List Nat) (f f' : Nat → va_E) : Prop := ∀ x : Nat, (∀ k ∈ ks, x ≠ rt k) → f' x = f x
section SM
variable {rt : Nat → Nat} {ks k1 k2 : List Nat} {f f' f2 : Nat → va_E} {L : List Nat} {k : Nat}
theorem gSm.rf : gSm rt ks f f := fun _ _ => rfl
theorem gSm.up (h : gSm rt ks f f') (hk : k ∈ ks) (e : va_E) : gSm rt ks f (va_up f' (rt k) e) := fun x hx => by rw [va_up_ne _ _ (hx k hk)]; exact h x hx
theorem gSm.tr (h : gSm rt k1 f f') (h2 : gSm rt k2 f' f2) (h3 : ∀ k ∈ k1, k ∈ ks) (h4 : ∀ k ∈ k2, k ∈ ks) : gSm rt ks f f2 := fun x hx => (h2 x (fun k hk => hx k (h4 k hk))).trans (h x (fun k hk => hx k (h3 k hk)))
theorem gSm.at (h : gSm rt ks f f') (hr : rtOk rt L) (hk : k ∈ mRoots) (hks : ∀ j ∈ ks, j ∈ mRoots ∧ j ≠ k) : f' (rt k) = f (rt k) := h _ (fun j hj q => (hks j hj).2 (hr.2 j (hks j hj).1 k hk q.symm))
end SM
/-- the fields agree but for those at ks -/
def fmS (ks : List Nat) (a b : List Value) : Prop := b.length = a.length ∧ ∀ k : Nat, k ∉ ks → b[k]? = a[k]?
section FS
variable {ks k1 k2 : List Nat} {a b d : List Value} {k : Nat}
theorem fmS.rf : fmS ks a a := ⟨rfl, fun _ _ => rfl⟩
theorem fmS.st (h : fmS ks a b) (hk : k ∈ ks) (v : Value) : fmS ks a (b.set k v) := ⟨by rw [List.length_set]; exact h.1, fun j hj => by rw [List.getElem?_set_ne (fun q => hj (by rw [← q]; exact hk))]; exact h.2 j hj⟩
theorem fmS.tr (h : fmS k1 a b) (h2 : fmS k2 b d) (h3 : ∀ k ∈ k1, k ∈ ks) (h4 : ∀ k ∈ k2, k ∈ ks) : fmS ks a d := ⟨h2.1.trans h.1, fun j hj => (h2.2 j (fun q => hj (h4 j q))).trans (h.2 j (fun q => hj (h3 j q)))⟩
end FS
theorem hSm_id {rt : Nat → Nat} {f f' : Nat → va_E} (h : gSm rt [] f f') : f' = f := funext (fun x => h x (fun k hk => absurd hk (List.not_mem_nil)))
theorem bn_lt {a b : Nat} (ha : a < 2 ^ 31) (hb : b < 2 ^ 31) : nI a < nI b ↔ a < b := nI_ltI ha hb
theorem bn_le {a b : Nat} (ha : a < 2 ^ 31) (hb : b < 2 ^ 31) : nI a ≤ nI b ↔ a ≤ b := nI_leI ha hb
theorem bn_eq {a b : Nat} (ha : a < 2 ^ 31) (hb : b < 2 ^ 31) : nI a = nI b ↔ a = b := nI_eq ha hb
theorem bl_gt {x : Int32} {a b : Nat} (ha : a < 2 ^ 63) (hb : b < 2 ^ 63) (ex : x = lg_cmp (lN a) (lN b)) : 0 < x ↔ b < a := by rw [ex, lg_cmp_gt, pk_lLT hb ha]
theorem bl_lt {x : Int32} {a b : Nat} (ha : a < 2 ^ 63) (hb : b < 2 ^ 63) (ex : x = lg_cmp (lN a) (lN b)) : x < 0 ↔ a < b := by rw [ex, lg_cmp_lt, pk_lLT ha hb]
theorem bl_ge {x : Int32} {a b : Nat} (ha : a < 2 ^ 63) (hb : b < 2 ^ 63) (ex : x = lg_cmp (lN a) (lN b)) : 0 ≤ x ↔ b ≤ a := by rw [ex, lg_cmp_ge, pk_lLE hb ha]
theorem bl_le {x : Int32} {a b : Nat} (ha : a < 2 ^ 63) (hb : b < 2 ^ 63) (ex : x = lg_cmp (lN a) (lN b)) : x ≤ 0 ↔ a ≤ b := by rw [ex, lg_cmp_le, pk_lLE ha hb]
theorem bl_eq {x : Int32} {a b : Nat} (ha : a < 2 ^ 63) (hb : b < 2 ^ 63) (ex : x = lg_cmp (lN a) (lN b)) : x = 0 ↔ a = b := by rw [ex, lg_cmp_eq, pk_lEQ ha hb]
