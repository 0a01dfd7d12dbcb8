/-! the search of the reference: givings, what they sum to, the measure of the walk -/
/-- what the first k places of a giving are worth -/
def sG (wn : Nat → Nat → Nat) (mm : Nat) (a : Nat → Nat) : Nat → Nat
  | 0 => 0
  | k + 1 => sG wn mm a k + (if a k < mm then wn (a k) k else 0)
/-- how many of the first k places are filled -/
def cG (mm : Nat) (a : Nat → Nat) : Nat → Nat
  | 0 => 0
  | k + 1 => cG mm a k + (if a k < mm then 1 else 0)
/-- the first d places are given as they may be -/
def gvOk (gb gp : Nat → Int32) (mm : Nat) (wo : Int32) (a : Nat → Nat) (d : Nat) : Prop := ∀ k, k < d → a k ≤ mm ∧ (a k < mm → fitP (fun j => nI (a j)) gb gp mm (a k) k wo)
theorem sG_cg {wn : Nat → Nat → Nat} {mm : Nat} {a b : Nat → Nat} : ∀ d : Nat, (∀ k, k < d → a k = b k) → sG wn mm a d = sG wn mm b d
  | 0, _ => rfl
  | d + 1, h => by rw [sG, sG, sG_cg d (fun k hk => h k (by omega)), h d (by omega)]
theorem cG_cg {mm : Nat} {a b : Nat → Nat} : ∀ d : Nat, (∀ k, k < d → a k = b k) → cG mm a d = cG mm b d
  | 0, _ => rfl
  | d + 1, h => by rw [cG, cG, cG_cg d (fun k hk => h k (by omega)), h d (by omega)]
theorem cG_le {mm : Nat} {a : Nat → Nat} : ∀ d : Nat, cG mm a d ≤ d
  | 0 => Nat.le_refl _
  | d + 1 => by have := @cG_le mm a d; rw [cG]; split <;> omega
theorem sG_le {wn : Nat → Nat → Nat} {mm sp B : Nat} {a : Nat → Nat} (hw : ∀ i k, i < mm → k < sp → wn i k ≤ B) : ∀ d : Nat, d ≤ sp → sG wn mm a d ≤ d * B
  | 0, _ => Nat.zero_le _
  | d + 1, h => by
    have h1 := sG_le (a := a) hw d (by omega)
    rw [sG, Nat.add_mul, Nat.one_mul]
    split
    · rename_i q
      have := hw (a d) d q (by omega)
      omega
    · omega
theorem fitP_cg {ga gz gb gp : Nat → Int32} {mm i dp : Nat} {wo : Int32} (h : ∀ k, k < dp → ga k = gz k) : fitP ga gb gp mm i dp wo ↔ fitP gz gb gp mm i dp wo := by
  unfold fitP fitA
  refine and_congr Iff.rfl (forall_congr' fun k => forall_congr' fun hk => ?_)
  rw [h k hk]
theorem gvOk_cg {gb gp : Nat → Int32} {mm : Nat} {wo : Int32} {a b : Nat → Nat} {d : Nat} (h : ∀ k, k < d → a k = b k) (ha : gvOk gb gp mm wo a d) : gvOk gb gp mm wo b d := fun k hk => by
  have h1 := ha k hk
  rw [h k hk] at h1
  exact ⟨h1.1, fun q => (fitP_cg (fun j hj => by show nI (a j) = nI (b j); rw [h j (by omega)])).mp (h1.2 q)⟩
theorem gvOk.le {gb gp : Nat → Int32} {mm : Nat} {wo : Int32} {a : Nat → Nat} {d d2 : Nat} (h : gvOk gb gp mm wo a d) (hd : d2 ≤ d) : gvOk gb gp mm wo a d2 := fun k hk => h k (by omega)
/-- one more place is given -/
theorem gvOk.nx {gb gp : Nat → Int32} {mm : Nat} {wo : Int32} {a : Nat → Nat} {d i : Nat} (h : gvOk gb gp mm wo a d) (hi : i ≤ mm) (hf : i < mm → fitP (fun j => nI (a j)) gb gp mm i d wo) : gvOk gb gp mm wo (va_up a d i) (d + 1) := fun k hk => by
  by_cases q : k = d
  · subst q
    rw [va_up_self]
    exact ⟨hi, fun z => (fitP_cg (fun j hj => by show nI (a j) = nI (va_up a k i j); rw [va_up_ne _ _ (by omega)])).mp (hf z)⟩
  · have h1 := h k (by omega)
    rw [va_up_ne _ _ q]
    exact ⟨h1.1, fun z => (fitP_cg (fun j hj => by show nI (a j) = nI (va_up a d i j); rw [va_up_ne _ _ (by omega)])).mp (h1.2 z)⟩
theorem up_cg {a : Nat → Nat} {d i : Nat} : ∀ k, k < d → a k = va_up a d i k := fun k hk => by rw [va_up_ne _ _ (by omega)]
theorem sG_up {wn : Nat → Nat → Nat} {mm : Nat} {a : Nat → Nat} {d i : Nat} : sG wn mm (va_up a d i) (d + 1) = sG wn mm a d + (if i < mm then wn i d else 0) := by rw [sG, va_up_self, ← sG_cg d up_cg]
theorem cG_up {mm : Nat} {a : Nat → Nat} {d i : Nat} : cG mm (va_up a d i) (d + 1) = cG mm a d + (if i < mm then 1 else 0) := by rw [cG, va_up_self, ← cG_cg d up_cg]
/-- what lies behind a place is at most what the bound says -/
theorem sG_bd {wn : Nat → Nat → Nat} {mm sp : Nat} {a ma : Nat → Nat} (h : ∀ k, k < sp → ma (k + 1) ≤ ma k ∧ ∀ i, i < mm → ma (k + 1) + wn i k ≤ ma k) : ∀ n d : Nat, d + n = sp → sG wn mm a sp ≤ sG wn mm a d + ma d
  | 0, d, e => by rw [show sp = d by omega]; omega
  | n + 1, d, e => by
    have h1 := sG_bd (a := a) h n (d + 1) (by omega)
    have h2 := h d (by omega)
    rw [show sG wn mm a (d + 1) = sG wn mm a d + (if a d < mm then wn (a d) d else 0) from rfl] at h1
    split at h1
    · rename_i q
      have := h2.2 (a d) q
      omega
    · omega
theorem cG_bd {mm sp : Nat} {a : Nat → Nat} : ∀ n d : Nat, d + n = sp → cG mm a sp ≤ cG mm a d + n
  | 0, d, e => by rw [show sp = d by omega]; omega
  | n + 1, d, e => by
    have h1 := @cG_bd mm sp a n (d + 1) (by omega)
    rw [show cG mm a (d + 1) = cG mm a d + (if a d < mm then 1 else 0) from rfl] at h1
    split at h1 <;> omega
/-- the measure: choices left at the places on the way, each worth more than all deeper ones -/
def muG (mm : Nat) (nx : Nat → Nat) : Nat → Nat
  | 0 => (mm + 1 - nx 0) * 100 ^ 4 + 1
  | d + 1 => muG mm nx d + (mm + 1 - nx (d + 1)) * 100 ^ (4 - (d + 1)) + 1
theorem muG_cg {mm : Nat} {nx ny : Nat → Nat} : ∀ d : Nat, (∀ k, k ≤ d → nx k = ny k) → muG mm nx d = muG mm ny d
  | 0, h => by rw [muG, muG, h 0 (by omega)]
  | d + 1, h => by rw [muG, muG, muG_cg d (fun k hk => h k (by omega)), h (d + 1) (by omega)]
theorem muG_pop {mm d : Nat} {nx : Nat → Nat} (hd : 1 ≤ d) : muG mm nx (d - 1) < muG mm nx d := by
  obtain ⟨d9, rfl⟩ : ∃ z9, d = z9 + 1 := ⟨d - 1, by omega⟩
  rw [Nat.add_sub_cancel, show muG mm nx (d9 + 1) = muG mm nx d9 + (mm + 1 - nx (d9 + 1)) * 100 ^ (4 - (d9 + 1)) + 1 from rfl]
  have : muG mm nx d9 ≤ muG mm nx d9 + (mm + 1 - nx (d9 + 1)) * 100 ^ (4 - (d9 + 1)) := Nat.le_add_right _ _
  omega
theorem muG_inc {mm d : Nat} {nx : Nat → Nat} (h : nx d ≤ mm) : muG mm (va_up nx d (nx d + 1)) d + 100 ^ (4 - d) = muG mm nx d := by
  have e1 : ∀ P : Nat, (mm + 1 - (nx d + 1)) * P + P = (mm + 1 - nx d) * P := fun P => by
    rw [show mm + 1 - nx d = (mm + 1 - (nx d + 1)) + 1 by omega, Nat.add_mul, Nat.one_mul]
  cases d with
  | zero =>
    rw [muG, muG, va_up_self]
    show (mm + 1 - (nx 0 + 1)) * 100 ^ 4 + 1 + 100 ^ 4 = (mm + 1 - nx 0) * 100 ^ 4 + 1
    have e2 := e1 (100 ^ 4)
    generalize (100 : Nat) ^ 4 = P at e2 ⊢
    omega
  | succ d =>
    have e2 := e1 (100 ^ (4 - (d + 1)))
    rw [muG, muG, va_up_self, muG_cg d (ny := nx) (fun k hk => va_up_ne _ _ (by omega))]
    omega
theorem muG_dec {mm d : Nat} {nx : Nat → Nat} (h : nx d ≤ mm) : muG mm (va_up nx d (nx d + 1)) d < muG mm nx d := by
  have := muG_inc h
  have h2 : 0 < 100 ^ (4 - d) := Nat.pow_pos (by decide)
  omega
theorem muG_des {mm d : Nat} {nx : Nat → Nat} (hd : d < 4) (hm : mm ≤ 40) (h : nx d ≤ mm) : muG mm (va_up (va_up nx d (nx d + 1)) (d + 1) 0) (d + 1) < muG mm nx d := by
  have h1 := muG_inc h
  have h2 : 0 < 100 ^ (4 - (d + 1)) := Nat.pow_pos (by decide)
  have h3 : 100 ^ (4 - d) = 100 ^ (4 - (d + 1)) * 100 := by rw [show 4 - d = (4 - (d + 1)) + 1 by omega, Nat.pow_succ]
  have h4 : (mm + 1 - 0) * 100 ^ (4 - (d + 1)) ≤ 41 * 100 ^ (4 - (d + 1)) := Nat.mul_le_mul_right _ (by omega)
  rw [muG, va_up_self, muG_cg d (ny := va_up nx d (nx d + 1)) (fun k hk => va_up_ne _ _ (by omega))]
  omega
/-- the sought giving lies ahead -/
def ahd (sp : Nat) (tg a nx : Nat → Nat) (dp : Nat) : Prop := ∃ d, d ≤ dp ∧ (∀ k, k < d → a k = tg k) ∧ (d < sp → nx d ≤ tg d)
theorem ahd.pop {sp : Nat} {tg a nx : Nat → Nat} {dp : Nat} (h : ahd sp tg a nx dp) (hn : ∀ d, d = dp → ¬ ((∀ k, k < d → a k = tg k) ∧ (d < sp → nx d ≤ tg d))) : 1 ≤ dp ∧ ahd sp tg a nx (dp - 1) := by
  obtain ⟨d, h1, h2, h3⟩ := h
  have h4 : ¬ d = dp := fun q => hn d q ⟨h2, h3⟩
  exact ⟨by omega, d, by omega, h2, h3⟩
/-- a choice is passed over that is not the sought one's -/
theorem ahd.skip {sp : Nat} {tg a nx : Nat → Nat} {dp : Nat} (hd : dp < sp) (h : ahd sp tg a nx dp) (hn : (∀ k, k < dp → a k = tg k) → ¬ nx dp = tg dp) : ahd sp tg a (va_up nx dp (nx dp + 1)) dp := by
  obtain ⟨d, h1, h2, h3⟩ := h
  refine ⟨d, h1, h2, fun q => ?_⟩
  by_cases e : d = dp
  · subst e
    rw [va_up_self]
    have := hn h2
    have := h3 q
    omega
  · rw [va_up_ne _ _ e]; exact h3 q
/-- a choice is taken -/
theorem ahd.desc {sp : Nat} {tg a nx : Nat → Nat} {dp : Nat} (hd : dp < sp) (h : ahd sp tg a nx dp) : ahd sp tg (va_up a dp (nx dp)) (va_up (va_up nx dp (nx dp + 1)) (dp + 1) 0) (dp + 1) := by
  obtain ⟨d, h1, h2, h3⟩ := h
  by_cases e : d = dp
  · subst e
    have h4 := h3 hd
    by_cases g : nx d = tg d
    · refine ⟨d + 1, Nat.le_refl _, fun k hk => ?_, fun _ => by rw [va_up_self]; omega⟩
      by_cases z : k = d
      · rw [z, va_up_self]; exact g
      · rw [va_up_ne _ _ z]; exact h2 k (by omega)
    · refine ⟨d, by omega, fun k hk => by rw [va_up_ne _ _ (by omega)]; exact h2 k hk, fun _ => ?_⟩
      rw [va_up_ne _ _ (by omega), va_up_self]
      omega
  · refine ⟨d, by omega, fun k hk => by rw [va_up_ne _ _ (by omega)]; exact h2 k hk, fun q => ?_⟩
    rw [va_up_ne _ _ (by omega), va_up_ne _ _ e]
    exact h3 q
/-- the path of the search as the arrays hold it -/
def pth (wn : Nat → Nat → Nat) (gb gp : Nat → Int32) (mm : Nat) (wo : Int32) (ga gn gf : Nat → Int32) (gu : Nat → Int64) (a nx : Nat → Nat) (dp : Nat) : Prop :=
  (∀ k, k < dp → ga k = nI (a k)) ∧ gvOk gb gp mm wo a dp ∧ (∀ k, k ≤ dp → gu k = lN (sG wn mm a k)) ∧ (∀ k, k ≤ dp → gf k = nI (cG mm a k)) ∧ (∀ k, k ≤ dp → gn k = nI (nx k) ∧ nx k ≤ mm + 1)
section PTH
variable {wn : Nat → Nat → Nat} {gb gp : Nat → Int32} {mm : Nat} {wo : Int32} {ga gn gf : Nat → Int32} {gu : Nat → Int64} {a nx : Nat → Nat} {dp : Nat}
theorem pth.pop (h : pth wn gb gp mm wo ga gn gf gu a nx dp) {d2 : Nat} (hd : d2 ≤ dp) : pth wn gb gp mm wo ga gn gf gu a nx d2 :=
  ⟨fun k hk => h.1 k (by omega), h.2.1.le hd, fun k hk => h.2.2.1 k (by omega), fun k hk => h.2.2.2.1 k (by omega), fun k hk => h.2.2.2.2 k (by omega)⟩
theorem pth.inc (h : pth wn gb gp mm wo ga gn gf gu a nx dp) (hn : nx dp ≤ mm) : pth wn gb gp mm wo ga (upd gn dp (nI (nx dp + 1))) gf gu a (va_up nx dp (nx dp + 1)) dp :=
  ⟨h.1, h.2.1, h.2.2.1, h.2.2.2.1, fun k hk => by
    by_cases q : k = dp
    · rw [q, pk_us, va_up_self]; exact ⟨rfl, by omega⟩
    · rw [pk_un q, va_up_ne _ _ q]; exact h.2.2.2.2 k hk⟩
theorem pth.des {i : Nat} (h : pth wn gb gp mm wo ga gn gf gu a nx dp) (hi : i ≤ mm) (hf : i < mm → fitP ga gb gp mm i dp wo) {S : Int64} {C : Int32} (hS : S = lN (sG wn mm a dp + (if i < mm then wn i dp else 0))) (hC : C = nI (cG mm a dp + (if i < mm then 1 else 0))) :
    pth wn gb gp mm wo (upd ga dp (nI i)) (upd gn (dp + 1) 0) (upd gf (dp + 1) C) (vp_updL gu (dp + 1) S) (va_up a dp i) (va_up nx (dp + 1) 0) (dp + 1) := by
  refine ⟨fun k hk => ?_, h.2.1.nx hi (fun z => (fitP_cg h.1).mp (hf z)), fun k hk => ?_, fun k hk => ?_, fun k hk => ?_⟩
  · by_cases q : k = dp
    · rw [q, pk_us, va_up_self]
    · rw [pk_un q, va_up_ne _ _ q]; exact h.1 k (by omega)
  · by_cases q : k = dp + 1
    · rw [q, pk_uLs, sG_up]; exact hS
    · rw [pk_uLn q, ← sG_cg k (fun j hj => up_cg j (by omega))]; exact h.2.2.1 k (by omega)
  · by_cases q : k = dp + 1
    · rw [q, pk_us, cG_up]; exact hC
    · rw [pk_un q, ← cG_cg k (fun j hj => up_cg j (by omega))]; exact h.2.2.2.1 k (by omega)
  · by_cases q : k = dp + 1
    · rw [q, pk_us, va_up_self]; exact ⟨rfl, by omega⟩
    · rw [pk_un q, va_up_ne _ _ q]; exact h.2.2.2.2 k (by omega)
end PTH
