theorem gD_all {p : Nat → Bool} {l : List Nat} (h : l.all p = true) (h0 : p 0 = true) (i : Nat) : p (l.getD i 0) = true := by
  rw [List.getD_eq_getElem?_getD]
  cases hi : l[i]? with
  | none => exact h0
  | some x => exact List.all_eq_true.mp h x (List.mem_of_getElem? hi)
theorem isO_or {κ : Nat} (h : isO κ = true) : κ = 1 ∨ κ = 6 ∨ κ = 16 ∨ κ = 18 ∨ κ = 19 ∨ κ = 20 := by
  unfold isO at h; simp only [Bool.or_eq_true, beq_iff_eq] at h; omega
theorem ft_3 {κ i : Nat} (ho : isO κ = true) (h : ¬ κ = 1) : ¬ (ftb κ).getD i 0 = 3 := by
  have : ∀ l : List Nat, l.all (fun x => decide (¬ x = 3)) = true → ¬ l.getD i 0 = 3 := fun l hl => of_decide_eq_true (gD_all (p := fun x => decide (¬ x = 3)) hl rfl i)
  rcases isO_or ho with q | q | q | q | q | q <;> subst q <;> first | exact absurd rfl h | exact this _ (by decide)
theorem ft_4 {κ i : Nat} (ho : isO κ = true) (h : ¬ κ = 6) : ¬ (ftb κ).getD i 0 = 4 := by
  have : ∀ l : List Nat, l.all (fun x => decide (¬ x = 4)) = true → ¬ l.getD i 0 = 4 := fun l hl => of_decide_eq_true (gD_all (p := fun x => decide (¬ x = 4)) hl rfl i)
  rcases isO_or ho with q | q | q | q | q | q <;> subst q <;> first | exact absurd rfl h | exact this _ (by decide)
theorem ft_20 {κ i : Nat} (ho : isO κ = true) (h : ¬ κ = 20) : ¬ (ftb κ).getD i 0 = 10 ∧ ¬ (ftb κ).getD i 0 = 11 := by
  have : ∀ l : List Nat, l.all (fun x => decide (¬ x = 10 ∧ ¬ x = 11)) = true → ¬ l.getD i 0 = 10 ∧ ¬ l.getD i 0 = 11 := fun l hl => of_decide_eq_true (gD_all (p := fun x => decide (¬ x = 10 ∧ ¬ x = 11)) hl rfl i)
  rcases isO_or ho with q | q | q | q | q | q <;> subst q <;> first | exact absurd rfl h | exact this _ (by decide)
theorem ft_100 {κ i : Nat} (ho : isO κ = true) : ¬ (ftb κ).getD i 0 = 100 := by
  have : ∀ l : List Nat, l.all (fun x => decide (¬ x = 100)) = true → ¬ l.getD i 0 = 100 := fun l hl => of_decide_eq_true (gD_all (p := fun x => decide (¬ x = 100)) hl rfl i)
  rcases isO_or ho with q | q | q | q | q | q <;> subst q <;> exact this _ (by decide)
section CH
variable {K : Nat → ClassId} {np nc ns lk lc tp cp gp np' nc' ns' lk' lc' tp' cp' gp' : Nat} {G J mk st G' J' mk' st' : Nat → Int32} {ap ap' : Nat → Int64} {kd sn kd' sn' : Nat → Nat} {L L' : List Nat} {f : Nat → va_E} {a κ k : Nat}
theorem fvOk.ch {t : Nat} {o : Option Value} (h : fvOk np nc lk G J st ap kd sn L t k a o) (h3 : t = 3 → G' k = G k) (h4 : t = 4 → J' k = J k) (h6 : np ≤ np') (h7 : nc ≤ nc') (h9 : lk ≤ lk') (h10 : t = 10 → st' (sn' a) = st (sn a)) (h11 : t = 11 → ap' (sn' a) = ap (sn a)) (hL : ∀ b ∈ L, b ∈ L') (hkd : ∀ b ∈ L, ¬ kd b = 0 → kd' b = kd b) (hsn : ∀ b ∈ L, ¬ kd b = 0 → sn' b = sn b) (ha : sn' a = sn a) (ht : ¬ t = 100) : fvOk np' nc' lk' G' J' st' ap' kd' sn' L' t k a o := by
  obtain ⟨q1, q2, q3, q4, q5, q6, q7, q8, q9, q10, q11, q12⟩ := h
  refine ⟨q1, q2, fun e => by rw [h3 e]; exact q3 e, fun e => by rw [h4 e]; exact q4 e, fun e => by rw [ha]; exact q5 e, fun e => ?_, fun e => ?_, fun e => ?_, fun e => ?_, fun e => by rw [h10 e]; exact q10 e, fun e => by rw [h11 e]; exact q11 e, fun e => ?_⟩
  · obtain ⟨q, z1, z2⟩ := q6 e; exact ⟨q, by omega, z2⟩
  · obtain ⟨q, z1, z2⟩ := q7 e; exact ⟨q, by omega, z2⟩
  · rcases q8 e with z | ⟨b, z1, z2, z3, z4⟩
    · exact Or.inl z
    · exact Or.inr ⟨b, hL b z1, by rw [hkd b z1 (by omega)]; exact z2, by rw [hsn b z1 (by omega), ha]; exact z3, z4⟩
  · rcases q9 e with z | ⟨b, z1, z2, z3, z4⟩
    · exact Or.inl z
    · exact Or.inr ⟨b, hL b z1, by rw [hkd b z1 (by omega)]; exact z2, by rw [hsn b z1 (by omega)]; omega, z4⟩
  · obtain ⟨b, z1, z2, z3⟩ := q12 e
    have hz : ¬ kd b = 0 := by rw [z2]; exact Nat.sub_ne_zero_of_lt (Nat.lt_of_le_of_ne e (fun z => ht z.symm))
    exact ⟨b, hL b z1, by rw [hkd b z1 hz]; exact z2, z3⟩
theorem vld.le {x : Int32} (h : vld nc x) (hn : nc ≤ nc') : vld nc' x := h.elim Or.inl (fun ⟨q, z1, z2⟩ => Or.inr ⟨q, by omega, z2⟩)
theorem okV.le {n n' : Nat} {e : va_E} (h : okV K nc n e) (hn : nc ≤ nc') (hi : n' ≤ n) : okV K nc' n' e := by
  obtain ⟨g, h1, h2⟩ := h
  exact ⟨g, h1, fun i hi2 => (h2 i (by omega)).le hn⟩
theorem okR.le {t len n n' κ : Nat} {e : va_E} (h : okR K kd L t len n κ e) (hi : n' ≤ n) (hL : ∀ b ∈ L, b ∈ L') (hkd : ∀ b ∈ L, ¬ kd b = 0 → kd' b = kd b) (hκ : ¬ κ = 0) : okR K kd' L' t len n' κ e := by
  obtain ⟨g, h1, h2⟩ := h
  exact ⟨g, h1, fun i hi2 => by obtain ⟨b, z1, z2, z3⟩ := h2 i (by omega); exact ⟨b, hL b z1, by rw [hkd b z1 (by omega)]; exact z2, z3⟩⟩
theorem cOk.ch {e : va_E} (h : cOk K np nc ns lk lc tp cp gp G J mk st ap kd sn L a k e) (hG : k = 1 → ∀ i, G' i = G i) (hJ : k = 6 → ∀ i, J' i = J i) (hnp : np ≤ np') (hnp2 : k = 2 → np' ≤ np) (hnc : nc ≤ nc') (hnc3 : k = 3 → nc' ≤ nc) (hns : k = 4 → ns' ≤ ns) (hlk : lk ≤ lk') (hlc : lc ≤ lc') (hst : k = 20 → st' (sn' a) = st (sn a)) (hap : k = 20 → ap' (sn' a) = ap (sn a)) (hmk : k = 5 → mk' = mk) (htp : k = 10 → tp' ≤ tp) (hcp : k = 9 → cp' ≤ cp) (hgp : k = 7 → gp' ≤ gp) (hL : ∀ b ∈ L, b ∈ L') (hkd : ∀ b ∈ L, ¬ kd b = 0 → kd' b = kd b) (hsn : ∀ b ∈ L, ¬ kd b = 0 → sn' b = sn b) (ha : ¬ k = 0 → sn' a = sn a) : cOk K np' nc' ns' lk' lc' tp' cp' gp' G' J' mk' st' ap' kd' sn' L' a k e := by
  obtain ⟨q1, q2, q3, q4, q5, q7, q8, q9, q10, q11, q12, q13, q14, q15, q17, q20⟩ := h
  refine ⟨fun ho => ?_, fun q => (q2 q).le (hnp2 q) hL hkd (by decide), fun q => ?_, fun q => (q4 q).le (hns q) hL hkd (by decide), fun q => by rw [hmk q]; exact q5 q, fun q => (q7 q).le hnc (hgp q), q8, fun q => (q9 q).le hnc (hcp q), fun q => (q10 q).le hnc (htp q), fun q => (q11 q).le (Nat.le_refl _) hL hkd (by decide), fun q => (q12 q).le (Nat.le_refl _) hL hkd (by decide), q13, q14, fun q => ?_, q17, fun q => by rw [ha (by omega)]; exact Nat.lt_of_lt_of_le (q20 q) hlc⟩
  · obtain ⟨fs, z1, z2, z3⟩ := q1 ho
    refine ⟨fs, z1, z2, fun i hi => (z3 i hi).ch (fun e => ?_) (fun e => ?_) hnp hnc hlk (fun e => ?_) (fun e => ?_) hL hkd hsn (ha (fun z => by rw [z] at ho; exact absurd ho (by decide))) (ft_100 ho)⟩
    · by_cases z : k = 1
      · exact hG z i
      · exact absurd e (ft_3 ho z)
    · by_cases z : k = 6
      · exact hJ z i
      · exact absurd e (ft_4 ho z)
    · by_cases z : k = 20
      · exact hst z
      · exact absurd e (ft_20 ho z).1
    · by_cases z : k = 20
      · exact hap z
      · exact absurd e (ft_20 ho z).2
  · obtain ⟨g, z1, z2⟩ := q3 q
    exact ⟨g, z1, fun i hi => by obtain ⟨b, y1, y2, y3, y4⟩ := z2 i (by have := hnc3 q; omega); exact ⟨b, hL b y1, by rw [hkd b y1 (by omega)]; exact y2, by rw [hsn b y1 (by omega)]; exact y3, y4⟩⟩
  · obtain ⟨g, z1, z2⟩ := q15 q
    exact ⟨g, z1, fun i hi => by obtain ⟨b, y1, y2, y3⟩ := z2 i hi; exact ⟨b, y1, y2.elim (fun y => Or.inl (by omega)) Or.inr, y3⟩⟩
/-- a cell is written, and what is said of it changes -/
theorem cI.cw (h : cI K np nc ns lk lc tp cp gp G J mk st ap kd sn L f) (hm : a ∈ L) {e : va_E} (he : cOk K np' nc' ns' lk' lc' tp' cp' gp' G' J' mk' st' ap' kd sn L a (kd a) e) (hG : ¬ kd a = 1 → ∀ i, G' i = G i) (hJ : ¬ kd a = 6 → ∀ i, J' i = J i) (hnp : np ≤ np') (hnp2 : ¬ kd a = 2 → np' ≤ np) (hnc : nc ≤ nc') (hnc3 : ¬ kd a = 3 → nc' ≤ nc) (hns : ¬ kd a = 4 → ns' ≤ ns) (hlk : lk ≤ lk') (hlc : lc ≤ lc') (hst : ∀ b ∈ L, ¬ b = a → kd b = 20 → st' (sn b) = st (sn b)) (hap : ∀ b ∈ L, ¬ b = a → kd b = 20 → ap' (sn b) = ap (sn b)) (hmk : ¬ kd a = 5 → mk' = mk) (htp : ¬ kd a = 10 → tp' ≤ tp) (hcp : ¬ kd a = 9 → cp' ≤ cp) (hgp : ¬ kd a = 7 → gp' ≤ gp) : cI K np' nc' ns' lk' lc' tp' cp' gp' G' J' mk' st' ap' kd sn L (va_up f a e) := by
  refine ⟨fun b hb => ?_, h.2⟩
  by_cases q : b = a
  · rw [q, va_up_self]; exact he
  · rw [va_up_ne _ _ q]
    have u : ∀ j, 0 < j → j < 14 → kd b = j → ¬ kd a = j := fun j h1 h2 e1 e2 => q (h.2.1 b hb a hm (e1.trans e2.symm) (by omega) (by omega))
    exact (h.1 b hb).ch (fun z => hG (u 1 (by decide) (by decide) z)) (fun z => hJ (u 6 (by decide) (by decide) z)) hnp (fun z => hnp2 (u 2 (by decide) (by decide) z)) hnc (fun z => hnc3 (u 3 (by decide) (by decide) z)) (fun z => hns (u 4 (by decide) (by decide) z)) hlk hlc (fun z => hst b hb q z) (fun z => hap b hb q z) (fun z => hmk (u 5 (by decide) (by decide) z)) (fun z => htp (u 10 (by decide) (by decide) z)) (fun z => hcp (u 9 (by decide) (by decide) z)) (fun z => hgp (u 7 (by decide) (by decide) z)) (fun _ h => h) (fun _ _ _ => rfl) (fun _ _ _ => rfl) (fun _ => rfl)
/-- the market's own number k -/
theorem cI.pG (h : cI K np nc ns lk lc tp cp gp G J mk st ap kd sn L f) (hm : a ∈ L) (hk : kd a = 1) (k : Nat) (hx : 7 ≤ k ∧ k < 17) {fs : List Value} (hf : f a = .inr (5, fs)) (v : Int32) : cI K np nc ns lk lc tp cp gp (va_up G k v) J mk st ap kd sn L (va_up f a (.inr (5, fs.set k (.int v)))) := by
  obtain ⟨fs2, h1, h2, h3⟩ := h.o hm hk rfl (ci := 5) rfl (n := 17) rfl
  rw [hf] at h1
  cases h1
  have hn : ∀ j, ¬ 1 = j → ¬ kd a = j := fun j h1 h2 => h1 (hk.symm.trans h2)
  refine h.cw hm ?_ (fun q => absurd hk q) (fun _ _ => rfl) (Nat.le_refl _) (fun _ => Nat.le_refl _) (Nat.le_refl _) (fun _ => Nat.le_refl _) (fun _ => Nat.le_refl _) (Nat.le_refl _) (Nat.le_refl _) (fun _ _ _ _ => rfl) (fun _ _ _ _ => rfl) (fun _ => rfl) (fun _ => Nat.le_refl _) (fun _ => Nat.le_refl _) (fun _ => Nat.le_refl _)
  rw [hk]
  refine ⟨fun _ => ⟨fs.set k (.int v), rfl, by rw [List.length_set]; exact h2, fun i hi => ?_⟩, by simp, by simp, by simp, by simp, by simp, by simp, by simp, by simp, by simp, by simp, by simp, by simp, by simp, by simp, by simp⟩
  by_cases q : k = i
  · subst q
    rw [List.getElem?_set_self (by rw [h2]; omega)]
    have ht : (ftb 1).getD k 0 = 3 := by
      obtain ⟨j, rfl⟩ : ∃ j, k = j + 7 := ⟨k - 7, by omega⟩
      have hj : j < 10 := by omega
      have : ∀ j, j < 10 → (ftb 1).getD (j + 7) 0 = 3 := by decide
      exact this j hj
    rw [ht]
    have e1 : va_up G k v k = v := va_up_self _ _ _
    have e2 := fv3 (np := np) (nc := nc) (lk := lk) (G := va_up G k v) (J := J) (st := st) (ap := ap) (kd := kd) (sn := sn) (L := L) (k := k) (a := a)
    rw [e1] at e2
    exact e2
  · rw [List.getElem?_set_ne q]
    exact (h3 i hi).ch (fun _ => va_up_ne _ _ (fun z => q z.symm)) (fun _ => rfl) (Nat.le_refl _) (Nat.le_refl _) (Nat.le_refl _) (fun _ => rfl) (fun _ => rfl) (fun _ h => h) (fun _ _ _ => rfl) (fun _ _ _ => rfl) rfl (ft_100 rfl)
/-- the giver's own number k -/
theorem cI.pJ (h : cI K np nc ns lk lc tp cp gp G J mk st ap kd sn L f) (hm : a ∈ L) (hk : kd a = 6) (k : Nat) (hx : k = 5 ∨ k = 6) {fs : List Value} (hf : f a = .inr (1, fs)) (v : Int32) : cI K np nc ns lk lc tp cp gp G (va_up J k v) mk st ap kd sn L (va_up f a (.inr (1, fs.set k (.int v)))) := by
  obtain ⟨fs2, h1, h2, h3⟩ := h.o hm hk rfl (ci := 1) rfl (n := 9) rfl
  rw [hf] at h1
  cases h1
  refine h.cw hm ?_ (fun _ _ => rfl) (fun q => absurd hk q) (Nat.le_refl _) (fun _ => Nat.le_refl _) (Nat.le_refl _) (fun _ => Nat.le_refl _) (fun _ => Nat.le_refl _) (Nat.le_refl _) (Nat.le_refl _) (fun _ _ _ _ => rfl) (fun _ _ _ _ => rfl) (fun _ => rfl) (fun _ => Nat.le_refl _) (fun _ => Nat.le_refl _) (fun _ => Nat.le_refl _)
  rw [hk]
  refine ⟨fun _ => ⟨fs.set k (.int v), rfl, by rw [List.length_set]; exact h2, fun i hi => ?_⟩, by simp, by simp, by simp, by simp, by simp, by simp, by simp, by simp, by simp, by simp, by simp, by simp, by simp, by simp, by simp⟩
  by_cases q : k = i
  · subst q
    rw [List.getElem?_set_self (by rw [h2]; omega)]
    have ht : (ftb 6).getD k 0 = 4 := by rcases hx with rfl | rfl <;> rfl
    rw [ht]
    have e1 : va_up J k v k = v := va_up_self _ _ _
    have e2 := fv4 (np := np) (nc := nc) (lk := lk) (G := G) (J := va_up J k v) (st := st) (ap := ap) (kd := kd) (sn := sn) (L := L) (k := k) (a := a)
    rw [e1] at e2
    exact e2
  · rw [List.getElem?_set_ne q]
    exact (h3 i hi).ch (fun _ => rfl) (fun _ => va_up_ne _ _ (fun z => q z.symm)) (Nat.le_refl _) (Nat.le_refl _) (Nat.le_refl _) (fun _ => rfl) (fun _ => rfl) (fun _ h => h) (fun _ _ _ => rfl) (fun _ _ _ => rfl) rfl (ft_100 rfl)
/-- a campaign is stopped or not -/
theorem cI.pS (h : cI K np nc ns lk lc tp cp gp G J mk st ap kd sn L f) (hm : a ∈ L) (hk : kd a = 20) {fs : List Value} (hf : f a = .inr (0, fs)) (v : Int32) : cI K np nc ns lk lc tp cp gp G J mk (va_up st (sn a) v) ap kd sn L (va_up f a (.inr (0, fs.set 11 (.int v)))) := by
  obtain ⟨fs2, h1, h2, h3⟩ := h.o hm hk rfl (ci := 0) rfl (n := 16) rfl
  rw [hf] at h1
  cases h1
  have h0 := h.1 a hm
  rw [hk] at h0
  refine h.cw hm ?_ (fun _ _ => rfl) (fun _ _ => rfl) (Nat.le_refl _) (fun _ => Nat.le_refl _) (Nat.le_refl _) (fun _ => Nat.le_refl _) (fun _ => Nat.le_refl _) (Nat.le_refl _) (Nat.le_refl _) (fun b hb hne hkb => va_up_ne _ _ (fun z => hne (h.2.2 b hb a hm hkb hk z))) (fun _ _ _ _ => rfl) (fun _ => rfl) (fun _ => Nat.le_refl _) (fun _ => Nat.le_refl _) (fun _ => Nat.le_refl _)
  rw [hk]
  refine ⟨fun _ => ⟨fs.set 11 (.int v), rfl, by rw [List.length_set]; exact h2, fun i hi => ?_⟩, by simp, by simp, by simp, by simp, by simp, by simp, by simp, by simp, by simp, by simp, by simp, by simp, by simp, by simp, h0.2.2.2.2.2.2.2.2.2.2.2.2.2.2.2⟩
  by_cases q : 11 = i
  · subst q
    rw [List.getElem?_set_self (by rw [h2]; omega)]
    have e1 : va_up st (sn a) v (sn a) = v := va_up_self _ _ _
    have e2 := fv10 (np := np) (nc := nc) (lk := lk) (G := G) (J := J) (st := va_up st (sn a) v) (ap := ap) (kd := kd) (sn := sn) (L := L) (k := 11) (a := a)
    rw [e1] at e2
    exact e2
  · rw [List.getElem?_set_ne q]
    have ht : ¬ (ftb 20).getD i 0 = 10 := by
      have : ∀ i, i < 16 → ¬ 11 = i → ¬ (ftb 20).getD i 0 = 10 := by decide
      exact this i hi q
    exact (h3 i hi).ch (fun _ => rfl) (fun _ => rfl) (Nat.le_refl _) (Nat.le_refl _) (Nat.le_refl _) (fun z => absurd z ht) (fun _ => rfl) (fun _ h => h) (fun _ _ _ => rfl) (fun _ _ _ => rfl) rfl (ft_100 rfl)
/-- whom a campaign is apart from -/
theorem cI.pA (h : cI K np nc ns lk lc tp cp gp G J mk st ap kd sn L f) (hm : a ∈ L) (hk : kd a = 20) {fs : List Value} (hf : f a = .inr (0, fs)) (v : Int64) : cI K np nc ns lk lc tp cp gp G J mk st (va_up ap (sn a) v) kd sn L (va_up f a (.inr (0, fs.set 12 (.long v)))) := by
  obtain ⟨fs2, h1, h2, h3⟩ := h.o hm hk rfl (ci := 0) rfl (n := 16) rfl
  rw [hf] at h1
  cases h1
  have h0 := h.1 a hm
  rw [hk] at h0
  refine h.cw hm ?_ (fun _ _ => rfl) (fun _ _ => rfl) (Nat.le_refl _) (fun _ => Nat.le_refl _) (Nat.le_refl _) (fun _ => Nat.le_refl _) (fun _ => Nat.le_refl _) (Nat.le_refl _) (Nat.le_refl _) (fun _ _ _ _ => rfl) (fun b hb hne hkb => va_up_ne _ _ (fun z => hne (h.2.2 b hb a hm hkb hk z))) (fun _ => rfl) (fun _ => Nat.le_refl _) (fun _ => Nat.le_refl _) (fun _ => Nat.le_refl _)
  rw [hk]
  refine ⟨fun _ => ⟨fs.set 12 (.long v), rfl, by rw [List.length_set]; exact h2, fun i hi => ?_⟩, by simp, by simp, by simp, by simp, by simp, by simp, by simp, by simp, by simp, by simp, by simp, by simp, by simp, by simp, h0.2.2.2.2.2.2.2.2.2.2.2.2.2.2.2⟩
  by_cases q : 12 = i
  · subst q
    rw [List.getElem?_set_self (by rw [h2]; omega)]
    have e1 : va_up ap (sn a) v (sn a) = v := va_up_self _ _ _
    have e2 := fv11 (np := np) (nc := nc) (lk := lk) (G := G) (J := J) (st := st) (ap := va_up ap (sn a) v) (kd := kd) (sn := sn) (L := L) (k := 12) (a := a)
    rw [e1] at e2
    exact e2
  · rw [List.getElem?_set_ne q]
    have ht : ¬ (ftb 20).getD i 0 = 11 := by
      have : ∀ i, i < 16 → ¬ 12 = i → ¬ (ftb 20).getD i 0 = 11 := by decide
      exact this i hi q
    exact (h3 i hi).ch (fun _ => rfl) (fun _ => rfl) (Nat.le_refl _) (Nat.le_refl _) (Nat.le_refl _) (fun _ => rfl) (fun z => absurd z ht) (fun _ h => h) (fun _ _ _ => rfl) (fun _ _ _ => rfl) rfl (ft_100 rfl)
/-- more may be said -/
theorem cI.le (h : cI K np nc ns lk lc tp cp gp G J mk st ap kd sn L f) (hlk : lk ≤ lk') (hlc : lc ≤ lc') (htp : tp' ≤ tp) (hcp : cp' ≤ cp) (hgp : gp' ≤ gp) : cI K np nc ns lk' lc' tp' cp' gp' G J mk st ap kd sn L f :=
  ⟨fun b hb => (h.1 b hb).ch (fun _ _ => rfl) (fun _ _ => rfl) (Nat.le_refl _) (fun _ => Nat.le_refl _) (Nat.le_refl _) (fun _ => Nat.le_refl _) (fun _ => Nat.le_refl _) hlk hlc (fun _ => rfl) (fun _ => rfl) (fun _ => rfl) (fun _ => htp) (fun _ => hcp) (fun _ => hgp) (fun _ h => h) (fun _ _ _ => rfl) (fun _ _ _ => rfl) (fun _ => rfl), h.2⟩
/-- a new cell, of which nothing is said yet -/
theorem cI.n0 (h : cI K np nc ns lk lc tp cp gp G J mk st ap kd sn L f) {q : Nat} (hq : q ∉ L) (e : va_E) : cI K np nc ns lk lc tp cp gp G J mk st ap (va_up kd q 0) sn (L ++ [q]) (va_up f q e) := by
  have hk : ∀ b ∈ L, va_up kd q 0 b = kd b := fun b hb => va_up_ne _ _ (fun z => hq (by rw [← z]; exact hb))
  have hq0 : va_up kd q 0 q = 0 := va_up_self _ _ _
  have hmm : ∀ b, b ∈ L ++ [q] → ¬ va_up kd q 0 b = 0 → b ∈ L := fun b hb hz => by
    rcases List.mem_append.mp hb with z | z
    · exact z
    · rw [List.mem_singleton.mp z] at hz; exact absurd hq0 hz
  refine ⟨fun b hb => ?_, fun a ha b hb e1 h1 h2 => ?_, fun a ha b hb e1 e2 e3 => ?_⟩
  · rcases List.mem_append.mp hb with z | z
    · rw [hk b z, va_up_ne _ _ (fun y => hq (by rw [← y]; exact z))]
      exact (h.1 b z).ch (fun _ _ => rfl) (fun _ _ => rfl) (Nat.le_refl _) (fun _ => Nat.le_refl _) (Nat.le_refl _) (fun _ => Nat.le_refl _) (fun _ => Nat.le_refl _) (Nat.le_refl _) (Nat.le_refl _) (fun _ => rfl) (fun _ => rfl) (fun _ => rfl) (fun _ => Nat.le_refl _) (fun _ => Nat.le_refl _) (fun _ => Nat.le_refl _) (fun _ h => List.mem_append_left _ h) (fun b hb _ => hk b hb) (fun _ _ _ => rfl) (fun _ => rfl)
    · rw [List.mem_singleton.mp z, hq0]
      unfold cOk isO
      simp
  · have ha2 := hmm a ha (by omega)
    have hb2 := hmm b hb (by omega)
    rw [hk a ha2] at e1 h1 h2
    rw [hk b hb2] at e1
    exact h.2.1 a ha2 b hb2 e1 h1 h2
  · have ha2 := hmm a ha (by omega)
    have hb2 := hmm b hb (by omega)
    rw [hk a ha2] at e1
    rw [hk b hb2] at e2
    exact h.2.2 a ha2 b hb2 e1 e2 e3
/-- a cell gets its kind -/
theorem cI.rk (h : cI K np nc ns lk lc tp cp gp G J mk st ap kd sn L f) (hm : a ∈ L) (h0 : kd a = 0) (κ s9 : Nat) (hκ : 14 ≤ κ) (hlk : lk ≤ lk') (hlc : lc ≤ lc') (hst : ∀ b ∈ L, kd b = 20 → st' (sn b) = st (sn b)) (hap : ∀ b ∈ L, kd b = 20 → ap' (sn b) = ap (sn b)) (hu : κ = 20 → ∀ b ∈ L, kd b = 20 → ¬ sn b = s9) (he : cOk K np nc ns lk' lc' tp cp gp G J mk st' ap' (va_up kd a κ) (va_up sn a s9) L a κ (f a)) : cI K np nc ns lk' lc' tp cp gp G J mk st' ap' (va_up kd a κ) (va_up sn a s9) L f := by
  have hk : ∀ b, ¬ b = a → va_up kd a κ b = kd b := fun b hb => va_up_ne _ _ hb
  have hs : ∀ b, ¬ b = a → va_up sn a s9 b = sn b := fun b hb => va_up_ne _ _ hb
  have hka : va_up kd a κ a = κ := va_up_self _ _ _
  have hsa : va_up sn a s9 a = s9 := va_up_self _ _ _
  have hn : ∀ b, ¬ kd b = 0 → ¬ b = a := fun b hb z => hb (by rw [z]; exact h0)
  refine ⟨fun b hb => ?_, fun x hx y hy e1 h1 h2 => ?_, fun x hx y hy e1 e2 e3 => ?_⟩
  · by_cases q : b = a
    · rw [q, hka]; exact he
    · rw [hk b q]
      exact (h.1 b hb).ch (fun _ _ => rfl) (fun _ _ => rfl) (Nat.le_refl _) (fun _ => Nat.le_refl _) (Nat.le_refl _) (fun _ => Nat.le_refl _) (fun _ => Nat.le_refl _) hlk hlc (fun z => by rw [hs b q]; exact hst b hb z) (fun z => by rw [hs b q]; exact hap b hb z) (fun _ => rfl) (fun _ => Nat.le_refl _) (fun _ => Nat.le_refl _) (fun _ => Nat.le_refl _) (fun _ h => h) (fun b hb z => hk b (hn b z)) (fun b hb z => hs b (hn b z)) (fun _ => hs b q)
  · by_cases q : x = a
    · rw [q, hka] at h2; omega
    · by_cases q2 : y = a
      · rw [q2, hka] at e1; omega
      · rw [hk x q] at e1 h1 h2
        rw [hk y q2] at e1
        exact h.2.1 x hx y hy e1 h1 h2
  · by_cases q : x = a
    · by_cases q2 : y = a
      · rw [q, q2]
      · rw [q, hka] at e1
        rw [hk y q2] at e2
        rw [q, hsa, hs y q2] at e3
        exact absurd e3.symm (hu e1 y hy e2)
    · by_cases q2 : y = a
      · rw [q2, hka] at e2
        rw [hk x q] at e1
        rw [q2, hsa, hs x q] at e3
        exact absurd e3 (hu e2 x hx e1)
      · rw [hk x q] at e1
        rw [hk y q2] at e2
        rw [hs x q, hs y q2] at e3
        exact h.2.2 x hx y hy e1 e2 e3
end CH
