theorem ws_map {A : Nat → Prop} {ws : va_W} (hD : va_D A ws) : ∃ f : Nat → va_E, va_pl (ws.map Prod.fst) f = ws ∧ (∀ (k : Nat) (q : Nat × va_E), ws[k]? = some q → f q.1 = q.2) ∧ gN (ws.map Prod.fst) := by
  classical
  obtain ⟨f, hf⟩ : ∃ f : Nat → va_E, ∀ q ∈ ws, f q.1 = q.2 := by
    refine ⟨fun a => if h : ∃ q ∈ ws, q.1 = a then (Classical.choose h).2 else .inr (0, []), fun q hq => ?_⟩
    have h : ∃ x ∈ ws, x.1 = q.1 := ⟨q, hq, rfl⟩
    show (if h : ∃ x ∈ ws, x.1 = q.1 then (Classical.choose h).2 else _) = _
    rw [dif_pos h]
    obtain ⟨h1, h2⟩ := Classical.choose_spec h
    obtain ⟨i, hi⟩ := List.getElem?_of_mem h1
    obtain ⟨j, hj⟩ := List.getElem?_of_mem hq
    have := hD.1 i j _ _ hi hj h2
    subst this
    rw [hi] at hj
    rw [Option.some.inj hj]
  refine ⟨f, ?_, fun k q h => hf q (List.mem_of_getElem? h), fun i j a hi hj => ?_⟩
  · unfold va_pl
    rw [List.map_map]
    conv => rhs; rw [← List.map_id ws]
    exact List.map_congr_left (fun q hq => by show (q.1, f q.1) = q; rw [hf q hq])
  · rw [List.getElem?_map] at hi hj
    cases h1 : ws[i]? with
    | none => rw [h1] at hi; cases hi
    | some x =>
      cases h2 : ws[j]? with
      | none => rw [h2] at hj; cases hj
      | some z =>
        rw [h1] at hi; rw [h2] at hj
        exact hD.1 i j x z h1 h2 ((Option.some.inj hi).trans (Option.some.inj hj).symm)
theorem ws_kd {A : Nat → Prop} {ws : va_W} (hD : va_D A ws) (ks : List Nat) : ∃ kd : Nat → Nat, ∀ (i : Nat) (q : Nat × va_E), ws[i]? = some q → kd q.1 = ks.getD i 0 := by
  classical
  refine ⟨fun a => if h : ∃ i, ∃ q : Nat × va_E, ws[i]? = some q ∧ q.1 = a then ks.getD (Classical.choose h) 0 else 0, fun i q hq => ?_⟩
  have h : ∃ i, ∃ x : Nat × va_E, ws[i]? = some x ∧ x.1 = q.1 := ⟨i, q, hq, rfl⟩
  show (if h : ∃ i, ∃ x : Nat × va_E, ws[i]? = some x ∧ x.1 = q.1 then ks.getD (Classical.choose h) 0 else 0) = _
  rw [dif_pos h]
  obtain ⟨x, h1, h2⟩ := Classical.choose_spec h
  rw [hD.1 _ i x q h1 hq h2]
/-- the reference at its start -/
theorem mI_0 {A : Nat → Prop} {D : va_G} {K : Nat → ClassId} {rt : Nat → Nat} {H : Heap} {h0 : Nat} (hrt : rt 51 = h0) (hP : va_P D vwCl (mW0 K rt h0) H) (hD : va_D A (mW0 K rt h0)) : ∃ (L : List Nat) (f : Nat → va_E), va_P D vwCl (va_pl L f) H ∧ gN L ∧ (∀ a ∈ L, A a) ∧ (∀ a ∈ L, ∃ (k : Nat) (q : Nat × va_E), (mW0 K rt h0)[k]? = some q ∧ q.1 = a) ∧ mI K rt L f 0 0 0 0 0 (fun _ => 0) := by
  obtain ⟨f, h1, h2, h3⟩ := ws_map hD
  have hw : mW0 K rt h0 = (51 :: mArr).map (fun k => (rt k, if k = 51 then .inr (6, mF0 rt) else mE0 K k)) := by
    rw [mW0, List.map_cons, if_pos rfl, hrt]
    refine congrArg _ (List.map_congr_left (fun k hk => ?_))
    rw [if_neg (fun q => by rw [q] at hk; exact absurd hk (by decide))]
  have hpos : ∀ i ∈ mRoots, ∃ p9 : Nat, (51 :: mArr)[p9]? = some i := fun i hi => List.getElem?_of_mem ((List.mem_append.mp hi).elim (fun h => List.mem_cons_of_mem _ h) (fun h => by rw [List.mem_singleton.mp h]; exact List.mem_cons_self))
  have hat : ∀ (i p9 : Nat), (51 :: mArr)[p9]? = some i → (mW0 K rt h0)[p9]? = some (rt i, if i = 51 then .inr (6, mF0 rt) else mE0 K i) := fun i p9 h => by rw [hw, List.getElem?_map, h]; rfl
  have hfr : ∀ i ∈ mRoots, f (rt i) = (if i = 51 then .inr (6, mF0 rt) else mE0 K i) := fun i hi => by
    obtain ⟨p9, hp⟩ := hpos i hi
    exact h2 p9 _ (hat i p9 hp)
  have hnd : ∀ (a b i j : Nat), (51 :: mArr)[a]? = some i → (51 :: mArr)[b]? = some j → a = b → i = j := fun a b i j h1 h2 h3 => by rw [h3, h2] at h1; exact (Option.some.inj h1).symm
  have hC : mC rt ((mW0 K rt h0).map Prod.fst) f (mF0 rt) := by
    refine ⟨⟨fun i hi => ?_, fun i hi j hj e => ?_⟩, by rw [hfr 51 (by decide), if_pos rfl], rfl, fun k hk => ?_⟩
    · obtain ⟨p9, hp⟩ := hpos i hi
      exact List.mem_map.mpr ⟨_, List.mem_of_getElem? (hat i p9 hp), rfl⟩
    · obtain ⟨p9, hp⟩ := hpos i hi
      obtain ⟨p8, hq⟩ := hpos j hj
      exact hnd p9 p8 i j hp hq (hD.1 p9 p8 _ _ (hat i p9 hp) (hat j p8 hq) e)
    · have : ∀ k ∈ mArr, (mF0 rt)[k]? = some (.ref (rt k)) := by
        intro k hk
        simp only [mArr, List.mem_cons, List.not_mem_nil, or_false] at hk
        rcases hk with rfl | rfl | rfl | rfl | rfl | rfl | rfl | rfl | rfl | rfl | rfl | rfl | rfl | rfl | rfl | rfl | rfl | rfl | rfl | rfl | rfl | rfl | rfl | rfl | rfl | rfl | rfl | rfl | rfl | rfl | rfl | rfl | rfl | rfl | rfl | rfl | rfl | rfl <;> rfl
      exact this k hk
  have hE : ∀ k ∈ mArr, f (rt k) = mE0 K k := fun k hk => by rw [hfr k (List.mem_append_left _ hk), if_neg (fun q => by rw [q] at hk; exact absurd hk (by decide))]
  refine ⟨(mW0 K rt h0).map Prod.fst, f, by rw [h1]; exact hP, h3, fun a ha => ?_, fun a ha => ?_, mF0 rt, hC, fun k hk => ?_, by omega, by omega, by omega, by omega, rfl, rfl, ⟨_, rfl⟩, ⟨_, rfl⟩, rfl, rfl, rfl, ⟨_, rfl⟩, ⟨_, rfl⟩, ⟨_, rfl⟩, ⟨_, rfl⟩, ⟨_, rfl⟩, hE 8 (by decide), fun g _ i hi => absurd hi (Nat.not_lt_zero i), fun g hg i hi => ?_, fun g hg i hi => ?_, fun g1 g2 g3 hg _ _ i hi => ?_, fun g _ i hi => absurd hi (Nat.not_lt_zero i)⟩
  · obtain ⟨q, hq, rfl⟩ := List.mem_map.mp ha
    obtain ⟨k, hk⟩ := List.getElem?_of_mem hq
    exact hD.2 k q hk
  · obtain ⟨q, hq, rfl⟩ := List.mem_map.mp ha
    obtain ⟨k, hk⟩ := List.getElem?_of_mem hq
    exact ⟨k, q, hk, rfl⟩
  · rw [hE k hk]
    unfold mE0 mTy
    by_cases z : mKd k = 1
    · rw [if_pos z]; exact Or.inl ⟨z, _, rfl⟩
    · rw [if_neg z]; exact Or.inr ⟨z, _, rfl⟩
  · rw [up_arr (g' := fun _ => 0) (hE 7 (by decide)) hg]; exact ⟨0, by omega, rfl⟩
  · rw [up_arr (g' := fun _ => 0) (hE 14 (by decide)) hg]; exact ⟨0, by omega, rfl⟩
  · rw [up_arr (g' := fun _ => 0) (hE 22 (by decide)) hg]; exact Or.inl rfl
set_option maxHeartbeats 4000000 in
set_option maxRecDepth 100000 in
theorem cI_0 {A : Nat → Prop} {D : va_G} {K : Nat → ClassId} {H : Heap} {h0 qp qc qs qm qg qv qr gc gt gw go ga : Nat} {f fg : List Value} (hl : f.length = 17) (y0 : f[0]? = some (.ref qp)) (y1 : f[1]? = some (.ref qc)) (y2 : f[2]? = some (.ref qs)) (y3 : f[3]? = some (.ref qm)) (y4 : f[4]? = some (.ref qg)) (y5 : f[5]? = some (.ref qv)) (y6 : f[6]? = some (.ref qr)) (y7 : f[7]? = some (.int 0)) (y8 : f[8]? = some (.int 0)) (y9 : f[9]? = some (.int 0)) (y10 : f[10]? = some (.int 0)) (y11 : f[11]? = some (.int 0)) (y12 : f[12]? = some (.int 0)) (y13 : f[13]? = some (.int 0)) (y14 : f[14]? = some (.int 0)) (y15 : f[15]? = some (.int 50)) (y16 : f[16]? = some (.int 10000)) (hgl : fg.length = 9) (g0 : fg[0]? = some (.ref gc)) (g1 : fg[1]? = some (.ref gt)) (g2 : fg[2]? = some (.ref gw)) (g3 : fg[3]? = some (.ref go)) (g4 : fg[4]? = some (.ref ga)) (g5 : fg[5]? = some (.int 0)) (g6 : fg[6]? = some (.int 0)) (g7 : fg[7]? = some (.long 0)) (g8 : fg[8]? = some (.long 0)) (hP : va_P D vwCl [(h0, .inr (5, f)), (qp, .inl (K 3, 8, .inr (.inr (.inr (.inr (fun _ => none)))))), (qc, .inl (K 4, 40, .inr (.inr (.inr (.inr (fun _ => none)))))), (qs, .inl (K 5, 1000, .inr (.inr (.inr (.inr (fun _ => none)))))), (qm, .inl (K 0, 100, .inl (fun _ => 0))), (qg, .inr (1, fg)), (gc, .inl (K 0, 4, .inl (fun _ => 0))), (gt, .inl (K 0, 4, .inl (fun _ => 0))), (gw, .inl (K 6, 4, .inr (.inr (.inr (.inr (fun i => if i < 4 then some (gw + 1 + i) else none)))))), (gw + 1, .inl (K 1, 40, .inr (.inl (fun _ => 0)))), (gw + 2, .inl (K 1, 40, .inr (.inl (fun _ => 0)))), (gw + 3, .inl (K 1, 40, .inr (.inl (fun _ => 0)))), (gw + 4, .inl (K 1, 40, .inr (.inl (fun _ => 0)))), (go, .inl (K 7, 4, .inr (.inr (.inr (.inr (fun i => if i < 4 then some (go + 1 + i) else none)))))), (go + 1, .inl (K 0, 40, .inl (fun _ => 0))), (go + 2, .inl (K 0, 40, .inl (fun _ => 0))), (go + 3, .inl (K 0, 40, .inl (fun _ => 0))), (go + 4, .inl (K 0, 40, .inl (fun _ => 0))), (ga, .inl (K 1, 40, .inr (.inl (fun _ => 0)))), (qv, .inl (K 0, 4, .inl (fun _ => 0))), (qr, .inl (K 0, 4, .inl (fun _ => 0)))] H) (hD : va_D A [(h0, .inr (5, f)), (qp, .inl (K 3, 8, .inr (.inr (.inr (.inr (fun _ => none)))))), (qc, .inl (K 4, 40, .inr (.inr (.inr (.inr (fun _ => none)))))), (qs, .inl (K 5, 1000, .inr (.inr (.inr (.inr (fun _ => none)))))), (qm, .inl (K 0, 100, .inl (fun _ => 0))), (qg, .inr (1, fg)), (gc, .inl (K 0, 4, .inl (fun _ => 0))), (gt, .inl (K 0, 4, .inl (fun _ => 0))), (gw, .inl (K 6, 4, .inr (.inr (.inr (.inr (fun i => if i < 4 then some (gw + 1 + i) else none)))))), (gw + 1, .inl (K 1, 40, .inr (.inl (fun _ => 0)))), (gw + 2, .inl (K 1, 40, .inr (.inl (fun _ => 0)))), (gw + 3, .inl (K 1, 40, .inr (.inl (fun _ => 0)))), (gw + 4, .inl (K 1, 40, .inr (.inl (fun _ => 0)))), (go, .inl (K 7, 4, .inr (.inr (.inr (.inr (fun i => if i < 4 then some (go + 1 + i) else none)))))), (go + 1, .inl (K 0, 40, .inl (fun _ => 0))), (go + 2, .inl (K 0, 40, .inl (fun _ => 0))), (go + 3, .inl (K 0, 40, .inl (fun _ => 0))), (go + 4, .inl (K 0, 40, .inl (fun _ => 0))), (ga, .inl (K 1, 40, .inr (.inl (fun _ => 0)))), (qv, .inl (K 0, 4, .inl (fun _ => 0))), (qr, .inl (K 0, 4, .inl (fun _ => 0)))]) : ∃ (L : List Nat) (F : Nat → va_E) (kd : Nat → Nat), va_P D vwCl (va_pl L F) H ∧ gN L ∧ (∀ a ∈ L, A a) ∧ (∀ a ∈ L, ∃ (k : Nat) (q : Nat × va_E), ([(h0, .inr (5, f)), (qp, .inl (K 3, 8, .inr (.inr (.inr (.inr (fun _ => none)))))), (qc, .inl (K 4, 40, .inr (.inr (.inr (.inr (fun _ => none)))))), (qs, .inl (K 5, 1000, .inr (.inr (.inr (.inr (fun _ => none)))))), (qm, .inl (K 0, 100, .inl (fun _ => 0))), (qg, .inr (1, fg)), (gc, .inl (K 0, 4, .inl (fun _ => 0))), (gt, .inl (K 0, 4, .inl (fun _ => 0))), (gw, .inl (K 6, 4, .inr (.inr (.inr (.inr (fun i => if i < 4 then some (gw + 1 + i) else none)))))), (gw + 1, .inl (K 1, 40, .inr (.inl (fun _ => 0)))), (gw + 2, .inl (K 1, 40, .inr (.inl (fun _ => 0)))), (gw + 3, .inl (K 1, 40, .inr (.inl (fun _ => 0)))), (gw + 4, .inl (K 1, 40, .inr (.inl (fun _ => 0)))), (go, .inl (K 7, 4, .inr (.inr (.inr (.inr (fun i => if i < 4 then some (go + 1 + i) else none)))))), (go + 1, .inl (K 0, 40, .inl (fun _ => 0))), (go + 2, .inl (K 0, 40, .inl (fun _ => 0))), (go + 3, .inl (K 0, 40, .inl (fun _ => 0))), (go + 4, .inl (K 0, 40, .inl (fun _ => 0))), (ga, .inl (K 1, 40, .inr (.inl (fun _ => 0)))), (qv, .inl (K 0, 4, .inl (fun _ => 0))), (qr, .inl (K 0, 4, .inl (fun _ => 0)))] : va_W)[k]? = some q ∧ q.1 = a) ∧ h0 ∈ L ∧ kd h0 = 1 ∧ cI K 0 0 0 0 0 0 0 0 (fun k => if k = 15 then 50 else if k = 16 then 10000 else 0) (fun _ => 0) (fun _ => 0) (fun _ => 0) (fun _ => 0) kd (fun _ => 0) L F := by
  obtain ⟨ws, hws⟩ : ∃ ws : va_W, ws = [(h0, .inr (5, f)), (qp, .inl (K 3, 8, .inr (.inr (.inr (.inr (fun _ => none)))))), (qc, .inl (K 4, 40, .inr (.inr (.inr (.inr (fun _ => none)))))), (qs, .inl (K 5, 1000, .inr (.inr (.inr (.inr (fun _ => none)))))), (qm, .inl (K 0, 100, .inl (fun _ => 0))), (qg, .inr (1, fg)), (gc, .inl (K 0, 4, .inl (fun _ => 0))), (gt, .inl (K 0, 4, .inl (fun _ => 0))), (gw, .inl (K 6, 4, .inr (.inr (.inr (.inr (fun i => if i < 4 then some (gw + 1 + i) else none)))))), (gw + 1, .inl (K 1, 40, .inr (.inl (fun _ => 0)))), (gw + 2, .inl (K 1, 40, .inr (.inl (fun _ => 0)))), (gw + 3, .inl (K 1, 40, .inr (.inl (fun _ => 0)))), (gw + 4, .inl (K 1, 40, .inr (.inl (fun _ => 0)))), (go, .inl (K 7, 4, .inr (.inr (.inr (.inr (fun i => if i < 4 then some (go + 1 + i) else none)))))), (go + 1, .inl (K 0, 40, .inl (fun _ => 0))), (go + 2, .inl (K 0, 40, .inl (fun _ => 0))), (go + 3, .inl (K 0, 40, .inl (fun _ => 0))), (go + 4, .inl (K 0, 40, .inl (fun _ => 0))), (ga, .inl (K 1, 40, .inr (.inl (fun _ => 0)))), (qv, .inl (K 0, 4, .inl (fun _ => 0))), (qr, .inl (K 0, 4, .inl (fun _ => 0)))] := ⟨_, rfl⟩
  rw [← hws] at hP hD ⊢
  obtain ⟨F, z1, z2, z3⟩ := ws_map hD
  obtain ⟨kd, hkd⟩ := ws_kd hD [1, 2, 3, 4, 5, 6, 9, 10, 11, 14, 14, 14, 14, 12, 15, 15, 15, 15, 13, 7, 8]
  have w0 : ws[0]? = some (h0, .inr (5, f)) := by rw [hws]; rfl
  have m0 : h0 ∈ ws.map Prod.fst := List.mem_map.mpr ⟨_, List.mem_of_getElem? w0, rfl⟩
  have k0 : kd h0 = 1 := hkd 0 _ w0
  have f0 : F h0 = .inr (5, f) := z2 0 _ w0
  have w1 : ws[1]? = some (qp, .inl (K 3, 8, .inr (.inr (.inr (.inr (fun _ => none)))))) := by rw [hws]; rfl
  have m1 : qp ∈ ws.map Prod.fst := List.mem_map.mpr ⟨_, List.mem_of_getElem? w1, rfl⟩
  have k1 : kd qp = 2 := hkd 1 _ w1
  have f1 : F qp = .inl (K 3, 8, .inr (.inr (.inr (.inr (fun _ => none))))) := z2 1 _ w1
  have w2 : ws[2]? = some (qc, .inl (K 4, 40, .inr (.inr (.inr (.inr (fun _ => none)))))) := by rw [hws]; rfl
  have m2 : qc ∈ ws.map Prod.fst := List.mem_map.mpr ⟨_, List.mem_of_getElem? w2, rfl⟩
  have k2 : kd qc = 3 := hkd 2 _ w2
  have f2 : F qc = .inl (K 4, 40, .inr (.inr (.inr (.inr (fun _ => none))))) := z2 2 _ w2
  have w3 : ws[3]? = some (qs, .inl (K 5, 1000, .inr (.inr (.inr (.inr (fun _ => none)))))) := by rw [hws]; rfl
  have m3 : qs ∈ ws.map Prod.fst := List.mem_map.mpr ⟨_, List.mem_of_getElem? w3, rfl⟩
  have k3 : kd qs = 4 := hkd 3 _ w3
  have f3 : F qs = .inl (K 5, 1000, .inr (.inr (.inr (.inr (fun _ => none))))) := z2 3 _ w3
  have w4 : ws[4]? = some (qm, .inl (K 0, 100, .inl (fun _ => 0))) := by rw [hws]; rfl
  have m4 : qm ∈ ws.map Prod.fst := List.mem_map.mpr ⟨_, List.mem_of_getElem? w4, rfl⟩
  have k4 : kd qm = 5 := hkd 4 _ w4
  have f4 : F qm = .inl (K 0, 100, .inl (fun _ => 0)) := z2 4 _ w4
  have w5 : ws[5]? = some (qg, .inr (1, fg)) := by rw [hws]; rfl
  have m5 : qg ∈ ws.map Prod.fst := List.mem_map.mpr ⟨_, List.mem_of_getElem? w5, rfl⟩
  have k5 : kd qg = 6 := hkd 5 _ w5
  have f5 : F qg = .inr (1, fg) := z2 5 _ w5
  have w6 : ws[6]? = some (gc, .inl (K 0, 4, .inl (fun _ => 0))) := by rw [hws]; rfl
  have m6 : gc ∈ ws.map Prod.fst := List.mem_map.mpr ⟨_, List.mem_of_getElem? w6, rfl⟩
  have k6 : kd gc = 9 := hkd 6 _ w6
  have f6 : F gc = .inl (K 0, 4, .inl (fun _ => 0)) := z2 6 _ w6
  have w7 : ws[7]? = some (gt, .inl (K 0, 4, .inl (fun _ => 0))) := by rw [hws]; rfl
  have m7 : gt ∈ ws.map Prod.fst := List.mem_map.mpr ⟨_, List.mem_of_getElem? w7, rfl⟩
  have k7 : kd gt = 10 := hkd 7 _ w7
  have f7 : F gt = .inl (K 0, 4, .inl (fun _ => 0)) := z2 7 _ w7
  have w8 : ws[8]? = some (gw, .inl (K 6, 4, .inr (.inr (.inr (.inr (fun i => if i < 4 then some (gw + 1 + i) else none)))))) := by rw [hws]; rfl
  have m8 : gw ∈ ws.map Prod.fst := List.mem_map.mpr ⟨_, List.mem_of_getElem? w8, rfl⟩
  have k8 : kd gw = 11 := hkd 8 _ w8
  have f8 : F gw = .inl (K 6, 4, .inr (.inr (.inr (.inr (fun i => if i < 4 then some (gw + 1 + i) else none))))) := z2 8 _ w8
  have w9 : ws[9]? = some (gw + 1, .inl (K 1, 40, .inr (.inl (fun _ => 0)))) := by rw [hws]; rfl
  have m9 : (gw + 1) ∈ ws.map Prod.fst := List.mem_map.mpr ⟨_, List.mem_of_getElem? w9, rfl⟩
  have k9 : kd (gw + 1) = 14 := hkd 9 _ w9
  have f9 : F (gw + 1) = .inl (K 1, 40, .inr (.inl (fun _ => 0))) := z2 9 _ w9
  have w10 : ws[10]? = some (gw + 2, .inl (K 1, 40, .inr (.inl (fun _ => 0)))) := by rw [hws]; rfl
  have m10 : (gw + 2) ∈ ws.map Prod.fst := List.mem_map.mpr ⟨_, List.mem_of_getElem? w10, rfl⟩
  have k10 : kd (gw + 2) = 14 := hkd 10 _ w10
  have f10 : F (gw + 2) = .inl (K 1, 40, .inr (.inl (fun _ => 0))) := z2 10 _ w10
  have w11 : ws[11]? = some (gw + 3, .inl (K 1, 40, .inr (.inl (fun _ => 0)))) := by rw [hws]; rfl
  have m11 : (gw + 3) ∈ ws.map Prod.fst := List.mem_map.mpr ⟨_, List.mem_of_getElem? w11, rfl⟩
  have k11 : kd (gw + 3) = 14 := hkd 11 _ w11
  have f11 : F (gw + 3) = .inl (K 1, 40, .inr (.inl (fun _ => 0))) := z2 11 _ w11
  have w12 : ws[12]? = some (gw + 4, .inl (K 1, 40, .inr (.inl (fun _ => 0)))) := by rw [hws]; rfl
  have m12 : (gw + 4) ∈ ws.map Prod.fst := List.mem_map.mpr ⟨_, List.mem_of_getElem? w12, rfl⟩
  have k12 : kd (gw + 4) = 14 := hkd 12 _ w12
  have f12 : F (gw + 4) = .inl (K 1, 40, .inr (.inl (fun _ => 0))) := z2 12 _ w12
  have w13 : ws[13]? = some (go, .inl (K 7, 4, .inr (.inr (.inr (.inr (fun i => if i < 4 then some (go + 1 + i) else none)))))) := by rw [hws]; rfl
  have m13 : go ∈ ws.map Prod.fst := List.mem_map.mpr ⟨_, List.mem_of_getElem? w13, rfl⟩
  have k13 : kd go = 12 := hkd 13 _ w13
  have f13 : F go = .inl (K 7, 4, .inr (.inr (.inr (.inr (fun i => if i < 4 then some (go + 1 + i) else none))))) := z2 13 _ w13
  have w14 : ws[14]? = some (go + 1, .inl (K 0, 40, .inl (fun _ => 0))) := by rw [hws]; rfl
  have m14 : (go + 1) ∈ ws.map Prod.fst := List.mem_map.mpr ⟨_, List.mem_of_getElem? w14, rfl⟩
  have k14 : kd (go + 1) = 15 := hkd 14 _ w14
  have f14 : F (go + 1) = .inl (K 0, 40, .inl (fun _ => 0)) := z2 14 _ w14
  have w15 : ws[15]? = some (go + 2, .inl (K 0, 40, .inl (fun _ => 0))) := by rw [hws]; rfl
  have m15 : (go + 2) ∈ ws.map Prod.fst := List.mem_map.mpr ⟨_, List.mem_of_getElem? w15, rfl⟩
  have k15 : kd (go + 2) = 15 := hkd 15 _ w15
  have f15 : F (go + 2) = .inl (K 0, 40, .inl (fun _ => 0)) := z2 15 _ w15
  have w16 : ws[16]? = some (go + 3, .inl (K 0, 40, .inl (fun _ => 0))) := by rw [hws]; rfl
  have m16 : (go + 3) ∈ ws.map Prod.fst := List.mem_map.mpr ⟨_, List.mem_of_getElem? w16, rfl⟩
  have k16 : kd (go + 3) = 15 := hkd 16 _ w16
  have f16 : F (go + 3) = .inl (K 0, 40, .inl (fun _ => 0)) := z2 16 _ w16
  have w17 : ws[17]? = some (go + 4, .inl (K 0, 40, .inl (fun _ => 0))) := by rw [hws]; rfl
  have m17 : (go + 4) ∈ ws.map Prod.fst := List.mem_map.mpr ⟨_, List.mem_of_getElem? w17, rfl⟩
  have k17 : kd (go + 4) = 15 := hkd 17 _ w17
  have f17 : F (go + 4) = .inl (K 0, 40, .inl (fun _ => 0)) := z2 17 _ w17
  have w18 : ws[18]? = some (ga, .inl (K 1, 40, .inr (.inl (fun _ => 0)))) := by rw [hws]; rfl
  have m18 : ga ∈ ws.map Prod.fst := List.mem_map.mpr ⟨_, List.mem_of_getElem? w18, rfl⟩
  have k18 : kd ga = 13 := hkd 18 _ w18
  have f18 : F ga = .inl (K 1, 40, .inr (.inl (fun _ => 0))) := z2 18 _ w18
  have w19 : ws[19]? = some (qv, .inl (K 0, 4, .inl (fun _ => 0))) := by rw [hws]; rfl
  have m19 : qv ∈ ws.map Prod.fst := List.mem_map.mpr ⟨_, List.mem_of_getElem? w19, rfl⟩
  have k19 : kd qv = 7 := hkd 19 _ w19
  have f19 : F qv = .inl (K 0, 4, .inl (fun _ => 0)) := z2 19 _ w19
  have w20 : ws[20]? = some (qr, .inl (K 0, 4, .inl (fun _ => 0))) := by rw [hws]; rfl
  have m20 : qr ∈ ws.map Prod.fst := List.mem_map.mpr ⟨_, List.mem_of_getElem? w20, rfl⟩
  have k20 : kd qr = 8 := hkd 20 _ w20
  have f20 : F qr = .inl (K 0, 4, .inl (fun _ => 0)) := z2 20 _ w20
  have hlen : ws.length = 21 := by rw [hws]; rfl
  have hix : ∀ a ∈ ws.map Prod.fst, ∃ (i : Nat) (q : Nat × va_E), i < 21 ∧ ws[i]? = some q ∧ q.1 = a := fun a ha => by
    obtain ⟨q, hq, rfl⟩ := List.mem_map.mp ha
    obtain ⟨i, hi⟩ := List.getElem?_of_mem hq
    exact ⟨i, q, by rw [← hlen]; exact (List.getElem?_eq_some_iff.mp hi).1, hi, rfl⟩
  refine ⟨ws.map Prod.fst, F, kd, by rw [z1]; exact hP, z3, fun a ha => ?_, fun a ha => ?_, m0, k0, fun a ha => ?_, fun a ha b hb e1 e2 e3 => ?_, fun a ha b hb e1 _ _ => ?_⟩
  · obtain ⟨i, q, -, hq, rfl⟩ := hix a ha
    exact hD.2 i q hq
  · obtain ⟨i, q, -, hq, e⟩ := hix a ha
    exact ⟨i, q, hq, e⟩
  · obtain ⟨i, q, hi, hq, rfl⟩ := hix a ha
    have hh : i = 0 ∨ i = 1 ∨ i = 2 ∨ i = 3 ∨ i = 4 ∨ i = 5 ∨ i = 6 ∨ i = 7 ∨ i = 8 ∨ i = 9 ∨ i = 10 ∨ i = 11 ∨ i = 12 ∨ i = 13 ∨ i = 14 ∨ i = 15 ∨ i = 16 ∨ i = 17 ∨ i = 18 ∨ i = 19 ∨ i = 20 := by omega
    rcases hh with rfl | rfl | rfl | rfl | rfl | rfl | rfl | rfl | rfl | rfl | rfl | rfl | rfl | rfl | rfl | rfl | rfl | rfl | rfl | rfl | rfl
    · rw [w0] at hq; cases hq; rw [k0, f0]
      refine ⟨fun _ => ⟨f, rfl, hl, fun i hi => ?_⟩, by simp, by simp, by simp, by simp, by simp, by simp, by simp, by simp, by simp, by simp, by simp, by simp, by simp, by simp, by simp⟩
      have hi : i < 17 := hi
      have hh : i = 0 ∨ i = 1 ∨ i = 2 ∨ i = 3 ∨ i = 4 ∨ i = 5 ∨ i = 6 ∨ i = 7 ∨ i = 8 ∨ i = 9 ∨ i = 10 ∨ i = 11 ∨ i = 12 ∨ i = 13 ∨ i = 14 ∨ i = 15 ∨ i = 16 := by omega
      rcases hh with rfl | rfl | rfl | rfl | rfl | rfl | rfl | rfl | rfl | rfl | rfl | rfl | rfl | rfl | rfl | rfl | rfl
      · exact fvO y0 (fvR (t := 2) m1 k1)
      · exact fvO y1 (fvR (t := 3) m2 k2)
      · exact fvO y2 (fvR (t := 4) m3 k3)
      · exact fvO y3 (fvR (t := 5) m4 k4)
      · exact fvO y4 (fvR (t := 6) m5 k5)
      · exact fvO y5 (fvR (t := 7) m19 k19)
      · exact fvO y6 (fvR (t := 8) m20 k20)
      · exact fvO y7 fv3
      · exact fvO y8 fv3
      · exact fvO y9 fv3
      · exact fvO y10 fv3
      · exact fvO y11 fv3
      · exact fvO y12 fv3
      · exact fvO y13 fv3
      · exact fvO y14 fv3
      · exact fvO y15 fv3
      · exact fvO y16 fv3
    · rw [w1] at hq; cases hq; rw [k1, f1]
      unfold cOk isO; simp; exact ⟨_, rfl, fun i hi => absurd hi (Nat.not_lt_zero i)⟩
    · rw [w2] at hq; cases hq; rw [k2, f2]
      unfold cOk isO; simp; exact ⟨_, rfl, fun i hi => absurd hi (Nat.not_lt_zero i)⟩
    · rw [w3] at hq; cases hq; rw [k3, f3]
      unfold cOk isO; simp; exact ⟨_, rfl, fun i hi => absurd hi (Nat.not_lt_zero i)⟩
    · rw [w4] at hq; cases hq; rw [k4, f4]
      unfold cOk isO; simp
    · rw [w5] at hq; cases hq; rw [k5, f5]
      refine ⟨fun _ => ⟨fg, rfl, hgl, fun i hi => ?_⟩, by simp, by simp, by simp, by simp, by simp, by simp, by simp, by simp, by simp, by simp, by simp, by simp, by simp, by simp, by simp⟩
      have hi : i < 9 := hi
      have hh : i = 0 ∨ i = 1 ∨ i = 2 ∨ i = 3 ∨ i = 4 ∨ i = 5 ∨ i = 6 ∨ i = 7 ∨ i = 8 := by omega
      rcases hh with rfl | rfl | rfl | rfl | rfl | rfl | rfl | rfl | rfl
      · exact fvO g0 (fvR (t := 9) m6 k6)
      · exact fvO g1 (fvR (t := 10) m7 k7)
      · exact fvO g2 (fvR (t := 11) m8 k8)
      · exact fvO g3 (fvR (t := 12) m13 k13)
      · exact fvO g4 (fvR (t := 13) m18 k18)
      · exact fvO g5 fv4
      · exact fvO g6 fv4
      · exact fvO g7 fv2
      · exact fvO g8 fv2
    · rw [w6] at hq; cases hq; rw [k6, f6]
      unfold cOk isO; simp; exact ⟨_, rfl, fun i hi => absurd hi (Nat.not_lt_zero i)⟩
    · rw [w7] at hq; cases hq; rw [k7, f7]
      unfold cOk isO; simp; exact ⟨_, rfl, fun i hi => absurd hi (Nat.not_lt_zero i)⟩
    · rw [w8] at hq; cases hq; rw [k8, f8]
      unfold cOk isO; simp; refine ⟨_, rfl, fun j hj => ?_⟩
      have hh : j = 0 ∨ j = 1 ∨ j = 2 ∨ j = 3 := by omega
      rcases hh with rfl | rfl | rfl | rfl
      · exact ⟨_, m9, k9, rfl⟩
      · exact ⟨_, m10, k10, rfl⟩
      · exact ⟨_, m11, k11, rfl⟩
      · exact ⟨_, m12, k12, rfl⟩
    · rw [w9] at hq; cases hq; rw [k9, f9]
      unfold cOk isO; simp
    · rw [w10] at hq; cases hq; rw [k10, f10]
      unfold cOk isO; simp
    · rw [w11] at hq; cases hq; rw [k11, f11]
      unfold cOk isO; simp
    · rw [w12] at hq; cases hq; rw [k12, f12]
      unfold cOk isO; simp
    · rw [w13] at hq; cases hq; rw [k13, f13]
      unfold cOk isO; simp; refine ⟨_, rfl, fun j hj => ?_⟩
      have hh : j = 0 ∨ j = 1 ∨ j = 2 ∨ j = 3 := by omega
      rcases hh with rfl | rfl | rfl | rfl
      · exact ⟨_, m14, k14, rfl⟩
      · exact ⟨_, m15, k15, rfl⟩
      · exact ⟨_, m16, k16, rfl⟩
      · exact ⟨_, m17, k17, rfl⟩
    · rw [w14] at hq; cases hq; rw [k14, f14]
      unfold cOk isO; simp; exact fun i hi => ⟨0, by omega, rfl, rfl⟩
    · rw [w15] at hq; cases hq; rw [k15, f15]
      unfold cOk isO; simp; exact fun i hi => ⟨0, by omega, rfl, rfl⟩
    · rw [w16] at hq; cases hq; rw [k16, f16]
      unfold cOk isO; simp; exact fun i hi => ⟨0, by omega, rfl, rfl⟩
    · rw [w17] at hq; cases hq; rw [k17, f17]
      unfold cOk isO; simp; exact fun i hi => ⟨0, by omega, rfl, rfl⟩
    · rw [w18] at hq; cases hq; rw [k18, f18]
      unfold cOk isO; simp
    · rw [w19] at hq; cases hq; rw [k19, f19]
      unfold cOk isO; simp; exact ⟨_, rfl, fun i hi => absurd hi (Nat.not_lt_zero i)⟩
    · rw [w20] at hq; cases hq; rw [k20, f20]
      unfold cOk isO; simp
  · obtain ⟨i, q, hi, hq, rfl⟩ := hix a ha
    obtain ⟨j, q2, hj, hq2, rfl⟩ := hix b hb
    rw [hkd i q hq, hkd j q2 hq2] at e1
    rw [hkd i q hq] at e2 e3
    have hd : ∀ i, i < 21 → ∀ j, j < 21 → ([1, 2, 3, 4, 5, 6, 9, 10, 11, 14, 14, 14, 14, 12, 15, 15, 15, 15, 13, 7, 8] : List Nat).getD i 0 = ([1, 2, 3, 4, 5, 6, 9, 10, 11, 14, 14, 14, 14, 12, 15, 15, 15, 15, 13, 7, 8] : List Nat).getD j 0 → ([1, 2, 3, 4, 5, 6, 9, 10, 11, 14, 14, 14, 14, 12, 15, 15, 15, 15, 13, 7, 8] : List Nat).getD i 0 < 14 → i = j := by decide
    have := hd i hi j hj e1 e3
    subst this
    rw [hq] at hq2
    rw [Option.some.inj hq2]
  · obtain ⟨i, q, hi, hq, rfl⟩ := hix a ha
    rw [hkd i q hq] at e1
    have hd : ∀ i, i < 21 → ¬ ([1, 2, 3, 4, 5, 6, 9, 10, 11, 14, 14, 14, 14, 12, 15, 15, 15, 15, 13, 7, 8] : List Nat).getD i 0 = 20 := by decide
    exact absurd e1 (hd i hi)
