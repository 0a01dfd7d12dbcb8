set_option maxHeartbeats 16000000 in
set_option maxRecDepth 100000 in
theorem whole_start {p : Program} {e : Env} {s : State} {m : MethodId} {below : List Frame} {meth : Method} {c : Code} (l : Launch) {b L : Nat} {xs : Nat → Int32} (hL : L ≤ 4) (C0 : lw_At p s m meth c b L xs) : W p l e room_1 s m #[Value.ref b] below meth c s.heap [] 0 0 (lw_Z below #[Value.ref b] s) (entryFrame m ([Value.ref b] : List Value).toArray 4) := by
  obtain ⟨hx, hb, hr, hml, hown, hts0, hX, hbl, hlocks, hgv⟩ := C0
  have hts : ∀ w ∈ lw_B, w.before _ s = true := fun w h => hts0 w (List.mem_filter.mp h).1
  have hown : s.vm.findClass RL = some m.cls := hown
  obtain ⟨A, hAe⟩ : ∃ A : Nat → Prop, A = (fun q => s.heap.size ≤ q) := ⟨_, rfl⟩
  have hA : ∀ q : Nat, s.heap.size ≤ q → A q := fun q h => by rw [hAe]; exact h
  have hbA : ¬ A b := by rw [hAe]; exact Nat.not_le.mpr hbl
  obtain ⟨c0, iS0, hKn0⟩ := u_known (C := RX0) (T := TX0) (N := 16) (n := 16) hts uB0 (hts _ wm_124)
  obtain ⟨c1, iS1, hKn1⟩ := u_known (C := RX1) (T := TX1) (N := 9) (n := 9) hts uB1 (hts _ wm_154)
  obtain ⟨c2, iS2, hKn2⟩ := u_known (C := RX2) (T := TX2) (N := 4) (n := 4) hts uB2 (hts _ wm_92)
  obtain ⟨c3, iS3, hKn3⟩ := u_known (C := RX3) (T := TX3) (N := 12) (n := 12) hts uB3 (hts _ wm_189)
  obtain ⟨c4, iS4, hKn4⟩ := u_known (C := RX4) (T := TX4) (N := 8) (n := 8) hts uB4 (hts _ wm_100)
  obtain ⟨c5, iS5, hKn5⟩ := u_known (C := RX5) (T := TX5) (N := 17) (n := 17) hts uB5 (hts _ wm_190)
  obtain ⟨c6, iS6, hKn6⟩ := u_known (C := RX6) (T := TX6) (N := 51) (n := 51) hts uB6 (hts _ wm_191)
  obtain ⟨dC, dI, hKc⟩ : ∃ (dC : Nat → ClassId) (dI : Nat → Nat → Nat), ∀ (k : Nat) (q : vw_C), vwCl[k]? = some q → u_Kn s q.1 q.2.1 q.2.2 (dC k) (dI k) := by
    refine ⟨fun k => if k = 0 then c0 else if k = 1 then c1 else if k = 2 then c2 else if k = 3 then c3 else if k = 4 then c4 else if k = 5 then c5 else c6, fun k => if k = 0 then iS0 else if k = 1 then iS1 else if k = 2 then iS2 else if k = 3 then iS3 else if k = 4 then iS4 else if k = 5 then iS5 else iS6, ?_⟩
    intro k q hq
    match k, hq with
    | 0, hq => cases hq; exact hKn0
    | 1, hq => cases hq; exact hKn1
    | 2, hq => cases hq; exact hKn2
    | 3, hq => cases hq; exact hKn3
    | 4, hq => cases hq; exact hKn4
    | 5, hq => cases hq; exact hKn5
    | 6, hq => cases hq; exact hKn6
    | k + 7, hq => simp [vwCl] at hq
  have hS : va_S A s.heap s.heap [] := va_S.rf
  have hK : va_K (dC, dI) vwCl [] s := ⟨hKc, fun k q h => by simp at h⟩
  have hP : va_P (dC, dI) vwCl [] s.heap := fun k q h => by simp at h
  have hD : va_D A [] := ⟨fun i j p q h => by simp at h, fun k q h => by simp at h⟩
  have hexC : exC s := ⟨va_AO.of (hts0 (.arrayOver (.object RX2)) (lt_1 18 (by decide +kernel))), va_AO.of (hts0 (.arrayOver (.object RX0)) (lt_1 20 (by decide +kernel))), va_AO.of (hts0 (.arrayOver (.object RX3)) (lt_1 22 (by decide +kernel))), ⟨aoA_of (hts0 (.arrayOver (.array .long)) (lt_1 30 (by decide +kernel))), aoA_of (hts0 (.arrayOver (.array .int)) (lt_1 32 (by decide +kernel)))⟩, va_Nw.of rfl (hts0 (.methodLinkNest RX5 33 yX1_init "NoticeMarket") (lt_1 25 (by decide +kernel)))⟩
  have hn0 : va_Nw (.methodLinkNest RX0 11 yX4_init "NoticeMarket") s := va_Nw.of rfl (hts0 (.methodLinkNest RX0 11 yX4_init "NoticeMarket") (lt_1 176 (by decide +kernel)))
  obtain ⟨p1, hp1⟩ : ∃ y, xs 1 = y := ⟨_, rfl⟩
  obtain ⟨p2, hp2⟩ : ∃ y, xs 2 = y := ⟨_, rfl⟩
  obtain ⟨p3, hp3⟩ : ∃ y, xs 3 = y := ⟨_, rfl⟩
  have hl := lv_entry ([.ref b]) (n := 4) (Nat.le_of_ble_eq_true rfl)
  rw [lg_entry_eq]
  generalize (lg_sl ([.ref b]) ++ List.replicate (4 - (lg_sl ([.ref b])).length) Slot.unset).toArray = ls at hl ⊢
  have hl : lv_has ls 4 [(0, .ref b)] := hl
  refine va_new (ci := 5) (fs := [.null, .null, .null, .null, .null, .null, .null, .int 0, .int 0, .int 0, .int 0, .int 0, .int 0, .int 0, .int 0, .int 0, .int 0]) (C := RX5) (T := TX5) (N := 17) hx hb hts uB5 tyX5 tyX5_ok hown (hts _ wm_192) (hts _ wm_190) (hts _ wm_2) hK hP hD hS hA rfl (by decide +kernel) (Nat.le_of_ble_eq_true rfl) (Nat.le_of_ble_eq_true rfl) dL_law_0 (fun q_1 H hP hD hS => ?_)
  have hP : va_P (dC, dI) vwCl [(q_1, .inr (5, [.null, .null, .null, .null, .null, .null, .null, .int 0, .int 0, .int 0, .int 0, .int 0, .int 0, .int 0, .int 0, .int 0, .int 0]))] H := hP
  have hD : va_D A [(q_1, .inr (5, [.null, .null, .null, .null, .null, .null, .null, .int 0, .int 0, .int 0, .int 0, .int 0, .int 0, .int 0, .int 0, .int 0, .int 0]))] := hD
  refine lv_dup hx hb dL_law_3 rfl ?_
  refine k_N (ci := 5) (q0 := 0) (wr := []) (ex := exC) ⟨hx, hb, hml, hown, hts⟩ (n_C l dC dI H.size q_1 [.null, .null, .null, .null, .null, .null, .null, .int 0, .int 0, .int 0, .int 0, .int 0, .int 0, .int 0, .int 0, .int 0, .int 0] rfl rfl rfl rfl rfl rfl rfl rfl rfl) 0 wm_193 wm_194 wm_2 wm_195 rfl (by decide +kernel) ⟨Nat.le_of_ble_eq_true rfl, Nat.le_of_ble_eq_true rfl⟩ hK (exC_ok hexC) rfl [] rfl (by decide) (by decide) rfl hl.1 rfl (Nat.le_of_ble_eq_true rfl) dL_law_4 ⟨Nat.le_of_ble_eq_true rfl, Nat.le_of_ble_eq_true rfl⟩ hP hD hS hA (fun u H locs hpu hK hP hD hS => ?_)
  obtain ⟨fc, qp, qc, qm, cP, cC, cI⟩ := u
  obtain ⟨hlc, hc0, hc1, hc3, hc7, hc8, hc9, hc10, hc11, hc12, hc13, hc14, hc15, hc16⟩ := hpu
  have hK : va_K (dC, dI) vwCl [(cP, .object RX2), (cC, .object RX0), (cI, .int)] s := hK
  have hP : va_P (dC, dI) vwCl [(q_1, .inr (5, fc)), (qp, .inl (cP, 8, .inr (.inr (.inr (.inr (fun _ => none)))))), (qc, .inl (cC, 40, .inr (.inr (.inr (.inr (fun _ => none)))))), (qm, .inl (cI, 100, .inl (fun _ => 0)))] H := hP
  have hD : va_D A [(q_1, .inr (5, fc)), (qp, .inl (cP, 8, .inr (.inr (.inr (.inr (fun _ => none)))))), (qc, .inl (cC, 40, .inr (.inr (.inr (.inr (fun _ => none)))))), (qm, .inl (cI, 100, .inl (fun _ => 0)))] := hD
  refine lv_astore_n (lv' := [(1, .ref q_1), (0, .ref b)]) hx hb dL_law_7 rfl hl (by decide) rfl (fun ls hl => ?_)
  refine va_new (ci := 6) (fs := [.int 0, .int 0, .int 0, .int 0, .int 0, .int 0, .null, .null, .null, .int 0, .null, .null, .null, .null, .null, .null, .null, .null, .null, .null, .null, .null, .null, .null, .null, .int 0, .null, .null, .null, .null, .null, .null, .null, .null, .null, .int 0, .null, .null, .null, .int 0, .null, .null, .null, .long 0, .int 0, .int 0, .null, .null, .null, .null, .null]) (C := RX6) (T := TX6) (N := 51) hx hb hts uB6 tyX6 tyX6_ok hown (hts _ wm_196) (hts _ wm_191) (hts _ wm_6) hK hP hD hS hA rfl (by decide +kernel) (Nat.le_of_ble_eq_true rfl) (Nat.le_of_ble_eq_true rfl) dL_law_8 (fun q_2 H hP hD hS => ?_)
  have hP : va_P (dC, dI) vwCl [(q_1, .inr (5, fc)), (qp, .inl (cP, 8, .inr (.inr (.inr (.inr (fun _ => none)))))), (qc, .inl (cC, 40, .inr (.inr (.inr (.inr (fun _ => none)))))), (qm, .inl (cI, 100, .inl (fun _ => 0))), (q_2, .inr (6, [.int 0, .int 0, .int 0, .int 0, .int 0, .int 0, .null, .null, .null, .int 0, .null, .null, .null, .null, .null, .null, .null, .null, .null, .null, .null, .null, .null, .null, .null, .int 0, .null, .null, .null, .null, .null, .null, .null, .null, .null, .int 0, .null, .null, .null, .int 0, .null, .null, .null, .long 0, .int 0, .int 0, .null, .null, .null, .null, .null]))] H := hP
  have hD : va_D A [(q_1, .inr (5, fc)), (qp, .inl (cP, 8, .inr (.inr (.inr (.inr (fun _ => none)))))), (qc, .inl (cC, 40, .inr (.inr (.inr (.inr (fun _ => none)))))), (qm, .inl (cI, 100, .inl (fun _ => 0))), (q_2, .inr (6, [.int 0, .int 0, .int 0, .int 0, .int 0, .int 0, .null, .null, .null, .int 0, .null, .null, .null, .null, .null, .null, .null, .null, .null, .null, .null, .null, .null, .null, .null, .int 0, .null, .null, .null, .null, .null, .null, .null, .null, .null, .int 0, .null, .null, .null, .int 0, .null, .null, .null, .long 0, .int 0, .int 0, .null, .null, .null, .null, .null]))] := hD
  refine lv_dup hx hb dL_law_11 rfl ?_
  refine k_N (ci := 6) (q0 := 4) (wr := [(q_1, .inr (5, fc)), (qp, .inl (cP, 8, .inr (.inr (.inr (.inr (fun _ => none)))))), (qc, .inl (cC, 40, .inr (.inr (.inr (.inr (fun _ => none)))))), (qm, .inl (cI, 100, .inl (fun _ => 0)))]) (ex := (fun _ => True)) ⟨hx, hb, hml, hown, hts⟩ (n_M l dC dI H.size q_2 [.int 0, .int 0, .int 0, .int 0, .int 0, .int 0, .null, .null, .null, .int 0, .null, .null, .null, .null, .null, .null, .null, .null, .null, .null, .null, .null, .null, .null, .null, .int 0, .null, .null, .null, .null, .null, .null, .null, .null, .null, .int 0, .null, .null, .null, .int 0, .null, .null, .null, .long 0, .int 0, .int 0, .null, .null, .null, .null, .null] rfl rfl rfl rfl rfl rfl rfl) 0 wm_197 wm_198 wm_6 wm_199 rfl (by decide +kernel) ⟨Nat.le_of_ble_eq_true rfl, Nat.le_of_ble_eq_true rfl⟩ hK exT rfl [0, 1, 2, 3] rfl (by decide) (by decide) rfl hl.1 rfl (Nat.le_of_ble_eq_true rfl) dL_law_12 ⟨Nat.le_of_ble_eq_true rfl, Nat.le_of_ble_eq_true rfl⟩ hP hD hS hA (fun u H locs hpu hK hP hD hS => ?_)
  obtain ⟨fm, q_places, q_sizes, q_marks, q_sort, q_pays, q_must, q_never, q_bid, q_cap, q_span, q_throttle, q_promised, cJ⟩ := u
  obtain ⟨hlm, hm6, hm7, hm8, hm10, hm11, hm12, hm13, hm14, hm17, hm18, hm19, hm22, hm1, hm2, hm3, hm5, hm9, hm25⟩ := hpu
  have hK : va_K (dC, dI) vwCl [(cP, .object RX2), (cC, .object RX0), (cI, .int), (cJ, .int)] s := hK
  have hP : va_P (dC, dI) vwCl [(q_1, .inr (5, fc)), (qp, .inl (cP, 8, .inr (.inr (.inr (.inr (fun _ => none)))))), (qc, .inl (cC, 40, .inr (.inr (.inr (.inr (fun _ => none)))))), (qm, .inl (cI, 100, .inl (fun _ => 0))), (q_2, .inr (6, fm)), (q_places, .inl (cJ, 8, .inl (fun _ => 0))), (q_sizes, .inl (cJ, 32, .inl (fun _ => 0))), (q_marks, .inl (cJ, 100, .inl (fun _ => 0))), (q_sort, .inl (cJ, 40, .inl (fun _ => 0))), (q_pays, .inl (cJ, 40, .inl (fun _ => 0))), (q_must, .inl (cJ, 40, .inl (fun _ => 0))), (q_never, .inl (cJ, 40, .inl (fun _ => 0))), (q_bid, .inl (cJ, 40, .inl (fun _ => 0))), (q_cap, .inl (cJ, 40, .inl (fun _ => 0))), (q_span, .inl (cJ, 40, .inl (fun _ => 0))), (q_throttle, .inl (cJ, 40, .inl (fun _ => 0))), (q_promised, .inl (cJ, 40, .inl (fun _ => 0)))] H := hP
  have hD : va_D A [(q_1, .inr (5, fc)), (qp, .inl (cP, 8, .inr (.inr (.inr (.inr (fun _ => none)))))), (qc, .inl (cC, 40, .inr (.inr (.inr (.inr (fun _ => none)))))), (qm, .inl (cI, 100, .inl (fun _ => 0))), (q_2, .inr (6, fm)), (q_places, .inl (cJ, 8, .inl (fun _ => 0))), (q_sizes, .inl (cJ, 32, .inl (fun _ => 0))), (q_marks, .inl (cJ, 100, .inl (fun _ => 0))), (q_sort, .inl (cJ, 40, .inl (fun _ => 0))), (q_pays, .inl (cJ, 40, .inl (fun _ => 0))), (q_must, .inl (cJ, 40, .inl (fun _ => 0))), (q_never, .inl (cJ, 40, .inl (fun _ => 0))), (q_bid, .inl (cJ, 40, .inl (fun _ => 0))), (q_cap, .inl (cJ, 40, .inl (fun _ => 0))), (q_span, .inl (cJ, 40, .inl (fun _ => 0))), (q_throttle, .inl (cJ, 40, .inl (fun _ => 0))), (q_promised, .inl (cJ, 40, .inl (fun _ => 0)))] := hD
  refine lv_astore_n (lv' := [(2, .ref q_2), (1, .ref q_1), (0, .ref b)]) hx hb dL_law_15 rfl hl (by decide) rfl (fun ls hl => ?_)
  refine lv_iconst (v := 0) hx hb dL_law_16 (by decide) ?_
  refine lv_istore_n (lv' := [(3, .int 0), (2, .ref q_2), (1, .ref q_1), (0, .ref b)]) hx hb dL_law_17 rfl hl (by decide) rfl (fun ls hl => ?_)
  rcases (show L = 0 ∨ L = 1 ∨ L = 2 ∨ L = 3 ∨ L = 4 by omega) with rfl | rfl | rfl | rfl | rfl
  · skip
    refine lv_iload_n hx hb dL_law_18 rfl (lv_at hl 0 rfl) ?_
    refine lv_aload_n hx hb dL_law_19 rfl (lv_at hl 3 rfl) ?_
    refine va_slen hx hb hX hbl hbA hS dL_law_20 ?_
    refine lv_topi (fun x_3 ex_3 => ?_)
    obtain rfl : x_3 = 0 := ex_3.trans (by decide)
    refine lv_iconst (v := 4) hx hb dL_law_21 (by decide) ?_
    refine lv_isub hx hb dL_law_22 ?_
    refine lv_topi (fun x_4 ex_4 => ?_)
    obtain rfl : x_4 = (-4) := ex_4.trans (by decide)
    refine lv_icmp_gt (tgt := 896) hx hb dL_law_23 (by decide) (fun _ => ?_) (fun h9 => absurd (by decide) h9)
    refine lv_iconst (v := 1) hx hb dL_law_896 (by decide) ?_
    refine va_forget (fun q hq => by have h9 := hS.2.2 q hq; rw [hAe] at h9; exact h9) ?_
    refine W.widen (k := 600000) (n := 7302249) (Nat.le_of_ble_eq_true rfl) (Nat.le_of_ble_eq_true rfl) ?_
    exact lw_ret hx hb hr hlocks dL_law_897
  · skip
    refine lv_iload_n hx hb dL_law_18 rfl (lv_at hl 0 rfl) ?_
    refine lv_aload_n hx hb dL_law_19 rfl (lv_at hl 3 rfl) ?_
    refine va_slen hx hb hX hbl hbA hS dL_law_20 ?_
    refine lv_topi (fun x_5 ex_5 => ?_)
    obtain rfl : x_5 = 1 := ex_5.trans (by decide)
    refine lv_iconst (v := 4) hx hb dL_law_21 (by decide) ?_
    refine lv_isub hx hb dL_law_22 ?_
    refine lv_topi (fun x_6 ex_6 => ?_)
    obtain rfl : x_6 = (-3) := ex_6.trans (by decide)
    refine lv_icmp_gt (tgt := 896) hx hb dL_law_23 (by decide) (fun _ => ?_) (fun h9 => absurd (by decide) h9)
    refine lv_iconst (v := 1) hx hb dL_law_896 (by decide) ?_
    refine va_forget (fun q hq => by have h9 := hS.2.2 q hq; rw [hAe] at h9; exact h9) ?_
    refine W.widen (k := 600000) (n := 7302249) (Nat.le_of_ble_eq_true rfl) (Nat.le_of_ble_eq_true rfl) ?_
    exact lw_ret hx hb hr hlocks dL_law_897
  · skip
    refine lv_iload_n hx hb dL_law_18 rfl (lv_at hl 0 rfl) ?_
    refine lv_aload_n hx hb dL_law_19 rfl (lv_at hl 3 rfl) ?_
    refine va_slen hx hb hX hbl hbA hS dL_law_20 ?_
    refine lv_topi (fun x_7 ex_7 => ?_)
    obtain rfl : x_7 = 2 := ex_7.trans (by decide)
    refine lv_iconst (v := 4) hx hb dL_law_21 (by decide) ?_
    refine lv_isub hx hb dL_law_22 ?_
    refine lv_topi (fun x_8 ex_8 => ?_)
    obtain rfl : x_8 = (-2) := ex_8.trans (by decide)
    refine lv_icmp_gt (tgt := 896) hx hb dL_law_23 (by decide) (fun _ => ?_) (fun h9 => absurd (by decide) h9)
    refine lv_iconst (v := 1) hx hb dL_law_896 (by decide) ?_
    refine va_forget (fun q hq => by have h9 := hS.2.2 q hq; rw [hAe] at h9; exact h9) ?_
    refine W.widen (k := 600000) (n := 7302249) (Nat.le_of_ble_eq_true rfl) (Nat.le_of_ble_eq_true rfl) ?_
    exact lw_ret hx hb hr hlocks dL_law_897
  · skip
    refine lv_iload_n hx hb dL_law_18 rfl (lv_at hl 0 rfl) ?_
    refine lv_aload_n hx hb dL_law_19 rfl (lv_at hl 3 rfl) ?_
    refine va_slen hx hb hX hbl hbA hS dL_law_20 ?_
    refine lv_topi (fun x_9 ex_9 => ?_)
    obtain rfl : x_9 = 3 := ex_9.trans (by decide)
    refine lv_iconst (v := 4) hx hb dL_law_21 (by decide) ?_
    refine lv_isub hx hb dL_law_22 ?_
    refine lv_topi (fun x_10 ex_10 => ?_)
    obtain rfl : x_10 = (-1) := ex_10.trans (by decide)
    refine lv_icmp_gt (tgt := 896) hx hb dL_law_23 (by decide) (fun _ => ?_) (fun h9 => absurd (by decide) h9)
    refine lv_iconst (v := 1) hx hb dL_law_896 (by decide) ?_
    refine va_forget (fun q hq => by have h9 := hS.2.2 q hq; rw [hAe] at h9; exact h9) ?_
    refine W.widen (k := 600000) (n := 7302249) (Nat.le_of_ble_eq_true rfl) (Nat.le_of_ble_eq_true rfl) ?_
    exact lw_ret hx hb hr hlocks dL_law_897
  · skip
    refine lv_iload_n hx hb dL_law_18 rfl (lv_at hl 0 rfl) ?_
    refine lv_aload_n hx hb dL_law_19 rfl (lv_at hl 3 rfl) ?_
    refine va_slen hx hb hX hbl hbA hS dL_law_20 ?_
    refine lv_topi (fun x_11 ex_11 => ?_)
    obtain rfl : x_11 = 4 := ex_11.trans (by decide)
    refine lv_iconst (v := 4) hx hb dL_law_21 (by decide) ?_
    refine lv_isub hx hb dL_law_22 ?_
    refine lv_topi (fun x_12 ex_12 => ?_)
    obtain rfl : x_12 = 0 := ex_12.trans (by decide)
    refine lv_icmp_gt (tgt := 896) hx hb dL_law_23 (by decide) (fun h9 => absurd h9 (by decide)) (fun _ => ?_)
    refine lv_aload_n hx hb dL_law_26 rfl (lv_at hl 3 rfl) ?_
    refine lv_iload_n hx hb dL_law_27 rfl (lv_at hl 0 rfl) ?_
    refine va_sld hx hb hX hbl hbA hS (vp_in_iff.mpr (by decide)) dL_law_28 ?_
    refine lv_topi (fun x_13 ex_13 => ?_)
    refine lv_bipush (v := 31) hx hb dL_law_29 (by decide) ?_
    refine lv_iand hx hb dL_law_31 ?_
    refine lv_topi (fun x_14 ex_14 => ?_)
    rcases k_sw22 x_14 with h9 | rfl | rfl | rfl | rfl | rfl | rfl | rfl | rfl | rfl | rfl | rfl | rfl | rfl | rfl | rfl | rfl | rfl | rfl | rfl | rfl | rfl | rfl | rfl
    · skip
      refine lv_tableOut (tgt := 890) hx hb dL_law_32 h9 (by decide) ?_
      refine lv_iinc (v := 4) (lv' := [(3, .int 4), (2, .ref q_2), (1, .ref q_1), (0, .ref b)]) hx hb dL_law_890 hl (k := 0) rfl (by decide) (by decide) rfl (fun ls hl => ?_)
      refine lv_goto (tgt := 18) hx hb dL_law_893 (by decide) ?_
      refine lv_iload_n hx hb dL_law_18 rfl (lv_at hl 0 rfl) ?_
      refine lv_aload_n hx hb dL_law_19 rfl (lv_at hl 3 rfl) ?_
      refine va_slen hx hb hX hbl hbA hS dL_law_20 ?_
      refine lv_topi (fun x_15 ex_15 => ?_)
      obtain rfl : x_15 = 4 := ex_15.trans (by decide)
      refine lv_iconst (v := 4) hx hb dL_law_21 (by decide) ?_
      refine lv_isub hx hb dL_law_22 ?_
      refine lv_topi (fun x_16 ex_16 => ?_)
      obtain rfl : x_16 = 0 := ex_16.trans (by decide)
      refine lv_icmp_gt (tgt := 896) hx hb dL_law_23 (by decide) (fun _ => ?_) (fun h9 => absurd (by decide) h9)
      refine lv_iconst (v := 1) hx hb dL_law_896 (by decide) ?_
      refine va_forget (fun q hq => by have h9 := hS.2.2 q hq; rw [hAe] at h9; exact h9) ?_
      refine W.widen (k := 600000) (n := 7302249) (Nat.le_of_ble_eq_true rfl) (Nat.le_of_ble_eq_true rfl) ?_
      exact lw_ret hx hb hr hlocks dL_law_897
    · skip
      refine lv_tableIn (off := 108) (tgt := 140) hx hb dL_law_32 (by decide) (by decide) rfl (by decide) ?_
      refine lv_aload_n hx hb dL_law_140 rfl (lv_at hl 2 rfl) ?_
      refine lv_aload_n hx hb dL_law_141 rfl (lv_at hl 3 rfl) ?_
      refine lv_iload_n hx hb dL_law_142 rfl (lv_at hl 0 rfl) ?_
      refine lv_iconst (v := 1) hx hb dL_law_143 (by decide) ?_
      refine lv_iadd hx hb dL_law_144 ?_
      refine lv_topi (fun x_17 ex_17 => ?_)
      obtain rfl : x_17 = 1 := ex_17.trans (by decide)
      refine va_sld hx hb hX hbl hbA hS (vp_in_iff.mpr (by decide)) dL_law_145 ?_
      refine lv_topi (fun x_18 ex_18 => ?_)
      obtain rfl : p1 = x_18 := (ex_18.trans hp1).symm
      refine k_Fi (ci := 5) (q0 := 0) (tc := [(cP, .object RX2)]) (ex := (fun _ => True)) (wc := [(q_1, .inr (5, fc)), (qp, .inl (cP, 8, .inr (.inr (.inr (.inr (fun _ => none))))))]) (wr := [(q_2, .inr (6, fm)), (q_places, .inl (cJ, 8, .inl (fun _ => 0))), (q_sizes, .inl (cJ, 32, .inl (fun _ => 0))), (q_marks, .inl (cJ, 100, .inl (fun _ => 0))), (q_sort, .inl (cJ, 40, .inl (fun _ => 0))), (q_pays, .inl (cJ, 40, .inl (fun _ => 0))), (q_must, .inl (cJ, 40, .inl (fun _ => 0))), (q_never, .inl (cJ, 40, .inl (fun _ => 0))), (q_bid, .inl (cJ, 40, .inl (fun _ => 0))), (q_cap, .inl (cJ, 40, .inl (fun _ => 0))), (q_span, .inl (cJ, 40, .inl (fun _ => 0))), (q_throttle, .inl (cJ, 40, .inl (fun _ => 0))), (q_promised, .inl (cJ, 40, .inl (fun _ => 0)))]) ⟨hx, hb, hml, hown, hts⟩ (f_page l dC dI H.size q_1 fc qp cP p1 hc0 hc7 hlc) 1 wm_200 wm_201 wm_202 wm_2 wm_203 (by decide +kernel) ⟨Nat.le_of_ble_eq_true rfl, Nat.le_of_ble_eq_true rfl⟩ (hK.sub (tys' := [(cP, .object RX2)]) [0] rfl) exT rfl rfl [0, 1] [4, 5, 6, 7, 8, 9, 10, 11, 12, 13, 14, 15, 16] (by decide) rfl rfl (by decide) (by decide) rfl hl.1 rfl (Nat.le_of_ble_eq_true rfl) dL_law_146 ⟨Nat.le_of_ble_eq_true rfl, Nat.le_of_ble_eq_true rfl⟩ hP hD hS hA (fun r_19 H locs hpr_19 hP hD hS => ?_)
      refine lv_aload_n hx hb dL_law_149 rfl (lv_at hl 1 rfl) ?_
      refine lv_aload_n hx hb dL_law_150 rfl (lv_at hl 3 rfl) ?_
      refine lv_iload_n hx hb dL_law_151 rfl (lv_at hl 0 rfl) ?_
      refine lv_iconst (v := 1) hx hb dL_law_152 (by decide) ?_
      refine lv_iadd hx hb dL_law_153 ?_
      refine lv_topi (fun x_20 ex_20 => ?_)
      obtain rfl : x_20 = 1 := ex_20.trans (by decide)
      refine va_sld hx hb hX hbl hbA hS (vp_in_iff.mpr (by decide)) dL_law_154 ?_
      refine lv_topi (fun x_21 ex_21 => ?_)
      obtain rfl : p1 = x_21 := (ex_21.trans hp1).symm
      refine k_Fi (ci := 6) (q0 := 0) (tc := [(cJ, .int)]) (ex := (fun _ => True)) (wc := [(q_2, .inr (6, fm)), (q_sizes, .inl (cJ, 32, .inl (fun _ => 0))), (q_places, .inl (cJ, 8, .inl (fun _ => 0)))]) (wr := []) ⟨hx, hb, hml, hown, hts⟩ (f_mpage l dC dI H.size q_2 fm q_sizes q_places cJ p1 hm5 hm7 hm6 hlm) 1 wm_204 wm_205 wm_206 wm_6 wm_207 (by decide +kernel) ⟨Nat.le_of_ble_eq_true rfl, Nat.le_of_ble_eq_true rfl⟩ (hK.sub (tys' := [(cJ, .int)]) [3] rfl) exT rfl rfl [0, 2, 1] [] (by decide) rfl rfl (by decide) (by decide) rfl hl.1 rfl (Nat.le_of_ble_eq_true rfl) dL_law_155 ⟨Nat.le_of_ble_eq_true rfl, Nat.le_of_ble_eq_true rfl⟩ hP hD hS hA (fun r_22 H locs hpr_22 hP hD hS => ?_)
      refine lv_icmp_eq (tgt := 890) hx hb dL_law_158 (by decide) (fun c_23 => ?_) (fun c_23 => ?_)
      · skip
        refine lv_iinc (v := 4) (lv' := [(3, .int 4), (2, .ref q_2), (1, .ref q_1), (0, .ref b)]) hx hb dL_law_890 hl (k := 0) rfl (by decide) (by decide) rfl (fun ls hl => ?_)
        refine lv_goto (tgt := 18) hx hb dL_law_893 (by decide) ?_
        refine lv_iload_n hx hb dL_law_18 rfl (lv_at hl 0 rfl) ?_
        refine lv_aload_n hx hb dL_law_19 rfl (lv_at hl 3 rfl) ?_
        refine va_slen hx hb hX hbl hbA hS dL_law_20 ?_
        refine lv_topi (fun x_24 ex_24 => ?_)
        obtain rfl : x_24 = 4 := ex_24.trans (by decide)
        refine lv_iconst (v := 4) hx hb dL_law_21 (by decide) ?_
        refine lv_isub hx hb dL_law_22 ?_
        refine lv_topi (fun x_25 ex_25 => ?_)
        obtain rfl : x_25 = 0 := ex_25.trans (by decide)
        refine lv_icmp_gt (tgt := 896) hx hb dL_law_23 (by decide) (fun _ => ?_) (fun h9 => absurd (by decide) h9)
        refine lv_iconst (v := 1) hx hb dL_law_896 (by decide) ?_
        refine va_forget (fun q hq => by have h9 := hS.2.2 q hq; rw [hAe] at h9; exact h9) ?_
        refine W.widen (k := 600000) (n := 7302249) (Nat.le_of_ble_eq_true rfl) (Nat.le_of_ble_eq_true rfl) ?_
        exact lw_ret hx hb hr hlocks dL_law_897
      · skip
        exact absurd (hpr_19.trans hpr_22.symm) c_23
    · skip
      refine lv_tableIn (off := 131) (tgt := 163) hx hb dL_law_32 (by decide) (by decide) rfl (by decide) ?_
      refine lv_aload_n hx hb dL_law_163 rfl (lv_at hl 2 rfl) ?_
      refine lv_aload_n hx hb dL_law_164 rfl (lv_at hl 3 rfl) ?_
      refine lv_iload_n hx hb dL_law_165 rfl (lv_at hl 0 rfl) ?_
      refine lv_iconst (v := 1) hx hb dL_law_166 (by decide) ?_
      refine lv_iadd hx hb dL_law_167 ?_
      refine lv_topi (fun x_26 ex_26 => ?_)
      obtain rfl : x_26 = 1 := ex_26.trans (by decide)
      refine va_sld hx hb hX hbl hbA hS (vp_in_iff.mpr (by decide)) dL_law_168 ?_
      refine lv_topi (fun x_27 ex_27 => ?_)
      obtain rfl : p1 = x_27 := (ex_27.trans hp1).symm
      refine lv_aload_n hx hb dL_law_169 rfl (lv_at hl 3 rfl) ?_
      refine lv_iload_n hx hb dL_law_170 rfl (lv_at hl 0 rfl) ?_
      refine lv_iconst (v := 2) hx hb dL_law_171 (by decide) ?_
      refine lv_iadd hx hb dL_law_172 ?_
      refine lv_topi (fun x_28 ex_28 => ?_)
      obtain rfl : x_28 = 2 := ex_28.trans (by decide)
      refine va_sld hx hb hX hbl hbA hS (vp_in_iff.mpr (by decide)) dL_law_173 ?_
      refine lv_topi (fun x_29 ex_29 => ?_)
      obtain rfl : p2 = x_29 := (ex_29.trans hp2).symm
      refine k_Fi (ci := 5) (q0 := 0) (tc := [(cI, .int)]) (ex := (fun _ => True)) (wc := [(q_1, .inr (5, fc)), (qm, .inl (cI, 100, .inl (fun _ => 0)))]) (wr := [(q_2, .inr (6, fm)), (q_places, .inl (cJ, 8, .inl (fun _ => 0))), (q_sizes, .inl (cJ, 32, .inl (fun _ => 0))), (q_marks, .inl (cJ, 100, .inl (fun _ => 0))), (q_sort, .inl (cJ, 40, .inl (fun _ => 0))), (q_pays, .inl (cJ, 40, .inl (fun _ => 0))), (q_must, .inl (cJ, 40, .inl (fun _ => 0))), (q_never, .inl (cJ, 40, .inl (fun _ => 0))), (q_bid, .inl (cJ, 40, .inl (fun _ => 0))), (q_cap, .inl (cJ, 40, .inl (fun _ => 0))), (q_span, .inl (cJ, 40, .inl (fun _ => 0))), (q_throttle, .inl (cJ, 40, .inl (fun _ => 0))), (q_promised, .inl (cJ, 40, .inl (fun _ => 0)))]) ⟨hx, hb, hml, hown, hts⟩ (f_marks l dC dI H.size q_1 fc qm cI p1 p2 hc3 hlc) 2 wm_208 wm_209 wm_210 wm_2 wm_211 (by decide +kernel) ⟨Nat.le_of_ble_eq_true rfl, Nat.le_of_ble_eq_true rfl⟩ (hK.sub (tys' := [(cI, .int)]) [2] rfl) exT rfl rfl [0, 3] [4, 5, 6, 7, 8, 9, 10, 11, 12, 13, 14, 15, 16] (by decide) rfl rfl (by decide) (by decide) rfl hl.1 rfl (Nat.le_of_ble_eq_true rfl) dL_law_174 ⟨Nat.le_of_ble_eq_true rfl, Nat.le_of_ble_eq_true rfl⟩ hP hD hS hA (fun r_30 H locs hpr_30 hP hD hS => ?_)
      refine lv_aload_n hx hb dL_law_177 rfl (lv_at hl 1 rfl) ?_
      refine lv_aload_n hx hb dL_law_178 rfl (lv_at hl 3 rfl) ?_
      refine lv_iload_n hx hb dL_law_179 rfl (lv_at hl 0 rfl) ?_
      refine lv_iconst (v := 1) hx hb dL_law_180 (by decide) ?_
      refine lv_iadd hx hb dL_law_181 ?_
      refine lv_topi (fun x_31 ex_31 => ?_)
      obtain rfl : x_31 = 1 := ex_31.trans (by decide)
      refine va_sld hx hb hX hbl hbA hS (vp_in_iff.mpr (by decide)) dL_law_182 ?_
      refine lv_topi (fun x_32 ex_32 => ?_)
      obtain rfl : p1 = x_32 := (ex_32.trans hp1).symm
      refine lv_aload_n hx hb dL_law_183 rfl (lv_at hl 3 rfl) ?_
      refine lv_iload_n hx hb dL_law_184 rfl (lv_at hl 0 rfl) ?_
      refine lv_iconst (v := 2) hx hb dL_law_185 (by decide) ?_
      refine lv_iadd hx hb dL_law_186 ?_
      refine lv_topi (fun x_33 ex_33 => ?_)
      obtain rfl : x_33 = 2 := ex_33.trans (by decide)
      refine va_sld hx hb hX hbl hbA hS (vp_in_iff.mpr (by decide)) dL_law_187 ?_
      refine lv_topi (fun x_34 ex_34 => ?_)
      obtain rfl : p2 = x_34 := (ex_34.trans hp2).symm
      refine k_Fi (ci := 6) (q0 := 0) (tc := [(cJ, .int)]) (ex := (fun _ => True)) (wc := [(q_2, .inr (6, fm)), (q_marks, .inl (cJ, 100, .inl (fun _ => 0)))]) (wr := []) ⟨hx, hb, hml, hown, hts⟩ (f_mmarks l dC dI H.size q_2 fm q_marks cJ p1 p2 hm8 hlm) 2 wm_212 wm_213 wm_214 wm_6 wm_215 (by decide +kernel) ⟨Nat.le_of_ble_eq_true rfl, Nat.le_of_ble_eq_true rfl⟩ (hK.sub (tys' := [(cJ, .int)]) [3] rfl) exT rfl rfl [0, 3] [] (by decide) rfl rfl (by decide) (by decide) rfl hl.1 rfl (Nat.le_of_ble_eq_true rfl) dL_law_188 ⟨Nat.le_of_ble_eq_true rfl, Nat.le_of_ble_eq_true rfl⟩ hP hD hS hA (fun r_35 H locs hpr_35 hP hD hS => ?_)
      refine lv_icmp_eq (tgt := 890) hx hb dL_law_191 (by decide) (fun c_36 => ?_) (fun c_36 => ?_)
      · skip
        refine lv_iinc (v := 4) (lv' := [(3, .int 4), (2, .ref q_2), (1, .ref q_1), (0, .ref b)]) hx hb dL_law_890 hl (k := 0) rfl (by decide) (by decide) rfl (fun ls hl => ?_)
        refine lv_goto (tgt := 18) hx hb dL_law_893 (by decide) ?_
        refine lv_iload_n hx hb dL_law_18 rfl (lv_at hl 0 rfl) ?_
        refine lv_aload_n hx hb dL_law_19 rfl (lv_at hl 3 rfl) ?_
        refine va_slen hx hb hX hbl hbA hS dL_law_20 ?_
        refine lv_topi (fun x_37 ex_37 => ?_)
        obtain rfl : x_37 = 4 := ex_37.trans (by decide)
        refine lv_iconst (v := 4) hx hb dL_law_21 (by decide) ?_
        refine lv_isub hx hb dL_law_22 ?_
        refine lv_topi (fun x_38 ex_38 => ?_)
        obtain rfl : x_38 = 0 := ex_38.trans (by decide)
        refine lv_icmp_gt (tgt := 896) hx hb dL_law_23 (by decide) (fun _ => ?_) (fun h9 => absurd (by decide) h9)
        refine lv_iconst (v := 1) hx hb dL_law_896 (by decide) ?_
        refine va_forget (fun q hq => by have h9 := hS.2.2 q hq; rw [hAe] at h9; exact h9) ?_
        refine W.widen (k := 600000) (n := 7302249) (Nat.le_of_ble_eq_true rfl) (Nat.le_of_ble_eq_true rfl) ?_
        exact lw_ret hx hb hr hlocks dL_law_897
      · skip
        exact absurd (hpr_30.trans hpr_35.symm) c_36
    · skip
      refine lv_tableIn (off := 164) (tgt := 196) hx hb dL_law_32 (by decide) (by decide) rfl (by decide) ?_
      refine lv_aload_n hx hb dL_law_196 rfl (lv_at hl 2 rfl) ?_
      refine lv_aload_n hx hb dL_law_197 rfl (lv_at hl 3 rfl) ?_
      refine lv_iload_n hx hb dL_law_198 rfl (lv_at hl 0 rfl) ?_
      refine lv_iconst (v := 1) hx hb dL_law_199 (by decide) ?_
      refine lv_iadd hx hb dL_law_200 ?_
      refine lv_topi (fun x_39 ex_39 => ?_)
      obtain rfl : x_39 = 1 := ex_39.trans (by decide)
      refine va_sld hx hb hX hbl hbA hS (vp_in_iff.mpr (by decide)) dL_law_201 ?_
      refine lv_topi (fun x_40 ex_40 => ?_)
      obtain rfl : p1 = x_40 := (ex_40.trans hp1).symm
      refine lv_aload_n hx hb dL_law_202 rfl (lv_at hl 3 rfl) ?_
      refine lv_iload_n hx hb dL_law_203 rfl (lv_at hl 0 rfl) ?_
      refine lv_iconst (v := 2) hx hb dL_law_204 (by decide) ?_
      refine lv_iadd hx hb dL_law_205 ?_
      refine lv_topi (fun x_41 ex_41 => ?_)
      obtain rfl : x_41 = 2 := ex_41.trans (by decide)
      refine va_sld hx hb hX hbl hbA hS (vp_in_iff.mpr (by decide)) dL_law_206 ?_
      refine lv_topi (fun x_42 ex_42 => ?_)
      obtain rfl : p2 = x_42 := (ex_42.trans hp2).symm
      refine lv_aload_n hx hb dL_law_207 rfl (lv_at hl 3 rfl) ?_
      refine lv_iload_n hx hb dL_law_208 rfl (lv_at hl 0 rfl) ?_
      refine lv_iconst (v := 3) hx hb dL_law_209 (by decide) ?_
      refine lv_iadd hx hb dL_law_210 ?_
      refine lv_topi (fun x_43 ex_43 => ?_)
      obtain rfl : x_43 = 3 := ex_43.trans (by decide)
      refine va_sld hx hb hX hbl hbA hS (vp_in_iff.mpr (by decide)) dL_law_211 ?_
      refine lv_topi (fun x_44 ex_44 => ?_)
      obtain rfl : p3 = x_44 := (ex_44.trans hp3).symm
      refine k_Fi (ci := 5) (q0 := 0) (tc := [(cC, .object RX0)]) (ex := (va_Nw (.methodLinkNest RX0 11 yX4_init "NoticeMarket"))) (wc := [(q_1, .inr (5, fc)), (qc, .inl (cC, 40, .inr (.inr (.inr (.inr (fun _ => none))))))]) (wr := [(q_2, .inr (6, fm)), (q_places, .inl (cJ, 8, .inl (fun _ => 0))), (q_sizes, .inl (cJ, 32, .inl (fun _ => 0))), (q_marks, .inl (cJ, 100, .inl (fun _ => 0))), (q_sort, .inl (cJ, 40, .inl (fun _ => 0))), (q_pays, .inl (cJ, 40, .inl (fun _ => 0))), (q_must, .inl (cJ, 40, .inl (fun _ => 0))), (q_never, .inl (cJ, 40, .inl (fun _ => 0))), (q_bid, .inl (cJ, 40, .inl (fun _ => 0))), (q_cap, .inl (cJ, 40, .inl (fun _ => 0))), (q_span, .inl (cJ, 40, .inl (fun _ => 0))), (q_throttle, .inl (cJ, 40, .inl (fun _ => 0))), (q_promised, .inl (cJ, 40, .inl (fun _ => 0)))]) ⟨hx, hb, hml, hown, hts⟩ (f_campaign l dC dI H.size q_1 fc qc cC p1 p2 p3 hc1 hc8 hlc) 3 wm_216 wm_217 wm_218 wm_2 wm_219 (by decide +kernel) ⟨Nat.le_of_ble_eq_true rfl, Nat.le_of_ble_eq_true rfl⟩ (hK.sub (tys' := [(cC, .object RX0)]) [1] rfl) (exNw hn0) rfl rfl [0, 2] [4, 5, 6, 7, 8, 9, 10, 11, 12, 13, 14, 15, 16] (by decide) rfl rfl (by decide) (by decide) rfl hl.1 rfl (Nat.le_of_ble_eq_true rfl) dL_law_212 ⟨Nat.le_of_ble_eq_true rfl, Nat.le_of_ble_eq_true rfl⟩ hP hD hS hA (fun r_45 H locs hpr_45 hP hD hS => ?_)
      refine lv_aload_n hx hb dL_law_215 rfl (lv_at hl 1 rfl) ?_
      refine lv_aload_n hx hb dL_law_216 rfl (lv_at hl 3 rfl) ?_
      refine lv_iload_n hx hb dL_law_217 rfl (lv_at hl 0 rfl) ?_
      refine lv_iconst (v := 1) hx hb dL_law_218 (by decide) ?_
      refine lv_iadd hx hb dL_law_219 ?_
      refine lv_topi (fun x_46 ex_46 => ?_)
      obtain rfl : x_46 = 1 := ex_46.trans (by decide)
      refine va_sld hx hb hX hbl hbA hS (vp_in_iff.mpr (by decide)) dL_law_220 ?_
      refine lv_topi (fun x_47 ex_47 => ?_)
      obtain rfl : p1 = x_47 := (ex_47.trans hp1).symm
      refine lv_aload_n hx hb dL_law_221 rfl (lv_at hl 3 rfl) ?_
      refine lv_iload_n hx hb dL_law_222 rfl (lv_at hl 0 rfl) ?_
      refine lv_iconst (v := 2) hx hb dL_law_223 (by decide) ?_
      refine lv_iadd hx hb dL_law_224 ?_
      refine lv_topi (fun x_48 ex_48 => ?_)
      obtain rfl : x_48 = 2 := ex_48.trans (by decide)
      refine va_sld hx hb hX hbl hbA hS (vp_in_iff.mpr (by decide)) dL_law_225 ?_
      refine lv_topi (fun x_49 ex_49 => ?_)
      obtain rfl : p2 = x_49 := (ex_49.trans hp2).symm
      refine lv_aload_n hx hb dL_law_226 rfl (lv_at hl 3 rfl) ?_
      refine lv_iload_n hx hb dL_law_227 rfl (lv_at hl 0 rfl) ?_
      refine lv_iconst (v := 3) hx hb dL_law_228 (by decide) ?_
      refine lv_iadd hx hb dL_law_229 ?_
      refine lv_topi (fun x_50 ex_50 => ?_)
      obtain rfl : x_50 = 3 := ex_50.trans (by decide)
      refine va_sld hx hb hX hbl hbA hS (vp_in_iff.mpr (by decide)) dL_law_230 ?_
      refine lv_topi (fun x_51 ex_51 => ?_)
      obtain rfl : p3 = x_51 := (ex_51.trans hp3).symm
      refine k_Fi (ci := 6) (q0 := 0) (tc := [(cJ, .int)]) (ex := (fun _ => True)) (wc := [(q_2, .inr (6, fm)), (q_sort, .inl (cJ, 40, .inl (fun _ => 0))), (q_pays, .inl (cJ, 40, .inl (fun _ => 0))), (q_must, .inl (cJ, 40, .inl (fun _ => 0))), (q_never, .inl (cJ, 40, .inl (fun _ => 0))), (q_bid, .inl (cJ, 40, .inl (fun _ => 0))), (q_cap, .inl (cJ, 40, .inl (fun _ => 0))), (q_span, .inl (cJ, 40, .inl (fun _ => 0))), (q_throttle, .inl (cJ, 40, .inl (fun _ => 0))), (q_promised, .inl (cJ, 40, .inl (fun _ => 0)))]) (wr := []) ⟨hx, hb, hml, hown, hts⟩ (f_mcampaign l dC dI H.size q_2 fm q_sort q_pays q_must q_never q_bid q_cap q_span q_throttle q_promised cJ p1 p2 p3 hm9 hm10 hm11 hm12 hm13 hm14 hm17 hm18 hm19 hm22 hlm) 3 wm_220 wm_221 wm_222 wm_6 wm_223 (by decide +kernel) ⟨Nat.le_of_ble_eq_true rfl, Nat.le_of_ble_eq_true rfl⟩ (hK.sub (tys' := [(cJ, .int)]) [3] rfl) exT rfl rfl [0, 4, 5, 6, 7, 8, 9, 10, 11, 12] [] (by decide) rfl rfl (by decide) (by decide) rfl hl.1 rfl (Nat.le_of_ble_eq_true rfl) dL_law_231 ⟨Nat.le_of_ble_eq_true rfl, Nat.le_of_ble_eq_true rfl⟩ hP hD hS hA (fun r_52 H locs hpr_52 hP hD hS => ?_)
      refine lv_icmp_eq (tgt := 890) hx hb dL_law_234 (by decide) (fun c_53 => ?_) (fun c_53 => ?_)
      · skip
        refine lv_iinc (v := 4) (lv' := [(3, .int 4), (2, .ref q_2), (1, .ref q_1), (0, .ref b)]) hx hb dL_law_890 hl (k := 0) rfl (by decide) (by decide) rfl (fun ls hl => ?_)
        refine lv_goto (tgt := 18) hx hb dL_law_893 (by decide) ?_
        refine lv_iload_n hx hb dL_law_18 rfl (lv_at hl 0 rfl) ?_
        refine lv_aload_n hx hb dL_law_19 rfl (lv_at hl 3 rfl) ?_
        refine va_slen hx hb hX hbl hbA hS dL_law_20 ?_
        refine lv_topi (fun x_54 ex_54 => ?_)
        obtain rfl : x_54 = 4 := ex_54.trans (by decide)
        refine lv_iconst (v := 4) hx hb dL_law_21 (by decide) ?_
        refine lv_isub hx hb dL_law_22 ?_
        refine lv_topi (fun x_55 ex_55 => ?_)
        obtain rfl : x_55 = 0 := ex_55.trans (by decide)
        refine lv_icmp_gt (tgt := 896) hx hb dL_law_23 (by decide) (fun _ => ?_) (fun h9 => absurd (by decide) h9)
        refine lv_iconst (v := 1) hx hb dL_law_896 (by decide) ?_
        refine va_forget (fun q hq => by have h9 := hS.2.2 q hq; rw [hAe] at h9; exact h9) ?_
        refine W.widen (k := 600000) (n := 7302249) (Nat.le_of_ble_eq_true rfl) (Nat.le_of_ble_eq_true rfl) ?_
        exact lw_ret hx hb hr hlocks dL_law_897
      · skip
        exact absurd (hpr_45.trans hpr_52.symm) c_53
    · skip
      refine lv_tableIn (off := 207) (tgt := 239) hx hb dL_law_32 (by decide) (by decide) rfl (by decide) ?_
      refine lv_aload_n hx hb dL_law_239 rfl (lv_at hl 2 rfl) ?_
      refine lv_aload_n hx hb dL_law_240 rfl (lv_at hl 3 rfl) ?_
      refine lv_iload_n hx hb dL_law_241 rfl (lv_at hl 0 rfl) ?_
      refine lv_iconst (v := 1) hx hb dL_law_242 (by decide) ?_
      refine lv_iadd hx hb dL_law_243 ?_
      refine lv_topi (fun x_56 ex_56 => ?_)
      obtain rfl : x_56 = 1 := ex_56.trans (by decide)
      refine va_sld hx hb hX hbl hbA hS (vp_in_iff.mpr (by decide)) dL_law_244 ?_
      refine lv_topi (fun x_57 ex_57 => ?_)
      obtain rfl : p1 = x_57 := (ex_57.trans hp1).symm
      refine lv_aload_n hx hb dL_law_245 rfl (lv_at hl 3 rfl) ?_
      refine lv_iload_n hx hb dL_law_246 rfl (lv_at hl 0 rfl) ?_
      refine lv_iconst (v := 2) hx hb dL_law_247 (by decide) ?_
      refine lv_iadd hx hb dL_law_248 ?_
      refine lv_topi (fun x_58 ex_58 => ?_)
      obtain rfl : x_58 = 2 := ex_58.trans (by decide)
      refine va_sld hx hb hX hbl hbA hS (vp_in_iff.mpr (by decide)) dL_law_249 ?_
      refine lv_topi (fun x_59 ex_59 => ?_)
      obtain rfl : p2 = x_59 := (ex_59.trans hp2).symm
      refine lv_aload_n hx hb dL_law_250 rfl (lv_at hl 3 rfl) ?_
      refine lv_iload_n hx hb dL_law_251 rfl (lv_at hl 0 rfl) ?_
      refine lv_iconst (v := 3) hx hb dL_law_252 (by decide) ?_
      refine lv_iadd hx hb dL_law_253 ?_
      refine lv_topi (fun x_60 ex_60 => ?_)
      obtain rfl : x_60 = 3 := ex_60.trans (by decide)
      refine va_sld hx hb hX hbl hbA hS (vp_in_iff.mpr (by decide)) dL_law_254 ?_
      refine lv_topi (fun x_61 ex_61 => ?_)
      obtain rfl : p3 = x_61 := (ex_61.trans hp3).symm
      have hPc := hP.sub (ws' := [(q_1, .inr (5, fc))]) [0] rfl
      refine k_V (ci := 5) (q0 := 0) (tc := []) ⟨hx, hb, hml, hown, hts⟩ (b_X5_budget l dC dI q_1 fc p1 p2 p3 hc7 hc8 hc9) 3 wm_224 wm_225 wm_226 wm_2 wm_227 (by decide +kernel) ⟨Nat.le_of_ble_eq_true rfl, Nat.le_of_ble_eq_true rfl⟩ hPc (hK.sub (tys' := []) [] rfl) rfl rfl rfl hl.1 rfl (Nat.le_of_ble_eq_true rfl) dL_law_255 ⟨Nat.le_of_ble_eq_true rfl, Nat.le_of_ble_eq_true rfl⟩ hS hP (fun r_62 H locs hpr_62 hP hS => ?_)
      subst hpr_62
      refine lv_aload_n hx hb dL_law_258 rfl (lv_at hl 1 rfl) ?_
      refine lv_aload_n hx hb dL_law_259 rfl (lv_at hl 3 rfl) ?_
      refine lv_iload_n hx hb dL_law_260 rfl (lv_at hl 0 rfl) ?_
      refine lv_iconst (v := 1) hx hb dL_law_261 (by decide) ?_
      refine lv_iadd hx hb dL_law_262 ?_
      refine lv_topi (fun x_63 ex_63 => ?_)
      obtain rfl : x_63 = 1 := ex_63.trans (by decide)
      refine va_sld hx hb hX hbl hbA hS (vp_in_iff.mpr (by decide)) dL_law_263 ?_
      refine lv_topi (fun x_64 ex_64 => ?_)
      obtain rfl : p1 = x_64 := (ex_64.trans hp1).symm
      refine lv_aload_n hx hb dL_law_264 rfl (lv_at hl 3 rfl) ?_
      refine lv_iload_n hx hb dL_law_265 rfl (lv_at hl 0 rfl) ?_
      refine lv_iconst (v := 2) hx hb dL_law_266 (by decide) ?_
      refine lv_iadd hx hb dL_law_267 ?_
      refine lv_topi (fun x_65 ex_65 => ?_)
      obtain rfl : x_65 = 2 := ex_65.trans (by decide)
      refine va_sld hx hb hX hbl hbA hS (vp_in_iff.mpr (by decide)) dL_law_268 ?_
      refine lv_topi (fun x_66 ex_66 => ?_)
      obtain rfl : p2 = x_66 := (ex_66.trans hp2).symm
      refine lv_aload_n hx hb dL_law_269 rfl (lv_at hl 3 rfl) ?_
      refine lv_iload_n hx hb dL_law_270 rfl (lv_at hl 0 rfl) ?_
      refine lv_iconst (v := 3) hx hb dL_law_271 (by decide) ?_
      refine lv_iadd hx hb dL_law_272 ?_
      refine lv_topi (fun x_67 ex_67 => ?_)
      obtain rfl : x_67 = 3 := ex_67.trans (by decide)
      refine va_sld hx hb hX hbl hbA hS (vp_in_iff.mpr (by decide)) dL_law_273 ?_
      refine lv_topi (fun x_68 ex_68 => ?_)
      obtain rfl : p3 = x_68 := (ex_68.trans hp3).symm
      have hPc := hP.sub (ws' := [(q_2, .inr (6, fm))]) [4] rfl
      refine k_V (ci := 6) (q0 := 0) (tc := []) ⟨hx, hb, hml, hown, hts⟩ (b_X6_budget l dC dI q_2 fm p1 p2 p3 hm5 hm9 hm25) 3 wm_228 wm_229 wm_230 wm_6 wm_231 (by decide +kernel) ⟨Nat.le_of_ble_eq_true rfl, Nat.le_of_ble_eq_true rfl⟩ hPc (hK.sub (tys' := []) [] rfl) rfl rfl rfl hl.1 rfl (Nat.le_of_ble_eq_true rfl) dL_law_274 ⟨Nat.le_of_ble_eq_true rfl, Nat.le_of_ble_eq_true rfl⟩ hS hP (fun r_69 H locs hpr_69 hP hS => ?_)
      subst hpr_69
      refine lv_icmp_eq (tgt := 890) hx hb dL_law_277 (by decide) (fun _ => ?_) (fun h9 => absurd (by decide) h9)
      refine lv_iinc (v := 4) (lv' := [(3, .int 4), (2, .ref q_2), (1, .ref q_1), (0, .ref b)]) hx hb dL_law_890 hl (k := 0) rfl (by decide) (by decide) rfl (fun ls hl => ?_)
      refine lv_goto (tgt := 18) hx hb dL_law_893 (by decide) ?_
      refine lv_iload_n hx hb dL_law_18 rfl (lv_at hl 0 rfl) ?_
      refine lv_aload_n hx hb dL_law_19 rfl (lv_at hl 3 rfl) ?_
      refine va_slen hx hb hX hbl hbA hS dL_law_20 ?_
      refine lv_topi (fun x_70 ex_70 => ?_)
      obtain rfl : x_70 = 4 := ex_70.trans (by decide)
      refine lv_iconst (v := 4) hx hb dL_law_21 (by decide) ?_
      refine lv_isub hx hb dL_law_22 ?_
      refine lv_topi (fun x_71 ex_71 => ?_)
      obtain rfl : x_71 = 0 := ex_71.trans (by decide)
      refine lv_icmp_gt (tgt := 896) hx hb dL_law_23 (by decide) (fun _ => ?_) (fun h9 => absurd (by decide) h9)
      refine lv_iconst (v := 1) hx hb dL_law_896 (by decide) ?_
      refine va_forget (fun q hq => by have h9 := hS.2.2 q hq; rw [hAe] at h9; exact h9) ?_
      refine W.widen (k := 600000) (n := 7302249) (Nat.le_of_ble_eq_true rfl) (Nat.le_of_ble_eq_true rfl) ?_
      exact lw_ret hx hb hr hlocks dL_law_897
    · skip
      refine lv_tableIn (off := 250) (tgt := 282) hx hb dL_law_32 (by decide) (by decide) rfl (by decide) ?_
      refine lv_aload_n hx hb dL_law_282 rfl (lv_at hl 2 rfl) ?_
      refine lv_aload_n hx hb dL_law_283 rfl (lv_at hl 3 rfl) ?_
      refine lv_iload_n hx hb dL_law_284 rfl (lv_at hl 0 rfl) ?_
      refine lv_iconst (v := 1) hx hb dL_law_285 (by decide) ?_
      refine lv_iadd hx hb dL_law_286 ?_
      refine lv_topi (fun x_72 ex_72 => ?_)
      obtain rfl : x_72 = 1 := ex_72.trans (by decide)
      refine va_sld hx hb hX hbl hbA hS (vp_in_iff.mpr (by decide)) dL_law_287 ?_
      refine lv_topi (fun x_73 ex_73 => ?_)
      obtain rfl : p1 = x_73 := (ex_73.trans hp1).symm
      refine lv_aload_n hx hb dL_law_288 rfl (lv_at hl 3 rfl) ?_
      refine lv_iload_n hx hb dL_law_289 rfl (lv_at hl 0 rfl) ?_
      refine lv_iconst (v := 2) hx hb dL_law_290 (by decide) ?_
      refine lv_iadd hx hb dL_law_291 ?_
      refine lv_topi (fun x_74 ex_74 => ?_)
      obtain rfl : x_74 = 2 := ex_74.trans (by decide)
      refine va_sld hx hb hX hbl hbA hS (vp_in_iff.mpr (by decide)) dL_law_292 ?_
      refine lv_topi (fun x_75 ex_75 => ?_)
      obtain rfl : p2 = x_75 := (ex_75.trans hp2).symm
      refine lv_aload_n hx hb dL_law_293 rfl (lv_at hl 3 rfl) ?_
      refine lv_iload_n hx hb dL_law_294 rfl (lv_at hl 0 rfl) ?_
      refine lv_iconst (v := 3) hx hb dL_law_295 (by decide) ?_
      refine lv_iadd hx hb dL_law_296 ?_
      refine lv_topi (fun x_76 ex_76 => ?_)
      obtain rfl : x_76 = 3 := ex_76.trans (by decide)
      refine va_sld hx hb hX hbl hbA hS (vp_in_iff.mpr (by decide)) dL_law_297 ?_
      refine lv_topi (fun x_77 ex_77 => ?_)
      obtain rfl : p3 = x_77 := (ex_77.trans hp3).symm
      have hPc := hP.sub (ws' := [(q_1, .inr (5, fc))]) [0] rfl
      refine k_V (ci := 5) (q0 := 0) (tc := []) ⟨hx, hb, hml, hown, hts⟩ (b_X5_cap l dC dI q_1 fc p1 p2 p3 hc7 hc8 hc9) 3 wm_232 wm_233 wm_234 wm_2 wm_235 (by decide +kernel) ⟨Nat.le_of_ble_eq_true rfl, Nat.le_of_ble_eq_true rfl⟩ hPc (hK.sub (tys' := []) [] rfl) rfl rfl rfl hl.1 rfl (Nat.le_of_ble_eq_true rfl) dL_law_298 ⟨Nat.le_of_ble_eq_true rfl, Nat.le_of_ble_eq_true rfl⟩ hS hP (fun r_78 H locs hpr_78 hP hS => ?_)
      subst hpr_78
      refine lv_aload_n hx hb dL_law_301 rfl (lv_at hl 1 rfl) ?_
      refine lv_aload_n hx hb dL_law_302 rfl (lv_at hl 3 rfl) ?_
      refine lv_iload_n hx hb dL_law_303 rfl (lv_at hl 0 rfl) ?_
      refine lv_iconst (v := 1) hx hb dL_law_304 (by decide) ?_
      refine lv_iadd hx hb dL_law_305 ?_
      refine lv_topi (fun x_79 ex_79 => ?_)
      obtain rfl : x_79 = 1 := ex_79.trans (by decide)
      refine va_sld hx hb hX hbl hbA hS (vp_in_iff.mpr (by decide)) dL_law_306 ?_
      refine lv_topi (fun x_80 ex_80 => ?_)
      obtain rfl : p1 = x_80 := (ex_80.trans hp1).symm
      refine lv_aload_n hx hb dL_law_307 rfl (lv_at hl 3 rfl) ?_
      refine lv_iload_n hx hb dL_law_308 rfl (lv_at hl 0 rfl) ?_
      refine lv_iconst (v := 2) hx hb dL_law_309 (by decide) ?_
      refine lv_iadd hx hb dL_law_310 ?_
      refine lv_topi (fun x_81 ex_81 => ?_)
      obtain rfl : x_81 = 2 := ex_81.trans (by decide)
      refine va_sld hx hb hX hbl hbA hS (vp_in_iff.mpr (by decide)) dL_law_311 ?_
      refine lv_topi (fun x_82 ex_82 => ?_)
      obtain rfl : p2 = x_82 := (ex_82.trans hp2).symm
      refine lv_aload_n hx hb dL_law_312 rfl (lv_at hl 3 rfl) ?_
      refine lv_iload_n hx hb dL_law_313 rfl (lv_at hl 0 rfl) ?_
      refine lv_iconst (v := 3) hx hb dL_law_314 (by decide) ?_
      refine lv_iadd hx hb dL_law_315 ?_
      refine lv_topi (fun x_83 ex_83 => ?_)
      obtain rfl : x_83 = 3 := ex_83.trans (by decide)
      refine va_sld hx hb hX hbl hbA hS (vp_in_iff.mpr (by decide)) dL_law_316 ?_
      refine lv_topi (fun x_84 ex_84 => ?_)
      obtain rfl : p3 = x_84 := (ex_84.trans hp3).symm
      have hPc := hP.sub (ws' := [(q_2, .inr (6, fm))]) [4] rfl
      refine k_V (ci := 6) (q0 := 0) (tc := []) ⟨hx, hb, hml, hown, hts⟩ (b_X6_cap l dC dI q_2 fm p1 p2 p3 hm5 hm9 hm25) 3 wm_236 wm_237 wm_238 wm_6 wm_239 (by decide +kernel) ⟨Nat.le_of_ble_eq_true rfl, Nat.le_of_ble_eq_true rfl⟩ hPc (hK.sub (tys' := []) [] rfl) rfl rfl rfl hl.1 rfl (Nat.le_of_ble_eq_true rfl) dL_law_317 ⟨Nat.le_of_ble_eq_true rfl, Nat.le_of_ble_eq_true rfl⟩ hS hP (fun r_85 H locs hpr_85 hP hS => ?_)
      subst hpr_85
      refine lv_icmp_eq (tgt := 890) hx hb dL_law_320 (by decide) (fun _ => ?_) (fun h9 => absurd (by decide) h9)
      refine lv_iinc (v := 4) (lv' := [(3, .int 4), (2, .ref q_2), (1, .ref q_1), (0, .ref b)]) hx hb dL_law_890 hl (k := 0) rfl (by decide) (by decide) rfl (fun ls hl => ?_)
      refine lv_goto (tgt := 18) hx hb dL_law_893 (by decide) ?_
      refine lv_iload_n hx hb dL_law_18 rfl (lv_at hl 0 rfl) ?_
      refine lv_aload_n hx hb dL_law_19 rfl (lv_at hl 3 rfl) ?_
      refine va_slen hx hb hX hbl hbA hS dL_law_20 ?_
      refine lv_topi (fun x_86 ex_86 => ?_)
      obtain rfl : x_86 = 4 := ex_86.trans (by decide)
      refine lv_iconst (v := 4) hx hb dL_law_21 (by decide) ?_
      refine lv_isub hx hb dL_law_22 ?_
      refine lv_topi (fun x_87 ex_87 => ?_)
      obtain rfl : x_87 = 0 := ex_87.trans (by decide)
      refine lv_icmp_gt (tgt := 896) hx hb dL_law_23 (by decide) (fun _ => ?_) (fun h9 => absurd (by decide) h9)
      refine lv_iconst (v := 1) hx hb dL_law_896 (by decide) ?_
      refine va_forget (fun q hq => by have h9 := hS.2.2 q hq; rw [hAe] at h9; exact h9) ?_
      refine W.widen (k := 600000) (n := 7302249) (Nat.le_of_ble_eq_true rfl) (Nat.le_of_ble_eq_true rfl) ?_
      exact lw_ret hx hb hr hlocks dL_law_897
    · skip
      refine lv_tableIn (off := 293) (tgt := 325) hx hb dL_law_32 (by decide) (by decide) rfl (by decide) ?_
      refine lv_aload_n hx hb dL_law_325 rfl (lv_at hl 2 rfl) ?_
      refine lv_aload_n hx hb dL_law_326 rfl (lv_at hl 3 rfl) ?_
      refine lv_iload_n hx hb dL_law_327 rfl (lv_at hl 0 rfl) ?_
      refine lv_iconst (v := 1) hx hb dL_law_328 (by decide) ?_
      refine lv_iadd hx hb dL_law_329 ?_
      refine lv_topi (fun x_88 ex_88 => ?_)
      obtain rfl : x_88 = 1 := ex_88.trans (by decide)
      refine va_sld hx hb hX hbl hbA hS (vp_in_iff.mpr (by decide)) dL_law_330 ?_
      refine lv_topi (fun x_89 ex_89 => ?_)
      obtain rfl : p1 = x_89 := (ex_89.trans hp1).symm
      refine lv_aload_n hx hb dL_law_331 rfl (lv_at hl 3 rfl) ?_
      refine lv_iload_n hx hb dL_law_332 rfl (lv_at hl 0 rfl) ?_
      refine lv_iconst (v := 2) hx hb dL_law_333 (by decide) ?_
      refine lv_iadd hx hb dL_law_334 ?_
      refine lv_topi (fun x_90 ex_90 => ?_)
      obtain rfl : x_90 = 2 := ex_90.trans (by decide)
      refine va_sld hx hb hX hbl hbA hS (vp_in_iff.mpr (by decide)) dL_law_335 ?_
      refine lv_topi (fun x_91 ex_91 => ?_)
      obtain rfl : p2 = x_91 := (ex_91.trans hp2).symm
      refine lv_aload_n hx hb dL_law_336 rfl (lv_at hl 3 rfl) ?_
      refine lv_iload_n hx hb dL_law_337 rfl (lv_at hl 0 rfl) ?_
      refine lv_iconst (v := 3) hx hb dL_law_338 (by decide) ?_
      refine lv_iadd hx hb dL_law_339 ?_
      refine lv_topi (fun x_92 ex_92 => ?_)
      obtain rfl : x_92 = 3 := ex_92.trans (by decide)
      refine va_sld hx hb hX hbl hbA hS (vp_in_iff.mpr (by decide)) dL_law_340 ?_
      refine lv_topi (fun x_93 ex_93 => ?_)
      obtain rfl : p3 = x_93 := (ex_93.trans hp3).symm
      have hPc := hP.sub (ws' := [(q_1, .inr (5, fc))]) [0] rfl
      refine k_V (ci := 5) (q0 := 0) (tc := []) ⟨hx, hb, hml, hown, hts⟩ (b_X5_apart l dC dI q_1 fc p1 p2 p3 hc7 hc8 hc9) 3 wm_240 wm_241 wm_242 wm_2 wm_243 (by decide +kernel) ⟨Nat.le_of_ble_eq_true rfl, Nat.le_of_ble_eq_true rfl⟩ hPc (hK.sub (tys' := []) [] rfl) rfl rfl rfl hl.1 rfl (Nat.le_of_ble_eq_true rfl) dL_law_341 ⟨Nat.le_of_ble_eq_true rfl, Nat.le_of_ble_eq_true rfl⟩ hS hP (fun r_94 H locs hpr_94 hP hS => ?_)
      subst hpr_94
      refine lv_aload_n hx hb dL_law_344 rfl (lv_at hl 1 rfl) ?_
      refine lv_aload_n hx hb dL_law_345 rfl (lv_at hl 3 rfl) ?_
      refine lv_iload_n hx hb dL_law_346 rfl (lv_at hl 0 rfl) ?_
      refine lv_iconst (v := 1) hx hb dL_law_347 (by decide) ?_
      refine lv_iadd hx hb dL_law_348 ?_
      refine lv_topi (fun x_95 ex_95 => ?_)
      obtain rfl : x_95 = 1 := ex_95.trans (by decide)
      refine va_sld hx hb hX hbl hbA hS (vp_in_iff.mpr (by decide)) dL_law_349 ?_
      refine lv_topi (fun x_96 ex_96 => ?_)
      obtain rfl : p1 = x_96 := (ex_96.trans hp1).symm
      refine lv_aload_n hx hb dL_law_350 rfl (lv_at hl 3 rfl) ?_
      refine lv_iload_n hx hb dL_law_351 rfl (lv_at hl 0 rfl) ?_
      refine lv_iconst (v := 2) hx hb dL_law_352 (by decide) ?_
      refine lv_iadd hx hb dL_law_353 ?_
      refine lv_topi (fun x_97 ex_97 => ?_)
      obtain rfl : x_97 = 2 := ex_97.trans (by decide)
      refine va_sld hx hb hX hbl hbA hS (vp_in_iff.mpr (by decide)) dL_law_354 ?_
      refine lv_topi (fun x_98 ex_98 => ?_)
      obtain rfl : p2 = x_98 := (ex_98.trans hp2).symm
      refine lv_aload_n hx hb dL_law_355 rfl (lv_at hl 3 rfl) ?_
      refine lv_iload_n hx hb dL_law_356 rfl (lv_at hl 0 rfl) ?_
      refine lv_iconst (v := 3) hx hb dL_law_357 (by decide) ?_
      refine lv_iadd hx hb dL_law_358 ?_
      refine lv_topi (fun x_99 ex_99 => ?_)
      obtain rfl : x_99 = 3 := ex_99.trans (by decide)
      refine va_sld hx hb hX hbl hbA hS (vp_in_iff.mpr (by decide)) dL_law_359 ?_
      refine lv_topi (fun x_100 ex_100 => ?_)
      obtain rfl : p3 = x_100 := (ex_100.trans hp3).symm
      have hPc := hP.sub (ws' := [(q_2, .inr (6, fm))]) [4] rfl
      refine k_V (ci := 6) (q0 := 0) (tc := []) ⟨hx, hb, hml, hown, hts⟩ (b_X6_apart l dC dI q_2 fm p1 p2 p3 hm5 hm9 hm25) 3 wm_244 wm_245 wm_246 wm_6 wm_247 (by decide +kernel) ⟨Nat.le_of_ble_eq_true rfl, Nat.le_of_ble_eq_true rfl⟩ hPc (hK.sub (tys' := []) [] rfl) rfl rfl rfl hl.1 rfl (Nat.le_of_ble_eq_true rfl) dL_law_360 ⟨Nat.le_of_ble_eq_true rfl, Nat.le_of_ble_eq_true rfl⟩ hS hP (fun r_101 H locs hpr_101 hP hS => ?_)
      subst hpr_101
      refine lv_icmp_eq (tgt := 890) hx hb dL_law_363 (by decide) (fun _ => ?_) (fun h9 => absurd (by decide) h9)
      refine lv_iinc (v := 4) (lv' := [(3, .int 4), (2, .ref q_2), (1, .ref q_1), (0, .ref b)]) hx hb dL_law_890 hl (k := 0) rfl (by decide) (by decide) rfl (fun ls hl => ?_)
      refine lv_goto (tgt := 18) hx hb dL_law_893 (by decide) ?_
      refine lv_iload_n hx hb dL_law_18 rfl (lv_at hl 0 rfl) ?_
      refine lv_aload_n hx hb dL_law_19 rfl (lv_at hl 3 rfl) ?_
      refine va_slen hx hb hX hbl hbA hS dL_law_20 ?_
      refine lv_topi (fun x_102 ex_102 => ?_)
      obtain rfl : x_102 = 4 := ex_102.trans (by decide)
      refine lv_iconst (v := 4) hx hb dL_law_21 (by decide) ?_
      refine lv_isub hx hb dL_law_22 ?_
      refine lv_topi (fun x_103 ex_103 => ?_)
      obtain rfl : x_103 = 0 := ex_103.trans (by decide)
      refine lv_icmp_gt (tgt := 896) hx hb dL_law_23 (by decide) (fun _ => ?_) (fun h9 => absurd (by decide) h9)
      refine lv_iconst (v := 1) hx hb dL_law_896 (by decide) ?_
      refine va_forget (fun q hq => by have h9 := hS.2.2 q hq; rw [hAe] at h9; exact h9) ?_
      refine W.widen (k := 600000) (n := 7302249) (Nat.le_of_ble_eq_true rfl) (Nat.le_of_ble_eq_true rfl) ?_
      exact lw_ret hx hb hr hlocks dL_law_897
    · skip
      refine lv_tableIn (off := 336) (tgt := 368) hx hb dL_law_32 (by decide) (by decide) rfl (by decide) ?_
      refine lv_aload_n hx hb dL_law_368 rfl (lv_at hl 2 rfl) ?_
      refine lv_aload_n hx hb dL_law_369 rfl (lv_at hl 3 rfl) ?_
      refine lv_iload_n hx hb dL_law_370 rfl (lv_at hl 0 rfl) ?_
      refine lv_iconst (v := 1) hx hb dL_law_371 (by decide) ?_
      refine lv_iadd hx hb dL_law_372 ?_
      refine lv_topi (fun x_104 ex_104 => ?_)
      obtain rfl : x_104 = 1 := ex_104.trans (by decide)
      refine va_sld hx hb hX hbl hbA hS (vp_in_iff.mpr (by decide)) dL_law_373 ?_
      refine lv_topi (fun x_105 ex_105 => ?_)
      obtain rfl : p1 = x_105 := (ex_105.trans hp1).symm
      refine lv_aload_n hx hb dL_law_374 rfl (lv_at hl 3 rfl) ?_
      refine lv_iload_n hx hb dL_law_375 rfl (lv_at hl 0 rfl) ?_
      refine lv_iconst (v := 2) hx hb dL_law_376 (by decide) ?_
      refine lv_iadd hx hb dL_law_377 ?_
      refine lv_topi (fun x_106 ex_106 => ?_)
      obtain rfl : x_106 = 2 := ex_106.trans (by decide)
      refine va_sld hx hb hX hbl hbA hS (vp_in_iff.mpr (by decide)) dL_law_378 ?_
      refine lv_topi (fun x_107 ex_107 => ?_)
      obtain rfl : p2 = x_107 := (ex_107.trans hp2).symm
      refine lv_aload_n hx hb dL_law_379 rfl (lv_at hl 3 rfl) ?_
      refine lv_iload_n hx hb dL_law_380 rfl (lv_at hl 0 rfl) ?_
      refine lv_iconst (v := 3) hx hb dL_law_381 (by decide) ?_
      refine lv_iadd hx hb dL_law_382 ?_
      refine lv_topi (fun x_108 ex_108 => ?_)
      obtain rfl : x_108 = 3 := ex_108.trans (by decide)
      refine va_sld hx hb hX hbl hbA hS (vp_in_iff.mpr (by decide)) dL_law_383 ?_
      refine lv_topi (fun x_109 ex_109 => ?_)
      obtain rfl : p3 = x_109 := (ex_109.trans hp3).symm
      have hPc := hP.sub (ws' := [(q_1, .inr (5, fc))]) [0] rfl
      refine k_V (ci := 5) (q0 := 0) (tc := []) ⟨hx, hb, hml, hown, hts⟩ (b_X5_promise l dC dI q_1 fc p1 p2 p3 hc7 hc8 hc9) 3 wm_248 wm_249 wm_250 wm_2 wm_251 (by decide +kernel) ⟨Nat.le_of_ble_eq_true rfl, Nat.le_of_ble_eq_true rfl⟩ hPc (hK.sub (tys' := []) [] rfl) rfl rfl rfl hl.1 rfl (Nat.le_of_ble_eq_true rfl) dL_law_384 ⟨Nat.le_of_ble_eq_true rfl, Nat.le_of_ble_eq_true rfl⟩ hS hP (fun r_110 H locs hpr_110 hP hS => ?_)
      subst hpr_110
      refine lv_aload_n hx hb dL_law_387 rfl (lv_at hl 1 rfl) ?_
      refine lv_aload_n hx hb dL_law_388 rfl (lv_at hl 3 rfl) ?_
      refine lv_iload_n hx hb dL_law_389 rfl (lv_at hl 0 rfl) ?_
      refine lv_iconst (v := 1) hx hb dL_law_390 (by decide) ?_
      refine lv_iadd hx hb dL_law_391 ?_
      refine lv_topi (fun x_111 ex_111 => ?_)
      obtain rfl : x_111 = 1 := ex_111.trans (by decide)
      refine va_sld hx hb hX hbl hbA hS (vp_in_iff.mpr (by decide)) dL_law_392 ?_
      refine lv_topi (fun x_112 ex_112 => ?_)
      obtain rfl : p1 = x_112 := (ex_112.trans hp1).symm
      refine lv_aload_n hx hb dL_law_393 rfl (lv_at hl 3 rfl) ?_
      refine lv_iload_n hx hb dL_law_394 rfl (lv_at hl 0 rfl) ?_
      refine lv_iconst (v := 2) hx hb dL_law_395 (by decide) ?_
      refine lv_iadd hx hb dL_law_396 ?_
      refine lv_topi (fun x_113 ex_113 => ?_)
      obtain rfl : x_113 = 2 := ex_113.trans (by decide)
      refine va_sld hx hb hX hbl hbA hS (vp_in_iff.mpr (by decide)) dL_law_397 ?_
      refine lv_topi (fun x_114 ex_114 => ?_)
      obtain rfl : p2 = x_114 := (ex_114.trans hp2).symm
      refine lv_aload_n hx hb dL_law_398 rfl (lv_at hl 3 rfl) ?_
      refine lv_iload_n hx hb dL_law_399 rfl (lv_at hl 0 rfl) ?_
      refine lv_iconst (v := 3) hx hb dL_law_400 (by decide) ?_
      refine lv_iadd hx hb dL_law_401 ?_
      refine lv_topi (fun x_115 ex_115 => ?_)
      obtain rfl : x_115 = 3 := ex_115.trans (by decide)
      refine va_sld hx hb hX hbl hbA hS (vp_in_iff.mpr (by decide)) dL_law_402 ?_
      refine lv_topi (fun x_116 ex_116 => ?_)
      obtain rfl : p3 = x_116 := (ex_116.trans hp3).symm
      have hPc := hP.sub (ws' := [(q_2, .inr (6, fm))]) [4] rfl
      refine k_V (ci := 6) (q0 := 0) (tc := []) ⟨hx, hb, hml, hown, hts⟩ (b_X6_promise l dC dI q_2 fm p1 p2 p3 hm5 hm9 hm25) 3 wm_252 wm_253 wm_254 wm_6 wm_255 (by decide +kernel) ⟨Nat.le_of_ble_eq_true rfl, Nat.le_of_ble_eq_true rfl⟩ hPc (hK.sub (tys' := []) [] rfl) rfl rfl rfl hl.1 rfl (Nat.le_of_ble_eq_true rfl) dL_law_403 ⟨Nat.le_of_ble_eq_true rfl, Nat.le_of_ble_eq_true rfl⟩ hS hP (fun r_117 H locs hpr_117 hP hS => ?_)
      subst hpr_117
      refine lv_icmp_eq (tgt := 890) hx hb dL_law_406 (by decide) (fun _ => ?_) (fun h9 => absurd (by decide) h9)
      refine lv_iinc (v := 4) (lv' := [(3, .int 4), (2, .ref q_2), (1, .ref q_1), (0, .ref b)]) hx hb dL_law_890 hl (k := 0) rfl (by decide) (by decide) rfl (fun ls hl => ?_)
      refine lv_goto (tgt := 18) hx hb dL_law_893 (by decide) ?_
      refine lv_iload_n hx hb dL_law_18 rfl (lv_at hl 0 rfl) ?_
      refine lv_aload_n hx hb dL_law_19 rfl (lv_at hl 3 rfl) ?_
      refine va_slen hx hb hX hbl hbA hS dL_law_20 ?_
      refine lv_topi (fun x_118 ex_118 => ?_)
      obtain rfl : x_118 = 4 := ex_118.trans (by decide)
      refine lv_iconst (v := 4) hx hb dL_law_21 (by decide) ?_
      refine lv_isub hx hb dL_law_22 ?_
      refine lv_topi (fun x_119 ex_119 => ?_)
      obtain rfl : x_119 = 0 := ex_119.trans (by decide)
      refine lv_icmp_gt (tgt := 896) hx hb dL_law_23 (by decide) (fun _ => ?_) (fun h9 => absurd (by decide) h9)
      refine lv_iconst (v := 1) hx hb dL_law_896 (by decide) ?_
      refine va_forget (fun q hq => by have h9 := hS.2.2 q hq; rw [hAe] at h9; exact h9) ?_
      refine W.widen (k := 600000) (n := 7302249) (Nat.le_of_ble_eq_true rfl) (Nat.le_of_ble_eq_true rfl) ?_
      exact lw_ret hx hb hr hlocks dL_law_897
    · skip
      refine lv_tableIn (off := 379) (tgt := 411) hx hb dL_law_32 (by decide) (by decide) rfl (by decide) ?_
      refine lv_aload_n hx hb dL_law_411 rfl (lv_at hl 2 rfl) ?_
      refine lv_aload_n hx hb dL_law_412 rfl (lv_at hl 3 rfl) ?_
      refine lv_iload_n hx hb dL_law_413 rfl (lv_at hl 0 rfl) ?_
      refine lv_iconst (v := 1) hx hb dL_law_414 (by decide) ?_
      refine lv_iadd hx hb dL_law_415 ?_
      refine lv_topi (fun x_120 ex_120 => ?_)
      obtain rfl : x_120 = 1 := ex_120.trans (by decide)
      refine va_sld hx hb hX hbl hbA hS (vp_in_iff.mpr (by decide)) dL_law_416 ?_
      refine lv_topi (fun x_121 ex_121 => ?_)
      obtain rfl : p1 = x_121 := (ex_121.trans hp1).symm
      refine lv_aload_n hx hb dL_law_417 rfl (lv_at hl 3 rfl) ?_
      refine lv_iload_n hx hb dL_law_418 rfl (lv_at hl 0 rfl) ?_
      refine lv_iconst (v := 2) hx hb dL_law_419 (by decide) ?_
      refine lv_iadd hx hb dL_law_420 ?_
      refine lv_topi (fun x_122 ex_122 => ?_)
      obtain rfl : x_122 = 2 := ex_122.trans (by decide)
      refine va_sld hx hb hX hbl hbA hS (vp_in_iff.mpr (by decide)) dL_law_421 ?_
      refine lv_topi (fun x_123 ex_123 => ?_)
      obtain rfl : p2 = x_123 := (ex_123.trans hp2).symm
      have hPc := hP.sub (ws' := [(q_1, .inr (5, fc))]) [0] rfl
      refine k_V (ci := 5) (q0 := 0) (tc := []) ⟨hx, hb, hml, hown, hts⟩ (b_X5_stop l dC dI q_1 fc p1 p2 hc7 hc8 hc9) 2 wm_256 wm_257 wm_258 wm_2 wm_259 (by decide +kernel) ⟨Nat.le_of_ble_eq_true rfl, Nat.le_of_ble_eq_true rfl⟩ hPc (hK.sub (tys' := []) [] rfl) rfl rfl rfl hl.1 rfl (Nat.le_of_ble_eq_true rfl) dL_law_422 ⟨Nat.le_of_ble_eq_true rfl, Nat.le_of_ble_eq_true rfl⟩ hS hP (fun r_124 H locs hpr_124 hP hS => ?_)
      subst hpr_124
      refine lv_aload_n hx hb dL_law_425 rfl (lv_at hl 1 rfl) ?_
      refine lv_aload_n hx hb dL_law_426 rfl (lv_at hl 3 rfl) ?_
      refine lv_iload_n hx hb dL_law_427 rfl (lv_at hl 0 rfl) ?_
      refine lv_iconst (v := 1) hx hb dL_law_428 (by decide) ?_
      refine lv_iadd hx hb dL_law_429 ?_
      refine lv_topi (fun x_125 ex_125 => ?_)
      obtain rfl : x_125 = 1 := ex_125.trans (by decide)
      refine va_sld hx hb hX hbl hbA hS (vp_in_iff.mpr (by decide)) dL_law_430 ?_
      refine lv_topi (fun x_126 ex_126 => ?_)
      obtain rfl : p1 = x_126 := (ex_126.trans hp1).symm
      refine lv_aload_n hx hb dL_law_431 rfl (lv_at hl 3 rfl) ?_
      refine lv_iload_n hx hb dL_law_432 rfl (lv_at hl 0 rfl) ?_
      refine lv_iconst (v := 2) hx hb dL_law_433 (by decide) ?_
      refine lv_iadd hx hb dL_law_434 ?_
      refine lv_topi (fun x_127 ex_127 => ?_)
      obtain rfl : x_127 = 2 := ex_127.trans (by decide)
      refine va_sld hx hb hX hbl hbA hS (vp_in_iff.mpr (by decide)) dL_law_435 ?_
      refine lv_topi (fun x_128 ex_128 => ?_)
      obtain rfl : p2 = x_128 := (ex_128.trans hp2).symm
      have hPc := hP.sub (ws' := [(q_2, .inr (6, fm))]) [4] rfl
      refine k_V (ci := 6) (q0 := 0) (tc := []) ⟨hx, hb, hml, hown, hts⟩ (b_X6_stop l dC dI q_2 fm p1 p2 hm5 hm9 hm25) 2 wm_260 wm_261 wm_262 wm_6 wm_263 (by decide +kernel) ⟨Nat.le_of_ble_eq_true rfl, Nat.le_of_ble_eq_true rfl⟩ hPc (hK.sub (tys' := []) [] rfl) rfl rfl rfl hl.1 rfl (Nat.le_of_ble_eq_true rfl) dL_law_436 ⟨Nat.le_of_ble_eq_true rfl, Nat.le_of_ble_eq_true rfl⟩ hS hP (fun r_129 H locs hpr_129 hP hS => ?_)
      subst hpr_129
      refine lv_icmp_eq (tgt := 890) hx hb dL_law_439 (by decide) (fun _ => ?_) (fun h9 => absurd (by decide) h9)
      refine lv_iinc (v := 4) (lv' := [(3, .int 4), (2, .ref q_2), (1, .ref q_1), (0, .ref b)]) hx hb dL_law_890 hl (k := 0) rfl (by decide) (by decide) rfl (fun ls hl => ?_)
      refine lv_goto (tgt := 18) hx hb dL_law_893 (by decide) ?_
      refine lv_iload_n hx hb dL_law_18 rfl (lv_at hl 0 rfl) ?_
      refine lv_aload_n hx hb dL_law_19 rfl (lv_at hl 3 rfl) ?_
      refine va_slen hx hb hX hbl hbA hS dL_law_20 ?_
      refine lv_topi (fun x_130 ex_130 => ?_)
      obtain rfl : x_130 = 4 := ex_130.trans (by decide)
      refine lv_iconst (v := 4) hx hb dL_law_21 (by decide) ?_
      refine lv_isub hx hb dL_law_22 ?_
      refine lv_topi (fun x_131 ex_131 => ?_)
      obtain rfl : x_131 = 0 := ex_131.trans (by decide)
      refine lv_icmp_gt (tgt := 896) hx hb dL_law_23 (by decide) (fun _ => ?_) (fun h9 => absurd (by decide) h9)
      refine lv_iconst (v := 1) hx hb dL_law_896 (by decide) ?_
      refine va_forget (fun q hq => by have h9 := hS.2.2 q hq; rw [hAe] at h9; exact h9) ?_
      refine W.widen (k := 600000) (n := 7302249) (Nat.le_of_ble_eq_true rfl) (Nat.le_of_ble_eq_true rfl) ?_
      exact lw_ret hx hb hr hlocks dL_law_897
    · skip
      refine lv_tableIn (off := 412) (tgt := 444) hx hb dL_law_32 (by decide) (by decide) rfl (by decide) ?_
      refine lv_aload_n hx hb dL_law_444 rfl (lv_at hl 2 rfl) ?_
      refine lv_aload_n hx hb dL_law_445 rfl (lv_at hl 3 rfl) ?_
      refine lv_iload_n hx hb dL_law_446 rfl (lv_at hl 0 rfl) ?_
      refine lv_iconst (v := 1) hx hb dL_law_447 (by decide) ?_
      refine lv_iadd hx hb dL_law_448 ?_
      refine lv_topi (fun x_132 ex_132 => ?_)
      obtain rfl : x_132 = 1 := ex_132.trans (by decide)
      refine va_sld hx hb hX hbl hbA hS (vp_in_iff.mpr (by decide)) dL_law_449 ?_
      refine lv_topi (fun x_133 ex_133 => ?_)
      obtain rfl : p1 = x_133 := (ex_133.trans hp1).symm
      refine k_Fi (ci := 5) (q0 := 0) (tc := []) (ex := (fun _ => True)) (wc := [(q_1, .inr (5, fc))]) (wr := [(q_2, .inr (6, fm)), (q_places, .inl (cJ, 8, .inl (fun _ => 0))), (q_sizes, .inl (cJ, 32, .inl (fun _ => 0))), (q_marks, .inl (cJ, 100, .inl (fun _ => 0))), (q_sort, .inl (cJ, 40, .inl (fun _ => 0))), (q_pays, .inl (cJ, 40, .inl (fun _ => 0))), (q_must, .inl (cJ, 40, .inl (fun _ => 0))), (q_never, .inl (cJ, 40, .inl (fun _ => 0))), (q_bid, .inl (cJ, 40, .inl (fun _ => 0))), (q_cap, .inl (cJ, 40, .inl (fun _ => 0))), (q_span, .inl (cJ, 40, .inl (fun _ => 0))), (q_throttle, .inl (cJ, 40, .inl (fun _ => 0))), (q_promised, .inl (cJ, 40, .inl (fun _ => 0)))]) ⟨hx, hb, hml, hown, hts⟩ (f_rule l dC dI H.size q_1 fc p1 hc13 hlc) 1 wm_264 wm_265 wm_266 wm_2 wm_267 (by decide +kernel) ⟨Nat.le_of_ble_eq_true rfl, Nat.le_of_ble_eq_true rfl⟩ (hK.sub (tys' := []) [] rfl) exT rfl rfl [0] [4, 5, 6, 7, 8, 9, 10, 11, 12, 13, 14, 15, 16] (by decide) rfl rfl (by decide) (by decide) rfl hl.1 rfl (Nat.le_of_ble_eq_true rfl) dL_law_450 ⟨Nat.le_of_ble_eq_true rfl, Nat.le_of_ble_eq_true rfl⟩ hP hD hS hA (fun r_134 H locs hpr_134 hP hD hS => ?_)
      refine lv_aload_n hx hb dL_law_453 rfl (lv_at hl 1 rfl) ?_
      refine lv_aload_n hx hb dL_law_454 rfl (lv_at hl 3 rfl) ?_
      refine lv_iload_n hx hb dL_law_455 rfl (lv_at hl 0 rfl) ?_
      refine lv_iconst (v := 1) hx hb dL_law_456 (by decide) ?_
      refine lv_iadd hx hb dL_law_457 ?_
      refine lv_topi (fun x_135 ex_135 => ?_)
      obtain rfl : x_135 = 1 := ex_135.trans (by decide)
      refine va_sld hx hb hX hbl hbA hS (vp_in_iff.mpr (by decide)) dL_law_458 ?_
      refine lv_topi (fun x_136 ex_136 => ?_)
      obtain rfl : p1 = x_136 := (ex_136.trans hp1).symm
      refine k_Fi (ci := 6) (q0 := 0) (tc := []) (ex := (fun _ => True)) (wc := [(q_2, .inr (6, fm))]) (wr := []) ⟨hx, hb, hml, hown, hts⟩ (f_mrule l dC dI H.size q_2 fm p1 hm2 hlm) 1 wm_268 wm_269 wm_270 wm_6 wm_271 (by decide +kernel) ⟨Nat.le_of_ble_eq_true rfl, Nat.le_of_ble_eq_true rfl⟩ (hK.sub (tys' := []) [] rfl) exT rfl rfl [0] [] (by decide) rfl rfl (by decide) (by decide) rfl hl.1 rfl (Nat.le_of_ble_eq_true rfl) dL_law_459 ⟨Nat.le_of_ble_eq_true rfl, Nat.le_of_ble_eq_true rfl⟩ hP hD hS hA (fun r_137 H locs hpr_137 hP hD hS => ?_)
      refine lv_icmp_eq (tgt := 890) hx hb dL_law_462 (by decide) (fun c_138 => ?_) (fun c_138 => ?_)
      · skip
        refine lv_iinc (v := 4) (lv' := [(3, .int 4), (2, .ref q_2), (1, .ref q_1), (0, .ref b)]) hx hb dL_law_890 hl (k := 0) rfl (by decide) (by decide) rfl (fun ls hl => ?_)
        refine lv_goto (tgt := 18) hx hb dL_law_893 (by decide) ?_
        refine lv_iload_n hx hb dL_law_18 rfl (lv_at hl 0 rfl) ?_
        refine lv_aload_n hx hb dL_law_19 rfl (lv_at hl 3 rfl) ?_
        refine va_slen hx hb hX hbl hbA hS dL_law_20 ?_
        refine lv_topi (fun x_139 ex_139 => ?_)
        obtain rfl : x_139 = 4 := ex_139.trans (by decide)
        refine lv_iconst (v := 4) hx hb dL_law_21 (by decide) ?_
        refine lv_isub hx hb dL_law_22 ?_
        refine lv_topi (fun x_140 ex_140 => ?_)
        obtain rfl : x_140 = 0 := ex_140.trans (by decide)
        refine lv_icmp_gt (tgt := 896) hx hb dL_law_23 (by decide) (fun _ => ?_) (fun h9 => absurd (by decide) h9)
        refine lv_iconst (v := 1) hx hb dL_law_896 (by decide) ?_
        refine va_forget (fun q hq => by have h9 := hS.2.2 q hq; rw [hAe] at h9; exact h9) ?_
        refine W.widen (k := 600000) (n := 7302249) (Nat.le_of_ble_eq_true rfl) (Nat.le_of_ble_eq_true rfl) ?_
        exact lw_ret hx hb hr hlocks dL_law_897
      · skip
        exact absurd (hpr_134.trans hpr_137.symm) c_138
    · skip
      refine lv_tableIn (off := 435) (tgt := 467) hx hb dL_law_32 (by decide) (by decide) rfl (by decide) ?_
      refine lv_aload_n hx hb dL_law_467 rfl (lv_at hl 2 rfl) ?_
      refine lv_aload_n hx hb dL_law_468 rfl (lv_at hl 3 rfl) ?_
      refine lv_iload_n hx hb dL_law_469 rfl (lv_at hl 0 rfl) ?_
      refine lv_iconst (v := 1) hx hb dL_law_470 (by decide) ?_
      refine lv_iadd hx hb dL_law_471 ?_
      refine lv_topi (fun x_141 ex_141 => ?_)
      obtain rfl : x_141 = 1 := ex_141.trans (by decide)
      refine va_sld hx hb hX hbl hbA hS (vp_in_iff.mpr (by decide)) dL_law_472 ?_
      refine lv_topi (fun x_142 ex_142 => ?_)
      obtain rfl : p1 = x_142 := (ex_142.trans hp1).symm
      refine lv_aload_n hx hb dL_law_473 rfl (lv_at hl 3 rfl) ?_
      refine lv_iload_n hx hb dL_law_474 rfl (lv_at hl 0 rfl) ?_
      refine lv_iconst (v := 2) hx hb dL_law_475 (by decide) ?_
      refine lv_iadd hx hb dL_law_476 ?_
      refine lv_topi (fun x_143 ex_143 => ?_)
      obtain rfl : x_143 = 2 := ex_143.trans (by decide)
      refine va_sld hx hb hX hbl hbA hS (vp_in_iff.mpr (by decide)) dL_law_477 ?_
      refine lv_topi (fun x_144 ex_144 => ?_)
      obtain rfl : p2 = x_144 := (ex_144.trans hp2).symm
      refine k_Fi (ci := 5) (q0 := 0) (tc := []) (ex := (fun _ => True)) (wc := [(q_1, .inr (5, fc))]) (wr := [(q_2, .inr (6, fm)), (q_places, .inl (cJ, 8, .inl (fun _ => 0))), (q_sizes, .inl (cJ, 32, .inl (fun _ => 0))), (q_marks, .inl (cJ, 100, .inl (fun _ => 0))), (q_sort, .inl (cJ, 40, .inl (fun _ => 0))), (q_pays, .inl (cJ, 40, .inl (fun _ => 0))), (q_must, .inl (cJ, 40, .inl (fun _ => 0))), (q_never, .inl (cJ, 40, .inl (fun _ => 0))), (q_bid, .inl (cJ, 40, .inl (fun _ => 0))), (q_cap, .inl (cJ, 40, .inl (fun _ => 0))), (q_span, .inl (cJ, 40, .inl (fun _ => 0))), (q_throttle, .inl (cJ, 40, .inl (fun _ => 0))), (q_promised, .inl (cJ, 40, .inl (fun _ => 0)))]) ⟨hx, hb, hml, hown, hts⟩ (f_pace l dC dI H.size q_1 fc p1 p2 hlc) 2 wm_272 wm_273 wm_274 wm_2 wm_275 (by decide +kernel) ⟨Nat.le_of_ble_eq_true rfl, Nat.le_of_ble_eq_true rfl⟩ (hK.sub (tys' := []) [] rfl) exT rfl rfl [0] [4, 5, 6, 7, 8, 9, 10, 11, 12, 13, 14, 15, 16] (by decide) rfl rfl (by decide) (by decide) rfl hl.1 rfl (Nat.le_of_ble_eq_true rfl) dL_law_478 ⟨Nat.le_of_ble_eq_true rfl, Nat.le_of_ble_eq_true rfl⟩ hP hD hS hA (fun r_145 H locs hpr_145 hP hD hS => ?_)
      refine lv_aload_n hx hb dL_law_481 rfl (lv_at hl 1 rfl) ?_
      refine lv_aload_n hx hb dL_law_482 rfl (lv_at hl 3 rfl) ?_
      refine lv_iload_n hx hb dL_law_483 rfl (lv_at hl 0 rfl) ?_
      refine lv_iconst (v := 1) hx hb dL_law_484 (by decide) ?_
      refine lv_iadd hx hb dL_law_485 ?_
      refine lv_topi (fun x_146 ex_146 => ?_)
      obtain rfl : x_146 = 1 := ex_146.trans (by decide)
      refine va_sld hx hb hX hbl hbA hS (vp_in_iff.mpr (by decide)) dL_law_486 ?_
      refine lv_topi (fun x_147 ex_147 => ?_)
      obtain rfl : p1 = x_147 := (ex_147.trans hp1).symm
      refine lv_aload_n hx hb dL_law_487 rfl (lv_at hl 3 rfl) ?_
      refine lv_iload_n hx hb dL_law_488 rfl (lv_at hl 0 rfl) ?_
      refine lv_iconst (v := 2) hx hb dL_law_489 (by decide) ?_
      refine lv_iadd hx hb dL_law_490 ?_
      refine lv_topi (fun x_148 ex_148 => ?_)
      obtain rfl : x_148 = 2 := ex_148.trans (by decide)
      refine va_sld hx hb hX hbl hbA hS (vp_in_iff.mpr (by decide)) dL_law_491 ?_
      refine lv_topi (fun x_149 ex_149 => ?_)
      obtain rfl : p2 = x_149 := (ex_149.trans hp2).symm
      refine k_Fi (ci := 6) (q0 := 0) (tc := []) (ex := (fun _ => True)) (wc := [(q_2, .inr (6, fm))]) (wr := []) ⟨hx, hb, hml, hown, hts⟩ (f_mpace l dC dI H.size q_2 fm p1 p2 hlm) 2 wm_276 wm_277 wm_278 wm_6 wm_279 (by decide +kernel) ⟨Nat.le_of_ble_eq_true rfl, Nat.le_of_ble_eq_true rfl⟩ (hK.sub (tys' := []) [] rfl) exT rfl rfl [0] [] (by decide) rfl rfl (by decide) (by decide) rfl hl.1 rfl (Nat.le_of_ble_eq_true rfl) dL_law_492 ⟨Nat.le_of_ble_eq_true rfl, Nat.le_of_ble_eq_true rfl⟩ hP hD hS hA (fun r_150 H locs hpr_150 hP hD hS => ?_)
      refine lv_icmp_eq (tgt := 890) hx hb dL_law_495 (by decide) (fun c_151 => ?_) (fun c_151 => ?_)
      · skip
        refine lv_iinc (v := 4) (lv' := [(3, .int 4), (2, .ref q_2), (1, .ref q_1), (0, .ref b)]) hx hb dL_law_890 hl (k := 0) rfl (by decide) (by decide) rfl (fun ls hl => ?_)
        refine lv_goto (tgt := 18) hx hb dL_law_893 (by decide) ?_
        refine lv_iload_n hx hb dL_law_18 rfl (lv_at hl 0 rfl) ?_
        refine lv_aload_n hx hb dL_law_19 rfl (lv_at hl 3 rfl) ?_
        refine va_slen hx hb hX hbl hbA hS dL_law_20 ?_
        refine lv_topi (fun x_152 ex_152 => ?_)
        obtain rfl : x_152 = 4 := ex_152.trans (by decide)
        refine lv_iconst (v := 4) hx hb dL_law_21 (by decide) ?_
        refine lv_isub hx hb dL_law_22 ?_
        refine lv_topi (fun x_153 ex_153 => ?_)
        obtain rfl : x_153 = 0 := ex_153.trans (by decide)
        refine lv_icmp_gt (tgt := 896) hx hb dL_law_23 (by decide) (fun _ => ?_) (fun h9 => absurd (by decide) h9)
        refine lv_iconst (v := 1) hx hb dL_law_896 (by decide) ?_
        refine va_forget (fun q hq => by have h9 := hS.2.2 q hq; rw [hAe] at h9; exact h9) ?_
        refine W.widen (k := 600000) (n := 7302249) (Nat.le_of_ble_eq_true rfl) (Nat.le_of_ble_eq_true rfl) ?_
        exact lw_ret hx hb hr hlocks dL_law_897
      · skip
        exact absurd (hpr_145.trans hpr_150.symm) c_151
    · skip
      refine lv_tableIn (off := 468) (tgt := 500) hx hb dL_law_32 (by decide) (by decide) rfl (by decide) ?_
      refine lv_aload_n hx hb dL_law_500 rfl (lv_at hl 2 rfl) ?_
      refine lv_aload_n hx hb dL_law_501 rfl (lv_at hl 3 rfl) ?_
      refine lv_iload_n hx hb dL_law_502 rfl (lv_at hl 0 rfl) ?_
      refine lv_iconst (v := 1) hx hb dL_law_503 (by decide) ?_
      refine lv_iadd hx hb dL_law_504 ?_
      refine lv_topi (fun x_154 ex_154 => ?_)
      obtain rfl : x_154 = 1 := ex_154.trans (by decide)
      refine va_sld hx hb hX hbl hbA hS (vp_in_iff.mpr (by decide)) dL_law_505 ?_
      refine lv_topi (fun x_155 ex_155 => ?_)
      obtain rfl : p1 = x_155 := (ex_155.trans hp1).symm
      refine k_Fi (ci := 5) (q0 := 0) (tc := []) (ex := (fun _ => True)) (wc := [(q_1, .inr (5, fc))]) (wr := [(q_2, .inr (6, fm)), (q_places, .inl (cJ, 8, .inl (fun _ => 0))), (q_sizes, .inl (cJ, 32, .inl (fun _ => 0))), (q_marks, .inl (cJ, 100, .inl (fun _ => 0))), (q_sort, .inl (cJ, 40, .inl (fun _ => 0))), (q_pays, .inl (cJ, 40, .inl (fun _ => 0))), (q_must, .inl (cJ, 40, .inl (fun _ => 0))), (q_never, .inl (cJ, 40, .inl (fun _ => 0))), (q_bid, .inl (cJ, 40, .inl (fun _ => 0))), (q_cap, .inl (cJ, 40, .inl (fun _ => 0))), (q_span, .inl (cJ, 40, .inl (fun _ => 0))), (q_throttle, .inl (cJ, 40, .inl (fun _ => 0))), (q_promised, .inl (cJ, 40, .inl (fun _ => 0)))]) ⟨hx, hb, hml, hown, hts⟩ (f_tick l dC dI H.size q_1 fc p1 hc7 hc8 hc14 hc12 hc16 hlc) 1 wm_280 wm_281 wm_282 wm_2 wm_283 (by decide +kernel) ⟨Nat.le_of_ble_eq_true rfl, Nat.le_of_ble_eq_true rfl⟩ (hK.sub (tys' := []) [] rfl) exT rfl rfl [0] [4, 5, 6, 7, 8, 9, 10, 11, 12, 13, 14, 15, 16] (by decide) rfl rfl (by decide) (by decide) rfl hl.1 rfl (Nat.le_of_ble_eq_true rfl) dL_law_506 ⟨Nat.le_of_ble_eq_true rfl, Nat.le_of_ble_eq_true rfl⟩ hP hD hS hA (fun r_156 H locs hpr_156 hP hD hS => ?_)
      refine lv_aload_n hx hb dL_law_509 rfl (lv_at hl 1 rfl) ?_
      refine lv_aload_n hx hb dL_law_510 rfl (lv_at hl 3 rfl) ?_
      refine lv_iload_n hx hb dL_law_511 rfl (lv_at hl 0 rfl) ?_
      refine lv_iconst (v := 1) hx hb dL_law_512 (by decide) ?_
      refine lv_iadd hx hb dL_law_513 ?_
      refine lv_topi (fun x_157 ex_157 => ?_)
      obtain rfl : x_157 = 1 := ex_157.trans (by decide)
      refine va_sld hx hb hX hbl hbA hS (vp_in_iff.mpr (by decide)) dL_law_514 ?_
      refine lv_topi (fun x_158 ex_158 => ?_)
      obtain rfl : p1 = x_158 := (ex_158.trans hp1).symm
      refine k_Fi (ci := 6) (q0 := 0) (tc := []) (ex := (fun _ => True)) (wc := [(q_2, .inr (6, fm))]) (wr := []) ⟨hx, hb, hml, hown, hts⟩ (f_mtick l dC dI H.size q_2 fm p1 hm25 hm3 hm1 hlm) 1 wm_284 wm_285 wm_286 wm_6 wm_287 (by decide +kernel) ⟨Nat.le_of_ble_eq_true rfl, Nat.le_of_ble_eq_true rfl⟩ (hK.sub (tys' := []) [] rfl) exT rfl rfl [0] [] (by decide) rfl rfl (by decide) (by decide) rfl hl.1 rfl (Nat.le_of_ble_eq_true rfl) dL_law_515 ⟨Nat.le_of_ble_eq_true rfl, Nat.le_of_ble_eq_true rfl⟩ hP hD hS hA (fun r_159 H locs hpr_159 hP hD hS => ?_)
      refine lv_icmp_eq (tgt := 890) hx hb dL_law_518 (by decide) (fun c_160 => ?_) (fun c_160 => ?_)
      · skip
        refine lv_iinc (v := 4) (lv' := [(3, .int 4), (2, .ref q_2), (1, .ref q_1), (0, .ref b)]) hx hb dL_law_890 hl (k := 0) rfl (by decide) (by decide) rfl (fun ls hl => ?_)
        refine lv_goto (tgt := 18) hx hb dL_law_893 (by decide) ?_
        refine lv_iload_n hx hb dL_law_18 rfl (lv_at hl 0 rfl) ?_
        refine lv_aload_n hx hb dL_law_19 rfl (lv_at hl 3 rfl) ?_
        refine va_slen hx hb hX hbl hbA hS dL_law_20 ?_
        refine lv_topi (fun x_161 ex_161 => ?_)
        obtain rfl : x_161 = 4 := ex_161.trans (by decide)
        refine lv_iconst (v := 4) hx hb dL_law_21 (by decide) ?_
        refine lv_isub hx hb dL_law_22 ?_
        refine lv_topi (fun x_162 ex_162 => ?_)
        obtain rfl : x_162 = 0 := ex_162.trans (by decide)
        refine lv_icmp_gt (tgt := 896) hx hb dL_law_23 (by decide) (fun _ => ?_) (fun h9 => absurd (by decide) h9)
        refine lv_iconst (v := 1) hx hb dL_law_896 (by decide) ?_
        refine va_forget (fun q hq => by have h9 := hS.2.2 q hq; rw [hAe] at h9; exact h9) ?_
        refine W.widen (k := 600000) (n := 7302249) (Nat.le_of_ble_eq_true rfl) (Nat.le_of_ble_eq_true rfl) ?_
        exact lw_ret hx hb hr hlocks dL_law_897
      · skip
        exact absurd (hpr_156.trans hpr_159.symm) c_160
    · skip
      refine lv_tableIn (off := 491) (tgt := 523) hx hb dL_law_32 (by decide) (by decide) rfl (by decide) ?_
      refine lv_aload_n hx hb dL_law_523 rfl (lv_at hl 2 rfl) ?_
      refine lv_aload_n hx hb dL_law_524 rfl (lv_at hl 3 rfl) ?_
      refine lv_iload_n hx hb dL_law_525 rfl (lv_at hl 0 rfl) ?_
      refine lv_iconst (v := 1) hx hb dL_law_526 (by decide) ?_
      refine lv_iadd hx hb dL_law_527 ?_
      refine lv_topi (fun x_163 ex_163 => ?_)
      obtain rfl : x_163 = 1 := ex_163.trans (by decide)
      refine va_sld hx hb hX hbl hbA hS (vp_in_iff.mpr (by decide)) dL_law_528 ?_
      refine lv_topi (fun x_164 ex_164 => ?_)
      obtain rfl : p1 = x_164 := (ex_164.trans hp1).symm
      refine lv_aload_n hx hb dL_law_529 rfl (lv_at hl 3 rfl) ?_
      refine lv_iload_n hx hb dL_law_530 rfl (lv_at hl 0 rfl) ?_
      refine lv_iconst (v := 2) hx hb dL_law_531 (by decide) ?_
      refine lv_iadd hx hb dL_law_532 ?_
      refine lv_topi (fun x_165 ex_165 => ?_)
      obtain rfl : x_165 = 2 := ex_165.trans (by decide)
      refine va_sld hx hb hX hbl hbA hS (vp_in_iff.mpr (by decide)) dL_law_533 ?_
      refine lv_topi (fun x_166 ex_166 => ?_)
      obtain rfl : p2 = x_166 := (ex_166.trans hp2).symm
      have hPc := hP.sub (ws' := [(q_1, .inr (5, fc))]) [0] rfl
      refine k_V (ci := 5) (q0 := 0) (tc := []) ⟨hx, hb, hml, hown, hts⟩ (b_X5_come l dC dI q_1 fc p1 p2 hc7 hc8 hc9) 2 wm_288 wm_289 wm_290 wm_2 wm_291 (by decide +kernel) ⟨Nat.le_of_ble_eq_true rfl, Nat.le_of_ble_eq_true rfl⟩ hPc (hK.sub (tys' := []) [] rfl) rfl rfl rfl hl.1 rfl (Nat.le_of_ble_eq_true rfl) dL_law_534 ⟨Nat.le_of_ble_eq_true rfl, Nat.le_of_ble_eq_true rfl⟩ hS hP (fun r_167 H locs hpr_167 hP hS => ?_)
      subst hpr_167
      refine lv_aload_n hx hb dL_law_537 rfl (lv_at hl 1 rfl) ?_
      refine lv_aload_n hx hb dL_law_538 rfl (lv_at hl 3 rfl) ?_
      refine lv_iload_n hx hb dL_law_539 rfl (lv_at hl 0 rfl) ?_
      refine lv_iconst (v := 1) hx hb dL_law_540 (by decide) ?_
      refine lv_iadd hx hb dL_law_541 ?_
      refine lv_topi (fun x_168 ex_168 => ?_)
      obtain rfl : x_168 = 1 := ex_168.trans (by decide)
      refine va_sld hx hb hX hbl hbA hS (vp_in_iff.mpr (by decide)) dL_law_542 ?_
      refine lv_topi (fun x_169 ex_169 => ?_)
      obtain rfl : p1 = x_169 := (ex_169.trans hp1).symm
      refine lv_aload_n hx hb dL_law_543 rfl (lv_at hl 3 rfl) ?_
      refine lv_iload_n hx hb dL_law_544 rfl (lv_at hl 0 rfl) ?_
      refine lv_iconst (v := 2) hx hb dL_law_545 (by decide) ?_
      refine lv_iadd hx hb dL_law_546 ?_
      refine lv_topi (fun x_170 ex_170 => ?_)
      obtain rfl : x_170 = 2 := ex_170.trans (by decide)
      refine va_sld hx hb hX hbl hbA hS (vp_in_iff.mpr (by decide)) dL_law_547 ?_
      refine lv_topi (fun x_171 ex_171 => ?_)
      obtain rfl : p2 = x_171 := (ex_171.trans hp2).symm
      have hPc := hP.sub (ws' := [(q_2, .inr (6, fm))]) [4] rfl
      refine k_V (ci := 6) (q0 := 0) (tc := []) ⟨hx, hb, hml, hown, hts⟩ (b_X6_come l dC dI q_2 fm p1 p2 hm5 hm9 hm25) 2 wm_292 wm_293 wm_294 wm_6 wm_295 (by decide +kernel) ⟨Nat.le_of_ble_eq_true rfl, Nat.le_of_ble_eq_true rfl⟩ hPc (hK.sub (tys' := []) [] rfl) rfl rfl rfl hl.1 rfl (Nat.le_of_ble_eq_true rfl) dL_law_548 ⟨Nat.le_of_ble_eq_true rfl, Nat.le_of_ble_eq_true rfl⟩ hS hP (fun r_172 H locs hpr_172 hP hS => ?_)
      subst hpr_172
      refine lv_icmp_eq (tgt := 890) hx hb dL_law_551 (by decide) (fun _ => ?_) (fun h9 => absurd (by decide) h9)
      refine lv_iinc (v := 4) (lv' := [(3, .int 4), (2, .ref q_2), (1, .ref q_1), (0, .ref b)]) hx hb dL_law_890 hl (k := 0) rfl (by decide) (by decide) rfl (fun ls hl => ?_)
      refine lv_goto (tgt := 18) hx hb dL_law_893 (by decide) ?_
      refine lv_iload_n hx hb dL_law_18 rfl (lv_at hl 0 rfl) ?_
      refine lv_aload_n hx hb dL_law_19 rfl (lv_at hl 3 rfl) ?_
      refine va_slen hx hb hX hbl hbA hS dL_law_20 ?_
      refine lv_topi (fun x_173 ex_173 => ?_)
      obtain rfl : x_173 = 4 := ex_173.trans (by decide)
      refine lv_iconst (v := 4) hx hb dL_law_21 (by decide) ?_
      refine lv_isub hx hb dL_law_22 ?_
      refine lv_topi (fun x_174 ex_174 => ?_)
      obtain rfl : x_174 = 0 := ex_174.trans (by decide)
      refine lv_icmp_gt (tgt := 896) hx hb dL_law_23 (by decide) (fun _ => ?_) (fun h9 => absurd (by decide) h9)
      refine lv_iconst (v := 1) hx hb dL_law_896 (by decide) ?_
      refine va_forget (fun q hq => by have h9 := hS.2.2 q hq; rw [hAe] at h9; exact h9) ?_
      refine W.widen (k := 600000) (n := 7302249) (Nat.le_of_ble_eq_true rfl) (Nat.le_of_ble_eq_true rfl) ?_
      exact lw_ret hx hb hr hlocks dL_law_897
    · skip
      refine lv_tableIn (off := 524) (tgt := 556) hx hb dL_law_32 (by decide) (by decide) rfl (by decide) ?_
      refine lv_aload_n hx hb dL_law_556 rfl (lv_at hl 2 rfl) ?_
      refine lv_aload_n hx hb dL_law_557 rfl (lv_at hl 3 rfl) ?_
      refine lv_iload_n hx hb dL_law_558 rfl (lv_at hl 0 rfl) ?_
      refine lv_iconst (v := 1) hx hb dL_law_559 (by decide) ?_
      refine lv_iadd hx hb dL_law_560 ?_
      refine lv_topi (fun x_175 ex_175 => ?_)
      obtain rfl : x_175 = 1 := ex_175.trans (by decide)
      refine va_sld hx hb hX hbl hbA hS (vp_in_iff.mpr (by decide)) dL_law_561 ?_
      refine lv_topi (fun x_176 ex_176 => ?_)
      obtain rfl : p1 = x_176 := (ex_176.trans hp1).symm
      refine lv_aload_n hx hb dL_law_562 rfl (lv_at hl 3 rfl) ?_
      refine lv_iload_n hx hb dL_law_563 rfl (lv_at hl 0 rfl) ?_
      refine lv_iconst (v := 2) hx hb dL_law_564 (by decide) ?_
      refine lv_iadd hx hb dL_law_565 ?_
      refine lv_topi (fun x_177 ex_177 => ?_)
      obtain rfl : x_177 = 2 := ex_177.trans (by decide)
      refine va_sld hx hb hX hbl hbA hS (vp_in_iff.mpr (by decide)) dL_law_566 ?_
      refine lv_topi (fun x_178 ex_178 => ?_)
      obtain rfl : p2 = x_178 := (ex_178.trans hp2).symm
      refine lv_aload_n hx hb dL_law_567 rfl (lv_at hl 3 rfl) ?_
      refine lv_iload_n hx hb dL_law_568 rfl (lv_at hl 0 rfl) ?_
      refine lv_iconst (v := 3) hx hb dL_law_569 (by decide) ?_
      refine lv_iadd hx hb dL_law_570 ?_
      refine lv_topi (fun x_179 ex_179 => ?_)
      obtain rfl : x_179 = 3 := ex_179.trans (by decide)
      refine va_sld hx hb hX hbl hbA hS (vp_in_iff.mpr (by decide)) dL_law_571 ?_
      refine lv_topi (fun x_180 ex_180 => ?_)
      obtain rfl : p3 = x_180 := (ex_180.trans hp3).symm
      have hPc := hP.sub (ws' := [(q_1, .inr (5, fc))]) [0] rfl
      refine k_V (ci := 5) (q0 := 0) (tc := []) ⟨hx, hb, hml, hown, hts⟩ (b_X5_why l dC dI q_1 fc p1 p2 p3 hc7 hc8 hc9) 3 wm_296 wm_297 wm_298 wm_2 wm_299 (by decide +kernel) ⟨Nat.le_of_ble_eq_true rfl, Nat.le_of_ble_eq_true rfl⟩ hPc (hK.sub (tys' := []) [] rfl) rfl rfl rfl hl.1 rfl (Nat.le_of_ble_eq_true rfl) dL_law_572 ⟨Nat.le_of_ble_eq_true rfl, Nat.le_of_ble_eq_true rfl⟩ hS hP (fun r_181 H locs hpr_181 hP hS => ?_)
      subst hpr_181
      refine lv_aload_n hx hb dL_law_575 rfl (lv_at hl 1 rfl) ?_
      refine lv_aload_n hx hb dL_law_576 rfl (lv_at hl 3 rfl) ?_
      refine lv_iload_n hx hb dL_law_577 rfl (lv_at hl 0 rfl) ?_
      refine lv_iconst (v := 1) hx hb dL_law_578 (by decide) ?_
      refine lv_iadd hx hb dL_law_579 ?_
      refine lv_topi (fun x_182 ex_182 => ?_)
      obtain rfl : x_182 = 1 := ex_182.trans (by decide)
      refine va_sld hx hb hX hbl hbA hS (vp_in_iff.mpr (by decide)) dL_law_580 ?_
      refine lv_topi (fun x_183 ex_183 => ?_)
      obtain rfl : p1 = x_183 := (ex_183.trans hp1).symm
      refine lv_aload_n hx hb dL_law_581 rfl (lv_at hl 3 rfl) ?_
      refine lv_iload_n hx hb dL_law_582 rfl (lv_at hl 0 rfl) ?_
      refine lv_iconst (v := 2) hx hb dL_law_583 (by decide) ?_
      refine lv_iadd hx hb dL_law_584 ?_
      refine lv_topi (fun x_184 ex_184 => ?_)
      obtain rfl : x_184 = 2 := ex_184.trans (by decide)
      refine va_sld hx hb hX hbl hbA hS (vp_in_iff.mpr (by decide)) dL_law_585 ?_
      refine lv_topi (fun x_185 ex_185 => ?_)
      obtain rfl : p2 = x_185 := (ex_185.trans hp2).symm
      refine lv_aload_n hx hb dL_law_586 rfl (lv_at hl 3 rfl) ?_
      refine lv_iload_n hx hb dL_law_587 rfl (lv_at hl 0 rfl) ?_
      refine lv_iconst (v := 3) hx hb dL_law_588 (by decide) ?_
      refine lv_iadd hx hb dL_law_589 ?_
      refine lv_topi (fun x_186 ex_186 => ?_)
      obtain rfl : x_186 = 3 := ex_186.trans (by decide)
      refine va_sld hx hb hX hbl hbA hS (vp_in_iff.mpr (by decide)) dL_law_590 ?_
      refine lv_topi (fun x_187 ex_187 => ?_)
      obtain rfl : p3 = x_187 := (ex_187.trans hp3).symm
      have hPc := hP.sub (ws' := [(q_2, .inr (6, fm))]) [4] rfl
      refine k_V (ci := 6) (q0 := 0) (tc := []) ⟨hx, hb, hml, hown, hts⟩ (b_X6_why l dC dI q_2 fm p1 p2 p3 hm5 hm9 hm25) 3 wm_300 wm_301 wm_302 wm_6 wm_303 (by decide +kernel) ⟨Nat.le_of_ble_eq_true rfl, Nat.le_of_ble_eq_true rfl⟩ hPc (hK.sub (tys' := []) [] rfl) rfl rfl rfl hl.1 rfl (Nat.le_of_ble_eq_true rfl) dL_law_591 ⟨Nat.le_of_ble_eq_true rfl, Nat.le_of_ble_eq_true rfl⟩ hS hP (fun r_188 H locs hpr_188 hP hS => ?_)
      subst hpr_188
      refine lv_icmp_eq (tgt := 890) hx hb dL_law_594 (by decide) (fun _ => ?_) (fun h9 => absurd (by decide) h9)
      refine lv_iinc (v := 4) (lv' := [(3, .int 4), (2, .ref q_2), (1, .ref q_1), (0, .ref b)]) hx hb dL_law_890 hl (k := 0) rfl (by decide) (by decide) rfl (fun ls hl => ?_)
      refine lv_goto (tgt := 18) hx hb dL_law_893 (by decide) ?_
      refine lv_iload_n hx hb dL_law_18 rfl (lv_at hl 0 rfl) ?_
      refine lv_aload_n hx hb dL_law_19 rfl (lv_at hl 3 rfl) ?_
      refine va_slen hx hb hX hbl hbA hS dL_law_20 ?_
      refine lv_topi (fun x_189 ex_189 => ?_)
      obtain rfl : x_189 = 4 := ex_189.trans (by decide)
      refine lv_iconst (v := 4) hx hb dL_law_21 (by decide) ?_
      refine lv_isub hx hb dL_law_22 ?_
      refine lv_topi (fun x_190 ex_190 => ?_)
      obtain rfl : x_190 = 0 := ex_190.trans (by decide)
      refine lv_icmp_gt (tgt := 896) hx hb dL_law_23 (by decide) (fun _ => ?_) (fun h9 => absurd (by decide) h9)
      refine lv_iconst (v := 1) hx hb dL_law_896 (by decide) ?_
      refine va_forget (fun q hq => by have h9 := hS.2.2 q hq; rw [hAe] at h9; exact h9) ?_
      refine W.widen (k := 600000) (n := 7302249) (Nat.le_of_ble_eq_true rfl) (Nat.le_of_ble_eq_true rfl) ?_
      exact lw_ret hx hb hr hlocks dL_law_897
    · skip
      refine lv_tableIn (off := 567) (tgt := 599) hx hb dL_law_32 (by decide) (by decide) rfl (by decide) ?_
      refine lv_aload_n hx hb dL_law_599 rfl (lv_at hl 2 rfl) ?_
      refine lv_aload_n hx hb dL_law_600 rfl (lv_at hl 3 rfl) ?_
      refine lv_iload_n hx hb dL_law_601 rfl (lv_at hl 0 rfl) ?_
      refine lv_iconst (v := 1) hx hb dL_law_602 (by decide) ?_
      refine lv_iadd hx hb dL_law_603 ?_
      refine lv_topi (fun x_191 ex_191 => ?_)
      obtain rfl : x_191 = 1 := ex_191.trans (by decide)
      refine va_sld hx hb hX hbl hbA hS (vp_in_iff.mpr (by decide)) dL_law_604 ?_
      refine lv_topi (fun x_192 ex_192 => ?_)
      obtain rfl : p1 = x_192 := (ex_192.trans hp1).symm
      refine lv_aload_n hx hb dL_law_605 rfl (lv_at hl 3 rfl) ?_
      refine lv_iload_n hx hb dL_law_606 rfl (lv_at hl 0 rfl) ?_
      refine lv_iconst (v := 2) hx hb dL_law_607 (by decide) ?_
      refine lv_iadd hx hb dL_law_608 ?_
      refine lv_topi (fun x_193 ex_193 => ?_)
      obtain rfl : x_193 = 2 := ex_193.trans (by decide)
      refine va_sld hx hb hX hbl hbA hS (vp_in_iff.mpr (by decide)) dL_law_609 ?_
      refine lv_topi (fun x_194 ex_194 => ?_)
      obtain rfl : p2 = x_194 := (ex_194.trans hp2).symm
      have hPc := hP.sub (ws' := [(q_1, .inr (5, fc))]) [0] rfl
      refine k_Vl (ci := 5) (q0 := 0) (tc := []) ⟨hx, hb, hml, hown, hts⟩ (b_X5_best l dC dI q_1 fc p1 p2 hc7 hc8 hc9) 2 wm_304 wm_305 wm_306 wm_2 wm_307 (by decide +kernel) ⟨Nat.le_of_ble_eq_true rfl, Nat.le_of_ble_eq_true rfl⟩ hPc (hK.sub (tys' := []) [] rfl) rfl rfl rfl hl.1 rfl (Nat.le_of_ble_eq_true rfl) dL_law_610 ⟨Nat.le_of_ble_eq_true rfl, Nat.le_of_ble_eq_true rfl⟩ hS hP (fun r_195 H locs hpr_195 hP hS => ?_)
      subst hpr_195
      refine lv_aload_n hx hb dL_law_613 rfl (lv_at hl 1 rfl) ?_
      refine lv_aload_n hx hb dL_law_614 rfl (lv_at hl 3 rfl) ?_
      refine lv_iload_n hx hb dL_law_615 rfl (lv_at hl 0 rfl) ?_
      refine lv_iconst (v := 1) hx hb dL_law_616 (by decide) ?_
      refine lv_iadd hx hb dL_law_617 ?_
      refine lv_topi (fun x_196 ex_196 => ?_)
      obtain rfl : x_196 = 1 := ex_196.trans (by decide)
      refine va_sld hx hb hX hbl hbA hS (vp_in_iff.mpr (by decide)) dL_law_618 ?_
      refine lv_topi (fun x_197 ex_197 => ?_)
      obtain rfl : p1 = x_197 := (ex_197.trans hp1).symm
      refine lv_aload_n hx hb dL_law_619 rfl (lv_at hl 3 rfl) ?_
      refine lv_iload_n hx hb dL_law_620 rfl (lv_at hl 0 rfl) ?_
      refine lv_iconst (v := 2) hx hb dL_law_621 (by decide) ?_
      refine lv_iadd hx hb dL_law_622 ?_
      refine lv_topi (fun x_198 ex_198 => ?_)
      obtain rfl : x_198 = 2 := ex_198.trans (by decide)
      refine va_sld hx hb hX hbl hbA hS (vp_in_iff.mpr (by decide)) dL_law_623 ?_
      refine lv_topi (fun x_199 ex_199 => ?_)
      obtain rfl : p2 = x_199 := (ex_199.trans hp2).symm
      have hPc := hP.sub (ws' := [(q_2, .inr (6, fm))]) [4] rfl
      refine k_Vl (ci := 6) (q0 := 0) (tc := []) ⟨hx, hb, hml, hown, hts⟩ (b_X6_best l dC dI q_2 fm p1 p2 hm5 hm9 hm25) 2 wm_308 wm_309 wm_310 wm_6 wm_311 (by decide +kernel) ⟨Nat.le_of_ble_eq_true rfl, Nat.le_of_ble_eq_true rfl⟩ hPc (hK.sub (tys' := []) [] rfl) rfl rfl rfl hl.1 rfl (Nat.le_of_ble_eq_true rfl) dL_law_624 ⟨Nat.le_of_ble_eq_true rfl, Nat.le_of_ble_eq_true rfl⟩ hS hP (fun r_200 H locs hpr_200 hP hS => ?_)
      subst hpr_200
      refine W.lcmp hx hb dL_law_627 ?_
      refine lv_topi (fun x_201 ex_201 => ?_)
      obtain rfl : x_201 = 0 := ex_201.trans (by decide)
      refine lv_if_eq (tgt := 890) hx hb dL_law_628 (by decide) (fun _ => ?_) (fun h9 => absurd (by decide) h9)
      refine lv_iinc (v := 4) (lv' := [(3, .int 4), (2, .ref q_2), (1, .ref q_1), (0, .ref b)]) hx hb dL_law_890 hl (k := 0) rfl (by decide) (by decide) rfl (fun ls hl => ?_)
      refine lv_goto (tgt := 18) hx hb dL_law_893 (by decide) ?_
      refine lv_iload_n hx hb dL_law_18 rfl (lv_at hl 0 rfl) ?_
      refine lv_aload_n hx hb dL_law_19 rfl (lv_at hl 3 rfl) ?_
      refine va_slen hx hb hX hbl hbA hS dL_law_20 ?_
      refine lv_topi (fun x_202 ex_202 => ?_)
      obtain rfl : x_202 = 4 := ex_202.trans (by decide)
      refine lv_iconst (v := 4) hx hb dL_law_21 (by decide) ?_
      refine lv_isub hx hb dL_law_22 ?_
      refine lv_topi (fun x_203 ex_203 => ?_)
      obtain rfl : x_203 = 0 := ex_203.trans (by decide)
      refine lv_icmp_gt (tgt := 896) hx hb dL_law_23 (by decide) (fun _ => ?_) (fun h9 => absurd (by decide) h9)
      refine lv_iconst (v := 1) hx hb dL_law_896 (by decide) ?_
      refine va_forget (fun q hq => by have h9 := hS.2.2 q hq; rw [hAe] at h9; exact h9) ?_
      refine W.widen (k := 600000) (n := 7302249) (Nat.le_of_ble_eq_true rfl) (Nat.le_of_ble_eq_true rfl) ?_
      exact lw_ret hx hb hr hlocks dL_law_897
    · skip
      refine lv_tableIn (off := 601) (tgt := 633) hx hb dL_law_32 (by decide) (by decide) rfl (by decide) ?_
      refine lv_aload_n hx hb dL_law_633 rfl (lv_at hl 2 rfl) ?_
      refine lv_aload_n hx hb dL_law_634 rfl (lv_at hl 3 rfl) ?_
      refine lv_iload_n hx hb dL_law_635 rfl (lv_at hl 0 rfl) ?_
      refine lv_iconst (v := 1) hx hb dL_law_636 (by decide) ?_
      refine lv_iadd hx hb dL_law_637 ?_
      refine lv_topi (fun x_204 ex_204 => ?_)
      obtain rfl : x_204 = 1 := ex_204.trans (by decide)
      refine va_sld hx hb hX hbl hbA hS (vp_in_iff.mpr (by decide)) dL_law_638 ?_
      refine lv_topi (fun x_205 ex_205 => ?_)
      obtain rfl : p1 = x_205 := (ex_205.trans hp1).symm
      refine lv_aload_n hx hb dL_law_639 rfl (lv_at hl 3 rfl) ?_
      refine lv_iload_n hx hb dL_law_640 rfl (lv_at hl 0 rfl) ?_
      refine lv_iconst (v := 2) hx hb dL_law_641 (by decide) ?_
      refine lv_iadd hx hb dL_law_642 ?_
      refine lv_topi (fun x_206 ex_206 => ?_)
      obtain rfl : x_206 = 2 := ex_206.trans (by decide)
      refine va_sld hx hb hX hbl hbA hS (vp_in_iff.mpr (by decide)) dL_law_643 ?_
      refine lv_topi (fun x_207 ex_207 => ?_)
      obtain rfl : p2 = x_207 := (ex_207.trans hp2).symm
      refine lv_aload_n hx hb dL_law_644 rfl (lv_at hl 3 rfl) ?_
      refine lv_iload_n hx hb dL_law_645 rfl (lv_at hl 0 rfl) ?_
      refine lv_iconst (v := 3) hx hb dL_law_646 (by decide) ?_
      refine lv_iadd hx hb dL_law_647 ?_
      refine lv_topi (fun x_208 ex_208 => ?_)
      obtain rfl : x_208 = 3 := ex_208.trans (by decide)
      refine va_sld hx hb hX hbl hbA hS (vp_in_iff.mpr (by decide)) dL_law_648 ?_
      refine lv_topi (fun x_209 ex_209 => ?_)
      obtain rfl : p3 = x_209 := (ex_209.trans hp3).symm
      have hPc := hP.sub (ws' := [(q_1, .inr (5, fc))]) [0] rfl
      refine k_V (ci := 5) (q0 := 0) (tc := []) ⟨hx, hb, hml, hown, hts⟩ (b_X5_give l dC dI q_1 fc p1 p2 p3 hc7 hc8 hc9) 3 wm_312 wm_313 wm_314 wm_2 wm_315 (by decide +kernel) ⟨Nat.le_of_ble_eq_true rfl, Nat.le_of_ble_eq_true rfl⟩ hPc (hK.sub (tys' := []) [] rfl) rfl rfl rfl hl.1 rfl (Nat.le_of_ble_eq_true rfl) dL_law_649 ⟨Nat.le_of_ble_eq_true rfl, Nat.le_of_ble_eq_true rfl⟩ hS hP (fun r_210 H locs hpr_210 hP hS => ?_)
      subst hpr_210
      refine lv_aload_n hx hb dL_law_652 rfl (lv_at hl 1 rfl) ?_
      refine lv_aload_n hx hb dL_law_653 rfl (lv_at hl 3 rfl) ?_
      refine lv_iload_n hx hb dL_law_654 rfl (lv_at hl 0 rfl) ?_
      refine lv_iconst (v := 1) hx hb dL_law_655 (by decide) ?_
      refine lv_iadd hx hb dL_law_656 ?_
      refine lv_topi (fun x_211 ex_211 => ?_)
      obtain rfl : x_211 = 1 := ex_211.trans (by decide)
      refine va_sld hx hb hX hbl hbA hS (vp_in_iff.mpr (by decide)) dL_law_657 ?_
      refine lv_topi (fun x_212 ex_212 => ?_)
      obtain rfl : p1 = x_212 := (ex_212.trans hp1).symm
      refine lv_aload_n hx hb dL_law_658 rfl (lv_at hl 3 rfl) ?_
      refine lv_iload_n hx hb dL_law_659 rfl (lv_at hl 0 rfl) ?_
      refine lv_iconst (v := 2) hx hb dL_law_660 (by decide) ?_
      refine lv_iadd hx hb dL_law_661 ?_
      refine lv_topi (fun x_213 ex_213 => ?_)
      obtain rfl : x_213 = 2 := ex_213.trans (by decide)
      refine va_sld hx hb hX hbl hbA hS (vp_in_iff.mpr (by decide)) dL_law_662 ?_
      refine lv_topi (fun x_214 ex_214 => ?_)
      obtain rfl : p2 = x_214 := (ex_214.trans hp2).symm
      refine lv_aload_n hx hb dL_law_663 rfl (lv_at hl 3 rfl) ?_
      refine lv_iload_n hx hb dL_law_664 rfl (lv_at hl 0 rfl) ?_
      refine lv_iconst (v := 3) hx hb dL_law_665 (by decide) ?_
      refine lv_iadd hx hb dL_law_666 ?_
      refine lv_topi (fun x_215 ex_215 => ?_)
      obtain rfl : x_215 = 3 := ex_215.trans (by decide)
      refine va_sld hx hb hX hbl hbA hS (vp_in_iff.mpr (by decide)) dL_law_667 ?_
      refine lv_topi (fun x_216 ex_216 => ?_)
      obtain rfl : p3 = x_216 := (ex_216.trans hp3).symm
      have hPc := hP.sub (ws' := [(q_2, .inr (6, fm))]) [4] rfl
      refine k_V (ci := 6) (q0 := 0) (tc := []) ⟨hx, hb, hml, hown, hts⟩ (b_X6_give l dC dI q_2 fm p1 p2 p3 hm5 hm9 hm25) 3 wm_316 wm_317 wm_318 wm_6 wm_319 (by decide +kernel) ⟨Nat.le_of_ble_eq_true rfl, Nat.le_of_ble_eq_true rfl⟩ hPc (hK.sub (tys' := []) [] rfl) rfl rfl rfl hl.1 rfl (Nat.le_of_ble_eq_true rfl) dL_law_668 ⟨Nat.le_of_ble_eq_true rfl, Nat.le_of_ble_eq_true rfl⟩ hS hP (fun r_217 H locs hpr_217 hP hS => ?_)
      subst hpr_217
      refine lv_icmp_eq (tgt := 890) hx hb dL_law_671 (by decide) (fun _ => ?_) (fun h9 => absurd (by decide) h9)
      refine lv_iinc (v := 4) (lv' := [(3, .int 4), (2, .ref q_2), (1, .ref q_1), (0, .ref b)]) hx hb dL_law_890 hl (k := 0) rfl (by decide) (by decide) rfl (fun ls hl => ?_)
      refine lv_goto (tgt := 18) hx hb dL_law_893 (by decide) ?_
      refine lv_iload_n hx hb dL_law_18 rfl (lv_at hl 0 rfl) ?_
      refine lv_aload_n hx hb dL_law_19 rfl (lv_at hl 3 rfl) ?_
      refine va_slen hx hb hX hbl hbA hS dL_law_20 ?_
      refine lv_topi (fun x_218 ex_218 => ?_)
      obtain rfl : x_218 = 4 := ex_218.trans (by decide)
      refine lv_iconst (v := 4) hx hb dL_law_21 (by decide) ?_
      refine lv_isub hx hb dL_law_22 ?_
      refine lv_topi (fun x_219 ex_219 => ?_)
      obtain rfl : x_219 = 0 := ex_219.trans (by decide)
      refine lv_icmp_gt (tgt := 896) hx hb dL_law_23 (by decide) (fun _ => ?_) (fun h9 => absurd (by decide) h9)
      refine lv_iconst (v := 1) hx hb dL_law_896 (by decide) ?_
      refine va_forget (fun q hq => by have h9 := hS.2.2 q hq; rw [hAe] at h9; exact h9) ?_
      refine W.widen (k := 600000) (n := 7302249) (Nat.le_of_ble_eq_true rfl) (Nat.le_of_ble_eq_true rfl) ?_
      exact lw_ret hx hb hr hlocks dL_law_897
    · skip
      refine lv_tableIn (off := 644) (tgt := 676) hx hb dL_law_32 (by decide) (by decide) rfl (by decide) ?_
      refine lv_aload_n hx hb dL_law_676 rfl (lv_at hl 2 rfl) ?_
      refine lv_aload_n hx hb dL_law_677 rfl (lv_at hl 3 rfl) ?_
      refine lv_iload_n hx hb dL_law_678 rfl (lv_at hl 0 rfl) ?_
      refine lv_iconst (v := 1) hx hb dL_law_679 (by decide) ?_
      refine lv_iadd hx hb dL_law_680 ?_
      refine lv_topi (fun x_220 ex_220 => ?_)
      obtain rfl : x_220 = 1 := ex_220.trans (by decide)
      refine va_sld hx hb hX hbl hbA hS (vp_in_iff.mpr (by decide)) dL_law_681 ?_
      refine lv_topi (fun x_221 ex_221 => ?_)
      obtain rfl : p1 = x_221 := (ex_221.trans hp1).symm
      refine lv_aload_n hx hb dL_law_682 rfl (lv_at hl 3 rfl) ?_
      refine lv_iload_n hx hb dL_law_683 rfl (lv_at hl 0 rfl) ?_
      refine lv_iconst (v := 2) hx hb dL_law_684 (by decide) ?_
      refine lv_iadd hx hb dL_law_685 ?_
      refine lv_topi (fun x_222 ex_222 => ?_)
      obtain rfl : x_222 = 2 := ex_222.trans (by decide)
      refine va_sld hx hb hX hbl hbA hS (vp_in_iff.mpr (by decide)) dL_law_686 ?_
      refine lv_topi (fun x_223 ex_223 => ?_)
      obtain rfl : p2 = x_223 := (ex_223.trans hp2).symm
      have hPc := hP.sub (ws' := [(q_1, .inr (5, fc))]) [0] rfl
      refine k_V (ci := 5) (q0 := 0) (tc := []) ⟨hx, hb, hml, hown, hts⟩ (b_X5_sale l dC dI q_1 fc p1 p2 hc7 hc8 hc9) 2 wm_320 wm_321 wm_322 wm_2 wm_323 (by decide +kernel) ⟨Nat.le_of_ble_eq_true rfl, Nat.le_of_ble_eq_true rfl⟩ hPc (hK.sub (tys' := []) [] rfl) rfl rfl rfl hl.1 rfl (Nat.le_of_ble_eq_true rfl) dL_law_687 ⟨Nat.le_of_ble_eq_true rfl, Nat.le_of_ble_eq_true rfl⟩ hS hP (fun r_224 H locs hpr_224 hP hS => ?_)
      subst hpr_224
      refine lv_aload_n hx hb dL_law_690 rfl (lv_at hl 1 rfl) ?_
      refine lv_aload_n hx hb dL_law_691 rfl (lv_at hl 3 rfl) ?_
      refine lv_iload_n hx hb dL_law_692 rfl (lv_at hl 0 rfl) ?_
      refine lv_iconst (v := 1) hx hb dL_law_693 (by decide) ?_
      refine lv_iadd hx hb dL_law_694 ?_
      refine lv_topi (fun x_225 ex_225 => ?_)
      obtain rfl : x_225 = 1 := ex_225.trans (by decide)
      refine va_sld hx hb hX hbl hbA hS (vp_in_iff.mpr (by decide)) dL_law_695 ?_
      refine lv_topi (fun x_226 ex_226 => ?_)
      obtain rfl : p1 = x_226 := (ex_226.trans hp1).symm
      refine lv_aload_n hx hb dL_law_696 rfl (lv_at hl 3 rfl) ?_
      refine lv_iload_n hx hb dL_law_697 rfl (lv_at hl 0 rfl) ?_
      refine lv_iconst (v := 2) hx hb dL_law_698 (by decide) ?_
      refine lv_iadd hx hb dL_law_699 ?_
      refine lv_topi (fun x_227 ex_227 => ?_)
      obtain rfl : x_227 = 2 := ex_227.trans (by decide)
      refine va_sld hx hb hX hbl hbA hS (vp_in_iff.mpr (by decide)) dL_law_700 ?_
      refine lv_topi (fun x_228 ex_228 => ?_)
      obtain rfl : p2 = x_228 := (ex_228.trans hp2).symm
      have hPc := hP.sub (ws' := [(q_2, .inr (6, fm))]) [4] rfl
      refine k_V (ci := 6) (q0 := 0) (tc := []) ⟨hx, hb, hml, hown, hts⟩ (b_X6_sale l dC dI q_2 fm p1 p2 hm5 hm9 hm25) 2 wm_324 wm_325 wm_326 wm_6 wm_327 (by decide +kernel) ⟨Nat.le_of_ble_eq_true rfl, Nat.le_of_ble_eq_true rfl⟩ hPc (hK.sub (tys' := []) [] rfl) rfl rfl rfl hl.1 rfl (Nat.le_of_ble_eq_true rfl) dL_law_701 ⟨Nat.le_of_ble_eq_true rfl, Nat.le_of_ble_eq_true rfl⟩ hS hP (fun r_229 H locs hpr_229 hP hS => ?_)
      subst hpr_229
      refine lv_icmp_eq (tgt := 890) hx hb dL_law_704 (by decide) (fun _ => ?_) (fun h9 => absurd (by decide) h9)
      refine lv_iinc (v := 4) (lv' := [(3, .int 4), (2, .ref q_2), (1, .ref q_1), (0, .ref b)]) hx hb dL_law_890 hl (k := 0) rfl (by decide) (by decide) rfl (fun ls hl => ?_)
      refine lv_goto (tgt := 18) hx hb dL_law_893 (by decide) ?_
      refine lv_iload_n hx hb dL_law_18 rfl (lv_at hl 0 rfl) ?_
      refine lv_aload_n hx hb dL_law_19 rfl (lv_at hl 3 rfl) ?_
      refine va_slen hx hb hX hbl hbA hS dL_law_20 ?_
      refine lv_topi (fun x_230 ex_230 => ?_)
      obtain rfl : x_230 = 4 := ex_230.trans (by decide)
      refine lv_iconst (v := 4) hx hb dL_law_21 (by decide) ?_
      refine lv_isub hx hb dL_law_22 ?_
      refine lv_topi (fun x_231 ex_231 => ?_)
      obtain rfl : x_231 = 0 := ex_231.trans (by decide)
      refine lv_icmp_gt (tgt := 896) hx hb dL_law_23 (by decide) (fun _ => ?_) (fun h9 => absurd (by decide) h9)
      refine lv_iconst (v := 1) hx hb dL_law_896 (by decide) ?_
      refine va_forget (fun q hq => by have h9 := hS.2.2 q hq; rw [hAe] at h9; exact h9) ?_
      refine W.widen (k := 600000) (n := 7302249) (Nat.le_of_ble_eq_true rfl) (Nat.le_of_ble_eq_true rfl) ?_
      exact lw_ret hx hb hr hlocks dL_law_897
    · skip
      refine lv_tableIn (off := 677) (tgt := 709) hx hb dL_law_32 (by decide) (by decide) rfl (by decide) ?_
      refine lv_aload_n hx hb dL_law_709 rfl (lv_at hl 2 rfl) ?_
      refine lv_aload_n hx hb dL_law_710 rfl (lv_at hl 3 rfl) ?_
      refine lv_iload_n hx hb dL_law_711 rfl (lv_at hl 0 rfl) ?_
      refine lv_iconst (v := 1) hx hb dL_law_712 (by decide) ?_
      refine lv_iadd hx hb dL_law_713 ?_
      refine lv_topi (fun x_232 ex_232 => ?_)
      obtain rfl : x_232 = 1 := ex_232.trans (by decide)
      refine va_sld hx hb hX hbl hbA hS (vp_in_iff.mpr (by decide)) dL_law_714 ?_
      refine lv_topi (fun x_233 ex_233 => ?_)
      obtain rfl : p1 = x_233 := (ex_233.trans hp1).symm
      have hPc := hP.sub (ws' := [(q_1, .inr (5, fc))]) [0] rfl
      refine k_V (ci := 5) (q0 := 0) (tc := []) ⟨hx, hb, hml, hown, hts⟩ (b_X5_press l dC dI q_1 fc p1 hc7 hc8 hc9) 1 wm_328 wm_329 wm_330 wm_2 wm_331 (by decide +kernel) ⟨Nat.le_of_ble_eq_true rfl, Nat.le_of_ble_eq_true rfl⟩ hPc (hK.sub (tys' := []) [] rfl) rfl rfl rfl hl.1 rfl (Nat.le_of_ble_eq_true rfl) dL_law_715 ⟨Nat.le_of_ble_eq_true rfl, Nat.le_of_ble_eq_true rfl⟩ hS hP (fun r_234 H locs hpr_234 hP hS => ?_)
      subst hpr_234
      refine lv_aload_n hx hb dL_law_718 rfl (lv_at hl 1 rfl) ?_
      refine lv_aload_n hx hb dL_law_719 rfl (lv_at hl 3 rfl) ?_
      refine lv_iload_n hx hb dL_law_720 rfl (lv_at hl 0 rfl) ?_
      refine lv_iconst (v := 1) hx hb dL_law_721 (by decide) ?_
      refine lv_iadd hx hb dL_law_722 ?_
      refine lv_topi (fun x_235 ex_235 => ?_)
      obtain rfl : x_235 = 1 := ex_235.trans (by decide)
      refine va_sld hx hb hX hbl hbA hS (vp_in_iff.mpr (by decide)) dL_law_723 ?_
      refine lv_topi (fun x_236 ex_236 => ?_)
      obtain rfl : p1 = x_236 := (ex_236.trans hp1).symm
      have hPc := hP.sub (ws' := [(q_2, .inr (6, fm))]) [4] rfl
      refine k_V (ci := 6) (q0 := 0) (tc := []) ⟨hx, hb, hml, hown, hts⟩ (b_X6_press l dC dI q_2 fm p1 hm5 hm9 hm25) 1 wm_332 wm_333 wm_334 wm_6 wm_335 (by decide +kernel) ⟨Nat.le_of_ble_eq_true rfl, Nat.le_of_ble_eq_true rfl⟩ hPc (hK.sub (tys' := []) [] rfl) rfl rfl rfl hl.1 rfl (Nat.le_of_ble_eq_true rfl) dL_law_724 ⟨Nat.le_of_ble_eq_true rfl, Nat.le_of_ble_eq_true rfl⟩ hS hP (fun r_237 H locs hpr_237 hP hS => ?_)
      subst hpr_237
      refine lv_icmp_eq (tgt := 890) hx hb dL_law_727 (by decide) (fun _ => ?_) (fun h9 => absurd (by decide) h9)
      refine lv_iinc (v := 4) (lv' := [(3, .int 4), (2, .ref q_2), (1, .ref q_1), (0, .ref b)]) hx hb dL_law_890 hl (k := 0) rfl (by decide) (by decide) rfl (fun ls hl => ?_)
      refine lv_goto (tgt := 18) hx hb dL_law_893 (by decide) ?_
      refine lv_iload_n hx hb dL_law_18 rfl (lv_at hl 0 rfl) ?_
      refine lv_aload_n hx hb dL_law_19 rfl (lv_at hl 3 rfl) ?_
      refine va_slen hx hb hX hbl hbA hS dL_law_20 ?_
      refine lv_topi (fun x_238 ex_238 => ?_)
      obtain rfl : x_238 = 4 := ex_238.trans (by decide)
      refine lv_iconst (v := 4) hx hb dL_law_21 (by decide) ?_
      refine lv_isub hx hb dL_law_22 ?_
      refine lv_topi (fun x_239 ex_239 => ?_)
      obtain rfl : x_239 = 0 := ex_239.trans (by decide)
      refine lv_icmp_gt (tgt := 896) hx hb dL_law_23 (by decide) (fun _ => ?_) (fun h9 => absurd (by decide) h9)
      refine lv_iconst (v := 1) hx hb dL_law_896 (by decide) ?_
      refine va_forget (fun q hq => by have h9 := hS.2.2 q hq; rw [hAe] at h9; exact h9) ?_
      refine W.widen (k := 600000) (n := 7302249) (Nat.le_of_ble_eq_true rfl) (Nat.le_of_ble_eq_true rfl) ?_
      exact lw_ret hx hb hr hlocks dL_law_897
    · skip
      refine lv_tableIn (off := 700) (tgt := 732) hx hb dL_law_32 (by decide) (by decide) rfl (by decide) ?_
      refine lv_aload_n hx hb dL_law_732 rfl (lv_at hl 2 rfl) ?_
      refine lv_aload_n hx hb dL_law_733 rfl (lv_at hl 3 rfl) ?_
      refine lv_iload_n hx hb dL_law_734 rfl (lv_at hl 0 rfl) ?_
      refine lv_iconst (v := 1) hx hb dL_law_735 (by decide) ?_
      refine lv_iadd hx hb dL_law_736 ?_
      refine lv_topi (fun x_240 ex_240 => ?_)
      obtain rfl : x_240 = 1 := ex_240.trans (by decide)
      refine va_sld hx hb hX hbl hbA hS (vp_in_iff.mpr (by decide)) dL_law_737 ?_
      refine lv_topi (fun x_241 ex_241 => ?_)
      obtain rfl : p1 = x_241 := (ex_241.trans hp1).symm
      have hPc := hP.sub (ws' := [(q_1, .inr (5, fc))]) [0] rfl
      refine k_V (ci := 5) (q0 := 0) (tc := []) ⟨hx, hb, hml, hown, hts⟩ (b_X5_refund l dC dI q_1 fc p1 hc7 hc8 hc9) 1 wm_336 wm_337 wm_338 wm_2 wm_339 (by decide +kernel) ⟨Nat.le_of_ble_eq_true rfl, Nat.le_of_ble_eq_true rfl⟩ hPc (hK.sub (tys' := []) [] rfl) rfl rfl rfl hl.1 rfl (Nat.le_of_ble_eq_true rfl) dL_law_738 ⟨Nat.le_of_ble_eq_true rfl, Nat.le_of_ble_eq_true rfl⟩ hS hP (fun r_242 H locs hpr_242 hP hS => ?_)
      subst hpr_242
      refine lv_aload_n hx hb dL_law_741 rfl (lv_at hl 1 rfl) ?_
      refine lv_aload_n hx hb dL_law_742 rfl (lv_at hl 3 rfl) ?_
      refine lv_iload_n hx hb dL_law_743 rfl (lv_at hl 0 rfl) ?_
      refine lv_iconst (v := 1) hx hb dL_law_744 (by decide) ?_
      refine lv_iadd hx hb dL_law_745 ?_
      refine lv_topi (fun x_243 ex_243 => ?_)
      obtain rfl : x_243 = 1 := ex_243.trans (by decide)
      refine va_sld hx hb hX hbl hbA hS (vp_in_iff.mpr (by decide)) dL_law_746 ?_
      refine lv_topi (fun x_244 ex_244 => ?_)
      obtain rfl : p1 = x_244 := (ex_244.trans hp1).symm
      have hPc := hP.sub (ws' := [(q_2, .inr (6, fm))]) [4] rfl
      refine k_V (ci := 6) (q0 := 0) (tc := []) ⟨hx, hb, hml, hown, hts⟩ (b_X6_refund l dC dI q_2 fm p1 hm5 hm9 hm25) 1 wm_340 wm_341 wm_342 wm_6 wm_343 (by decide +kernel) ⟨Nat.le_of_ble_eq_true rfl, Nat.le_of_ble_eq_true rfl⟩ hPc (hK.sub (tys' := []) [] rfl) rfl rfl rfl hl.1 rfl (Nat.le_of_ble_eq_true rfl) dL_law_747 ⟨Nat.le_of_ble_eq_true rfl, Nat.le_of_ble_eq_true rfl⟩ hS hP (fun r_245 H locs hpr_245 hP hS => ?_)
      subst hpr_245
      refine lv_icmp_eq (tgt := 890) hx hb dL_law_750 (by decide) (fun _ => ?_) (fun h9 => absurd (by decide) h9)
      refine lv_iinc (v := 4) (lv' := [(3, .int 4), (2, .ref q_2), (1, .ref q_1), (0, .ref b)]) hx hb dL_law_890 hl (k := 0) rfl (by decide) (by decide) rfl (fun ls hl => ?_)
      refine lv_goto (tgt := 18) hx hb dL_law_893 (by decide) ?_
      refine lv_iload_n hx hb dL_law_18 rfl (lv_at hl 0 rfl) ?_
      refine lv_aload_n hx hb dL_law_19 rfl (lv_at hl 3 rfl) ?_
      refine va_slen hx hb hX hbl hbA hS dL_law_20 ?_
      refine lv_topi (fun x_246 ex_246 => ?_)
      obtain rfl : x_246 = 4 := ex_246.trans (by decide)
      refine lv_iconst (v := 4) hx hb dL_law_21 (by decide) ?_
      refine lv_isub hx hb dL_law_22 ?_
      refine lv_topi (fun x_247 ex_247 => ?_)
      obtain rfl : x_247 = 0 := ex_247.trans (by decide)
      refine lv_icmp_gt (tgt := 896) hx hb dL_law_23 (by decide) (fun _ => ?_) (fun h9 => absurd (by decide) h9)
      refine lv_iconst (v := 1) hx hb dL_law_896 (by decide) ?_
      refine va_forget (fun q hq => by have h9 := hS.2.2 q hq; rw [hAe] at h9; exact h9) ?_
      refine W.widen (k := 600000) (n := 7302249) (Nat.le_of_ble_eq_true rfl) (Nat.le_of_ble_eq_true rfl) ?_
      exact lw_ret hx hb hr hlocks dL_law_897
    · skip
      refine lv_tableIn (off := 723) (tgt := 755) hx hb dL_law_32 (by decide) (by decide) rfl (by decide) ?_
      refine lv_aload_n hx hb dL_law_755 rfl (lv_at hl 2 rfl) ?_
      refine lv_aload_n hx hb dL_law_756 rfl (lv_at hl 3 rfl) ?_
      refine lv_iload_n hx hb dL_law_757 rfl (lv_at hl 0 rfl) ?_
      refine lv_iconst (v := 1) hx hb dL_law_758 (by decide) ?_
      refine lv_iadd hx hb dL_law_759 ?_
      refine lv_topi (fun x_248 ex_248 => ?_)
      obtain rfl : x_248 = 1 := ex_248.trans (by decide)
      refine va_sld hx hb hX hbl hbA hS (vp_in_iff.mpr (by decide)) dL_law_760 ?_
      refine lv_topi (fun x_249 ex_249 => ?_)
      obtain rfl : p1 = x_249 := (ex_249.trans hp1).symm
      refine lv_aload_n hx hb dL_law_761 rfl (lv_at hl 3 rfl) ?_
      refine lv_iload_n hx hb dL_law_762 rfl (lv_at hl 0 rfl) ?_
      refine lv_iconst (v := 2) hx hb dL_law_763 (by decide) ?_
      refine lv_iadd hx hb dL_law_764 ?_
      refine lv_topi (fun x_250 ex_250 => ?_)
      obtain rfl : x_250 = 2 := ex_250.trans (by decide)
      refine va_sld hx hb hX hbl hbA hS (vp_in_iff.mpr (by decide)) dL_law_765 ?_
      refine lv_topi (fun x_251 ex_251 => ?_)
      obtain rfl : p2 = x_251 := (ex_251.trans hp2).symm
      have hPc := hP.sub (ws' := [(q_1, .inr (5, fc))]) [0] rfl
      refine k_V (ci := 5) (q0 := 0) (tc := []) ⟨hx, hb, hml, hown, hts⟩ (b_X5_told l dC dI q_1 fc p1 p2 hc7 hc8 hc9) 2 wm_344 wm_345 wm_346 wm_2 wm_347 (by decide +kernel) ⟨Nat.le_of_ble_eq_true rfl, Nat.le_of_ble_eq_true rfl⟩ hPc (hK.sub (tys' := []) [] rfl) rfl rfl rfl hl.1 rfl (Nat.le_of_ble_eq_true rfl) dL_law_766 ⟨Nat.le_of_ble_eq_true rfl, Nat.le_of_ble_eq_true rfl⟩ hS hP (fun r_252 H locs hpr_252 hP hS => ?_)
      subst hpr_252
      refine lv_aload_n hx hb dL_law_769 rfl (lv_at hl 1 rfl) ?_
      refine lv_aload_n hx hb dL_law_770 rfl (lv_at hl 3 rfl) ?_
      refine lv_iload_n hx hb dL_law_771 rfl (lv_at hl 0 rfl) ?_
      refine lv_iconst (v := 1) hx hb dL_law_772 (by decide) ?_
      refine lv_iadd hx hb dL_law_773 ?_
      refine lv_topi (fun x_253 ex_253 => ?_)
      obtain rfl : x_253 = 1 := ex_253.trans (by decide)
      refine va_sld hx hb hX hbl hbA hS (vp_in_iff.mpr (by decide)) dL_law_774 ?_
      refine lv_topi (fun x_254 ex_254 => ?_)
      obtain rfl : p1 = x_254 := (ex_254.trans hp1).symm
      refine lv_aload_n hx hb dL_law_775 rfl (lv_at hl 3 rfl) ?_
      refine lv_iload_n hx hb dL_law_776 rfl (lv_at hl 0 rfl) ?_
      refine lv_iconst (v := 2) hx hb dL_law_777 (by decide) ?_
      refine lv_iadd hx hb dL_law_778 ?_
      refine lv_topi (fun x_255 ex_255 => ?_)
      obtain rfl : x_255 = 2 := ex_255.trans (by decide)
      refine va_sld hx hb hX hbl hbA hS (vp_in_iff.mpr (by decide)) dL_law_779 ?_
      refine lv_topi (fun x_256 ex_256 => ?_)
      obtain rfl : p2 = x_256 := (ex_256.trans hp2).symm
      have hPc := hP.sub (ws' := [(q_2, .inr (6, fm))]) [4] rfl
      refine k_V (ci := 6) (q0 := 0) (tc := []) ⟨hx, hb, hml, hown, hts⟩ (b_X6_told l dC dI q_2 fm p1 p2 hm5 hm9 hm25) 2 wm_348 wm_349 wm_350 wm_6 wm_351 (by decide +kernel) ⟨Nat.le_of_ble_eq_true rfl, Nat.le_of_ble_eq_true rfl⟩ hPc (hK.sub (tys' := []) [] rfl) rfl rfl rfl hl.1 rfl (Nat.le_of_ble_eq_true rfl) dL_law_780 ⟨Nat.le_of_ble_eq_true rfl, Nat.le_of_ble_eq_true rfl⟩ hS hP (fun r_257 H locs hpr_257 hP hS => ?_)
      subst hpr_257
      refine lv_icmp_eq (tgt := 890) hx hb dL_law_783 (by decide) (fun _ => ?_) (fun h9 => absurd (by decide) h9)
      refine lv_iinc (v := 4) (lv' := [(3, .int 4), (2, .ref q_2), (1, .ref q_1), (0, .ref b)]) hx hb dL_law_890 hl (k := 0) rfl (by decide) (by decide) rfl (fun ls hl => ?_)
      refine lv_goto (tgt := 18) hx hb dL_law_893 (by decide) ?_
      refine lv_iload_n hx hb dL_law_18 rfl (lv_at hl 0 rfl) ?_
      refine lv_aload_n hx hb dL_law_19 rfl (lv_at hl 3 rfl) ?_
      refine va_slen hx hb hX hbl hbA hS dL_law_20 ?_
      refine lv_topi (fun x_258 ex_258 => ?_)
      obtain rfl : x_258 = 4 := ex_258.trans (by decide)
      refine lv_iconst (v := 4) hx hb dL_law_21 (by decide) ?_
      refine lv_isub hx hb dL_law_22 ?_
      refine lv_topi (fun x_259 ex_259 => ?_)
      obtain rfl : x_259 = 0 := ex_259.trans (by decide)
      refine lv_icmp_gt (tgt := 896) hx hb dL_law_23 (by decide) (fun _ => ?_) (fun h9 => absurd (by decide) h9)
      refine lv_iconst (v := 1) hx hb dL_law_896 (by decide) ?_
      refine va_forget (fun q hq => by have h9 := hS.2.2 q hq; rw [hAe] at h9; exact h9) ?_
      refine W.widen (k := 600000) (n := 7302249) (Nat.le_of_ble_eq_true rfl) (Nat.le_of_ble_eq_true rfl) ?_
      exact lw_ret hx hb hr hlocks dL_law_897
    · skip
      refine lv_tableIn (off := 756) (tgt := 788) hx hb dL_law_32 (by decide) (by decide) rfl (by decide) ?_
      refine lv_aload_n hx hb dL_law_788 rfl (lv_at hl 2 rfl) ?_
      refine lv_aload_n hx hb dL_law_789 rfl (lv_at hl 3 rfl) ?_
      refine lv_iload_n hx hb dL_law_790 rfl (lv_at hl 0 rfl) ?_
      refine lv_iconst (v := 1) hx hb dL_law_791 (by decide) ?_
      refine lv_iadd hx hb dL_law_792 ?_
      refine lv_topi (fun x_260 ex_260 => ?_)
      obtain rfl : x_260 = 1 := ex_260.trans (by decide)
      refine va_sld hx hb hX hbl hbA hS (vp_in_iff.mpr (by decide)) dL_law_793 ?_
      refine lv_topi (fun x_261 ex_261 => ?_)
      obtain rfl : p1 = x_261 := (ex_261.trans hp1).symm
      have hPc := hP.sub (ws' := [(q_1, .inr (5, fc))]) [0] rfl
      refine k_V (ci := 5) (q0 := 0) (tc := []) ⟨hx, hb, hml, hown, hts⟩ (b_X5_chance l dC dI q_1 fc p1 hc7 hc8 hc9) 1 wm_352 wm_353 wm_354 wm_2 wm_355 (by decide +kernel) ⟨Nat.le_of_ble_eq_true rfl, Nat.le_of_ble_eq_true rfl⟩ hPc (hK.sub (tys' := []) [] rfl) rfl rfl rfl hl.1 rfl (Nat.le_of_ble_eq_true rfl) dL_law_794 ⟨Nat.le_of_ble_eq_true rfl, Nat.le_of_ble_eq_true rfl⟩ hS hP (fun r_262 H locs hpr_262 hP hS => ?_)
      subst hpr_262
      refine lv_aload_n hx hb dL_law_797 rfl (lv_at hl 1 rfl) ?_
      refine lv_aload_n hx hb dL_law_798 rfl (lv_at hl 3 rfl) ?_
      refine lv_iload_n hx hb dL_law_799 rfl (lv_at hl 0 rfl) ?_
      refine lv_iconst (v := 1) hx hb dL_law_800 (by decide) ?_
      refine lv_iadd hx hb dL_law_801 ?_
      refine lv_topi (fun x_263 ex_263 => ?_)
      obtain rfl : x_263 = 1 := ex_263.trans (by decide)
      refine va_sld hx hb hX hbl hbA hS (vp_in_iff.mpr (by decide)) dL_law_802 ?_
      refine lv_topi (fun x_264 ex_264 => ?_)
      obtain rfl : p1 = x_264 := (ex_264.trans hp1).symm
      have hPc := hP.sub (ws' := [(q_2, .inr (6, fm))]) [4] rfl
      refine k_V (ci := 6) (q0 := 0) (tc := []) ⟨hx, hb, hml, hown, hts⟩ (b_X6_chance l dC dI q_2 fm p1 hm5 hm9 hm25) 1 wm_356 wm_357 wm_358 wm_6 wm_359 (by decide +kernel) ⟨Nat.le_of_ble_eq_true rfl, Nat.le_of_ble_eq_true rfl⟩ hPc (hK.sub (tys' := []) [] rfl) rfl rfl rfl hl.1 rfl (Nat.le_of_ble_eq_true rfl) dL_law_803 ⟨Nat.le_of_ble_eq_true rfl, Nat.le_of_ble_eq_true rfl⟩ hS hP (fun r_265 H locs hpr_265 hP hS => ?_)
      subst hpr_265
      refine lv_icmp_eq (tgt := 890) hx hb dL_law_806 (by decide) (fun _ => ?_) (fun h9 => absurd (by decide) h9)
      refine lv_iinc (v := 4) (lv' := [(3, .int 4), (2, .ref q_2), (1, .ref q_1), (0, .ref b)]) hx hb dL_law_890 hl (k := 0) rfl (by decide) (by decide) rfl (fun ls hl => ?_)
      refine lv_goto (tgt := 18) hx hb dL_law_893 (by decide) ?_
      refine lv_iload_n hx hb dL_law_18 rfl (lv_at hl 0 rfl) ?_
      refine lv_aload_n hx hb dL_law_19 rfl (lv_at hl 3 rfl) ?_
      refine va_slen hx hb hX hbl hbA hS dL_law_20 ?_
      refine lv_topi (fun x_266 ex_266 => ?_)
      obtain rfl : x_266 = 4 := ex_266.trans (by decide)
      refine lv_iconst (v := 4) hx hb dL_law_21 (by decide) ?_
      refine lv_isub hx hb dL_law_22 ?_
      refine lv_topi (fun x_267 ex_267 => ?_)
      obtain rfl : x_267 = 0 := ex_267.trans (by decide)
      refine lv_icmp_gt (tgt := 896) hx hb dL_law_23 (by decide) (fun _ => ?_) (fun h9 => absurd (by decide) h9)
      refine lv_iconst (v := 1) hx hb dL_law_896 (by decide) ?_
      refine va_forget (fun q hq => by have h9 := hS.2.2 q hq; rw [hAe] at h9; exact h9) ?_
      refine W.widen (k := 600000) (n := 7302249) (Nat.le_of_ble_eq_true rfl) (Nat.le_of_ble_eq_true rfl) ?_
      exact lw_ret hx hb hr hlocks dL_law_897
    · skip
      refine lv_tableIn (off := 779) (tgt := 811) hx hb dL_law_32 (by decide) (by decide) rfl (by decide) ?_
      refine lv_aload_n hx hb dL_law_811 rfl (lv_at hl 2 rfl) ?_
      refine lv_aload_n hx hb dL_law_812 rfl (lv_at hl 3 rfl) ?_
      refine lv_iload_n hx hb dL_law_813 rfl (lv_at hl 0 rfl) ?_
      refine lv_iconst (v := 1) hx hb dL_law_814 (by decide) ?_
      refine lv_iadd hx hb dL_law_815 ?_
      refine lv_topi (fun x_268 ex_268 => ?_)
      obtain rfl : x_268 = 1 := ex_268.trans (by decide)
      refine va_sld hx hb hX hbl hbA hS (vp_in_iff.mpr (by decide)) dL_law_816 ?_
      refine lv_topi (fun x_269 ex_269 => ?_)
      obtain rfl : p1 = x_269 := (ex_269.trans hp1).symm
      refine lv_aload_n hx hb dL_law_817 rfl (lv_at hl 3 rfl) ?_
      refine lv_iload_n hx hb dL_law_818 rfl (lv_at hl 0 rfl) ?_
      refine lv_iconst (v := 2) hx hb dL_law_819 (by decide) ?_
      refine lv_iadd hx hb dL_law_820 ?_
      refine lv_topi (fun x_270 ex_270 => ?_)
      obtain rfl : x_270 = 2 := ex_270.trans (by decide)
      refine va_sld hx hb hX hbl hbA hS (vp_in_iff.mpr (by decide)) dL_law_821 ?_
      refine lv_topi (fun x_271 ex_271 => ?_)
      obtain rfl : p2 = x_271 := (ex_271.trans hp2).symm
      have hPc := hP.sub (ws' := [(q_1, .inr (5, fc))]) [0] rfl
      refine k_V (ci := 5) (q0 := 0) (tc := []) ⟨hx, hb, hml, hown, hts⟩ (b_X5_draw l dC dI q_1 fc p1 p2 hc7 hc8 hc9) 2 wm_360 wm_361 wm_362 wm_2 wm_363 (by decide +kernel) ⟨Nat.le_of_ble_eq_true rfl, Nat.le_of_ble_eq_true rfl⟩ hPc (hK.sub (tys' := []) [] rfl) rfl rfl rfl hl.1 rfl (Nat.le_of_ble_eq_true rfl) dL_law_822 ⟨Nat.le_of_ble_eq_true rfl, Nat.le_of_ble_eq_true rfl⟩ hS hP (fun r_272 H locs hpr_272 hP hS => ?_)
      subst hpr_272
      refine lv_aload_n hx hb dL_law_825 rfl (lv_at hl 1 rfl) ?_
      refine lv_aload_n hx hb dL_law_826 rfl (lv_at hl 3 rfl) ?_
      refine lv_iload_n hx hb dL_law_827 rfl (lv_at hl 0 rfl) ?_
      refine lv_iconst (v := 1) hx hb dL_law_828 (by decide) ?_
      refine lv_iadd hx hb dL_law_829 ?_
      refine lv_topi (fun x_273 ex_273 => ?_)
      obtain rfl : x_273 = 1 := ex_273.trans (by decide)
      refine va_sld hx hb hX hbl hbA hS (vp_in_iff.mpr (by decide)) dL_law_830 ?_
      refine lv_topi (fun x_274 ex_274 => ?_)
      obtain rfl : p1 = x_274 := (ex_274.trans hp1).symm
      refine lv_aload_n hx hb dL_law_831 rfl (lv_at hl 3 rfl) ?_
      refine lv_iload_n hx hb dL_law_832 rfl (lv_at hl 0 rfl) ?_
      refine lv_iconst (v := 2) hx hb dL_law_833 (by decide) ?_
      refine lv_iadd hx hb dL_law_834 ?_
      refine lv_topi (fun x_275 ex_275 => ?_)
      obtain rfl : x_275 = 2 := ex_275.trans (by decide)
      refine va_sld hx hb hX hbl hbA hS (vp_in_iff.mpr (by decide)) dL_law_835 ?_
      refine lv_topi (fun x_276 ex_276 => ?_)
      obtain rfl : p2 = x_276 := (ex_276.trans hp2).symm
      have hPc := hP.sub (ws' := [(q_2, .inr (6, fm))]) [4] rfl
      refine k_V (ci := 6) (q0 := 0) (tc := []) ⟨hx, hb, hml, hown, hts⟩ (b_X6_draw l dC dI q_2 fm p1 p2 hm5 hm9 hm25) 2 wm_364 wm_365 wm_366 wm_6 wm_367 (by decide +kernel) ⟨Nat.le_of_ble_eq_true rfl, Nat.le_of_ble_eq_true rfl⟩ hPc (hK.sub (tys' := []) [] rfl) rfl rfl rfl hl.1 rfl (Nat.le_of_ble_eq_true rfl) dL_law_836 ⟨Nat.le_of_ble_eq_true rfl, Nat.le_of_ble_eq_true rfl⟩ hS hP (fun r_277 H locs hpr_277 hP hS => ?_)
      subst hpr_277
      refine lv_icmp_eq (tgt := 890) hx hb dL_law_839 (by decide) (fun _ => ?_) (fun h9 => absurd (by decide) h9)
      refine lv_iinc (v := 4) (lv' := [(3, .int 4), (2, .ref q_2), (1, .ref q_1), (0, .ref b)]) hx hb dL_law_890 hl (k := 0) rfl (by decide) (by decide) rfl (fun ls hl => ?_)
      refine lv_goto (tgt := 18) hx hb dL_law_893 (by decide) ?_
      refine lv_iload_n hx hb dL_law_18 rfl (lv_at hl 0 rfl) ?_
      refine lv_aload_n hx hb dL_law_19 rfl (lv_at hl 3 rfl) ?_
      refine va_slen hx hb hX hbl hbA hS dL_law_20 ?_
      refine lv_topi (fun x_278 ex_278 => ?_)
      obtain rfl : x_278 = 4 := ex_278.trans (by decide)
      refine lv_iconst (v := 4) hx hb dL_law_21 (by decide) ?_
      refine lv_isub hx hb dL_law_22 ?_
      refine lv_topi (fun x_279 ex_279 => ?_)
      obtain rfl : x_279 = 0 := ex_279.trans (by decide)
      refine lv_icmp_gt (tgt := 896) hx hb dL_law_23 (by decide) (fun _ => ?_) (fun h9 => absurd (by decide) h9)
      refine lv_iconst (v := 1) hx hb dL_law_896 (by decide) ?_
      refine va_forget (fun q hq => by have h9 := hS.2.2 q hq; rw [hAe] at h9; exact h9) ?_
      refine W.widen (k := 600000) (n := 7302249) (Nat.le_of_ble_eq_true rfl) (Nat.le_of_ble_eq_true rfl) ?_
      exact lw_ret hx hb hr hlocks dL_law_897
    · skip
      refine lv_tableIn (off := 812) (tgt := 844) hx hb dL_law_32 (by decide) (by decide) rfl (by decide) ?_
      refine lv_aload_n hx hb dL_law_844 rfl (lv_at hl 2 rfl) ?_
      refine lv_aload_n hx hb dL_law_845 rfl (lv_at hl 3 rfl) ?_
      refine lv_iload_n hx hb dL_law_846 rfl (lv_at hl 0 rfl) ?_
      refine lv_iconst (v := 1) hx hb dL_law_847 (by decide) ?_
      refine lv_iadd hx hb dL_law_848 ?_
      refine lv_topi (fun x_280 ex_280 => ?_)
      obtain rfl : x_280 = 1 := ex_280.trans (by decide)
      refine va_sld hx hb hX hbl hbA hS (vp_in_iff.mpr (by decide)) dL_law_849 ?_
      refine lv_topi (fun x_281 ex_281 => ?_)
      obtain rfl : p1 = x_281 := (ex_281.trans hp1).symm
      have hPc := hP.sub (ws' := [(q_1, .inr (5, fc))]) [0] rfl
      refine k_V (ci := 5) (q0 := 0) (tc := []) ⟨hx, hb, hml, hown, hts⟩ (b_X5_income l dC dI q_1 fc p1 hc7 hc8 hc9) 1 wm_368 wm_369 wm_370 wm_2 wm_371 (by decide +kernel) ⟨Nat.le_of_ble_eq_true rfl, Nat.le_of_ble_eq_true rfl⟩ hPc (hK.sub (tys' := []) [] rfl) rfl rfl rfl hl.1 rfl (Nat.le_of_ble_eq_true rfl) dL_law_850 ⟨Nat.le_of_ble_eq_true rfl, Nat.le_of_ble_eq_true rfl⟩ hS hP (fun r_282 H locs hpr_282 hP hS => ?_)
      subst hpr_282
      refine lv_aload_n hx hb dL_law_853 rfl (lv_at hl 1 rfl) ?_
      refine lv_aload_n hx hb dL_law_854 rfl (lv_at hl 3 rfl) ?_
      refine lv_iload_n hx hb dL_law_855 rfl (lv_at hl 0 rfl) ?_
      refine lv_iconst (v := 1) hx hb dL_law_856 (by decide) ?_
      refine lv_iadd hx hb dL_law_857 ?_
      refine lv_topi (fun x_283 ex_283 => ?_)
      obtain rfl : x_283 = 1 := ex_283.trans (by decide)
      refine va_sld hx hb hX hbl hbA hS (vp_in_iff.mpr (by decide)) dL_law_858 ?_
      refine lv_topi (fun x_284 ex_284 => ?_)
      obtain rfl : p1 = x_284 := (ex_284.trans hp1).symm
      have hPc := hP.sub (ws' := [(q_2, .inr (6, fm))]) [4] rfl
      refine k_V (ci := 6) (q0 := 0) (tc := []) ⟨hx, hb, hml, hown, hts⟩ (b_X6_income l dC dI q_2 fm p1 hm5 hm9 hm25) 1 wm_372 wm_373 wm_374 wm_6 wm_375 (by decide +kernel) ⟨Nat.le_of_ble_eq_true rfl, Nat.le_of_ble_eq_true rfl⟩ hPc (hK.sub (tys' := []) [] rfl) rfl rfl rfl hl.1 rfl (Nat.le_of_ble_eq_true rfl) dL_law_859 ⟨Nat.le_of_ble_eq_true rfl, Nat.le_of_ble_eq_true rfl⟩ hS hP (fun r_285 H locs hpr_285 hP hS => ?_)
      subst hpr_285
      refine lv_icmp_eq (tgt := 890) hx hb dL_law_862 (by decide) (fun _ => ?_) (fun h9 => absurd (by decide) h9)
      refine lv_iinc (v := 4) (lv' := [(3, .int 4), (2, .ref q_2), (1, .ref q_1), (0, .ref b)]) hx hb dL_law_890 hl (k := 0) rfl (by decide) (by decide) rfl (fun ls hl => ?_)
      refine lv_goto (tgt := 18) hx hb dL_law_893 (by decide) ?_
      refine lv_iload_n hx hb dL_law_18 rfl (lv_at hl 0 rfl) ?_
      refine lv_aload_n hx hb dL_law_19 rfl (lv_at hl 3 rfl) ?_
      refine va_slen hx hb hX hbl hbA hS dL_law_20 ?_
      refine lv_topi (fun x_286 ex_286 => ?_)
      obtain rfl : x_286 = 4 := ex_286.trans (by decide)
      refine lv_iconst (v := 4) hx hb dL_law_21 (by decide) ?_
      refine lv_isub hx hb dL_law_22 ?_
      refine lv_topi (fun x_287 ex_287 => ?_)
      obtain rfl : x_287 = 0 := ex_287.trans (by decide)
      refine lv_icmp_gt (tgt := 896) hx hb dL_law_23 (by decide) (fun _ => ?_) (fun h9 => absurd (by decide) h9)
      refine lv_iconst (v := 1) hx hb dL_law_896 (by decide) ?_
      refine va_forget (fun q hq => by have h9 := hS.2.2 q hq; rw [hAe] at h9; exact h9) ?_
      refine W.widen (k := 600000) (n := 7302249) (Nat.le_of_ble_eq_true rfl) (Nat.le_of_ble_eq_true rfl) ?_
      exact lw_ret hx hb hr hlocks dL_law_897
    · skip
      refine lv_tableIn (off := 835) (tgt := 867) hx hb dL_law_32 (by decide) (by decide) rfl (by decide) ?_
      refine lv_aload_n hx hb dL_law_867 rfl (lv_at hl 2 rfl) ?_
      refine lv_aload_n hx hb dL_law_868 rfl (lv_at hl 3 rfl) ?_
      refine lv_iload_n hx hb dL_law_869 rfl (lv_at hl 0 rfl) ?_
      refine lv_iconst (v := 1) hx hb dL_law_870 (by decide) ?_
      refine lv_iadd hx hb dL_law_871 ?_
      refine lv_topi (fun x_288 ex_288 => ?_)
      obtain rfl : x_288 = 1 := ex_288.trans (by decide)
      refine va_sld hx hb hX hbl hbA hS (vp_in_iff.mpr (by decide)) dL_law_872 ?_
      refine lv_topi (fun x_289 ex_289 => ?_)
      obtain rfl : p1 = x_289 := (ex_289.trans hp1).symm
      have hPc := hP.sub (ws' := [(q_1, .inr (5, fc))]) [0] rfl
      refine k_V (ci := 5) (q0 := 0) (tc := []) ⟨hx, hb, hml, hown, hts⟩ (f_count l dC dI q_1 fc p1 hc7 hc8 hc9 hc12 hc10 hc11) 1 wm_376 wm_377 wm_378 wm_2 wm_379 (by decide +kernel) ⟨Nat.le_of_ble_eq_true rfl, Nat.le_of_ble_eq_true rfl⟩ hPc (hK.sub (tys' := []) [] rfl) rfl rfl rfl hl.1 rfl (Nat.le_of_ble_eq_true rfl) dL_law_873 ⟨Nat.le_of_ble_eq_true rfl, Nat.le_of_ble_eq_true rfl⟩ hS hP (fun r_290 H locs hpr_290 hP hS => ?_)
      refine lv_aload_n hx hb dL_law_876 rfl (lv_at hl 1 rfl) ?_
      refine lv_aload_n hx hb dL_law_877 rfl (lv_at hl 3 rfl) ?_
      refine lv_iload_n hx hb dL_law_878 rfl (lv_at hl 0 rfl) ?_
      refine lv_iconst (v := 1) hx hb dL_law_879 (by decide) ?_
      refine lv_iadd hx hb dL_law_880 ?_
      refine lv_topi (fun x_291 ex_291 => ?_)
      obtain rfl : x_291 = 1 := ex_291.trans (by decide)
      refine va_sld hx hb hX hbl hbA hS (vp_in_iff.mpr (by decide)) dL_law_881 ?_
      refine lv_topi (fun x_292 ex_292 => ?_)
      obtain rfl : p1 = x_292 := (ex_292.trans hp1).symm
      have hPc := hP.sub (ws' := [(q_2, .inr (6, fm))]) [4] rfl
      refine k_V (ci := 6) (q0 := 0) (tc := []) ⟨hx, hb, hml, hown, hts⟩ (f_mcount l dC dI q_2 fm p1 hm5 hm9 hm25 hm1) 1 wm_380 wm_381 wm_382 wm_6 wm_383 (by decide +kernel) ⟨Nat.le_of_ble_eq_true rfl, Nat.le_of_ble_eq_true rfl⟩ hPc (hK.sub (tys' := []) [] rfl) rfl rfl rfl hl.1 rfl (Nat.le_of_ble_eq_true rfl) dL_law_882 ⟨Nat.le_of_ble_eq_true rfl, Nat.le_of_ble_eq_true rfl⟩ hS hP (fun r_293 H locs hpr_293 hP hS => ?_)
      refine lv_icmp_eq (tgt := 890) hx hb dL_law_885 (by decide) (fun c_294 => ?_) (fun c_294 => ?_)
      · skip
        refine lv_iinc (v := 4) (lv' := [(3, .int 4), (2, .ref q_2), (1, .ref q_1), (0, .ref b)]) hx hb dL_law_890 hl (k := 0) rfl (by decide) (by decide) rfl (fun ls hl => ?_)
        refine lv_goto (tgt := 18) hx hb dL_law_893 (by decide) ?_
        refine lv_iload_n hx hb dL_law_18 rfl (lv_at hl 0 rfl) ?_
        refine lv_aload_n hx hb dL_law_19 rfl (lv_at hl 3 rfl) ?_
        refine va_slen hx hb hX hbl hbA hS dL_law_20 ?_
        refine lv_topi (fun x_295 ex_295 => ?_)
        obtain rfl : x_295 = 4 := ex_295.trans (by decide)
        refine lv_iconst (v := 4) hx hb dL_law_21 (by decide) ?_
        refine lv_isub hx hb dL_law_22 ?_
        refine lv_topi (fun x_296 ex_296 => ?_)
        obtain rfl : x_296 = 0 := ex_296.trans (by decide)
        refine lv_icmp_gt (tgt := 896) hx hb dL_law_23 (by decide) (fun _ => ?_) (fun h9 => absurd (by decide) h9)
        refine lv_iconst (v := 1) hx hb dL_law_896 (by decide) ?_
        refine va_forget (fun q hq => by have h9 := hS.2.2 q hq; rw [hAe] at h9; exact h9) ?_
        refine W.widen (k := 600000) (n := 7302249) (Nat.le_of_ble_eq_true rfl) (Nat.le_of_ble_eq_true rfl) ?_
        exact lw_ret hx hb hr hlocks dL_law_897
      · skip
        exact absurd (hpr_290.trans hpr_293.symm) c_294
