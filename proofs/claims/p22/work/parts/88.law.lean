theorem lz_0 (i : Nat) {w : Cond} (h : (k2_sels lw_privs)[i]? = some w) : w ∈ lw_tbl := List.mem_append_left _ (List.mem_of_getElem? h)
theorem lz_1 (i : Nat) {w : Cond} (h : tables_1_1[i]? = some w) : w ∈ lw_tbl := List.mem_append_right _ (List.mem_append_left _ (List.mem_of_getElem? h))
theorem lz_2 (i : Nat) {w : Cond} (h : tables_1_2[i]? = some w) : w ∈ lw_tbl := List.mem_append_right _ (List.mem_append_right _ (List.mem_append_left _ (List.mem_of_getElem? h)))
theorem lz_3 (i : Nat) {w : Cond} (h : tables_1_3[i]? = some w) : w ∈ lw_tbl := List.mem_append_right _ (List.mem_append_right _ (List.mem_append_right _ (List.mem_append_left _ (List.mem_of_getElem? h))))
theorem lz_4 (i : Nat) {w : Cond} (h : tables_1_4[i]? = some w) : w ∈ lw_tbl := List.mem_append_right _ (List.mem_append_right _ (List.mem_append_right _ (List.mem_append_right _ (List.mem_append_left _ (List.mem_of_getElem? h)))))
theorem lz_5 (i : Nat) {w : Cond} (h : tables_1_5[i]? = some w) : w ∈ lw_tbl := List.mem_append_right _ (List.mem_append_right _ (List.mem_append_right _ (List.mem_append_right _ (List.mem_append_right _ (List.mem_of_getElem? h)))))
theorem va_P_l {D : va_G} {cl : List vw_C} {ws ws2 : va_W} {H : Heap} (h : va_P D cl (ws ++ ws2) H) : va_P D cl ws H := fun k q hq => h k q (by rw [List.getElem?_append_left (List.getElem?_eq_some_iff.mp hq).1]; exact hq)
theorem va_P_r {D : va_G} {cl : List vw_C} {ws ws2 : va_W} {H : Heap} (h : va_P D cl (ws ++ ws2) H) : va_P D cl ws2 H := fun k q hq => h (ws.length + k) q (by rw [List.getElem?_append_right (Nat.le_add_right _ _), Nat.add_sub_cancel_left]; exact hq)
theorem va_D_l {A : Nat → Prop} {ws ws2 : va_W} (h : va_D A (ws ++ ws2)) : va_D A ws := ⟨fun i j x y hi hj e => h.1 i j x y (by rw [List.getElem?_append_left (List.getElem?_eq_some_iff.mp hi).1]; exact hi) (by rw [List.getElem?_append_left (List.getElem?_eq_some_iff.mp hj).1]; exact hj) e, fun k q hq => h.2 k q (by rw [List.getElem?_append_left (List.getElem?_eq_some_iff.mp hq).1]; exact hq)⟩
theorem va_D_r {A : Nat → Prop} {ws ws2 : va_W} (h : va_D A (ws ++ ws2)) : va_D A ws2 := ⟨fun i j x y hi hj e => by
    have := h.1 (ws.length + i) (ws.length + j) x y (by rw [List.getElem?_append_right (Nat.le_add_right _ _), Nat.add_sub_cancel_left]; exact hi) (by rw [List.getElem?_append_right (Nat.le_add_right _ _), Nat.add_sub_cancel_left]; exact hj) e
    omega, fun k q hq => h.2 (ws.length + k) q (by rw [List.getElem?_append_right (Nat.le_add_right _ _), Nat.add_sub_cancel_left]; exact hq)⟩
theorem va_D_x {A : Nat → Prop} {ws ws2 : va_W} (h : va_D A (ws ++ ws2)) {i j : Nat} {x y : Nat × va_E} (hi : ws[i]? = some x) (hj : ws2[j]? = some y) : ¬ x.1 = y.1 := fun e => by
  have hl := (List.getElem?_eq_some_iff.mp hi).1
  have := h.1 i (ws.length + j) x y (by rw [List.getElem?_append_left hl]; exact hi) (by rw [List.getElem?_append_right (Nat.le_add_right _ _), Nat.add_sub_cancel_left]; exact hj) e
  omega
theorem k_hd {N0 j : Nat} {x : Int32} (hN : N0 ≤ 2048) (hj : j ≤ 512) (ex : x = nI N0 - nI 4) (h : ¬ x < nI (4 * j)) : 4 * j + 4 ≤ N0 := by
  have h1 : x.toInt = (N0 : Int) - 4 := by rw [ex]; exact pk_sub_toInt (by omega) (by omega)
  have h2 : (nI (4 * j)).toInt = ((4 * j : Nat) : Int) := nI_toInt (by omega)
  have h3 : ¬ x.toInt < (nI (4 * j)).toInt := fun q => h (Int32.lt_iff_toInt_lt.mpr q)
  rw [h1, h2] at h3
  omega
set_option maxHeartbeats 40000000 in
set_option maxRecDepth 100000 in
theorem whole_start {p : Program} {e : Env} {s : State} {m : MethodId} {below : List Frame} {meth : Method} {c : Code} (l : Launch) {b N0 : Nat} {xs : Nat → Int32} (hL : N0 ≤ 2048) (C0 : lw_At p s m meth c b N0 xs) : W p l e room_1 s m #[Value.ref b] below meth c s.heap [] 0 0 (lw_Z below #[Value.ref b] s) (entryFrame m ([Value.ref b] : List Value).toArray 4) := by
  obtain ⟨hx, hb, hr, hml, hown, hts0, hX, hbl, hlocks, hgv⟩ := C0
  have hts : ∀ w ∈ lw_B, w.before _ s = true := fun w h => hts0 w (List.mem_filter.mp h).1
  have hown : s.vm.findClass RL = some m.cls := hown
  obtain ⟨A, hAe⟩ : ∃ A : Nat → Prop, A = (fun q => s.heap.size ≤ q) := ⟨_, rfl⟩
  have hA : ∀ q : Nat, s.heap.size ≤ q → A q := fun q h => by rw [hAe]; exact h
  have hbA : ¬ A b := by rw [hAe]; exact Nat.not_le.mpr hbl
  obtain ⟨c0, iS0, hKn0⟩ := u_known (C := RX0) (T := TX0) (N := 16) (n := 16) hts uB0 (hts _ wm_500)
  obtain ⟨c1, iS1, hKn1⟩ := u_known (C := RX1) (T := TX1) (N := 9) (n := 9) hts uB1 (hts _ wm_532)
  obtain ⟨c2, iS2, hKn2⟩ := u_known (C := RX2) (T := TX2) (N := 4) (n := 4) hts uB2 (hts _ wm_485)
  obtain ⟨c3, iS3, hKn3⟩ := u_known (C := RX3) (T := TX3) (N := 12) (n := 12) hts uB3 (hts _ wm_505)
  obtain ⟨c4, iS4, hKn4⟩ := u_known (C := RX4) (T := TX4) (N := 8) (n := 8) hts uB4 (hts _ wm_476)
  obtain ⟨c5, iS5, hKn5⟩ := u_known (C := RX5) (T := TX5) (N := 17) (n := 17) hts uB5 (hts _ wm_537)
  obtain ⟨c6, iS6, hKn6⟩ := u_known (C := RX6) (T := TX6) (N := 51) (n := 51) hts uB6 (hts _ wm_538)
  obtain ⟨dC, dI, hKc⟩ : ∃ (dC : Nat → ClassId) (dI : Nat → Nat → Nat), ∀ (k : Nat) (q : vw_C), vwCl[k]? = some q → u_Kn s q.1 q.2.1 q.2.2 (dC k) (dI k) := by
    refine ⟨fun k => if k = 0 then c0 else if k = 1 then c1 else if k = 2 then c2 else if k = 3 then c3 else if k = 4 then c4 else if k = 5 then c5 else c6, fun k => if k = 0 then iS0 else if k = 1 then iS1 else if k = 2 then iS2 else if k = 3 then iS3 else if k = 4 then iS4 else if k = 5 then iS5 else iS6, ?_⟩
    intro k q hq
    match k, hq with
    | 0, hq => cases hq; exact hKn0
    | 1, hq => cases hq; exact hKn1
    | 2, hq => cases hq; exact hKn2
    | 3, hq => cases hq; exact hKn3
    | 4, hq => cases hq; exact hKn4
    | 5, hq => cases hq; exact hKn5
    | 6, hq => cases hq; exact hKn6
    | k + 7, hq => simp [vwCl] at hq
  clear hKn0 hKn1 hKn2 hKn3 hKn4 hKn5 hKn6
  have hS : va_S A s.heap s.heap [] := va_S.rf
  have hP : va_P (dC, dI) vwCl [] s.heap := fun k q h => by simp at h
  have hD : va_D A [] := ⟨fun i j p q h => by simp at h, fun k q h => by simp at h⟩
  have hexC : exC s := ⟨va_AO.of (hts0 (.arrayOver (.object RX2)) (lz_1 18 (by decide +kernel))), va_AO.of (hts0 (.arrayOver (.object RX0)) (lz_1 20 (by decide +kernel))), va_AO.of (hts0 (.arrayOver (.object RX3)) (lz_1 22 (by decide +kernel))), ⟨aoA_of (hts0 (.arrayOver (.array .long)) (lz_1 30 (by decide +kernel))), aoA_of (hts0 (.arrayOver (.array .int)) (lz_1 32 (by decide +kernel)))⟩, va_Nw.of rfl (hts0 (.methodLinkNest RX5 33 yX1_init "NoticeMarket") (lz_1 25 (by decide +kernel)))⟩
  have hn0 : va_Nw (.methodLinkNest RX0 11 yX4_init "NoticeMarket") s := va_Nw.of rfl (hts0 (.methodLinkNest RX0 11 yX4_init "NoticeMarket") (lz_1 176 (by decide +kernel)))
  obtain ⟨K, hK⟩ := K_all hKc (hts _ wm_470) (hts _ wm_528) (hts _ wm_536) hexC
  have hl := lv_entry ([.ref b]) (n := 4) (Nat.le_of_ble_eq_true rfl)
  rw [lg_entry_eq]
  generalize (lg_sl ([.ref b]) ++ List.replicate (4 - (lg_sl ([.ref b])).length) Slot.unset).toArray = ls at hl ⊢
  have hl : lv_has ls 4 [(0, .ref b)] := hl
  refine va_new (ci := 5) (fs := [.null, .null, .null, .null, .null, .null, .null, .int 0, .int 0, .int 0, .int 0, .int 0, .int 0, .int 0, .int 0, .int 0, .int 0]) (C := RX5) (T := TX5) (N := 17) hx hb hts uB5 tyX5 tyX5_ok hown (hts _ wm_539) (hts _ wm_537) (hts _ wm_67) hK hP hD hS hA rfl (by decide +kernel) (Nat.le_of_ble_eq_true rfl) (Nat.le_of_ble_eq_true rfl) dL_law_0 (fun h1 H hP hD hS => ?_)
  have hP : va_P (dC, dI) vwCl [(h1, .inr (5, [.null, .null, .null, .null, .null, .null, .null, .int 0, .int 0, .int 0, .int 0, .int 0, .int 0, .int 0, .int 0, .int 0, .int 0]))] H := hP
  have hD : va_D A [(h1, .inr (5, [.null, .null, .null, .null, .null, .null, .null, .int 0, .int 0, .int 0, .int 0, .int 0, .int 0, .int 0, .int 0, .int 0, .int 0]))] := hD
  refine lv_dup hx hb dL_law_3 rfl ?_
  refine k_Nk (ci := 5) (q0 := 0) (wr := []) (ex := exC) ⟨hx, hb, hml, hown, hts⟩ (n_Class l dC dI K H.size h1) 0 wm_540 wm_541 wm_67 wm_542 rfl (by decide +kernel) ⟨Nat.le_of_ble_eq_true rfl, Nat.le_of_ble_eq_true rfl⟩ hK (exC_ok hexC) rfl [] rfl (by decide) (by decide) rfl hl.1 rfl (Nat.le_of_ble_eq_true rfl) dL_law_4 ⟨Nat.le_of_ble_eq_true rfl, Nat.le_of_ble_eq_true rfl⟩ hP hD hS hA (fun u H locs hpu hP hD hS => ?_)
  obtain ⟨f, qp, qc, qs, qm, qg, qv, qr, fg, gc, gt, gw, go, ga⟩ := u
  obtain ⟨hfl, hy0, hy1, hy2, hy3, hy4, hy5, hy6, hy7, hy8, hy9, hy10, hy11, hy12, hy13, hy14, hy15, hy16, hgl, hz0, hz1, hz2, hz3, hz4, hz5, hz6, hz7, hz8⟩ := hpu
  have hP : va_P (dC, dI) vwCl [(h1, .inr (5, f)), (qp, .inl (K 3, 8, .inr (.inr (.inr (.inr (fun _ => none)))))), (qc, .inl (K 4, 40, .inr (.inr (.inr (.inr (fun _ => none)))))), (qs, .inl (K 5, 1000, .inr (.inr (.inr (.inr (fun _ => none)))))), (qm, .inl (K 0, 100, .inl (fun _ => 0))), (qg, .inr (1, fg)), (gc, .inl (K 0, 4, .inl (fun _ => 0))), (gt, .inl (K 0, 4, .inl (fun _ => 0))), (gw, .inl (K 6, 4, .inr (.inr (.inr (.inr (fun i => if i < 4 then some (gw + 1 + i) else none)))))), (gw + 1, .inl (K 1, 40, .inr (.inl (fun _ => 0)))), (gw + 2, .inl (K 1, 40, .inr (.inl (fun _ => 0)))), (gw + 3, .inl (K 1, 40, .inr (.inl (fun _ => 0)))), (gw + 4, .inl (K 1, 40, .inr (.inl (fun _ => 0)))), (go, .inl (K 7, 4, .inr (.inr (.inr (.inr (fun i => if i < 4 then some (go + 1 + i) else none)))))), (go + 1, .inl (K 0, 40, .inl (fun _ => 0))), (go + 2, .inl (K 0, 40, .inl (fun _ => 0))), (go + 3, .inl (K 0, 40, .inl (fun _ => 0))), (go + 4, .inl (K 0, 40, .inl (fun _ => 0))), (ga, .inl (K 1, 40, .inr (.inl (fun _ => 0)))), (qv, .inl (K 0, 4, .inl (fun _ => 0))), (qr, .inl (K 0, 4, .inl (fun _ => 0)))] H := hP
  have hD : va_D A [(h1, .inr (5, f)), (qp, .inl (K 3, 8, .inr (.inr (.inr (.inr (fun _ => none)))))), (qc, .inl (K 4, 40, .inr (.inr (.inr (.inr (fun _ => none)))))), (qs, .inl (K 5, 1000, .inr (.inr (.inr (.inr (fun _ => none)))))), (qm, .inl (K 0, 100, .inl (fun _ => 0))), (qg, .inr (1, fg)), (gc, .inl (K 0, 4, .inl (fun _ => 0))), (gt, .inl (K 0, 4, .inl (fun _ => 0))), (gw, .inl (K 6, 4, .inr (.inr (.inr (.inr (fun i => if i < 4 then some (gw + 1 + i) else none)))))), (gw + 1, .inl (K 1, 40, .inr (.inl (fun _ => 0)))), (gw + 2, .inl (K 1, 40, .inr (.inl (fun _ => 0)))), (gw + 3, .inl (K 1, 40, .inr (.inl (fun _ => 0)))), (gw + 4, .inl (K 1, 40, .inr (.inl (fun _ => 0)))), (go, .inl (K 7, 4, .inr (.inr (.inr (.inr (fun i => if i < 4 then some (go + 1 + i) else none)))))), (go + 1, .inl (K 0, 40, .inl (fun _ => 0))), (go + 2, .inl (K 0, 40, .inl (fun _ => 0))), (go + 3, .inl (K 0, 40, .inl (fun _ => 0))), (go + 4, .inl (K 0, 40, .inl (fun _ => 0))), (ga, .inl (K 1, 40, .inr (.inl (fun _ => 0)))), (qv, .inl (K 0, 4, .inl (fun _ => 0))), (qr, .inl (K 0, 4, .inl (fun _ => 0)))] := hD
  refine lv_astore_n (lv' := [(1, .ref h1), (0, .ref b)]) hx hb dL_law_7 rfl hl (by decide) rfl (fun ls hl => ?_)
  refine va_new (ci := 6) (fs := [.int 0, .int 0, .int 0, .int 0, .int 0, .int 0, .null, .null, .null, .int 0, .null, .null, .null, .null, .null, .null, .null, .null, .null, .null, .null, .null, .null, .null, .null, .int 0, .null, .null, .null, .null, .null, .null, .null, .null, .null, .int 0, .null, .null, .null, .int 0, .null, .null, .null, .long 0, .int 0, .int 0, .null, .null, .null, .null, .null]) (C := RX6) (T := TX6) (N := 51) hx hb hts uB6 tyX6 tyX6_ok hown (hts _ wm_543) (hts _ wm_538) (hts _ wm_8) hK hP hD hS hA rfl (by decide +kernel) (Nat.le_of_ble_eq_true rfl) (Nat.le_of_ble_eq_true rfl) dL_law_8 (fun h2 H hP hD hS => ?_)
  have hP : va_P (dC, dI) vwCl [(h1, .inr (5, f)), (qp, .inl (K 3, 8, .inr (.inr (.inr (.inr (fun _ => none)))))), (qc, .inl (K 4, 40, .inr (.inr (.inr (.inr (fun _ => none)))))), (qs, .inl (K 5, 1000, .inr (.inr (.inr (.inr (fun _ => none)))))), (qm, .inl (K 0, 100, .inl (fun _ => 0))), (qg, .inr (1, fg)), (gc, .inl (K 0, 4, .inl (fun _ => 0))), (gt, .inl (K 0, 4, .inl (fun _ => 0))), (gw, .inl (K 6, 4, .inr (.inr (.inr (.inr (fun i => if i < 4 then some (gw + 1 + i) else none)))))), (gw + 1, .inl (K 1, 40, .inr (.inl (fun _ => 0)))), (gw + 2, .inl (K 1, 40, .inr (.inl (fun _ => 0)))), (gw + 3, .inl (K 1, 40, .inr (.inl (fun _ => 0)))), (gw + 4, .inl (K 1, 40, .inr (.inl (fun _ => 0)))), (go, .inl (K 7, 4, .inr (.inr (.inr (.inr (fun i => if i < 4 then some (go + 1 + i) else none)))))), (go + 1, .inl (K 0, 40, .inl (fun _ => 0))), (go + 2, .inl (K 0, 40, .inl (fun _ => 0))), (go + 3, .inl (K 0, 40, .inl (fun _ => 0))), (go + 4, .inl (K 0, 40, .inl (fun _ => 0))), (ga, .inl (K 1, 40, .inr (.inl (fun _ => 0)))), (qv, .inl (K 0, 4, .inl (fun _ => 0))), (qr, .inl (K 0, 4, .inl (fun _ => 0))), (h2, .inr (6, [.int 0, .int 0, .int 0, .int 0, .int 0, .int 0, .null, .null, .null, .int 0, .null, .null, .null, .null, .null, .null, .null, .null, .null, .null, .null, .null, .null, .null, .null, .int 0, .null, .null, .null, .null, .null, .null, .null, .null, .null, .int 0, .null, .null, .null, .int 0, .null, .null, .null, .long 0, .int 0, .int 0, .null, .null, .null, .null, .null]))] H := hP
  have hD : va_D A [(h1, .inr (5, f)), (qp, .inl (K 3, 8, .inr (.inr (.inr (.inr (fun _ => none)))))), (qc, .inl (K 4, 40, .inr (.inr (.inr (.inr (fun _ => none)))))), (qs, .inl (K 5, 1000, .inr (.inr (.inr (.inr (fun _ => none)))))), (qm, .inl (K 0, 100, .inl (fun _ => 0))), (qg, .inr (1, fg)), (gc, .inl (K 0, 4, .inl (fun _ => 0))), (gt, .inl (K 0, 4, .inl (fun _ => 0))), (gw, .inl (K 6, 4, .inr (.inr (.inr (.inr (fun i => if i < 4 then some (gw + 1 + i) else none)))))), (gw + 1, .inl (K 1, 40, .inr (.inl (fun _ => 0)))), (gw + 2, .inl (K 1, 40, .inr (.inl (fun _ => 0)))), (gw + 3, .inl (K 1, 40, .inr (.inl (fun _ => 0)))), (gw + 4, .inl (K 1, 40, .inr (.inl (fun _ => 0)))), (go, .inl (K 7, 4, .inr (.inr (.inr (.inr (fun i => if i < 4 then some (go + 1 + i) else none)))))), (go + 1, .inl (K 0, 40, .inl (fun _ => 0))), (go + 2, .inl (K 0, 40, .inl (fun _ => 0))), (go + 3, .inl (K 0, 40, .inl (fun _ => 0))), (go + 4, .inl (K 0, 40, .inl (fun _ => 0))), (ga, .inl (K 1, 40, .inr (.inl (fun _ => 0)))), (qv, .inl (K 0, 4, .inl (fun _ => 0))), (qr, .inl (K 0, 4, .inl (fun _ => 0))), (h2, .inr (6, [.int 0, .int 0, .int 0, .int 0, .int 0, .int 0, .null, .null, .null, .int 0, .null, .null, .null, .null, .null, .null, .null, .null, .null, .null, .null, .null, .null, .null, .null, .int 0, .null, .null, .null, .null, .null, .null, .null, .null, .null, .int 0, .null, .null, .null, .int 0, .null, .null, .null, .long 0, .int 0, .int 0, .null, .null, .null, .null, .null]))] := hD
  refine lv_dup hx hb dL_law_11 rfl ?_
  refine k_Nk (ci := 6) (q0 := 21) (wr := [(h1, .inr (5, f)), (qp, .inl (K 3, 8, .inr (.inr (.inr (.inr (fun _ => none)))))), (qc, .inl (K 4, 40, .inr (.inr (.inr (.inr (fun _ => none)))))), (qs, .inl (K 5, 1000, .inr (.inr (.inr (.inr (fun _ => none)))))), (qm, .inl (K 0, 100, .inl (fun _ => 0))), (qg, .inr (1, fg)), (gc, .inl (K 0, 4, .inl (fun _ => 0))), (gt, .inl (K 0, 4, .inl (fun _ => 0))), (gw, .inl (K 6, 4, .inr (.inr (.inr (.inr (fun i => if i < 4 then some (gw + 1 + i) else none)))))), (gw + 1, .inl (K 1, 40, .inr (.inl (fun _ => 0)))), (gw + 2, .inl (K 1, 40, .inr (.inl (fun _ => 0)))), (gw + 3, .inl (K 1, 40, .inr (.inl (fun _ => 0)))), (gw + 4, .inl (K 1, 40, .inr (.inl (fun _ => 0)))), (go, .inl (K 7, 4, .inr (.inr (.inr (.inr (fun i => if i < 4 then some (go + 1 + i) else none)))))), (go + 1, .inl (K 0, 40, .inl (fun _ => 0))), (go + 2, .inl (K 0, 40, .inl (fun _ => 0))), (go + 3, .inl (K 0, 40, .inl (fun _ => 0))), (go + 4, .inl (K 0, 40, .inl (fun _ => 0))), (ga, .inl (K 1, 40, .inr (.inl (fun _ => 0)))), (qv, .inl (K 0, 4, .inl (fun _ => 0))), (qr, .inl (K 0, 4, .inl (fun _ => 0)))]) (ex := fun _ => True) ⟨hx, hb, hml, hown, hts⟩ (n_Model l dC dI K H.size h2) 0 wm_544 wm_545 wm_8 wm_546 rfl (by decide +kernel) ⟨Nat.le_of_ble_eq_true rfl, Nat.le_of_ble_eq_true rfl⟩ hK exT rfl [0, 1, 2, 3, 4, 5, 6, 7, 8, 9, 10, 11, 12, 13, 14, 15, 16, 17, 18, 19, 20] rfl (by decide) (by decide) rfl hl.1 rfl (Nat.le_of_ble_eq_true rfl) dL_law_12 ⟨Nat.le_of_ble_eq_true rfl, Nat.le_of_ble_eq_true rfl⟩ hP hD hS hA (fun rt H locs hrt hP hD hS => ?_)
  obtain ⟨L1, f1, kd, hP1, hLn1, hLA1, hE1, hm_h1, hk_h1, hI⟩ := cI_0 hfl hy0 hy1 hy2 hy3 hy4 hy5 hy6 hy7 hy8 hy9 hy10 hy11 hy12 hy13 hy14 hy15 hy16 hgl hz0 hz1 hz2 hz3 hz4 hz5 hz6 hz7 hz8 (va_P_l hP) (va_D_l hD)
  obtain ⟨L2, f2, hP2, hLn2, hLA2, hE2, hM⟩ := mI_0 hrt (va_P_r hP) (va_D_r hD)
  have hdis : ∀ a ∈ L2, a ∉ L1 := fun a h2 h3 => by
    obtain ⟨i, x, hi, rfl⟩ := hE1 a h3
    obtain ⟨j, y, hj, ey⟩ := hE2 _ h2
    exact va_D_x hD hi hj ey.symm
  clear hE1 hE2 hP hD hfl hy0 hy1 hy2 hy3 hy4 hy5 hy6 hy7 hy8 hy9 hy10 hy11 hy12 hy13 hy14 hy15 hy16 hgl hz0 hz1 hz2 hz3 hz4 hz5 hz6 hz7 hz8
  subst hrt
  refine lv_astore_n (lv' := [(2, .ref (rt 51)), (1, .ref h1), (0, .ref b)]) hx hb dL_law_15 rfl hl (by decide) rfl (fun ls hl => ?_)
  refine lv_iconst (v := 0) hx hb dL_law_16 (by decide) ?_
  refine lv_istore_n (lv' := [(3, .int 0), (2, .ref (rt 51)), (1, .ref h1), (0, .ref b)]) hx hb dL_law_17 rfl hl (by decide) rfl (fun ls hl => ?_)
  refine W.widen (k := 60) (n := 13186) (Nat.le_of_ble_eq_true rfl) (Nat.le_of_ble_eq_true rfl) ?_
  refine k_lxc (pcx := 895) (cx := 3000) (sx := 60000) (fun n => 60 + 4 * (512 - n)) (fun n => 13186 + 48 * (512 - n)) (fun n H locs ls => ∃ (j : Nat) (L1 : List Nat) (f1 f2 : Nat → va_E) (np nc n1 n2 tk lk tp cp gp : Nat) (ru : Int32) (G J mk st : Nat → Int32) (ap : Nat → Int64) (kd sn : Nat → Nat), 512 - j = n ∧ j ≤ 512 ∧ cI K np nc n1 lk nc tp cp gp G J mk st ap kd sn L1 f1 ∧ h1 ∈ L1 ∧ kd h1 = 1 ∧ G 7 = nI np ∧ G 8 = nI nc ∧ G 9 = nI n1 ∧ G 12 = nI tk ∧ G 13 = ru ∧ n1 ≤ 1000 ∧ gN L1 ∧ mI K rt L2 f2 np nc n2 tk ru mk ∧ gN L2 ∧ (∀ a ∈ L2, a ∉ L1) ∧ (∀ a ∈ L1, A a) ∧ (∀ a ∈ L2, A a) ∧ va_P (dC, dI) vwCl (va_pl L1 f1) H ∧ va_P (dC, dI) vwCl (va_pl L2 f2) H ∧ va_S A s.heap H locs ∧ lv_has ls 4 [(0, .ref b), (1, .ref h1), (2, .ref (rt 51)), (3, .int (nI (4 * j)))]) (fun H locs ls => ∃ (j : Nat) (L1 : List Nat) (f1 f2 : Nat → va_E) (np nc n1 n2 tk lk tp cp gp : Nat) (ru : Int32) (G J mk st : Nat → Int32) (ap : Nat → Int64) (kd sn : Nat → Nat), j ≤ 512 ∧ cI K np nc n1 lk nc tp cp gp G J mk st ap kd sn L1 f1 ∧ h1 ∈ L1 ∧ kd h1 = 1 ∧ G 7 = nI np ∧ G 8 = nI nc ∧ G 9 = nI n1 ∧ G 12 = nI tk ∧ G 13 = ru ∧ n1 ≤ 1000 ∧ gN L1 ∧ mI K rt L2 f2 np nc n2 tk ru mk ∧ gN L2 ∧ (∀ a ∈ L2, a ∉ L1) ∧ (∀ a ∈ L1, A a) ∧ (∀ a ∈ L2, A a) ∧ va_P (dC, dI) vwCl (va_pl L1 f1) H ∧ va_P (dC, dI) vwCl (va_pl L2 f2) H ∧ va_S A s.heap H locs ∧ lv_has ls 4 [(0, .ref b), (1, .ref h1), (2, .ref (rt 51)), (3, .int (nI (4 * j)))]) (fun H locs ls hI_ => ?_) (fun n H locs ls hI_ hE ih => ?_) 512 _ _ _ ⟨0, L1, f1, f2, 0, 0, 0, 0, 0, 0, 0, 0, 0, 0, _, _, _, _, _, kd, _, rfl, by omega, hI, hm_h1, hk_h1, rfl, rfl, rfl, rfl, rfl, by omega, hLn1, hM, hLn2, hdis, hLA1, hLA2, hP1, hP2, hS, lv_sub hl [3, 2, 1, 0] rfl⟩
  · skip
    clear hI hm_h1 hk_h1 hLn1 hM hdis hLA1 hP1 hP2 hS hl
    obtain ⟨j, L1, f1, f2, np, nc, n1, n2, tk, lk, tp, cp, gp, ru, G, J, mk, st, ap, kd, sn, hj, hI, hm_h1, hk_h1, hg7, hg8, hg9, hg12, hg13, hn1, hLn1, hM, hLn2, hdis, hLA1, hLA2, hP1, hP2, hS, hl⟩ := hI_
    refine lv_iconst (v := 1) hx hb dL_law_895 (by decide) ?_
    refine va_forget (fun q hq => by have h9 := hS.2.2 q hq; rw [hAe] at h9; exact h9) ?_
    refine W.widen (k := 600000) (n := 7302250) (Nat.le_of_ble_eq_true rfl) (Nat.le_of_ble_eq_true rfl) ?_
    exact lw_ret hx hb hr hlocks dL_law_896
  · skip
    clear hI hm_h1 hk_h1 hLn1 hM hdis hLA1 hP1 hP2 hS hl
    obtain ⟨j, L1, f1, f2, np, nc, n1, n2, tk, lk, tp, cp, gp, ru, G, J, mk, st, ap, kd, sn, hmu, hj, hI, hm_h1, hk_h1, hg7, hg8, hg9, hg12, hg13, hn1, hLn1, hM, hLn2, hdis, hLA1, hLA2, hP1, hP2, hS, hl⟩ := hI_
    have hM0 := hM
    obtain ⟨fm, hC, hA2, hnp, hnc, hn2, htk, I_tick, I_rule, ⟨v_pace, I_pace⟩, ⟨v_wait, I_wait⟩, I_pages, I_campaigns, I_sales, ⟨v_may, I_may⟩, ⟨v_spots, I_spots⟩, ⟨v_bs, I_bestSum⟩, ⟨v_bf, I_bestFilled⟩, ⟨v_hb, I_hasBest⟩, F_marks, cpl, csz, cbd, cpb, cso⟩ := hM
    obtain ⟨sa1, hsa1⟩ : ∃ z9, xs (4 * j + 1) = z9 := ⟨_, rfl⟩
    obtain ⟨sa2, hsa2⟩ : ∃ z9, xs (4 * j + 2) = z9 := ⟨_, rfl⟩
    obtain ⟨sa3, hsa3⟩ : ∃ z9, xs (4 * j + 3) = z9 := ⟨_, rfl⟩
    refine lv_iload_n hx hb dL_law_18 rfl (lv_at hl 3 rfl) ?_
    refine lv_aload_n hx hb dL_law_19 rfl (lv_at hl 0 rfl) ?_
    refine va_slen hx hb hX hbl hbA hS dL_law_20 ?_
    refine W.eq (g2 := F0 m 21 ls [.int (nI N0), .int (nI (4 * j))]) rfl ?_
    refine lv_iconst (v := 4) hx hb dL_law_21 (by decide) ?_
    refine lv_isub hx hb dL_law_22 ?_
    refine lv_topi (fun x_1 ex_1 => ?_)
    refine lv_icmp_gt (tgt := 895) hx hb dL_law_23 (by decide) (fun c_2 => ?_) (fun c_2 => ?_)
    · skip
      exact W.widen (k := 3000) (n := 60000) (by show 60 + 4 * (512 - n) ≤ 3000; omega) (by show 13186 + 48 * (512 - n) ≤ 60000; omega) (hE _ _ _ ⟨j, L1, f1, f2, np, nc, n1, n2, tk, lk, tp, cp, gp, ru, G, J, mk, st, ap, kd, sn, hj, hI, hm_h1, hk_h1, hg7, hg8, hg9, hg12, hg13, hn1, hLn1, hM0, hLn2, hdis, hLA1, hLA2, hP1, hP2, hS, lv_sub hl [0, 1, 2, 3] rfl⟩)
    · skip
      have hN4 : 4 * j + 4 ≤ N0 := k_hd hL hj ex_1 c_2
      refine lv_aload_n hx hb dL_law_26 rfl (lv_at hl 0 rfl) ?_
      refine lv_iload_n hx hb dL_law_27 rfl (lv_at hl 3 rfl) ?_
      refine va_sld hx hb hX hbl hbA hS (vp_in_nI (by omega) (by omega)) dL_law_28 ?_
      refine lv_topi (fun x_3 ex_3 => ?_)
      refine lv_bipush (v := 31) hx hb dL_law_29 (by decide) ?_
      refine lv_iand hx hb dL_law_31 ?_
      refine lv_topi (fun x_4 ex_4 => ?_)
      rcases k_sw22 x_4 with h9 | rfl | rfl | rfl | rfl | rfl | rfl | rfl | rfl | rfl | rfl | rfl | rfl | rfl | rfl | rfl | rfl | rfl | rfl | rfl | rfl | rfl | rfl | rfl
      · skip
        refine lv_tableOut (tgt := 889) hx hb dL_law_32 h9 (by decide) ?_
        refine lv_iinc (v := nI (4 * (j + 1))) (lv' := [(3, .int (nI (4 * (j + 1)))), (0, .ref b), (1, .ref h1), (2, .ref (rt 51))]) hx hb dL_law_889 hl (k := 3) rfl (by exact (nI_add (4 * j) 4).trans (congrArg nI (by omega))) (by decide) rfl (fun ls hl => ?_)
        refine lv_goto (tgt := 18) hx hb dL_law_892 (by decide) ?_
        exact W.widen (k := 60 + 4 * (512 - (n - 1))) (n := 13186 + 48 * (512 - (n - 1))) (by show 60 + 4 * (512 - n) ≤ _; omega) (by show 13186 + 48 * (512 - n) ≤ _; omega) (ih (n - 1) (by omega) _ _ _ ⟨j + 1, L1, f1, f2, np, nc, n1, _, tk, lk, tp, cp, gp, _, G, J, mk, st, ap, kd, sn, by omega, by omega, hI, hm_h1, hk_h1, hg7, hg8, hg9, hg12, hg13, by omega, hLn1, hM0, hLn2, hdis, hLA1, hLA2, hP1, hP2, hS, lv_sub hl [1, 2, 3, 0] rfl⟩)
      · skip
        refine lv_tableIn (off := 108) (tgt := 140) hx hb dL_law_32 (by decide) (by decide) rfl (by decide) ?_
        refine lv_aload_n hx hb dL_law_140 rfl (lv_at hl 1 rfl) ?_
        refine lv_aload_n hx hb dL_law_141 rfl (lv_at hl 0 rfl) ?_
        refine lv_iload_n hx hb dL_law_142 rfl (lv_at hl 3 rfl) ?_
        refine lv_iconst (v := 1) hx hb dL_law_143 (by decide) ?_
        refine lv_iadd hx hb dL_law_144 ?_
        refine lv_topi (fun x_5 ex_5 => ?_)
        obtain rfl : x_5 = nI ((4 * j) + 1) := ex_5.trans (nI_add (4 * j) 1)
        refine va_sld hx hb hX hbl hbA hS (vp_in_nI (by omega) (by omega)) dL_law_145 ?_
        refine lv_topi (fun x_6 ex_6 => ?_)
        rw [nI_clamp (by omega)] at ex_6
        obtain rfl : sa1 = x_6 := (ex_6.trans hsa1).symm
        obtain ⟨fsc, hFc, -, -⟩ := hI.o hm_h1 hk_h1 rfl (ci := 5) rfl rfl
        have hSz := hS.1
        refine lc_Ai (ci := 5) ⟨hx, hb, hml, hown, hts⟩ (k_X5_page l dC dI K L1 f1 hI h1 hm_h1 hk_h1 sa1 hg7 hnp hLn1 H.size) exT 1 wm_547 wm_548 wm_549 wm_67 wm_550 (by decide +kernel) ⟨Nat.le_of_ble_eq_true rfl, Nat.le_of_ble_eq_true rfl⟩ hK rfl hm_h1 hFc rfl hl.1 rfl (Nat.le_of_ble_eq_true rfl) dL_law_146 ⟨by show 60 + 4 * (512 - n) + 2 ≤ 600000; omega, by show 13186 + 48 * (512 - n) + 8 ≤ 7302250; omega⟩ hLA1 hA hS hP1 hP2 hdis (fun r_7 L1c f1c H locs hpc hP1 hP2 hlt hS => ?_)
        obtain ⟨Gc, npc, kdc, snc, hI, hCEc, hLnc, hLBc, hGSC, hg7, hrc⟩ := hpc
        have hg8 := (hGSC 8 (by decide)).trans hg8
        have hg9 := (hGSC 9 (by decide)).trans hg9
        have hg12 := (hGSC 12 (by decide)).trans hg12
        have hg13 := (hGSC 13 (by decide)).trans hg13
        have hk_h1 : kdc h1 = 1 := ((hCEc h1 hm_h1).2 (by rw [hk_h1]; decide)).1.trans hk_h1
        have hm_h1 := (hCEc h1 hm_h1).1
        have hdis : ∀ a ∈ L2, a ∉ L1c := fun a h2 h3 => (hLBc a h3).elim (hdis a h2) (fun h => absurd (hlt a h2) (Nat.not_lt.mpr h))
        have hLA1 : ∀ a ∈ L1c, A a := fun a h => (hLBc a h).elim (hLA1 a) (fun h => hA a (Nat.le_trans hSz h))
        have hLn1 := hLnc
        refine lv_pop hx hb dL_law_149 rfl ?_
        refine lv_aload_n hx hb dL_law_150 rfl (lv_at hl 2 rfl) ?_
        refine lv_aload_n hx hb dL_law_151 rfl (lv_at hl 0 rfl) ?_
        refine lv_iload_n hx hb dL_law_152 rfl (lv_at hl 3 rfl) ?_
        refine lv_iconst (v := 1) hx hb dL_law_153 (by decide) ?_
        refine lv_iadd hx hb dL_law_154 ?_
        refine lv_topi (fun x_8 ex_8 => ?_)
        obtain rfl : x_8 = nI ((4 * j) + 1) := ex_8.trans (nI_add (4 * j) 1)
        refine va_sld hx hb hX hbl hbA hS (vp_in_nI (by omega) (by omega)) dL_law_155 ?_
        refine lv_topi (fun x_9 ex_9 => ?_)
        rw [nI_clamp (by omega)] at ex_9
        obtain rfl : sa1 = x_9 := (ex_9.trans hsa1).symm
        obtain ⟨g_places, F_places⟩ := (hA2 6 (by decide)).i (t := 0) (n := 8) ⟨rfl, by decide, rfl⟩
        obtain ⟨g_sizes, F_sizes⟩ := (hA2 7 (by decide)).i (t := 0) (n := 32) ⟨rfl, by decide, rfl⟩
        refine lc_Mi (ci := 6) ⟨hx, hb, hml, hown, hts⟩ (um_page l dC dI K L2 f2 rt hC F_places F_sizes I_pages sa1 hnp (csz _ F_sizes) hLn2) 1 wm_551 wm_552 wm_553 wm_8 wm_554 (by decide +kernel) ⟨Nat.le_of_ble_eq_true rfl, Nat.le_of_ble_eq_true rfl⟩ hK rfl (hC.1.1 51 (by decide)) hC.2.1 rfl hl.1 rfl (Nat.le_of_ble_eq_true rfl) dL_law_156 ⟨by show 60 + 4 * (512 - n) + 2 + 0 ≤ 600000; omega, by show 13186 + 48 * (512 - n) + 8 + 0 ≤ 7302250; omega⟩ hLA2 hS hP2 hP1 (fun a h2 h3 => hdis a h3 h2) (fun r_10 f2c H locs hpm hP2 hP1 hS => ?_)
        have hM : mI K rt L2 f2c npc nc n2 tk ru mk := by
          rcases hpm with ⟨q1, -, h9⟩ | ⟨q1, q2, -, h9⟩ | ⟨q1, q2, -, fm5, gs, gl, hs, hFs5, hC5, hv_7, hv_6, hf5, hsz9, n9, hn91, hn94, egl⟩
          · rcases hrc with ⟨p1, -, e9⟩ | ⟨p1, p2, -, e9⟩ | ⟨p1, p2, -, e9⟩
            · rw [h9, e9]; exact hM0
            · exact absurd p1 q1
            · exact absurd p1 q1
          · rcases hrc with ⟨p1, -, e9⟩ | ⟨p1, p2, -, e9⟩ | ⟨p1, p2, -, e9⟩
            · exact absurd q1 p1
            · rw [h9, e9]; exact hM0
            · exact (show False by omega).elim
          · rcases hrc with ⟨p1, -, e9⟩ | ⟨p1, p2, -, e9⟩ | ⟨p1, p2, -, e9⟩
            · exact absurd q1 p1
            · exact (show False by omega).elim
            · rw [e9]
              have hp9 : ∀ g : Nat → Int32, f2c (rt 6) = .inl (K 0, 8, .inl g) → ∀ i, i < np + 1 → ∃ q : Nat, 1 ≤ q ∧ q ≤ 4 ∧ g i = nI q := fun g hg i hi => by
                rw [up_arr hv_6 hg, egl]
                by_cases q : i = np
                · rw [q, pk_us]; exact ⟨n9, hn91, hn94, rfl⟩
                · rw [pk_un q]; exact cpl _ F_places i (by omega)
              exact ⟨fm5, hC5, mTy_keep hC.1 hA2 hs (by decide) (fun k hk hm => by
              simp only [List.mem_cons, List.not_mem_nil, or_false] at hk
              rcases hk with rfl | rfl | rfl
              · exact mTy_i ⟨rfl, by decide, rfl⟩ hv_6
              · exact mTy_i ⟨rfl, by decide, rfl⟩ hv_7
              · exact absurd hm (by decide)), (by omega), hnc, hn2, htk, ((hFs5.2 1 (by decide)).trans I_tick), ((hFs5.2 2 (by decide)).trans I_rule), ⟨_, ((hFs5.2 3 (by decide)).trans I_pace)⟩, ⟨_, ((hFs5.2 4 (by decide)).trans I_wait)⟩, hf5, ((hFs5.2 9 (by decide)).trans I_campaigns), ((hFs5.2 25 (by decide)).trans I_sales), ⟨_, ((hFs5.2 35 (by decide)).trans I_may)⟩, ⟨_, ((hFs5.2 39 (by decide)).trans I_spots)⟩, ⟨_, ((hFs5.2 43 (by decide)).trans I_bestSum)⟩, ⟨_, ((hFs5.2 44 (by decide)).trans I_bestFilled)⟩, ⟨_, ((hFs5.2 45 (by decide)).trans I_hasBest)⟩, ((hs.at hC.1 (by decide) (by decide)).trans F_marks), hp9, (fun g hg => by rw [up_arr hv_7 hg]; exact hsz9), (fun g hg => cbd g ((hs.at hC.1 (by decide) (by decide)).symm.trans hg)), (fun g1 g2 g3 a1 a2 a3 => cpb g1 g2 g3 ((hs.at hC.1 (by decide) (by decide)).symm.trans a1) ((hs.at hC.1 (by decide) (by decide)).symm.trans a2) ((hs.at hC.1 (by decide) (by decide)).symm.trans a3)), (fun g hg => cso g ((hs.at hC.1 (by decide) (by decide)).symm.trans hg))⟩
        clear hpm
        clear hrc
        refine lv_pop hx hb dL_law_159 rfl ?_
        refine lv_goto (tgt := 889) hx hb dL_law_160 (by decide) ?_
        refine lv_iinc (v := nI (4 * (j + 1))) (lv' := [(3, .int (nI (4 * (j + 1)))), (0, .ref b), (1, .ref h1), (2, .ref (rt 51))]) hx hb dL_law_889 hl (k := 3) rfl (by exact (nI_add (4 * j) 4).trans (congrArg nI (by omega))) (by decide) rfl (fun ls hl => ?_)
        refine lv_goto (tgt := 18) hx hb dL_law_892 (by decide) ?_
        exact W.widen (k := 60 + 4 * (512 - (n - 1))) (n := 13186 + 48 * (512 - (n - 1))) (by show 60 + 4 * (512 - n) + 2 ≤ _; omega) (by show 13186 + 48 * (512 - n) + 8 ≤ _; omega) (ih (n - 1) (by omega) _ _ _ ⟨j + 1, L1c, f1c, f2c, npc, nc, n1, _, tk, lk, tp, cp, gp, _, Gc, J, mk, st, ap, kdc, snc, by omega, by omega, hI, hm_h1, hk_h1, hg7, hg8, hg9, hg12, hg13, by omega, hLn1, hM, hLn2, hdis, hLA1, hLA2, hP1, hP2, hS, lv_sub hl [1, 2, 3, 0] rfl⟩)
      · skip
        refine lv_tableIn (off := 131) (tgt := 163) hx hb dL_law_32 (by decide) (by decide) rfl (by decide) ?_
        refine lv_aload_n hx hb dL_law_163 rfl (lv_at hl 1 rfl) ?_
        refine lv_aload_n hx hb dL_law_164 rfl (lv_at hl 0 rfl) ?_
        refine lv_iload_n hx hb dL_law_165 rfl (lv_at hl 3 rfl) ?_
        refine lv_iconst (v := 1) hx hb dL_law_166 (by decide) ?_
        refine lv_iadd hx hb dL_law_167 ?_
        refine lv_topi (fun x_11 ex_11 => ?_)
        obtain rfl : x_11 = nI ((4 * j) + 1) := ex_11.trans (nI_add (4 * j) 1)
        refine va_sld hx hb hX hbl hbA hS (vp_in_nI (by omega) (by omega)) dL_law_168 ?_
        refine lv_topi (fun x_12 ex_12 => ?_)
        rw [nI_clamp (by omega)] at ex_12
        obtain rfl : sa1 = x_12 := (ex_12.trans hsa1).symm
        refine lv_aload_n hx hb dL_law_169 rfl (lv_at hl 0 rfl) ?_
        refine lv_iload_n hx hb dL_law_170 rfl (lv_at hl 3 rfl) ?_
        refine lv_iconst (v := 2) hx hb dL_law_171 (by decide) ?_
        refine lv_iadd hx hb dL_law_172 ?_
        refine lv_topi (fun x_13 ex_13 => ?_)
        obtain rfl : x_13 = nI ((4 * j) + 2) := ex_13.trans (nI_add (4 * j) 2)
        refine va_sld hx hb hX hbl hbA hS (vp_in_nI (by omega) (by omega)) dL_law_173 ?_
        refine lv_topi (fun x_14 ex_14 => ?_)
        rw [nI_clamp (by omega)] at ex_14
        obtain rfl : sa2 = x_14 := (ex_14.trans hsa2).symm
        obtain ⟨fsc, hFc, -, -⟩ := hI.o hm_h1 hk_h1 rfl (ci := 5) rfl rfl
        refine lc_Mi (ci := 5) ⟨hx, hb, hml, hown, hts⟩ (k_X5_marks l dC dI K L1 f1 hI h1 hm_h1 hk_h1 sa1 sa2 hLn1) 2 wm_555 wm_556 wm_557 wm_67 wm_558 (by decide +kernel) ⟨Nat.le_of_ble_eq_true rfl, Nat.le_of_ble_eq_true rfl⟩ hK rfl hm_h1 hFc rfl hl.1 rfl (Nat.le_of_ble_eq_true rfl) dL_law_174 ⟨by show 60 + 4 * (512 - n) + 0 ≤ 600000; omega, by show 13186 + 48 * (512 - n) + 0 ≤ 7302250; omega⟩ hLA1 hS hP1 hP2 hdis (fun r_15 f1c H locs hpc hP1 hP2 hS => ?_)
        obtain ⟨mkc, hI, hrc⟩ := hpc
        refine lv_pop hx hb dL_law_177 rfl ?_
        refine lv_aload_n hx hb dL_law_178 rfl (lv_at hl 2 rfl) ?_
        refine lv_aload_n hx hb dL_law_179 rfl (lv_at hl 0 rfl) ?_
        refine lv_iload_n hx hb dL_law_180 rfl (lv_at hl 3 rfl) ?_
        refine lv_iconst (v := 1) hx hb dL_law_181 (by decide) ?_
        refine lv_iadd hx hb dL_law_182 ?_
        refine lv_topi (fun x_16 ex_16 => ?_)
        obtain rfl : x_16 = nI ((4 * j) + 1) := ex_16.trans (nI_add (4 * j) 1)
        refine va_sld hx hb hX hbl hbA hS (vp_in_nI (by omega) (by omega)) dL_law_183 ?_
        refine lv_topi (fun x_17 ex_17 => ?_)
        rw [nI_clamp (by omega)] at ex_17
        obtain rfl : sa1 = x_17 := (ex_17.trans hsa1).symm
        refine lv_aload_n hx hb dL_law_184 rfl (lv_at hl 0 rfl) ?_
        refine lv_iload_n hx hb dL_law_185 rfl (lv_at hl 3 rfl) ?_
        refine lv_iconst (v := 2) hx hb dL_law_186 (by decide) ?_
        refine lv_iadd hx hb dL_law_187 ?_
        refine lv_topi (fun x_18 ex_18 => ?_)
        obtain rfl : x_18 = nI ((4 * j) + 2) := ex_18.trans (nI_add (4 * j) 2)
        refine va_sld hx hb hX hbl hbA hS (vp_in_nI (by omega) (by omega)) dL_law_188 ?_
        refine lv_topi (fun x_19 ex_19 => ?_)
        rw [nI_clamp (by omega)] at ex_19
        obtain rfl : sa2 = x_19 := (ex_19.trans hsa2).symm
        refine lc_Mi (ci := 6) ⟨hx, hb, hml, hown, hts⟩ (um_marks l dC dI K L2 f2 rt hC F_marks sa1 sa2 hLn2) 2 wm_559 wm_560 wm_561 wm_8 wm_562 (by decide +kernel) ⟨Nat.le_of_ble_eq_true rfl, Nat.le_of_ble_eq_true rfl⟩ hK rfl (hC.1.1 51 (by decide)) hC.2.1 rfl hl.1 rfl (Nat.le_of_ble_eq_true rfl) dL_law_189 ⟨by show 60 + 4 * (512 - n) + 0 ≤ 600000; omega, by show 13186 + 48 * (512 - n) + 0 ≤ 7302250; omega⟩ hLA2 hS hP2 hP1 (fun a h2 h3 => hdis a h3 h2) (fun r_20 f2c H locs hpm hP2 hP1 hS => ?_)
        have hM : mI K rt L2 f2c np nc n2 tk ru mkc := by
          rcases hpm with ⟨q1, -, h9⟩ | ⟨q1, -, h9⟩
          · rcases hrc with ⟨-, -, e9⟩ | ⟨q2, -, -⟩
            · rw [h9, e9]; exact hM0
            · exact absurd q2 q1
          · rcases hrc with ⟨q2, -, -⟩ | ⟨-, -, e9⟩
            · exact absurd q1 q2
            · skip
              have hs : gSm rt [8] f2 f2c := by rw [h9]; exact (gSm.rf.up (k := 8) (by decide) _)
              have hv_8 : f2c (rt 8) = .inl (K 0, 100, .inl (upd mk (Int32.toNatClampNeg sa1) sa2)) := by rw [h9, va_up_self]
              rw [e9]
              exact ⟨fm, ⟨hC.1, (hs.at hC.1 (by decide) (by decide)).trans hC.2.1, hC.2.2⟩, mTy_keep hC.1 hA2 hs (by decide) (fun k hk hm => by
              simp only [List.mem_cons, List.not_mem_nil, or_false] at hk
              rcases hk with rfl
              · exact mTy_i ⟨rfl, by decide, rfl⟩ hv_8), hnp, hnc, hn2, htk, I_tick, I_rule, ⟨_, I_pace⟩, ⟨_, I_wait⟩, I_pages, I_campaigns, I_sales, ⟨_, I_may⟩, ⟨_, I_spots⟩, ⟨_, I_bestSum⟩, ⟨_, I_bestFilled⟩, ⟨_, I_hasBest⟩, hv_8, (fun g hg => cpl g ((hs.at hC.1 (by decide) (by decide)).symm.trans hg)), (fun g hg => csz g ((hs.at hC.1 (by decide) (by decide)).symm.trans hg)), (fun g hg => cbd g ((hs.at hC.1 (by decide) (by decide)).symm.trans hg)), (fun g1 g2 g3 a1 a2 a3 => cpb g1 g2 g3 ((hs.at hC.1 (by decide) (by decide)).symm.trans a1) ((hs.at hC.1 (by decide) (by decide)).symm.trans a2) ((hs.at hC.1 (by decide) (by decide)).symm.trans a3)), (fun g hg => cso g ((hs.at hC.1 (by decide) (by decide)).symm.trans hg))⟩
        clear hpm
        clear hrc
        refine lv_pop hx hb dL_law_192 rfl ?_
        refine lv_goto (tgt := 889) hx hb dL_law_193 (by decide) ?_
        refine lv_iinc (v := nI (4 * (j + 1))) (lv' := [(3, .int (nI (4 * (j + 1)))), (0, .ref b), (1, .ref h1), (2, .ref (rt 51))]) hx hb dL_law_889 hl (k := 3) rfl (by exact (nI_add (4 * j) 4).trans (congrArg nI (by omega))) (by decide) rfl (fun ls hl => ?_)
        refine lv_goto (tgt := 18) hx hb dL_law_892 (by decide) ?_
        exact W.widen (k := 60 + 4 * (512 - (n - 1))) (n := 13186 + 48 * (512 - (n - 1))) (by show 60 + 4 * (512 - n) ≤ _; omega) (by show 13186 + 48 * (512 - n) ≤ _; omega) (ih (n - 1) (by omega) _ _ _ ⟨j + 1, L1, f1c, f2c, np, nc, n1, _, tk, lk, tp, cp, gp, _, G, J, mkc, st, ap, kd, sn, by omega, by omega, hI, hm_h1, hk_h1, hg7, hg8, hg9, hg12, hg13, by omega, hLn1, hM, hLn2, hdis, hLA1, hLA2, hP1, hP2, hS, lv_sub hl [1, 2, 3, 0] rfl⟩)
      · skip
        refine lv_tableIn (off := 164) (tgt := 196) hx hb dL_law_32 (by decide) (by decide) rfl (by decide) ?_
        refine lv_aload_n hx hb dL_law_196 rfl (lv_at hl 1 rfl) ?_
        refine lv_aload_n hx hb dL_law_197 rfl (lv_at hl 0 rfl) ?_
        refine lv_iload_n hx hb dL_law_198 rfl (lv_at hl 3 rfl) ?_
        refine lv_iconst (v := 1) hx hb dL_law_199 (by decide) ?_
        refine lv_iadd hx hb dL_law_200 ?_
        refine lv_topi (fun x_21 ex_21 => ?_)
        obtain rfl : x_21 = nI ((4 * j) + 1) := ex_21.trans (nI_add (4 * j) 1)
        refine va_sld hx hb hX hbl hbA hS (vp_in_nI (by omega) (by omega)) dL_law_201 ?_
        refine lv_topi (fun x_22 ex_22 => ?_)
        rw [nI_clamp (by omega)] at ex_22
        obtain rfl : sa1 = x_22 := (ex_22.trans hsa1).symm
        refine lv_aload_n hx hb dL_law_202 rfl (lv_at hl 0 rfl) ?_
        refine lv_iload_n hx hb dL_law_203 rfl (lv_at hl 3 rfl) ?_
        refine lv_iconst (v := 2) hx hb dL_law_204 (by decide) ?_
        refine lv_iadd hx hb dL_law_205 ?_
        refine lv_topi (fun x_23 ex_23 => ?_)
        obtain rfl : x_23 = nI ((4 * j) + 2) := ex_23.trans (nI_add (4 * j) 2)
        refine va_sld hx hb hX hbl hbA hS (vp_in_nI (by omega) (by omega)) dL_law_206 ?_
        refine lv_topi (fun x_24 ex_24 => ?_)
        rw [nI_clamp (by omega)] at ex_24
        obtain rfl : sa2 = x_24 := (ex_24.trans hsa2).symm
        refine lv_aload_n hx hb dL_law_207 rfl (lv_at hl 0 rfl) ?_
        refine lv_iload_n hx hb dL_law_208 rfl (lv_at hl 3 rfl) ?_
        refine lv_iconst (v := 3) hx hb dL_law_209 (by decide) ?_
        refine lv_iadd hx hb dL_law_210 ?_
        refine lv_topi (fun x_25 ex_25 => ?_)
        obtain rfl : x_25 = nI ((4 * j) + 3) := ex_25.trans (nI_add (4 * j) 3)
        refine va_sld hx hb hX hbl hbA hS (vp_in_nI (by omega) (by omega)) dL_law_211 ?_
        refine lv_topi (fun x_26 ex_26 => ?_)
        rw [nI_clamp (by omega)] at ex_26
        obtain rfl : sa3 = x_26 := (ex_26.trans hsa3).symm
        obtain ⟨fsc, hFc, -, -⟩ := hI.o hm_h1 hk_h1 rfl (ci := 5) rfl rfl
        have hSz := hS.1
        refine lc_Ai (ci := 5) ⟨hx, hb, hml, hown, hts⟩ (k_X5_campaign l dC dI K L1 f1 hI h1 hm_h1 hk_h1 sa1 sa2 sa3 hg8 hnc rfl hLn1 H.size) (exNw hn0) 3 wm_563 wm_564 wm_565 wm_67 wm_566 (by decide +kernel) ⟨Nat.le_of_ble_eq_true rfl, Nat.le_of_ble_eq_true rfl⟩ hK rfl hm_h1 hFc rfl hl.1 rfl (Nat.le_of_ble_eq_true rfl) dL_law_212 ⟨by show 60 + 4 * (512 - n) + 2 ≤ 600000; omega, by show 13186 + 48 * (512 - n) + 24 ≤ 7302250; omega⟩ hLA1 hA hS hP1 hP2 hdis (fun r_27 L1c f1c H locs hpc hP1 hP2 hlt hS => ?_)
        obtain ⟨Gc, ncc, lcc, stc, apc, kdc, snc, hI, hCEc, hLnc, hLBc, hGSC, hlc, hg8, hrc⟩ := hpc
        have hg7 := (hGSC 7 (by decide)).trans hg7
        have hg9 := (hGSC 9 (by decide)).trans hg9
        have hg12 := (hGSC 12 (by decide)).trans hg12
        have hg13 := (hGSC 13 (by decide)).trans hg13
        have hk_h1 : kdc h1 = 1 := ((hCEc h1 hm_h1).2 (by rw [hk_h1]; decide)).1.trans hk_h1
        have hm_h1 := (hCEc h1 hm_h1).1
        have hdis : ∀ a ∈ L2, a ∉ L1c := fun a h2 h3 => (hLBc a h3).elim (hdis a h2) (fun h => absurd (hlt a h2) (Nat.not_lt.mpr h))
        have hLA1 : ∀ a ∈ L1c, A a := fun a h => (hLBc a h).elim (hLA1 a) (fun h => hA a (Nat.le_trans hSz h))
        have hLn1 := hLnc
        subst hlc
        refine lv_pop hx hb dL_law_215 rfl ?_
        refine lv_aload_n hx hb dL_law_216 rfl (lv_at hl 2 rfl) ?_
        refine lv_aload_n hx hb dL_law_217 rfl (lv_at hl 0 rfl) ?_
        refine lv_iload_n hx hb dL_law_218 rfl (lv_at hl 3 rfl) ?_
        refine lv_iconst (v := 1) hx hb dL_law_219 (by decide) ?_
        refine lv_iadd hx hb dL_law_220 ?_
        refine lv_topi (fun x_28 ex_28 => ?_)
        obtain rfl : x_28 = nI ((4 * j) + 1) := ex_28.trans (nI_add (4 * j) 1)
        refine va_sld hx hb hX hbl hbA hS (vp_in_nI (by omega) (by omega)) dL_law_221 ?_
        refine lv_topi (fun x_29 ex_29 => ?_)
        rw [nI_clamp (by omega)] at ex_29
        obtain rfl : sa1 = x_29 := (ex_29.trans hsa1).symm
        refine lv_aload_n hx hb dL_law_222 rfl (lv_at hl 0 rfl) ?_
        refine lv_iload_n hx hb dL_law_223 rfl (lv_at hl 3 rfl) ?_
        refine lv_iconst (v := 2) hx hb dL_law_224 (by decide) ?_
        refine lv_iadd hx hb dL_law_225 ?_
        refine lv_topi (fun x_30 ex_30 => ?_)
        obtain rfl : x_30 = nI ((4 * j) + 2) := ex_30.trans (nI_add (4 * j) 2)
        refine va_sld hx hb hX hbl hbA hS (vp_in_nI (by omega) (by omega)) dL_law_226 ?_
        refine lv_topi (fun x_31 ex_31 => ?_)
        rw [nI_clamp (by omega)] at ex_31
        obtain rfl : sa2 = x_31 := (ex_31.trans hsa2).symm
        refine lv_aload_n hx hb dL_law_227 rfl (lv_at hl 0 rfl) ?_
        refine lv_iload_n hx hb dL_law_228 rfl (lv_at hl 3 rfl) ?_
        refine lv_iconst (v := 3) hx hb dL_law_229 (by decide) ?_
        refine lv_iadd hx hb dL_law_230 ?_
        refine lv_topi (fun x_32 ex_32 => ?_)
        obtain rfl : x_32 = nI ((4 * j) + 3) := ex_32.trans (nI_add (4 * j) 3)
        refine va_sld hx hb hX hbl hbA hS (vp_in_nI (by omega) (by omega)) dL_law_231 ?_
        refine lv_topi (fun x_33 ex_33 => ?_)
        rw [nI_clamp (by omega)] at ex_33
        obtain rfl : sa3 = x_33 := (ex_33.trans hsa3).symm
        obtain ⟨g_sort, F_sort⟩ := (hA2 10 (by decide)).i (t := 0) (n := 40) ⟨rfl, by decide, rfl⟩
        obtain ⟨g_pays, F_pays⟩ := (hA2 11 (by decide)).i (t := 0) (n := 40) ⟨rfl, by decide, rfl⟩
        obtain ⟨g_must, F_must⟩ := (hA2 12 (by decide)).i (t := 0) (n := 40) ⟨rfl, by decide, rfl⟩
        obtain ⟨g_never, F_never⟩ := (hA2 13 (by decide)).i (t := 0) (n := 40) ⟨rfl, by decide, rfl⟩
        obtain ⟨g_bid, F_bid⟩ := (hA2 14 (by decide)).i (t := 0) (n := 40) ⟨rfl, by decide, rfl⟩
        obtain ⟨g_cap, F_cap⟩ := (hA2 17 (by decide)).i (t := 0) (n := 40) ⟨rfl, by decide, rfl⟩
        obtain ⟨g_span, F_span⟩ := (hA2 18 (by decide)).i (t := 0) (n := 40) ⟨rfl, by decide, rfl⟩
        obtain ⟨g_throttle, F_throttle⟩ := (hA2 19 (by decide)).i (t := 0) (n := 40) ⟨rfl, by decide, rfl⟩
        obtain ⟨g_promised, F_promised⟩ := (hA2 22 (by decide)).i (t := 0) (n := 40) ⟨rfl, by decide, rfl⟩
        refine lc_Mi (ci := 6) ⟨hx, hb, hml, hown, hts⟩ (um_campaign l dC dI K L2 f2 rt hC F_sort F_pays F_must F_never F_bid F_cap F_span F_throttle F_promised I_campaigns sa1 sa2 sa3 hnc hLn2) 3 wm_567 wm_568 wm_569 wm_8 wm_570 (by decide +kernel) ⟨Nat.le_of_ble_eq_true rfl, Nat.le_of_ble_eq_true rfl⟩ hK rfl (hC.1.1 51 (by decide)) hC.2.1 rfl hl.1 rfl (Nat.le_of_ble_eq_true rfl) dL_law_232 ⟨by show 60 + 4 * (512 - n) + 2 + 0 ≤ 600000; omega, by show 13186 + 48 * (512 - n) + 24 + 0 ≤ 7302250; omega⟩ hLA2 hS hP2 hP1 (fun a h2 h3 => hdis a h3 h2) (fun r_34 f2c H locs hpm hP2 hP1 hS => ?_)
        have hM : mI K rt L2 f2c np lcc n2 tk ru mk := by
          rcases hpm with ⟨q1, -, h9⟩ | ⟨q1, q2, -, h9⟩ | ⟨q1, q2, -, h9⟩
          · rcases hrc with ⟨p1, -, e9, -, -⟩ | ⟨p1, p2, -, e9, -, -⟩ | ⟨p1, p2, -, e9, -, -⟩
            · rw [h9, e9]; exact hM0
            · exact absurd p1 q1
            · exact absurd p1 q1
          · rcases hrc with ⟨p1, -, e9, -, -⟩ | ⟨p1, p2, -, e9, -, -⟩ | ⟨p1, p2, -, e9, -, -⟩
            · exact absurd q1 p1
            · rw [h9, e9]; exact hM0
            · exact (show False by omega).elim
          · rcases hrc with ⟨p1, -, e9, -, -⟩ | ⟨p1, p2, -, e9, -, -⟩ | ⟨p1, p2, -, e9, -, -⟩
            · exact absurd q1 p1
            · exact (show False by omega).elim
            · rw [e9]
              have hs : gSm rt [10, 11, 12, 13, 14, 17, 18, 19, 22, 51] f2 f2c := by rw [h9]; exact ((((((((((gSm.rf.up (k := 10) (by decide) _).up (k := 11) (by decide) _).up (k := 12) (by decide) _).up (k := 13) (by decide) _).up (k := 14) (by decide) _).up (k := 17) (by decide) _).up (k := 18) (by decide) _).up (k := 19) (by decide) _).up (k := 22) (by decide) _).up (k := 51) (by decide) _)
              have hv_10 : f2c (rt 10) = .inl (K 0, 40, .inl (upd g_sort (Int32.toNatClampNeg (nI nc)) (sa1 / 10))) := by rw [h9, va_up_ne _ _ (fun q => absurd (hC.1.2 10 (by decide) 51 (by decide) q) (by decide)), va_up_ne _ _ (fun q => absurd (hC.1.2 10 (by decide) 22 (by decide) q) (by decide)), va_up_ne _ _ (fun q => absurd (hC.1.2 10 (by decide) 19 (by decide) q) (by decide)), va_up_ne _ _ (fun q => absurd (hC.1.2 10 (by decide) 18 (by decide) q) (by decide)), va_up_ne _ _ (fun q => absurd (hC.1.2 10 (by decide) 17 (by decide) q) (by decide)), va_up_ne _ _ (fun q => absurd (hC.1.2 10 (by decide) 14 (by decide) q) (by decide)), va_up_ne _ _ (fun q => absurd (hC.1.2 10 (by decide) 13 (by decide) q) (by decide)), va_up_ne _ _ (fun q => absurd (hC.1.2 10 (by decide) 12 (by decide) q) (by decide)), va_up_ne _ _ (fun q => absurd (hC.1.2 10 (by decide) 11 (by decide) q) (by decide)), va_up_self]
              have hv_11 : f2c (rt 11) = .inl (K 0, 40, .inl (upd g_pays (Int32.toNatClampNeg (nI nc)) (sa1 - sa1 / 10 * 10))) := by rw [h9, va_up_ne _ _ (fun q => absurd (hC.1.2 11 (by decide) 51 (by decide) q) (by decide)), va_up_ne _ _ (fun q => absurd (hC.1.2 11 (by decide) 22 (by decide) q) (by decide)), va_up_ne _ _ (fun q => absurd (hC.1.2 11 (by decide) 19 (by decide) q) (by decide)), va_up_ne _ _ (fun q => absurd (hC.1.2 11 (by decide) 18 (by decide) q) (by decide)), va_up_ne _ _ (fun q => absurd (hC.1.2 11 (by decide) 17 (by decide) q) (by decide)), va_up_ne _ _ (fun q => absurd (hC.1.2 11 (by decide) 14 (by decide) q) (by decide)), va_up_ne _ _ (fun q => absurd (hC.1.2 11 (by decide) 13 (by decide) q) (by decide)), va_up_ne _ _ (fun q => absurd (hC.1.2 11 (by decide) 12 (by decide) q) (by decide)), va_up_self]
              have hv_12 : f2c (rt 12) = .inl (K 0, 40, .inl (upd g_must (Int32.toNatClampNeg (nI nc)) (sa2 / 4096))) := by rw [h9, va_up_ne _ _ (fun q => absurd (hC.1.2 12 (by decide) 51 (by decide) q) (by decide)), va_up_ne _ _ (fun q => absurd (hC.1.2 12 (by decide) 22 (by decide) q) (by decide)), va_up_ne _ _ (fun q => absurd (hC.1.2 12 (by decide) 19 (by decide) q) (by decide)), va_up_ne _ _ (fun q => absurd (hC.1.2 12 (by decide) 18 (by decide) q) (by decide)), va_up_ne _ _ (fun q => absurd (hC.1.2 12 (by decide) 17 (by decide) q) (by decide)), va_up_ne _ _ (fun q => absurd (hC.1.2 12 (by decide) 14 (by decide) q) (by decide)), va_up_ne _ _ (fun q => absurd (hC.1.2 12 (by decide) 13 (by decide) q) (by decide)), va_up_self]
              have hv_13 : f2c (rt 13) = .inl (K 0, 40, .inl (upd g_never (Int32.toNatClampNeg (nI nc)) (sa2 - sa2 / 4096 * 4096))) := by rw [h9, va_up_ne _ _ (fun q => absurd (hC.1.2 13 (by decide) 51 (by decide) q) (by decide)), va_up_ne _ _ (fun q => absurd (hC.1.2 13 (by decide) 22 (by decide) q) (by decide)), va_up_ne _ _ (fun q => absurd (hC.1.2 13 (by decide) 19 (by decide) q) (by decide)), va_up_ne _ _ (fun q => absurd (hC.1.2 13 (by decide) 18 (by decide) q) (by decide)), va_up_ne _ _ (fun q => absurd (hC.1.2 13 (by decide) 17 (by decide) q) (by decide)), va_up_ne _ _ (fun q => absurd (hC.1.2 13 (by decide) 14 (by decide) q) (by decide)), va_up_self]
              have hv_14 : f2c (rt 14) = .inl (K 0, 40, .inl (upd g_bid (Int32.toNatClampNeg (nI nc)) sa3)) := by rw [h9, va_up_ne _ _ (fun q => absurd (hC.1.2 14 (by decide) 51 (by decide) q) (by decide)), va_up_ne _ _ (fun q => absurd (hC.1.2 14 (by decide) 22 (by decide) q) (by decide)), va_up_ne _ _ (fun q => absurd (hC.1.2 14 (by decide) 19 (by decide) q) (by decide)), va_up_ne _ _ (fun q => absurd (hC.1.2 14 (by decide) 18 (by decide) q) (by decide)), va_up_ne _ _ (fun q => absurd (hC.1.2 14 (by decide) 17 (by decide) q) (by decide)), va_up_self]
              have hv_17 : f2c (rt 17) = .inl (K 0, 40, .inl (upd g_cap (Int32.toNatClampNeg (nI nc)) 9)) := by rw [h9, va_up_ne _ _ (fun q => absurd (hC.1.2 17 (by decide) 51 (by decide) q) (by decide)), va_up_ne _ _ (fun q => absurd (hC.1.2 17 (by decide) 22 (by decide) q) (by decide)), va_up_ne _ _ (fun q => absurd (hC.1.2 17 (by decide) 19 (by decide) q) (by decide)), va_up_ne _ _ (fun q => absurd (hC.1.2 17 (by decide) 18 (by decide) q) (by decide)), va_up_self]
              have hv_18 : f2c (rt 18) = .inl (K 0, 40, .inl (upd g_span (Int32.toNatClampNeg (nI nc)) 1)) := by rw [h9, va_up_ne _ _ (fun q => absurd (hC.1.2 18 (by decide) 51 (by decide) q) (by decide)), va_up_ne _ _ (fun q => absurd (hC.1.2 18 (by decide) 22 (by decide) q) (by decide)), va_up_ne _ _ (fun q => absurd (hC.1.2 18 (by decide) 19 (by decide) q) (by decide)), va_up_self]
              have hv_19 : f2c (rt 19) = .inl (K 0, 40, .inl (upd g_throttle (Int32.toNatClampNeg (nI nc)) 1000)) := by rw [h9, va_up_ne _ _ (fun q => absurd (hC.1.2 19 (by decide) 51 (by decide) q) (by decide)), va_up_ne _ _ (fun q => absurd (hC.1.2 19 (by decide) 22 (by decide) q) (by decide)), va_up_self]
              have hv_22 : f2c (rt 22) = .inl (K 0, 40, .inl (upd g_promised (Int32.toNatClampNeg (nI nc)) 0)) := by rw [h9, va_up_ne _ _ (fun q => absurd (hC.1.2 22 (by decide) 51 (by decide) q) (by decide)), va_up_self]
              have hv_51 : f2c (rt 51) = .inr (6, List.set fm 9 (.int (nI (nc + 1)))) := by rw [h9, va_up_self]
              obtain ⟨fm5, efm5⟩ : ∃ z9 : List Value, z9 = (List.set fm 9 (.int (nI (nc + 1)))) := ⟨_, rfl⟩
              have hFs5 : fmS [9] fm fm5 := by rw [efm5]; exact (fmS.rf.st (k := 9) (by decide) _)
              have hf9 : fm5[9]? = some (.int (nI (nc + 1))) := by rw [efm5]; exact List.getElem?_set_self (by rw [hC.2.2.1]; decide)
              have hC5 : mC rt L2 f2c fm5 := ⟨hC.1, by rw [hv_51, efm5], by rw [hFs5.1]; exact hC.2.2.1, fun k h => (hFs5.2 k (fun q => by revert h; revert q; revert k; decide)).trans (hC.2.2.2 k h)⟩
              have hb9 : ∀ g : Nat → Int32, f2c (rt 14) = .inl (K 0, 40, .inl g) → ∀ c, c < 40 → ∃ b : Nat, b ≤ 1000 ∧ g c = nI b := fun g hg c hc => by
                rw [up_arr hv_14 hg]
                by_cases q : c = Int32.toNatClampNeg (nI nc)
                · rw [q, pk_us]; exact bid_new q1.2.2
                · rw [pk_un q]; exact cbd _ F_bid c hc
              have hpb9 : ∀ g1 g2 g3 : Nat → Int32, f2c (rt 22) = .inl (K 0, 40, .inl g1) → f2c (rt 23) = .inl (K 0, 40, .inl g2) → f2c (rt 24) = .inl (K 0, 40, .inl g3) → ∀ c, c < 40 → g1 c = 0 ∨ ∃ a d : Nat, d ≤ 100 ∧ a < 100 * d + 100 ∧ g2 c = nI d ∧ g3 c = nI a := fun g1 g2 g3 a1 a2 a3 c hc => by
                rw [up_arr hv_22 a1]
                by_cases q : c = Int32.toNatClampNeg (nI nc)
                · rw [q, pk_us]; exact Or.inl rfl
                · rw [pk_un q]; exact cpb _ _ _ F_promised ((hs.at hC.1 (by decide) (by decide)).symm.trans a2) ((hs.at hC.1 (by decide) (by decide)).symm.trans a3) c hc
              exact ⟨fm5, hC5, mTy_keep hC.1 hA2 hs (by decide) (fun k hk hm => by
              simp only [List.mem_cons, List.not_mem_nil, or_false] at hk
              rcases hk with rfl | rfl | rfl | rfl | rfl | rfl | rfl | rfl | rfl | rfl
              · exact mTy_i ⟨rfl, by decide, rfl⟩ hv_10
              · exact mTy_i ⟨rfl, by decide, rfl⟩ hv_11
              · exact mTy_i ⟨rfl, by decide, rfl⟩ hv_12
              · exact mTy_i ⟨rfl, by decide, rfl⟩ hv_13
              · exact mTy_i ⟨rfl, by decide, rfl⟩ hv_14
              · exact mTy_i ⟨rfl, by decide, rfl⟩ hv_17
              · exact mTy_i ⟨rfl, by decide, rfl⟩ hv_18
              · exact mTy_i ⟨rfl, by decide, rfl⟩ hv_19
              · exact mTy_i ⟨rfl, by decide, rfl⟩ hv_22
              · exact absurd hm (by decide)), hnp, (by omega), hn2, htk, ((hFs5.2 1 (by decide)).trans I_tick), ((hFs5.2 2 (by decide)).trans I_rule), ⟨_, ((hFs5.2 3 (by decide)).trans I_pace)⟩, ⟨_, ((hFs5.2 4 (by decide)).trans I_wait)⟩, ((hFs5.2 5 (by decide)).trans I_pages), hf9, ((hFs5.2 25 (by decide)).trans I_sales), ⟨_, ((hFs5.2 35 (by decide)).trans I_may)⟩, ⟨_, ((hFs5.2 39 (by decide)).trans I_spots)⟩, ⟨_, ((hFs5.2 43 (by decide)).trans I_bestSum)⟩, ⟨_, ((hFs5.2 44 (by decide)).trans I_bestFilled)⟩, ⟨_, ((hFs5.2 45 (by decide)).trans I_hasBest)⟩, ((hs.at hC.1 (by decide) (by decide)).trans F_marks), (fun g hg => cpl g ((hs.at hC.1 (by decide) (by decide)).symm.trans hg)), (fun g hg => csz g ((hs.at hC.1 (by decide) (by decide)).symm.trans hg)), hb9, hpb9, (fun g hg => cso g ((hs.at hC.1 (by decide) (by decide)).symm.trans hg))⟩
        clear hpm
        clear hrc
        refine lv_pop hx hb dL_law_235 rfl ?_
        refine lv_goto (tgt := 889) hx hb dL_law_236 (by decide) ?_
        refine lv_iinc (v := nI (4 * (j + 1))) (lv' := [(3, .int (nI (4 * (j + 1)))), (0, .ref b), (1, .ref h1), (2, .ref (rt 51))]) hx hb dL_law_889 hl (k := 3) rfl (by exact (nI_add (4 * j) 4).trans (congrArg nI (by omega))) (by decide) rfl (fun ls hl => ?_)
        refine lv_goto (tgt := 18) hx hb dL_law_892 (by decide) ?_
        exact W.widen (k := 60 + 4 * (512 - (n - 1))) (n := 13186 + 48 * (512 - (n - 1))) (by show 60 + 4 * (512 - n) + 2 ≤ _; omega) (by show 13186 + 48 * (512 - n) + 24 ≤ _; omega) (ih (n - 1) (by omega) _ _ _ ⟨j + 1, L1c, f1c, f2c, np, lcc, n1, _, tk, lk, tp, cp, gp, _, Gc, J, mk, stc, apc, kdc, snc, by omega, by omega, hI, hm_h1, hk_h1, hg7, hg8, hg9, hg12, hg13, by omega, hLn1, hM, hLn2, hdis, hLA1, hLA2, hP1, hP2, hS, lv_sub hl [1, 2, 3, 0] rfl⟩)
      · skip
        refine lv_tableIn (off := 207) (tgt := 239) hx hb dL_law_32 (by decide) (by decide) rfl (by decide) ?_
        refine lv_aload_n hx hb dL_law_239 rfl (lv_at hl 1 rfl) ?_
        refine lv_aload_n hx hb dL_law_240 rfl (lv_at hl 0 rfl) ?_
        refine lv_iload_n hx hb dL_law_241 rfl (lv_at hl 3 rfl) ?_
        refine lv_iconst (v := 1) hx hb dL_law_242 (by decide) ?_
        refine lv_iadd hx hb dL_law_243 ?_
        refine lv_topi (fun x_35 ex_35 => ?_)
        obtain rfl : x_35 = nI ((4 * j) + 1) := ex_35.trans (nI_add (4 * j) 1)
        refine va_sld hx hb hX hbl hbA hS (vp_in_nI (by omega) (by omega)) dL_law_244 ?_
        refine lv_topi (fun x_36 ex_36 => ?_)
        rw [nI_clamp (by omega)] at ex_36
        obtain rfl : sa1 = x_36 := (ex_36.trans hsa1).symm
        refine lv_aload_n hx hb dL_law_245 rfl (lv_at hl 0 rfl) ?_
        refine lv_iload_n hx hb dL_law_246 rfl (lv_at hl 3 rfl) ?_
        refine lv_iconst (v := 2) hx hb dL_law_247 (by decide) ?_
        refine lv_iadd hx hb dL_law_248 ?_
        refine lv_topi (fun x_37 ex_37 => ?_)
        obtain rfl : x_37 = nI ((4 * j) + 2) := ex_37.trans (nI_add (4 * j) 2)
        refine va_sld hx hb hX hbl hbA hS (vp_in_nI (by omega) (by omega)) dL_law_249 ?_
        refine lv_topi (fun x_38 ex_38 => ?_)
        rw [nI_clamp (by omega)] at ex_38
        obtain rfl : sa2 = x_38 := (ex_38.trans hsa2).symm
        refine lv_aload_n hx hb dL_law_250 rfl (lv_at hl 0 rfl) ?_
        refine lv_iload_n hx hb dL_law_251 rfl (lv_at hl 3 rfl) ?_
        refine lv_iconst (v := 3) hx hb dL_law_252 (by decide) ?_
        refine lv_iadd hx hb dL_law_253 ?_
        refine lv_topi (fun x_39 ex_39 => ?_)
        obtain rfl : x_39 = nI ((4 * j) + 3) := ex_39.trans (nI_add (4 * j) 3)
        refine va_sld hx hb hX hbl hbA hS (vp_in_nI (by omega) (by omega)) dL_law_254 ?_
        refine lv_topi (fun x_40 ex_40 => ?_)
        rw [nI_clamp (by omega)] at ex_40
        obtain rfl : sa3 = x_40 := (ex_40.trans hsa3).symm
        obtain ⟨fsc, hFc, -, -⟩ := hI.o hm_h1 hk_h1 rfl (ci := 5) rfl rfl
        refine lc_Mi (ci := 5) ⟨hx, hb, hml, hown, hts⟩ (k_X5_budget l dC dI K L1 f1 hI h1 hm_h1 hk_h1 sa1 sa2 sa3 hg8 hnc hLn1) 3 wm_571 wm_572 wm_573 wm_67 wm_574 (by decide +kernel) ⟨Nat.le_of_ble_eq_true rfl, Nat.le_of_ble_eq_true rfl⟩ hK rfl hm_h1 hFc rfl hl.1 rfl (Nat.le_of_ble_eq_true rfl) dL_law_255 ⟨by show 60 + 4 * (512 - n) + 0 ≤ 600000; omega, by show 13186 + 48 * (512 - n) + 0 ≤ 7302250; omega⟩ hLA1 hS hP1 hP2 hdis (fun r_41 f1c H locs hpc hP1 hP2 hS => ?_)
        obtain ⟨hI, hrc⟩ := hpc
        refine lv_pop hx hb dL_law_258 rfl ?_
        refine lv_aload_n hx hb dL_law_259 rfl (lv_at hl 2 rfl) ?_
        refine lv_aload_n hx hb dL_law_260 rfl (lv_at hl 0 rfl) ?_
        refine lv_iload_n hx hb dL_law_261 rfl (lv_at hl 3 rfl) ?_
        refine lv_iconst (v := 1) hx hb dL_law_262 (by decide) ?_
        refine lv_iadd hx hb dL_law_263 ?_
        refine lv_topi (fun x_42 ex_42 => ?_)
        obtain rfl : x_42 = nI ((4 * j) + 1) := ex_42.trans (nI_add (4 * j) 1)
        refine va_sld hx hb hX hbl hbA hS (vp_in_nI (by omega) (by omega)) dL_law_264 ?_
        refine lv_topi (fun x_43 ex_43 => ?_)
        rw [nI_clamp (by omega)] at ex_43
        obtain rfl : sa1 = x_43 := (ex_43.trans hsa1).symm
        refine lv_aload_n hx hb dL_law_265 rfl (lv_at hl 0 rfl) ?_
        refine lv_iload_n hx hb dL_law_266 rfl (lv_at hl 3 rfl) ?_
        refine lv_iconst (v := 2) hx hb dL_law_267 (by decide) ?_
        refine lv_iadd hx hb dL_law_268 ?_
        refine lv_topi (fun x_44 ex_44 => ?_)
        obtain rfl : x_44 = nI ((4 * j) + 2) := ex_44.trans (nI_add (4 * j) 2)
        refine va_sld hx hb hX hbl hbA hS (vp_in_nI (by omega) (by omega)) dL_law_269 ?_
        refine lv_topi (fun x_45 ex_45 => ?_)
        rw [nI_clamp (by omega)] at ex_45
        obtain rfl : sa2 = x_45 := (ex_45.trans hsa2).symm
        refine lv_aload_n hx hb dL_law_270 rfl (lv_at hl 0 rfl) ?_
        refine lv_iload_n hx hb dL_law_271 rfl (lv_at hl 3 rfl) ?_
        refine lv_iconst (v := 3) hx hb dL_law_272 (by decide) ?_
        refine lv_iadd hx hb dL_law_273 ?_
        refine lv_topi (fun x_46 ex_46 => ?_)
        obtain rfl : x_46 = nI ((4 * j) + 3) := ex_46.trans (nI_add (4 * j) 3)
        refine va_sld hx hb hX hbl hbA hS (vp_in_nI (by omega) (by omega)) dL_law_274 ?_
        refine lv_topi (fun x_47 ex_47 => ?_)
        rw [nI_clamp (by omega)] at ex_47
        obtain rfl : sa3 = x_47 := (ex_47.trans hsa3).symm
        obtain ⟨g_dayBudget, F_dayBudget⟩ := (hA2 15 (by decide)).i (t := 0) (n := 40) ⟨rfl, by decide, rfl⟩
        obtain ⟨g_allBudget, F_allBudget⟩ := (hA2 16 (by decide)).i (t := 0) (n := 40) ⟨rfl, by decide, rfl⟩
        refine lc_Mi (ci := 6) ⟨hx, hb, hml, hown, hts⟩ (um_budget l dC dI K L2 f2 rt hC F_dayBudget F_allBudget I_campaigns sa1 sa2 sa3 hnc hLn2) 3 wm_575 wm_576 wm_577 wm_8 wm_578 (by decide +kernel) ⟨Nat.le_of_ble_eq_true rfl, Nat.le_of_ble_eq_true rfl⟩ hK rfl (hC.1.1 51 (by decide)) hC.2.1 rfl hl.1 rfl (Nat.le_of_ble_eq_true rfl) dL_law_275 ⟨by show 60 + 4 * (512 - n) + 0 ≤ 600000; omega, by show 13186 + 48 * (512 - n) + 0 ≤ 7302250; omega⟩ hLA2 hS hP2 hP1 (fun a h2 h3 => hdis a h3 h2) (fun r_48 f2c H locs hpm hP2 hP1 hS => ?_)
        have hM : mI K rt L2 f2c np nc n2 tk ru mk := by
          rcases hpm with ⟨-, -, h9⟩ | ⟨-, -, h9⟩
          · rw [h9]; exact hM0
          · skip
            have hs : gSm rt [15, 16] f2 f2c := by rw [h9]; exact ((gSm.rf.up (k := 15) (by decide) _).up (k := 16) (by decide) _)
            have hv_15 : f2c (rt 15) = .inl (K 0, 40, .inl (upd g_dayBudget (Int32.toNatClampNeg sa1) sa2)) := by rw [h9, va_up_ne _ _ (fun q => absurd (hC.1.2 15 (by decide) 16 (by decide) q) (by decide)), va_up_self]
            have hv_16 : f2c (rt 16) = .inl (K 0, 40, .inl (upd g_allBudget (Int32.toNatClampNeg sa1) sa3)) := by rw [h9, va_up_self]
            exact ⟨fm, ⟨hC.1, (hs.at hC.1 (by decide) (by decide)).trans hC.2.1, hC.2.2⟩, mTy_keep hC.1 hA2 hs (by decide) (fun k hk hm => by
              simp only [List.mem_cons, List.not_mem_nil, or_false] at hk
              rcases hk with rfl | rfl
              · exact mTy_i ⟨rfl, by decide, rfl⟩ hv_15
              · exact mTy_i ⟨rfl, by decide, rfl⟩ hv_16), hnp, hnc, hn2, htk, I_tick, I_rule, ⟨_, I_pace⟩, ⟨_, I_wait⟩, I_pages, I_campaigns, I_sales, ⟨_, I_may⟩, ⟨_, I_spots⟩, ⟨_, I_bestSum⟩, ⟨_, I_bestFilled⟩, ⟨_, I_hasBest⟩, ((hs.at hC.1 (by decide) (by decide)).trans F_marks), (fun g hg => cpl g ((hs.at hC.1 (by decide) (by decide)).symm.trans hg)), (fun g hg => csz g ((hs.at hC.1 (by decide) (by decide)).symm.trans hg)), (fun g hg => cbd g ((hs.at hC.1 (by decide) (by decide)).symm.trans hg)), (fun g1 g2 g3 a1 a2 a3 => cpb g1 g2 g3 ((hs.at hC.1 (by decide) (by decide)).symm.trans a1) ((hs.at hC.1 (by decide) (by decide)).symm.trans a2) ((hs.at hC.1 (by decide) (by decide)).symm.trans a3)), (fun g hg => cso g ((hs.at hC.1 (by decide) (by decide)).symm.trans hg))⟩
        clear hpm
        clear hrc
        refine lv_pop hx hb dL_law_278 rfl ?_
        refine lv_goto (tgt := 889) hx hb dL_law_279 (by decide) ?_
        refine lv_iinc (v := nI (4 * (j + 1))) (lv' := [(3, .int (nI (4 * (j + 1)))), (0, .ref b), (1, .ref h1), (2, .ref (rt 51))]) hx hb dL_law_889 hl (k := 3) rfl (by exact (nI_add (4 * j) 4).trans (congrArg nI (by omega))) (by decide) rfl (fun ls hl => ?_)
        refine lv_goto (tgt := 18) hx hb dL_law_892 (by decide) ?_
        exact W.widen (k := 60 + 4 * (512 - (n - 1))) (n := 13186 + 48 * (512 - (n - 1))) (by show 60 + 4 * (512 - n) ≤ _; omega) (by show 13186 + 48 * (512 - n) ≤ _; omega) (ih (n - 1) (by omega) _ _ _ ⟨j + 1, L1, f1c, f2c, np, nc, n1, _, tk, lk, tp, cp, gp, _, G, J, mk, st, ap, kd, sn, by omega, by omega, hI, hm_h1, hk_h1, hg7, hg8, hg9, hg12, hg13, by omega, hLn1, hM, hLn2, hdis, hLA1, hLA2, hP1, hP2, hS, lv_sub hl [1, 2, 3, 0] rfl⟩)
      · skip
        refine lv_tableIn (off := 250) (tgt := 282) hx hb dL_law_32 (by decide) (by decide) rfl (by decide) ?_
        refine lv_aload_n hx hb dL_law_282 rfl (lv_at hl 1 rfl) ?_
        refine lv_aload_n hx hb dL_law_283 rfl (lv_at hl 0 rfl) ?_
        refine lv_iload_n hx hb dL_law_284 rfl (lv_at hl 3 rfl) ?_
        refine lv_iconst (v := 1) hx hb dL_law_285 (by decide) ?_
        refine lv_iadd hx hb dL_law_286 ?_
        refine lv_topi (fun x_49 ex_49 => ?_)
        obtain rfl : x_49 = nI ((4 * j) + 1) := ex_49.trans (nI_add (4 * j) 1)
        refine va_sld hx hb hX hbl hbA hS (vp_in_nI (by omega) (by omega)) dL_law_287 ?_
        refine lv_topi (fun x_50 ex_50 => ?_)
        rw [nI_clamp (by omega)] at ex_50
        obtain rfl : sa1 = x_50 := (ex_50.trans hsa1).symm
        refine lv_aload_n hx hb dL_law_288 rfl (lv_at hl 0 rfl) ?_
        refine lv_iload_n hx hb dL_law_289 rfl (lv_at hl 3 rfl) ?_
        refine lv_iconst (v := 2) hx hb dL_law_290 (by decide) ?_
        refine lv_iadd hx hb dL_law_291 ?_
        refine lv_topi (fun x_51 ex_51 => ?_)
        obtain rfl : x_51 = nI ((4 * j) + 2) := ex_51.trans (nI_add (4 * j) 2)
        refine va_sld hx hb hX hbl hbA hS (vp_in_nI (by omega) (by omega)) dL_law_292 ?_
        refine lv_topi (fun x_52 ex_52 => ?_)
        rw [nI_clamp (by omega)] at ex_52
        obtain rfl : sa2 = x_52 := (ex_52.trans hsa2).symm
        refine lv_aload_n hx hb dL_law_293 rfl (lv_at hl 0 rfl) ?_
        refine lv_iload_n hx hb dL_law_294 rfl (lv_at hl 3 rfl) ?_
        refine lv_iconst (v := 3) hx hb dL_law_295 (by decide) ?_
        refine lv_iadd hx hb dL_law_296 ?_
        refine lv_topi (fun x_53 ex_53 => ?_)
        obtain rfl : x_53 = nI ((4 * j) + 3) := ex_53.trans (nI_add (4 * j) 3)
        refine va_sld hx hb hX hbl hbA hS (vp_in_nI (by omega) (by omega)) dL_law_297 ?_
        refine lv_topi (fun x_54 ex_54 => ?_)
        rw [nI_clamp (by omega)] at ex_54
        obtain rfl : sa3 = x_54 := (ex_54.trans hsa3).symm
        obtain ⟨fsc, hFc, -, -⟩ := hI.o hm_h1 hk_h1 rfl (ci := 5) rfl rfl
        refine lc_Mi (ci := 5) ⟨hx, hb, hml, hown, hts⟩ (k_X5_cap l dC dI K L1 f1 hI h1 hm_h1 hk_h1 sa1 sa2 sa3 hg8 hnc hLn1) 3 wm_579 wm_580 wm_581 wm_67 wm_582 (by decide +kernel) ⟨Nat.le_of_ble_eq_true rfl, Nat.le_of_ble_eq_true rfl⟩ hK rfl hm_h1 hFc rfl hl.1 rfl (Nat.le_of_ble_eq_true rfl) dL_law_298 ⟨by show 60 + 4 * (512 - n) + 0 ≤ 600000; omega, by show 13186 + 48 * (512 - n) + 0 ≤ 7302250; omega⟩ hLA1 hS hP1 hP2 hdis (fun r_55 f1c H locs hpc hP1 hP2 hS => ?_)
        obtain ⟨hI, hrc⟩ := hpc
        refine lv_pop hx hb dL_law_301 rfl ?_
        refine lv_aload_n hx hb dL_law_302 rfl (lv_at hl 2 rfl) ?_
        refine lv_aload_n hx hb dL_law_303 rfl (lv_at hl 0 rfl) ?_
        refine lv_iload_n hx hb dL_law_304 rfl (lv_at hl 3 rfl) ?_
        refine lv_iconst (v := 1) hx hb dL_law_305 (by decide) ?_
        refine lv_iadd hx hb dL_law_306 ?_
        refine lv_topi (fun x_56 ex_56 => ?_)
        obtain rfl : x_56 = nI ((4 * j) + 1) := ex_56.trans (nI_add (4 * j) 1)
        refine va_sld hx hb hX hbl hbA hS (vp_in_nI (by omega) (by omega)) dL_law_307 ?_
        refine lv_topi (fun x_57 ex_57 => ?_)
        rw [nI_clamp (by omega)] at ex_57
        obtain rfl : sa1 = x_57 := (ex_57.trans hsa1).symm
        refine lv_aload_n hx hb dL_law_308 rfl (lv_at hl 0 rfl) ?_
        refine lv_iload_n hx hb dL_law_309 rfl (lv_at hl 3 rfl) ?_
        refine lv_iconst (v := 2) hx hb dL_law_310 (by decide) ?_
        refine lv_iadd hx hb dL_law_311 ?_
        refine lv_topi (fun x_58 ex_58 => ?_)
        obtain rfl : x_58 = nI ((4 * j) + 2) := ex_58.trans (nI_add (4 * j) 2)
        refine va_sld hx hb hX hbl hbA hS (vp_in_nI (by omega) (by omega)) dL_law_312 ?_
        refine lv_topi (fun x_59 ex_59 => ?_)
        rw [nI_clamp (by omega)] at ex_59
        obtain rfl : sa2 = x_59 := (ex_59.trans hsa2).symm
        refine lv_aload_n hx hb dL_law_313 rfl (lv_at hl 0 rfl) ?_
        refine lv_iload_n hx hb dL_law_314 rfl (lv_at hl 3 rfl) ?_
        refine lv_iconst (v := 3) hx hb dL_law_315 (by decide) ?_
        refine lv_iadd hx hb dL_law_316 ?_
        refine lv_topi (fun x_60 ex_60 => ?_)
        obtain rfl : x_60 = nI ((4 * j) + 3) := ex_60.trans (nI_add (4 * j) 3)
        refine va_sld hx hb hX hbl hbA hS (vp_in_nI (by omega) (by omega)) dL_law_317 ?_
        refine lv_topi (fun x_61 ex_61 => ?_)
        rw [nI_clamp (by omega)] at ex_61
        obtain rfl : sa3 = x_61 := (ex_61.trans hsa3).symm
        obtain ⟨g_cap, F_cap⟩ := (hA2 17 (by decide)).i (t := 0) (n := 40) ⟨rfl, by decide, rfl⟩
        obtain ⟨g_span, F_span⟩ := (hA2 18 (by decide)).i (t := 0) (n := 40) ⟨rfl, by decide, rfl⟩
        refine lc_Mi (ci := 6) ⟨hx, hb, hml, hown, hts⟩ (um_cap l dC dI K L2 f2 rt hC F_cap F_span I_campaigns sa1 sa2 sa3 hnc hLn2) 3 wm_583 wm_584 wm_585 wm_8 wm_586 (by decide +kernel) ⟨Nat.le_of_ble_eq_true rfl, Nat.le_of_ble_eq_true rfl⟩ hK rfl (hC.1.1 51 (by decide)) hC.2.1 rfl hl.1 rfl (Nat.le_of_ble_eq_true rfl) dL_law_318 ⟨by show 60 + 4 * (512 - n) + 0 ≤ 600000; omega, by show 13186 + 48 * (512 - n) + 0 ≤ 7302250; omega⟩ hLA2 hS hP2 hP1 (fun a h2 h3 => hdis a h3 h2) (fun r_62 f2c H locs hpm hP2 hP1 hS => ?_)
        have hM : mI K rt L2 f2c np nc n2 tk ru mk := by
          rcases hpm with ⟨-, -, h9⟩ | ⟨-, -, h9⟩
          · rw [h9]; exact hM0
          · skip
            have hs : gSm rt [17, 18] f2 f2c := by rw [h9]; exact ((gSm.rf.up (k := 17) (by decide) _).up (k := 18) (by decide) _)
            have hv_17 : f2c (rt 17) = .inl (K 0, 40, .inl (upd g_cap (Int32.toNatClampNeg sa1) sa2)) := by rw [h9, va_up_ne _ _ (fun q => absurd (hC.1.2 17 (by decide) 18 (by decide) q) (by decide)), va_up_self]
            have hv_18 : f2c (rt 18) = .inl (K 0, 40, .inl (upd g_span (Int32.toNatClampNeg sa1) sa3)) := by rw [h9, va_up_self]
            exact ⟨fm, ⟨hC.1, (hs.at hC.1 (by decide) (by decide)).trans hC.2.1, hC.2.2⟩, mTy_keep hC.1 hA2 hs (by decide) (fun k hk hm => by
              simp only [List.mem_cons, List.not_mem_nil, or_false] at hk
              rcases hk with rfl | rfl
              · exact mTy_i ⟨rfl, by decide, rfl⟩ hv_17
              · exact mTy_i ⟨rfl, by decide, rfl⟩ hv_18), hnp, hnc, hn2, htk, I_tick, I_rule, ⟨_, I_pace⟩, ⟨_, I_wait⟩, I_pages, I_campaigns, I_sales, ⟨_, I_may⟩, ⟨_, I_spots⟩, ⟨_, I_bestSum⟩, ⟨_, I_bestFilled⟩, ⟨_, I_hasBest⟩, ((hs.at hC.1 (by decide) (by decide)).trans F_marks), (fun g hg => cpl g ((hs.at hC.1 (by decide) (by decide)).symm.trans hg)), (fun g hg => csz g ((hs.at hC.1 (by decide) (by decide)).symm.trans hg)), (fun g hg => cbd g ((hs.at hC.1 (by decide) (by decide)).symm.trans hg)), (fun g1 g2 g3 a1 a2 a3 => cpb g1 g2 g3 ((hs.at hC.1 (by decide) (by decide)).symm.trans a1) ((hs.at hC.1 (by decide) (by decide)).symm.trans a2) ((hs.at hC.1 (by decide) (by decide)).symm.trans a3)), (fun g hg => cso g ((hs.at hC.1 (by decide) (by decide)).symm.trans hg))⟩
        clear hpm
        clear hrc
        refine lv_pop hx hb dL_law_321 rfl ?_
        refine lv_goto (tgt := 889) hx hb dL_law_322 (by decide) ?_
        refine lv_iinc (v := nI (4 * (j + 1))) (lv' := [(3, .int (nI (4 * (j + 1)))), (0, .ref b), (1, .ref h1), (2, .ref (rt 51))]) hx hb dL_law_889 hl (k := 3) rfl (by exact (nI_add (4 * j) 4).trans (congrArg nI (by omega))) (by decide) rfl (fun ls hl => ?_)
        refine lv_goto (tgt := 18) hx hb dL_law_892 (by decide) ?_
        exact W.widen (k := 60 + 4 * (512 - (n - 1))) (n := 13186 + 48 * (512 - (n - 1))) (by show 60 + 4 * (512 - n) ≤ _; omega) (by show 13186 + 48 * (512 - n) ≤ _; omega) (ih (n - 1) (by omega) _ _ _ ⟨j + 1, L1, f1c, f2c, np, nc, n1, _, tk, lk, tp, cp, gp, _, G, J, mk, st, ap, kd, sn, by omega, by omega, hI, hm_h1, hk_h1, hg7, hg8, hg9, hg12, hg13, by omega, hLn1, hM, hLn2, hdis, hLA1, hLA2, hP1, hP2, hS, lv_sub hl [1, 2, 3, 0] rfl⟩)
      · skip
        refine lv_tableIn (off := 293) (tgt := 325) hx hb dL_law_32 (by decide) (by decide) rfl (by decide) ?_
        refine lv_aload_n hx hb dL_law_325 rfl (lv_at hl 1 rfl) ?_
        refine lv_aload_n hx hb dL_law_326 rfl (lv_at hl 0 rfl) ?_
        refine lv_iload_n hx hb dL_law_327 rfl (lv_at hl 3 rfl) ?_
        refine lv_iconst (v := 1) hx hb dL_law_328 (by decide) ?_
        refine lv_iadd hx hb dL_law_329 ?_
        refine lv_topi (fun x_63 ex_63 => ?_)
        obtain rfl : x_63 = nI ((4 * j) + 1) := ex_63.trans (nI_add (4 * j) 1)
        refine va_sld hx hb hX hbl hbA hS (vp_in_nI (by omega) (by omega)) dL_law_330 ?_
        refine lv_topi (fun x_64 ex_64 => ?_)
        rw [nI_clamp (by omega)] at ex_64
        obtain rfl : sa1 = x_64 := (ex_64.trans hsa1).symm
        refine lv_aload_n hx hb dL_law_331 rfl (lv_at hl 0 rfl) ?_
        refine lv_iload_n hx hb dL_law_332 rfl (lv_at hl 3 rfl) ?_
        refine lv_iconst (v := 2) hx hb dL_law_333 (by decide) ?_
        refine lv_iadd hx hb dL_law_334 ?_
        refine lv_topi (fun x_65 ex_65 => ?_)
        obtain rfl : x_65 = nI ((4 * j) + 2) := ex_65.trans (nI_add (4 * j) 2)
        refine va_sld hx hb hX hbl hbA hS (vp_in_nI (by omega) (by omega)) dL_law_335 ?_
        refine lv_topi (fun x_66 ex_66 => ?_)
        rw [nI_clamp (by omega)] at ex_66
        obtain rfl : sa2 = x_66 := (ex_66.trans hsa2).symm
        refine lv_aload_n hx hb dL_law_336 rfl (lv_at hl 0 rfl) ?_
        refine lv_iload_n hx hb dL_law_337 rfl (lv_at hl 3 rfl) ?_
        refine lv_iconst (v := 3) hx hb dL_law_338 (by decide) ?_
        refine lv_iadd hx hb dL_law_339 ?_
        refine lv_topi (fun x_67 ex_67 => ?_)
        obtain rfl : x_67 = nI ((4 * j) + 3) := ex_67.trans (nI_add (4 * j) 3)
        refine va_sld hx hb hX hbl hbA hS (vp_in_nI (by omega) (by omega)) dL_law_340 ?_
        refine lv_topi (fun x_68 ex_68 => ?_)
        rw [nI_clamp (by omega)] at ex_68
        obtain rfl : sa3 = x_68 := (ex_68.trans hsa3).symm
        obtain ⟨fsc, hFc, -, -⟩ := hI.o hm_h1 hk_h1 rfl (ci := 5) rfl rfl
        refine lc_Mi (ci := 5) ⟨hx, hb, hml, hown, hts⟩ (k_X5_apart l dC dI K L1 f1 hI h1 hm_h1 hk_h1 sa1 sa2 sa3 hg8 hnc hLn1) 3 wm_587 wm_588 wm_589 wm_67 wm_590 (by decide +kernel) ⟨Nat.le_of_ble_eq_true rfl, Nat.le_of_ble_eq_true rfl⟩ hK rfl hm_h1 hFc rfl hl.1 rfl (Nat.le_of_ble_eq_true rfl) dL_law_341 ⟨by show 60 + 4 * (512 - n) + 0 ≤ 600000; omega, by show 13186 + 48 * (512 - n) + 0 ≤ 7302250; omega⟩ hLA1 hS hP1 hP2 hdis (fun r_69 f1c H locs hpc hP1 hP2 hS => ?_)
        obtain ⟨apc, hI, hrc⟩ := hpc
        refine lv_pop hx hb dL_law_344 rfl ?_
        refine lv_aload_n hx hb dL_law_345 rfl (lv_at hl 2 rfl) ?_
        refine lv_aload_n hx hb dL_law_346 rfl (lv_at hl 0 rfl) ?_
        refine lv_iload_n hx hb dL_law_347 rfl (lv_at hl 3 rfl) ?_
        refine lv_iconst (v := 1) hx hb dL_law_348 (by decide) ?_
        refine lv_iadd hx hb dL_law_349 ?_
        refine lv_topi (fun x_70 ex_70 => ?_)
        obtain rfl : x_70 = nI ((4 * j) + 1) := ex_70.trans (nI_add (4 * j) 1)
        refine va_sld hx hb hX hbl hbA hS (vp_in_nI (by omega) (by omega)) dL_law_350 ?_
        refine lv_topi (fun x_71 ex_71 => ?_)
        rw [nI_clamp (by omega)] at ex_71
        obtain rfl : sa1 = x_71 := (ex_71.trans hsa1).symm
        refine lv_aload_n hx hb dL_law_351 rfl (lv_at hl 0 rfl) ?_
        refine lv_iload_n hx hb dL_law_352 rfl (lv_at hl 3 rfl) ?_
        refine lv_iconst (v := 2) hx hb dL_law_353 (by decide) ?_
        refine lv_iadd hx hb dL_law_354 ?_
        refine lv_topi (fun x_72 ex_72 => ?_)
        obtain rfl : x_72 = nI ((4 * j) + 2) := ex_72.trans (nI_add (4 * j) 2)
        refine va_sld hx hb hX hbl hbA hS (vp_in_nI (by omega) (by omega)) dL_law_355 ?_
        refine lv_topi (fun x_73 ex_73 => ?_)
        rw [nI_clamp (by omega)] at ex_73
        obtain rfl : sa2 = x_73 := (ex_73.trans hsa2).symm
        refine lv_aload_n hx hb dL_law_356 rfl (lv_at hl 0 rfl) ?_
        refine lv_iload_n hx hb dL_law_357 rfl (lv_at hl 3 rfl) ?_
        refine lv_iconst (v := 3) hx hb dL_law_358 (by decide) ?_
        refine lv_iadd hx hb dL_law_359 ?_
        refine lv_topi (fun x_74 ex_74 => ?_)
        obtain rfl : x_74 = nI ((4 * j) + 3) := ex_74.trans (nI_add (4 * j) 3)
        refine va_sld hx hb hX hbl hbA hS (vp_in_nI (by omega) (by omega)) dL_law_360 ?_
        refine lv_topi (fun x_75 ex_75 => ?_)
        rw [nI_clamp (by omega)] at ex_75
        obtain rfl : sa3 = x_75 := (ex_75.trans hsa3).symm
        obtain ⟨g_apart, F_apart⟩ := (hA2 21 (by decide)).i (t := 2) (n := 1600) ⟨rfl, by decide, rfl⟩
        refine lc_Mi (ci := 6) ⟨hx, hb, hml, hown, hts⟩ (um_apart l dC dI K L2 f2 rt hC F_apart I_campaigns sa1 sa2 sa3 hnc hLn2) 3 wm_591 wm_592 wm_593 wm_8 wm_594 (by decide +kernel) ⟨Nat.le_of_ble_eq_true rfl, Nat.le_of_ble_eq_true rfl⟩ hK rfl (hC.1.1 51 (by decide)) hC.2.1 rfl hl.1 rfl (Nat.le_of_ble_eq_true rfl) dL_law_361 ⟨by show 60 + 4 * (512 - n) + 0 ≤ 600000; omega, by show 13186 + 48 * (512 - n) + 0 ≤ 7302250; omega⟩ hLA2 hS hP2 hP1 (fun a h2 h3 => hdis a h3 h2) (fun r_76 f2c H locs hpm hP2 hP1 hS => ?_)
        have hM : mI K rt L2 f2c np nc n2 tk ru mk := by
          rcases hpm with ⟨-, -, h9⟩ | ⟨-, -, h9⟩
          · rw [h9]; exact hM0
          · skip
            have hs : gSm rt [21] f2 f2c := by rw [h9]; exact ((gSm.rf.up (k := 21) (by decide) _).up (k := 21) (by decide) _)
            have hv_21 : f2c (rt 21) = .inl (K 2, 1600, .inl (upd (upd g_apart (Int32.toNatClampNeg (40 * sa1 + sa2)) (vp_nar .boolean sa3)) (Int32.toNatClampNeg (40 * sa2 + sa1)) (vp_nar .boolean sa3))) := by rw [h9, va_up_self]
            exact ⟨fm, ⟨hC.1, (hs.at hC.1 (by decide) (by decide)).trans hC.2.1, hC.2.2⟩, mTy_keep hC.1 hA2 hs (by decide) (fun k hk hm => by
              simp only [List.mem_cons, List.not_mem_nil, or_false] at hk
              rcases hk with rfl
              · exact mTy_i ⟨rfl, by decide, rfl⟩ hv_21), hnp, hnc, hn2, htk, I_tick, I_rule, ⟨_, I_pace⟩, ⟨_, I_wait⟩, I_pages, I_campaigns, I_sales, ⟨_, I_may⟩, ⟨_, I_spots⟩, ⟨_, I_bestSum⟩, ⟨_, I_bestFilled⟩, ⟨_, I_hasBest⟩, ((hs.at hC.1 (by decide) (by decide)).trans F_marks), (fun g hg => cpl g ((hs.at hC.1 (by decide) (by decide)).symm.trans hg)), (fun g hg => csz g ((hs.at hC.1 (by decide) (by decide)).symm.trans hg)), (fun g hg => cbd g ((hs.at hC.1 (by decide) (by decide)).symm.trans hg)), (fun g1 g2 g3 a1 a2 a3 => cpb g1 g2 g3 ((hs.at hC.1 (by decide) (by decide)).symm.trans a1) ((hs.at hC.1 (by decide) (by decide)).symm.trans a2) ((hs.at hC.1 (by decide) (by decide)).symm.trans a3)), (fun g hg => cso g ((hs.at hC.1 (by decide) (by decide)).symm.trans hg))⟩
        clear hpm
        clear hrc
        refine lv_pop hx hb dL_law_364 rfl ?_
        refine lv_goto (tgt := 889) hx hb dL_law_365 (by decide) ?_
        refine lv_iinc (v := nI (4 * (j + 1))) (lv' := [(3, .int (nI (4 * (j + 1)))), (0, .ref b), (1, .ref h1), (2, .ref (rt 51))]) hx hb dL_law_889 hl (k := 3) rfl (by exact (nI_add (4 * j) 4).trans (congrArg nI (by omega))) (by decide) rfl (fun ls hl => ?_)
        refine lv_goto (tgt := 18) hx hb dL_law_892 (by decide) ?_
        exact W.widen (k := 60 + 4 * (512 - (n - 1))) (n := 13186 + 48 * (512 - (n - 1))) (by show 60 + 4 * (512 - n) ≤ _; omega) (by show 13186 + 48 * (512 - n) ≤ _; omega) (ih (n - 1) (by omega) _ _ _ ⟨j + 1, L1, f1c, f2c, np, nc, n1, _, tk, lk, tp, cp, gp, _, G, J, mk, st, apc, kd, sn, by omega, by omega, hI, hm_h1, hk_h1, hg7, hg8, hg9, hg12, hg13, by omega, hLn1, hM, hLn2, hdis, hLA1, hLA2, hP1, hP2, hS, lv_sub hl [1, 2, 3, 0] rfl⟩)
      · skip
        refine lv_tableIn (off := 336) (tgt := 368) hx hb dL_law_32 (by decide) (by decide) rfl (by decide) ?_
        refine lv_aload_n hx hb dL_law_368 rfl (lv_at hl 1 rfl) ?_
        refine lv_aload_n hx hb dL_law_369 rfl (lv_at hl 0 rfl) ?_
        refine lv_iload_n hx hb dL_law_370 rfl (lv_at hl 3 rfl) ?_
        refine lv_iconst (v := 1) hx hb dL_law_371 (by decide) ?_
        refine lv_iadd hx hb dL_law_372 ?_
        refine lv_topi (fun x_77 ex_77 => ?_)
        obtain rfl : x_77 = nI ((4 * j) + 1) := ex_77.trans (nI_add (4 * j) 1)
        refine va_sld hx hb hX hbl hbA hS (vp_in_nI (by omega) (by omega)) dL_law_373 ?_
        refine lv_topi (fun x_78 ex_78 => ?_)
        rw [nI_clamp (by omega)] at ex_78
        obtain rfl : sa1 = x_78 := (ex_78.trans hsa1).symm
        refine lv_aload_n hx hb dL_law_374 rfl (lv_at hl 0 rfl) ?_
        refine lv_iload_n hx hb dL_law_375 rfl (lv_at hl 3 rfl) ?_
        refine lv_iconst (v := 2) hx hb dL_law_376 (by decide) ?_
        refine lv_iadd hx hb dL_law_377 ?_
        refine lv_topi (fun x_79 ex_79 => ?_)
        obtain rfl : x_79 = nI ((4 * j) + 2) := ex_79.trans (nI_add (4 * j) 2)
        refine va_sld hx hb hX hbl hbA hS (vp_in_nI (by omega) (by omega)) dL_law_378 ?_
        refine lv_topi (fun x_80 ex_80 => ?_)
        rw [nI_clamp (by omega)] at ex_80
        obtain rfl : sa2 = x_80 := (ex_80.trans hsa2).symm
        refine lv_aload_n hx hb dL_law_379 rfl (lv_at hl 0 rfl) ?_
        refine lv_iload_n hx hb dL_law_380 rfl (lv_at hl 3 rfl) ?_
        refine lv_iconst (v := 3) hx hb dL_law_381 (by decide) ?_
        refine lv_iadd hx hb dL_law_382 ?_
        refine lv_topi (fun x_81 ex_81 => ?_)
        obtain rfl : x_81 = nI ((4 * j) + 3) := ex_81.trans (nI_add (4 * j) 3)
        refine va_sld hx hb hX hbl hbA hS (vp_in_nI (by omega) (by omega)) dL_law_383 ?_
        refine lv_topi (fun x_82 ex_82 => ?_)
        rw [nI_clamp (by omega)] at ex_82
        obtain rfl : sa3 = x_82 := (ex_82.trans hsa3).symm
        obtain ⟨fsc, hFc, -, -⟩ := hI.o hm_h1 hk_h1 rfl (ci := 5) rfl rfl
        refine lc_Mi (ci := 5) ⟨hx, hb, hml, hown, hts⟩ (k_X5_promise l dC dI K L1 f1 hI h1 hm_h1 hk_h1 sa1 sa2 sa3 hg8 hg12 hnc hLn1) 3 wm_595 wm_596 wm_597 wm_67 wm_598 (by decide +kernel) ⟨Nat.le_of_ble_eq_true rfl, Nat.le_of_ble_eq_true rfl⟩ hK rfl hm_h1 hFc rfl hl.1 rfl (Nat.le_of_ble_eq_true rfl) dL_law_384 ⟨by show 60 + 4 * (512 - n) + 0 ≤ 600000; omega, by show 13186 + 48 * (512 - n) + 0 ≤ 7302250; omega⟩ hLA1 hS hP1 hP2 hdis (fun r_83 f1c H locs hpc hP1 hP2 hS => ?_)
        have hI := hpc
        refine lv_pop hx hb dL_law_387 rfl ?_
        refine lv_aload_n hx hb dL_law_388 rfl (lv_at hl 2 rfl) ?_
        refine lv_aload_n hx hb dL_law_389 rfl (lv_at hl 0 rfl) ?_
        refine lv_iload_n hx hb dL_law_390 rfl (lv_at hl 3 rfl) ?_
        refine lv_iconst (v := 1) hx hb dL_law_391 (by decide) ?_
        refine lv_iadd hx hb dL_law_392 ?_
        refine lv_topi (fun x_84 ex_84 => ?_)
        obtain rfl : x_84 = nI ((4 * j) + 1) := ex_84.trans (nI_add (4 * j) 1)
        refine va_sld hx hb hX hbl hbA hS (vp_in_nI (by omega) (by omega)) dL_law_393 ?_
        refine lv_topi (fun x_85 ex_85 => ?_)
        rw [nI_clamp (by omega)] at ex_85
        obtain rfl : sa1 = x_85 := (ex_85.trans hsa1).symm
        refine lv_aload_n hx hb dL_law_394 rfl (lv_at hl 0 rfl) ?_
        refine lv_iload_n hx hb dL_law_395 rfl (lv_at hl 3 rfl) ?_
        refine lv_iconst (v := 2) hx hb dL_law_396 (by decide) ?_
        refine lv_iadd hx hb dL_law_397 ?_
        refine lv_topi (fun x_86 ex_86 => ?_)
        obtain rfl : x_86 = nI ((4 * j) + 2) := ex_86.trans (nI_add (4 * j) 2)
        refine va_sld hx hb hX hbl hbA hS (vp_in_nI (by omega) (by omega)) dL_law_398 ?_
        refine lv_topi (fun x_87 ex_87 => ?_)
        rw [nI_clamp (by omega)] at ex_87
        obtain rfl : sa2 = x_87 := (ex_87.trans hsa2).symm
        refine lv_aload_n hx hb dL_law_399 rfl (lv_at hl 0 rfl) ?_
        refine lv_iload_n hx hb dL_law_400 rfl (lv_at hl 3 rfl) ?_
        refine lv_iconst (v := 3) hx hb dL_law_401 (by decide) ?_
        refine lv_iadd hx hb dL_law_402 ?_
        refine lv_topi (fun x_88 ex_88 => ?_)
        obtain rfl : x_88 = nI ((4 * j) + 3) := ex_88.trans (nI_add (4 * j) 3)
        refine va_sld hx hb hX hbl hbA hS (vp_in_nI (by omega) (by omega)) dL_law_403 ?_
        refine lv_topi (fun x_89 ex_89 => ?_)
        rw [nI_clamp (by omega)] at ex_89
        obtain rfl : sa3 = x_89 := (ex_89.trans hsa3).symm
        obtain ⟨g_sort, F_sort⟩ := (hA2 10 (by decide)).i (t := 0) (n := 40) ⟨rfl, by decide, rfl⟩
        obtain ⟨g_promised, F_promised⟩ := (hA2 22 (by decide)).i (t := 0) (n := 40) ⟨rfl, by decide, rfl⟩
        obtain ⟨g_promiseDay, F_promiseDay⟩ := (hA2 23 (by decide)).i (t := 0) (n := 40) ⟨rfl, by decide, rfl⟩
        obtain ⟨g_promiseFrom, F_promiseFrom⟩ := (hA2 24 (by decide)).i (t := 0) (n := 40) ⟨rfl, by decide, rfl⟩
        refine lc_Mi (ci := 6) ⟨hx, hb, hml, hown, hts⟩ (um_promise l dC dI K L2 f2 rt hC F_sort F_promised F_promiseDay F_promiseFrom I_campaigns I_tick sa1 sa2 sa3 hnc hLn2) 3 wm_599 wm_600 wm_601 wm_8 wm_602 (by decide +kernel) ⟨Nat.le_of_ble_eq_true rfl, Nat.le_of_ble_eq_true rfl⟩ hK rfl (hC.1.1 51 (by decide)) hC.2.1 rfl hl.1 rfl (Nat.le_of_ble_eq_true rfl) dL_law_404 ⟨by show 60 + 4 * (512 - n) + 0 ≤ 600000; omega, by show 13186 + 48 * (512 - n) + 0 ≤ 7302250; omega⟩ hLA2 hS hP2 hP1 (fun a h2 h3 => hdis a h3 h2) (fun r_90 f2c H locs hpm hP2 hP1 hS => ?_)
        have hM : mI K rt L2 f2c np nc n2 tk ru mk := by
          rcases hpm with ⟨-, -, h9⟩ | ⟨-, -, -, h9⟩ | ⟨q1, -, -, h9⟩
          · rw [h9]; exact hM0
          · rw [h9]; exact hM0
          · skip
            have hs : gSm rt [22, 23, 24] f2 f2c := by rw [h9]; exact (((gSm.rf.up (k := 22) (by decide) _).up (k := 23) (by decide) _).up (k := 24) (by decide) _)
            have hv_22 : f2c (rt 22) = .inl (K 0, 40, .inl (upd g_promised (Int32.toNatClampNeg sa1) sa2)) := by rw [h9, va_up_ne _ _ (fun q => absurd (hC.1.2 22 (by decide) 24 (by decide) q) (by decide)), va_up_ne _ _ (fun q => absurd (hC.1.2 22 (by decide) 23 (by decide) q) (by decide)), va_up_self]
            have hv_23 : f2c (rt 23) = .inl (K 0, 40, .inl (upd g_promiseDay (Int32.toNatClampNeg sa1) sa3)) := by rw [h9, va_up_ne _ _ (fun q => absurd (hC.1.2 23 (by decide) 24 (by decide) q) (by decide)), va_up_self]
            have hv_24 : f2c (rt 24) = .inl (K 0, 40, .inl (upd g_promiseFrom (Int32.toNatClampNeg sa1) (nI tk))) := by rw [h9, va_up_self]
            have hpb9 : ∀ g1 g2 g3 : Nat → Int32, f2c (rt 22) = .inl (K 0, 40, .inl g1) → f2c (rt 23) = .inl (K 0, 40, .inl g2) → f2c (rt 24) = .inl (K 0, 40, .inl g3) → ∀ c, c < 40 → g1 c = 0 ∨ ∃ a d : Nat, d ≤ 100 ∧ a < 100 * d + 100 ∧ g2 c = nI d ∧ g3 c = nI a := fun g1 g2 g3 a1 a2 a3 c hc => by
              rw [up_arr hv_22 a1, up_arr hv_23 a2, up_arr hv_24 a3]
              by_cases q : c = Int32.toNatClampNeg sa1
              · rw [q, pk_us, pk_us, pk_us]; exact Or.inr (pb_new htk q1.2.2.1 q1.2.2.2)
              · rw [pk_un q, pk_un q, pk_un q]; exact cpb _ _ _ F_promised F_promiseDay F_promiseFrom c hc
            exact ⟨fm, ⟨hC.1, (hs.at hC.1 (by decide) (by decide)).trans hC.2.1, hC.2.2⟩, mTy_keep hC.1 hA2 hs (by decide) (fun k hk hm => by
              simp only [List.mem_cons, List.not_mem_nil, or_false] at hk
              rcases hk with rfl | rfl | rfl
              · exact mTy_i ⟨rfl, by decide, rfl⟩ hv_22
              · exact mTy_i ⟨rfl, by decide, rfl⟩ hv_23
              · exact mTy_i ⟨rfl, by decide, rfl⟩ hv_24), hnp, hnc, hn2, htk, I_tick, I_rule, ⟨_, I_pace⟩, ⟨_, I_wait⟩, I_pages, I_campaigns, I_sales, ⟨_, I_may⟩, ⟨_, I_spots⟩, ⟨_, I_bestSum⟩, ⟨_, I_bestFilled⟩, ⟨_, I_hasBest⟩, ((hs.at hC.1 (by decide) (by decide)).trans F_marks), (fun g hg => cpl g ((hs.at hC.1 (by decide) (by decide)).symm.trans hg)), (fun g hg => csz g ((hs.at hC.1 (by decide) (by decide)).symm.trans hg)), (fun g hg => cbd g ((hs.at hC.1 (by decide) (by decide)).symm.trans hg)), hpb9, (fun g hg => cso g ((hs.at hC.1 (by decide) (by decide)).symm.trans hg))⟩
        clear hpm
        refine lv_pop hx hb dL_law_407 rfl ?_
        refine lv_goto (tgt := 889) hx hb dL_law_408 (by decide) ?_
        refine lv_iinc (v := nI (4 * (j + 1))) (lv' := [(3, .int (nI (4 * (j + 1)))), (0, .ref b), (1, .ref h1), (2, .ref (rt 51))]) hx hb dL_law_889 hl (k := 3) rfl (by exact (nI_add (4 * j) 4).trans (congrArg nI (by omega))) (by decide) rfl (fun ls hl => ?_)
        refine lv_goto (tgt := 18) hx hb dL_law_892 (by decide) ?_
        exact W.widen (k := 60 + 4 * (512 - (n - 1))) (n := 13186 + 48 * (512 - (n - 1))) (by show 60 + 4 * (512 - n) ≤ _; omega) (by show 13186 + 48 * (512 - n) ≤ _; omega) (ih (n - 1) (by omega) _ _ _ ⟨j + 1, L1, f1c, f2c, np, nc, n1, _, tk, lk, tp, cp, gp, _, G, J, mk, st, ap, kd, sn, by omega, by omega, hI, hm_h1, hk_h1, hg7, hg8, hg9, hg12, hg13, by omega, hLn1, hM, hLn2, hdis, hLA1, hLA2, hP1, hP2, hS, lv_sub hl [1, 2, 3, 0] rfl⟩)
      · skip
        refine lv_tableIn (off := 379) (tgt := 411) hx hb dL_law_32 (by decide) (by decide) rfl (by decide) ?_
        refine lv_aload_n hx hb dL_law_411 rfl (lv_at hl 1 rfl) ?_
        refine lv_aload_n hx hb dL_law_412 rfl (lv_at hl 0 rfl) ?_
        refine lv_iload_n hx hb dL_law_413 rfl (lv_at hl 3 rfl) ?_
        refine lv_iconst (v := 1) hx hb dL_law_414 (by decide) ?_
        refine lv_iadd hx hb dL_law_415 ?_
        refine lv_topi (fun x_91 ex_91 => ?_)
        obtain rfl : x_91 = nI ((4 * j) + 1) := ex_91.trans (nI_add (4 * j) 1)
        refine va_sld hx hb hX hbl hbA hS (vp_in_nI (by omega) (by omega)) dL_law_416 ?_
        refine lv_topi (fun x_92 ex_92 => ?_)
        rw [nI_clamp (by omega)] at ex_92
        obtain rfl : sa1 = x_92 := (ex_92.trans hsa1).symm
        refine lv_aload_n hx hb dL_law_417 rfl (lv_at hl 0 rfl) ?_
        refine lv_iload_n hx hb dL_law_418 rfl (lv_at hl 3 rfl) ?_
        refine lv_iconst (v := 2) hx hb dL_law_419 (by decide) ?_
        refine lv_iadd hx hb dL_law_420 ?_
        refine lv_topi (fun x_93 ex_93 => ?_)
        obtain rfl : x_93 = nI ((4 * j) + 2) := ex_93.trans (nI_add (4 * j) 2)
        refine va_sld hx hb hX hbl hbA hS (vp_in_nI (by omega) (by omega)) dL_law_421 ?_
        refine lv_topi (fun x_94 ex_94 => ?_)
        rw [nI_clamp (by omega)] at ex_94
        obtain rfl : sa2 = x_94 := (ex_94.trans hsa2).symm
        obtain ⟨fsc, hFc, -, -⟩ := hI.o hm_h1 hk_h1 rfl (ci := 5) rfl rfl
        refine lc_Mi (ci := 5) ⟨hx, hb, hml, hown, hts⟩ (k_X5_stop l dC dI K L1 f1 hI h1 hm_h1 hk_h1 sa1 sa2 hg8 hnc hLn1) 2 wm_603 wm_604 wm_605 wm_67 wm_606 (by decide +kernel) ⟨Nat.le_of_ble_eq_true rfl, Nat.le_of_ble_eq_true rfl⟩ hK rfl hm_h1 hFc rfl hl.1 rfl (Nat.le_of_ble_eq_true rfl) dL_law_422 ⟨by show 60 + 4 * (512 - n) + 0 ≤ 600000; omega, by show 13186 + 48 * (512 - n) + 0 ≤ 7302250; omega⟩ hLA1 hS hP1 hP2 hdis (fun r_95 f1c H locs hpc hP1 hP2 hS => ?_)
        obtain ⟨stc, hI, hrc⟩ := hpc
        refine lv_pop hx hb dL_law_425 rfl ?_
        refine lv_aload_n hx hb dL_law_426 rfl (lv_at hl 2 rfl) ?_
        refine lv_aload_n hx hb dL_law_427 rfl (lv_at hl 0 rfl) ?_
        refine lv_iload_n hx hb dL_law_428 rfl (lv_at hl 3 rfl) ?_
        refine lv_iconst (v := 1) hx hb dL_law_429 (by decide) ?_
        refine lv_iadd hx hb dL_law_430 ?_
        refine lv_topi (fun x_96 ex_96 => ?_)
        obtain rfl : x_96 = nI ((4 * j) + 1) := ex_96.trans (nI_add (4 * j) 1)
        refine va_sld hx hb hX hbl hbA hS (vp_in_nI (by omega) (by omega)) dL_law_431 ?_
        refine lv_topi (fun x_97 ex_97 => ?_)
        rw [nI_clamp (by omega)] at ex_97
        obtain rfl : sa1 = x_97 := (ex_97.trans hsa1).symm
        refine lv_aload_n hx hb dL_law_432 rfl (lv_at hl 0 rfl) ?_
        refine lv_iload_n hx hb dL_law_433 rfl (lv_at hl 3 rfl) ?_
        refine lv_iconst (v := 2) hx hb dL_law_434 (by decide) ?_
        refine lv_iadd hx hb dL_law_435 ?_
        refine lv_topi (fun x_98 ex_98 => ?_)
        obtain rfl : x_98 = nI ((4 * j) + 2) := ex_98.trans (nI_add (4 * j) 2)
        refine va_sld hx hb hX hbl hbA hS (vp_in_nI (by omega) (by omega)) dL_law_436 ?_
        refine lv_topi (fun x_99 ex_99 => ?_)
        rw [nI_clamp (by omega)] at ex_99
        obtain rfl : sa2 = x_99 := (ex_99.trans hsa2).symm
        obtain ⟨g_stopped, F_stopped⟩ := (hA2 20 (by decide)).i (t := 2) (n := 40) ⟨rfl, by decide, rfl⟩
        refine lc_Mi (ci := 6) ⟨hx, hb, hml, hown, hts⟩ (um_stop l dC dI K L2 f2 rt hC F_stopped I_campaigns sa1 sa2 hnc hLn2) 2 wm_607 wm_608 wm_609 wm_8 wm_610 (by decide +kernel) ⟨Nat.le_of_ble_eq_true rfl, Nat.le_of_ble_eq_true rfl⟩ hK rfl (hC.1.1 51 (by decide)) hC.2.1 rfl hl.1 rfl (Nat.le_of_ble_eq_true rfl) dL_law_437 ⟨by show 60 + 4 * (512 - n) + 0 ≤ 600000; omega, by show 13186 + 48 * (512 - n) + 0 ≤ 7302250; omega⟩ hLA2 hS hP2 hP1 (fun a h2 h3 => hdis a h3 h2) (fun r_100 f2c H locs hpm hP2 hP1 hS => ?_)
        have hM : mI K rt L2 f2c np nc n2 tk ru mk := by
          rcases hpm with ⟨-, -, h9⟩ | ⟨-, -, h9⟩
          · rw [h9]; exact hM0
          · skip
            have hs : gSm rt [20] f2 f2c := by rw [h9]; exact (gSm.rf.up (k := 20) (by decide) _)
            have hv_20 : f2c (rt 20) = .inl (K 2, 40, .inl (upd g_stopped (Int32.toNatClampNeg sa1) (vp_nar .boolean sa2))) := by rw [h9, va_up_self]
            exact ⟨fm, ⟨hC.1, (hs.at hC.1 (by decide) (by decide)).trans hC.2.1, hC.2.2⟩, mTy_keep hC.1 hA2 hs (by decide) (fun k hk hm => by
              simp only [List.mem_cons, List.not_mem_nil, or_false] at hk
              rcases hk with rfl
              · exact mTy_i ⟨rfl, by decide, rfl⟩ hv_20), hnp, hnc, hn2, htk, I_tick, I_rule, ⟨_, I_pace⟩, ⟨_, I_wait⟩, I_pages, I_campaigns, I_sales, ⟨_, I_may⟩, ⟨_, I_spots⟩, ⟨_, I_bestSum⟩, ⟨_, I_bestFilled⟩, ⟨_, I_hasBest⟩, ((hs.at hC.1 (by decide) (by decide)).trans F_marks), (fun g hg => cpl g ((hs.at hC.1 (by decide) (by decide)).symm.trans hg)), (fun g hg => csz g ((hs.at hC.1 (by decide) (by decide)).symm.trans hg)), (fun g hg => cbd g ((hs.at hC.1 (by decide) (by decide)).symm.trans hg)), (fun g1 g2 g3 a1 a2 a3 => cpb g1 g2 g3 ((hs.at hC.1 (by decide) (by decide)).symm.trans a1) ((hs.at hC.1 (by decide) (by decide)).symm.trans a2) ((hs.at hC.1 (by decide) (by decide)).symm.trans a3)), (fun g hg => cso g ((hs.at hC.1 (by decide) (by decide)).symm.trans hg))⟩
        clear hpm
        clear hrc
        refine lv_pop hx hb dL_law_440 rfl ?_
        refine lv_goto (tgt := 889) hx hb dL_law_441 (by decide) ?_
        refine lv_iinc (v := nI (4 * (j + 1))) (lv' := [(3, .int (nI (4 * (j + 1)))), (0, .ref b), (1, .ref h1), (2, .ref (rt 51))]) hx hb dL_law_889 hl (k := 3) rfl (by exact (nI_add (4 * j) 4).trans (congrArg nI (by omega))) (by decide) rfl (fun ls hl => ?_)
        refine lv_goto (tgt := 18) hx hb dL_law_892 (by decide) ?_
        exact W.widen (k := 60 + 4 * (512 - (n - 1))) (n := 13186 + 48 * (512 - (n - 1))) (by show 60 + 4 * (512 - n) ≤ _; omega) (by show 13186 + 48 * (512 - n) ≤ _; omega) (ih (n - 1) (by omega) _ _ _ ⟨j + 1, L1, f1c, f2c, np, nc, n1, _, tk, lk, tp, cp, gp, _, G, J, mk, stc, ap, kd, sn, by omega, by omega, hI, hm_h1, hk_h1, hg7, hg8, hg9, hg12, hg13, by omega, hLn1, hM, hLn2, hdis, hLA1, hLA2, hP1, hP2, hS, lv_sub hl [1, 2, 3, 0] rfl⟩)
      · skip
        refine lv_tableIn (off := 412) (tgt := 444) hx hb dL_law_32 (by decide) (by decide) rfl (by decide) ?_
        refine lv_aload_n hx hb dL_law_444 rfl (lv_at hl 1 rfl) ?_
        refine lv_aload_n hx hb dL_law_445 rfl (lv_at hl 0 rfl) ?_
        refine lv_iload_n hx hb dL_law_446 rfl (lv_at hl 3 rfl) ?_
        refine lv_iconst (v := 1) hx hb dL_law_447 (by decide) ?_
        refine lv_iadd hx hb dL_law_448 ?_
        refine lv_topi (fun x_101 ex_101 => ?_)
        obtain rfl : x_101 = nI ((4 * j) + 1) := ex_101.trans (nI_add (4 * j) 1)
        refine va_sld hx hb hX hbl hbA hS (vp_in_nI (by omega) (by omega)) dL_law_449 ?_
        refine lv_topi (fun x_102 ex_102 => ?_)
        rw [nI_clamp (by omega)] at ex_102
        obtain rfl : sa1 = x_102 := (ex_102.trans hsa1).symm
        obtain ⟨fsc, hFc, -, -⟩ := hI.o hm_h1 hk_h1 rfl (ci := 5) rfl rfl
        refine lc_Mi (ci := 5) ⟨hx, hb, hml, hown, hts⟩ (k_X5_rule l dC dI K L1 f1 hI h1 hm_h1 hk_h1 sa1 hg13 hLn1) 1 wm_611 wm_612 wm_613 wm_67 wm_614 (by decide +kernel) ⟨Nat.le_of_ble_eq_true rfl, Nat.le_of_ble_eq_true rfl⟩ hK rfl hm_h1 hFc rfl hl.1 rfl (Nat.le_of_ble_eq_true rfl) dL_law_450 ⟨by show 60 + 4 * (512 - n) + 0 ≤ 600000; omega, by show 13186 + 48 * (512 - n) + 0 ≤ 7302250; omega⟩ hLA1 hS hP1 hP2 hdis (fun r_103 f1c H locs hpc hP1 hP2 hS => ?_)
        obtain ⟨Gc, hI, hGSC, hrc⟩ := hpc
        have hg7 := (hGSC 7 (by decide)).trans hg7
        have hg8 := (hGSC 8 (by decide)).trans hg8
        have hg9 := (hGSC 9 (by decide)).trans hg9
        have hg12 := (hGSC 12 (by decide)).trans hg12
        obtain ⟨ruc, hg13⟩ : ∃ z9, Gc 13 = z9 := ⟨_, rfl⟩
        refine lv_pop hx hb dL_law_453 rfl ?_
        refine lv_aload_n hx hb dL_law_454 rfl (lv_at hl 2 rfl) ?_
        refine lv_aload_n hx hb dL_law_455 rfl (lv_at hl 0 rfl) ?_
        refine lv_iload_n hx hb dL_law_456 rfl (lv_at hl 3 rfl) ?_
        refine lv_iconst (v := 1) hx hb dL_law_457 (by decide) ?_
        refine lv_iadd hx hb dL_law_458 ?_
        refine lv_topi (fun x_104 ex_104 => ?_)
        obtain rfl : x_104 = nI ((4 * j) + 1) := ex_104.trans (nI_add (4 * j) 1)
        refine va_sld hx hb hX hbl hbA hS (vp_in_nI (by omega) (by omega)) dL_law_459 ?_
        refine lv_topi (fun x_105 ex_105 => ?_)
        rw [nI_clamp (by omega)] at ex_105
        obtain rfl : sa1 = x_105 := (ex_105.trans hsa1).symm
        refine lc_Mi (ci := 6) ⟨hx, hb, hml, hown, hts⟩ (um_rule l dC dI K L2 f2 rt hC I_rule sa1 hLn2) 1 wm_615 wm_616 wm_617 wm_8 wm_618 (by decide +kernel) ⟨Nat.le_of_ble_eq_true rfl, Nat.le_of_ble_eq_true rfl⟩ hK rfl (hC.1.1 51 (by decide)) hC.2.1 rfl hl.1 rfl (Nat.le_of_ble_eq_true rfl) dL_law_460 ⟨by show 60 + 4 * (512 - n) + 0 ≤ 600000; omega, by show 13186 + 48 * (512 - n) + 0 ≤ 7302250; omega⟩ hLA2 hS hP2 hP1 (fun a h2 h3 => hdis a h3 h2) (fun r_106 f2c H locs hpm hP2 hP1 hS => ?_)
        have hM : mI K rt L2 f2c np nc n2 tk ruc mk := by
          rcases hpm with ⟨q1, -, h9⟩ | ⟨q1, -, h9⟩
          · rcases hrc with ⟨-, -, e9⟩ | ⟨q2, -, -⟩
            · rw [h9, ← hg13, e9]; exact hM0
            · exact absurd q2 q1
          · rcases hrc with ⟨q2, -, -⟩ | ⟨-, -, e9⟩
            · exact absurd q1 q2
            · rw [← hg13, e9]
              have hs : gSm rt [51] f2 f2c := by rw [h9]; exact (gSm.rf.up (k := 51) (by decide) _)
              have hv_51 : f2c (rt 51) = .inr (6, List.set fm 2 (.int sa1)) := by rw [h9, va_up_self]
              obtain ⟨fm5, efm5⟩ : ∃ z9 : List Value, z9 = (List.set fm 2 (.int sa1)) := ⟨_, rfl⟩
              have hFs5 : fmS [2] fm fm5 := by rw [efm5]; exact (fmS.rf.st (k := 2) (by decide) _)
              have hf2 : fm5[2]? = some (.int sa1) := by rw [efm5]; exact List.getElem?_set_self (by rw [hC.2.2.1]; decide)
              have hC5 : mC rt L2 f2c fm5 := ⟨hC.1, by rw [hv_51, efm5], by rw [hFs5.1]; exact hC.2.2.1, fun k h => (hFs5.2 k (fun q => by revert h; revert q; revert k; decide)).trans (hC.2.2.2 k h)⟩
              exact ⟨fm5, hC5, mTy_keep hC.1 hA2 hs (by decide) (fun k hk hm => by
              simp only [List.mem_cons, List.not_mem_nil, or_false] at hk
              rcases hk with rfl
              · exact absurd hm (by decide)), hnp, hnc, hn2, htk, ((hFs5.2 1 (by decide)).trans I_tick), hf2, ⟨_, ((hFs5.2 3 (by decide)).trans I_pace)⟩, ⟨_, ((hFs5.2 4 (by decide)).trans I_wait)⟩, ((hFs5.2 5 (by decide)).trans I_pages), ((hFs5.2 9 (by decide)).trans I_campaigns), ((hFs5.2 25 (by decide)).trans I_sales), ⟨_, ((hFs5.2 35 (by decide)).trans I_may)⟩, ⟨_, ((hFs5.2 39 (by decide)).trans I_spots)⟩, ⟨_, ((hFs5.2 43 (by decide)).trans I_bestSum)⟩, ⟨_, ((hFs5.2 44 (by decide)).trans I_bestFilled)⟩, ⟨_, ((hFs5.2 45 (by decide)).trans I_hasBest)⟩, ((hs.at hC.1 (by decide) (by decide)).trans F_marks), (fun g hg => cpl g ((hs.at hC.1 (by decide) (by decide)).symm.trans hg)), (fun g hg => csz g ((hs.at hC.1 (by decide) (by decide)).symm.trans hg)), (fun g hg => cbd g ((hs.at hC.1 (by decide) (by decide)).symm.trans hg)), (fun g1 g2 g3 a1 a2 a3 => cpb g1 g2 g3 ((hs.at hC.1 (by decide) (by decide)).symm.trans a1) ((hs.at hC.1 (by decide) (by decide)).symm.trans a2) ((hs.at hC.1 (by decide) (by decide)).symm.trans a3)), (fun g hg => cso g ((hs.at hC.1 (by decide) (by decide)).symm.trans hg))⟩
        clear hpm
        clear hrc
        refine lv_pop hx hb dL_law_463 rfl ?_
        refine lv_goto (tgt := 889) hx hb dL_law_464 (by decide) ?_
        refine lv_iinc (v := nI (4 * (j + 1))) (lv' := [(3, .int (nI (4 * (j + 1)))), (0, .ref b), (1, .ref h1), (2, .ref (rt 51))]) hx hb dL_law_889 hl (k := 3) rfl (by exact (nI_add (4 * j) 4).trans (congrArg nI (by omega))) (by decide) rfl (fun ls hl => ?_)
        refine lv_goto (tgt := 18) hx hb dL_law_892 (by decide) ?_
        exact W.widen (k := 60 + 4 * (512 - (n - 1))) (n := 13186 + 48 * (512 - (n - 1))) (by show 60 + 4 * (512 - n) ≤ _; omega) (by show 13186 + 48 * (512 - n) ≤ _; omega) (ih (n - 1) (by omega) _ _ _ ⟨j + 1, L1, f1c, f2c, np, nc, n1, _, tk, lk, tp, cp, gp, _, Gc, J, mk, st, ap, kd, sn, by omega, by omega, hI, hm_h1, hk_h1, hg7, hg8, hg9, hg12, hg13, by omega, hLn1, hM, hLn2, hdis, hLA1, hLA2, hP1, hP2, hS, lv_sub hl [1, 2, 3, 0] rfl⟩)
      · skip
        refine lv_tableIn (off := 435) (tgt := 467) hx hb dL_law_32 (by decide) (by decide) rfl (by decide) ?_
        refine lv_aload_n hx hb dL_law_467 rfl (lv_at hl 1 rfl) ?_
        refine lv_aload_n hx hb dL_law_468 rfl (lv_at hl 0 rfl) ?_
        refine lv_iload_n hx hb dL_law_469 rfl (lv_at hl 3 rfl) ?_
        refine lv_iconst (v := 1) hx hb dL_law_470 (by decide) ?_
        refine lv_iadd hx hb dL_law_471 ?_
        refine lv_topi (fun x_107 ex_107 => ?_)
        obtain rfl : x_107 = nI ((4 * j) + 1) := ex_107.trans (nI_add (4 * j) 1)
        refine va_sld hx hb hX hbl hbA hS (vp_in_nI (by omega) (by omega)) dL_law_472 ?_
        refine lv_topi (fun x_108 ex_108 => ?_)
        rw [nI_clamp (by omega)] at ex_108
        obtain rfl : sa1 = x_108 := (ex_108.trans hsa1).symm
        refine lv_aload_n hx hb dL_law_473 rfl (lv_at hl 0 rfl) ?_
        refine lv_iload_n hx hb dL_law_474 rfl (lv_at hl 3 rfl) ?_
        refine lv_iconst (v := 2) hx hb dL_law_475 (by decide) ?_
        refine lv_iadd hx hb dL_law_476 ?_
        refine lv_topi (fun x_109 ex_109 => ?_)
        obtain rfl : x_109 = nI ((4 * j) + 2) := ex_109.trans (nI_add (4 * j) 2)
        refine va_sld hx hb hX hbl hbA hS (vp_in_nI (by omega) (by omega)) dL_law_477 ?_
        refine lv_topi (fun x_110 ex_110 => ?_)
        rw [nI_clamp (by omega)] at ex_110
        obtain rfl : sa2 = x_110 := (ex_110.trans hsa2).symm
        obtain ⟨fsc, hFc, -, -⟩ := hI.o hm_h1 hk_h1 rfl (ci := 5) rfl rfl
        refine lc_Mi (ci := 5) ⟨hx, hb, hml, hown, hts⟩ (k_X5_pace l dC dI K L1 f1 hI h1 hm_h1 hk_h1 sa1 sa2 hLn1) 2 wm_619 wm_620 wm_621 wm_67 wm_622 (by decide +kernel) ⟨Nat.le_of_ble_eq_true rfl, Nat.le_of_ble_eq_true rfl⟩ hK rfl hm_h1 hFc rfl hl.1 rfl (Nat.le_of_ble_eq_true rfl) dL_law_478 ⟨by show 60 + 4 * (512 - n) + 0 ≤ 600000; omega, by show 13186 + 48 * (512 - n) + 0 ≤ 7302250; omega⟩ hLA1 hS hP1 hP2 hdis (fun r_111 f1c H locs hpc hP1 hP2 hS => ?_)
        obtain ⟨Gc, hI, hGSC, hrc⟩ := hpc
        have hg7 := (hGSC 7 (by decide)).trans hg7
        have hg8 := (hGSC 8 (by decide)).trans hg8
        have hg9 := (hGSC 9 (by decide)).trans hg9
        have hg12 := (hGSC 12 (by decide)).trans hg12
        have hg13 := (hGSC 13 (by decide)).trans hg13
        refine lv_pop hx hb dL_law_481 rfl ?_
        refine lv_aload_n hx hb dL_law_482 rfl (lv_at hl 2 rfl) ?_
        refine lv_aload_n hx hb dL_law_483 rfl (lv_at hl 0 rfl) ?_
        refine lv_iload_n hx hb dL_law_484 rfl (lv_at hl 3 rfl) ?_
        refine lv_iconst (v := 1) hx hb dL_law_485 (by decide) ?_
        refine lv_iadd hx hb dL_law_486 ?_
        refine lv_topi (fun x_112 ex_112 => ?_)
        obtain rfl : x_112 = nI ((4 * j) + 1) := ex_112.trans (nI_add (4 * j) 1)
        refine va_sld hx hb hX hbl hbA hS (vp_in_nI (by omega) (by omega)) dL_law_487 ?_
        refine lv_topi (fun x_113 ex_113 => ?_)
        rw [nI_clamp (by omega)] at ex_113
        obtain rfl : sa1 = x_113 := (ex_113.trans hsa1).symm
        refine lv_aload_n hx hb dL_law_488 rfl (lv_at hl 0 rfl) ?_
        refine lv_iload_n hx hb dL_law_489 rfl (lv_at hl 3 rfl) ?_
        refine lv_iconst (v := 2) hx hb dL_law_490 (by decide) ?_
        refine lv_iadd hx hb dL_law_491 ?_
        refine lv_topi (fun x_114 ex_114 => ?_)
        obtain rfl : x_114 = nI ((4 * j) + 2) := ex_114.trans (nI_add (4 * j) 2)
        refine va_sld hx hb hX hbl hbA hS (vp_in_nI (by omega) (by omega)) dL_law_492 ?_
        refine lv_topi (fun x_115 ex_115 => ?_)
        rw [nI_clamp (by omega)] at ex_115
        obtain rfl : sa2 = x_115 := (ex_115.trans hsa2).symm
        refine lc_Mi (ci := 6) ⟨hx, hb, hml, hown, hts⟩ (um_pace l dC dI K L2 f2 rt hC sa1 sa2 hLn2) 2 wm_623 wm_624 wm_625 wm_8 wm_626 (by decide +kernel) ⟨Nat.le_of_ble_eq_true rfl, Nat.le_of_ble_eq_true rfl⟩ hK rfl (hC.1.1 51 (by decide)) hC.2.1 rfl hl.1 rfl (Nat.le_of_ble_eq_true rfl) dL_law_493 ⟨by show 60 + 4 * (512 - n) + 0 ≤ 600000; omega, by show 13186 + 48 * (512 - n) + 0 ≤ 7302250; omega⟩ hLA2 hS hP2 hP1 (fun a h2 h3 => hdis a h3 h2) (fun r_116 f2c H locs hpm hP2 hP1 hS => ?_)
        have hM : mI K rt L2 f2c np nc n2 tk ru mk := by
          rcases hpm with ⟨-, -, h9⟩ | ⟨-, -, h9⟩
          · rw [h9]; exact hM0
          · skip
            have hs : gSm rt [51] f2 f2c := by rw [h9]; exact ((gSm.rf.up (k := 51) (by decide) _).up (k := 51) (by decide) _)
            have hv_51 : f2c (rt 51) = .inr (6, List.set (List.set fm 3 (.int sa1)) 4 (.int sa2)) := by rw [h9, va_up_self]
            obtain ⟨fm5, efm5⟩ : ∃ z9 : List Value, z9 = (List.set (List.set fm 3 (.int sa1)) 4 (.int sa2)) := ⟨_, rfl⟩
            have hFs5 : fmS [3, 4] fm fm5 := by rw [efm5]; exact ((fmS.rf.st (k := 3) (by decide) _).st (k := 4) (by decide) _)
            have hf3 : fm5[3]? = some (.int sa1) := by rw [efm5, List.getElem?_set_ne (by decide)]; exact List.getElem?_set_self (by rw [hC.2.2.1]; decide)
            have hf4 : fm5[4]? = some (.int sa2) := by rw [efm5]; exact List.getElem?_set_self (by rw [List.length_set]; rw [hC.2.2.1]; decide)
            have hC5 : mC rt L2 f2c fm5 := ⟨hC.1, by rw [hv_51, efm5], by rw [hFs5.1]; exact hC.2.2.1, fun k h => (hFs5.2 k (fun q => by revert h; revert q; revert k; decide)).trans (hC.2.2.2 k h)⟩
            exact ⟨fm5, hC5, mTy_keep hC.1 hA2 hs (by decide) (fun k hk hm => by
              simp only [List.mem_cons, List.not_mem_nil, or_false] at hk
              rcases hk with rfl
              · exact absurd hm (by decide)), hnp, hnc, hn2, htk, ((hFs5.2 1 (by decide)).trans I_tick), ((hFs5.2 2 (by decide)).trans I_rule), ⟨_, hf3⟩, ⟨_, hf4⟩, ((hFs5.2 5 (by decide)).trans I_pages), ((hFs5.2 9 (by decide)).trans I_campaigns), ((hFs5.2 25 (by decide)).trans I_sales), ⟨_, ((hFs5.2 35 (by decide)).trans I_may)⟩, ⟨_, ((hFs5.2 39 (by decide)).trans I_spots)⟩, ⟨_, ((hFs5.2 43 (by decide)).trans I_bestSum)⟩, ⟨_, ((hFs5.2 44 (by decide)).trans I_bestFilled)⟩, ⟨_, ((hFs5.2 45 (by decide)).trans I_hasBest)⟩, ((hs.at hC.1 (by decide) (by decide)).trans F_marks), (fun g hg => cpl g ((hs.at hC.1 (by decide) (by decide)).symm.trans hg)), (fun g hg => csz g ((hs.at hC.1 (by decide) (by decide)).symm.trans hg)), (fun g hg => cbd g ((hs.at hC.1 (by decide) (by decide)).symm.trans hg)), (fun g1 g2 g3 a1 a2 a3 => cpb g1 g2 g3 ((hs.at hC.1 (by decide) (by decide)).symm.trans a1) ((hs.at hC.1 (by decide) (by decide)).symm.trans a2) ((hs.at hC.1 (by decide) (by decide)).symm.trans a3)), (fun g hg => cso g ((hs.at hC.1 (by decide) (by decide)).symm.trans hg))⟩
        clear hpm
        clear hrc
        refine lv_pop hx hb dL_law_496 rfl ?_
        refine lv_goto (tgt := 889) hx hb dL_law_497 (by decide) ?_
        refine lv_iinc (v := nI (4 * (j + 1))) (lv' := [(3, .int (nI (4 * (j + 1)))), (0, .ref b), (1, .ref h1), (2, .ref (rt 51))]) hx hb dL_law_889 hl (k := 3) rfl (by exact (nI_add (4 * j) 4).trans (congrArg nI (by omega))) (by decide) rfl (fun ls hl => ?_)
        refine lv_goto (tgt := 18) hx hb dL_law_892 (by decide) ?_
        exact W.widen (k := 60 + 4 * (512 - (n - 1))) (n := 13186 + 48 * (512 - (n - 1))) (by show 60 + 4 * (512 - n) ≤ _; omega) (by show 13186 + 48 * (512 - n) ≤ _; omega) (ih (n - 1) (by omega) _ _ _ ⟨j + 1, L1, f1c, f2c, np, nc, n1, _, tk, lk, tp, cp, gp, _, Gc, J, mk, st, ap, kd, sn, by omega, by omega, hI, hm_h1, hk_h1, hg7, hg8, hg9, hg12, hg13, by omega, hLn1, hM, hLn2, hdis, hLA1, hLA2, hP1, hP2, hS, lv_sub hl [1, 2, 3, 0] rfl⟩)
      · skip
        refine lv_tableIn (off := 468) (tgt := 500) hx hb dL_law_32 (by decide) (by decide) rfl (by decide) ?_
        refine lv_aload_n hx hb dL_law_500 rfl (lv_at hl 1 rfl) ?_
        refine lv_aload_n hx hb dL_law_501 rfl (lv_at hl 0 rfl) ?_
        refine lv_iload_n hx hb dL_law_502 rfl (lv_at hl 3 rfl) ?_
        refine lv_iconst (v := 1) hx hb dL_law_503 (by decide) ?_
        refine lv_iadd hx hb dL_law_504 ?_
        refine lv_topi (fun x_117 ex_117 => ?_)
        obtain rfl : x_117 = nI ((4 * j) + 1) := ex_117.trans (nI_add (4 * j) 1)
        refine va_sld hx hb hX hbl hbA hS (vp_in_nI (by omega) (by omega)) dL_law_505 ?_
        refine lv_topi (fun x_118 ex_118 => ?_)
        rw [nI_clamp (by omega)] at ex_118
        obtain rfl : sa1 = x_118 := (ex_118.trans hsa1).symm
        obtain ⟨fsc, hFc, -, -⟩ := hI.o hm_h1 hk_h1 rfl (ci := 5) rfl rfl
        refine lc_Mi (ci := 5) ⟨hx, hb, hml, hown, hts⟩ (k_X5_tick l dC dI K L1 f1 hI h1 hm_h1 hk_h1 sa1 hg7 hg8 hg9 hg12 hnp hnc hn1 htk hLn1) 1 wm_627 wm_628 wm_629 wm_67 wm_630 (by decide +kernel) ⟨Nat.le_of_ble_eq_true rfl, Nat.le_of_ble_eq_true rfl⟩ hK rfl hm_h1 hFc rfl hl.1 rfl (Nat.le_of_ble_eq_true rfl) dL_law_506 ⟨by show 60 + 4 * (512 - n) + 0 ≤ 600000; omega, by show 13186 + 48 * (512 - n) + 0 ≤ 7302250; omega⟩ hLA1 hS hP1 hP2 hdis (fun r_119 f1c H locs hpc hP1 hP2 hS => ?_)
        obtain ⟨Gc, hI, hGSC, hrc⟩ := hpc
        have hg7 := (hGSC 7 (by decide)).trans hg7
        have hg8 := (hGSC 8 (by decide)).trans hg8
        have hg9 := (hGSC 9 (by decide)).trans hg9
        have hg13 := (hGSC 13 (by decide)).trans hg13
        obtain ⟨tkc, hg12, hrk⟩ : ∃ t9 : Nat, Gc 12 = nI t9 ∧ ((¬ ((1 ≤ sa1 ∧ sa1 ≤ 100) ∧ nI tk + sa1 ≤ 10000) ∧ t9 = tk ∧ r_119 = (-1)) ∨ (((1 ≤ sa1 ∧ sa1 ≤ 100) ∧ nI tk + sa1 ≤ 10000) ∧ ∃ N : Nat, sa1 = nI N ∧ N ≤ 100 ∧ tk + N ≤ 10000 ∧ t9 = tk + N ∧ r_119 = nI t9)) := by
          rcases hrc with ⟨q1, q2, q3⟩ | ⟨q1, N, q2, q3, q4, q5, q6⟩
          · exact ⟨tk, q3, Or.inl ⟨q1, rfl, q2⟩⟩
          · exact ⟨tk + N, q6, Or.inr ⟨q1, N, q3, q2, q4, rfl, q5⟩⟩
        refine lv_pop hx hb dL_law_509 rfl ?_
        refine lv_aload_n hx hb dL_law_510 rfl (lv_at hl 2 rfl) ?_
        refine lv_aload_n hx hb dL_law_511 rfl (lv_at hl 0 rfl) ?_
        refine lv_iload_n hx hb dL_law_512 rfl (lv_at hl 3 rfl) ?_
        refine lv_iconst (v := 1) hx hb dL_law_513 (by decide) ?_
        refine lv_iadd hx hb dL_law_514 ?_
        refine lv_topi (fun x_120 ex_120 => ?_)
        obtain rfl : x_120 = nI ((4 * j) + 1) := ex_120.trans (nI_add (4 * j) 1)
        refine va_sld hx hb hX hbl hbA hS (vp_in_nI (by omega) (by omega)) dL_law_515 ?_
        refine lv_topi (fun x_121 ex_121 => ?_)
        rw [nI_clamp (by omega)] at ex_121
        obtain rfl : sa1 = x_121 := (ex_121.trans hsa1).symm
        obtain ⟨g_state, F_state⟩ := (hA2 32 (by decide)).i (t := 0) (n := 1000) ⟨rfl, by decide, rfl⟩
        obtain ⟨g_saleTick, F_saleTick⟩ := (hA2 26 (by decide)).i (t := 0) (n := 1000) ⟨rfl, by decide, rfl⟩
        obtain ⟨g_saleWait, F_saleWait⟩ := (hA2 33 (by decide)).i (t := 0) (n := 1000) ⟨rfl, by decide, rfl⟩
        obtain ⟨g_sort, F_sort⟩ := (hA2 10 (by decide)).i (t := 0) (n := 40) ⟨rfl, by decide, rfl⟩
        obtain ⟨g_dayBudget, F_dayBudget⟩ := (hA2 15 (by decide)).i (t := 0) (n := 40) ⟨rfl, by decide, rfl⟩
        obtain ⟨g_throttle, F_throttle⟩ := (hA2 19 (by decide)).i (t := 0) (n := 40) ⟨rfl, by decide, rfl⟩
        obtain ⟨g_saleOf, F_saleOf⟩ := (hA2 30 (by decide)).i (t := 0) (n := 1000) ⟨rfl, by decide, rfl⟩
        obtain ⟨g_pays, F_pays⟩ := (hA2 11 (by decide)).i (t := 0) (n := 40) ⟨rfl, by decide, rfl⟩
        obtain ⟨g_price, F_price⟩ := (hA2 31 (by decide)).i (t := 0) (n := 1000) ⟨rfl, by decide, rfl⟩
        refine lc_Mi (ci := 6) ⟨hx, hb, hml, hown, hts⟩ (um_tick l dC dI K L2 f2 rt hC F_state F_saleTick F_saleWait F_sort F_dayBudget F_throttle F_saleOf F_pays F_price I_sales I_campaigns I_tick I_pace sa1 hn2 (cso _ F_saleOf) hnc htk hLn2) 1 wm_631 wm_632 wm_633 wm_8 wm_634 (by decide +kernel) ⟨Nat.le_of_ble_eq_true rfl, Nat.le_of_ble_eq_true rfl⟩ hK rfl (hC.1.1 51 (by decide)) hC.2.1 rfl hl.1 rfl (Nat.le_of_ble_eq_true rfl) dL_law_516 ⟨by show 60 + 4 * (512 - n) + 0 ≤ 600000; omega, by show 13186 + 48 * (512 - n) + 0 ≤ 7302250; omega⟩ hLA2 hS hP2 hP1 (fun a h2 h3 => hdis a h3 h2) (fun r_122 f2c H locs hpm hP2 hP1 hS => ?_)
        have hM : mI K rt L2 f2c np nc n2 tkc ru mk := by
          rcases hpm with ⟨q1, -, h9⟩ | ⟨q1, N2, q2, q3, q4, -, g1, g2, h9⟩
          · rcases hrk with ⟨-, e9, -⟩ | ⟨p1, -⟩
            · rw [h9, e9]; exact hM0
            · exact absurd p1 q1
          · rcases hrk with ⟨p1, -, -⟩ | ⟨p1, N, p2, p3, p4, e9, -⟩
            · exact absurd q1 p1
            · obtain rfl : N2 = N := (nI_eq (by omega) (by omega)).mp (q3.symm.trans p2)
              rw [e9]
              have hs : gSm rt [19, 32, 51] f2 f2c := by rw [h9]; exact (((gSm.rf.up (k := 51) (by decide) _).up (k := 32) (by decide) _).up (k := 19) (by decide) _)
              have hv_51 : f2c (rt 51) = .inr (6, List.set fm 1 (.int (nI (tk + N2)))) := by rw [h9, va_up_ne _ _ (fun q => absurd (hC.1.2 51 (by decide) 19 (by decide) q) (by decide)), va_up_ne _ _ (fun q => absurd (hC.1.2 51 (by decide) 32 (by decide) q) (by decide)), va_up_self]
              have hv_32 : f2c (rt 32) = .inl (K 0, 1000, .inl g1) := by rw [h9, va_up_ne _ _ (fun q => absurd (hC.1.2 32 (by decide) 19 (by decide) q) (by decide)), va_up_self]
              have hv_19 : f2c (rt 19) = .inl (K 0, 40, .inl g2) := by rw [h9, va_up_self]
              obtain ⟨fm5, efm5⟩ : ∃ z9 : List Value, z9 = (List.set fm 1 (.int (nI (tk + N2)))) := ⟨_, rfl⟩
              have hFs5 : fmS [1] fm fm5 := by rw [efm5]; exact (fmS.rf.st (k := 1) (by decide) _)
              have hf1 : fm5[1]? = some (.int (nI (tk + N2))) := by rw [efm5]; exact List.getElem?_set_self (by rw [hC.2.2.1]; decide)
              have hC5 : mC rt L2 f2c fm5 := ⟨hC.1, by rw [hv_51, efm5], by rw [hFs5.1]; exact hC.2.2.1, fun k h => (hFs5.2 k (fun q => by revert h; revert q; revert k; decide)).trans (hC.2.2.2 k h)⟩
              exact ⟨fm5, hC5, mTy_keep hC.1 hA2 hs (by decide) (fun k hk hm => by
              simp only [List.mem_cons, List.not_mem_nil, or_false] at hk
              rcases hk with rfl | rfl | rfl
              · exact mTy_i ⟨rfl, by decide, rfl⟩ hv_19
              · exact mTy_i ⟨rfl, by decide, rfl⟩ hv_32
              · exact absurd hm (by decide)), hnp, hnc, hn2, p4, hf1, ((hFs5.2 2 (by decide)).trans I_rule), ⟨_, ((hFs5.2 3 (by decide)).trans I_pace)⟩, ⟨_, ((hFs5.2 4 (by decide)).trans I_wait)⟩, ((hFs5.2 5 (by decide)).trans I_pages), ((hFs5.2 9 (by decide)).trans I_campaigns), ((hFs5.2 25 (by decide)).trans I_sales), ⟨_, ((hFs5.2 35 (by decide)).trans I_may)⟩, ⟨_, ((hFs5.2 39 (by decide)).trans I_spots)⟩, ⟨_, ((hFs5.2 43 (by decide)).trans I_bestSum)⟩, ⟨_, ((hFs5.2 44 (by decide)).trans I_bestFilled)⟩, ⟨_, ((hFs5.2 45 (by decide)).trans I_hasBest)⟩, ((hs.at hC.1 (by decide) (by decide)).trans F_marks), (fun g hg => cpl g ((hs.at hC.1 (by decide) (by decide)).symm.trans hg)), (fun g hg => csz g ((hs.at hC.1 (by decide) (by decide)).symm.trans hg)), (fun g hg => cbd g ((hs.at hC.1 (by decide) (by decide)).symm.trans hg)), (fun g1 g2 g3 a1 a2 a3 => cpb g1 g2 g3 ((hs.at hC.1 (by decide) (by decide)).symm.trans a1) ((hs.at hC.1 (by decide) (by decide)).symm.trans a2) ((hs.at hC.1 (by decide) (by decide)).symm.trans a3)), (fun g hg => cso g ((hs.at hC.1 (by decide) (by decide)).symm.trans hg))⟩
        clear hpm
        clear hrc
        clear hrk
        refine lv_pop hx hb dL_law_519 rfl ?_
        refine lv_goto (tgt := 889) hx hb dL_law_520 (by decide) ?_
        refine lv_iinc (v := nI (4 * (j + 1))) (lv' := [(3, .int (nI (4 * (j + 1)))), (0, .ref b), (1, .ref h1), (2, .ref (rt 51))]) hx hb dL_law_889 hl (k := 3) rfl (by exact (nI_add (4 * j) 4).trans (congrArg nI (by omega))) (by decide) rfl (fun ls hl => ?_)
        refine lv_goto (tgt := 18) hx hb dL_law_892 (by decide) ?_
        exact W.widen (k := 60 + 4 * (512 - (n - 1))) (n := 13186 + 48 * (512 - (n - 1))) (by show 60 + 4 * (512 - n) ≤ _; omega) (by show 13186 + 48 * (512 - n) ≤ _; omega) (ih (n - 1) (by omega) _ _ _ ⟨j + 1, L1, f1c, f2c, np, nc, n1, _, tkc, lk, tp, cp, gp, _, Gc, J, mk, st, ap, kd, sn, by omega, by omega, hI, hm_h1, hk_h1, hg7, hg8, hg9, hg12, hg13, by omega, hLn1, hM, hLn2, hdis, hLA1, hLA2, hP1, hP2, hS, lv_sub hl [1, 2, 3, 0] rfl⟩)
      · skip
        refine lv_tableIn (off := 491) (tgt := 523) hx hb dL_law_32 (by decide) (by decide) rfl (by decide) ?_
        refine lv_aload_n hx hb dL_law_523 rfl (lv_at hl 1 rfl) ?_
        refine lv_aload_n hx hb dL_law_524 rfl (lv_at hl 0 rfl) ?_
        refine lv_iload_n hx hb dL_law_525 rfl (lv_at hl 3 rfl) ?_
        refine lv_iconst (v := 1) hx hb dL_law_526 (by decide) ?_
        refine lv_iadd hx hb dL_law_527 ?_
        refine lv_topi (fun x_123 ex_123 => ?_)
        obtain rfl : x_123 = nI ((4 * j) + 1) := ex_123.trans (nI_add (4 * j) 1)
        refine va_sld hx hb hX hbl hbA hS (vp_in_nI (by omega) (by omega)) dL_law_528 ?_
        refine lv_topi (fun x_124 ex_124 => ?_)
        rw [nI_clamp (by omega)] at ex_124
        obtain rfl : sa1 = x_124 := (ex_124.trans hsa1).symm
        refine lv_aload_n hx hb dL_law_529 rfl (lv_at hl 0 rfl) ?_
        refine lv_iload_n hx hb dL_law_530 rfl (lv_at hl 3 rfl) ?_
        refine lv_iconst (v := 2) hx hb dL_law_531 (by decide) ?_
        refine lv_iadd hx hb dL_law_532 ?_
        refine lv_topi (fun x_125 ex_125 => ?_)
        obtain rfl : x_125 = nI ((4 * j) + 2) := ex_125.trans (nI_add (4 * j) 2)
        refine va_sld hx hb hX hbl hbA hS (vp_in_nI (by omega) (by omega)) dL_law_533 ?_
        refine lv_topi (fun x_126 ex_126 => ?_)
        rw [nI_clamp (by omega)] at ex_126
        obtain rfl : sa2 = x_126 := (ex_126.trans hsa2).symm
        obtain ⟨fsc, hFc, -, -⟩ := hI.o hm_h1 hk_h1 rfl (ci := 5) rfl rfl
        have hSz := hS.1
        refine lc_Ai (ci := 5) ⟨hx, hb, hml, hown, hts⟩ (k_X5_come l dC dI K L1 f1 hI h1 hm_h1 hk_h1 sa1 sa2 hg7 hg8 hg9 hg12 hnp hnc hn1 hLn1 H.size) exT 2 wm_635 wm_636 wm_637 wm_67 wm_638 (by decide +kernel) ⟨Nat.le_of_ble_eq_true rfl, Nat.le_of_ble_eq_true rfl⟩ hK rfl hm_h1 hFc rfl hl.1 rfl (Nat.le_of_ble_eq_true rfl) dL_law_534 ⟨by show 60 + 4 * (512 - n) + 4 ≤ 600000; omega, by show 13186 + 48 * (512 - n) + 48 ≤ 7302250; omega⟩ hLA1 hA hS hP1 hP2 hdis (fun r_127 L1c f1c H locs hpc hP1 hP2 hlt hS => ?_)
        obtain ⟨Gc, Jc, tpc, cpc, gpc, lkc, n1c, kdc, snc, hI, hCEc, hLnc, hLBc, hGSC, hg9, hn1⟩ := hpc
        have hg7 := (hGSC 7 (by decide)).trans hg7
        have hg8 := (hGSC 8 (by decide)).trans hg8
        have hg12 := (hGSC 12 (by decide)).trans hg12
        have hg13 := (hGSC 13 (by decide)).trans hg13
        have hk_h1 : kdc h1 = 1 := ((hCEc h1 hm_h1).2 (by rw [hk_h1]; decide)).1.trans hk_h1
        have hm_h1 := (hCEc h1 hm_h1).1
        have hdis : ∀ a ∈ L2, a ∉ L1c := fun a h2 h3 => (hLBc a h3).elim (hdis a h2) (fun h => absurd (hlt a h2) (Nat.not_lt.mpr h))
        have hLA1 : ∀ a ∈ L1c, A a := fun a h => (hLBc a h).elim (hLA1 a) (fun h => hA a (Nat.le_trans hSz h))
        have hLn1 := hLnc
        refine lv_pop hx hb dL_law_537 rfl ?_
        refine lv_aload_n hx hb dL_law_538 rfl (lv_at hl 2 rfl) ?_
        refine lv_aload_n hx hb dL_law_539 rfl (lv_at hl 0 rfl) ?_
        refine lv_iload_n hx hb dL_law_540 rfl (lv_at hl 3 rfl) ?_
        refine lv_iconst (v := 1) hx hb dL_law_541 (by decide) ?_
        refine lv_iadd hx hb dL_law_542 ?_
        refine lv_topi (fun x_128 ex_128 => ?_)
        obtain rfl : x_128 = nI ((4 * j) + 1) := ex_128.trans (nI_add (4 * j) 1)
        refine va_sld hx hb hX hbl hbA hS (vp_in_nI (by omega) (by omega)) dL_law_543 ?_
        refine lv_topi (fun x_129 ex_129 => ?_)
        rw [nI_clamp (by omega)] at ex_129
        obtain rfl : sa1 = x_129 := (ex_129.trans hsa1).symm
        refine lv_aload_n hx hb dL_law_544 rfl (lv_at hl 0 rfl) ?_
        refine lv_iload_n hx hb dL_law_545 rfl (lv_at hl 3 rfl) ?_
        refine lv_iconst (v := 2) hx hb dL_law_546 (by decide) ?_
        refine lv_iadd hx hb dL_law_547 ?_
        refine lv_topi (fun x_130 ex_130 => ?_)
        obtain rfl : x_130 = nI ((4 * j) + 2) := ex_130.trans (nI_add (4 * j) 2)
        refine va_sld hx hb hX hbl hbA hS (vp_in_nI (by omega) (by omega)) dL_law_548 ?_
        refine lv_topi (fun x_131 ex_131 => ?_)
        rw [nI_clamp (by omega)] at ex_131
        obtain rfl : sa2 = x_131 := (ex_131.trans hsa2).symm
        obtain ⟨g_stopped, F_stopped⟩ := (hA2 20 (by decide)).i (t := 2) (n := 40) ⟨rfl, by decide, rfl⟩
        obtain ⟨g_must, F_must⟩ := (hA2 12 (by decide)).i (t := 0) (n := 40) ⟨rfl, by decide, rfl⟩
        obtain ⟨g_never, F_never⟩ := (hA2 13 (by decide)).i (t := 0) (n := 40) ⟨rfl, by decide, rfl⟩
        obtain ⟨g_saleOf, F_saleOf⟩ := (hA2 30 (by decide)).i (t := 0) (n := 1000) ⟨rfl, by decide, rfl⟩
        obtain ⟨g_saleReader, F_saleReader⟩ := (hA2 27 (by decide)).i (t := 0) (n := 1000) ⟨rfl, by decide, rfl⟩
        obtain ⟨g_saleTick, F_saleTick⟩ := (hA2 26 (by decide)).i (t := 0) (n := 1000) ⟨rfl, by decide, rfl⟩
        obtain ⟨g_salePage, F_salePage⟩ := (hA2 28 (by decide)).i (t := 0) (n := 1000) ⟨rfl, by decide, rfl⟩
        obtain ⟨g_state, F_state⟩ := (hA2 32 (by decide)).i (t := 0) (n := 1000) ⟨rfl, by decide, rfl⟩
        obtain ⟨g_span, F_span⟩ := (hA2 18 (by decide)).i (t := 0) (n := 40) ⟨rfl, by decide, rfl⟩
        obtain ⟨g_apart, F_apart⟩ := (hA2 21 (by decide)).i (t := 2) (n := 1600) ⟨rfl, by decide, rfl⟩
        obtain ⟨g_cap, F_cap⟩ := (hA2 17 (by decide)).i (t := 0) (n := 40) ⟨rfl, by decide, rfl⟩
        obtain ⟨g_sort, F_sort⟩ := (hA2 10 (by decide)).i (t := 0) (n := 40) ⟨rfl, by decide, rfl⟩
        obtain ⟨g_bid, F_bid⟩ := (hA2 14 (by decide)).i (t := 0) (n := 40) ⟨rfl, by decide, rfl⟩
        obtain ⟨g_throttle, F_throttle⟩ := (hA2 19 (by decide)).i (t := 0) (n := 40) ⟨rfl, by decide, rfl⟩
        obtain ⟨g_dayBudget, F_dayBudget⟩ := (hA2 15 (by decide)).i (t := 0) (n := 40) ⟨rfl, by decide, rfl⟩
        obtain ⟨g_allBudget, F_allBudget⟩ := (hA2 16 (by decide)).i (t := 0) (n := 40) ⟨rfl, by decide, rfl⟩
        obtain ⟨g_pays, F_pays⟩ := (hA2 11 (by decide)).i (t := 0) (n := 40) ⟨rfl, by decide, rfl⟩
        obtain ⟨g_price, F_price⟩ := (hA2 31 (by decide)).i (t := 0) (n := 1000) ⟨rfl, by decide, rfl⟩
        obtain ⟨g_promised, F_promised⟩ := (hA2 22 (by decide)).i (t := 0) (n := 40) ⟨rfl, by decide, rfl⟩
        obtain ⟨g_promiseDay, F_promiseDay⟩ := (hA2 23 (by decide)).i (t := 0) (n := 40) ⟨rfl, by decide, rfl⟩
        obtain ⟨g_promiseFrom, F_promiseFrom⟩ := (hA2 24 (by decide)).i (t := 0) (n := 40) ⟨rfl, by decide, rfl⟩
        obtain ⟨g_pressTick, F_pressTick⟩ := (hA2 34 (by decide)).i (t := 0) (n := 1000) ⟨rfl, by decide, rfl⟩
        obtain ⟨g_places, F_places⟩ := (hA2 6 (by decide)).i (t := 0) (n := 8) ⟨rfl, by decide, rfl⟩
        obtain ⟨g_sizes, F_sizes⟩ := (hA2 7 (by decide)).i (t := 0) (n := 32) ⟨rfl, by decide, rfl⟩
        obtain ⟨g_mayBe, F_mayBe⟩ := (hA2 36 (by decide)).i (t := 0) (n := 40) ⟨rfl, by decide, rfl⟩
        obtain ⟨g_worth, F_worth⟩ := (hA2 37 (by decide)).l (n := 160) ⟨rfl, rfl⟩
        obtain ⟨g_mostAt, F_mostAt⟩ := (hA2 38 (by decide)).l (n := 5) ⟨rfl, rfl⟩
        obtain ⟨g_order, F_order⟩ := (hA2 47 (by decide)).i (t := 0) (n := 40) ⟨rfl, by decide, rfl⟩
        obtain ⟨g_next, F_next⟩ := (hA2 48 (by decide)).i (t := 0) (n := 5) ⟨rfl, by decide, rfl⟩
        obtain ⟨g_upTo, F_upTo⟩ := (hA2 41 (by decide)).l (n := 5) ⟨rfl, rfl⟩
        obtain ⟨g_filledTo, F_filledTo⟩ := (hA2 42 (by decide)).i (t := 0) (n := 5) ⟨rfl, by decide, rfl⟩
        obtain ⟨g_at, F_at⟩ := (hA2 40 (by decide)).i (t := 0) (n := 5) ⟨rfl, by decide, rfl⟩
        obtain ⟨g_given, F_given⟩ := (hA2 46 (by decide)).i (t := 0) (n := 4) ⟨rfl, by decide, rfl⟩
        obtain ⟨g_salePlace, F_salePlace⟩ := (hA2 29 (by decide)).i (t := 0) (n := 1000) ⟨rfl, by decide, rfl⟩
        obtain ⟨g_saleWait, F_saleWait⟩ := (hA2 33 (by decide)).i (t := 0) (n := 1000) ⟨rfl, by decide, rfl⟩
        obtain ⟨g_toSell, F_toSell⟩ := (hA2 49 (by decide)).i (t := 0) (n := 4) ⟨rfl, by decide, rfl⟩
        obtain ⟨g_toPay, F_toPay⟩ := (hA2 50 (by decide)).i (t := 0) (n := 4) ⟨rfl, by decide, rfl⟩
        refine lc_Mi (ci := 6) ⟨hx, hb, hml, hown, hts⟩ (um_come l dC dI K L2 f2 rt hC F_stopped F_marks F_must F_never F_saleOf F_saleReader F_saleTick F_salePage F_state F_span F_apart F_cap F_sort F_bid F_throttle F_dayBudget F_allBudget F_pays F_price F_promised F_promiseDay F_promiseFrom F_pressTick F_places F_sizes F_mayBe F_worth F_mostAt F_order F_next F_upTo F_filledTo F_at F_given F_salePlace F_saleWait F_toSell F_toPay I_sales I_campaigns I_tick I_may I_spots I_hasBest I_bestSum I_bestFilled I_pages I_rule I_wait sa1 sa2 hn2 (cso _ F_saleOf) hnc (cpb _ _ _ F_promised F_promiseDay F_promiseFrom) (cbd _ F_bid) (csz _ F_sizes) hnp (cpl _ F_places) hLn2) 2 wm_639 wm_640 wm_641 wm_8 wm_642 (by decide +kernel) ⟨Nat.le_of_ble_eq_true rfl, Nat.le_of_ble_eq_true rfl⟩ hK rfl (hC.1.1 51 (by decide)) hC.2.1 rfl hl.1 rfl (Nat.le_of_ble_eq_true rfl) dL_law_549 ⟨by show 60 + 4 * (512 - n) + 4 + 0 ≤ 600000; omega, by show 13186 + 48 * (512 - n) + 48 + 0 ≤ 7302250; omega⟩ hLA2 hS hP2 hP1 (fun a h2 h3 => hdis a h3 h2) (fun r_132 f2c H locs hpm hP2 hP1 hS => ?_)
        obtain ⟨n2c, hM⟩ : ∃ n2c : Nat, mI K rt L2 f2c np nc n2c tk ru mk := by
          rcases hpm with h9 | ⟨fm5, ns2, gb, gw, gm, go, gn, gu, gf, ga, gg, h0, h1, h2, h3, h4, h5, h6, h7, h8, ts, tp, hs, hFs5, hC5, hv_36, hv_37, hv_38, hv_47, hv_48, hv_41, hv_42, hv_40, hv_46, hv_26, hv_27, hv_28, hv_29, hv_30, hv_31, hv_32, hv_33, hv_34, hv_49, hv_50, hf25, ⟨w1, hf35⟩, ⟨w2, hf39⟩, ⟨w3, hf45⟩, ⟨w4, hf43⟩, ⟨w5, hf44⟩, hns9, hso9⟩
          · rw [h9]; exact ⟨n2, hM0⟩
          · exact ⟨ns2, ⟨fm5, hC5, mTy_keep hC.1 hA2 hs (by decide) (fun k hk hm => by
              simp only [List.mem_cons, List.not_mem_nil, or_false] at hk
              rcases hk with rfl | rfl | rfl | rfl | rfl | rfl | rfl | rfl | rfl | rfl | rfl | rfl | rfl | rfl | rfl | rfl | rfl | rfl | rfl | rfl | rfl
              · exact mTy_i ⟨rfl, by decide, rfl⟩ hv_26
              · exact mTy_i ⟨rfl, by decide, rfl⟩ hv_27
              · exact mTy_i ⟨rfl, by decide, rfl⟩ hv_28
              · exact mTy_i ⟨rfl, by decide, rfl⟩ hv_29
              · exact mTy_i ⟨rfl, by decide, rfl⟩ hv_30
              · exact mTy_i ⟨rfl, by decide, rfl⟩ hv_31
              · exact mTy_i ⟨rfl, by decide, rfl⟩ hv_32
              · exact mTy_i ⟨rfl, by decide, rfl⟩ hv_33
              · exact mTy_i ⟨rfl, by decide, rfl⟩ hv_34
              · exact mTy_i ⟨rfl, by decide, rfl⟩ hv_36
              · exact mTy_l ⟨rfl, rfl⟩ hv_37
              · exact mTy_l ⟨rfl, rfl⟩ hv_38
              · exact mTy_i ⟨rfl, by decide, rfl⟩ hv_40
              · exact mTy_l ⟨rfl, rfl⟩ hv_41
              · exact mTy_i ⟨rfl, by decide, rfl⟩ hv_42
              · exact mTy_i ⟨rfl, by decide, rfl⟩ hv_46
              · exact mTy_i ⟨rfl, by decide, rfl⟩ hv_47
              · exact mTy_i ⟨rfl, by decide, rfl⟩ hv_48
              · exact mTy_i ⟨rfl, by decide, rfl⟩ hv_49
              · exact mTy_i ⟨rfl, by decide, rfl⟩ hv_50
              · exact absurd hm (by decide)), hnp, hnc, hns9, htk, ((hFs5.2 1 (by decide)).trans I_tick), ((hFs5.2 2 (by decide)).trans I_rule), ⟨_, ((hFs5.2 3 (by decide)).trans I_pace)⟩, ⟨_, ((hFs5.2 4 (by decide)).trans I_wait)⟩, ((hFs5.2 5 (by decide)).trans I_pages), ((hFs5.2 9 (by decide)).trans I_campaigns), hf25, ⟨_, hf35⟩, ⟨_, hf39⟩, ⟨_, hf43⟩, ⟨_, hf44⟩, ⟨_, hf45⟩, ((hs.at hC.1 (by decide) (by decide)).trans F_marks), (fun g hg => cpl g ((hs.at hC.1 (by decide) (by decide)).symm.trans hg)), (fun g hg => csz g ((hs.at hC.1 (by decide) (by decide)).symm.trans hg)), (fun g hg => cbd g ((hs.at hC.1 (by decide) (by decide)).symm.trans hg)), (fun g1 g2 g3 a1 a2 a3 => cpb g1 g2 g3 ((hs.at hC.1 (by decide) (by decide)).symm.trans a1) ((hs.at hC.1 (by decide) (by decide)).symm.trans a2) ((hs.at hC.1 (by decide) (by decide)).symm.trans a3)), (fun g hg => by rw [up_arr hv_30 hg]; exact hso9)⟩⟩
        clear hpm
        refine lv_pop hx hb dL_law_552 rfl ?_
        refine lv_goto (tgt := 889) hx hb dL_law_553 (by decide) ?_
        refine lv_iinc (v := nI (4 * (j + 1))) (lv' := [(3, .int (nI (4 * (j + 1)))), (0, .ref b), (1, .ref h1), (2, .ref (rt 51))]) hx hb dL_law_889 hl (k := 3) rfl (by exact (nI_add (4 * j) 4).trans (congrArg nI (by omega))) (by decide) rfl (fun ls hl => ?_)
        refine lv_goto (tgt := 18) hx hb dL_law_892 (by decide) ?_
        exact W.widen (k := 60 + 4 * (512 - (n - 1))) (n := 13186 + 48 * (512 - (n - 1))) (by show 60 + 4 * (512 - n) + 4 ≤ _; omega) (by show 13186 + 48 * (512 - n) + 48 ≤ _; omega) (ih (n - 1) (by omega) _ _ _ ⟨j + 1, L1c, f1c, f2c, np, nc, n1c, _, tk, lkc, tpc, cpc, gpc, _, Gc, Jc, mk, st, ap, kdc, snc, by omega, by omega, hI, hm_h1, hk_h1, hg7, hg8, hg9, hg12, hg13, by omega, hLn1, hM, hLn2, hdis, hLA1, hLA2, hP1, hP2, hS, lv_sub hl [1, 2, 3, 0] rfl⟩)
      · skip
        refine lv_tableIn (off := 524) (tgt := 556) hx hb dL_law_32 (by decide) (by decide) rfl (by decide) ?_
        refine lv_aload_n hx hb dL_law_556 rfl (lv_at hl 1 rfl) ?_
        refine lv_aload_n hx hb dL_law_557 rfl (lv_at hl 0 rfl) ?_
        refine lv_iload_n hx hb dL_law_558 rfl (lv_at hl 3 rfl) ?_
        refine lv_iconst (v := 1) hx hb dL_law_559 (by decide) ?_
        refine lv_iadd hx hb dL_law_560 ?_
        refine lv_topi (fun x_133 ex_133 => ?_)
        obtain rfl : x_133 = nI ((4 * j) + 1) := ex_133.trans (nI_add (4 * j) 1)
        refine va_sld hx hb hX hbl hbA hS (vp_in_nI (by omega) (by omega)) dL_law_561 ?_
        refine lv_topi (fun x_134 ex_134 => ?_)
        rw [nI_clamp (by omega)] at ex_134
        obtain rfl : sa1 = x_134 := (ex_134.trans hsa1).symm
        refine lv_aload_n hx hb dL_law_562 rfl (lv_at hl 0 rfl) ?_
        refine lv_iload_n hx hb dL_law_563 rfl (lv_at hl 3 rfl) ?_
        refine lv_iconst (v := 2) hx hb dL_law_564 (by decide) ?_
        refine lv_iadd hx hb dL_law_565 ?_
        refine lv_topi (fun x_135 ex_135 => ?_)
        obtain rfl : x_135 = nI ((4 * j) + 2) := ex_135.trans (nI_add (4 * j) 2)
        refine va_sld hx hb hX hbl hbA hS (vp_in_nI (by omega) (by omega)) dL_law_566 ?_
        refine lv_topi (fun x_136 ex_136 => ?_)
        rw [nI_clamp (by omega)] at ex_136
        obtain rfl : sa2 = x_136 := (ex_136.trans hsa2).symm
        refine lv_aload_n hx hb dL_law_567 rfl (lv_at hl 0 rfl) ?_
        refine lv_iload_n hx hb dL_law_568 rfl (lv_at hl 3 rfl) ?_
        refine lv_iconst (v := 3) hx hb dL_law_569 (by decide) ?_
        refine lv_iadd hx hb dL_law_570 ?_
        refine lv_topi (fun x_137 ex_137 => ?_)
        obtain rfl : x_137 = nI ((4 * j) + 3) := ex_137.trans (nI_add (4 * j) 3)
        refine va_sld hx hb hX hbl hbA hS (vp_in_nI (by omega) (by omega)) dL_law_571 ?_
        refine lv_topi (fun x_138 ex_138 => ?_)
        rw [nI_clamp (by omega)] at ex_138
        obtain rfl : sa3 = x_138 := (ex_138.trans hsa3).symm
        obtain ⟨fsc, hFc, -, -⟩ := hI.o hm_h1 hk_h1 rfl (ci := 5) rfl rfl
        refine lc_R (ci := 5) ⟨hx, hb, hml, hown, hts⟩ (k_X5_why l dC dI K L1 f1 hI h1 hm_h1 hk_h1 sa1 sa2 sa3 hg7 hg8 hg12 hnp hnc) 3 wm_643 wm_644 wm_645 wm_67 wm_646 (by decide +kernel) ⟨Nat.le_of_ble_eq_true rfl, Nat.le_of_ble_eq_true rfl⟩ hK rfl hm_h1 hFc rfl hl.1 rfl (Nat.le_of_ble_eq_true rfl) dL_law_572 ⟨by show 60 + 4 * (512 - n) + 0 ≤ 600000; omega, by show 13186 + 48 * (512 - n) + 0 ≤ 7302250; omega⟩ hS hP1 hP2 (fun r_139 H locs hpc hP1 hP2 hS => ?_)
        refine lv_pop hx hb dL_law_575 rfl ?_
        refine lv_aload_n hx hb dL_law_576 rfl (lv_at hl 2 rfl) ?_
        refine lv_aload_n hx hb dL_law_577 rfl (lv_at hl 0 rfl) ?_
        refine lv_iload_n hx hb dL_law_578 rfl (lv_at hl 3 rfl) ?_
        refine lv_iconst (v := 1) hx hb dL_law_579 (by decide) ?_
        refine lv_iadd hx hb dL_law_580 ?_
        refine lv_topi (fun x_140 ex_140 => ?_)
        obtain rfl : x_140 = nI ((4 * j) + 1) := ex_140.trans (nI_add (4 * j) 1)
        refine va_sld hx hb hX hbl hbA hS (vp_in_nI (by omega) (by omega)) dL_law_581 ?_
        refine lv_topi (fun x_141 ex_141 => ?_)
        rw [nI_clamp (by omega)] at ex_141
        obtain rfl : sa1 = x_141 := (ex_141.trans hsa1).symm
        refine lv_aload_n hx hb dL_law_582 rfl (lv_at hl 0 rfl) ?_
        refine lv_iload_n hx hb dL_law_583 rfl (lv_at hl 3 rfl) ?_
        refine lv_iconst (v := 2) hx hb dL_law_584 (by decide) ?_
        refine lv_iadd hx hb dL_law_585 ?_
        refine lv_topi (fun x_142 ex_142 => ?_)
        obtain rfl : x_142 = nI ((4 * j) + 2) := ex_142.trans (nI_add (4 * j) 2)
        refine va_sld hx hb hX hbl hbA hS (vp_in_nI (by omega) (by omega)) dL_law_586 ?_
        refine lv_topi (fun x_143 ex_143 => ?_)
        rw [nI_clamp (by omega)] at ex_143
        obtain rfl : sa2 = x_143 := (ex_143.trans hsa2).symm
        refine lv_aload_n hx hb dL_law_587 rfl (lv_at hl 0 rfl) ?_
        refine lv_iload_n hx hb dL_law_588 rfl (lv_at hl 3 rfl) ?_
        refine lv_iconst (v := 3) hx hb dL_law_589 (by decide) ?_
        refine lv_iadd hx hb dL_law_590 ?_
        refine lv_topi (fun x_144 ex_144 => ?_)
        obtain rfl : x_144 = nI ((4 * j) + 3) := ex_144.trans (nI_add (4 * j) 3)
        refine va_sld hx hb hX hbl hbA hS (vp_in_nI (by omega) (by omega)) dL_law_591 ?_
        refine lv_topi (fun x_145 ex_145 => ?_)
        rw [nI_clamp (by omega)] at ex_145
        obtain rfl : sa3 = x_145 := (ex_145.trans hsa3).symm
        obtain ⟨g_stopped, F_stopped⟩ := (hA2 20 (by decide)).i (t := 2) (n := 40) ⟨rfl, by decide, rfl⟩
        obtain ⟨g_must, F_must⟩ := (hA2 12 (by decide)).i (t := 0) (n := 40) ⟨rfl, by decide, rfl⟩
        obtain ⟨g_never, F_never⟩ := (hA2 13 (by decide)).i (t := 0) (n := 40) ⟨rfl, by decide, rfl⟩
        obtain ⟨g_saleOf, F_saleOf⟩ := (hA2 30 (by decide)).i (t := 0) (n := 1000) ⟨rfl, by decide, rfl⟩
        obtain ⟨g_saleReader, F_saleReader⟩ := (hA2 27 (by decide)).i (t := 0) (n := 1000) ⟨rfl, by decide, rfl⟩
        obtain ⟨g_saleTick, F_saleTick⟩ := (hA2 26 (by decide)).i (t := 0) (n := 1000) ⟨rfl, by decide, rfl⟩
        obtain ⟨g_salePage, F_salePage⟩ := (hA2 28 (by decide)).i (t := 0) (n := 1000) ⟨rfl, by decide, rfl⟩
        obtain ⟨g_state, F_state⟩ := (hA2 32 (by decide)).i (t := 0) (n := 1000) ⟨rfl, by decide, rfl⟩
        obtain ⟨g_span, F_span⟩ := (hA2 18 (by decide)).i (t := 0) (n := 40) ⟨rfl, by decide, rfl⟩
        obtain ⟨g_apart, F_apart⟩ := (hA2 21 (by decide)).i (t := 2) (n := 1600) ⟨rfl, by decide, rfl⟩
        obtain ⟨g_cap, F_cap⟩ := (hA2 17 (by decide)).i (t := 0) (n := 40) ⟨rfl, by decide, rfl⟩
        obtain ⟨g_sort, F_sort⟩ := (hA2 10 (by decide)).i (t := 0) (n := 40) ⟨rfl, by decide, rfl⟩
        obtain ⟨g_bid, F_bid⟩ := (hA2 14 (by decide)).i (t := 0) (n := 40) ⟨rfl, by decide, rfl⟩
        obtain ⟨g_throttle, F_throttle⟩ := (hA2 19 (by decide)).i (t := 0) (n := 40) ⟨rfl, by decide, rfl⟩
        obtain ⟨g_dayBudget, F_dayBudget⟩ := (hA2 15 (by decide)).i (t := 0) (n := 40) ⟨rfl, by decide, rfl⟩
        obtain ⟨g_allBudget, F_allBudget⟩ := (hA2 16 (by decide)).i (t := 0) (n := 40) ⟨rfl, by decide, rfl⟩
        obtain ⟨g_pays, F_pays⟩ := (hA2 11 (by decide)).i (t := 0) (n := 40) ⟨rfl, by decide, rfl⟩
        obtain ⟨g_price, F_price⟩ := (hA2 31 (by decide)).i (t := 0) (n := 1000) ⟨rfl, by decide, rfl⟩
        refine lc_R (ci := 6) ⟨hx, hb, hml, hown, hts⟩ (m_why l dC dI K L2 f2 rt hC F_stopped F_marks F_must F_never F_saleOf F_saleReader F_saleTick F_salePage F_state F_span F_apart F_cap F_sort F_bid F_throttle F_dayBudget F_allBudget F_pays F_price I_campaigns I_pages I_sales I_tick sa1 sa2 sa3 hnc hn2 (cso _ F_saleOf)) 3 wm_647 wm_648 wm_649 wm_8 wm_650 (by decide +kernel) ⟨Nat.le_of_ble_eq_true rfl, Nat.le_of_ble_eq_true rfl⟩ hK rfl (hC.1.1 51 (by decide)) hC.2.1 rfl hl.1 rfl (Nat.le_of_ble_eq_true rfl) dL_law_592 ⟨by show 60 + 4 * (512 - n) + 0 ≤ 600000; omega, by show 13186 + 48 * (512 - n) + 0 ≤ 7302250; omega⟩ hS hP2 hP1 (fun r_146 H locs hpm hP2 hP1 hS => ?_)
        have hM := hM0
        refine lv_pop hx hb dL_law_595 rfl ?_
        refine lv_goto (tgt := 889) hx hb dL_law_596 (by decide) ?_
        refine lv_iinc (v := nI (4 * (j + 1))) (lv' := [(3, .int (nI (4 * (j + 1)))), (0, .ref b), (1, .ref h1), (2, .ref (rt 51))]) hx hb dL_law_889 hl (k := 3) rfl (by exact (nI_add (4 * j) 4).trans (congrArg nI (by omega))) (by decide) rfl (fun ls hl => ?_)
        refine lv_goto (tgt := 18) hx hb dL_law_892 (by decide) ?_
        exact W.widen (k := 60 + 4 * (512 - (n - 1))) (n := 13186 + 48 * (512 - (n - 1))) (by show 60 + 4 * (512 - n) ≤ _; omega) (by show 13186 + 48 * (512 - n) ≤ _; omega) (ih (n - 1) (by omega) _ _ _ ⟨j + 1, L1, f1, f2, np, nc, n1, _, tk, lk, tp, cp, gp, _, G, J, mk, st, ap, kd, sn, by omega, by omega, hI, hm_h1, hk_h1, hg7, hg8, hg9, hg12, hg13, by omega, hLn1, hM, hLn2, hdis, hLA1, hLA2, hP1, hP2, hS, lv_sub hl [1, 2, 3, 0] rfl⟩)
      · skip
        refine lv_tableIn (off := 567) (tgt := 599) hx hb dL_law_32 (by decide) (by decide) rfl (by decide) ?_
        refine lv_aload_n hx hb dL_law_599 rfl (lv_at hl 1 rfl) ?_
        refine lv_aload_n hx hb dL_law_600 rfl (lv_at hl 0 rfl) ?_
        refine lv_iload_n hx hb dL_law_601 rfl (lv_at hl 3 rfl) ?_
        refine lv_iconst (v := 1) hx hb dL_law_602 (by decide) ?_
        refine lv_iadd hx hb dL_law_603 ?_
        refine lv_topi (fun x_147 ex_147 => ?_)
        obtain rfl : x_147 = nI ((4 * j) + 1) := ex_147.trans (nI_add (4 * j) 1)
        refine va_sld hx hb hX hbl hbA hS (vp_in_nI (by omega) (by omega)) dL_law_604 ?_
        refine lv_topi (fun x_148 ex_148 => ?_)
        rw [nI_clamp (by omega)] at ex_148
        obtain rfl : sa1 = x_148 := (ex_148.trans hsa1).symm
        refine lv_aload_n hx hb dL_law_605 rfl (lv_at hl 0 rfl) ?_
        refine lv_iload_n hx hb dL_law_606 rfl (lv_at hl 3 rfl) ?_
        refine lv_iconst (v := 2) hx hb dL_law_607 (by decide) ?_
        refine lv_iadd hx hb dL_law_608 ?_
        refine lv_topi (fun x_149 ex_149 => ?_)
        obtain rfl : x_149 = nI ((4 * j) + 2) := ex_149.trans (nI_add (4 * j) 2)
        refine va_sld hx hb hX hbl hbA hS (vp_in_nI (by omega) (by omega)) dL_law_609 ?_
        refine lv_topi (fun x_150 ex_150 => ?_)
        rw [nI_clamp (by omega)] at ex_150
        obtain rfl : sa2 = x_150 := (ex_150.trans hsa2).symm
        obtain ⟨fsc, hFc, -, -⟩ := hI.o hm_h1 hk_h1 rfl (ci := 5) rfl rfl
        refine lc_Ml (ci := 5) ⟨hx, hb, hml, hown, hts⟩ (k_X5_best l dC dI K L1 f1 hI h1 hm_h1 hk_h1 sa1 sa2 hg7 hg8 hg12 hnp hnc hLn1) 2 wm_651 wm_652 wm_653 wm_67 wm_654 (by decide +kernel) ⟨Nat.le_of_ble_eq_true rfl, Nat.le_of_ble_eq_true rfl⟩ hK rfl hm_h1 hFc rfl hl.1 rfl (Nat.le_of_ble_eq_true rfl) dL_law_610 ⟨by show 60 + 4 * (512 - n) + 0 ≤ 600000; omega, by show 13186 + 48 * (512 - n) + 0 ≤ 7302250; omega⟩ hLA1 hS hP1 hP2 hdis (fun r_151 f1c H locs hpc hP1 hP2 hS => ?_)
        obtain ⟨Jc, tpc, cpc, hI⟩ := hpc
        refine lv_pop2_2 hx hb dL_law_613 rfl ?_
        refine lv_aload_n hx hb dL_law_614 rfl (lv_at hl 2 rfl) ?_
        refine lv_aload_n hx hb dL_law_615 rfl (lv_at hl 0 rfl) ?_
        refine lv_iload_n hx hb dL_law_616 rfl (lv_at hl 3 rfl) ?_
        refine lv_iconst (v := 1) hx hb dL_law_617 (by decide) ?_
        refine lv_iadd hx hb dL_law_618 ?_
        refine lv_topi (fun x_152 ex_152 => ?_)
        obtain rfl : x_152 = nI ((4 * j) + 1) := ex_152.trans (nI_add (4 * j) 1)
        refine va_sld hx hb hX hbl hbA hS (vp_in_nI (by omega) (by omega)) dL_law_619 ?_
        refine lv_topi (fun x_153 ex_153 => ?_)
        rw [nI_clamp (by omega)] at ex_153
        obtain rfl : sa1 = x_153 := (ex_153.trans hsa1).symm
        refine lv_aload_n hx hb dL_law_620 rfl (lv_at hl 0 rfl) ?_
        refine lv_iload_n hx hb dL_law_621 rfl (lv_at hl 3 rfl) ?_
        refine lv_iconst (v := 2) hx hb dL_law_622 (by decide) ?_
        refine lv_iadd hx hb dL_law_623 ?_
        refine lv_topi (fun x_154 ex_154 => ?_)
        obtain rfl : x_154 = nI ((4 * j) + 2) := ex_154.trans (nI_add (4 * j) 2)
        refine va_sld hx hb hX hbl hbA hS (vp_in_nI (by omega) (by omega)) dL_law_624 ?_
        refine lv_topi (fun x_155 ex_155 => ?_)
        rw [nI_clamp (by omega)] at ex_155
        obtain rfl : sa2 = x_155 := (ex_155.trans hsa2).symm
        obtain ⟨g_stopped, F_stopped⟩ := (hA2 20 (by decide)).i (t := 2) (n := 40) ⟨rfl, by decide, rfl⟩
        obtain ⟨g_must, F_must⟩ := (hA2 12 (by decide)).i (t := 0) (n := 40) ⟨rfl, by decide, rfl⟩
        obtain ⟨g_never, F_never⟩ := (hA2 13 (by decide)).i (t := 0) (n := 40) ⟨rfl, by decide, rfl⟩
        obtain ⟨g_saleOf, F_saleOf⟩ := (hA2 30 (by decide)).i (t := 0) (n := 1000) ⟨rfl, by decide, rfl⟩
        obtain ⟨g_saleReader, F_saleReader⟩ := (hA2 27 (by decide)).i (t := 0) (n := 1000) ⟨rfl, by decide, rfl⟩
        obtain ⟨g_saleTick, F_saleTick⟩ := (hA2 26 (by decide)).i (t := 0) (n := 1000) ⟨rfl, by decide, rfl⟩
        obtain ⟨g_salePage, F_salePage⟩ := (hA2 28 (by decide)).i (t := 0) (n := 1000) ⟨rfl, by decide, rfl⟩
        obtain ⟨g_state, F_state⟩ := (hA2 32 (by decide)).i (t := 0) (n := 1000) ⟨rfl, by decide, rfl⟩
        obtain ⟨g_span, F_span⟩ := (hA2 18 (by decide)).i (t := 0) (n := 40) ⟨rfl, by decide, rfl⟩
        obtain ⟨g_apart, F_apart⟩ := (hA2 21 (by decide)).i (t := 2) (n := 1600) ⟨rfl, by decide, rfl⟩
        obtain ⟨g_cap, F_cap⟩ := (hA2 17 (by decide)).i (t := 0) (n := 40) ⟨rfl, by decide, rfl⟩
        obtain ⟨g_sort, F_sort⟩ := (hA2 10 (by decide)).i (t := 0) (n := 40) ⟨rfl, by decide, rfl⟩
        obtain ⟨g_bid, F_bid⟩ := (hA2 14 (by decide)).i (t := 0) (n := 40) ⟨rfl, by decide, rfl⟩
        obtain ⟨g_throttle, F_throttle⟩ := (hA2 19 (by decide)).i (t := 0) (n := 40) ⟨rfl, by decide, rfl⟩
        obtain ⟨g_dayBudget, F_dayBudget⟩ := (hA2 15 (by decide)).i (t := 0) (n := 40) ⟨rfl, by decide, rfl⟩
        obtain ⟨g_allBudget, F_allBudget⟩ := (hA2 16 (by decide)).i (t := 0) (n := 40) ⟨rfl, by decide, rfl⟩
        obtain ⟨g_pays, F_pays⟩ := (hA2 11 (by decide)).i (t := 0) (n := 40) ⟨rfl, by decide, rfl⟩
        obtain ⟨g_price, F_price⟩ := (hA2 31 (by decide)).i (t := 0) (n := 1000) ⟨rfl, by decide, rfl⟩
        obtain ⟨g_promised, F_promised⟩ := (hA2 22 (by decide)).i (t := 0) (n := 40) ⟨rfl, by decide, rfl⟩
        obtain ⟨g_promiseDay, F_promiseDay⟩ := (hA2 23 (by decide)).i (t := 0) (n := 40) ⟨rfl, by decide, rfl⟩
        obtain ⟨g_promiseFrom, F_promiseFrom⟩ := (hA2 24 (by decide)).i (t := 0) (n := 40) ⟨rfl, by decide, rfl⟩
        obtain ⟨g_pressTick, F_pressTick⟩ := (hA2 34 (by decide)).i (t := 0) (n := 1000) ⟨rfl, by decide, rfl⟩
        obtain ⟨g_places, F_places⟩ := (hA2 6 (by decide)).i (t := 0) (n := 8) ⟨rfl, by decide, rfl⟩
        obtain ⟨g_sizes, F_sizes⟩ := (hA2 7 (by decide)).i (t := 0) (n := 32) ⟨rfl, by decide, rfl⟩
        obtain ⟨g_mayBe, F_mayBe⟩ := (hA2 36 (by decide)).i (t := 0) (n := 40) ⟨rfl, by decide, rfl⟩
        obtain ⟨g_worth, F_worth⟩ := (hA2 37 (by decide)).l (n := 160) ⟨rfl, rfl⟩
        obtain ⟨g_mostAt, F_mostAt⟩ := (hA2 38 (by decide)).l (n := 5) ⟨rfl, rfl⟩
        obtain ⟨g_order, F_order⟩ := (hA2 47 (by decide)).i (t := 0) (n := 40) ⟨rfl, by decide, rfl⟩
        obtain ⟨g_next, F_next⟩ := (hA2 48 (by decide)).i (t := 0) (n := 5) ⟨rfl, by decide, rfl⟩
        obtain ⟨g_upTo, F_upTo⟩ := (hA2 41 (by decide)).l (n := 5) ⟨rfl, rfl⟩
        obtain ⟨g_filledTo, F_filledTo⟩ := (hA2 42 (by decide)).i (t := 0) (n := 5) ⟨rfl, by decide, rfl⟩
        obtain ⟨g_at, F_at⟩ := (hA2 40 (by decide)).i (t := 0) (n := 5) ⟨rfl, by decide, rfl⟩
        obtain ⟨g_given, F_given⟩ := (hA2 46 (by decide)).i (t := 0) (n := 4) ⟨rfl, by decide, rfl⟩
        refine lc_Ml (ci := 6) ⟨hx, hb, hml, hown, hts⟩ (um_best l dC dI K L2 f2 rt hC F_stopped F_marks F_must F_never F_saleOf F_saleReader F_saleTick F_salePage F_state F_span F_apart F_cap F_sort F_bid F_throttle F_dayBudget F_allBudget F_pays F_price F_promised F_promiseDay F_promiseFrom F_pressTick F_places F_sizes F_mayBe F_worth F_mostAt F_order F_next F_upTo F_filledTo F_at F_given I_sales I_campaigns I_tick I_may I_spots I_hasBest I_bestSum I_bestFilled I_pages sa1 sa2 hn2 (cso _ F_saleOf) hnc (cpb _ _ _ F_promised F_promiseDay F_promiseFrom) (cbd _ F_bid) (csz _ F_sizes) hnp (cpl _ F_places) hLn2) 2 wm_655 wm_656 wm_657 wm_8 wm_658 (by decide +kernel) ⟨Nat.le_of_ble_eq_true rfl, Nat.le_of_ble_eq_true rfl⟩ hK rfl (hC.1.1 51 (by decide)) hC.2.1 rfl hl.1 rfl (Nat.le_of_ble_eq_true rfl) dL_law_625 ⟨by show 60 + 4 * (512 - n) + 0 ≤ 600000; omega, by show 13186 + 48 * (512 - n) + 0 ≤ 7302250; omega⟩ hLA2 hS hP2 hP1 (fun a h2 h3 => hdis a h3 h2) (fun r_156 f2c H locs hpm hP2 hP1 hS => ?_)
        have hM : mI K rt L2 f2c np nc n2 tk ru mk := by
          rcases hpm with h9 | ⟨fm5, gb, gw, gm, go, gn, gu, gf, ga, gg, hs, hFs5, hC5, hv_36, hv_37, hv_38, hv_47, hv_48, hv_41, hv_42, hv_40, hv_46, ⟨w1, hf35⟩, ⟨w2, hf39⟩, ⟨w3, hf45⟩, ⟨w4, hf43⟩, ⟨w5, hf44⟩⟩
          · rw [h9]; exact hM0
          · exact ⟨fm5, hC5, mTy_keep hC.1 hA2 hs (by decide) (fun k hk hm => by
              simp only [List.mem_cons, List.not_mem_nil, or_false] at hk
              rcases hk with rfl | rfl | rfl | rfl | rfl | rfl | rfl | rfl | rfl | rfl
              · exact mTy_i ⟨rfl, by decide, rfl⟩ hv_36
              · exact mTy_l ⟨rfl, rfl⟩ hv_37
              · exact mTy_l ⟨rfl, rfl⟩ hv_38
              · exact mTy_i ⟨rfl, by decide, rfl⟩ hv_40
              · exact mTy_l ⟨rfl, rfl⟩ hv_41
              · exact mTy_i ⟨rfl, by decide, rfl⟩ hv_42
              · exact mTy_i ⟨rfl, by decide, rfl⟩ hv_46
              · exact mTy_i ⟨rfl, by decide, rfl⟩ hv_47
              · exact mTy_i ⟨rfl, by decide, rfl⟩ hv_48
              · exact absurd hm (by decide)), hnp, hnc, hn2, htk, ((hFs5.2 1 (by decide)).trans I_tick), ((hFs5.2 2 (by decide)).trans I_rule), ⟨_, ((hFs5.2 3 (by decide)).trans I_pace)⟩, ⟨_, ((hFs5.2 4 (by decide)).trans I_wait)⟩, ((hFs5.2 5 (by decide)).trans I_pages), ((hFs5.2 9 (by decide)).trans I_campaigns), ((hFs5.2 25 (by decide)).trans I_sales), ⟨_, hf35⟩, ⟨_, hf39⟩, ⟨_, hf43⟩, ⟨_, hf44⟩, ⟨_, hf45⟩, ((hs.at hC.1 (by decide) (by decide)).trans F_marks), (fun g hg => cpl g ((hs.at hC.1 (by decide) (by decide)).symm.trans hg)), (fun g hg => csz g ((hs.at hC.1 (by decide) (by decide)).symm.trans hg)), (fun g hg => cbd g ((hs.at hC.1 (by decide) (by decide)).symm.trans hg)), (fun g1 g2 g3 a1 a2 a3 => cpb g1 g2 g3 ((hs.at hC.1 (by decide) (by decide)).symm.trans a1) ((hs.at hC.1 (by decide) (by decide)).symm.trans a2) ((hs.at hC.1 (by decide) (by decide)).symm.trans a3)), (fun g hg => cso g ((hs.at hC.1 (by decide) (by decide)).symm.trans hg))⟩
        clear hpm
        refine lv_pop2_2 hx hb dL_law_628 rfl ?_
        refine lv_goto (tgt := 889) hx hb dL_law_629 (by decide) ?_
        refine lv_iinc (v := nI (4 * (j + 1))) (lv' := [(3, .int (nI (4 * (j + 1)))), (0, .ref b), (1, .ref h1), (2, .ref (rt 51))]) hx hb dL_law_889 hl (k := 3) rfl (by exact (nI_add (4 * j) 4).trans (congrArg nI (by omega))) (by decide) rfl (fun ls hl => ?_)
        refine lv_goto (tgt := 18) hx hb dL_law_892 (by decide) ?_
        exact W.widen (k := 60 + 4 * (512 - (n - 1))) (n := 13186 + 48 * (512 - (n - 1))) (by show 60 + 4 * (512 - n) ≤ _; omega) (by show 13186 + 48 * (512 - n) ≤ _; omega) (ih (n - 1) (by omega) _ _ _ ⟨j + 1, L1, f1c, f2c, np, nc, n1, _, tk, lk, tpc, cpc, gp, _, G, Jc, mk, st, ap, kd, sn, by omega, by omega, hI, hm_h1, hk_h1, hg7, hg8, hg9, hg12, hg13, by omega, hLn1, hM, hLn2, hdis, hLA1, hLA2, hP1, hP2, hS, lv_sub hl [1, 2, 3, 0] rfl⟩)
      · skip
        refine lv_tableIn (off := 600) (tgt := 632) hx hb dL_law_32 (by decide) (by decide) rfl (by decide) ?_
        refine lv_aload_n hx hb dL_law_632 rfl (lv_at hl 1 rfl) ?_
        refine lv_aload_n hx hb dL_law_633 rfl (lv_at hl 0 rfl) ?_
        refine lv_iload_n hx hb dL_law_634 rfl (lv_at hl 3 rfl) ?_
        refine lv_iconst (v := 1) hx hb dL_law_635 (by decide) ?_
        refine lv_iadd hx hb dL_law_636 ?_
        refine lv_topi (fun x_157 ex_157 => ?_)
        obtain rfl : x_157 = nI ((4 * j) + 1) := ex_157.trans (nI_add (4 * j) 1)
        refine va_sld hx hb hX hbl hbA hS (vp_in_nI (by omega) (by omega)) dL_law_637 ?_
        refine lv_topi (fun x_158 ex_158 => ?_)
        rw [nI_clamp (by omega)] at ex_158
        obtain rfl : sa1 = x_158 := (ex_158.trans hsa1).symm
        refine lv_aload_n hx hb dL_law_638 rfl (lv_at hl 0 rfl) ?_
        refine lv_iload_n hx hb dL_law_639 rfl (lv_at hl 3 rfl) ?_
        refine lv_iconst (v := 2) hx hb dL_law_640 (by decide) ?_
        refine lv_iadd hx hb dL_law_641 ?_
        refine lv_topi (fun x_159 ex_159 => ?_)
        obtain rfl : x_159 = nI ((4 * j) + 2) := ex_159.trans (nI_add (4 * j) 2)
        refine va_sld hx hb hX hbl hbA hS (vp_in_nI (by omega) (by omega)) dL_law_642 ?_
        refine lv_topi (fun x_160 ex_160 => ?_)
        rw [nI_clamp (by omega)] at ex_160
        obtain rfl : sa2 = x_160 := (ex_160.trans hsa2).symm
        refine lv_aload_n hx hb dL_law_643 rfl (lv_at hl 0 rfl) ?_
        refine lv_iload_n hx hb dL_law_644 rfl (lv_at hl 3 rfl) ?_
        refine lv_iconst (v := 3) hx hb dL_law_645 (by decide) ?_
        refine lv_iadd hx hb dL_law_646 ?_
        refine lv_topi (fun x_161 ex_161 => ?_)
        obtain rfl : x_161 = nI ((4 * j) + 3) := ex_161.trans (nI_add (4 * j) 3)
        refine va_sld hx hb hX hbl hbA hS (vp_in_nI (by omega) (by omega)) dL_law_647 ?_
        refine lv_topi (fun x_162 ex_162 => ?_)
        rw [nI_clamp (by omega)] at ex_162
        obtain rfl : sa3 = x_162 := (ex_162.trans hsa3).symm
        obtain ⟨fsc, hFc, -, -⟩ := hI.o hm_h1 hk_h1 rfl (ci := 5) rfl rfl
        refine lc_Mi (ci := 5) ⟨hx, hb, hml, hown, hts⟩ (k_X5_give l dC dI K L1 f1 hI h1 hm_h1 hk_h1 sa1 sa2 sa3 hg7 hg8 hg12 hnp hnc hLn1) 3 wm_659 wm_660 wm_661 wm_67 wm_662 (by decide +kernel) ⟨Nat.le_of_ble_eq_true rfl, Nat.le_of_ble_eq_true rfl⟩ hK rfl hm_h1 hFc rfl hl.1 rfl (Nat.le_of_ble_eq_true rfl) dL_law_648 ⟨by show 60 + 4 * (512 - n) + 0 ≤ 600000; omega, by show 13186 + 48 * (512 - n) + 0 ≤ 7302250; omega⟩ hLA1 hS hP1 hP2 hdis (fun r_163 f1c H locs hpc hP1 hP2 hS => ?_)
        obtain ⟨Jc, tpc, cpc, hI⟩ := hpc
        refine lv_pop hx hb dL_law_651 rfl ?_
        refine lv_aload_n hx hb dL_law_652 rfl (lv_at hl 2 rfl) ?_
        refine lv_aload_n hx hb dL_law_653 rfl (lv_at hl 0 rfl) ?_
        refine lv_iload_n hx hb dL_law_654 rfl (lv_at hl 3 rfl) ?_
        refine lv_iconst (v := 1) hx hb dL_law_655 (by decide) ?_
        refine lv_iadd hx hb dL_law_656 ?_
        refine lv_topi (fun x_164 ex_164 => ?_)
        obtain rfl : x_164 = nI ((4 * j) + 1) := ex_164.trans (nI_add (4 * j) 1)
        refine va_sld hx hb hX hbl hbA hS (vp_in_nI (by omega) (by omega)) dL_law_657 ?_
        refine lv_topi (fun x_165 ex_165 => ?_)
        rw [nI_clamp (by omega)] at ex_165
        obtain rfl : sa1 = x_165 := (ex_165.trans hsa1).symm
        refine lv_aload_n hx hb dL_law_658 rfl (lv_at hl 0 rfl) ?_
        refine lv_iload_n hx hb dL_law_659 rfl (lv_at hl 3 rfl) ?_
        refine lv_iconst (v := 2) hx hb dL_law_660 (by decide) ?_
        refine lv_iadd hx hb dL_law_661 ?_
        refine lv_topi (fun x_166 ex_166 => ?_)
        obtain rfl : x_166 = nI ((4 * j) + 2) := ex_166.trans (nI_add (4 * j) 2)
        refine va_sld hx hb hX hbl hbA hS (vp_in_nI (by omega) (by omega)) dL_law_662 ?_
        refine lv_topi (fun x_167 ex_167 => ?_)
        rw [nI_clamp (by omega)] at ex_167
        obtain rfl : sa2 = x_167 := (ex_167.trans hsa2).symm
        refine lv_aload_n hx hb dL_law_663 rfl (lv_at hl 0 rfl) ?_
        refine lv_iload_n hx hb dL_law_664 rfl (lv_at hl 3 rfl) ?_
        refine lv_iconst (v := 3) hx hb dL_law_665 (by decide) ?_
        refine lv_iadd hx hb dL_law_666 ?_
        refine lv_topi (fun x_168 ex_168 => ?_)
        obtain rfl : x_168 = nI ((4 * j) + 3) := ex_168.trans (nI_add (4 * j) 3)
        refine va_sld hx hb hX hbl hbA hS (vp_in_nI (by omega) (by omega)) dL_law_667 ?_
        refine lv_topi (fun x_169 ex_169 => ?_)
        rw [nI_clamp (by omega)] at ex_169
        obtain rfl : sa3 = x_169 := (ex_169.trans hsa3).symm
        obtain ⟨g_stopped, F_stopped⟩ := (hA2 20 (by decide)).i (t := 2) (n := 40) ⟨rfl, by decide, rfl⟩
        obtain ⟨g_must, F_must⟩ := (hA2 12 (by decide)).i (t := 0) (n := 40) ⟨rfl, by decide, rfl⟩
        obtain ⟨g_never, F_never⟩ := (hA2 13 (by decide)).i (t := 0) (n := 40) ⟨rfl, by decide, rfl⟩
        obtain ⟨g_saleOf, F_saleOf⟩ := (hA2 30 (by decide)).i (t := 0) (n := 1000) ⟨rfl, by decide, rfl⟩
        obtain ⟨g_saleReader, F_saleReader⟩ := (hA2 27 (by decide)).i (t := 0) (n := 1000) ⟨rfl, by decide, rfl⟩
        obtain ⟨g_saleTick, F_saleTick⟩ := (hA2 26 (by decide)).i (t := 0) (n := 1000) ⟨rfl, by decide, rfl⟩
        obtain ⟨g_salePage, F_salePage⟩ := (hA2 28 (by decide)).i (t := 0) (n := 1000) ⟨rfl, by decide, rfl⟩
        obtain ⟨g_state, F_state⟩ := (hA2 32 (by decide)).i (t := 0) (n := 1000) ⟨rfl, by decide, rfl⟩
        obtain ⟨g_span, F_span⟩ := (hA2 18 (by decide)).i (t := 0) (n := 40) ⟨rfl, by decide, rfl⟩
        obtain ⟨g_apart, F_apart⟩ := (hA2 21 (by decide)).i (t := 2) (n := 1600) ⟨rfl, by decide, rfl⟩
        obtain ⟨g_cap, F_cap⟩ := (hA2 17 (by decide)).i (t := 0) (n := 40) ⟨rfl, by decide, rfl⟩
        obtain ⟨g_sort, F_sort⟩ := (hA2 10 (by decide)).i (t := 0) (n := 40) ⟨rfl, by decide, rfl⟩
        obtain ⟨g_bid, F_bid⟩ := (hA2 14 (by decide)).i (t := 0) (n := 40) ⟨rfl, by decide, rfl⟩
        obtain ⟨g_throttle, F_throttle⟩ := (hA2 19 (by decide)).i (t := 0) (n := 40) ⟨rfl, by decide, rfl⟩
        obtain ⟨g_dayBudget, F_dayBudget⟩ := (hA2 15 (by decide)).i (t := 0) (n := 40) ⟨rfl, by decide, rfl⟩
        obtain ⟨g_allBudget, F_allBudget⟩ := (hA2 16 (by decide)).i (t := 0) (n := 40) ⟨rfl, by decide, rfl⟩
        obtain ⟨g_pays, F_pays⟩ := (hA2 11 (by decide)).i (t := 0) (n := 40) ⟨rfl, by decide, rfl⟩
        obtain ⟨g_price, F_price⟩ := (hA2 31 (by decide)).i (t := 0) (n := 1000) ⟨rfl, by decide, rfl⟩
        obtain ⟨g_promised, F_promised⟩ := (hA2 22 (by decide)).i (t := 0) (n := 40) ⟨rfl, by decide, rfl⟩
        obtain ⟨g_promiseDay, F_promiseDay⟩ := (hA2 23 (by decide)).i (t := 0) (n := 40) ⟨rfl, by decide, rfl⟩
        obtain ⟨g_promiseFrom, F_promiseFrom⟩ := (hA2 24 (by decide)).i (t := 0) (n := 40) ⟨rfl, by decide, rfl⟩
        obtain ⟨g_pressTick, F_pressTick⟩ := (hA2 34 (by decide)).i (t := 0) (n := 1000) ⟨rfl, by decide, rfl⟩
        obtain ⟨g_places, F_places⟩ := (hA2 6 (by decide)).i (t := 0) (n := 8) ⟨rfl, by decide, rfl⟩
        obtain ⟨g_sizes, F_sizes⟩ := (hA2 7 (by decide)).i (t := 0) (n := 32) ⟨rfl, by decide, rfl⟩
        obtain ⟨g_mayBe, F_mayBe⟩ := (hA2 36 (by decide)).i (t := 0) (n := 40) ⟨rfl, by decide, rfl⟩
        obtain ⟨g_worth, F_worth⟩ := (hA2 37 (by decide)).l (n := 160) ⟨rfl, rfl⟩
        obtain ⟨g_mostAt, F_mostAt⟩ := (hA2 38 (by decide)).l (n := 5) ⟨rfl, rfl⟩
        obtain ⟨g_order, F_order⟩ := (hA2 47 (by decide)).i (t := 0) (n := 40) ⟨rfl, by decide, rfl⟩
        obtain ⟨g_next, F_next⟩ := (hA2 48 (by decide)).i (t := 0) (n := 5) ⟨rfl, by decide, rfl⟩
        obtain ⟨g_upTo, F_upTo⟩ := (hA2 41 (by decide)).l (n := 5) ⟨rfl, rfl⟩
        obtain ⟨g_filledTo, F_filledTo⟩ := (hA2 42 (by decide)).i (t := 0) (n := 5) ⟨rfl, by decide, rfl⟩
        obtain ⟨g_at, F_at⟩ := (hA2 40 (by decide)).i (t := 0) (n := 5) ⟨rfl, by decide, rfl⟩
        obtain ⟨g_given, F_given⟩ := (hA2 46 (by decide)).i (t := 0) (n := 4) ⟨rfl, by decide, rfl⟩
        refine lc_Mi (ci := 6) ⟨hx, hb, hml, hown, hts⟩ (um_give l dC dI K L2 f2 rt hC F_stopped F_marks F_must F_never F_saleOf F_saleReader F_saleTick F_salePage F_state F_span F_apart F_cap F_sort F_bid F_throttle F_dayBudget F_allBudget F_pays F_price F_promised F_promiseDay F_promiseFrom F_pressTick F_places F_sizes F_mayBe F_worth F_mostAt F_order F_next F_upTo F_filledTo F_at F_given I_sales I_campaigns I_tick I_may I_spots I_hasBest I_bestSum I_bestFilled I_pages sa1 sa2 sa3 hn2 (cso _ F_saleOf) hnc (cpb _ _ _ F_promised F_promiseDay F_promiseFrom) (cbd _ F_bid) (csz _ F_sizes) hnp (cpl _ F_places) hLn2) 3 wm_663 wm_664 wm_665 wm_8 wm_666 (by decide +kernel) ⟨Nat.le_of_ble_eq_true rfl, Nat.le_of_ble_eq_true rfl⟩ hK rfl (hC.1.1 51 (by decide)) hC.2.1 rfl hl.1 rfl (Nat.le_of_ble_eq_true rfl) dL_law_668 ⟨by show 60 + 4 * (512 - n) + 0 ≤ 600000; omega, by show 13186 + 48 * (512 - n) + 0 ≤ 7302250; omega⟩ hLA2 hS hP2 hP1 (fun a h2 h3 => hdis a h3 h2) (fun r_170 f2c H locs hpm hP2 hP1 hS => ?_)
        have hM : mI K rt L2 f2c np nc n2 tk ru mk := by
          rcases hpm with h9 | ⟨fm5, gb, gw, gm, go, gn, gu, gf, ga, gg, hs, hFs5, hC5, hv_36, hv_37, hv_38, hv_47, hv_48, hv_41, hv_42, hv_40, hv_46, ⟨w1, hf35⟩, ⟨w2, hf39⟩, ⟨w3, hf45⟩, ⟨w4, hf43⟩, ⟨w5, hf44⟩⟩
          · rw [h9]; exact hM0
          · exact ⟨fm5, hC5, mTy_keep hC.1 hA2 hs (by decide) (fun k hk hm => by
              simp only [List.mem_cons, List.not_mem_nil, or_false] at hk
              rcases hk with rfl | rfl | rfl | rfl | rfl | rfl | rfl | rfl | rfl | rfl
              · exact mTy_i ⟨rfl, by decide, rfl⟩ hv_36
              · exact mTy_l ⟨rfl, rfl⟩ hv_37
              · exact mTy_l ⟨rfl, rfl⟩ hv_38
              · exact mTy_i ⟨rfl, by decide, rfl⟩ hv_40
              · exact mTy_l ⟨rfl, rfl⟩ hv_41
              · exact mTy_i ⟨rfl, by decide, rfl⟩ hv_42
              · exact mTy_i ⟨rfl, by decide, rfl⟩ hv_46
              · exact mTy_i ⟨rfl, by decide, rfl⟩ hv_47
              · exact mTy_i ⟨rfl, by decide, rfl⟩ hv_48
              · exact absurd hm (by decide)), hnp, hnc, hn2, htk, ((hFs5.2 1 (by decide)).trans I_tick), ((hFs5.2 2 (by decide)).trans I_rule), ⟨_, ((hFs5.2 3 (by decide)).trans I_pace)⟩, ⟨_, ((hFs5.2 4 (by decide)).trans I_wait)⟩, ((hFs5.2 5 (by decide)).trans I_pages), ((hFs5.2 9 (by decide)).trans I_campaigns), ((hFs5.2 25 (by decide)).trans I_sales), ⟨_, hf35⟩, ⟨_, hf39⟩, ⟨_, hf43⟩, ⟨_, hf44⟩, ⟨_, hf45⟩, ((hs.at hC.1 (by decide) (by decide)).trans F_marks), (fun g hg => cpl g ((hs.at hC.1 (by decide) (by decide)).symm.trans hg)), (fun g hg => csz g ((hs.at hC.1 (by decide) (by decide)).symm.trans hg)), (fun g hg => cbd g ((hs.at hC.1 (by decide) (by decide)).symm.trans hg)), (fun g1 g2 g3 a1 a2 a3 => cpb g1 g2 g3 ((hs.at hC.1 (by decide) (by decide)).symm.trans a1) ((hs.at hC.1 (by decide) (by decide)).symm.trans a2) ((hs.at hC.1 (by decide) (by decide)).symm.trans a3)), (fun g hg => cso g ((hs.at hC.1 (by decide) (by decide)).symm.trans hg))⟩
        clear hpm
        refine lv_pop hx hb dL_law_671 rfl ?_
        refine lv_goto (tgt := 889) hx hb dL_law_672 (by decide) ?_
        refine lv_iinc (v := nI (4 * (j + 1))) (lv' := [(3, .int (nI (4 * (j + 1)))), (0, .ref b), (1, .ref h1), (2, .ref (rt 51))]) hx hb dL_law_889 hl (k := 3) rfl (by exact (nI_add (4 * j) 4).trans (congrArg nI (by omega))) (by decide) rfl (fun ls hl => ?_)
        refine lv_goto (tgt := 18) hx hb dL_law_892 (by decide) ?_
        exact W.widen (k := 60 + 4 * (512 - (n - 1))) (n := 13186 + 48 * (512 - (n - 1))) (by show 60 + 4 * (512 - n) ≤ _; omega) (by show 13186 + 48 * (512 - n) ≤ _; omega) (ih (n - 1) (by omega) _ _ _ ⟨j + 1, L1, f1c, f2c, np, nc, n1, _, tk, lk, tpc, cpc, gp, _, G, Jc, mk, st, ap, kd, sn, by omega, by omega, hI, hm_h1, hk_h1, hg7, hg8, hg9, hg12, hg13, by omega, hLn1, hM, hLn2, hdis, hLA1, hLA2, hP1, hP2, hS, lv_sub hl [1, 2, 3, 0] rfl⟩)
      · skip
        refine lv_tableIn (off := 643) (tgt := 675) hx hb dL_law_32 (by decide) (by decide) rfl (by decide) ?_
        refine lv_aload_n hx hb dL_law_675 rfl (lv_at hl 1 rfl) ?_
        refine lv_aload_n hx hb dL_law_676 rfl (lv_at hl 0 rfl) ?_
        refine lv_iload_n hx hb dL_law_677 rfl (lv_at hl 3 rfl) ?_
        refine lv_iconst (v := 1) hx hb dL_law_678 (by decide) ?_
        refine lv_iadd hx hb dL_law_679 ?_
        refine lv_topi (fun x_171 ex_171 => ?_)
        obtain rfl : x_171 = nI ((4 * j) + 1) := ex_171.trans (nI_add (4 * j) 1)
        refine va_sld hx hb hX hbl hbA hS (vp_in_nI (by omega) (by omega)) dL_law_680 ?_
        refine lv_topi (fun x_172 ex_172 => ?_)
        rw [nI_clamp (by omega)] at ex_172
        obtain rfl : sa1 = x_172 := (ex_172.trans hsa1).symm
        refine lv_aload_n hx hb dL_law_681 rfl (lv_at hl 0 rfl) ?_
        refine lv_iload_n hx hb dL_law_682 rfl (lv_at hl 3 rfl) ?_
        refine lv_iconst (v := 2) hx hb dL_law_683 (by decide) ?_
        refine lv_iadd hx hb dL_law_684 ?_
        refine lv_topi (fun x_173 ex_173 => ?_)
        obtain rfl : x_173 = nI ((4 * j) + 2) := ex_173.trans (nI_add (4 * j) 2)
        refine va_sld hx hb hX hbl hbA hS (vp_in_nI (by omega) (by omega)) dL_law_685 ?_
        refine lv_topi (fun x_174 ex_174 => ?_)
        rw [nI_clamp (by omega)] at ex_174
        obtain rfl : sa2 = x_174 := (ex_174.trans hsa2).symm
        obtain ⟨fsc, hFc, -, -⟩ := hI.o hm_h1 hk_h1 rfl (ci := 5) rfl rfl
        refine lc_R (ci := 5) ⟨hx, hb, hml, hown, hts⟩ (k_X5_sale l dC dI K L1 f1 hI h1 hm_h1 hk_h1 sa1 sa2 hg9 hn1) 2 wm_667 wm_668 wm_669 wm_67 wm_670 (by decide +kernel) ⟨Nat.le_of_ble_eq_true rfl, Nat.le_of_ble_eq_true rfl⟩ hK rfl hm_h1 hFc rfl hl.1 rfl (Nat.le_of_ble_eq_true rfl) dL_law_686 ⟨by show 60 + 4 * (512 - n) + 0 ≤ 600000; omega, by show 13186 + 48 * (512 - n) + 0 ≤ 7302250; omega⟩ hS hP1 hP2 (fun r_175 H locs hpc hP1 hP2 hS => ?_)
        refine lv_pop hx hb dL_law_689 rfl ?_
        refine lv_aload_n hx hb dL_law_690 rfl (lv_at hl 2 rfl) ?_
        refine lv_aload_n hx hb dL_law_691 rfl (lv_at hl 0 rfl) ?_
        refine lv_iload_n hx hb dL_law_692 rfl (lv_at hl 3 rfl) ?_
        refine lv_iconst (v := 1) hx hb dL_law_693 (by decide) ?_
        refine lv_iadd hx hb dL_law_694 ?_
        refine lv_topi (fun x_176 ex_176 => ?_)
        obtain rfl : x_176 = nI ((4 * j) + 1) := ex_176.trans (nI_add (4 * j) 1)
        refine va_sld hx hb hX hbl hbA hS (vp_in_nI (by omega) (by omega)) dL_law_695 ?_
        refine lv_topi (fun x_177 ex_177 => ?_)
        rw [nI_clamp (by omega)] at ex_177
        obtain rfl : sa1 = x_177 := (ex_177.trans hsa1).symm
        refine lv_aload_n hx hb dL_law_696 rfl (lv_at hl 0 rfl) ?_
        refine lv_iload_n hx hb dL_law_697 rfl (lv_at hl 3 rfl) ?_
        refine lv_iconst (v := 2) hx hb dL_law_698 (by decide) ?_
        refine lv_iadd hx hb dL_law_699 ?_
        refine lv_topi (fun x_178 ex_178 => ?_)
        obtain rfl : x_178 = nI ((4 * j) + 2) := ex_178.trans (nI_add (4 * j) 2)
        refine va_sld hx hb hX hbl hbA hS (vp_in_nI (by omega) (by omega)) dL_law_700 ?_
        refine lv_topi (fun x_179 ex_179 => ?_)
        rw [nI_clamp (by omega)] at ex_179
        obtain rfl : sa2 = x_179 := (ex_179.trans hsa2).symm
        obtain ⟨g_saleTick, F_saleTick⟩ := (hA2 26 (by decide)).i (t := 0) (n := 1000) ⟨rfl, by decide, rfl⟩
        obtain ⟨g_saleReader, F_saleReader⟩ := (hA2 27 (by decide)).i (t := 0) (n := 1000) ⟨rfl, by decide, rfl⟩
        obtain ⟨g_salePage, F_salePage⟩ := (hA2 28 (by decide)).i (t := 0) (n := 1000) ⟨rfl, by decide, rfl⟩
        obtain ⟨g_salePlace, F_salePlace⟩ := (hA2 29 (by decide)).i (t := 0) (n := 1000) ⟨rfl, by decide, rfl⟩
        obtain ⟨g_saleOf, F_saleOf⟩ := (hA2 30 (by decide)).i (t := 0) (n := 1000) ⟨rfl, by decide, rfl⟩
        obtain ⟨g_price, F_price⟩ := (hA2 31 (by decide)).i (t := 0) (n := 1000) ⟨rfl, by decide, rfl⟩
        obtain ⟨g_state, F_state⟩ := (hA2 32 (by decide)).i (t := 0) (n := 1000) ⟨rfl, by decide, rfl⟩
        refine lc_R (ci := 6) ⟨hx, hb, hml, hown, hts⟩ (m_sale l dC dI K L2 f2 rt hC F_saleTick F_saleReader F_salePage F_salePlace F_saleOf F_price F_state I_sales sa1 sa2 hn2) 2 wm_671 wm_672 wm_673 wm_8 wm_674 (by decide +kernel) ⟨Nat.le_of_ble_eq_true rfl, Nat.le_of_ble_eq_true rfl⟩ hK rfl (hC.1.1 51 (by decide)) hC.2.1 rfl hl.1 rfl (Nat.le_of_ble_eq_true rfl) dL_law_701 ⟨by show 60 + 4 * (512 - n) + 0 ≤ 600000; omega, by show 13186 + 48 * (512 - n) + 0 ≤ 7302250; omega⟩ hS hP2 hP1 (fun r_180 H locs hpm hP2 hP1 hS => ?_)
        have hM := hM0
        refine lv_pop hx hb dL_law_704 rfl ?_
        refine lv_goto (tgt := 889) hx hb dL_law_705 (by decide) ?_
        refine lv_iinc (v := nI (4 * (j + 1))) (lv' := [(3, .int (nI (4 * (j + 1)))), (0, .ref b), (1, .ref h1), (2, .ref (rt 51))]) hx hb dL_law_889 hl (k := 3) rfl (by exact (nI_add (4 * j) 4).trans (congrArg nI (by omega))) (by decide) rfl (fun ls hl => ?_)
        refine lv_goto (tgt := 18) hx hb dL_law_892 (by decide) ?_
        exact W.widen (k := 60 + 4 * (512 - (n - 1))) (n := 13186 + 48 * (512 - (n - 1))) (by show 60 + 4 * (512 - n) ≤ _; omega) (by show 13186 + 48 * (512 - n) ≤ _; omega) (ih (n - 1) (by omega) _ _ _ ⟨j + 1, L1, f1, f2, np, nc, n1, _, tk, lk, tp, cp, gp, _, G, J, mk, st, ap, kd, sn, by omega, by omega, hI, hm_h1, hk_h1, hg7, hg8, hg9, hg12, hg13, by omega, hLn1, hM, hLn2, hdis, hLA1, hLA2, hP1, hP2, hS, lv_sub hl [1, 2, 3, 0] rfl⟩)
      · skip
        refine lv_tableIn (off := 676) (tgt := 708) hx hb dL_law_32 (by decide) (by decide) rfl (by decide) ?_
        refine lv_aload_n hx hb dL_law_708 rfl (lv_at hl 1 rfl) ?_
        refine lv_aload_n hx hb dL_law_709 rfl (lv_at hl 0 rfl) ?_
        refine lv_iload_n hx hb dL_law_710 rfl (lv_at hl 3 rfl) ?_
        refine lv_iconst (v := 1) hx hb dL_law_711 (by decide) ?_
        refine lv_iadd hx hb dL_law_712 ?_
        refine lv_topi (fun x_181 ex_181 => ?_)
        obtain rfl : x_181 = nI ((4 * j) + 1) := ex_181.trans (nI_add (4 * j) 1)
        refine va_sld hx hb hX hbl hbA hS (vp_in_nI (by omega) (by omega)) dL_law_713 ?_
        refine lv_topi (fun x_182 ex_182 => ?_)
        rw [nI_clamp (by omega)] at ex_182
        obtain rfl : sa1 = x_182 := (ex_182.trans hsa1).symm
        obtain ⟨fsc, hFc, -, -⟩ := hI.o hm_h1 hk_h1 rfl (ci := 5) rfl rfl
        refine lc_Mi (ci := 5) ⟨hx, hb, hml, hown, hts⟩ (k_X5_press l dC dI K L1 f1 hI h1 hm_h1 hk_h1 sa1 hg9 hg12 hnp hnc hn1 hLn1) 1 wm_675 wm_676 wm_677 wm_67 wm_678 (by decide +kernel) ⟨Nat.le_of_ble_eq_true rfl, Nat.le_of_ble_eq_true rfl⟩ hK rfl hm_h1 hFc rfl hl.1 rfl (Nat.le_of_ble_eq_true rfl) dL_law_714 ⟨by show 60 + 4 * (512 - n) + 0 ≤ 600000; omega, by show 13186 + 48 * (512 - n) + 0 ≤ 7302250; omega⟩ hLA1 hS hP1 hP2 hdis (fun r_183 f1c H locs hpc hP1 hP2 hS => ?_)
        obtain ⟨Gc, hI, hGSC⟩ := hpc
        have hg7 := (hGSC 7 (by decide)).trans hg7
        have hg8 := (hGSC 8 (by decide)).trans hg8
        have hg9 := (hGSC 9 (by decide)).trans hg9
        have hg12 := (hGSC 12 (by decide)).trans hg12
        have hg13 := (hGSC 13 (by decide)).trans hg13
        refine lv_pop hx hb dL_law_717 rfl ?_
        refine lv_aload_n hx hb dL_law_718 rfl (lv_at hl 2 rfl) ?_
        refine lv_aload_n hx hb dL_law_719 rfl (lv_at hl 0 rfl) ?_
        refine lv_iload_n hx hb dL_law_720 rfl (lv_at hl 3 rfl) ?_
        refine lv_iconst (v := 1) hx hb dL_law_721 (by decide) ?_
        refine lv_iadd hx hb dL_law_722 ?_
        refine lv_topi (fun x_184 ex_184 => ?_)
        obtain rfl : x_184 = nI ((4 * j) + 1) := ex_184.trans (nI_add (4 * j) 1)
        refine va_sld hx hb hX hbl hbA hS (vp_in_nI (by omega) (by omega)) dL_law_723 ?_
        refine lv_topi (fun x_185 ex_185 => ?_)
        rw [nI_clamp (by omega)] at ex_185
        obtain rfl : sa1 = x_185 := (ex_185.trans hsa1).symm
        obtain ⟨g_pays, F_pays⟩ := (hA2 11 (by decide)).i (t := 0) (n := 40) ⟨rfl, by decide, rfl⟩
        obtain ⟨g_saleOf, F_saleOf⟩ := (hA2 30 (by decide)).i (t := 0) (n := 1000) ⟨rfl, by decide, rfl⟩
        obtain ⟨g_state, F_state⟩ := (hA2 32 (by decide)).i (t := 0) (n := 1000) ⟨rfl, by decide, rfl⟩
        obtain ⟨g_saleTick, F_saleTick⟩ := (hA2 26 (by decide)).i (t := 0) (n := 1000) ⟨rfl, by decide, rfl⟩
        obtain ⟨g_saleWait, F_saleWait⟩ := (hA2 33 (by decide)).i (t := 0) (n := 1000) ⟨rfl, by decide, rfl⟩
        obtain ⟨g_pressTick, F_pressTick⟩ := (hA2 34 (by decide)).i (t := 0) (n := 1000) ⟨rfl, by decide, rfl⟩
        refine lc_Mi (ci := 6) ⟨hx, hb, hml, hown, hts⟩ (um_press l dC dI K L2 f2 rt hC F_pays F_saleOf F_state F_saleTick F_saleWait F_pressTick I_sales I_tick sa1 hn2 (cso _ F_saleOf) hLn2) 1 wm_679 wm_680 wm_681 wm_8 wm_682 (by decide +kernel) ⟨Nat.le_of_ble_eq_true rfl, Nat.le_of_ble_eq_true rfl⟩ hK rfl (hC.1.1 51 (by decide)) hC.2.1 rfl hl.1 rfl (Nat.le_of_ble_eq_true rfl) dL_law_724 ⟨by show 60 + 4 * (512 - n) + 0 ≤ 600000; omega, by show 13186 + 48 * (512 - n) + 0 ≤ 7302250; omega⟩ hLA2 hS hP2 hP1 (fun a h2 h3 => hdis a h3 h2) (fun r_186 f2c H locs hpm hP2 hP1 hS => ?_)
        have hM : mI K rt L2 f2c np nc n2 tk ru mk := by
          rcases hpm with h9 | ⟨g1, g2, h9⟩
          · rw [h9]; exact hM0
          · skip
            have hs : gSm rt [32, 34] f2 f2c := by rw [h9]; exact ((gSm.rf.up (k := 32) (by decide) _).up (k := 34) (by decide) _)
            have hv_32 : f2c (rt 32) = .inl (K 0, 1000, .inl g1) := by rw [h9, va_up_ne _ _ (fun q => absurd (hC.1.2 32 (by decide) 34 (by decide) q) (by decide)), va_up_self]
            have hv_34 : f2c (rt 34) = .inl (K 0, 1000, .inl g2) := by rw [h9, va_up_self]
            exact ⟨fm, ⟨hC.1, (hs.at hC.1 (by decide) (by decide)).trans hC.2.1, hC.2.2⟩, mTy_keep hC.1 hA2 hs (by decide) (fun k hk hm => by
              simp only [List.mem_cons, List.not_mem_nil, or_false] at hk
              rcases hk with rfl | rfl
              · exact mTy_i ⟨rfl, by decide, rfl⟩ hv_32
              · exact mTy_i ⟨rfl, by decide, rfl⟩ hv_34), hnp, hnc, hn2, htk, I_tick, I_rule, ⟨_, I_pace⟩, ⟨_, I_wait⟩, I_pages, I_campaigns, I_sales, ⟨_, I_may⟩, ⟨_, I_spots⟩, ⟨_, I_bestSum⟩, ⟨_, I_bestFilled⟩, ⟨_, I_hasBest⟩, ((hs.at hC.1 (by decide) (by decide)).trans F_marks), (fun g hg => cpl g ((hs.at hC.1 (by decide) (by decide)).symm.trans hg)), (fun g hg => csz g ((hs.at hC.1 (by decide) (by decide)).symm.trans hg)), (fun g hg => cbd g ((hs.at hC.1 (by decide) (by decide)).symm.trans hg)), (fun g1 g2 g3 a1 a2 a3 => cpb g1 g2 g3 ((hs.at hC.1 (by decide) (by decide)).symm.trans a1) ((hs.at hC.1 (by decide) (by decide)).symm.trans a2) ((hs.at hC.1 (by decide) (by decide)).symm.trans a3)), (fun g hg => cso g ((hs.at hC.1 (by decide) (by decide)).symm.trans hg))⟩
        clear hpm
        refine lv_pop hx hb dL_law_727 rfl ?_
        refine lv_goto (tgt := 889) hx hb dL_law_728 (by decide) ?_
        refine lv_iinc (v := nI (4 * (j + 1))) (lv' := [(3, .int (nI (4 * (j + 1)))), (0, .ref b), (1, .ref h1), (2, .ref (rt 51))]) hx hb dL_law_889 hl (k := 3) rfl (by exact (nI_add (4 * j) 4).trans (congrArg nI (by omega))) (by decide) rfl (fun ls hl => ?_)
        refine lv_goto (tgt := 18) hx hb dL_law_892 (by decide) ?_
        exact W.widen (k := 60 + 4 * (512 - (n - 1))) (n := 13186 + 48 * (512 - (n - 1))) (by show 60 + 4 * (512 - n) ≤ _; omega) (by show 13186 + 48 * (512 - n) ≤ _; omega) (ih (n - 1) (by omega) _ _ _ ⟨j + 1, L1, f1c, f2c, np, nc, n1, _, tk, lk, tp, cp, gp, _, Gc, J, mk, st, ap, kd, sn, by omega, by omega, hI, hm_h1, hk_h1, hg7, hg8, hg9, hg12, hg13, by omega, hLn1, hM, hLn2, hdis, hLA1, hLA2, hP1, hP2, hS, lv_sub hl [1, 2, 3, 0] rfl⟩)
      · skip
        refine lv_tableIn (off := 699) (tgt := 731) hx hb dL_law_32 (by decide) (by decide) rfl (by decide) ?_
        refine lv_aload_n hx hb dL_law_731 rfl (lv_at hl 1 rfl) ?_
        refine lv_aload_n hx hb dL_law_732 rfl (lv_at hl 0 rfl) ?_
        refine lv_iload_n hx hb dL_law_733 rfl (lv_at hl 3 rfl) ?_
        refine lv_iconst (v := 1) hx hb dL_law_734 (by decide) ?_
        refine lv_iadd hx hb dL_law_735 ?_
        refine lv_topi (fun x_187 ex_187 => ?_)
        obtain rfl : x_187 = nI ((4 * j) + 1) := ex_187.trans (nI_add (4 * j) 1)
        refine va_sld hx hb hX hbl hbA hS (vp_in_nI (by omega) (by omega)) dL_law_736 ?_
        refine lv_topi (fun x_188 ex_188 => ?_)
        rw [nI_clamp (by omega)] at ex_188
        obtain rfl : sa1 = x_188 := (ex_188.trans hsa1).symm
        obtain ⟨fsc, hFc, -, -⟩ := hI.o hm_h1 hk_h1 rfl (ci := 5) rfl rfl
        refine lc_Mi (ci := 5) ⟨hx, hb, hml, hown, hts⟩ (k_X5_refund l dC dI K L1 f1 hI h1 hm_h1 hk_h1 sa1 hg9 hg12 hnp hnc hn1 hLn1) 1 wm_683 wm_684 wm_685 wm_67 wm_686 (by decide +kernel) ⟨Nat.le_of_ble_eq_true rfl, Nat.le_of_ble_eq_true rfl⟩ hK rfl hm_h1 hFc rfl hl.1 rfl (Nat.le_of_ble_eq_true rfl) dL_law_737 ⟨by show 60 + 4 * (512 - n) + 0 ≤ 600000; omega, by show 13186 + 48 * (512 - n) + 0 ≤ 7302250; omega⟩ hLA1 hS hP1 hP2 hdis (fun r_189 f1c H locs hpc hP1 hP2 hS => ?_)
        obtain ⟨Gc, hI, hGSC⟩ := hpc
        have hg7 := (hGSC 7 (by decide)).trans hg7
        have hg8 := (hGSC 8 (by decide)).trans hg8
        have hg9 := (hGSC 9 (by decide)).trans hg9
        have hg12 := (hGSC 12 (by decide)).trans hg12
        have hg13 := (hGSC 13 (by decide)).trans hg13
        refine lv_pop hx hb dL_law_740 rfl ?_
        refine lv_aload_n hx hb dL_law_741 rfl (lv_at hl 2 rfl) ?_
        refine lv_aload_n hx hb dL_law_742 rfl (lv_at hl 0 rfl) ?_
        refine lv_iload_n hx hb dL_law_743 rfl (lv_at hl 3 rfl) ?_
        refine lv_iconst (v := 1) hx hb dL_law_744 (by decide) ?_
        refine lv_iadd hx hb dL_law_745 ?_
        refine lv_topi (fun x_190 ex_190 => ?_)
        obtain rfl : x_190 = nI ((4 * j) + 1) := ex_190.trans (nI_add (4 * j) 1)
        refine va_sld hx hb hX hbl hbA hS (vp_in_nI (by omega) (by omega)) dL_law_746 ?_
        refine lv_topi (fun x_191 ex_191 => ?_)
        rw [nI_clamp (by omega)] at ex_191
        obtain rfl : sa1 = x_191 := (ex_191.trans hsa1).symm
        obtain ⟨g_state, F_state⟩ := (hA2 32 (by decide)).i (t := 0) (n := 1000) ⟨rfl, by decide, rfl⟩
        obtain ⟨g_saleOf, F_saleOf⟩ := (hA2 30 (by decide)).i (t := 0) (n := 1000) ⟨rfl, by decide, rfl⟩
        obtain ⟨g_pays, F_pays⟩ := (hA2 11 (by decide)).i (t := 0) (n := 40) ⟨rfl, by decide, rfl⟩
        obtain ⟨g_price, F_price⟩ := (hA2 31 (by decide)).i (t := 0) (n := 1000) ⟨rfl, by decide, rfl⟩
        refine lc_Mi (ci := 6) ⟨hx, hb, hml, hown, hts⟩ (um_refund l dC dI K L2 f2 rt hC F_state F_saleOf F_pays F_price I_sales sa1 hn2 (cso _ F_saleOf) hLn2) 1 wm_687 wm_688 wm_689 wm_8 wm_690 (by decide +kernel) ⟨Nat.le_of_ble_eq_true rfl, Nat.le_of_ble_eq_true rfl⟩ hK rfl (hC.1.1 51 (by decide)) hC.2.1 rfl hl.1 rfl (Nat.le_of_ble_eq_true rfl) dL_law_747 ⟨by show 60 + 4 * (512 - n) + 0 ≤ 600000; omega, by show 13186 + 48 * (512 - n) + 0 ≤ 7302250; omega⟩ hLA2 hS hP2 hP1 (fun a h2 h3 => hdis a h3 h2) (fun r_192 f2c H locs hpm hP2 hP1 hS => ?_)
        have hM : mI K rt L2 f2c np nc n2 tk ru mk := by
          rcases hpm with h9 | ⟨g1, h9⟩
          · rw [h9]; exact hM0
          · skip
            have hs : gSm rt [32] f2 f2c := by rw [h9]; exact (gSm.rf.up (k := 32) (by decide) _)
            have hv_32 : f2c (rt 32) = .inl (K 0, 1000, .inl g1) := by rw [h9, va_up_self]
            exact ⟨fm, ⟨hC.1, (hs.at hC.1 (by decide) (by decide)).trans hC.2.1, hC.2.2⟩, mTy_keep hC.1 hA2 hs (by decide) (fun k hk hm => by
              simp only [List.mem_cons, List.not_mem_nil, or_false] at hk
              rcases hk with rfl
              · exact mTy_i ⟨rfl, by decide, rfl⟩ hv_32), hnp, hnc, hn2, htk, I_tick, I_rule, ⟨_, I_pace⟩, ⟨_, I_wait⟩, I_pages, I_campaigns, I_sales, ⟨_, I_may⟩, ⟨_, I_spots⟩, ⟨_, I_bestSum⟩, ⟨_, I_bestFilled⟩, ⟨_, I_hasBest⟩, ((hs.at hC.1 (by decide) (by decide)).trans F_marks), (fun g hg => cpl g ((hs.at hC.1 (by decide) (by decide)).symm.trans hg)), (fun g hg => csz g ((hs.at hC.1 (by decide) (by decide)).symm.trans hg)), (fun g hg => cbd g ((hs.at hC.1 (by decide) (by decide)).symm.trans hg)), (fun g1 g2 g3 a1 a2 a3 => cpb g1 g2 g3 ((hs.at hC.1 (by decide) (by decide)).symm.trans a1) ((hs.at hC.1 (by decide) (by decide)).symm.trans a2) ((hs.at hC.1 (by decide) (by decide)).symm.trans a3)), (fun g hg => cso g ((hs.at hC.1 (by decide) (by decide)).symm.trans hg))⟩
        clear hpm
        refine lv_pop hx hb dL_law_750 rfl ?_
        refine lv_goto (tgt := 889) hx hb dL_law_751 (by decide) ?_
        refine lv_iinc (v := nI (4 * (j + 1))) (lv' := [(3, .int (nI (4 * (j + 1)))), (0, .ref b), (1, .ref h1), (2, .ref (rt 51))]) hx hb dL_law_889 hl (k := 3) rfl (by exact (nI_add (4 * j) 4).trans (congrArg nI (by omega))) (by decide) rfl (fun ls hl => ?_)
        refine lv_goto (tgt := 18) hx hb dL_law_892 (by decide) ?_
        exact W.widen (k := 60 + 4 * (512 - (n - 1))) (n := 13186 + 48 * (512 - (n - 1))) (by show 60 + 4 * (512 - n) ≤ _; omega) (by show 13186 + 48 * (512 - n) ≤ _; omega) (ih (n - 1) (by omega) _ _ _ ⟨j + 1, L1, f1c, f2c, np, nc, n1, _, tk, lk, tp, cp, gp, _, Gc, J, mk, st, ap, kd, sn, by omega, by omega, hI, hm_h1, hk_h1, hg7, hg8, hg9, hg12, hg13, by omega, hLn1, hM, hLn2, hdis, hLA1, hLA2, hP1, hP2, hS, lv_sub hl [1, 2, 3, 0] rfl⟩)
      · skip
        refine lv_tableIn (off := 722) (tgt := 754) hx hb dL_law_32 (by decide) (by decide) rfl (by decide) ?_
        refine lv_aload_n hx hb dL_law_754 rfl (lv_at hl 1 rfl) ?_
        refine lv_aload_n hx hb dL_law_755 rfl (lv_at hl 0 rfl) ?_
        refine lv_iload_n hx hb dL_law_756 rfl (lv_at hl 3 rfl) ?_
        refine lv_iconst (v := 1) hx hb dL_law_757 (by decide) ?_
        refine lv_iadd hx hb dL_law_758 ?_
        refine lv_topi (fun x_193 ex_193 => ?_)
        obtain rfl : x_193 = nI ((4 * j) + 1) := ex_193.trans (nI_add (4 * j) 1)
        refine va_sld hx hb hX hbl hbA hS (vp_in_nI (by omega) (by omega)) dL_law_759 ?_
        refine lv_topi (fun x_194 ex_194 => ?_)
        rw [nI_clamp (by omega)] at ex_194
        obtain rfl : sa1 = x_194 := (ex_194.trans hsa1).symm
        refine lv_aload_n hx hb dL_law_760 rfl (lv_at hl 0 rfl) ?_
        refine lv_iload_n hx hb dL_law_761 rfl (lv_at hl 3 rfl) ?_
        refine lv_iconst (v := 2) hx hb dL_law_762 (by decide) ?_
        refine lv_iadd hx hb dL_law_763 ?_
        refine lv_topi (fun x_195 ex_195 => ?_)
        obtain rfl : x_195 = nI ((4 * j) + 2) := ex_195.trans (nI_add (4 * j) 2)
        refine va_sld hx hb hX hbl hbA hS (vp_in_nI (by omega) (by omega)) dL_law_764 ?_
        refine lv_topi (fun x_196 ex_196 => ?_)
        rw [nI_clamp (by omega)] at ex_196
        obtain rfl : sa2 = x_196 := (ex_196.trans hsa2).symm
        obtain ⟨fsc, hFc, -, -⟩ := hI.o hm_h1 hk_h1 rfl (ci := 5) rfl rfl
        refine lc_R (ci := 5) ⟨hx, hb, hml, hown, hts⟩ (k_X5_told l dC dI K L1 f1 hI h1 hm_h1 hk_h1 sa1 sa2 hg8 hg12 hnc) 2 wm_691 wm_692 wm_693 wm_67 wm_694 (by decide +kernel) ⟨Nat.le_of_ble_eq_true rfl, Nat.le_of_ble_eq_true rfl⟩ hK rfl hm_h1 hFc rfl hl.1 rfl (Nat.le_of_ble_eq_true rfl) dL_law_765 ⟨by show 60 + 4 * (512 - n) + 0 ≤ 600000; omega, by show 13186 + 48 * (512 - n) + 0 ≤ 7302250; omega⟩ hS hP1 hP2 (fun r_197 H locs hpc hP1 hP2 hS => ?_)
        refine lv_pop hx hb dL_law_768 rfl ?_
        refine lv_aload_n hx hb dL_law_769 rfl (lv_at hl 2 rfl) ?_
        refine lv_aload_n hx hb dL_law_770 rfl (lv_at hl 0 rfl) ?_
        refine lv_iload_n hx hb dL_law_771 rfl (lv_at hl 3 rfl) ?_
        refine lv_iconst (v := 1) hx hb dL_law_772 (by decide) ?_
        refine lv_iadd hx hb dL_law_773 ?_
        refine lv_topi (fun x_198 ex_198 => ?_)
        obtain rfl : x_198 = nI ((4 * j) + 1) := ex_198.trans (nI_add (4 * j) 1)
        refine va_sld hx hb hX hbl hbA hS (vp_in_nI (by omega) (by omega)) dL_law_774 ?_
        refine lv_topi (fun x_199 ex_199 => ?_)
        rw [nI_clamp (by omega)] at ex_199
        obtain rfl : sa1 = x_199 := (ex_199.trans hsa1).symm
        refine lv_aload_n hx hb dL_law_775 rfl (lv_at hl 0 rfl) ?_
        refine lv_iload_n hx hb dL_law_776 rfl (lv_at hl 3 rfl) ?_
        refine lv_iconst (v := 2) hx hb dL_law_777 (by decide) ?_
        refine lv_iadd hx hb dL_law_778 ?_
        refine lv_topi (fun x_200 ex_200 => ?_)
        obtain rfl : x_200 = nI ((4 * j) + 2) := ex_200.trans (nI_add (4 * j) 2)
        refine va_sld hx hb hX hbl hbA hS (vp_in_nI (by omega) (by omega)) dL_law_779 ?_
        refine lv_topi (fun x_201 ex_201 => ?_)
        rw [nI_clamp (by omega)] at ex_201
        obtain rfl : sa2 = x_201 := (ex_201.trans hsa2).symm
        obtain ⟨g_stopped, F_stopped⟩ := (hA2 20 (by decide)).i (t := 2) (n := 40) ⟨rfl, by decide, rfl⟩
        obtain ⟨g_throttle, F_throttle⟩ := (hA2 19 (by decide)).i (t := 0) (n := 40) ⟨rfl, by decide, rfl⟩
        obtain ⟨g_dayBudget, F_dayBudget⟩ := (hA2 15 (by decide)).i (t := 0) (n := 40) ⟨rfl, by decide, rfl⟩
        obtain ⟨g_allBudget, F_allBudget⟩ := (hA2 16 (by decide)).i (t := 0) (n := 40) ⟨rfl, by decide, rfl⟩
        obtain ⟨g_sort, F_sort⟩ := (hA2 10 (by decide)).i (t := 0) (n := 40) ⟨rfl, by decide, rfl⟩
        obtain ⟨g_promised, F_promised⟩ := (hA2 22 (by decide)).i (t := 0) (n := 40) ⟨rfl, by decide, rfl⟩
        obtain ⟨g_promiseDay, F_promiseDay⟩ := (hA2 23 (by decide)).i (t := 0) (n := 40) ⟨rfl, by decide, rfl⟩
        obtain ⟨g_promiseFrom, F_promiseFrom⟩ := (hA2 24 (by decide)).i (t := 0) (n := 40) ⟨rfl, by decide, rfl⟩
        obtain ⟨g_pressTick, F_pressTick⟩ := (hA2 34 (by decide)).i (t := 0) (n := 1000) ⟨rfl, by decide, rfl⟩
        obtain ⟨g_saleOf, F_saleOf⟩ := (hA2 30 (by decide)).i (t := 0) (n := 1000) ⟨rfl, by decide, rfl⟩
        obtain ⟨g_saleTick, F_saleTick⟩ := (hA2 26 (by decide)).i (t := 0) (n := 1000) ⟨rfl, by decide, rfl⟩
        obtain ⟨g_state, F_state⟩ := (hA2 32 (by decide)).i (t := 0) (n := 1000) ⟨rfl, by decide, rfl⟩
        obtain ⟨g_pays, F_pays⟩ := (hA2 11 (by decide)).i (t := 0) (n := 40) ⟨rfl, by decide, rfl⟩
        obtain ⟨g_price, F_price⟩ := (hA2 31 (by decide)).i (t := 0) (n := 1000) ⟨rfl, by decide, rfl⟩
        refine lc_R (ci := 6) ⟨hx, hb, hml, hown, hts⟩ (m_told l dC dI K L2 f2 rt hC F_stopped F_throttle F_dayBudget F_allBudget F_sort F_promised F_promiseDay F_promiseFrom F_pressTick F_saleOf F_saleTick F_state F_pays F_price I_campaigns I_sales I_tick sa1 sa2 hnc hn2 (cso _ F_saleOf) (cpb _ _ _ F_promised F_promiseDay F_promiseFrom)) 2 wm_695 wm_696 wm_697 wm_8 wm_698 (by decide +kernel) ⟨Nat.le_of_ble_eq_true rfl, Nat.le_of_ble_eq_true rfl⟩ hK rfl (hC.1.1 51 (by decide)) hC.2.1 rfl hl.1 rfl (Nat.le_of_ble_eq_true rfl) dL_law_780 ⟨by show 60 + 4 * (512 - n) + 0 ≤ 600000; omega, by show 13186 + 48 * (512 - n) + 0 ≤ 7302250; omega⟩ hS hP2 hP1 (fun r_202 H locs hpm hP2 hP1 hS => ?_)
        have hM := hM0
        refine lv_pop hx hb dL_law_783 rfl ?_
        refine lv_goto (tgt := 889) hx hb dL_law_784 (by decide) ?_
        refine lv_iinc (v := nI (4 * (j + 1))) (lv' := [(3, .int (nI (4 * (j + 1)))), (0, .ref b), (1, .ref h1), (2, .ref (rt 51))]) hx hb dL_law_889 hl (k := 3) rfl (by exact (nI_add (4 * j) 4).trans (congrArg nI (by omega))) (by decide) rfl (fun ls hl => ?_)
        refine lv_goto (tgt := 18) hx hb dL_law_892 (by decide) ?_
        exact W.widen (k := 60 + 4 * (512 - (n - 1))) (n := 13186 + 48 * (512 - (n - 1))) (by show 60 + 4 * (512 - n) ≤ _; omega) (by show 13186 + 48 * (512 - n) ≤ _; omega) (ih (n - 1) (by omega) _ _ _ ⟨j + 1, L1, f1, f2, np, nc, n1, _, tk, lk, tp, cp, gp, _, G, J, mk, st, ap, kd, sn, by omega, by omega, hI, hm_h1, hk_h1, hg7, hg8, hg9, hg12, hg13, by omega, hLn1, hM, hLn2, hdis, hLA1, hLA2, hP1, hP2, hS, lv_sub hl [1, 2, 3, 0] rfl⟩)
      · skip
        refine lv_tableIn (off := 755) (tgt := 787) hx hb dL_law_32 (by decide) (by decide) rfl (by decide) ?_
        refine lv_aload_n hx hb dL_law_787 rfl (lv_at hl 1 rfl) ?_
        refine lv_aload_n hx hb dL_law_788 rfl (lv_at hl 0 rfl) ?_
        refine lv_iload_n hx hb dL_law_789 rfl (lv_at hl 3 rfl) ?_
        refine lv_iconst (v := 1) hx hb dL_law_790 (by decide) ?_
        refine lv_iadd hx hb dL_law_791 ?_
        refine lv_topi (fun x_203 ex_203 => ?_)
        obtain rfl : x_203 = nI ((4 * j) + 1) := ex_203.trans (nI_add (4 * j) 1)
        refine va_sld hx hb hX hbl hbA hS (vp_in_nI (by omega) (by omega)) dL_law_792 ?_
        refine lv_topi (fun x_204 ex_204 => ?_)
        rw [nI_clamp (by omega)] at ex_204
        obtain rfl : sa1 = x_204 := (ex_204.trans hsa1).symm
        obtain ⟨fsc, hFc, -, -⟩ := hI.o hm_h1 hk_h1 rfl (ci := 5) rfl rfl
        refine lc_R (ci := 5) ⟨hx, hb, hml, hown, hts⟩ (k_X5_chance l dC dI K L1 f1 hI h1 hm_h1 hk_h1 sa1 hg8 hnc) 1 wm_699 wm_700 wm_701 wm_67 wm_702 (by decide +kernel) ⟨Nat.le_of_ble_eq_true rfl, Nat.le_of_ble_eq_true rfl⟩ hK rfl hm_h1 hFc rfl hl.1 rfl (Nat.le_of_ble_eq_true rfl) dL_law_793 ⟨by show 60 + 4 * (512 - n) + 0 ≤ 600000; omega, by show 13186 + 48 * (512 - n) + 0 ≤ 7302250; omega⟩ hS hP1 hP2 (fun r_205 H locs hpc hP1 hP2 hS => ?_)
        refine lv_pop hx hb dL_law_796 rfl ?_
        refine lv_aload_n hx hb dL_law_797 rfl (lv_at hl 2 rfl) ?_
        refine lv_aload_n hx hb dL_law_798 rfl (lv_at hl 0 rfl) ?_
        refine lv_iload_n hx hb dL_law_799 rfl (lv_at hl 3 rfl) ?_
        refine lv_iconst (v := 1) hx hb dL_law_800 (by decide) ?_
        refine lv_iadd hx hb dL_law_801 ?_
        refine lv_topi (fun x_206 ex_206 => ?_)
        obtain rfl : x_206 = nI ((4 * j) + 1) := ex_206.trans (nI_add (4 * j) 1)
        refine va_sld hx hb hX hbl hbA hS (vp_in_nI (by omega) (by omega)) dL_law_802 ?_
        refine lv_topi (fun x_207 ex_207 => ?_)
        rw [nI_clamp (by omega)] at ex_207
        obtain rfl : sa1 = x_207 := (ex_207.trans hsa1).symm
        obtain ⟨g_saleOf, F_saleOf⟩ := (hA2 30 (by decide)).i (t := 0) (n := 1000) ⟨rfl, by decide, rfl⟩
        obtain ⟨g_state, F_state⟩ := (hA2 32 (by decide)).i (t := 0) (n := 1000) ⟨rfl, by decide, rfl⟩
        obtain ⟨g_saleTick, F_saleTick⟩ := (hA2 26 (by decide)).i (t := 0) (n := 1000) ⟨rfl, by decide, rfl⟩
        obtain ⟨g_pressTick, F_pressTick⟩ := (hA2 34 (by decide)).i (t := 0) (n := 1000) ⟨rfl, by decide, rfl⟩
        refine lc_R (ci := 6) ⟨hx, hb, hml, hown, hts⟩ (m_chance l dC dI K L2 f2 rt hC F_saleOf F_state F_saleTick F_pressTick I_campaigns I_sales I_tick sa1 hnc hn2) 1 wm_703 wm_704 wm_705 wm_8 wm_706 (by decide +kernel) ⟨Nat.le_of_ble_eq_true rfl, Nat.le_of_ble_eq_true rfl⟩ hK rfl (hC.1.1 51 (by decide)) hC.2.1 rfl hl.1 rfl (Nat.le_of_ble_eq_true rfl) dL_law_803 ⟨by show 60 + 4 * (512 - n) + 0 ≤ 600000; omega, by show 13186 + 48 * (512 - n) + 0 ≤ 7302250; omega⟩ hS hP2 hP1 (fun r_208 H locs hpm hP2 hP1 hS => ?_)
        have hM := hM0
        refine lv_pop hx hb dL_law_806 rfl ?_
        refine lv_goto (tgt := 889) hx hb dL_law_807 (by decide) ?_
        refine lv_iinc (v := nI (4 * (j + 1))) (lv' := [(3, .int (nI (4 * (j + 1)))), (0, .ref b), (1, .ref h1), (2, .ref (rt 51))]) hx hb dL_law_889 hl (k := 3) rfl (by exact (nI_add (4 * j) 4).trans (congrArg nI (by omega))) (by decide) rfl (fun ls hl => ?_)
        refine lv_goto (tgt := 18) hx hb dL_law_892 (by decide) ?_
        exact W.widen (k := 60 + 4 * (512 - (n - 1))) (n := 13186 + 48 * (512 - (n - 1))) (by show 60 + 4 * (512 - n) ≤ _; omega) (by show 13186 + 48 * (512 - n) ≤ _; omega) (ih (n - 1) (by omega) _ _ _ ⟨j + 1, L1, f1, f2, np, nc, n1, _, tk, lk, tp, cp, gp, _, G, J, mk, st, ap, kd, sn, by omega, by omega, hI, hm_h1, hk_h1, hg7, hg8, hg9, hg12, hg13, by omega, hLn1, hM, hLn2, hdis, hLA1, hLA2, hP1, hP2, hS, lv_sub hl [1, 2, 3, 0] rfl⟩)
      · skip
        refine lv_tableIn (off := 778) (tgt := 810) hx hb dL_law_32 (by decide) (by decide) rfl (by decide) ?_
        refine lv_aload_n hx hb dL_law_810 rfl (lv_at hl 1 rfl) ?_
        refine lv_aload_n hx hb dL_law_811 rfl (lv_at hl 0 rfl) ?_
        refine lv_iload_n hx hb dL_law_812 rfl (lv_at hl 3 rfl) ?_
        refine lv_iconst (v := 1) hx hb dL_law_813 (by decide) ?_
        refine lv_iadd hx hb dL_law_814 ?_
        refine lv_topi (fun x_209 ex_209 => ?_)
        obtain rfl : x_209 = nI ((4 * j) + 1) := ex_209.trans (nI_add (4 * j) 1)
        refine va_sld hx hb hX hbl hbA hS (vp_in_nI (by omega) (by omega)) dL_law_815 ?_
        refine lv_topi (fun x_210 ex_210 => ?_)
        rw [nI_clamp (by omega)] at ex_210
        obtain rfl : sa1 = x_210 := (ex_210.trans hsa1).symm
        refine lv_aload_n hx hb dL_law_816 rfl (lv_at hl 0 rfl) ?_
        refine lv_iload_n hx hb dL_law_817 rfl (lv_at hl 3 rfl) ?_
        refine lv_iconst (v := 2) hx hb dL_law_818 (by decide) ?_
        refine lv_iadd hx hb dL_law_819 ?_
        refine lv_topi (fun x_211 ex_211 => ?_)
        obtain rfl : x_211 = nI ((4 * j) + 2) := ex_211.trans (nI_add (4 * j) 2)
        refine va_sld hx hb hX hbl hbA hS (vp_in_nI (by omega) (by omega)) dL_law_820 ?_
        refine lv_topi (fun x_212 ex_212 => ?_)
        rw [nI_clamp (by omega)] at ex_212
        obtain rfl : sa2 = x_212 := (ex_212.trans hsa2).symm
        obtain ⟨fsc, hFc, -, -⟩ := hI.o hm_h1 hk_h1 rfl (ci := 5) rfl rfl
        refine lc_R (ci := 5) ⟨hx, hb, hml, hown, hts⟩ (k_X5_draw l dC dI K L1 f1 hI h1 hm_h1 hk_h1 sa1 sa2 hg8 hg12 hnc) 2 wm_707 wm_708 wm_709 wm_67 wm_710 (by decide +kernel) ⟨Nat.le_of_ble_eq_true rfl, Nat.le_of_ble_eq_true rfl⟩ hK rfl hm_h1 hFc rfl hl.1 rfl (Nat.le_of_ble_eq_true rfl) dL_law_821 ⟨by show 60 + 4 * (512 - n) + 0 ≤ 600000; omega, by show 13186 + 48 * (512 - n) + 0 ≤ 7302250; omega⟩ hS hP1 hP2 (fun r_213 H locs hpc hP1 hP2 hS => ?_)
        refine lv_aload_n hx hb dL_law_824 rfl (lv_at hl 2 rfl) ?_
        refine lv_aload_n hx hb dL_law_825 rfl (lv_at hl 0 rfl) ?_
        refine lv_iload_n hx hb dL_law_826 rfl (lv_at hl 3 rfl) ?_
        refine lv_iconst (v := 1) hx hb dL_law_827 (by decide) ?_
        refine lv_iadd hx hb dL_law_828 ?_
        refine lv_topi (fun x_214 ex_214 => ?_)
        obtain rfl : x_214 = nI ((4 * j) + 1) := ex_214.trans (nI_add (4 * j) 1)
        refine va_sld hx hb hX hbl hbA hS (vp_in_nI (by omega) (by omega)) dL_law_829 ?_
        refine lv_topi (fun x_215 ex_215 => ?_)
        rw [nI_clamp (by omega)] at ex_215
        obtain rfl : sa1 = x_215 := (ex_215.trans hsa1).symm
        refine lv_aload_n hx hb dL_law_830 rfl (lv_at hl 0 rfl) ?_
        refine lv_iload_n hx hb dL_law_831 rfl (lv_at hl 3 rfl) ?_
        refine lv_iconst (v := 2) hx hb dL_law_832 (by decide) ?_
        refine lv_iadd hx hb dL_law_833 ?_
        refine lv_topi (fun x_216 ex_216 => ?_)
        obtain rfl : x_216 = nI ((4 * j) + 2) := ex_216.trans (nI_add (4 * j) 2)
        refine va_sld hx hb hX hbl hbA hS (vp_in_nI (by omega) (by omega)) dL_law_834 ?_
        refine lv_topi (fun x_217 ex_217 => ?_)
        rw [nI_clamp (by omega)] at ex_217
        obtain rfl : sa2 = x_217 := (ex_217.trans hsa2).symm
        refine lc_R (ci := 6) ⟨hx, hb, hml, hown, hts⟩ (m_draw l dC dI K L2 f2 rt hC I_campaigns I_tick sa1 sa2 hnc) 2 wm_711 wm_712 wm_713 wm_8 wm_714 (by decide +kernel) ⟨Nat.le_of_ble_eq_true rfl, Nat.le_of_ble_eq_true rfl⟩ hK rfl (hC.1.1 51 (by decide)) hC.2.1 rfl hl.1 rfl (Nat.le_of_ble_eq_true rfl) dL_law_835 ⟨by show 60 + 4 * (512 - n) + 0 ≤ 600000; omega, by show 13186 + 48 * (512 - n) + 0 ≤ 7302250; omega⟩ hS hP2 hP1 (fun r_218 H locs hpm hP2 hP1 hS => ?_)
        have hM := hM0
        have heq : r_213 = r_218 := hpc.trans hpm.symm
        refine lv_icmp_eq (tgt := 889) hx hb dL_law_838 (by decide) (fun c_219 => ?_) (fun c_219 => ?_)
        · skip
          refine lv_iinc (v := nI (4 * (j + 1))) (lv' := [(3, .int (nI (4 * (j + 1)))), (0, .ref b), (1, .ref h1), (2, .ref (rt 51))]) hx hb dL_law_889 hl (k := 3) rfl (by exact (nI_add (4 * j) 4).trans (congrArg nI (by omega))) (by decide) rfl (fun ls hl => ?_)
          refine lv_goto (tgt := 18) hx hb dL_law_892 (by decide) ?_
          exact W.widen (k := 60 + 4 * (512 - (n - 1))) (n := 13186 + 48 * (512 - (n - 1))) (by show 60 + 4 * (512 - n) ≤ _; omega) (by show 13186 + 48 * (512 - n) ≤ _; omega) (ih (n - 1) (by omega) _ _ _ ⟨j + 1, L1, f1, f2, np, nc, n1, _, tk, lk, tp, cp, gp, _, G, J, mk, st, ap, kd, sn, by omega, by omega, hI, hm_h1, hk_h1, hg7, hg8, hg9, hg12, hg13, by omega, hLn1, hM, hLn2, hdis, hLA1, hLA2, hP1, hP2, hS, lv_sub hl [1, 2, 3, 0] rfl⟩)
        · skip
          exact absurd heq c_219
      · skip
        refine lv_tableIn (off := 811) (tgt := 843) hx hb dL_law_32 (by decide) (by decide) rfl (by decide) ?_
        refine lv_aload_n hx hb dL_law_843 rfl (lv_at hl 1 rfl) ?_
        refine lv_aload_n hx hb dL_law_844 rfl (lv_at hl 0 rfl) ?_
        refine lv_iload_n hx hb dL_law_845 rfl (lv_at hl 3 rfl) ?_
        refine lv_iconst (v := 1) hx hb dL_law_846 (by decide) ?_
        refine lv_iadd hx hb dL_law_847 ?_
        refine lv_topi (fun x_220 ex_220 => ?_)
        obtain rfl : x_220 = nI ((4 * j) + 1) := ex_220.trans (nI_add (4 * j) 1)
        refine va_sld hx hb hX hbl hbA hS (vp_in_nI (by omega) (by omega)) dL_law_848 ?_
        refine lv_topi (fun x_221 ex_221 => ?_)
        rw [nI_clamp (by omega)] at ex_221
        obtain rfl : sa1 = x_221 := (ex_221.trans hsa1).symm
        obtain ⟨fsc, hFc, -, -⟩ := hI.o hm_h1 hk_h1 rfl (ci := 5) rfl rfl
        refine lc_R (ci := 5) ⟨hx, hb, hml, hown, hts⟩ (k_X5_income l dC dI K L1 f1 hI h1 hm_h1 hk_h1 sa1 hg7 hnp) 1 wm_715 wm_716 wm_717 wm_67 wm_718 (by decide +kernel) ⟨Nat.le_of_ble_eq_true rfl, Nat.le_of_ble_eq_true rfl⟩ hK rfl hm_h1 hFc rfl hl.1 rfl (Nat.le_of_ble_eq_true rfl) dL_law_849 ⟨by show 60 + 4 * (512 - n) + 0 ≤ 600000; omega, by show 13186 + 48 * (512 - n) + 0 ≤ 7302250; omega⟩ hS hP1 hP2 (fun r_222 H locs hpc hP1 hP2 hS => ?_)
        refine lv_pop hx hb dL_law_852 rfl ?_
        refine lv_aload_n hx hb dL_law_853 rfl (lv_at hl 2 rfl) ?_
        refine lv_aload_n hx hb dL_law_854 rfl (lv_at hl 0 rfl) ?_
        refine lv_iload_n hx hb dL_law_855 rfl (lv_at hl 3 rfl) ?_
        refine lv_iconst (v := 1) hx hb dL_law_856 (by decide) ?_
        refine lv_iadd hx hb dL_law_857 ?_
        refine lv_topi (fun x_223 ex_223 => ?_)
        obtain rfl : x_223 = nI ((4 * j) + 1) := ex_223.trans (nI_add (4 * j) 1)
        refine va_sld hx hb hX hbl hbA hS (vp_in_nI (by omega) (by omega)) dL_law_858 ?_
        refine lv_topi (fun x_224 ex_224 => ?_)
        rw [nI_clamp (by omega)] at ex_224
        obtain rfl : sa1 = x_224 := (ex_224.trans hsa1).symm
        obtain ⟨g_salePage, F_salePage⟩ := (hA2 28 (by decide)).i (t := 0) (n := 1000) ⟨rfl, by decide, rfl⟩
        obtain ⟨g_state, F_state⟩ := (hA2 32 (by decide)).i (t := 0) (n := 1000) ⟨rfl, by decide, rfl⟩
        obtain ⟨g_saleOf, F_saleOf⟩ := (hA2 30 (by decide)).i (t := 0) (n := 1000) ⟨rfl, by decide, rfl⟩
        obtain ⟨g_pays, F_pays⟩ := (hA2 11 (by decide)).i (t := 0) (n := 40) ⟨rfl, by decide, rfl⟩
        obtain ⟨g_price, F_price⟩ := (hA2 31 (by decide)).i (t := 0) (n := 1000) ⟨rfl, by decide, rfl⟩
        refine lc_R (ci := 6) ⟨hx, hb, hml, hown, hts⟩ (m_income l dC dI K L2 f2 rt hC F_salePage F_state F_saleOf F_pays F_price I_pages I_sales sa1 hn2 (cso _ F_saleOf)) 1 wm_719 wm_720 wm_721 wm_8 wm_722 (by decide +kernel) ⟨Nat.le_of_ble_eq_true rfl, Nat.le_of_ble_eq_true rfl⟩ hK rfl (hC.1.1 51 (by decide)) hC.2.1 rfl hl.1 rfl (Nat.le_of_ble_eq_true rfl) dL_law_859 ⟨by show 60 + 4 * (512 - n) + 0 ≤ 600000; omega, by show 13186 + 48 * (512 - n) + 0 ≤ 7302250; omega⟩ hS hP2 hP1 (fun r_225 H locs hpm hP2 hP1 hS => ?_)
        have hM := hM0
        refine lv_pop hx hb dL_law_862 rfl ?_
        refine lv_goto (tgt := 889) hx hb dL_law_863 (by decide) ?_
        refine lv_iinc (v := nI (4 * (j + 1))) (lv' := [(3, .int (nI (4 * (j + 1)))), (0, .ref b), (1, .ref h1), (2, .ref (rt 51))]) hx hb dL_law_889 hl (k := 3) rfl (by exact (nI_add (4 * j) 4).trans (congrArg nI (by omega))) (by decide) rfl (fun ls hl => ?_)
        refine lv_goto (tgt := 18) hx hb dL_law_892 (by decide) ?_
        exact W.widen (k := 60 + 4 * (512 - (n - 1))) (n := 13186 + 48 * (512 - (n - 1))) (by show 60 + 4 * (512 - n) ≤ _; omega) (by show 13186 + 48 * (512 - n) ≤ _; omega) (ih (n - 1) (by omega) _ _ _ ⟨j + 1, L1, f1, f2, np, nc, n1, _, tk, lk, tp, cp, gp, _, G, J, mk, st, ap, kd, sn, by omega, by omega, hI, hm_h1, hk_h1, hg7, hg8, hg9, hg12, hg13, by omega, hLn1, hM, hLn2, hdis, hLA1, hLA2, hP1, hP2, hS, lv_sub hl [1, 2, 3, 0] rfl⟩)
      · skip
        refine lv_tableIn (off := 834) (tgt := 866) hx hb dL_law_32 (by decide) (by decide) rfl (by decide) ?_
        refine lv_aload_n hx hb dL_law_866 rfl (lv_at hl 1 rfl) ?_
        refine lv_aload_n hx hb dL_law_867 rfl (lv_at hl 0 rfl) ?_
        refine lv_iload_n hx hb dL_law_868 rfl (lv_at hl 3 rfl) ?_
        refine lv_iconst (v := 1) hx hb dL_law_869 (by decide) ?_
        refine lv_iadd hx hb dL_law_870 ?_
        refine lv_topi (fun x_226 ex_226 => ?_)
        obtain rfl : x_226 = nI ((4 * j) + 1) := ex_226.trans (nI_add (4 * j) 1)
        refine va_sld hx hb hX hbl hbA hS (vp_in_nI (by omega) (by omega)) dL_law_871 ?_
        refine lv_topi (fun x_227 ex_227 => ?_)
        rw [nI_clamp (by omega)] at ex_227
        obtain rfl : sa1 = x_227 := (ex_227.trans hsa1).symm
        obtain ⟨fsc, hFc, -, -⟩ := hI.o hm_h1 hk_h1 rfl (ci := 5) rfl rfl
        refine lc_R (ci := 5) ⟨hx, hb, hml, hown, hts⟩ (k_X5_count l dC dI K L1 f1 hI h1 hm_h1 hk_h1 sa1) 1 wm_723 wm_724 wm_725 wm_67 wm_726 (by decide +kernel) ⟨Nat.le_of_ble_eq_true rfl, Nat.le_of_ble_eq_true rfl⟩ hK rfl hm_h1 hFc rfl hl.1 rfl (Nat.le_of_ble_eq_true rfl) dL_law_872 ⟨by show 60 + 4 * (512 - n) + 0 ≤ 600000; omega, by show 13186 + 48 * (512 - n) + 0 ≤ 7302250; omega⟩ hS hP1 hP2 (fun r_228 H locs hpc hP1 hP2 hS => ?_)
        refine lv_pop hx hb dL_law_875 rfl ?_
        refine lv_aload_n hx hb dL_law_876 rfl (lv_at hl 2 rfl) ?_
        refine lv_aload_n hx hb dL_law_877 rfl (lv_at hl 0 rfl) ?_
        refine lv_iload_n hx hb dL_law_878 rfl (lv_at hl 3 rfl) ?_
        refine lv_iconst (v := 1) hx hb dL_law_879 (by decide) ?_
        refine lv_iadd hx hb dL_law_880 ?_
        refine lv_topi (fun x_229 ex_229 => ?_)
        obtain rfl : x_229 = nI ((4 * j) + 1) := ex_229.trans (nI_add (4 * j) 1)
        refine va_sld hx hb hX hbl hbA hS (vp_in_nI (by omega) (by omega)) dL_law_881 ?_
        refine lv_topi (fun x_230 ex_230 => ?_)
        rw [nI_clamp (by omega)] at ex_230
        obtain rfl : sa1 = x_230 := (ex_230.trans hsa1).symm
        obtain ⟨g_state, F_state⟩ := (hA2 32 (by decide)).i (t := 0) (n := 1000) ⟨rfl, by decide, rfl⟩
        obtain ⟨g_saleOf, F_saleOf⟩ := (hA2 30 (by decide)).i (t := 0) (n := 1000) ⟨rfl, by decide, rfl⟩
        obtain ⟨g_pays, F_pays⟩ := (hA2 11 (by decide)).i (t := 0) (n := 40) ⟨rfl, by decide, rfl⟩
        obtain ⟨g_price, F_price⟩ := (hA2 31 (by decide)).i (t := 0) (n := 1000) ⟨rfl, by decide, rfl⟩
        refine lc_R (ci := 6) ⟨hx, hb, hml, hown, hts⟩ (m_count l dC dI K L2 f2 rt hC F_state F_saleOf F_pays F_price I_pages I_campaigns I_sales I_tick sa1 hn2 (cso _ F_saleOf)) 1 wm_727 wm_728 wm_729 wm_8 wm_730 (by decide +kernel) ⟨Nat.le_of_ble_eq_true rfl, Nat.le_of_ble_eq_true rfl⟩ hK rfl (hC.1.1 51 (by decide)) hC.2.1 rfl hl.1 rfl (Nat.le_of_ble_eq_true rfl) dL_law_882 ⟨by show 60 + 4 * (512 - n) + 0 ≤ 600000; omega, by show 13186 + 48 * (512 - n) + 0 ≤ 7302250; omega⟩ hS hP2 hP1 (fun r_231 H locs hpm hP2 hP1 hS => ?_)
        have hM := hM0
        refine lv_pop hx hb dL_law_885 rfl ?_
        refine lv_goto (tgt := 889) hx hb dL_law_886 (by decide) ?_
        refine lv_iinc (v := nI (4 * (j + 1))) (lv' := [(3, .int (nI (4 * (j + 1)))), (0, .ref b), (1, .ref h1), (2, .ref (rt 51))]) hx hb dL_law_889 hl (k := 3) rfl (by exact (nI_add (4 * j) 4).trans (congrArg nI (by omega))) (by decide) rfl (fun ls hl => ?_)
        refine lv_goto (tgt := 18) hx hb dL_law_892 (by decide) ?_
        exact W.widen (k := 60 + 4 * (512 - (n - 1))) (n := 13186 + 48 * (512 - (n - 1))) (by show 60 + 4 * (512 - n) ≤ _; omega) (by show 13186 + 48 * (512 - n) ≤ _; omega) (ih (n - 1) (by omega) _ _ _ ⟨j + 1, L1, f1, f2, np, nc, n1, _, tk, lk, tp, cp, gp, _, G, J, mk, st, ap, kd, sn, by omega, by omega, hI, hm_h1, hk_h1, hg7, hg8, hg9, hg12, hg13, by omega, hLn1, hM, hLn2, hdis, hLA1, hLA2, hP1, hP2, hS, lv_sub hl [1, 2, 3, 0] rfl⟩)
