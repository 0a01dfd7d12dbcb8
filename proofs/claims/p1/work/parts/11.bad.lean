set_option maxHeartbeats 4000000 in
set_option maxRecDepth 100000 in
theorem c_isPage (l : Launch) (dC : Nat → ClassId) (dI : Nat → Nat → Nat) (h0 : Nat) (fs : List Value) (n x : Int32) (hf7 : fs[7]? = some (.int n)) : mV l yX5_isPage cX5_isPage 2 .boolean 0 (dC, dI) [(h0, .inr (5, fs))] [] [.ref h0, .int x] (fun r => r = if 0 ≤ x ∧ x < n then 1 else 0) := by
  refine Met.ofW (cc := cX5_isPage) (maxL := 2) (ret := some .boolean) (by decide) rfl ?_
  intro p e s m args below meth c s₁ B hml hv
  obtain ⟨rfl, hP, hK⟩ := hv
  have hx := B.exec
  have hb := B.bytes
  have hr := B.returns
  have hlocks := B.notSynchronized
  have hts0 := atoms_spec (ws := Cond.code yX5_isPage cX5_isPage 2 (some .boolean) :: lw_B) B.pre
  have hts : ∀ w ∈ lw_B, w.before _ s = true := fun w h => hts0 w (List.mem_cons_of_mem _ h)
  have hown : s.vm.findClass RX5 = some m.cls := findClass_of_methodNamed B.named
  have hS : va_S (fun _ => False) s.heap s.heap [] := va_S.rf
  have hl := lv_entry ([.ref h0, .int x]) (n := 2) (Nat.le_of_ble_eq_true rfl)
  rw [lg_entry_eq]
  generalize (lg_sl ([.ref h0, .int x]) ++ List.replicate (2 - (lg_sl ([.ref h0, .int x])).length) Slot.unset).toArray = ls at hl ⊢
  have hl : lv_has ls 2 [(0, .ref h0), (1, .int x)] := hl
  refine lv_iload_n hx hb dX5_isPage_0 rfl (lv_at hl 1 rfl) ?_
  refine lv_if_lt (tgt := 16) hx hb dX5_isPage_1 (by decide) (fun c_1 => ?_) (fun c_1 => ?_)
  · skip
    refine lv_iconst (v := 0) hx hb dX5_isPage_16 (by decide) ?_
    exact W.zret (v := 0) hx hb hr rfl (fun t ht hW => ⟨⟨0, (), rfl, (by simp only [Int32.lt_iff_toInt_lt, Int32.le_iff_toInt_le, ← Int32.toInt_inj, Int32.reduceToInt] at c_1; exact (if_neg (by simp only [Int32.lt_iff_toInt_lt, Int32.le_iff_toInt_le, ← Int32.toInt_inj, Int32.reduceToInt]; omega)).symm), trivial⟩, hS.F ht⟩) hS.2.2 dX5_isPage_17
  · skip
    refine lv_iload_n hx hb dX5_isPage_4 rfl (lv_at hl 1 rfl) ?_
    refine lv_aload_n hx hb dX5_isPage_5 rfl (lv_at hl 0 rfl) ?_
    refine va_get (D := (dC, dI)) (ci := 5) (v := .int n) (C := RX5) (T := TX5) (N := 17) hx hb hts uB5 hown hK hP 0 rfl rfl 7 (by decide) (hts _ wm_8) (fun _ h9 => h9) hf7 dX5_isPage_6 ?_
    refine lv_icmp_ge (tgt := 16) hx hb dX5_isPage_9 (by decide) (fun c_2 => ?_) (fun c_2 => ?_)
    · skip
      refine lv_iconst (v := 0) hx hb dX5_isPage_16 (by decide) ?_
      exact W.zret (v := 0) hx hb hr rfl (fun t ht hW => ⟨⟨0, (), rfl, (by simp only [Int32.lt_iff_toInt_lt, Int32.le_iff_toInt_le, ← Int32.toInt_inj, Int32.reduceToInt] at c_1 c_2; exact (if_neg (by simp only [Int32.lt_iff_toInt_lt, Int32.le_iff_toInt_le, ← Int32.toInt_inj, Int32.reduceToInt]; omega)).symm), trivial⟩, hS.F ht⟩) hS.2.2 dX5_isPage_17
    · skip
      refine lv_iconst (v := 1) hx hb dX5_isPage_12 (by decide) ?_
      refine lv_goto (tgt := 17) hx hb dX5_isPage_13 (by decide) ?_
      exact W.zret (v := 1) hx hb hr rfl (fun t ht hW => ⟨⟨1, (), rfl, (by simp only [Int32.lt_iff_toInt_lt, Int32.le_iff_toInt_le, ← Int32.toInt_inj, Int32.reduceToInt] at c_1 c_2; exact (if_pos (by simp only [Int32.lt_iff_toInt_lt, Int32.le_iff_toInt_le, ← Int32.toInt_inj, Int32.reduceToInt]; omega)).symm), trivial⟩, hS.F ht⟩) hS.2.2 dX5_isPage_17
set_option maxHeartbeats 4000000 in
set_option maxRecDepth 100000 in
theorem c_isCampaign (l : Launch) (dC : Nat → ClassId) (dI : Nat → Nat → Nat) (h0 : Nat) (fs : List Value) (n x : Int32) (hf8 : fs[8]? = some (.int n)) : mV l yX5_isCampaign cX5_isCampaign 2 .boolean 0 (dC, dI) [(h0, .inr (5, fs))] [] [.ref h0, .int x] (fun r => r = if 0 ≤ x ∧ x < n then 1 else 0) := by
  refine Met.ofW (cc := cX5_isCampaign) (maxL := 2) (ret := some .boolean) (by decide) rfl ?_
  intro p e s m args below meth c s₁ B hml hv
  obtain ⟨rfl, hP, hK⟩ := hv
  have hx := B.exec
  have hb := B.bytes
  have hr := B.returns
  have hlocks := B.notSynchronized
  have hts0 := atoms_spec (ws := Cond.code yX5_isCampaign cX5_isCampaign 2 (some .boolean) :: lw_B) B.pre
  have hts : ∀ w ∈ lw_B, w.before _ s = true := fun w h => hts0 w (List.mem_cons_of_mem _ h)
  have hown : s.vm.findClass RX5 = some m.cls := findClass_of_methodNamed B.named
  have hS : va_S (fun _ => False) s.heap s.heap [] := va_S.rf
  have hl := lv_entry ([.ref h0, .int x]) (n := 2) (Nat.le_of_ble_eq_true rfl)
  rw [lg_entry_eq]
  generalize (lg_sl ([.ref h0, .int x]) ++ List.replicate (2 - (lg_sl ([.ref h0, .int x])).length) Slot.unset).toArray = ls at hl ⊢
  have hl : lv_has ls 2 [(0, .ref h0), (1, .int x)] := hl
  refine lv_iload_n hx hb dX5_isCampaign_0 rfl (lv_at hl 1 rfl) ?_
  refine lv_if_lt (tgt := 16) hx hb dX5_isCampaign_1 (by decide) (fun c_1 => ?_) (fun c_1 => ?_)
  · skip
    refine lv_iconst (v := 0) hx hb dX5_isCampaign_16 (by decide) ?_
    exact W.zret (v := 0) hx hb hr rfl (fun t ht hW => ⟨⟨0, (), rfl, (by simp only [Int32.lt_iff_toInt_lt, Int32.le_iff_toInt_le, ← Int32.toInt_inj, Int32.reduceToInt] at c_1; exact (if_neg (by simp only [Int32.lt_iff_toInt_lt, Int32.le_iff_toInt_le, ← Int32.toInt_inj, Int32.reduceToInt]; omega)).symm), trivial⟩, hS.F ht⟩) hS.2.2 dX5_isCampaign_17
  · skip
    refine lv_iload_n hx hb dX5_isCampaign_4 rfl (lv_at hl 1 rfl) ?_
    refine lv_aload_n hx hb dX5_isCampaign_5 rfl (lv_at hl 0 rfl) ?_
    refine va_get (D := (dC, dI)) (ci := 5) (v := .int n) (C := RX5) (T := TX5) (N := 17) hx hb hts uB5 hown hK hP 0 rfl rfl 8 (by decide) (hts _ wm_9) (fun _ h9 => h9) hf8 dX5_isCampaign_6 ?_
    refine lv_icmp_ge (tgt := 16) hx hb dX5_isCampaign_9 (by decide) (fun c_2 => ?_) (fun c_2 => ?_)
    · skip
      refine lv_iconst (v := 0) hx hb dX5_isCampaign_16 (by decide) ?_
      exact W.zret (v := 0) hx hb hr rfl (fun t ht hW => ⟨⟨0, (), rfl, (by simp only [Int32.lt_iff_toInt_lt, Int32.le_iff_toInt_le, ← Int32.toInt_inj, Int32.reduceToInt] at c_1 c_2; exact (if_neg (by simp only [Int32.lt_iff_toInt_lt, Int32.le_iff_toInt_le, ← Int32.toInt_inj, Int32.reduceToInt]; omega)).symm), trivial⟩, hS.F ht⟩) hS.2.2 dX5_isCampaign_17
    · skip
      refine lv_iconst (v := 1) hx hb dX5_isCampaign_12 (by decide) ?_
      refine lv_goto (tgt := 17) hx hb dX5_isCampaign_13 (by decide) ?_
      exact W.zret (v := 1) hx hb hr rfl (fun t ht hW => ⟨⟨1, (), rfl, (by simp only [Int32.lt_iff_toInt_lt, Int32.le_iff_toInt_le, ← Int32.toInt_inj, Int32.reduceToInt] at c_1 c_2; exact (if_pos (by simp only [Int32.lt_iff_toInt_lt, Int32.le_iff_toInt_le, ← Int32.toInt_inj, Int32.reduceToInt]; omega)).symm), trivial⟩, hS.F ht⟩) hS.2.2 dX5_isCampaign_17
set_option maxHeartbeats 4000000 in
set_option maxRecDepth 100000 in
theorem c_isSale (l : Launch) (dC : Nat → ClassId) (dI : Nat → Nat → Nat) (h0 : Nat) (fs : List Value) (n x : Int32) (hf9 : fs[9]? = some (.int n)) : mV l yX5_isSale cX5_isSale 2 .boolean 0 (dC, dI) [(h0, .inr (5, fs))] [] [.ref h0, .int x] (fun r => r = if 0 ≤ x ∧ x < n then 1 else 0) := by
  refine Met.ofW (cc := cX5_isSale) (maxL := 2) (ret := some .boolean) (by decide) rfl ?_
  intro p e s m args below meth c s₁ B hml hv
  obtain ⟨rfl, hP, hK⟩ := hv
  have hx := B.exec
  have hb := B.bytes
  have hr := B.returns
  have hlocks := B.notSynchronized
  have hts0 := atoms_spec (ws := Cond.code yX5_isSale cX5_isSale 2 (some .boolean) :: lw_B) B.pre
  have hts : ∀ w ∈ lw_B, w.before _ s = true := fun w h => hts0 w (List.mem_cons_of_mem _ h)
  have hown : s.vm.findClass RX5 = some m.cls := findClass_of_methodNamed B.named
  have hS : va_S (fun _ => False) s.heap s.heap [] := va_S.rf
  have hl := lv_entry ([.ref h0, .int x]) (n := 2) (Nat.le_of_ble_eq_true rfl)
  rw [lg_entry_eq]
  generalize (lg_sl ([.ref h0, .int x]) ++ List.replicate (2 - (lg_sl ([.ref h0, .int x])).length) Slot.unset).toArray = ls at hl ⊢
  have hl : lv_has ls 2 [(0, .ref h0), (1, .int x)] := hl
  refine lv_iload_n hx hb dX5_isSale_0 rfl (lv_at hl 1 rfl) ?_
  refine lv_if_lt (tgt := 16) hx hb dX5_isSale_1 (by decide) (fun c_1 => ?_) (fun c_1 => ?_)
  · skip
    refine lv_iconst (v := 0) hx hb dX5_isSale_16 (by decide) ?_
    exact W.zret (v := 0) hx hb hr rfl (fun t ht hW => ⟨⟨0, (), rfl, (by simp only [Int32.lt_iff_toInt_lt, Int32.le_iff_toInt_le, ← Int32.toInt_inj, Int32.reduceToInt] at c_1; exact (if_neg (by simp only [Int32.lt_iff_toInt_lt, Int32.le_iff_toInt_le, ← Int32.toInt_inj, Int32.reduceToInt]; omega)).symm), trivial⟩, hS.F ht⟩) hS.2.2 dX5_isSale_17
  · skip
    refine lv_iload_n hx hb dX5_isSale_4 rfl (lv_at hl 1 rfl) ?_
    refine lv_aload_n hx hb dX5_isSale_5 rfl (lv_at hl 0 rfl) ?_
    refine va_get (D := (dC, dI)) (ci := 5) (v := .int n) (C := RX5) (T := TX5) (N := 17) hx hb hts uB5 hown hK hP 0 rfl rfl 9 (by decide) (hts _ wm_10) (fun _ h9 => h9) hf9 dX5_isSale_6 ?_
    refine lv_icmp_ge (tgt := 16) hx hb dX5_isSale_9 (by decide) (fun c_2 => ?_) (fun c_2 => ?_)
    · skip
      refine lv_iconst (v := 0) hx hb dX5_isSale_16 (by decide) ?_
      exact W.zret (v := 0) hx hb hr rfl (fun t ht hW => ⟨⟨0, (), rfl, (by simp only [Int32.lt_iff_toInt_lt, Int32.le_iff_toInt_le, ← Int32.toInt_inj, Int32.reduceToInt] at c_1 c_2; exact (if_neg (by simp only [Int32.lt_iff_toInt_lt, Int32.le_iff_toInt_le, ← Int32.toInt_inj, Int32.reduceToInt]; omega)).symm), trivial⟩, hS.F ht⟩) hS.2.2 dX5_isSale_17
    · skip
      refine lv_iconst (v := 1) hx hb dX5_isSale_12 (by decide) ?_
      refine lv_goto (tgt := 17) hx hb dX5_isSale_13 (by decide) ?_
      exact W.zret (v := 1) hx hb hr rfl (fun t ht hW => ⟨⟨1, (), rfl, (by simp only [Int32.lt_iff_toInt_lt, Int32.le_iff_toInt_le, ← Int32.toInt_inj, Int32.reduceToInt] at c_1 c_2; exact (if_pos (by simp only [Int32.lt_iff_toInt_lt, Int32.le_iff_toInt_le, ← Int32.toInt_inj, Int32.reduceToInt]; omega)).symm), trivial⟩, hS.F ht⟩) hS.2.2 dX5_isSale_17
set_option maxHeartbeats 4000000 in
set_option maxRecDepth 100000 in
theorem c_mPage (l : Launch) (dC : Nat → ClassId) (dI : Nat → Nat → Nat) (h0 : Nat) (fs : List Value) (n x : Int32) (hf5 : fs[5]? = some (.int n)) : mV l yX6_isPage cX6_isPage 2 .boolean 1 (dC, dI) [(h0, .inr (6, fs))] [] [.ref h0, .int x] (fun r => r = if 0 ≤ x ∧ x ≤ n - 1 then 1 else 0) := by
  refine Met.ofW (cc := cX6_isPage) (maxL := 2) (ret := some .boolean) (by decide) rfl ?_
  intro p e s m args below meth c s₁ B hml hv
  obtain ⟨rfl, hP, hK⟩ := hv
  have hx := B.exec
  have hb := B.bytes
  have hr := B.returns
  have hlocks := B.notSynchronized
  have hts0 := atoms_spec (ws := Cond.code yX6_isPage cX6_isPage 2 (some .boolean) :: lw_B) B.pre
  have hts : ∀ w ∈ lw_B, w.before _ s = true := fun w h => hts0 w (List.mem_cons_of_mem _ h)
  have hown : s.vm.findClass RX6 = some m.cls := findClass_of_methodNamed B.named
  have hS : va_S (fun _ => False) s.heap s.heap [] := va_S.rf
  have hl := lv_entry ([.ref h0, .int x]) (n := 2) (Nat.le_of_ble_eq_true rfl)
  rw [lg_entry_eq]
  generalize (lg_sl ([.ref h0, .int x]) ++ List.replicate (2 - (lg_sl ([.ref h0, .int x])).length) Slot.unset).toArray = ls at hl ⊢
  have hl : lv_has ls 2 [(0, .ref h0), (1, .int x)] := hl
  refine lv_iload_n hx hb dX6_isPage_0 rfl (lv_at hl 1 rfl) ?_
  refine lv_iconst (v := 0) hx hb dX6_isPage_1 (by decide) ?_
  refine lv_aload_n hx hb dX6_isPage_2 rfl (lv_at hl 0 rfl) ?_
  refine va_get (D := (dC, dI)) (ci := 6) (v := .int n) (C := RX6) (T := TX6) (N := 51) hx hb hts uB6 hown hK hP 0 rfl rfl 5 (by decide) (hts _ wm_11) (fun _ h9 => h9) hf5 dX6_isPage_3 ?_
  refine lv_iconst (v := 1) hx hb dX6_isPage_6 (by decide) ?_
  refine lv_isub hx hb dX6_isPage_7 ?_
  refine lv_topi (fun x_1 ex_1 => ?_)
  refine k_S ⟨hx, hb, hml, hown, hts⟩ (c_in l x 0 x_1) 3 wm_4 wm_5 wm_6 wm_7 (by decide +kernel) ⟨Nat.le_of_ble_eq_true rfl, Nat.le_of_ble_eq_true rfl⟩ rfl hl.1 rfl (Nat.le_of_ble_eq_true rfl) dX6_isPage_8 ⟨Nat.le_of_ble_eq_true rfl, Nat.le_of_ble_eq_true rfl⟩ hS hP (fun r_2 H locs hpr_2 hP hS => ?_)
  exact W.zret (v := r_2) hx hb hr (by rw [hpr_2]; split <;> rfl) (fun t ht hW => ⟨⟨r_2, (), rfl, (by rw [hpr_2, ex_1]), trivial⟩, hS.F ht⟩) hS.2.2 dX6_isPage_11
set_option maxHeartbeats 4000000 in
set_option maxRecDepth 100000 in
theorem c_mCampaign (l : Launch) (dC : Nat → ClassId) (dI : Nat → Nat → Nat) (h0 : Nat) (fs : List Value) (n x : Int32) (hf9 : fs[9]? = some (.int n)) : mV l yX6_isCampaign cX6_isCampaign 2 .boolean 1 (dC, dI) [(h0, .inr (6, fs))] [] [.ref h0, .int x] (fun r => r = if 0 ≤ x ∧ x ≤ n - 1 then 1 else 0) := by
  refine Met.ofW (cc := cX6_isCampaign) (maxL := 2) (ret := some .boolean) (by decide) rfl ?_
  intro p e s m args below meth c s₁ B hml hv
  obtain ⟨rfl, hP, hK⟩ := hv
  have hx := B.exec
  have hb := B.bytes
  have hr := B.returns
  have hlocks := B.notSynchronized
  have hts0 := atoms_spec (ws := Cond.code yX6_isCampaign cX6_isCampaign 2 (some .boolean) :: lw_B) B.pre
  have hts : ∀ w ∈ lw_B, w.before _ s = true := fun w h => hts0 w (List.mem_cons_of_mem _ h)
  have hown : s.vm.findClass RX6 = some m.cls := findClass_of_methodNamed B.named
  have hS : va_S (fun _ => False) s.heap s.heap [] := va_S.rf
  have hl := lv_entry ([.ref h0, .int x]) (n := 2) (Nat.le_of_ble_eq_true rfl)
  rw [lg_entry_eq]
  generalize (lg_sl ([.ref h0, .int x]) ++ List.replicate (2 - (lg_sl ([.ref h0, .int x])).length) Slot.unset).toArray = ls at hl ⊢
  have hl : lv_has ls 2 [(0, .ref h0), (1, .int x)] := hl
  refine lv_iload_n hx hb dX6_isCampaign_0 rfl (lv_at hl 1 rfl) ?_
  refine lv_iconst (v := 0) hx hb dX6_isCampaign_1 (by decide) ?_
  refine lv_aload_n hx hb dX6_isCampaign_2 rfl (lv_at hl 0 rfl) ?_
  refine va_get (D := (dC, dI)) (ci := 6) (v := .int n) (C := RX6) (T := TX6) (N := 51) hx hb hts uB6 hown hK hP 0 rfl rfl 9 (by decide) (hts _ wm_12) (fun _ h9 => h9) hf9 dX6_isCampaign_3 ?_
  refine lv_iconst (v := 1) hx hb dX6_isCampaign_6 (by decide) ?_
  refine lv_isub hx hb dX6_isCampaign_7 ?_
  refine lv_topi (fun x_1 ex_1 => ?_)
  refine k_S ⟨hx, hb, hml, hown, hts⟩ (c_in l x 0 x_1) 3 wm_4 wm_5 wm_6 wm_7 (by decide +kernel) ⟨Nat.le_of_ble_eq_true rfl, Nat.le_of_ble_eq_true rfl⟩ rfl hl.1 rfl (Nat.le_of_ble_eq_true rfl) dX6_isCampaign_8 ⟨Nat.le_of_ble_eq_true rfl, Nat.le_of_ble_eq_true rfl⟩ hS hP (fun r_2 H locs hpr_2 hP hS => ?_)
  exact W.zret (v := r_2) hx hb hr (by rw [hpr_2]; split <;> rfl) (fun t ht hW => ⟨⟨r_2, (), rfl, (by rw [hpr_2, ex_1]), trivial⟩, hS.F ht⟩) hS.2.2 dX6_isCampaign_11
set_option maxHeartbeats 4000000 in
set_option maxRecDepth 100000 in
theorem c_mSale (l : Launch) (dC : Nat → ClassId) (dI : Nat → Nat → Nat) (h0 : Nat) (fs : List Value) (n x : Int32) (hf25 : fs[25]? = some (.int n)) : mV l yX6_isSale cX6_isSale 2 .boolean 1 (dC, dI) [(h0, .inr (6, fs))] [] [.ref h0, .int x] (fun r => r = if 0 ≤ x ∧ x ≤ n - 1 then 1 else 0) := by
  refine Met.ofW (cc := cX6_isSale) (maxL := 2) (ret := some .boolean) (by decide) rfl ?_
  intro p e s m args below meth c s₁ B hml hv
  obtain ⟨rfl, hP, hK⟩ := hv
  have hx := B.exec
  have hb := B.bytes
  have hr := B.returns
  have hlocks := B.notSynchronized
  have hts0 := atoms_spec (ws := Cond.code yX6_isSale cX6_isSale 2 (some .boolean) :: lw_B) B.pre
  have hts : ∀ w ∈ lw_B, w.before _ s = true := fun w h => hts0 w (List.mem_cons_of_mem _ h)
  have hown : s.vm.findClass RX6 = some m.cls := findClass_of_methodNamed B.named
  have hS : va_S (fun _ => False) s.heap s.heap [] := va_S.rf
  have hl := lv_entry ([.ref h0, .int x]) (n := 2) (Nat.le_of_ble_eq_true rfl)
  rw [lg_entry_eq]
  generalize (lg_sl ([.ref h0, .int x]) ++ List.replicate (2 - (lg_sl ([.ref h0, .int x])).length) Slot.unset).toArray = ls at hl ⊢
  have hl : lv_has ls 2 [(0, .ref h0), (1, .int x)] := hl
  refine lv_iload_n hx hb dX6_isSale_0 rfl (lv_at hl 1 rfl) ?_
  refine lv_iconst (v := 0) hx hb dX6_isSale_1 (by decide) ?_
  refine lv_aload_n hx hb dX6_isSale_2 rfl (lv_at hl 0 rfl) ?_
  refine va_get (D := (dC, dI)) (ci := 6) (v := .int n) (C := RX6) (T := TX6) (N := 51) hx hb hts uB6 hown hK hP 0 rfl rfl 25 (by decide) (hts _ wm_13) (fun _ h9 => h9) hf25 dX6_isSale_3 ?_
  refine lv_iconst (v := 1) hx hb dX6_isSale_6 (by decide) ?_
  refine lv_isub hx hb dX6_isSale_7 ?_
  refine lv_topi (fun x_1 ex_1 => ?_)
  refine k_S ⟨hx, hb, hml, hown, hts⟩ (c_in l x 0 x_1) 3 wm_4 wm_5 wm_6 wm_7 (by decide +kernel) ⟨Nat.le_of_ble_eq_true rfl, Nat.le_of_ble_eq_true rfl⟩ rfl hl.1 rfl (Nat.le_of_ble_eq_true rfl) dX6_isSale_8 ⟨Nat.le_of_ble_eq_true rfl, Nat.le_of_ble_eq_true rfl⟩ hS hP (fun r_2 H locs hpr_2 hP hS => ?_)
  exact W.zret (v := r_2) hx hb hr (by rw [hpr_2]; split <;> rfl) (fun t ht hW => ⟨⟨r_2, (), rfl, (by rw [hpr_2, ex_1]), trivial⟩, hS.F ht⟩) hS.2.2 dX6_isSale_11
set_option maxHeartbeats 4000000 in
set_option maxRecDepth 100000 in
theorem b_X5_budget (l : Launch) (dC : Nat → ClassId) (dI : Nat → Nat → Nat) (h0 : Nat) (fs : List Value) (p0 p1 p2 : Int32) (hf7 : fs[7]? = some (.int 0)) (hf8 : fs[8]? = some (.int 0)) (hf9 : fs[9]? = some (.int 0)) : mV l yX5_budget cX5_budget 4 .int 2 (dC, dI) [(h0, .inr (5, fs))] [] [.ref h0, .int p0, .int p1, .int p2] (fun r => r = (-1)) := by
  refine Met.ofW (cc := cX5_budget) (maxL := 4) (ret := some .int) (by decide) rfl ?_
  intro p e s m args below meth c s₁ B hml hv
  obtain ⟨rfl, hP, hK⟩ := hv
  have hx := B.exec
  have hb := B.bytes
  have hr := B.returns
  have hlocks := B.notSynchronized
  have hts0 := atoms_spec (ws := Cond.code yX5_budget cX5_budget 4 (some .int) :: lw_B) B.pre
  have hts : ∀ w ∈ lw_B, w.before _ s = true := fun w h => hts0 w (List.mem_cons_of_mem _ h)
  have hown : s.vm.findClass RX5 = some m.cls := findClass_of_methodNamed B.named
  have hS : va_S (fun _ => False) s.heap s.heap [] := va_S.rf
  have hl := lv_entry ([.ref h0, .int p0, .int p1, .int p2]) (n := 4) (Nat.le_of_ble_eq_true rfl)
  rw [lg_entry_eq]
  generalize (lg_sl ([.ref h0, .int p0, .int p1, .int p2]) ++ List.replicate (4 - (lg_sl ([.ref h0, .int p0, .int p1, .int p2])).length) Slot.unset).toArray = ls at hl ⊢
  have hl : lv_has ls 4 [(0, .ref h0), (1, .int p0), (2, .int p1), (3, .int p2)] := hl
  refine lv_aload_n hx hb dX5_budget_0 rfl (lv_at hl 0 rfl) ?_
  refine lv_iload_n hx hb dX5_budget_1 rfl (lv_at hl 1 rfl) ?_
  have hPc := hP.sub (ws' := [(h0, .inr (5, fs))]) [0] rfl
  refine k_V (ci := 5) (q0 := 0) (tc := []) ⟨hx, hb, hml, hown, hts⟩ (c_isCampaign l dC dI h0 fs 0 p0 hf8) 1 wm_14 wm_15 wm_16 wm_2 wm_17 (by decide +kernel) ⟨Nat.le_of_ble_eq_true rfl, Nat.le_of_ble_eq_true rfl⟩ hPc (hK.sub (tys' := []) [] rfl) rfl rfl rfl hl.1 rfl (Nat.le_of_ble_eq_true rfl) dX5_budget_2 ⟨Nat.le_of_ble_eq_true rfl, Nat.le_of_ble_eq_true rfl⟩ hS hP (fun r_1 H locs hpr_1 hP hS => ?_)
  obtain rfl : r_1 = 0 := hpr_1.trans (if_neg (k_no0 _))
  refine lv_if_eq (tgt := 28) hx hb dX5_budget_5 (by decide) (fun _ => ?_) (fun h9 => absurd (by decide) h9)
  refine lv_iconst (v := (-1)) hx hb dX5_budget_28 (by decide) ?_
  exact W.iret (v := (-1)) hx hb hr (fun t ht hW => ⟨⟨(-1), (), rfl, rfl, trivial⟩, hS.F ht⟩) hS.2.2 dX5_budget_29
set_option maxHeartbeats 4000000 in
set_option maxRecDepth 100000 in
theorem b_X6_budget (l : Launch) (dC : Nat → ClassId) (dI : Nat → Nat → Nat) (h0 : Nat) (fs : List Value) (p0 p1 p2 : Int32) (hf5 : fs[5]? = some (.int 0)) (hf9 : fs[9]? = some (.int 0)) (hf25 : fs[25]? = some (.int 0)) : mV l yX6_budget cX6_budget 4 .int 3 (dC, dI) [(h0, .inr (6, fs))] [] [.ref h0, .int p0, .int p1, .int p2] (fun r => r = (-1)) := by
  refine Met.ofW (cc := cX6_budget) (maxL := 4) (ret := some .int) (by decide) rfl ?_
  intro p e s m args below meth c s₁ B hml hv
  obtain ⟨rfl, hP, hK⟩ := hv
  have hx := B.exec
  have hb := B.bytes
  have hr := B.returns
  have hlocks := B.notSynchronized
  have hts0 := atoms_spec (ws := Cond.code yX6_budget cX6_budget 4 (some .int) :: lw_B) B.pre
  have hts : ∀ w ∈ lw_B, w.before _ s = true := fun w h => hts0 w (List.mem_cons_of_mem _ h)
  have hown : s.vm.findClass RX6 = some m.cls := findClass_of_methodNamed B.named
  have hS : va_S (fun _ => False) s.heap s.heap [] := va_S.rf
  have hl := lv_entry ([.ref h0, .int p0, .int p1, .int p2]) (n := 4) (Nat.le_of_ble_eq_true rfl)
  rw [lg_entry_eq]
  generalize (lg_sl ([.ref h0, .int p0, .int p1, .int p2]) ++ List.replicate (4 - (lg_sl ([.ref h0, .int p0, .int p1, .int p2])).length) Slot.unset).toArray = ls at hl ⊢
  have hl : lv_has ls 4 [(0, .ref h0), (1, .int p0), (2, .int p1), (3, .int p2)] := hl
  refine lv_aload_n hx hb dX6_budget_0 rfl (lv_at hl 0 rfl) ?_
  refine lv_iload_n hx hb dX6_budget_1 rfl (lv_at hl 1 rfl) ?_
  have hPc := hP.sub (ws' := [(h0, .inr (6, fs))]) [0] rfl
  refine k_V (ci := 6) (q0 := 0) (tc := []) ⟨hx, hb, hml, hown, hts⟩ (c_mCampaign l dC dI h0 fs 0 p0 hf9) 1 wm_18 wm_19 wm_20 wm_6 wm_21 (by decide +kernel) ⟨Nat.le_of_ble_eq_true rfl, Nat.le_of_ble_eq_true rfl⟩ hPc (hK.sub (tys' := []) [] rfl) rfl rfl rfl hl.1 rfl (Nat.le_of_ble_eq_true rfl) dX6_budget_2 ⟨Nat.le_of_ble_eq_true rfl, Nat.le_of_ble_eq_true rfl⟩ hS hP (fun r_1 H locs hpr_1 hP hS => ?_)
  obtain rfl : r_1 = 0 := hpr_1.trans (if_neg (k_no1 _))
  refine lv_if_eq (tgt := 28) hx hb dX6_budget_5 (by decide) (fun _ => ?_) (fun h9 => absurd (by decide) h9)
  refine lv_iconst (v := (-1)) hx hb dX6_budget_28 (by decide) ?_
  exact W.iret (v := (-1)) hx hb hr (fun t ht hW => ⟨⟨(-1), (), rfl, rfl, trivial⟩, hS.F ht⟩) hS.2.2 dX6_budget_29
set_option maxHeartbeats 4000000 in
set_option maxRecDepth 100000 in
theorem b_X5_cap (l : Launch) (dC : Nat → ClassId) (dI : Nat → Nat → Nat) (h0 : Nat) (fs : List Value) (p0 p1 p2 : Int32) (hf7 : fs[7]? = some (.int 0)) (hf8 : fs[8]? = some (.int 0)) (hf9 : fs[9]? = some (.int 0)) : mV l yX5_cap cX5_cap 4 .int 2 (dC, dI) [(h0, .inr (5, fs))] [] [.ref h0, .int p0, .int p1, .int p2] (fun r => r = (-1)) := by
  refine Met.ofW (cc := cX5_cap) (maxL := 4) (ret := some .int) (by decide) rfl ?_
  intro p e s m args below meth c s₁ B hml hv
  obtain ⟨rfl, hP, hK⟩ := hv
  have hx := B.exec
  have hb := B.bytes
  have hr := B.returns
  have hlocks := B.notSynchronized
  have hts0 := atoms_spec (ws := Cond.code yX5_cap cX5_cap 4 (some .int) :: lw_B) B.pre
  have hts : ∀ w ∈ lw_B, w.before _ s = true := fun w h => hts0 w (List.mem_cons_of_mem _ h)
  have hown : s.vm.findClass RX5 = some m.cls := findClass_of_methodNamed B.named
  have hS : va_S (fun _ => False) s.heap s.heap [] := va_S.rf
  have hl := lv_entry ([.ref h0, .int p0, .int p1, .int p2]) (n := 4) (Nat.le_of_ble_eq_true rfl)
  rw [lg_entry_eq]
  generalize (lg_sl ([.ref h0, .int p0, .int p1, .int p2]) ++ List.replicate (4 - (lg_sl ([.ref h0, .int p0, .int p1, .int p2])).length) Slot.unset).toArray = ls at hl ⊢
  have hl : lv_has ls 4 [(0, .ref h0), (1, .int p0), (2, .int p1), (3, .int p2)] := hl
  refine lv_aload_n hx hb dX5_cap_0 rfl (lv_at hl 0 rfl) ?_
  refine lv_iload_n hx hb dX5_cap_1 rfl (lv_at hl 1 rfl) ?_
  have hPc := hP.sub (ws' := [(h0, .inr (5, fs))]) [0] rfl
  refine k_V (ci := 5) (q0 := 0) (tc := []) ⟨hx, hb, hml, hown, hts⟩ (c_isCampaign l dC dI h0 fs 0 p0 hf8) 1 wm_14 wm_15 wm_16 wm_2 wm_17 (by decide +kernel) ⟨Nat.le_of_ble_eq_true rfl, Nat.le_of_ble_eq_true rfl⟩ hPc (hK.sub (tys' := []) [] rfl) rfl rfl rfl hl.1 rfl (Nat.le_of_ble_eq_true rfl) dX5_cap_2 ⟨Nat.le_of_ble_eq_true rfl, Nat.le_of_ble_eq_true rfl⟩ hS hP (fun r_1 H locs hpr_1 hP hS => ?_)
  obtain rfl : r_1 = 0 := hpr_1.trans (if_neg (k_no0 _))
  refine lv_if_eq (tgt := 29) hx hb dX5_cap_5 (by decide) (fun _ => ?_) (fun h9 => absurd (by decide) h9)
  refine lv_iconst (v := (-1)) hx hb dX5_cap_29 (by decide) ?_
  exact W.iret (v := (-1)) hx hb hr (fun t ht hW => ⟨⟨(-1), (), rfl, rfl, trivial⟩, hS.F ht⟩) hS.2.2 dX5_cap_30
set_option maxHeartbeats 4000000 in
set_option maxRecDepth 100000 in
theorem b_X6_cap (l : Launch) (dC : Nat → ClassId) (dI : Nat → Nat → Nat) (h0 : Nat) (fs : List Value) (p0 p1 p2 : Int32) (hf5 : fs[5]? = some (.int 0)) (hf9 : fs[9]? = some (.int 0)) (hf25 : fs[25]? = some (.int 0)) : mV l yX6_cap cX6_cap 4 .int 3 (dC, dI) [(h0, .inr (6, fs))] [] [.ref h0, .int p0, .int p1, .int p2] (fun r => r = (-1)) := by
  refine Met.ofW (cc := cX6_cap) (maxL := 4) (ret := some .int) (by decide) rfl ?_
  intro p e s m args below meth c s₁ B hml hv
  obtain ⟨rfl, hP, hK⟩ := hv
  have hx := B.exec
  have hb := B.bytes
  have hr := B.returns
  have hlocks := B.notSynchronized
  have hts0 := atoms_spec (ws := Cond.code yX6_cap cX6_cap 4 (some .int) :: lw_B) B.pre
  have hts : ∀ w ∈ lw_B, w.before _ s = true := fun w h => hts0 w (List.mem_cons_of_mem _ h)
  have hown : s.vm.findClass RX6 = some m.cls := findClass_of_methodNamed B.named
  have hS : va_S (fun _ => False) s.heap s.heap [] := va_S.rf
  have hl := lv_entry ([.ref h0, .int p0, .int p1, .int p2]) (n := 4) (Nat.le_of_ble_eq_true rfl)
  rw [lg_entry_eq]
  generalize (lg_sl ([.ref h0, .int p0, .int p1, .int p2]) ++ List.replicate (4 - (lg_sl ([.ref h0, .int p0, .int p1, .int p2])).length) Slot.unset).toArray = ls at hl ⊢
  have hl : lv_has ls 4 [(0, .ref h0), (1, .int p0), (2, .int p1), (3, .int p2)] := hl
  refine lv_aload_n hx hb dX6_cap_0 rfl (lv_at hl 0 rfl) ?_
  refine lv_iload_n hx hb dX6_cap_1 rfl (lv_at hl 1 rfl) ?_
  have hPc := hP.sub (ws' := [(h0, .inr (6, fs))]) [0] rfl
  refine k_V (ci := 6) (q0 := 0) (tc := []) ⟨hx, hb, hml, hown, hts⟩ (c_mCampaign l dC dI h0 fs 0 p0 hf9) 1 wm_18 wm_19 wm_20 wm_6 wm_21 (by decide +kernel) ⟨Nat.le_of_ble_eq_true rfl, Nat.le_of_ble_eq_true rfl⟩ hPc (hK.sub (tys' := []) [] rfl) rfl rfl rfl hl.1 rfl (Nat.le_of_ble_eq_true rfl) dX6_cap_2 ⟨Nat.le_of_ble_eq_true rfl, Nat.le_of_ble_eq_true rfl⟩ hS hP (fun r_1 H locs hpr_1 hP hS => ?_)
  obtain rfl : r_1 = 0 := hpr_1.trans (if_neg (k_no1 _))
  refine lv_if_eq (tgt := 29) hx hb dX6_cap_5 (by decide) (fun _ => ?_) (fun h9 => absurd (by decide) h9)
  refine lv_iconst (v := (-1)) hx hb dX6_cap_29 (by decide) ?_
  exact W.iret (v := (-1)) hx hb hr (fun t ht hW => ⟨⟨(-1), (), rfl, rfl, trivial⟩, hS.F ht⟩) hS.2.2 dX6_cap_30
set_option maxHeartbeats 4000000 in
set_option maxRecDepth 100000 in
theorem b_X5_apart (l : Launch) (dC : Nat → ClassId) (dI : Nat → Nat → Nat) (h0 : Nat) (fs : List Value) (p0 p1 p2 : Int32) (hf7 : fs[7]? = some (.int 0)) (hf8 : fs[8]? = some (.int 0)) (hf9 : fs[9]? = some (.int 0)) : mV l yX5_apart cX5_apart 5 .int 2 (dC, dI) [(h0, .inr (5, fs))] [] [.ref h0, .int p0, .int p1, .int p2] (fun r => r = (-1)) := by
  refine Met.ofW (cc := cX5_apart) (maxL := 5) (ret := some .int) (by decide) rfl ?_
  intro p e s m args below meth c s₁ B hml hv
  obtain ⟨rfl, hP, hK⟩ := hv
  have hx := B.exec
  have hb := B.bytes
  have hr := B.returns
  have hlocks := B.notSynchronized
  have hts0 := atoms_spec (ws := Cond.code yX5_apart cX5_apart 5 (some .int) :: lw_B) B.pre
  have hts : ∀ w ∈ lw_B, w.before _ s = true := fun w h => hts0 w (List.mem_cons_of_mem _ h)
  have hown : s.vm.findClass RX5 = some m.cls := findClass_of_methodNamed B.named
  have hS : va_S (fun _ => False) s.heap s.heap [] := va_S.rf
  have hl := lv_entry ([.ref h0, .int p0, .int p1, .int p2]) (n := 5) (Nat.le_of_ble_eq_true rfl)
  rw [lg_entry_eq]
  generalize (lg_sl ([.ref h0, .int p0, .int p1, .int p2]) ++ List.replicate (5 - (lg_sl ([.ref h0, .int p0, .int p1, .int p2])).length) Slot.unset).toArray = ls at hl ⊢
  have hl : lv_has ls 5 [(0, .ref h0), (1, .int p0), (2, .int p1), (3, .int p2)] := hl
  refine lv_aload_n hx hb dX5_apart_0 rfl (lv_at hl 0 rfl) ?_
  refine lv_iload_n hx hb dX5_apart_1 rfl (lv_at hl 1 rfl) ?_
  have hPc := hP.sub (ws' := [(h0, .inr (5, fs))]) [0] rfl
  refine k_V (ci := 5) (q0 := 0) (tc := []) ⟨hx, hb, hml, hown, hts⟩ (c_isCampaign l dC dI h0 fs 0 p0 hf8) 1 wm_14 wm_15 wm_16 wm_2 wm_17 (by decide +kernel) ⟨Nat.le_of_ble_eq_true rfl, Nat.le_of_ble_eq_true rfl⟩ hPc (hK.sub (tys' := []) [] rfl) rfl rfl rfl hl.1 rfl (Nat.le_of_ble_eq_true rfl) dX5_apart_2 ⟨Nat.le_of_ble_eq_true rfl, Nat.le_of_ble_eq_true rfl⟩ hS hP (fun r_1 H locs hpr_1 hP hS => ?_)
  obtain rfl : r_1 = 0 := hpr_1.trans (if_neg (k_no0 _))
  refine lv_if_eq (tgt := 30) hx hb dX5_apart_5 (by decide) (fun _ => ?_) (fun h9 => absurd (by decide) h9)
  refine lv_iconst (v := (-1)) hx hb dX5_apart_30 (by decide) ?_
  exact W.iret (v := (-1)) hx hb hr (fun t ht hW => ⟨⟨(-1), (), rfl, rfl, trivial⟩, hS.F ht⟩) hS.2.2 dX5_apart_31
set_option maxHeartbeats 4000000 in
set_option maxRecDepth 100000 in
theorem b_X6_apart (l : Launch) (dC : Nat → ClassId) (dI : Nat → Nat → Nat) (h0 : Nat) (fs : List Value) (p0 p1 p2 : Int32) (hf5 : fs[5]? = some (.int 0)) (hf9 : fs[9]? = some (.int 0)) (hf25 : fs[25]? = some (.int 0)) : mV l yX6_apart cX6_apart 5 .int 3 (dC, dI) [(h0, .inr (6, fs))] [] [.ref h0, .int p0, .int p1, .int p2] (fun r => r = (-1)) := by
  refine Met.ofW (cc := cX6_apart) (maxL := 5) (ret := some .int) (by decide) rfl ?_
  intro p e s m args below meth c s₁ B hml hv
  obtain ⟨rfl, hP, hK⟩ := hv
  have hx := B.exec
  have hb := B.bytes
  have hr := B.returns
  have hlocks := B.notSynchronized
  have hts0 := atoms_spec (ws := Cond.code yX6_apart cX6_apart 5 (some .int) :: lw_B) B.pre
  have hts : ∀ w ∈ lw_B, w.before _ s = true := fun w h => hts0 w (List.mem_cons_of_mem _ h)
  have hown : s.vm.findClass RX6 = some m.cls := findClass_of_methodNamed B.named
  have hS : va_S (fun _ => False) s.heap s.heap [] := va_S.rf
  have hl := lv_entry ([.ref h0, .int p0, .int p1, .int p2]) (n := 5) (Nat.le_of_ble_eq_true rfl)
  rw [lg_entry_eq]
  generalize (lg_sl ([.ref h0, .int p0, .int p1, .int p2]) ++ List.replicate (5 - (lg_sl ([.ref h0, .int p0, .int p1, .int p2])).length) Slot.unset).toArray = ls at hl ⊢
  have hl : lv_has ls 5 [(0, .ref h0), (1, .int p0), (2, .int p1), (3, .int p2)] := hl
  refine lv_aload_n hx hb dX6_apart_0 rfl (lv_at hl 0 rfl) ?_
  refine lv_iload_n hx hb dX6_apart_1 rfl (lv_at hl 1 rfl) ?_
  have hPc := hP.sub (ws' := [(h0, .inr (6, fs))]) [0] rfl
  refine k_V (ci := 6) (q0 := 0) (tc := []) ⟨hx, hb, hml, hown, hts⟩ (c_mCampaign l dC dI h0 fs 0 p0 hf9) 1 wm_18 wm_19 wm_20 wm_6 wm_21 (by decide +kernel) ⟨Nat.le_of_ble_eq_true rfl, Nat.le_of_ble_eq_true rfl⟩ hPc (hK.sub (tys' := []) [] rfl) rfl rfl rfl hl.1 rfl (Nat.le_of_ble_eq_true rfl) dX6_apart_2 ⟨Nat.le_of_ble_eq_true rfl, Nat.le_of_ble_eq_true rfl⟩ hS hP (fun r_1 H locs hpr_1 hP hS => ?_)
  obtain rfl : r_1 = 0 := hpr_1.trans (if_neg (k_no1 _))
  refine lv_if_eq (tgt := 30) hx hb dX6_apart_5 (by decide) (fun _ => ?_) (fun h9 => absurd (by decide) h9)
  refine lv_iconst (v := (-1)) hx hb dX6_apart_30 (by decide) ?_
  exact W.iret (v := (-1)) hx hb hr (fun t ht hW => ⟨⟨(-1), (), rfl, rfl, trivial⟩, hS.F ht⟩) hS.2.2 dX6_apart_31
set_option maxHeartbeats 4000000 in
set_option maxRecDepth 100000 in
theorem b_X5_promise (l : Launch) (dC : Nat → ClassId) (dI : Nat → Nat → Nat) (h0 : Nat) (fs : List Value) (p0 p1 p2 : Int32) (hf7 : fs[7]? = some (.int 0)) (hf8 : fs[8]? = some (.int 0)) (hf9 : fs[9]? = some (.int 0)) : mV l yX5_promise cX5_promise 4 .int 2 (dC, dI) [(h0, .inr (5, fs))] [] [.ref h0, .int p0, .int p1, .int p2] (fun r => r = (-1)) := by
  refine Met.ofW (cc := cX5_promise) (maxL := 4) (ret := some .int) (by decide) rfl ?_
  intro p e s m args below meth c s₁ B hml hv
  obtain ⟨rfl, hP, hK⟩ := hv
  have hx := B.exec
  have hb := B.bytes
  have hr := B.returns
  have hlocks := B.notSynchronized
  have hts0 := atoms_spec (ws := Cond.code yX5_promise cX5_promise 4 (some .int) :: lw_B) B.pre
  have hts : ∀ w ∈ lw_B, w.before _ s = true := fun w h => hts0 w (List.mem_cons_of_mem _ h)
  have hown : s.vm.findClass RX5 = some m.cls := findClass_of_methodNamed B.named
  have hS : va_S (fun _ => False) s.heap s.heap [] := va_S.rf
  have hl := lv_entry ([.ref h0, .int p0, .int p1, .int p2]) (n := 4) (Nat.le_of_ble_eq_true rfl)
  rw [lg_entry_eq]
  generalize (lg_sl ([.ref h0, .int p0, .int p1, .int p2]) ++ List.replicate (4 - (lg_sl ([.ref h0, .int p0, .int p1, .int p2])).length) Slot.unset).toArray = ls at hl ⊢
  have hl : lv_has ls 4 [(0, .ref h0), (1, .int p0), (2, .int p1), (3, .int p2)] := hl
  refine lv_aload_n hx hb dX5_promise_0 rfl (lv_at hl 0 rfl) ?_
  refine lv_iload_n hx hb dX5_promise_1 rfl (lv_at hl 1 rfl) ?_
  have hPc := hP.sub (ws' := [(h0, .inr (5, fs))]) [0] rfl
  refine k_V (ci := 5) (q0 := 0) (tc := []) ⟨hx, hb, hml, hown, hts⟩ (c_isCampaign l dC dI h0 fs 0 p0 hf8) 1 wm_14 wm_15 wm_16 wm_2 wm_17 (by decide +kernel) ⟨Nat.le_of_ble_eq_true rfl, Nat.le_of_ble_eq_true rfl⟩ hPc (hK.sub (tys' := []) [] rfl) rfl rfl rfl hl.1 rfl (Nat.le_of_ble_eq_true rfl) dX5_promise_2 ⟨Nat.le_of_ble_eq_true rfl, Nat.le_of_ble_eq_true rfl⟩ hS hP (fun r_1 H locs hpr_1 hP hS => ?_)
  obtain rfl : r_1 = 0 := hpr_1.trans (if_neg (k_no0 _))
  refine lv_if_eq (tgt := 30) hx hb dX5_promise_5 (by decide) (fun _ => ?_) (fun h9 => absurd (by decide) h9)
  refine lv_iconst (v := (-1)) hx hb dX5_promise_30 (by decide) ?_
  exact W.iret (v := (-1)) hx hb hr (fun t ht hW => ⟨⟨(-1), (), rfl, rfl, trivial⟩, hS.F ht⟩) hS.2.2 dX5_promise_31
set_option maxHeartbeats 4000000 in
set_option maxRecDepth 100000 in
theorem b_X6_promise (l : Launch) (dC : Nat → ClassId) (dI : Nat → Nat → Nat) (h0 : Nat) (fs : List Value) (p0 p1 p2 : Int32) (hf5 : fs[5]? = some (.int 0)) (hf9 : fs[9]? = some (.int 0)) (hf25 : fs[25]? = some (.int 0)) : mV l yX6_promise cX6_promise 4 .int 3 (dC, dI) [(h0, .inr (6, fs))] [] [.ref h0, .int p0, .int p1, .int p2] (fun r => r = (-1)) := by
  refine Met.ofW (cc := cX6_promise) (maxL := 4) (ret := some .int) (by decide) rfl ?_
  intro p e s m args below meth c s₁ B hml hv
  obtain ⟨rfl, hP, hK⟩ := hv
  have hx := B.exec
  have hb := B.bytes
  have hr := B.returns
  have hlocks := B.notSynchronized
  have hts0 := atoms_spec (ws := Cond.code yX6_promise cX6_promise 4 (some .int) :: lw_B) B.pre
  have hts : ∀ w ∈ lw_B, w.before _ s = true := fun w h => hts0 w (List.mem_cons_of_mem _ h)
  have hown : s.vm.findClass RX6 = some m.cls := findClass_of_methodNamed B.named
  have hS : va_S (fun _ => False) s.heap s.heap [] := va_S.rf
  have hl := lv_entry ([.ref h0, .int p0, .int p1, .int p2]) (n := 4) (Nat.le_of_ble_eq_true rfl)
  rw [lg_entry_eq]
  generalize (lg_sl ([.ref h0, .int p0, .int p1, .int p2]) ++ List.replicate (4 - (lg_sl ([.ref h0, .int p0, .int p1, .int p2])).length) Slot.unset).toArray = ls at hl ⊢
  have hl : lv_has ls 4 [(0, .ref h0), (1, .int p0), (2, .int p1), (3, .int p2)] := hl
  refine lv_aload_n hx hb dX6_promise_0 rfl (lv_at hl 0 rfl) ?_
  refine lv_iload_n hx hb dX6_promise_1 rfl (lv_at hl 1 rfl) ?_
  have hPc := hP.sub (ws' := [(h0, .inr (6, fs))]) [0] rfl
  refine k_V (ci := 6) (q0 := 0) (tc := []) ⟨hx, hb, hml, hown, hts⟩ (c_mCampaign l dC dI h0 fs 0 p0 hf9) 1 wm_18 wm_19 wm_20 wm_6 wm_21 (by decide +kernel) ⟨Nat.le_of_ble_eq_true rfl, Nat.le_of_ble_eq_true rfl⟩ hPc (hK.sub (tys' := []) [] rfl) rfl rfl rfl hl.1 rfl (Nat.le_of_ble_eq_true rfl) dX6_promise_2 ⟨Nat.le_of_ble_eq_true rfl, Nat.le_of_ble_eq_true rfl⟩ hS hP (fun r_1 H locs hpr_1 hP hS => ?_)
  obtain rfl : r_1 = 0 := hpr_1.trans (if_neg (k_no1 _))
  refine lv_if_eq (tgt := 40) hx hb dX6_promise_5 (by decide) (fun _ => ?_) (fun h9 => absurd (by decide) h9)
  refine lv_iconst (v := (-1)) hx hb dX6_promise_40 (by decide) ?_
  exact W.iret (v := (-1)) hx hb hr (fun t ht hW => ⟨⟨(-1), (), rfl, rfl, trivial⟩, hS.F ht⟩) hS.2.2 dX6_promise_41
set_option maxHeartbeats 4000000 in
set_option maxRecDepth 100000 in
theorem b_X5_stop (l : Launch) (dC : Nat → ClassId) (dI : Nat → Nat → Nat) (h0 : Nat) (fs : List Value) (p0 p1 : Int32) (hf7 : fs[7]? = some (.int 0)) (hf8 : fs[8]? = some (.int 0)) (hf9 : fs[9]? = some (.int 0)) : mV l yX5_stop cX5_stop 4 .int 2 (dC, dI) [(h0, .inr (5, fs))] [] [.ref h0, .int p0, .int p1] (fun r => r = (-1)) := by
  refine Met.ofW (cc := cX5_stop) (maxL := 4) (ret := some .int) (by decide) rfl ?_
  intro p e s m args below meth c s₁ B hml hv
  obtain ⟨rfl, hP, hK⟩ := hv
  have hx := B.exec
  have hb := B.bytes
  have hr := B.returns
  have hlocks := B.notSynchronized
  have hts0 := atoms_spec (ws := Cond.code yX5_stop cX5_stop 4 (some .int) :: lw_B) B.pre
  have hts : ∀ w ∈ lw_B, w.before _ s = true := fun w h => hts0 w (List.mem_cons_of_mem _ h)
  have hown : s.vm.findClass RX5 = some m.cls := findClass_of_methodNamed B.named
  have hS : va_S (fun _ => False) s.heap s.heap [] := va_S.rf
  have hl := lv_entry ([.ref h0, .int p0, .int p1]) (n := 4) (Nat.le_of_ble_eq_true rfl)
  rw [lg_entry_eq]
  generalize (lg_sl ([.ref h0, .int p0, .int p1]) ++ List.replicate (4 - (lg_sl ([.ref h0, .int p0, .int p1])).length) Slot.unset).toArray = ls at hl ⊢
  have hl : lv_has ls 4 [(0, .ref h0), (1, .int p0), (2, .int p1)] := hl
  refine lv_aload_n hx hb dX5_stop_0 rfl (lv_at hl 0 rfl) ?_
  refine lv_iload_n hx hb dX5_stop_1 rfl (lv_at hl 1 rfl) ?_
  have hPc := hP.sub (ws' := [(h0, .inr (5, fs))]) [0] rfl
  refine k_V (ci := 5) (q0 := 0) (tc := []) ⟨hx, hb, hml, hown, hts⟩ (c_isCampaign l dC dI h0 fs 0 p0 hf8) 1 wm_14 wm_15 wm_16 wm_2 wm_17 (by decide +kernel) ⟨Nat.le_of_ble_eq_true rfl, Nat.le_of_ble_eq_true rfl⟩ hPc (hK.sub (tys' := []) [] rfl) rfl rfl rfl hl.1 rfl (Nat.le_of_ble_eq_true rfl) dX5_stop_2 ⟨Nat.le_of_ble_eq_true rfl, Nat.le_of_ble_eq_true rfl⟩ hS hP (fun r_1 H locs hpr_1 hP hS => ?_)
  obtain rfl : r_1 = 0 := hpr_1.trans (if_neg (k_no0 _))
  refine lv_if_eq (tgt := 17) hx hb dX5_stop_5 (by decide) (fun _ => ?_) (fun h9 => absurd (by decide) h9)
  refine lv_iconst (v := (-1)) hx hb dX5_stop_17 (by decide) ?_
  exact W.iret (v := (-1)) hx hb hr (fun t ht hW => ⟨⟨(-1), (), rfl, rfl, trivial⟩, hS.F ht⟩) hS.2.2 dX5_stop_18
set_option maxHeartbeats 4000000 in
set_option maxRecDepth 100000 in
theorem b_X6_stop (l : Launch) (dC : Nat → ClassId) (dI : Nat → Nat → Nat) (h0 : Nat) (fs : List Value) (p0 p1 : Int32) (hf5 : fs[5]? = some (.int 0)) (hf9 : fs[9]? = some (.int 0)) (hf25 : fs[25]? = some (.int 0)) : mV l yX6_stop cX6_stop 4 .int 3 (dC, dI) [(h0, .inr (6, fs))] [] [.ref h0, .int p0, .int p1] (fun r => r = (-1)) := by
  refine Met.ofW (cc := cX6_stop) (maxL := 4) (ret := some .int) (by decide) rfl ?_
  intro p e s m args below meth c s₁ B hml hv
  obtain ⟨rfl, hP, hK⟩ := hv
  have hx := B.exec
  have hb := B.bytes
  have hr := B.returns
  have hlocks := B.notSynchronized
  have hts0 := atoms_spec (ws := Cond.code yX6_stop cX6_stop 4 (some .int) :: lw_B) B.pre
  have hts : ∀ w ∈ lw_B, w.before _ s = true := fun w h => hts0 w (List.mem_cons_of_mem _ h)
  have hown : s.vm.findClass RX6 = some m.cls := findClass_of_methodNamed B.named
  have hS : va_S (fun _ => False) s.heap s.heap [] := va_S.rf
  have hl := lv_entry ([.ref h0, .int p0, .int p1]) (n := 4) (Nat.le_of_ble_eq_true rfl)
  rw [lg_entry_eq]
  generalize (lg_sl ([.ref h0, .int p0, .int p1]) ++ List.replicate (4 - (lg_sl ([.ref h0, .int p0, .int p1])).length) Slot.unset).toArray = ls at hl ⊢
  have hl : lv_has ls 4 [(0, .ref h0), (1, .int p0), (2, .int p1)] := hl
  refine lv_aload_n hx hb dX6_stop_0 rfl (lv_at hl 0 rfl) ?_
  refine lv_iload_n hx hb dX6_stop_1 rfl (lv_at hl 1 rfl) ?_
  have hPc := hP.sub (ws' := [(h0, .inr (6, fs))]) [0] rfl
  refine k_V (ci := 6) (q0 := 0) (tc := []) ⟨hx, hb, hml, hown, hts⟩ (c_mCampaign l dC dI h0 fs 0 p0 hf9) 1 wm_18 wm_19 wm_20 wm_6 wm_21 (by decide +kernel) ⟨Nat.le_of_ble_eq_true rfl, Nat.le_of_ble_eq_true rfl⟩ hPc (hK.sub (tys' := []) [] rfl) rfl rfl rfl hl.1 rfl (Nat.le_of_ble_eq_true rfl) dX6_stop_2 ⟨Nat.le_of_ble_eq_true rfl, Nat.le_of_ble_eq_true rfl⟩ hS hP (fun r_1 H locs hpr_1 hP hS => ?_)
  obtain rfl : r_1 = 0 := hpr_1.trans (if_neg (k_no1 _))
  refine lv_if_eq (tgt := 17) hx hb dX6_stop_5 (by decide) (fun _ => ?_) (fun h9 => absurd (by decide) h9)
  refine lv_iconst (v := (-1)) hx hb dX6_stop_17 (by decide) ?_
  exact W.iret (v := (-1)) hx hb hr (fun t ht hW => ⟨⟨(-1), (), rfl, rfl, trivial⟩, hS.F ht⟩) hS.2.2 dX6_stop_18
set_option maxHeartbeats 4000000 in
set_option maxRecDepth 100000 in
theorem b_X5_come (l : Launch) (dC : Nat → ClassId) (dI : Nat → Nat → Nat) (h0 : Nat) (fs : List Value) (p0 p1 : Int32) (hf7 : fs[7]? = some (.int 0)) (hf8 : fs[8]? = some (.int 0)) (hf9 : fs[9]? = some (.int 0)) : mV l yX5_come cX5_come 6 .int 2 (dC, dI) [(h0, .inr (5, fs))] [] [.ref h0, .int p0, .int p1] (fun r => r = (-1)) := by
  refine Met.ofW (cc := cX5_come) (maxL := 6) (ret := some .int) (by decide) rfl ?_
  intro p e s m args below meth c s₁ B hml hv
  obtain ⟨rfl, hP, hK⟩ := hv
  have hx := B.exec
  have hb := B.bytes
  have hr := B.returns
  have hlocks := B.notSynchronized
  have hts0 := atoms_spec (ws := Cond.code yX5_come cX5_come 6 (some .int) :: lw_B) B.pre
  have hts : ∀ w ∈ lw_B, w.before _ s = true := fun w h => hts0 w (List.mem_cons_of_mem _ h)
  have hown : s.vm.findClass RX5 = some m.cls := findClass_of_methodNamed B.named
  have hS : va_S (fun _ => False) s.heap s.heap [] := va_S.rf
  have hl := lv_entry ([.ref h0, .int p0, .int p1]) (n := 6) (Nat.le_of_ble_eq_true rfl)
  rw [lg_entry_eq]
  generalize (lg_sl ([.ref h0, .int p0, .int p1]) ++ List.replicate (6 - (lg_sl ([.ref h0, .int p0, .int p1])).length) Slot.unset).toArray = ls at hl ⊢
  have hl : lv_has ls 6 [(0, .ref h0), (1, .int p0), (2, .int p1)] := hl
  refine lv_iload_n hx hb dX5_come_0 rfl (lv_at hl 1 rfl) ?_
  refine k_S ⟨hx, hb, hml, hown, hts⟩ (c_isReader l p0) 1 wm_22 wm_23 wm_2 wm_24 (by decide +kernel) ⟨Nat.le_of_ble_eq_true rfl, Nat.le_of_ble_eq_true rfl⟩ rfl hl.1 rfl (Nat.le_of_ble_eq_true rfl) dX5_come_1 ⟨Nat.le_of_ble_eq_true rfl, Nat.le_of_ble_eq_true rfl⟩ hS hP (fun r_1 H locs hpr_1 hP hS => ?_)
  refine lv_if_eq (tgt := 15) hx hb dX5_come_4 (by decide) (fun c_2 => ?_) (fun c_2 => ?_)
  · skip
    refine lv_iconst (v := (-1)) hx hb dX5_come_15 (by decide) ?_
    exact W.iret (v := (-1)) hx hb hr (fun t ht hW => ⟨⟨(-1), (), rfl, rfl, trivial⟩, hS.F ht⟩) hS.2.2 dX5_come_16
  · skip
    refine lv_aload_n hx hb dX5_come_7 rfl (lv_at hl 0 rfl) ?_
    refine lv_iload_n hx hb dX5_come_8 rfl (lv_at hl 2 rfl) ?_
    have hPc := hP.sub (ws' := [(h0, .inr (5, fs))]) [0] rfl
    refine k_V (ci := 5) (q0 := 0) (tc := []) ⟨hx, hb, hml, hown, hts⟩ (c_isPage l dC dI h0 fs 0 p1 hf7) 1 wm_25 wm_26 wm_27 wm_2 wm_28 (by decide +kernel) ⟨Nat.le_of_ble_eq_true rfl, Nat.le_of_ble_eq_true rfl⟩ hPc (hK.sub (tys' := []) [] rfl) rfl rfl rfl hl.1 rfl (Nat.le_of_ble_eq_true rfl) dX5_come_9 ⟨Nat.le_of_ble_eq_true rfl, Nat.le_of_ble_eq_true rfl⟩ hS hP (fun r_3 H locs hpr_3 hP hS => ?_)
    obtain rfl : r_3 = 0 := hpr_3.trans (if_neg (k_no0 _))
    refine lv_if_ne (tgt := 17) hx hb dX5_come_12 (by decide) (fun h9 => absurd (by decide) h9) (fun _ => ?_)
    refine lv_iconst (v := (-1)) hx hb dX5_come_15 (by decide) ?_
    exact W.iret (v := (-1)) hx hb hr (fun t ht hW => ⟨⟨(-1), (), rfl, rfl, trivial⟩, hS.F ht⟩) hS.2.2 dX5_come_16
set_option maxHeartbeats 4000000 in
set_option maxRecDepth 100000 in
theorem b_X6_come (l : Launch) (dC : Nat → ClassId) (dI : Nat → Nat → Nat) (h0 : Nat) (fs : List Value) (p0 p1 : Int32) (hf5 : fs[5]? = some (.int 0)) (hf9 : fs[9]? = some (.int 0)) (hf25 : fs[25]? = some (.int 0)) : mV l yX6_come cX6_come 7 .int 3 (dC, dI) [(h0, .inr (6, fs))] [] [.ref h0, .int p0, .int p1] (fun r => r = (-1)) := by
  refine Met.ofW (cc := cX6_come) (maxL := 7) (ret := some .int) (by decide) rfl ?_
  intro p e s m args below meth c s₁ B hml hv
  obtain ⟨rfl, hP, hK⟩ := hv
  have hx := B.exec
  have hb := B.bytes
  have hr := B.returns
  have hlocks := B.notSynchronized
  have hts0 := atoms_spec (ws := Cond.code yX6_come cX6_come 7 (some .int) :: lw_B) B.pre
  have hts : ∀ w ∈ lw_B, w.before _ s = true := fun w h => hts0 w (List.mem_cons_of_mem _ h)
  have hown : s.vm.findClass RX6 = some m.cls := findClass_of_methodNamed B.named
  have hS : va_S (fun _ => False) s.heap s.heap [] := va_S.rf
  have hl := lv_entry ([.ref h0, .int p0, .int p1]) (n := 7) (Nat.le_of_ble_eq_true rfl)
  rw [lg_entry_eq]
  generalize (lg_sl ([.ref h0, .int p0, .int p1]) ++ List.replicate (7 - (lg_sl ([.ref h0, .int p0, .int p1])).length) Slot.unset).toArray = ls at hl ⊢
  have hl : lv_has ls 7 [(0, .ref h0), (1, .int p0), (2, .int p1)] := hl
  refine lv_iload_n hx hb dX6_come_0 rfl (lv_at hl 1 rfl) ?_
  refine k_S ⟨hx, hb, hml, hown, hts⟩ (c_mReader l p0) 1 wm_29 wm_30 wm_6 wm_31 (by decide +kernel) ⟨Nat.le_of_ble_eq_true rfl, Nat.le_of_ble_eq_true rfl⟩ rfl hl.1 rfl (Nat.le_of_ble_eq_true rfl) dX6_come_1 ⟨Nat.le_of_ble_eq_true rfl, Nat.le_of_ble_eq_true rfl⟩ hS hP (fun r_1 H locs hpr_1 hP hS => ?_)
  refine lv_if_eq (tgt := 15) hx hb dX6_come_4 (by decide) (fun c_2 => ?_) (fun c_2 => ?_)
  · skip
    refine lv_iconst (v := (-1)) hx hb dX6_come_15 (by decide) ?_
    exact W.iret (v := (-1)) hx hb hr (fun t ht hW => ⟨⟨(-1), (), rfl, rfl, trivial⟩, hS.F ht⟩) hS.2.2 dX6_come_16
  · skip
    refine lv_aload_n hx hb dX6_come_7 rfl (lv_at hl 0 rfl) ?_
    refine lv_iload_n hx hb dX6_come_8 rfl (lv_at hl 2 rfl) ?_
    have hPc := hP.sub (ws' := [(h0, .inr (6, fs))]) [0] rfl
    refine k_V (ci := 6) (q0 := 0) (tc := []) ⟨hx, hb, hml, hown, hts⟩ (c_mPage l dC dI h0 fs 0 p1 hf5) 1 wm_32 wm_33 wm_34 wm_6 wm_35 (by decide +kernel) ⟨Nat.le_of_ble_eq_true rfl, Nat.le_of_ble_eq_true rfl⟩ hPc (hK.sub (tys' := []) [] rfl) rfl rfl rfl hl.1 rfl (Nat.le_of_ble_eq_true rfl) dX6_come_9 ⟨Nat.le_of_ble_eq_true rfl, Nat.le_of_ble_eq_true rfl⟩ hS hP (fun r_3 H locs hpr_3 hP hS => ?_)
    obtain rfl : r_3 = 0 := hpr_3.trans (if_neg (k_no1 _))
    refine lv_if_ne (tgt := 17) hx hb dX6_come_12 (by decide) (fun h9 => absurd (by decide) h9) (fun _ => ?_)
    refine lv_iconst (v := (-1)) hx hb dX6_come_15 (by decide) ?_
    exact W.iret (v := (-1)) hx hb hr (fun t ht hW => ⟨⟨(-1), (), rfl, rfl, trivial⟩, hS.F ht⟩) hS.2.2 dX6_come_16
set_option maxHeartbeats 4000000 in
set_option maxRecDepth 100000 in
theorem b_X5_why (l : Launch) (dC : Nat → ClassId) (dI : Nat → Nat → Nat) (h0 : Nat) (fs : List Value) (p0 p1 p2 : Int32) (hf7 : fs[7]? = some (.int 0)) (hf8 : fs[8]? = some (.int 0)) (hf9 : fs[9]? = some (.int 0)) : mV l yX5_why cX5_why 4 .int 2 (dC, dI) [(h0, .inr (5, fs))] [] [.ref h0, .int p0, .int p1, .int p2] (fun r => r = (-1)) := by
  refine Met.ofW (cc := cX5_why) (maxL := 4) (ret := some .int) (by decide) rfl ?_
  intro p e s m args below meth c s₁ B hml hv
  obtain ⟨rfl, hP, hK⟩ := hv
  have hx := B.exec
  have hb := B.bytes
  have hr := B.returns
  have hlocks := B.notSynchronized
  have hts0 := atoms_spec (ws := Cond.code yX5_why cX5_why 4 (some .int) :: lw_B) B.pre
  have hts : ∀ w ∈ lw_B, w.before _ s = true := fun w h => hts0 w (List.mem_cons_of_mem _ h)
  have hown : s.vm.findClass RX5 = some m.cls := findClass_of_methodNamed B.named
  have hS : va_S (fun _ => False) s.heap s.heap [] := va_S.rf
  have hl := lv_entry ([.ref h0, .int p0, .int p1, .int p2]) (n := 4) (Nat.le_of_ble_eq_true rfl)
  rw [lg_entry_eq]
  generalize (lg_sl ([.ref h0, .int p0, .int p1, .int p2]) ++ List.replicate (4 - (lg_sl ([.ref h0, .int p0, .int p1, .int p2])).length) Slot.unset).toArray = ls at hl ⊢
  have hl : lv_has ls 4 [(0, .ref h0), (1, .int p0), (2, .int p1), (3, .int p2)] := hl
  refine lv_aload_n hx hb dX5_why_0 rfl (lv_at hl 0 rfl) ?_
  refine lv_iload_n hx hb dX5_why_1 rfl (lv_at hl 1 rfl) ?_
  have hPc := hP.sub (ws' := [(h0, .inr (5, fs))]) [0] rfl
  refine k_V (ci := 5) (q0 := 0) (tc := []) ⟨hx, hb, hml, hown, hts⟩ (c_isCampaign l dC dI h0 fs 0 p0 hf8) 1 wm_14 wm_15 wm_16 wm_2 wm_17 (by decide +kernel) ⟨Nat.le_of_ble_eq_true rfl, Nat.le_of_ble_eq_true rfl⟩ hPc (hK.sub (tys' := []) [] rfl) rfl rfl rfl hl.1 rfl (Nat.le_of_ble_eq_true rfl) dX5_why_2 ⟨Nat.le_of_ble_eq_true rfl, Nat.le_of_ble_eq_true rfl⟩ hS hP (fun r_1 H locs hpr_1 hP hS => ?_)
  obtain rfl : r_1 = 0 := hpr_1.trans (if_neg (k_no0 _))
  refine lv_if_eq (tgt := 23) hx hb dX5_why_5 (by decide) (fun _ => ?_) (fun h9 => absurd (by decide) h9)
  refine lv_iconst (v := (-1)) hx hb dX5_why_23 (by decide) ?_
  exact W.iret (v := (-1)) hx hb hr (fun t ht hW => ⟨⟨(-1), (), rfl, rfl, trivial⟩, hS.F ht⟩) hS.2.2 dX5_why_24
set_option maxHeartbeats 4000000 in
set_option maxRecDepth 100000 in
theorem b_X6_why (l : Launch) (dC : Nat → ClassId) (dI : Nat → Nat → Nat) (h0 : Nat) (fs : List Value) (p0 p1 p2 : Int32) (hf5 : fs[5]? = some (.int 0)) (hf9 : fs[9]? = some (.int 0)) (hf25 : fs[25]? = some (.int 0)) : mV l yX6_why cX6_why 4 .int 3 (dC, dI) [(h0, .inr (6, fs))] [] [.ref h0, .int p0, .int p1, .int p2] (fun r => r = (-1)) := by
  refine Met.ofW (cc := cX6_why) (maxL := 4) (ret := some .int) (by decide) rfl ?_
  intro p e s m args below meth c s₁ B hml hv
  obtain ⟨rfl, hP, hK⟩ := hv
  have hx := B.exec
  have hb := B.bytes
  have hr := B.returns
  have hlocks := B.notSynchronized
  have hts0 := atoms_spec (ws := Cond.code yX6_why cX6_why 4 (some .int) :: lw_B) B.pre
  have hts : ∀ w ∈ lw_B, w.before _ s = true := fun w h => hts0 w (List.mem_cons_of_mem _ h)
  have hown : s.vm.findClass RX6 = some m.cls := findClass_of_methodNamed B.named
  have hS : va_S (fun _ => False) s.heap s.heap [] := va_S.rf
  have hl := lv_entry ([.ref h0, .int p0, .int p1, .int p2]) (n := 4) (Nat.le_of_ble_eq_true rfl)
  rw [lg_entry_eq]
  generalize (lg_sl ([.ref h0, .int p0, .int p1, .int p2]) ++ List.replicate (4 - (lg_sl ([.ref h0, .int p0, .int p1, .int p2])).length) Slot.unset).toArray = ls at hl ⊢
  have hl : lv_has ls 4 [(0, .ref h0), (1, .int p0), (2, .int p1), (3, .int p2)] := hl
  refine lv_aload_n hx hb dX6_why_0 rfl (lv_at hl 0 rfl) ?_
  refine lv_iload_n hx hb dX6_why_1 rfl (lv_at hl 1 rfl) ?_
  have hPc := hP.sub (ws' := [(h0, .inr (6, fs))]) [0] rfl
  refine k_V (ci := 6) (q0 := 0) (tc := []) ⟨hx, hb, hml, hown, hts⟩ (c_mCampaign l dC dI h0 fs 0 p0 hf9) 1 wm_18 wm_19 wm_20 wm_6 wm_21 (by decide +kernel) ⟨Nat.le_of_ble_eq_true rfl, Nat.le_of_ble_eq_true rfl⟩ hPc (hK.sub (tys' := []) [] rfl) rfl rfl rfl hl.1 rfl (Nat.le_of_ble_eq_true rfl) dX6_why_2 ⟨Nat.le_of_ble_eq_true rfl, Nat.le_of_ble_eq_true rfl⟩ hS hP (fun r_1 H locs hpr_1 hP hS => ?_)
  obtain rfl : r_1 = 0 := hpr_1.trans (if_neg (k_no1 _))
  refine lv_if_eq (tgt := 33) hx hb dX6_why_5 (by decide) (fun _ => ?_) (fun h9 => absurd (by decide) h9)
  refine lv_iconst (v := (-1)) hx hb dX6_why_33 (by decide) ?_
  exact W.iret (v := (-1)) hx hb hr (fun t ht hW => ⟨⟨(-1), (), rfl, rfl, trivial⟩, hS.F ht⟩) hS.2.2 dX6_why_34
set_option maxHeartbeats 4000000 in
set_option maxRecDepth 100000 in
theorem b_X5_best (l : Launch) (dC : Nat → ClassId) (dI : Nat → Nat → Nat) (h0 : Nat) (fs : List Value) (p0 p1 : Int32) (hf7 : fs[7]? = some (.int 0)) (hf8 : fs[8]? = some (.int 0)) (hf9 : fs[9]? = some (.int 0)) : mVl l yX5_best cX5_best 3 .long 2 (dC, dI) [(h0, .inr (5, fs))] [] [.ref h0, .int p0, .int p1] (fun r => r = (-1)) := by
  refine Met.ofW (cc := cX5_best) (maxL := 3) (ret := some .long) (by decide) rfl ?_
  intro p e s m args below meth c s₁ B hml hv
  obtain ⟨rfl, hP, hK⟩ := hv
  have hx := B.exec
  have hb := B.bytes
  have hr := B.returns
  have hlocks := B.notSynchronized
  have hts0 := atoms_spec (ws := Cond.code yX5_best cX5_best 3 (some .long) :: lw_B) B.pre
  have hts : ∀ w ∈ lw_B, w.before _ s = true := fun w h => hts0 w (List.mem_cons_of_mem _ h)
  have hown : s.vm.findClass RX5 = some m.cls := findClass_of_methodNamed B.named
  have hS : va_S (fun _ => False) s.heap s.heap [] := va_S.rf
  have hl := lv_entry ([.ref h0, .int p0, .int p1]) (n := 3) (Nat.le_of_ble_eq_true rfl)
  rw [lg_entry_eq]
  generalize (lg_sl ([.ref h0, .int p0, .int p1]) ++ List.replicate (3 - (lg_sl ([.ref h0, .int p0, .int p1])).length) Slot.unset).toArray = ls at hl ⊢
  have hl : lv_has ls 3 [(0, .ref h0), (1, .int p0), (2, .int p1)] := hl
  refine lv_iload_n hx hb dX5_best_0 rfl (lv_at hl 1 rfl) ?_
  refine k_S ⟨hx, hb, hml, hown, hts⟩ (c_isReader l p0) 1 wm_22 wm_23 wm_2 wm_24 (by decide +kernel) ⟨Nat.le_of_ble_eq_true rfl, Nat.le_of_ble_eq_true rfl⟩ rfl hl.1 rfl (Nat.le_of_ble_eq_true rfl) dX5_best_1 ⟨Nat.le_of_ble_eq_true rfl, Nat.le_of_ble_eq_true rfl⟩ hS hP (fun r_1 H locs hpr_1 hP hS => ?_)
  refine lv_if_eq (tgt := 15) hx hb dX5_best_4 (by decide) (fun c_2 => ?_) (fun c_2 => ?_)
  · skip
    refine lv_ldc2 (v := (-1)) hx hb hown (hts _ wm_36) dX5_best_15 ?_
    exact W.lret (v := (-1)) hx hb hr (fun t ht hW => ⟨⟨(-1), (), rfl, rfl, trivial⟩, hS.F ht⟩) hS.2.2 dX5_best_18
  · skip
    refine lv_aload_n hx hb dX5_best_7 rfl (lv_at hl 0 rfl) ?_
    refine lv_iload_n hx hb dX5_best_8 rfl (lv_at hl 2 rfl) ?_
    have hPc := hP.sub (ws' := [(h0, .inr (5, fs))]) [0] rfl
    refine k_V (ci := 5) (q0 := 0) (tc := []) ⟨hx, hb, hml, hown, hts⟩ (c_isPage l dC dI h0 fs 0 p1 hf7) 1 wm_25 wm_26 wm_27 wm_2 wm_28 (by decide +kernel) ⟨Nat.le_of_ble_eq_true rfl, Nat.le_of_ble_eq_true rfl⟩ hPc (hK.sub (tys' := []) [] rfl) rfl rfl rfl hl.1 rfl (Nat.le_of_ble_eq_true rfl) dX5_best_9 ⟨Nat.le_of_ble_eq_true rfl, Nat.le_of_ble_eq_true rfl⟩ hS hP (fun r_3 H locs hpr_3 hP hS => ?_)
    obtain rfl : r_3 = 0 := hpr_3.trans (if_neg (k_no0 _))
    refine lv_if_ne (tgt := 19) hx hb dX5_best_12 (by decide) (fun h9 => absurd (by decide) h9) (fun _ => ?_)
    refine lv_ldc2 (v := (-1)) hx hb hown (hts _ wm_36) dX5_best_15 ?_
    exact W.lret (v := (-1)) hx hb hr (fun t ht hW => ⟨⟨(-1), (), rfl, rfl, trivial⟩, hS.F ht⟩) hS.2.2 dX5_best_18
set_option maxHeartbeats 4000000 in
set_option maxRecDepth 100000 in
theorem b_X6_best (l : Launch) (dC : Nat → ClassId) (dI : Nat → Nat → Nat) (h0 : Nat) (fs : List Value) (p0 p1 : Int32) (hf5 : fs[5]? = some (.int 0)) (hf9 : fs[9]? = some (.int 0)) (hf25 : fs[25]? = some (.int 0)) : mVl l yX6_best cX6_best 3 .long 3 (dC, dI) [(h0, .inr (6, fs))] [] [.ref h0, .int p0, .int p1] (fun r => r = (-1)) := by
  refine Met.ofW (cc := cX6_best) (maxL := 3) (ret := some .long) (by decide) rfl ?_
  intro p e s m args below meth c s₁ B hml hv
  obtain ⟨rfl, hP, hK⟩ := hv
  have hx := B.exec
  have hb := B.bytes
  have hr := B.returns
  have hlocks := B.notSynchronized
  have hts0 := atoms_spec (ws := Cond.code yX6_best cX6_best 3 (some .long) :: lw_B) B.pre
  have hts : ∀ w ∈ lw_B, w.before _ s = true := fun w h => hts0 w (List.mem_cons_of_mem _ h)
  have hown : s.vm.findClass RX6 = some m.cls := findClass_of_methodNamed B.named
  have hS : va_S (fun _ => False) s.heap s.heap [] := va_S.rf
  have hl := lv_entry ([.ref h0, .int p0, .int p1]) (n := 3) (Nat.le_of_ble_eq_true rfl)
  rw [lg_entry_eq]
  generalize (lg_sl ([.ref h0, .int p0, .int p1]) ++ List.replicate (3 - (lg_sl ([.ref h0, .int p0, .int p1])).length) Slot.unset).toArray = ls at hl ⊢
  have hl : lv_has ls 3 [(0, .ref h0), (1, .int p0), (2, .int p1)] := hl
  refine lv_iload_n hx hb dX6_best_0 rfl (lv_at hl 1 rfl) ?_
  refine k_S ⟨hx, hb, hml, hown, hts⟩ (c_mReader l p0) 1 wm_29 wm_30 wm_6 wm_31 (by decide +kernel) ⟨Nat.le_of_ble_eq_true rfl, Nat.le_of_ble_eq_true rfl⟩ rfl hl.1 rfl (Nat.le_of_ble_eq_true rfl) dX6_best_1 ⟨Nat.le_of_ble_eq_true rfl, Nat.le_of_ble_eq_true rfl⟩ hS hP (fun r_1 H locs hpr_1 hP hS => ?_)
  refine lv_if_eq (tgt := 24) hx hb dX6_best_4 (by decide) (fun c_2 => ?_) (fun c_2 => ?_)
  · skip
    refine lv_ldc2 (v := (-1)) hx hb hown (hts _ wm_37) dX6_best_24 ?_
    exact W.lret (v := (-1)) hx hb hr (fun t ht hW => ⟨⟨(-1), (), rfl, rfl, trivial⟩, hS.F ht⟩) hS.2.2 dX6_best_27
  · skip
    refine lv_aload_n hx hb dX6_best_7 rfl (lv_at hl 0 rfl) ?_
    refine lv_iload_n hx hb dX6_best_8 rfl (lv_at hl 2 rfl) ?_
    have hPc := hP.sub (ws' := [(h0, .inr (6, fs))]) [0] rfl
    refine k_V (ci := 6) (q0 := 0) (tc := []) ⟨hx, hb, hml, hown, hts⟩ (c_mPage l dC dI h0 fs 0 p1 hf5) 1 wm_32 wm_33 wm_34 wm_6 wm_35 (by decide +kernel) ⟨Nat.le_of_ble_eq_true rfl, Nat.le_of_ble_eq_true rfl⟩ hPc (hK.sub (tys' := []) [] rfl) rfl rfl rfl hl.1 rfl (Nat.le_of_ble_eq_true rfl) dX6_best_9 ⟨Nat.le_of_ble_eq_true rfl, Nat.le_of_ble_eq_true rfl⟩ hS hP (fun r_3 H locs hpr_3 hP hS => ?_)
    obtain rfl : r_3 = 0 := hpr_3.trans (if_neg (k_no1 _))
    refine lv_if_eq (tgt := 24) hx hb dX6_best_12 (by decide) (fun _ => ?_) (fun h9 => absurd (by decide) h9)
    refine lv_ldc2 (v := (-1)) hx hb hown (hts _ wm_37) dX6_best_24 ?_
    exact W.lret (v := (-1)) hx hb hr (fun t ht hW => ⟨⟨(-1), (), rfl, rfl, trivial⟩, hS.F ht⟩) hS.2.2 dX6_best_27
set_option maxHeartbeats 4000000 in
set_option maxRecDepth 100000 in
theorem b_X5_give (l : Launch) (dC : Nat → ClassId) (dI : Nat → Nat → Nat) (h0 : Nat) (fs : List Value) (p0 p1 p2 : Int32) (hf7 : fs[7]? = some (.int 0)) (hf8 : fs[8]? = some (.int 0)) (hf9 : fs[9]? = some (.int 0)) : mV l yX5_give cX5_give 5 .int 2 (dC, dI) [(h0, .inr (5, fs))] [] [.ref h0, .int p0, .int p1, .int p2] (fun r => r = (-1)) := by
  refine Met.ofW (cc := cX5_give) (maxL := 5) (ret := some .int) (by decide) rfl ?_
  intro p e s m args below meth c s₁ B hml hv
  obtain ⟨rfl, hP, hK⟩ := hv
  have hx := B.exec
  have hb := B.bytes
  have hr := B.returns
  have hlocks := B.notSynchronized
  have hts0 := atoms_spec (ws := Cond.code yX5_give cX5_give 5 (some .int) :: lw_B) B.pre
  have hts : ∀ w ∈ lw_B, w.before _ s = true := fun w h => hts0 w (List.mem_cons_of_mem _ h)
  have hown : s.vm.findClass RX5 = some m.cls := findClass_of_methodNamed B.named
  have hS : va_S (fun _ => False) s.heap s.heap [] := va_S.rf
  have hl := lv_entry ([.ref h0, .int p0, .int p1, .int p2]) (n := 5) (Nat.le_of_ble_eq_true rfl)
  rw [lg_entry_eq]
  generalize (lg_sl ([.ref h0, .int p0, .int p1, .int p2]) ++ List.replicate (5 - (lg_sl ([.ref h0, .int p0, .int p1, .int p2])).length) Slot.unset).toArray = ls at hl ⊢
  have hl : lv_has ls 5 [(0, .ref h0), (1, .int p0), (2, .int p1), (3, .int p2)] := hl
  refine lv_iload_n hx hb dX5_give_0 rfl (lv_at hl 1 rfl) ?_
  refine k_S ⟨hx, hb, hml, hown, hts⟩ (c_isReader l p0) 1 wm_22 wm_23 wm_2 wm_24 (by decide +kernel) ⟨Nat.le_of_ble_eq_true rfl, Nat.le_of_ble_eq_true rfl⟩ rfl hl.1 rfl (Nat.le_of_ble_eq_true rfl) dX5_give_1 ⟨Nat.le_of_ble_eq_true rfl, Nat.le_of_ble_eq_true rfl⟩ hS hP (fun r_1 H locs hpr_1 hP hS => ?_)
  refine lv_if_eq (tgt := 34) hx hb dX5_give_4 (by decide) (fun c_2 => ?_) (fun c_2 => ?_)
  · skip
    refine lv_iconst (v := (-1)) hx hb dX5_give_34 (by decide) ?_
    exact W.iret (v := (-1)) hx hb hr (fun t ht hW => ⟨⟨(-1), (), rfl, rfl, trivial⟩, hS.F ht⟩) hS.2.2 dX5_give_35
  · skip
    refine lv_aload_n hx hb dX5_give_7 rfl (lv_at hl 0 rfl) ?_
    refine lv_iload_n hx hb dX5_give_8 rfl (lv_at hl 2 rfl) ?_
    have hPc := hP.sub (ws' := [(h0, .inr (5, fs))]) [0] rfl
    refine k_V (ci := 5) (q0 := 0) (tc := []) ⟨hx, hb, hml, hown, hts⟩ (c_isPage l dC dI h0 fs 0 p1 hf7) 1 wm_25 wm_26 wm_27 wm_2 wm_28 (by decide +kernel) ⟨Nat.le_of_ble_eq_true rfl, Nat.le_of_ble_eq_true rfl⟩ hPc (hK.sub (tys' := []) [] rfl) rfl rfl rfl hl.1 rfl (Nat.le_of_ble_eq_true rfl) dX5_give_9 ⟨Nat.le_of_ble_eq_true rfl, Nat.le_of_ble_eq_true rfl⟩ hS hP (fun r_3 H locs hpr_3 hP hS => ?_)
    obtain rfl : r_3 = 0 := hpr_3.trans (if_neg (k_no0 _))
    refine lv_if_eq (tgt := 34) hx hb dX5_give_12 (by decide) (fun _ => ?_) (fun h9 => absurd (by decide) h9)
    refine lv_iconst (v := (-1)) hx hb dX5_give_34 (by decide) ?_
    exact W.iret (v := (-1)) hx hb hr (fun t ht hW => ⟨⟨(-1), (), rfl, rfl, trivial⟩, hS.F ht⟩) hS.2.2 dX5_give_35
set_option maxHeartbeats 4000000 in
set_option maxRecDepth 100000 in
theorem b_X6_give (l : Launch) (dC : Nat → ClassId) (dI : Nat → Nat → Nat) (h0 : Nat) (fs : List Value) (p0 p1 p2 : Int32) (hf5 : fs[5]? = some (.int 0)) (hf9 : fs[9]? = some (.int 0)) (hf25 : fs[25]? = some (.int 0)) : mV l yX6_give cX6_give 6 .int 3 (dC, dI) [(h0, .inr (6, fs))] [] [.ref h0, .int p0, .int p1, .int p2] (fun r => r = (-1)) := by
  refine Met.ofW (cc := cX6_give) (maxL := 6) (ret := some .int) (by decide) rfl ?_
  intro p e s m args below meth c s₁ B hml hv
  obtain ⟨rfl, hP, hK⟩ := hv
  have hx := B.exec
  have hb := B.bytes
  have hr := B.returns
  have hlocks := B.notSynchronized
  have hts0 := atoms_spec (ws := Cond.code yX6_give cX6_give 6 (some .int) :: lw_B) B.pre
  have hts : ∀ w ∈ lw_B, w.before _ s = true := fun w h => hts0 w (List.mem_cons_of_mem _ h)
  have hown : s.vm.findClass RX6 = some m.cls := findClass_of_methodNamed B.named
  have hS : va_S (fun _ => False) s.heap s.heap [] := va_S.rf
  have hl := lv_entry ([.ref h0, .int p0, .int p1, .int p2]) (n := 6) (Nat.le_of_ble_eq_true rfl)
  rw [lg_entry_eq]
  generalize (lg_sl ([.ref h0, .int p0, .int p1, .int p2]) ++ List.replicate (6 - (lg_sl ([.ref h0, .int p0, .int p1, .int p2])).length) Slot.unset).toArray = ls at hl ⊢
  have hl : lv_has ls 6 [(0, .ref h0), (1, .int p0), (2, .int p1), (3, .int p2)] := hl
  refine lv_iload_n hx hb dX6_give_0 rfl (lv_at hl 1 rfl) ?_
  refine k_S ⟨hx, hb, hml, hown, hts⟩ (c_mReader l p0) 1 wm_29 wm_30 wm_6 wm_31 (by decide +kernel) ⟨Nat.le_of_ble_eq_true rfl, Nat.le_of_ble_eq_true rfl⟩ rfl hl.1 rfl (Nat.le_of_ble_eq_true rfl) dX6_give_1 ⟨Nat.le_of_ble_eq_true rfl, Nat.le_of_ble_eq_true rfl⟩ hS hP (fun r_1 H locs hpr_1 hP hS => ?_)
  refine lv_if_eq (tgt := 31) hx hb dX6_give_4 (by decide) (fun c_2 => ?_) (fun c_2 => ?_)
  · skip
    refine lv_iconst (v := (-1)) hx hb dX6_give_31 (by decide) ?_
    exact W.iret (v := (-1)) hx hb hr (fun t ht hW => ⟨⟨(-1), (), rfl, rfl, trivial⟩, hS.F ht⟩) hS.2.2 dX6_give_32
  · skip
    refine lv_aload_n hx hb dX6_give_7 rfl (lv_at hl 0 rfl) ?_
    refine lv_iload_n hx hb dX6_give_8 rfl (lv_at hl 2 rfl) ?_
    have hPc := hP.sub (ws' := [(h0, .inr (6, fs))]) [0] rfl
    refine k_V (ci := 6) (q0 := 0) (tc := []) ⟨hx, hb, hml, hown, hts⟩ (c_mPage l dC dI h0 fs 0 p1 hf5) 1 wm_32 wm_33 wm_34 wm_6 wm_35 (by decide +kernel) ⟨Nat.le_of_ble_eq_true rfl, Nat.le_of_ble_eq_true rfl⟩ hPc (hK.sub (tys' := []) [] rfl) rfl rfl rfl hl.1 rfl (Nat.le_of_ble_eq_true rfl) dX6_give_9 ⟨Nat.le_of_ble_eq_true rfl, Nat.le_of_ble_eq_true rfl⟩ hS hP (fun r_3 H locs hpr_3 hP hS => ?_)
    obtain rfl : r_3 = 0 := hpr_3.trans (if_neg (k_no1 _))
    refine lv_if_eq (tgt := 31) hx hb dX6_give_12 (by decide) (fun _ => ?_) (fun h9 => absurd (by decide) h9)
    refine lv_iconst (v := (-1)) hx hb dX6_give_31 (by decide) ?_
    exact W.iret (v := (-1)) hx hb hr (fun t ht hW => ⟨⟨(-1), (), rfl, rfl, trivial⟩, hS.F ht⟩) hS.2.2 dX6_give_32
set_option maxHeartbeats 4000000 in
set_option maxRecDepth 100000 in
theorem b_X5_sale (l : Launch) (dC : Nat → ClassId) (dI : Nat → Nat → Nat) (h0 : Nat) (fs : List Value) (p0 p1 : Int32) (hf7 : fs[7]? = some (.int 0)) (hf8 : fs[8]? = some (.int 0)) (hf9 : fs[9]? = some (.int 0)) : mV l yX5_sale cX5_sale 4 .int 2 (dC, dI) [(h0, .inr (5, fs))] [] [.ref h0, .int p0, .int p1] (fun r => r = (-1)) := by
  refine Met.ofW (cc := cX5_sale) (maxL := 4) (ret := some .int) (by decide) rfl ?_
  intro p e s m args below meth c s₁ B hml hv
  obtain ⟨rfl, hP, hK⟩ := hv
  have hx := B.exec
  have hb := B.bytes
  have hr := B.returns
  have hlocks := B.notSynchronized
  have hts0 := atoms_spec (ws := Cond.code yX5_sale cX5_sale 4 (some .int) :: lw_B) B.pre
  have hts : ∀ w ∈ lw_B, w.before _ s = true := fun w h => hts0 w (List.mem_cons_of_mem _ h)
  have hown : s.vm.findClass RX5 = some m.cls := findClass_of_methodNamed B.named
  have hS : va_S (fun _ => False) s.heap s.heap [] := va_S.rf
  have hl := lv_entry ([.ref h0, .int p0, .int p1]) (n := 4) (Nat.le_of_ble_eq_true rfl)
  rw [lg_entry_eq]
  generalize (lg_sl ([.ref h0, .int p0, .int p1]) ++ List.replicate (4 - (lg_sl ([.ref h0, .int p0, .int p1])).length) Slot.unset).toArray = ls at hl ⊢
  have hl : lv_has ls 4 [(0, .ref h0), (1, .int p0), (2, .int p1)] := hl
  refine lv_aload_n hx hb dX5_sale_0 rfl (lv_at hl 0 rfl) ?_
  refine lv_iload_n hx hb dX5_sale_1 rfl (lv_at hl 1 rfl) ?_
  have hPc := hP.sub (ws' := [(h0, .inr (5, fs))]) [0] rfl
  refine k_V (ci := 5) (q0 := 0) (tc := []) ⟨hx, hb, hml, hown, hts⟩ (c_isSale l dC dI h0 fs 0 p0 hf9) 1 wm_38 wm_39 wm_40 wm_2 wm_41 (by decide +kernel) ⟨Nat.le_of_ble_eq_true rfl, Nat.le_of_ble_eq_true rfl⟩ hPc (hK.sub (tys' := []) [] rfl) rfl rfl rfl hl.1 rfl (Nat.le_of_ble_eq_true rfl) dX5_sale_2 ⟨Nat.le_of_ble_eq_true rfl, Nat.le_of_ble_eq_true rfl⟩ hS hP (fun r_1 H locs hpr_1 hP hS => ?_)
  obtain rfl : r_1 = 0 := hpr_1.trans (if_neg (k_no0 _))
  refine lv_if_ne (tgt := 10) hx hb dX5_sale_5 (by decide) (fun h9 => absurd (by decide) h9) (fun _ => ?_)
  refine lv_iconst (v := (-1)) hx hb dX5_sale_8 (by decide) ?_
  exact W.iret (v := (-1)) hx hb hr (fun t ht hW => ⟨⟨(-1), (), rfl, rfl, trivial⟩, hS.F ht⟩) hS.2.2 dX5_sale_9
set_option maxHeartbeats 4000000 in
set_option maxRecDepth 100000 in
theorem b_X6_sale (l : Launch) (dC : Nat → ClassId) (dI : Nat → Nat → Nat) (h0 : Nat) (fs : List Value) (p0 p1 : Int32) (hf5 : fs[5]? = some (.int 0)) (hf9 : fs[9]? = some (.int 0)) (hf25 : fs[25]? = some (.int 0)) : mV l yX6_sale cX6_sale 3 .int 3 (dC, dI) [(h0, .inr (6, fs))] [] [.ref h0, .int p0, .int p1] (fun r => r = (-1)) := by
  refine Met.ofW (cc := cX6_sale) (maxL := 3) (ret := some .int) (by decide) rfl ?_
  intro p e s m args below meth c s₁ B hml hv
  obtain ⟨rfl, hP, hK⟩ := hv
  have hx := B.exec
  have hb := B.bytes
  have hr := B.returns
  have hlocks := B.notSynchronized
  have hts0 := atoms_spec (ws := Cond.code yX6_sale cX6_sale 3 (some .int) :: lw_B) B.pre
  have hts : ∀ w ∈ lw_B, w.before _ s = true := fun w h => hts0 w (List.mem_cons_of_mem _ h)
  have hown : s.vm.findClass RX6 = some m.cls := findClass_of_methodNamed B.named
  have hS : va_S (fun _ => False) s.heap s.heap [] := va_S.rf
  have hl := lv_entry ([.ref h0, .int p0, .int p1]) (n := 3) (Nat.le_of_ble_eq_true rfl)
  rw [lg_entry_eq]
  generalize (lg_sl ([.ref h0, .int p0, .int p1]) ++ List.replicate (3 - (lg_sl ([.ref h0, .int p0, .int p1])).length) Slot.unset).toArray = ls at hl ⊢
  have hl : lv_has ls 3 [(0, .ref h0), (1, .int p0), (2, .int p1)] := hl
  refine lv_aload_n hx hb dX6_sale_0 rfl (lv_at hl 0 rfl) ?_
  refine lv_iload_n hx hb dX6_sale_1 rfl (lv_at hl 1 rfl) ?_
  have hPc := hP.sub (ws' := [(h0, .inr (6, fs))]) [0] rfl
  refine k_V (ci := 6) (q0 := 0) (tc := []) ⟨hx, hb, hml, hown, hts⟩ (c_mSale l dC dI h0 fs 0 p0 hf25) 1 wm_42 wm_43 wm_44 wm_6 wm_45 (by decide +kernel) ⟨Nat.le_of_ble_eq_true rfl, Nat.le_of_ble_eq_true rfl⟩ hPc (hK.sub (tys' := []) [] rfl) rfl rfl rfl hl.1 rfl (Nat.le_of_ble_eq_true rfl) dX6_sale_2 ⟨Nat.le_of_ble_eq_true rfl, Nat.le_of_ble_eq_true rfl⟩ hS hP (fun r_1 H locs hpr_1 hP hS => ?_)
  obtain rfl : r_1 = 0 := hpr_1.trans (if_neg (k_no1 _))
  refine lv_if_ne (tgt := 10) hx hb dX6_sale_5 (by decide) (fun h9 => absurd (by decide) h9) (fun _ => ?_)
  refine lv_iconst (v := (-1)) hx hb dX6_sale_8 (by decide) ?_
  exact W.iret (v := (-1)) hx hb hr (fun t ht hW => ⟨⟨(-1), (), rfl, rfl, trivial⟩, hS.F ht⟩) hS.2.2 dX6_sale_9
set_option maxHeartbeats 4000000 in
set_option maxRecDepth 100000 in
theorem b_X5_press (l : Launch) (dC : Nat → ClassId) (dI : Nat → Nat → Nat) (h0 : Nat) (fs : List Value) (p0 : Int32) (hf7 : fs[7]? = some (.int 0)) (hf8 : fs[8]? = some (.int 0)) (hf9 : fs[9]? = some (.int 0)) : mV l yX5_press cX5_press 5 .int 2 (dC, dI) [(h0, .inr (5, fs))] [] [.ref h0, .int p0] (fun r => r = (-1)) := by
  refine Met.ofW (cc := cX5_press) (maxL := 5) (ret := some .int) (by decide) rfl ?_
  intro p e s m args below meth c s₁ B hml hv
  obtain ⟨rfl, hP, hK⟩ := hv
  have hx := B.exec
  have hb := B.bytes
  have hr := B.returns
  have hlocks := B.notSynchronized
  have hts0 := atoms_spec (ws := Cond.code yX5_press cX5_press 5 (some .int) :: lw_B) B.pre
  have hts : ∀ w ∈ lw_B, w.before _ s = true := fun w h => hts0 w (List.mem_cons_of_mem _ h)
  have hown : s.vm.findClass RX5 = some m.cls := findClass_of_methodNamed B.named
  have hS : va_S (fun _ => False) s.heap s.heap [] := va_S.rf
  have hl := lv_entry ([.ref h0, .int p0]) (n := 5) (Nat.le_of_ble_eq_true rfl)
  rw [lg_entry_eq]
  generalize (lg_sl ([.ref h0, .int p0]) ++ List.replicate (5 - (lg_sl ([.ref h0, .int p0])).length) Slot.unset).toArray = ls at hl ⊢
  have hl : lv_has ls 5 [(0, .ref h0), (1, .int p0)] := hl
  refine lv_aload_n hx hb dX5_press_0 rfl (lv_at hl 0 rfl) ?_
  refine lv_iload_n hx hb dX5_press_1 rfl (lv_at hl 1 rfl) ?_
  have hPc := hP.sub (ws' := [(h0, .inr (5, fs))]) [0] rfl
  refine k_V (ci := 5) (q0 := 0) (tc := []) ⟨hx, hb, hml, hown, hts⟩ (c_isSale l dC dI h0 fs 0 p0 hf9) 1 wm_38 wm_39 wm_40 wm_2 wm_41 (by decide +kernel) ⟨Nat.le_of_ble_eq_true rfl, Nat.le_of_ble_eq_true rfl⟩ hPc (hK.sub (tys' := []) [] rfl) rfl rfl rfl hl.1 rfl (Nat.le_of_ble_eq_true rfl) dX5_press_2 ⟨Nat.le_of_ble_eq_true rfl, Nat.le_of_ble_eq_true rfl⟩ hS hP (fun r_1 H locs hpr_1 hP hS => ?_)
  obtain rfl : r_1 = 0 := hpr_1.trans (if_neg (k_no0 _))
  refine lv_if_ne (tgt := 10) hx hb dX5_press_5 (by decide) (fun h9 => absurd (by decide) h9) (fun _ => ?_)
  refine lv_iconst (v := (-1)) hx hb dX5_press_8 (by decide) ?_
  exact W.iret (v := (-1)) hx hb hr (fun t ht hW => ⟨⟨(-1), (), rfl, rfl, trivial⟩, hS.F ht⟩) hS.2.2 dX5_press_9
set_option maxHeartbeats 4000000 in
set_option maxRecDepth 100000 in
theorem b_X6_press (l : Launch) (dC : Nat → ClassId) (dI : Nat → Nat → Nat) (h0 : Nat) (fs : List Value) (p0 : Int32) (hf5 : fs[5]? = some (.int 0)) (hf9 : fs[9]? = some (.int 0)) (hf25 : fs[25]? = some (.int 0)) : mV l yX6_press cX6_press 3 .int 3 (dC, dI) [(h0, .inr (6, fs))] [] [.ref h0, .int p0] (fun r => r = (-1)) := by
  refine Met.ofW (cc := cX6_press) (maxL := 3) (ret := some .int) (by decide) rfl ?_
  intro p e s m args below meth c s₁ B hml hv
  obtain ⟨rfl, hP, hK⟩ := hv
  have hx := B.exec
  have hb := B.bytes
  have hr := B.returns
  have hlocks := B.notSynchronized
  have hts0 := atoms_spec (ws := Cond.code yX6_press cX6_press 3 (some .int) :: lw_B) B.pre
  have hts : ∀ w ∈ lw_B, w.before _ s = true := fun w h => hts0 w (List.mem_cons_of_mem _ h)
  have hown : s.vm.findClass RX6 = some m.cls := findClass_of_methodNamed B.named
  have hS : va_S (fun _ => False) s.heap s.heap [] := va_S.rf
  have hl := lv_entry ([.ref h0, .int p0]) (n := 3) (Nat.le_of_ble_eq_true rfl)
  rw [lg_entry_eq]
  generalize (lg_sl ([.ref h0, .int p0]) ++ List.replicate (3 - (lg_sl ([.ref h0, .int p0])).length) Slot.unset).toArray = ls at hl ⊢
  have hl : lv_has ls 3 [(0, .ref h0), (1, .int p0)] := hl
  refine lv_aload_n hx hb dX6_press_0 rfl (lv_at hl 0 rfl) ?_
  refine lv_iload_n hx hb dX6_press_1 rfl (lv_at hl 1 rfl) ?_
  have hPc := hP.sub (ws' := [(h0, .inr (6, fs))]) [0] rfl
  refine k_V (ci := 6) (q0 := 0) (tc := []) ⟨hx, hb, hml, hown, hts⟩ (c_mSale l dC dI h0 fs 0 p0 hf25) 1 wm_42 wm_43 wm_44 wm_6 wm_45 (by decide +kernel) ⟨Nat.le_of_ble_eq_true rfl, Nat.le_of_ble_eq_true rfl⟩ hPc (hK.sub (tys' := []) [] rfl) rfl rfl rfl hl.1 rfl (Nat.le_of_ble_eq_true rfl) dX6_press_2 ⟨Nat.le_of_ble_eq_true rfl, Nat.le_of_ble_eq_true rfl⟩ hS hP (fun r_1 H locs hpr_1 hP hS => ?_)
  obtain rfl : r_1 = 0 := hpr_1.trans (if_neg (k_no1 _))
  refine lv_if_ne (tgt := 10) hx hb dX6_press_5 (by decide) (fun h9 => absurd (by decide) h9) (fun _ => ?_)
  refine lv_iconst (v := (-1)) hx hb dX6_press_8 (by decide) ?_
  exact W.iret (v := (-1)) hx hb hr (fun t ht hW => ⟨⟨(-1), (), rfl, rfl, trivial⟩, hS.F ht⟩) hS.2.2 dX6_press_9
set_option maxHeartbeats 4000000 in
set_option maxRecDepth 100000 in
theorem b_X5_refund (l : Launch) (dC : Nat → ClassId) (dI : Nat → Nat → Nat) (h0 : Nat) (fs : List Value) (p0 : Int32) (hf7 : fs[7]? = some (.int 0)) (hf8 : fs[8]? = some (.int 0)) (hf9 : fs[9]? = some (.int 0)) : mV l yX5_refund cX5_refund 4 .int 2 (dC, dI) [(h0, .inr (5, fs))] [] [.ref h0, .int p0] (fun r => r = (-1)) := by
  refine Met.ofW (cc := cX5_refund) (maxL := 4) (ret := some .int) (by decide) rfl ?_
  intro p e s m args below meth c s₁ B hml hv
  obtain ⟨rfl, hP, hK⟩ := hv
  have hx := B.exec
  have hb := B.bytes
  have hr := B.returns
  have hlocks := B.notSynchronized
  have hts0 := atoms_spec (ws := Cond.code yX5_refund cX5_refund 4 (some .int) :: lw_B) B.pre
  have hts : ∀ w ∈ lw_B, w.before _ s = true := fun w h => hts0 w (List.mem_cons_of_mem _ h)
  have hown : s.vm.findClass RX5 = some m.cls := findClass_of_methodNamed B.named
  have hS : va_S (fun _ => False) s.heap s.heap [] := va_S.rf
  have hl := lv_entry ([.ref h0, .int p0]) (n := 4) (Nat.le_of_ble_eq_true rfl)
  rw [lg_entry_eq]
  generalize (lg_sl ([.ref h0, .int p0]) ++ List.replicate (4 - (lg_sl ([.ref h0, .int p0])).length) Slot.unset).toArray = ls at hl ⊢
  have hl : lv_has ls 4 [(0, .ref h0), (1, .int p0)] := hl
  refine lv_aload_n hx hb dX5_refund_0 rfl (lv_at hl 0 rfl) ?_
  refine lv_iload_n hx hb dX5_refund_1 rfl (lv_at hl 1 rfl) ?_
  have hPc := hP.sub (ws' := [(h0, .inr (5, fs))]) [0] rfl
  refine k_V (ci := 5) (q0 := 0) (tc := []) ⟨hx, hb, hml, hown, hts⟩ (c_isSale l dC dI h0 fs 0 p0 hf9) 1 wm_38 wm_39 wm_40 wm_2 wm_41 (by decide +kernel) ⟨Nat.le_of_ble_eq_true rfl, Nat.le_of_ble_eq_true rfl⟩ hPc (hK.sub (tys' := []) [] rfl) rfl rfl rfl hl.1 rfl (Nat.le_of_ble_eq_true rfl) dX5_refund_2 ⟨Nat.le_of_ble_eq_true rfl, Nat.le_of_ble_eq_true rfl⟩ hS hP (fun r_1 H locs hpr_1 hP hS => ?_)
  obtain rfl : r_1 = 0 := hpr_1.trans (if_neg (k_no0 _))
  refine lv_if_ne (tgt := 10) hx hb dX5_refund_5 (by decide) (fun h9 => absurd (by decide) h9) (fun _ => ?_)
  refine lv_iconst (v := (-1)) hx hb dX5_refund_8 (by decide) ?_
  exact W.iret (v := (-1)) hx hb hr (fun t ht hW => ⟨⟨(-1), (), rfl, rfl, trivial⟩, hS.F ht⟩) hS.2.2 dX5_refund_9
set_option maxHeartbeats 4000000 in
set_option maxRecDepth 100000 in
theorem b_X6_refund (l : Launch) (dC : Nat → ClassId) (dI : Nat → Nat → Nat) (h0 : Nat) (fs : List Value) (p0 : Int32) (hf5 : fs[5]? = some (.int 0)) (hf9 : fs[9]? = some (.int 0)) (hf25 : fs[25]? = some (.int 0)) : mV l yX6_refund cX6_refund 3 .int 3 (dC, dI) [(h0, .inr (6, fs))] [] [.ref h0, .int p0] (fun r => r = (-1)) := by
  refine Met.ofW (cc := cX6_refund) (maxL := 3) (ret := some .int) (by decide) rfl ?_
  intro p e s m args below meth c s₁ B hml hv
  obtain ⟨rfl, hP, hK⟩ := hv
  have hx := B.exec
  have hb := B.bytes
  have hr := B.returns
  have hlocks := B.notSynchronized
  have hts0 := atoms_spec (ws := Cond.code yX6_refund cX6_refund 3 (some .int) :: lw_B) B.pre
  have hts : ∀ w ∈ lw_B, w.before _ s = true := fun w h => hts0 w (List.mem_cons_of_mem _ h)
  have hown : s.vm.findClass RX6 = some m.cls := findClass_of_methodNamed B.named
  have hS : va_S (fun _ => False) s.heap s.heap [] := va_S.rf
  have hl := lv_entry ([.ref h0, .int p0]) (n := 3) (Nat.le_of_ble_eq_true rfl)
  rw [lg_entry_eq]
  generalize (lg_sl ([.ref h0, .int p0]) ++ List.replicate (3 - (lg_sl ([.ref h0, .int p0])).length) Slot.unset).toArray = ls at hl ⊢
  have hl : lv_has ls 3 [(0, .ref h0), (1, .int p0)] := hl
  refine lv_aload_n hx hb dX6_refund_0 rfl (lv_at hl 0 rfl) ?_
  refine lv_iload_n hx hb dX6_refund_1 rfl (lv_at hl 1 rfl) ?_
  have hPc := hP.sub (ws' := [(h0, .inr (6, fs))]) [0] rfl
  refine k_V (ci := 6) (q0 := 0) (tc := []) ⟨hx, hb, hml, hown, hts⟩ (c_mSale l dC dI h0 fs 0 p0 hf25) 1 wm_42 wm_43 wm_44 wm_6 wm_45 (by decide +kernel) ⟨Nat.le_of_ble_eq_true rfl, Nat.le_of_ble_eq_true rfl⟩ hPc (hK.sub (tys' := []) [] rfl) rfl rfl rfl hl.1 rfl (Nat.le_of_ble_eq_true rfl) dX6_refund_2 ⟨Nat.le_of_ble_eq_true rfl, Nat.le_of_ble_eq_true rfl⟩ hS hP (fun r_1 H locs hpr_1 hP hS => ?_)
  obtain rfl : r_1 = 0 := hpr_1.trans (if_neg (k_no1 _))
  refine lv_if_ne (tgt := 10) hx hb dX6_refund_5 (by decide) (fun h9 => absurd (by decide) h9) (fun _ => ?_)
  refine lv_iconst (v := (-1)) hx hb dX6_refund_8 (by decide) ?_
  exact W.iret (v := (-1)) hx hb hr (fun t ht hW => ⟨⟨(-1), (), rfl, rfl, trivial⟩, hS.F ht⟩) hS.2.2 dX6_refund_9
set_option maxHeartbeats 4000000 in
set_option maxRecDepth 100000 in
theorem b_X5_told (l : Launch) (dC : Nat → ClassId) (dI : Nat → Nat → Nat) (h0 : Nat) (fs : List Value) (p0 p1 : Int32) (hf7 : fs[7]? = some (.int 0)) (hf8 : fs[8]? = some (.int 0)) (hf9 : fs[9]? = some (.int 0)) : mV l yX5_told cX5_told 4 .int 2 (dC, dI) [(h0, .inr (5, fs))] [] [.ref h0, .int p0, .int p1] (fun r => r = (-2000000)) := by
  refine Met.ofW (cc := cX5_told) (maxL := 4) (ret := some .int) (by decide) rfl ?_
  intro p e s m args below meth c s₁ B hml hv
  obtain ⟨rfl, hP, hK⟩ := hv
  have hx := B.exec
  have hb := B.bytes
  have hr := B.returns
  have hlocks := B.notSynchronized
  have hts0 := atoms_spec (ws := Cond.code yX5_told cX5_told 4 (some .int) :: lw_B) B.pre
  have hts : ∀ w ∈ lw_B, w.before _ s = true := fun w h => hts0 w (List.mem_cons_of_mem _ h)
  have hown : s.vm.findClass RX5 = some m.cls := findClass_of_methodNamed B.named
  have hS : va_S (fun _ => False) s.heap s.heap [] := va_S.rf
  have hl := lv_entry ([.ref h0, .int p0, .int p1]) (n := 4) (Nat.le_of_ble_eq_true rfl)
  rw [lg_entry_eq]
  generalize (lg_sl ([.ref h0, .int p0, .int p1]) ++ List.replicate (4 - (lg_sl ([.ref h0, .int p0, .int p1])).length) Slot.unset).toArray = ls at hl ⊢
  have hl : lv_has ls 4 [(0, .ref h0), (1, .int p0), (2, .int p1)] := hl
  refine lv_aload_n hx hb dX5_told_0 rfl (lv_at hl 0 rfl) ?_
  refine lv_iload_n hx hb dX5_told_1 rfl (lv_at hl 1 rfl) ?_
  have hPc := hP.sub (ws' := [(h0, .inr (5, fs))]) [0] rfl
  refine k_V (ci := 5) (q0 := 0) (tc := []) ⟨hx, hb, hml, hown, hts⟩ (c_isCampaign l dC dI h0 fs 0 p0 hf8) 1 wm_14 wm_15 wm_16 wm_2 wm_17 (by decide +kernel) ⟨Nat.le_of_ble_eq_true rfl, Nat.le_of_ble_eq_true rfl⟩ hPc (hK.sub (tys' := []) [] rfl) rfl rfl rfl hl.1 rfl (Nat.le_of_ble_eq_true rfl) dX5_told_2 ⟨Nat.le_of_ble_eq_true rfl, Nat.le_of_ble_eq_true rfl⟩ hS hP (fun r_1 H locs hpr_1 hP hS => ?_)
  obtain rfl : r_1 = 0 := hpr_1.trans (if_neg (k_no0 _))
  refine lv_if_ne (tgt := 11) hx hb dX5_told_5 (by decide) (fun h9 => absurd (by decide) h9) (fun _ => ?_)
  refine lv_ldc (v := (-2000000)) hx hb hown (hts _ wm_46) dX5_told_8 ?_
  exact W.iret (v := (-2000000)) hx hb hr (fun t ht hW => ⟨⟨(-2000000), (), rfl, rfl, trivial⟩, hS.F ht⟩) hS.2.2 dX5_told_10
set_option maxHeartbeats 4000000 in
set_option maxRecDepth 100000 in
theorem b_X6_told (l : Launch) (dC : Nat → ClassId) (dI : Nat → Nat → Nat) (h0 : Nat) (fs : List Value) (p0 p1 : Int32) (hf5 : fs[5]? = some (.int 0)) (hf9 : fs[9]? = some (.int 0)) (hf25 : fs[25]? = some (.int 0)) : mV l yX6_told cX6_told 3 .int 3 (dC, dI) [(h0, .inr (6, fs))] [] [.ref h0, .int p0, .int p1] (fun r => r = (-2000000)) := by
  refine Met.ofW (cc := cX6_told) (maxL := 3) (ret := some .int) (by decide) rfl ?_
  intro p e s m args below meth c s₁ B hml hv
  obtain ⟨rfl, hP, hK⟩ := hv
  have hx := B.exec
  have hb := B.bytes
  have hr := B.returns
  have hlocks := B.notSynchronized
  have hts0 := atoms_spec (ws := Cond.code yX6_told cX6_told 3 (some .int) :: lw_B) B.pre
  have hts : ∀ w ∈ lw_B, w.before _ s = true := fun w h => hts0 w (List.mem_cons_of_mem _ h)
  have hown : s.vm.findClass RX6 = some m.cls := findClass_of_methodNamed B.named
  have hS : va_S (fun _ => False) s.heap s.heap [] := va_S.rf
  have hl := lv_entry ([.ref h0, .int p0, .int p1]) (n := 3) (Nat.le_of_ble_eq_true rfl)
  rw [lg_entry_eq]
  generalize (lg_sl ([.ref h0, .int p0, .int p1]) ++ List.replicate (3 - (lg_sl ([.ref h0, .int p0, .int p1])).length) Slot.unset).toArray = ls at hl ⊢
  have hl : lv_has ls 3 [(0, .ref h0), (1, .int p0), (2, .int p1)] := hl
  refine lv_aload_n hx hb dX6_told_0 rfl (lv_at hl 0 rfl) ?_
  refine lv_iload_n hx hb dX6_told_1 rfl (lv_at hl 1 rfl) ?_
  have hPc := hP.sub (ws' := [(h0, .inr (6, fs))]) [0] rfl
  refine k_V (ci := 6) (q0 := 0) (tc := []) ⟨hx, hb, hml, hown, hts⟩ (c_mCampaign l dC dI h0 fs 0 p0 hf9) 1 wm_18 wm_19 wm_20 wm_6 wm_21 (by decide +kernel) ⟨Nat.le_of_ble_eq_true rfl, Nat.le_of_ble_eq_true rfl⟩ hPc (hK.sub (tys' := []) [] rfl) rfl rfl rfl hl.1 rfl (Nat.le_of_ble_eq_true rfl) dX6_told_2 ⟨Nat.le_of_ble_eq_true rfl, Nat.le_of_ble_eq_true rfl⟩ hS hP (fun r_1 H locs hpr_1 hP hS => ?_)
  obtain rfl : r_1 = 0 := hpr_1.trans (if_neg (k_no1 _))
  refine lv_if_ne (tgt := 12) hx hb dX6_told_5 (by decide) (fun h9 => absurd (by decide) h9) (fun _ => ?_)
  refine lv_ldcw (v := (-2000000)) hx hb hown (hts _ wm_47) dX6_told_8 ?_
  exact W.iret (v := (-2000000)) hx hb hr (fun t ht hW => ⟨⟨(-2000000), (), rfl, rfl, trivial⟩, hS.F ht⟩) hS.2.2 dX6_told_11
set_option maxHeartbeats 4000000 in
set_option maxRecDepth 100000 in
theorem b_X5_chance (l : Launch) (dC : Nat → ClassId) (dI : Nat → Nat → Nat) (h0 : Nat) (fs : List Value) (p0 : Int32) (hf7 : fs[7]? = some (.int 0)) (hf8 : fs[8]? = some (.int 0)) (hf9 : fs[9]? = some (.int 0)) : mV l yX5_chance cX5_chance 2 .int 2 (dC, dI) [(h0, .inr (5, fs))] [] [.ref h0, .int p0] (fun r => r = (-1)) := by
  refine Met.ofW (cc := cX5_chance) (maxL := 2) (ret := some .int) (by decide) rfl ?_
  intro p e s m args below meth c s₁ B hml hv
  obtain ⟨rfl, hP, hK⟩ := hv
  have hx := B.exec
  have hb := B.bytes
  have hr := B.returns
  have hlocks := B.notSynchronized
  have hts0 := atoms_spec (ws := Cond.code yX5_chance cX5_chance 2 (some .int) :: lw_B) B.pre
  have hts : ∀ w ∈ lw_B, w.before _ s = true := fun w h => hts0 w (List.mem_cons_of_mem _ h)
  have hown : s.vm.findClass RX5 = some m.cls := findClass_of_methodNamed B.named
  have hS : va_S (fun _ => False) s.heap s.heap [] := va_S.rf
  have hl := lv_entry ([.ref h0, .int p0]) (n := 2) (Nat.le_of_ble_eq_true rfl)
  rw [lg_entry_eq]
  generalize (lg_sl ([.ref h0, .int p0]) ++ List.replicate (2 - (lg_sl ([.ref h0, .int p0])).length) Slot.unset).toArray = ls at hl ⊢
  have hl : lv_has ls 2 [(0, .ref h0), (1, .int p0)] := hl
  refine lv_aload_n hx hb dX5_chance_0 rfl (lv_at hl 0 rfl) ?_
  refine lv_iload_n hx hb dX5_chance_1 rfl (lv_at hl 1 rfl) ?_
  have hPc := hP.sub (ws' := [(h0, .inr (5, fs))]) [0] rfl
  refine k_V (ci := 5) (q0 := 0) (tc := []) ⟨hx, hb, hml, hown, hts⟩ (c_isCampaign l dC dI h0 fs 0 p0 hf8) 1 wm_14 wm_15 wm_16 wm_2 wm_17 (by decide +kernel) ⟨Nat.le_of_ble_eq_true rfl, Nat.le_of_ble_eq_true rfl⟩ hPc (hK.sub (tys' := []) [] rfl) rfl rfl rfl hl.1 rfl (Nat.le_of_ble_eq_true rfl) dX5_chance_2 ⟨Nat.le_of_ble_eq_true rfl, Nat.le_of_ble_eq_true rfl⟩ hS hP (fun r_1 H locs hpr_1 hP hS => ?_)
  obtain rfl : r_1 = 0 := hpr_1.trans (if_neg (k_no0 _))
  refine lv_if_ne (tgt := 10) hx hb dX5_chance_5 (by decide) (fun h9 => absurd (by decide) h9) (fun _ => ?_)
  refine lv_iconst (v := (-1)) hx hb dX5_chance_8 (by decide) ?_
  exact W.iret (v := (-1)) hx hb hr (fun t ht hW => ⟨⟨(-1), (), rfl, rfl, trivial⟩, hS.F ht⟩) hS.2.2 dX5_chance_9
set_option maxHeartbeats 4000000 in
set_option maxRecDepth 100000 in
theorem b_X6_chance (l : Launch) (dC : Nat → ClassId) (dI : Nat → Nat → Nat) (h0 : Nat) (fs : List Value) (p0 : Int32) (hf5 : fs[5]? = some (.int 0)) (hf9 : fs[9]? = some (.int 0)) (hf25 : fs[25]? = some (.int 0)) : mV l yX6_chance cX6_chance 2 .int 3 (dC, dI) [(h0, .inr (6, fs))] [] [.ref h0, .int p0] (fun r => r = (-1)) := by
  refine Met.ofW (cc := cX6_chance) (maxL := 2) (ret := some .int) (by decide) rfl ?_
  intro p e s m args below meth c s₁ B hml hv
  obtain ⟨rfl, hP, hK⟩ := hv
  have hx := B.exec
  have hb := B.bytes
  have hr := B.returns
  have hlocks := B.notSynchronized
  have hts0 := atoms_spec (ws := Cond.code yX6_chance cX6_chance 2 (some .int) :: lw_B) B.pre
  have hts : ∀ w ∈ lw_B, w.before _ s = true := fun w h => hts0 w (List.mem_cons_of_mem _ h)
  have hown : s.vm.findClass RX6 = some m.cls := findClass_of_methodNamed B.named
  have hS : va_S (fun _ => False) s.heap s.heap [] := va_S.rf
  have hl := lv_entry ([.ref h0, .int p0]) (n := 2) (Nat.le_of_ble_eq_true rfl)
  rw [lg_entry_eq]
  generalize (lg_sl ([.ref h0, .int p0]) ++ List.replicate (2 - (lg_sl ([.ref h0, .int p0])).length) Slot.unset).toArray = ls at hl ⊢
  have hl : lv_has ls 2 [(0, .ref h0), (1, .int p0)] := hl
  refine lv_aload_n hx hb dX6_chance_0 rfl (lv_at hl 0 rfl) ?_
  refine lv_iload_n hx hb dX6_chance_1 rfl (lv_at hl 1 rfl) ?_
  have hPc := hP.sub (ws' := [(h0, .inr (6, fs))]) [0] rfl
  refine k_V (ci := 6) (q0 := 0) (tc := []) ⟨hx, hb, hml, hown, hts⟩ (c_mCampaign l dC dI h0 fs 0 p0 hf9) 1 wm_18 wm_19 wm_20 wm_6 wm_21 (by decide +kernel) ⟨Nat.le_of_ble_eq_true rfl, Nat.le_of_ble_eq_true rfl⟩ hPc (hK.sub (tys' := []) [] rfl) rfl rfl rfl hl.1 rfl (Nat.le_of_ble_eq_true rfl) dX6_chance_2 ⟨Nat.le_of_ble_eq_true rfl, Nat.le_of_ble_eq_true rfl⟩ hS hP (fun r_1 H locs hpr_1 hP hS => ?_)
  obtain rfl : r_1 = 0 := hpr_1.trans (if_neg (k_no1 _))
  refine lv_if_eq (tgt := 42) hx hb dX6_chance_5 (by decide) (fun _ => ?_) (fun h9 => absurd (by decide) h9)
  refine lv_iconst (v := (-1)) hx hb dX6_chance_42 (by decide) ?_
  exact W.iret (v := (-1)) hx hb hr (fun t ht hW => ⟨⟨(-1), (), rfl, rfl, trivial⟩, hS.F ht⟩) hS.2.2 dX6_chance_43
set_option maxHeartbeats 4000000 in
set_option maxRecDepth 100000 in
theorem b_X5_draw (l : Launch) (dC : Nat → ClassId) (dI : Nat → Nat → Nat) (h0 : Nat) (fs : List Value) (p0 p1 : Int32) (hf7 : fs[7]? = some (.int 0)) (hf8 : fs[8]? = some (.int 0)) (hf9 : fs[9]? = some (.int 0)) : mV l yX5_draw cX5_draw 3 .int 2 (dC, dI) [(h0, .inr (5, fs))] [] [.ref h0, .int p0, .int p1] (fun r => r = (-1)) := by
  refine Met.ofW (cc := cX5_draw) (maxL := 3) (ret := some .int) (by decide) rfl ?_
  intro p e s m args below meth c s₁ B hml hv
  obtain ⟨rfl, hP, hK⟩ := hv
  have hx := B.exec
  have hb := B.bytes
  have hr := B.returns
  have hlocks := B.notSynchronized
  have hts0 := atoms_spec (ws := Cond.code yX5_draw cX5_draw 3 (some .int) :: lw_B) B.pre
  have hts : ∀ w ∈ lw_B, w.before _ s = true := fun w h => hts0 w (List.mem_cons_of_mem _ h)
  have hown : s.vm.findClass RX5 = some m.cls := findClass_of_methodNamed B.named
  have hS : va_S (fun _ => False) s.heap s.heap [] := va_S.rf
  have hl := lv_entry ([.ref h0, .int p0, .int p1]) (n := 3) (Nat.le_of_ble_eq_true rfl)
  rw [lg_entry_eq]
  generalize (lg_sl ([.ref h0, .int p0, .int p1]) ++ List.replicate (3 - (lg_sl ([.ref h0, .int p0, .int p1])).length) Slot.unset).toArray = ls at hl ⊢
  have hl : lv_has ls 3 [(0, .ref h0), (1, .int p0), (2, .int p1)] := hl
  refine lv_aload_n hx hb dX5_draw_0 rfl (lv_at hl 0 rfl) ?_
  refine lv_iload_n hx hb dX5_draw_1 rfl (lv_at hl 1 rfl) ?_
  have hPc := hP.sub (ws' := [(h0, .inr (5, fs))]) [0] rfl
  refine k_V (ci := 5) (q0 := 0) (tc := []) ⟨hx, hb, hml, hown, hts⟩ (c_isCampaign l dC dI h0 fs 0 p0 hf8) 1 wm_14 wm_15 wm_16 wm_2 wm_17 (by decide +kernel) ⟨Nat.le_of_ble_eq_true rfl, Nat.le_of_ble_eq_true rfl⟩ hPc (hK.sub (tys' := []) [] rfl) rfl rfl rfl hl.1 rfl (Nat.le_of_ble_eq_true rfl) dX5_draw_2 ⟨Nat.le_of_ble_eq_true rfl, Nat.le_of_ble_eq_true rfl⟩ hS hP (fun r_1 H locs hpr_1 hP hS => ?_)
  obtain rfl : r_1 = 0 := hpr_1.trans (if_neg (k_no0 _))
  refine lv_if_eq (tgt := 15) hx hb dX5_draw_5 (by decide) (fun _ => ?_) (fun h9 => absurd (by decide) h9)
  refine lv_iconst (v := (-1)) hx hb dX5_draw_15 (by decide) ?_
  exact W.iret (v := (-1)) hx hb hr (fun t ht hW => ⟨⟨(-1), (), rfl, rfl, trivial⟩, hS.F ht⟩) hS.2.2 dX5_draw_16
set_option maxHeartbeats 4000000 in
set_option maxRecDepth 100000 in
theorem b_X6_draw (l : Launch) (dC : Nat → ClassId) (dI : Nat → Nat → Nat) (h0 : Nat) (fs : List Value) (p0 p1 : Int32) (hf5 : fs[5]? = some (.int 0)) (hf9 : fs[9]? = some (.int 0)) (hf25 : fs[25]? = some (.int 0)) : mV l yX6_draw cX6_draw 3 .int 3 (dC, dI) [(h0, .inr (6, fs))] [] [.ref h0, .int p0, .int p1] (fun r => r = (-1)) := by
  refine Met.ofW (cc := cX6_draw) (maxL := 3) (ret := some .int) (by decide) rfl ?_
  intro p e s m args below meth c s₁ B hml hv
  obtain ⟨rfl, hP, hK⟩ := hv
  have hx := B.exec
  have hb := B.bytes
  have hr := B.returns
  have hlocks := B.notSynchronized
  have hts0 := atoms_spec (ws := Cond.code yX6_draw cX6_draw 3 (some .int) :: lw_B) B.pre
  have hts : ∀ w ∈ lw_B, w.before _ s = true := fun w h => hts0 w (List.mem_cons_of_mem _ h)
  have hown : s.vm.findClass RX6 = some m.cls := findClass_of_methodNamed B.named
  have hS : va_S (fun _ => False) s.heap s.heap [] := va_S.rf
  have hl := lv_entry ([.ref h0, .int p0, .int p1]) (n := 3) (Nat.le_of_ble_eq_true rfl)
  rw [lg_entry_eq]
  generalize (lg_sl ([.ref h0, .int p0, .int p1]) ++ List.replicate (3 - (lg_sl ([.ref h0, .int p0, .int p1])).length) Slot.unset).toArray = ls at hl ⊢
  have hl : lv_has ls 3 [(0, .ref h0), (1, .int p0), (2, .int p1)] := hl
  refine lv_aload_n hx hb dX6_draw_0 rfl (lv_at hl 0 rfl) ?_
  refine lv_iload_n hx hb dX6_draw_1 rfl (lv_at hl 1 rfl) ?_
  have hPc := hP.sub (ws' := [(h0, .inr (6, fs))]) [0] rfl
  refine k_V (ci := 6) (q0 := 0) (tc := []) ⟨hx, hb, hml, hown, hts⟩ (c_mCampaign l dC dI h0 fs 0 p0 hf9) 1 wm_18 wm_19 wm_20 wm_6 wm_21 (by decide +kernel) ⟨Nat.le_of_ble_eq_true rfl, Nat.le_of_ble_eq_true rfl⟩ hPc (hK.sub (tys' := []) [] rfl) rfl rfl rfl hl.1 rfl (Nat.le_of_ble_eq_true rfl) dX6_draw_2 ⟨Nat.le_of_ble_eq_true rfl, Nat.le_of_ble_eq_true rfl⟩ hS hP (fun r_1 H locs hpr_1 hP hS => ?_)
  obtain rfl : r_1 = 0 := hpr_1.trans (if_neg (k_no1 _))
  refine lv_if_eq (tgt := 24) hx hb dX6_draw_5 (by decide) (fun _ => ?_) (fun h9 => absurd (by decide) h9)
  refine lv_iconst (v := (-1)) hx hb dX6_draw_24 (by decide) ?_
  exact W.iret (v := (-1)) hx hb hr (fun t ht hW => ⟨⟨(-1), (), rfl, rfl, trivial⟩, hS.F ht⟩) hS.2.2 dX6_draw_25
set_option maxHeartbeats 4000000 in
set_option maxRecDepth 100000 in
theorem b_X5_income (l : Launch) (dC : Nat → ClassId) (dI : Nat → Nat → Nat) (h0 : Nat) (fs : List Value) (p0 : Int32) (hf7 : fs[7]? = some (.int 0)) (hf8 : fs[8]? = some (.int 0)) (hf9 : fs[9]? = some (.int 0)) : mV l yX5_income cX5_income 2 .int 2 (dC, dI) [(h0, .inr (5, fs))] [] [.ref h0, .int p0] (fun r => r = (-1)) := by
  refine Met.ofW (cc := cX5_income) (maxL := 2) (ret := some .int) (by decide) rfl ?_
  intro p e s m args below meth c s₁ B hml hv
  obtain ⟨rfl, hP, hK⟩ := hv
  have hx := B.exec
  have hb := B.bytes
  have hr := B.returns
  have hlocks := B.notSynchronized
  have hts0 := atoms_spec (ws := Cond.code yX5_income cX5_income 2 (some .int) :: lw_B) B.pre
  have hts : ∀ w ∈ lw_B, w.before _ s = true := fun w h => hts0 w (List.mem_cons_of_mem _ h)
  have hown : s.vm.findClass RX5 = some m.cls := findClass_of_methodNamed B.named
  have hS : va_S (fun _ => False) s.heap s.heap [] := va_S.rf
  have hl := lv_entry ([.ref h0, .int p0]) (n := 2) (Nat.le_of_ble_eq_true rfl)
  rw [lg_entry_eq]
  generalize (lg_sl ([.ref h0, .int p0]) ++ List.replicate (2 - (lg_sl ([.ref h0, .int p0])).length) Slot.unset).toArray = ls at hl ⊢
  have hl : lv_has ls 2 [(0, .ref h0), (1, .int p0)] := hl
  refine lv_aload_n hx hb dX5_income_0 rfl (lv_at hl 0 rfl) ?_
  refine lv_iload_n hx hb dX5_income_1 rfl (lv_at hl 1 rfl) ?_
  have hPc := hP.sub (ws' := [(h0, .inr (5, fs))]) [0] rfl
  refine k_V (ci := 5) (q0 := 0) (tc := []) ⟨hx, hb, hml, hown, hts⟩ (c_isPage l dC dI h0 fs 0 p0 hf7) 1 wm_25 wm_26 wm_27 wm_2 wm_28 (by decide +kernel) ⟨Nat.le_of_ble_eq_true rfl, Nat.le_of_ble_eq_true rfl⟩ hPc (hK.sub (tys' := []) [] rfl) rfl rfl rfl hl.1 rfl (Nat.le_of_ble_eq_true rfl) dX5_income_2 ⟨Nat.le_of_ble_eq_true rfl, Nat.le_of_ble_eq_true rfl⟩ hS hP (fun r_1 H locs hpr_1 hP hS => ?_)
  obtain rfl : r_1 = 0 := hpr_1.trans (if_neg (k_no0 _))
  refine lv_if_ne (tgt := 10) hx hb dX5_income_5 (by decide) (fun h9 => absurd (by decide) h9) (fun _ => ?_)
  refine lv_iconst (v := (-1)) hx hb dX5_income_8 (by decide) ?_
  exact W.iret (v := (-1)) hx hb hr (fun t ht hW => ⟨⟨(-1), (), rfl, rfl, trivial⟩, hS.F ht⟩) hS.2.2 dX5_income_9
set_option maxHeartbeats 4000000 in
set_option maxRecDepth 100000 in
theorem b_X6_income (l : Launch) (dC : Nat → ClassId) (dI : Nat → Nat → Nat) (h0 : Nat) (fs : List Value) (p0 : Int32) (hf5 : fs[5]? = some (.int 0)) (hf9 : fs[9]? = some (.int 0)) (hf25 : fs[25]? = some (.int 0)) : mV l yX6_income cX6_income 4 .int 3 (dC, dI) [(h0, .inr (6, fs))] [] [.ref h0, .int p0] (fun r => r = (-1)) := by
  refine Met.ofW (cc := cX6_income) (maxL := 4) (ret := some .int) (by decide) rfl ?_
  intro p e s m args below meth c s₁ B hml hv
  obtain ⟨rfl, hP, hK⟩ := hv
  have hx := B.exec
  have hb := B.bytes
  have hr := B.returns
  have hlocks := B.notSynchronized
  have hts0 := atoms_spec (ws := Cond.code yX6_income cX6_income 4 (some .int) :: lw_B) B.pre
  have hts : ∀ w ∈ lw_B, w.before _ s = true := fun w h => hts0 w (List.mem_cons_of_mem _ h)
  have hown : s.vm.findClass RX6 = some m.cls := findClass_of_methodNamed B.named
  have hS : va_S (fun _ => False) s.heap s.heap [] := va_S.rf
  have hl := lv_entry ([.ref h0, .int p0]) (n := 4) (Nat.le_of_ble_eq_true rfl)
  rw [lg_entry_eq]
  generalize (lg_sl ([.ref h0, .int p0]) ++ List.replicate (4 - (lg_sl ([.ref h0, .int p0])).length) Slot.unset).toArray = ls at hl ⊢
  have hl : lv_has ls 4 [(0, .ref h0), (1, .int p0)] := hl
  refine lv_aload_n hx hb dX6_income_0 rfl (lv_at hl 0 rfl) ?_
  refine lv_iload_n hx hb dX6_income_1 rfl (lv_at hl 1 rfl) ?_
  have hPc := hP.sub (ws' := [(h0, .inr (6, fs))]) [0] rfl
  refine k_V (ci := 6) (q0 := 0) (tc := []) ⟨hx, hb, hml, hown, hts⟩ (c_mPage l dC dI h0 fs 0 p0 hf5) 1 wm_32 wm_33 wm_34 wm_6 wm_35 (by decide +kernel) ⟨Nat.le_of_ble_eq_true rfl, Nat.le_of_ble_eq_true rfl⟩ hPc (hK.sub (tys' := []) [] rfl) rfl rfl rfl hl.1 rfl (Nat.le_of_ble_eq_true rfl) dX6_income_2 ⟨Nat.le_of_ble_eq_true rfl, Nat.le_of_ble_eq_true rfl⟩ hS hP (fun r_1 H locs hpr_1 hP hS => ?_)
  obtain rfl : r_1 = 0 := hpr_1.trans (if_neg (k_no1 _))
  refine lv_if_ne (tgt := 10) hx hb dX6_income_5 (by decide) (fun h9 => absurd (by decide) h9) (fun _ => ?_)
  refine lv_iconst (v := (-1)) hx hb dX6_income_8 (by decide) ?_
  exact W.iret (v := (-1)) hx hb hr (fun t ht hW => ⟨⟨(-1), (), rfl, rfl, trivial⟩, hS.F ht⟩) hS.2.2 dX6_income_9
