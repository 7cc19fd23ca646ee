noncomputable def pt_sum (g : Nat → Nat) : Nat → Nat
  | 0 => 0
  | n + 1 => pt_sum g n + g n
theorem pt_sum_c {f g : Nat → Nat} : ∀ n, (∀ i, i < n → f i = g i) → pt_sum f n = pt_sum g n
  | 0, _ => rfl
  | n + 1, h => by
    show pt_sum f n + f n = pt_sum g n + g n
    rw [pt_sum_c n (fun i hi => h i (by omega)), h n (by omega)]
/-- nothing is counted in front of lo -/
theorem pt_cnt_none {p : Nat → Prop} : ∀ n, (∀ i, i < n → ¬ p i) → pt_cnt p n = 0
  | 0, _ => rfl
  | n + 1, h => by
    show pt_cnt p n + pt_cb (p n) = 0
    rw [pt_cnt_none n (fun i hi => h i (by omega)), pt_cb_f (h n (by omega))]
theorem pt_cnt_mono {p : Nat → Prop} {m : Nat} : ∀ n, m ≤ n → pt_cnt p m ≤ pt_cnt p n
  | 0, h => by rw [Nat.le_zero.mp h]; exact Nat.le_refl _
  | n + 1, h => by
    rcases Nat.lt_or_ge n m with q | q
    · rw [show m = n + 1 by omega]; exact Nat.le_refl _
    · exact Nat.le_trans (pt_cnt_mono n q) (Nat.le_add_right _ _)
theorem pt_cnt_t {p : Nat → Prop} {n : Nat} (h : p n) : pt_cnt p (n + 1) = pt_cnt p n + 1 := by
  show pt_cnt p n + pt_cb (p n) = _
  rw [pt_cb_t h]
theorem pt_cnt_f {p : Nat → Prop} {n : Nat} (h : ¬ p n) : pt_cnt p (n + 1) = pt_cnt p n := by
  show pt_cnt p n + pt_cb (p n) = _
  rw [pt_cb_f h]; rfl
theorem pt_updL_s {f g : Nat → Int64} {i : Nat} {v : Int64} (h : ∀ x, x < i → f x = g x) (e : v = g i) (x : Nat) (hx : x < i + 1) : vp_updL f i v x = g x := by
  unfold vp_updL
  by_cases q : x = i
  · rw [if_pos q, q, e]
  · rw [if_neg q]; exact h x (by omega)
theorem pt_upd_s {f g : Nat → Int32} {i : Nat} {v : Int32} (h : ∀ x, x < i → f x = g x) (e : v = g i) (x : Nat) (hx : x < i + 1) : upd f i v x = g x := by
  unfold upd
  by_cases q : x = i
  · rw [if_pos q, q, e]
  · rw [if_neg q]; exact h x (by omega)
/-- the j-th of those below n that are p -/
def pt_kth (p : Nat → Prop) (n : Nat) (k r : Int32) : Prop := (∃ j t, k = nI j ∧ j < 2 ^ 31 ∧ t < n ∧ p t ∧ pt_cnt p t = j ∧ r = nI t) ∨ ((∀ j t, k = nI j → j < 2 ^ 31 → t < n → p t → ¬ pt_cnt p t = j) ∧ r = -1)
/-- the first below n that is p -/
def pt_fst (p : Nat → Prop) (n : Nat) (r : Int32) : Prop := (∃ t, t < n ∧ p t ∧ (∀ u, u < t → ¬ p u) ∧ r = nI t) ∨ ((∀ t, t < n → ¬ p t) ∧ r = -1)
theorem pt_sw_out {w : Int32} {n : Nat} (hn : n < 2 ^ 31) (h : w < 0 ∨ nI n ≤ w) : w.toInt < 0 ∨ (n : Int) - 1 < w.toInt := by
  rcases h with h | h
  · rw [Int32.lt_iff_toInt_lt, Int32.toInt_zero] at h
    exact Or.inl h
  · rw [Int32.le_iff_toInt_le, nI_toInt hn] at h
    exact Or.inr (by omega)

theorem wd_c_X1_end_X1_end_0 : Cond.constantLong RX1 91 (-9223372036854775808) ∈ wsX1_end := by decide +kernel
theorem wd_c_X1_end_X1_end_1 : Cond.fieldLink RX1 24 "PointTrees" "things" "LPointTrees$Boxes;" ∈ wsX1_end := by decide +kernel
theorem wd_c_X1_end_X1_end_2 : Cond.initialized RX0 ∈ wsX1_end := by decide +kernel
theorem wd_c_X1_end_X1_end_3 : Cond.instanceMethod yX0_at ∈ wsX1_end := by decide +kernel
theorem wd_c_X1_end_X1_end_4 : Cond.selects RX0 yX0_at yX0_at ∈ wsX1_end := by decide +kernel
theorem iw_c_X1_end_wsX10 : ∀ w ∈ wsX10, w ∈ wsX1_end := fun _ h => List.mem_cons_of_mem _ (List.mem_append_left _ (List.mem_append_right _ h))
theorem iw_c_X1_end_wsX00 : ∀ w ∈ wsX00, w ∈ wsX1_end := fun _ h => List.mem_cons_of_mem _ (List.mem_append_right _ h)
set_option maxHeartbeats 4000000 in
set_option maxRecDepth 100000 in
theorem c_X1_end (l : Launch) (dC : Nat → ClassId) (dI : Nat → Nat → Nat) (a : Nat → Nat) (c : Nat → ClassId) (F : Nat → Int32) (A : Nat → Nat → Int32) (Q : Nat → Int64) (ax : Nat) (h0 : F 0 = nI ax) (hax : ax ≤ 3) (md : Nat) (h1 : F 1 = nI md) (hmd : md ≤ 64) (k x z : Int32) : Met l yX1_end wsX1_end (pt_rm 1) (pt_R (dC, dI) vwCl (pt_xt c) (pt_xw a c F A Q) pt_nw [.ref (a 0), .int k, .int x, .int z]) (vp_Sl (fun r => (∃ t y d, t < md ∧ y < ax ∧ d < 2 ∧ k = nI t ∧ x = nI y ∧ z = nI d ∧ ¬ A 3 t = 0 ∧ r = (A 4 (t * 6 + y * 2 + d)).toInt64) ∨ (¬ (pt_in md (fun t => ¬ A 3 t = 0) k ∧ pt_in ax (fun _ => True) x ∧ pt_in 2 (fun _ => True) z) ∧ r = -9223372036854775808))) 0 0 (fun _ => False) := by
  refine Met.ofW (cc := cX1_end) (maxL := 4) (ret := (some .long)) (by decide) rfl ?_
  intro p e s m args below meth cd s₁ B hml hv
  obtain ⟨rfl, hP, hK, hN⟩ := hv
  have hx := B.exec
  have hb := B.bytes
  have hr := B.returns
  have hts := atoms_spec (ws := wsX1_end) B.pre
  have hown : s.vm.findClass RX1 = some m.cls := findClass_of_methodNamed B.named
  have hlocks := B.notSynchronized
  have hl := lv_entry ([.ref (a 0), .int k, .int x, .int z]) (n := 4) (Nat.le_of_ble_eq_true rfl)
  rw [lg_entry_eq]
  generalize (lg_sl ([.ref (a 0), .int k, .int x, .int z]) ++ List.replicate (4 - (lg_sl ([.ref (a 0), .int k, .int x, .int z])).length) Slot.unset).toArray = ls at hl ⊢
  have hl : lv_has ls 4 [(0, .ref (a 0)), (1, .int k), (2, .int x), (3, .int z)] := hl
  refine lv_aload_n hx hb dX1_end_0 rfl (lv_at hl 0 rfl) ?_
  refine lv_iload_n hx hb dX1_end_1 rfl (lv_at hl 1 rfl) ?_
  refine pt_rdi (va_runV (As := [.int k]) (rest := []) ⟨hx, hb, hml, hown, hts⟩ (c_X1_hasThing l dC dI a c F A Q md h1 hmd k) (cwV 1 hts gX1_end_X1_hasThing rfl rfl rfl (by decide +kernel) ⟨Nat.le_of_ble_eq_true rfl, Nat.le_of_ble_eq_true rfl⟩) (pt_pv1 hP hK hN (q0 := 0) rfl) rfl rfl hl.1 rfl (lv_room (Nat.le_of_ble_eq_true rfl)) dX1_end_2 ⟨Nat.le_of_ble_eq_true rfl, Nat.le_of_ble_eq_true rfl⟩) (fun r2 hr2 => ?_)
  refine lv_if_eq (tgt := 17) hx hb dX1_end_5 (by decide) (fun c5 => ?_) (fun c5 => ?_)
  · have d5 := hr2.f c5
    refine lv_ldc2 (v := -9223372036854775808) hx hb hown (hts _ wd_c_X1_end_X1_end_0) dX1_end_17 ?_
    exact W.lret (v := (-9223372036854775808 : Int64)) hx hb hr (fun zt zh zW => ⟨_, rfl, (Or.inr ⟨fun q => by first | exact d14 q.2 | exact d5 q.1, rfl⟩), zh⟩) (fun q h => by cases h) dX1_end_20
  · have d5 := hr2.t c5
    refine lv_aload_n hx hb dX1_end_8 rfl (lv_at hl 0 rfl) ?_
    refine lv_iload_n hx hb dX1_end_9 rfl (lv_at hl 2 rfl) ?_
    refine lv_iload_n hx hb dX1_end_10 rfl (lv_at hl 3 rfl) ?_
    refine pt_rdi (va_runV (As := [.int x, .int z]) (rest := []) ⟨hx, hb, hml, hown, hts⟩ (c_X1_hasEnd l dC dI a c F A Q ax h0 hax x z) (cwV 2 hts gX1_end_X1_hasEnd rfl rfl rfl (by decide +kernel) ⟨Nat.le_of_ble_eq_true rfl, Nat.le_of_ble_eq_true rfl⟩) (pt_pv1 hP hK hN (q0 := 0) rfl) rfl rfl hl.1 rfl (lv_room (Nat.le_of_ble_eq_true rfl)) dX1_end_11 ⟨Nat.le_of_ble_eq_true rfl, Nat.le_of_ble_eq_true rfl⟩) (fun r11 hr11 => ?_)
    refine lv_if_ne (tgt := 21) hx hb dX1_end_14 (by decide) (fun c14 => ?_) (fun c14 => ?_)
    · have d14 := hr11.t c14
      obtain ⟨t, ht, ek, hT⟩ := d5
      obtain ⟨⟨y, hy, ey, _⟩, d, hd, ed, _⟩ := d14
      subst ek
      subst ey
      subst ed
      refine lv_aload_n hx hb dX1_end_21 rfl (lv_at hl 0 rfl) ?_
      refine va_get (D := (dC, dI)) (ci := 1) (v := .ref (a 4)) (C := RX1) (T := TX1) (N := 18) hx hb hts iw_c_X1_end_wsX10 hown hK hP 0 rfl rfl 4 (by decide) (hts _ wd_c_X1_end_X1_end_1) (fun _ h9 => h9) rfl dX1_end_22 ?_
      refine lv_iload_n hx hb dX1_end_25 rfl (lv_at hl 1 rfl) ?_
      refine lv_iload_n hx hb dX1_end_26 rfl (lv_at hl 2 rfl) ?_
      refine lv_iload_n hx hb dX1_end_27 rfl (lv_at hl 3 rfl) ?_
      refine pt_rdi (va_runVN (As := [.int (nI t), .int (nI y), .int (nI d)]) (rest := []) ⟨hx, hb, hml, hown, hts⟩ (c_X0_at l dC dI (pt_xt c) (pt_xw a c F A Q) 2 3 1 (a 4) (a 24) (c 4) 384 (A 4) rfl rfl rfl (by decide) t y d (by omega)) ⟨va_cnB 3 hts gX1_end_X0_at_n93 rfl rfl rfl (pt_nest hN 2 rfl) (hts _ wd_c_X1_end_X1_end_2) (by decide +kernel) ⟨Nat.le_of_ble_eq_true rfl, Nat.le_of_ble_eq_true rfl⟩, (hts _ wd_c_X1_end_X1_end_3), (hts _ wd_c_X1_end_X1_end_4)⟩ (pt_pv0 hP hK hN (q0 := 2) rfl) rfl rfl hl.1 rfl (lv_room (Nat.le_of_ble_eq_true rfl)) dX1_end_28 ⟨Nat.le_of_ble_eq_true rfl, Nat.le_of_ble_eq_true rfl⟩) (fun r28 hr28 => ?_)
      refine pt_top (y := (A 4 (t * 6 + y * 2 + d))) hr28 ?_
      refine lv_i2l (v := ((A 4 (t * 6 + y * 2 + d))).toInt64) hx hb dX1_end_31 rfl ?_
      exact W.lret (v := ((A 4 (t * 6 + y * 2 + d))).toInt64) hx hb hr (fun zt zh zW => ⟨_, rfl, (Or.inl ⟨t, y, d, ht, hy, hd, rfl, rfl, rfl, hT, rfl⟩), zh⟩) (fun q h => by cases h) dX1_end_32
    · have d14 := hr11.f c14
      refine lv_ldc2 (v := -9223372036854775808) hx hb hown (hts _ wd_c_X1_end_X1_end_0) dX1_end_17 ?_
      exact W.lret (v := (-9223372036854775808 : Int64)) hx hb hr (fun zt zh zW => ⟨_, rfl, (Or.inr ⟨fun q => by first | exact d14 q.2 | exact d5 q.1, rfl⟩), zh⟩) (fun q h => by cases h) dX1_end_20

theorem wd_c_X1_bound_X1_bound_0 : Cond.constantLong RX1 91 (-9223372036854775808) ∈ wsX1_bound := by decide +kernel
theorem wd_c_X1_bound_X1_bound_1 : Cond.fieldLink RX1 44 "PointTrees" "bounds" "LPointTrees$Boxes;" ∈ wsX1_bound := by decide +kernel
theorem wd_c_X1_bound_X1_bound_2 : Cond.initialized RX0 ∈ wsX1_bound := by decide +kernel
theorem wd_c_X1_bound_X1_bound_3 : Cond.instanceMethod yX0_at ∈ wsX1_bound := by decide +kernel
theorem wd_c_X1_bound_X1_bound_4 : Cond.selects RX0 yX0_at yX0_at ∈ wsX1_bound := by decide +kernel
theorem iw_c_X1_bound_wsX10 : ∀ w ∈ wsX10, w ∈ wsX1_bound := fun _ h => List.mem_cons_of_mem _ (List.mem_append_left _ (List.mem_append_right _ h))
theorem iw_c_X1_bound_wsX00 : ∀ w ∈ wsX00, w ∈ wsX1_bound := fun _ h => List.mem_cons_of_mem _ (List.mem_append_right _ h)
set_option maxHeartbeats 4000000 in
set_option maxRecDepth 100000 in
theorem c_X1_bound (l : Launch) (dC : Nat → ClassId) (dI : Nat → Nat → Nat) (a : Nat → Nat) (c : Nat → ClassId) (F : Nat → Int32) (A : Nat → Nat → Int32) (Q : Nat → Int64) (ax : Nat) (h0 : F 0 = nI ax) (hax : ax ≤ 3) (nb : Nat) (h5 : F 5 = nI nb) (hnb : nb ≤ 31) (k x z : Int32) : Met l yX1_bound wsX1_bound (pt_rm 1) (pt_R (dC, dI) vwCl (pt_xt c) (pt_xw a c F A Q) pt_nw [.ref (a 0), .int k, .int x, .int z]) (vp_Sl (fun r => (∃ t y d, t < nb ∧ y < ax ∧ d < 2 ∧ k = nI t ∧ x = nI y ∧ z = nI d ∧ True ∧ r = (A 12 (t * 6 + y * 2 + d)).toInt64) ∨ (¬ (pt_in nb (fun t => True) k ∧ pt_in ax (fun _ => True) x ∧ pt_in 2 (fun _ => True) z) ∧ r = -9223372036854775808))) 0 0 (fun _ => False) := by
  refine Met.ofW (cc := cX1_bound) (maxL := 4) (ret := (some .long)) (by decide) rfl ?_
  intro p e s m args below meth cd s₁ B hml hv
  obtain ⟨rfl, hP, hK, hN⟩ := hv
  have hx := B.exec
  have hb := B.bytes
  have hr := B.returns
  have hts := atoms_spec (ws := wsX1_bound) B.pre
  have hown : s.vm.findClass RX1 = some m.cls := findClass_of_methodNamed B.named
  have hlocks := B.notSynchronized
  have hl := lv_entry ([.ref (a 0), .int k, .int x, .int z]) (n := 4) (Nat.le_of_ble_eq_true rfl)
  rw [lg_entry_eq]
  generalize (lg_sl ([.ref (a 0), .int k, .int x, .int z]) ++ List.replicate (4 - (lg_sl ([.ref (a 0), .int k, .int x, .int z])).length) Slot.unset).toArray = ls at hl ⊢
  have hl : lv_has ls 4 [(0, .ref (a 0)), (1, .int k), (2, .int x), (3, .int z)] := hl
  refine lv_aload_n hx hb dX1_bound_0 rfl (lv_at hl 0 rfl) ?_
  refine lv_iload_n hx hb dX1_bound_1 rfl (lv_at hl 1 rfl) ?_
  refine pt_rdi (va_runV (As := [.int k]) (rest := []) ⟨hx, hb, hml, hown, hts⟩ (c_X1_hasBlock l dC dI a c F A Q nb h5 hnb k) (cwV 1 hts gX1_bound_X1_hasBlock rfl rfl rfl (by decide +kernel) ⟨Nat.le_of_ble_eq_true rfl, Nat.le_of_ble_eq_true rfl⟩) (pt_pv1 hP hK hN (q0 := 0) rfl) rfl rfl hl.1 rfl (lv_room (Nat.le_of_ble_eq_true rfl)) dX1_bound_2 ⟨Nat.le_of_ble_eq_true rfl, Nat.le_of_ble_eq_true rfl⟩) (fun r2 hr2 => ?_)
  refine lv_if_eq (tgt := 17) hx hb dX1_bound_5 (by decide) (fun c5 => ?_) (fun c5 => ?_)
  · have d5 := hr2.f c5
    refine lv_ldc2 (v := -9223372036854775808) hx hb hown (hts _ wd_c_X1_bound_X1_bound_0) dX1_bound_17 ?_
    exact W.lret (v := (-9223372036854775808 : Int64)) hx hb hr (fun zt zh zW => ⟨_, rfl, (Or.inr ⟨fun q => by first | exact d14 q.2 | exact d5 q.1, rfl⟩), zh⟩) (fun q h => by cases h) dX1_bound_20
  · have d5 := hr2.t c5
    refine lv_aload_n hx hb dX1_bound_8 rfl (lv_at hl 0 rfl) ?_
    refine lv_iload_n hx hb dX1_bound_9 rfl (lv_at hl 2 rfl) ?_
    refine lv_iload_n hx hb dX1_bound_10 rfl (lv_at hl 3 rfl) ?_
    refine pt_rdi (va_runV (As := [.int x, .int z]) (rest := []) ⟨hx, hb, hml, hown, hts⟩ (c_X1_hasEnd l dC dI a c F A Q ax h0 hax x z) (cwV 2 hts gX1_bound_X1_hasEnd rfl rfl rfl (by decide +kernel) ⟨Nat.le_of_ble_eq_true rfl, Nat.le_of_ble_eq_true rfl⟩) (pt_pv1 hP hK hN (q0 := 0) rfl) rfl rfl hl.1 rfl (lv_room (Nat.le_of_ble_eq_true rfl)) dX1_bound_11 ⟨Nat.le_of_ble_eq_true rfl, Nat.le_of_ble_eq_true rfl⟩) (fun r11 hr11 => ?_)
    refine lv_if_ne (tgt := 21) hx hb dX1_bound_14 (by decide) (fun c14 => ?_) (fun c14 => ?_)
    · have d14 := hr11.t c14
      obtain ⟨t, ht, ek, hT⟩ := d5
      obtain ⟨⟨y, hy, ey, _⟩, d, hd, ed, _⟩ := d14
      subst ek
      subst ey
      subst ed
      refine lv_aload_n hx hb dX1_bound_21 rfl (lv_at hl 0 rfl) ?_
      refine va_get (D := (dC, dI)) (ci := 1) (v := .ref (a 12)) (C := RX1) (T := TX1) (N := 18) hx hb hts iw_c_X1_bound_wsX10 hown hK hP 0 rfl rfl 12 (by decide) (hts _ wd_c_X1_bound_X1_bound_1) (fun _ h9 => h9) rfl dX1_bound_22 ?_
      refine lv_iload_n hx hb dX1_bound_25 rfl (lv_at hl 1 rfl) ?_
      refine lv_iload_n hx hb dX1_bound_26 rfl (lv_at hl 2 rfl) ?_
      refine lv_iload_n hx hb dX1_bound_27 rfl (lv_at hl 3 rfl) ?_
      refine pt_rdi (va_runVN (As := [.int (nI t), .int (nI y), .int (nI d)]) (rest := []) ⟨hx, hb, hml, hown, hts⟩ (c_X0_at l dC dI (pt_xt c) (pt_xw a c F A Q) 9 10 7 (a 12) (a 32) (c 12) 186 (A 12) rfl rfl rfl (by decide) t y d (by omega)) ⟨va_cnB 3 hts gX1_bound_X0_at_n93 rfl rfl rfl (pt_nest hN 2 rfl) (hts _ wd_c_X1_bound_X1_bound_2) (by decide +kernel) ⟨Nat.le_of_ble_eq_true rfl, Nat.le_of_ble_eq_true rfl⟩, (hts _ wd_c_X1_bound_X1_bound_3), (hts _ wd_c_X1_bound_X1_bound_4)⟩ (pt_pv0 hP hK hN (q0 := 9) rfl) rfl rfl hl.1 rfl (lv_room (Nat.le_of_ble_eq_true rfl)) dX1_bound_28 ⟨Nat.le_of_ble_eq_true rfl, Nat.le_of_ble_eq_true rfl⟩) (fun r28 hr28 => ?_)
      refine pt_top (y := (A 12 (t * 6 + y * 2 + d))) hr28 ?_
      refine lv_i2l (v := ((A 12 (t * 6 + y * 2 + d))).toInt64) hx hb dX1_bound_31 rfl ?_
      exact W.lret (v := ((A 12 (t * 6 + y * 2 + d))).toInt64) hx hb hr (fun zt zh zW => ⟨_, rfl, (Or.inl ⟨t, y, d, ht, hy, hd, rfl, rfl, rfl, hT, rfl⟩), zh⟩) (fun q h => by cases h) dX1_bound_32
    · have d14 := hr11.f c14
      refine lv_ldc2 (v := -9223372036854775808) hx hb hown (hts _ wd_c_X1_bound_X1_bound_0) dX1_bound_17 ?_
      exact W.lret (v := (-9223372036854775808 : Int64)) hx hb hr (fun zt zh zW => ⟨_, rfl, (Or.inr ⟨fun q => by first | exact d14 q.2 | exact d5 q.1, rfl⟩), zh⟩) (fun q h => by cases h) dX1_bound_20

theorem wd_c_X1_block_X1_block_0 : Cond.fieldLink RX1 35 "PointTrees" "blockTo" "[I" ∈ wsX1_block := by decide +kernel
theorem wd_c_X1_block_X1_block_1 : Cond.fieldLink RX1 32 "PointTrees" "blockFrom" "[I" ∈ wsX1_block := by decide +kernel
theorem wd_c_X1_block_X1_block_2 : Cond.fieldLink RX1 38 "PointTrees" "otherHalf" "[I" ∈ wsX1_block := by decide +kernel
theorem wd_c_X1_block_X1_block_3 : Cond.fieldLink RX1 41 "PointTrees" "blockDepth" "[I" ∈ wsX1_block := by decide +kernel
theorem iw_c_X1_block_wsX10 : ∀ w ∈ wsX10, w ∈ wsX1_block := fun _ h => List.mem_cons_of_mem _ (List.mem_append_right _ h)
set_option maxHeartbeats 4000000 in
set_option maxRecDepth 100000 in
theorem c_X1_block (l : Launch) (dC : Nat → ClassId) (dI : Nat → Nat → Nat) (a : Nat → Nat) (c : Nat → ClassId) (F : Nat → Int32) (A : Nat → Nat → Int32) (Q : Nat → Int64) (nb : Nat) (h5 : F 5 = nI nb) (hnb : nb ≤ 31) (k x : Int32) : Met l yX1_block wsX1_block (pt_rm 1) (pt_R (dC, dI) vwCl (pt_xt c) (pt_xw a c F A Q) pt_nw [.ref (a 0), .int k, .int x]) (vp_Si (fun r => (¬ pt_in nb (fun _ => True) k ∧ r = -1) ∨ ∃ b, b < nb ∧ k = nI b ∧ ((x = nI 0 ∧ pt_B r (¬ A 10 b = 0)) ∨ (x = nI 1 ∧ r = A 9 b - A 8 b) ∨ (x = nI 2 ∧ r = A 10 b) ∨ (x = nI 3 ∧ r = A 11 b) ∨ (¬ pt_in 4 (fun _ => True) x ∧ r = -2)))) 0 0 (fun _ => False) := by
  refine Met.ofW (cc := cX1_block) (maxL := 3) (ret := (some .int)) (by decide) rfl ?_
  intro p e s m args below meth cd s₁ B hml hv
  obtain ⟨rfl, hP, hK, hN⟩ := hv
  have hx := B.exec
  have hb := B.bytes
  have hr := B.returns
  have hts := atoms_spec (ws := wsX1_block) B.pre
  have hown : s.vm.findClass RX1 = some m.cls := findClass_of_methodNamed B.named
  have hlocks := B.notSynchronized
  have hl := lv_entry ([.ref (a 0), .int k, .int x]) (n := 3) (Nat.le_of_ble_eq_true rfl)
  rw [lg_entry_eq]
  generalize (lg_sl ([.ref (a 0), .int k, .int x]) ++ List.replicate (3 - (lg_sl ([.ref (a 0), .int k, .int x])).length) Slot.unset).toArray = ls at hl ⊢
  have hl : lv_has ls 3 [(0, .ref (a 0)), (1, .int k), (2, .int x)] := hl
  refine lv_aload_n hx hb dX1_block_0 rfl (lv_at hl 0 rfl) ?_
  refine lv_iload_n hx hb dX1_block_1 rfl (lv_at hl 1 rfl) ?_
  refine pt_rdi (va_runV (As := [.int k]) (rest := []) ⟨hx, hb, hml, hown, hts⟩ (c_X1_hasBlock l dC dI a c F A Q nb h5 hnb k) (cwV 1 hts gX1_block_X1_hasBlock rfl rfl rfl (by decide +kernel) ⟨Nat.le_of_ble_eq_true rfl, Nat.le_of_ble_eq_true rfl⟩) (pt_pv1 hP hK hN (q0 := 0) rfl) rfl rfl hl.1 rfl (lv_room (Nat.le_of_ble_eq_true rfl)) dX1_block_2 ⟨Nat.le_of_ble_eq_true rfl, Nat.le_of_ble_eq_true rfl⟩) (fun r2 hr2 => ?_)
  refine lv_if_ne (tgt := 10) hx hb dX1_block_5 (by decide) (fun c5 => ?_) (fun c5 => ?_)
  · have d5 := hr2.t c5
    obtain ⟨b, hb2, ek, _⟩ := d5
    subst ek
    refine lv_iload_n hx hb dX1_block_10 rfl (lv_at hl 2 rfl) ?_
    by_cases cx : x < 0 ∨ nI 4 ≤ x
    · refine lv_tableOut (tgt := 82) hx hb dX1_block_11 (pt_sw_out (n := 4) (by decide) cx) (by decide) ?_
      refine lv_bipush (v := (-2)) hx hb dX1_block_82 (by decide) ?_
      exact W.iret (v := (-2)) hx hb hr (fun zt zh zW => ⟨_, rfl, (Or.inr ⟨b, hb2, rfl, Or.inr (Or.inr (Or.inr (Or.inr ⟨fun q => cx.elim (fun h => pt_in_lo h (by decide) q) (fun h => pt_in_hi h (by decide) q), rfl⟩)))⟩), zh⟩) (fun q h => by cases h) dX1_block_84
    · obtain ⟨j, hj, ej⟩ := pt_ix (n := 4) (fun q => cx (Or.inl q)) (fun q => cx (Or.inr q)) (by decide)
      subst ej
      rcases (show j = 0 ∨ j = 1 ∨ j = 2 ∨ j = 3 by omega) with rfl | rfl | rfl | rfl
      · refine lv_tableIn (tgt := 40) hx hb dX1_block_11 (by decide) (by decide) rfl (by decide) ?_
        refine lv_aload_n hx hb dX1_block_40 rfl (lv_at hl 0 rfl) ?_
        refine lv_iload_n hx hb dX1_block_41 rfl (lv_at hl 1 rfl) ?_
        refine pt_rdi (va_runV (As := [.int (nI b)]) (rest := []) ⟨hx, hb, hml, hown, hts⟩ (c_X1_isParted l dC dI a c F A Q b (by omega)) (cwV 1 hts gX1_block_X1_isParted rfl rfl rfl (by decide +kernel) ⟨Nat.le_of_ble_eq_true rfl, Nat.le_of_ble_eq_true rfl⟩) (pt_pv1 hP hK hN (q0 := 0) rfl) rfl rfl hl.1 rfl (lv_room (Nat.le_of_ble_eq_true rfl)) dX1_block_42 ⟨Nat.le_of_ble_eq_true rfl, Nat.le_of_ble_eq_true rfl⟩) (fun r42 hr42 => ?_)
        refine lv_if_eq (tgt := 52) hx hb dX1_block_45 (by decide) (fun c45 => ?_) (fun c45 => ?_)
        · have d45 := hr42.f c45
          refine lv_iconst (v := 0) hx hb dX1_block_52 (by decide) ?_
          exact W.iret (v := 0) hx hb hr (fun zt zh zW => ⟨_, rfl, (Or.inr ⟨b, hb2, rfl, Or.inl ⟨rfl, by first | exact pt_B.one d45 | exact pt_B.zero d45⟩⟩), zh⟩) (fun q h => by cases h) dX1_block_53
        · have d45 := hr42.t c45
          refine lv_iconst (v := 1) hx hb dX1_block_48 (by decide) ?_
          refine lv_goto (tgt := 53) hx hb dX1_block_49 (by decide) ?_
          exact W.iret (v := 1) hx hb hr (fun zt zh zW => ⟨_, rfl, (Or.inr ⟨b, hb2, rfl, Or.inl ⟨rfl, by first | exact pt_B.one d45 | exact pt_B.zero d45⟩⟩), zh⟩) (fun q h => by cases h) dX1_block_53
      · refine lv_tableIn (tgt := 54) hx hb dX1_block_11 (by decide) (by decide) rfl (by decide) ?_
        refine lv_aload_n hx hb dX1_block_54 rfl (lv_at hl 0 rfl) ?_
        refine va_get (D := (dC, dI)) (ci := 1) (v := .ref (a 9)) (C := RX1) (T := TX1) (N := 18) hx hb hts iw_c_X1_block_wsX10 hown hK hP 0 rfl rfl 9 (by decide) (hts _ wd_c_X1_block_X1_block_0) (fun _ h9 => h9) rfl dX1_block_55 ?_
        refine lv_iload_n hx hb dX1_block_58 rfl (lv_at hl 1 rfl) ?_
        refine pt_iald hx hb hK hP 6 4 rfl rfl b rfl (by omega) (by decide) dX1_block_59 ?_
        refine lv_aload_n hx hb dX1_block_60 rfl (lv_at hl 0 rfl) ?_
        refine va_get (D := (dC, dI)) (ci := 1) (v := .ref (a 8)) (C := RX1) (T := TX1) (N := 18) hx hb hts iw_c_X1_block_wsX10 hown hK hP 0 rfl rfl 8 (by decide) (hts _ wd_c_X1_block_X1_block_1) (fun _ h9 => h9) rfl dX1_block_61 ?_
        refine lv_iload_n hx hb dX1_block_64 rfl (lv_at hl 1 rfl) ?_
        refine pt_iald hx hb hK hP 5 3 rfl rfl b rfl (by omega) (by decide) dX1_block_65 ?_
        refine lv_isub hx hb dX1_block_66 ?_
        exact W.iret (v := ((A 9 b) - (A 8 b))) hx hb hr (fun zt zh zW => ⟨_, rfl, (Or.inr ⟨b, hb2, rfl, Or.inr (Or.inl ⟨rfl, rfl⟩)⟩), zh⟩) (fun q h => by cases h) dX1_block_67
      · refine lv_tableIn (tgt := 68) hx hb dX1_block_11 (by decide) (by decide) rfl (by decide) ?_
        refine lv_aload_n hx hb dX1_block_68 rfl (lv_at hl 0 rfl) ?_
        refine va_get (D := (dC, dI)) (ci := 1) (v := .ref (a 10)) (C := RX1) (T := TX1) (N := 18) hx hb hts iw_c_X1_block_wsX10 hown hK hP 0 rfl rfl 10 (by decide) (hts _ wd_c_X1_block_X1_block_2) (fun _ h9 => h9) rfl dX1_block_69 ?_
        refine lv_iload_n hx hb dX1_block_72 rfl (lv_at hl 1 rfl) ?_
        refine pt_iald hx hb hK hP 7 5 rfl rfl b rfl (by omega) (by decide) dX1_block_73 ?_
        exact W.iret (v := (A 10 b)) hx hb hr (fun zt zh zW => ⟨_, rfl, (Or.inr ⟨b, hb2, rfl, Or.inr (Or.inr (Or.inl ⟨rfl, rfl⟩))⟩), zh⟩) (fun q h => by cases h) dX1_block_74
      · refine lv_tableIn (tgt := 75) hx hb dX1_block_11 (by decide) (by decide) rfl (by decide) ?_
        refine lv_aload_n hx hb dX1_block_75 rfl (lv_at hl 0 rfl) ?_
        refine va_get (D := (dC, dI)) (ci := 1) (v := .ref (a 11)) (C := RX1) (T := TX1) (N := 18) hx hb hts iw_c_X1_block_wsX10 hown hK hP 0 rfl rfl 11 (by decide) (hts _ wd_c_X1_block_X1_block_3) (fun _ h9 => h9) rfl dX1_block_76 ?_
        refine lv_iload_n hx hb dX1_block_79 rfl (lv_at hl 1 rfl) ?_
        refine pt_iald hx hb hK hP 8 6 rfl rfl b rfl (by omega) (by decide) dX1_block_80 ?_
        exact W.iret (v := (A 11 b)) hx hb hr (fun zt zh zW => ⟨_, rfl, (Or.inr ⟨b, hb2, rfl, Or.inr (Or.inr (Or.inr (Or.inl ⟨rfl, rfl⟩)))⟩), zh⟩) (fun q h => by cases h) dX1_block_81
  · have d5 := hr2.f c5
    refine lv_iconst (v := (-1)) hx hb dX1_block_8 (by decide) ?_
    exact W.iret (v := (-1)) hx hb hr (fun zt zh zW => ⟨_, rfl, (Or.inl ⟨d5, rfl⟩), zh⟩) (fun q h => by cases h) dX1_block_9

theorem wd_c_X1_found_X1_found_0 : Cond.fieldLink RX1 114 "PointTrees" "foundCount" "I" ∈ wsX1_found := by decide +kernel
theorem wd_c_X1_found_X1_found_1 : Cond.fieldLink RX1 50 "PointTrees" "isFound" "[Z" ∈ wsX1_found := by decide +kernel
theorem iw_c_X1_found_wsX10 : ∀ w ∈ wsX10, w ∈ wsX1_found := fun _ h => List.mem_cons_of_mem _ (List.mem_append_right _ h)
set_option maxHeartbeats 4000000 in
set_option maxRecDepth 100000 in
theorem c_X1_found (l : Launch) (dC : Nat → ClassId) (dI : Nat → Nat → Nat) (a : Nat → Nat) (c : Nat → ClassId) (F : Nat → Int32) (A : Nat → Nat → Int32) (Q : Nat → Int64) (fc : Nat) (h15 : F 15 = nI fc) (hfc : fc < 2 ^ 31) (hle : pt_cnt (fun t => ¬ A 14 t = 0) 64 ≤ fc) (k : Int32) : Met l yX1_found wsX1_found (pt_rm 0) (pt_R (dC, dI) vwCl (pt_xt c) (pt_xw a c F A Q) pt_nw [.ref (a 0), .int k]) (vp_Si (fun r => pt_kth (fun t => ¬ A 14 t = 0) 64 k r)) 0 0 (fun _ => False) := by
  refine Met.ofW (cc := cX1_found) (maxL := 4) (ret := (some .int)) (by decide) rfl ?_
  intro p e s m args below meth cd s₁ B hml hv
  obtain ⟨rfl, hP, hK, hN⟩ := hv
  have hx := B.exec
  have hb := B.bytes
  have hr := B.returns
  have hts := atoms_spec (ws := wsX1_found) B.pre
  have hown : s.vm.findClass RX1 = some m.cls := findClass_of_methodNamed B.named
  have hlocks := B.notSynchronized
  have hl := lv_entry ([.ref (a 0), .int k]) (n := 4) (Nat.le_of_ble_eq_true rfl)
  rw [lg_entry_eq]
  generalize (lg_sl ([.ref (a 0), .int k]) ++ List.replicate (4 - (lg_sl ([.ref (a 0), .int k])).length) Slot.unset).toArray = ls at hl ⊢
  have hl : lv_has ls 4 [(0, .ref (a 0)), (1, .int k)] := hl
  refine lv_iload_n hx hb dX1_found_0 rfl (lv_at hl 1 rfl) ?_
  refine lv_if_lt (tgt := 12) hx hb dX1_found_1 (by decide) (fun c1 => ?_) (fun c1 => ?_)
  · refine lv_iconst (v := (-1)) hx hb dX1_found_12 (by decide) ?_
    exact W.iret (v := (-1)) hx hb hr (fun zt zh zW => ⟨_, rfl, (Or.inr ⟨fun j2 t e hj2 ht hp q => by first | exact absurd (show nI j2 < 0 by rw [← e]; exact c1) (nI_pos hj2) | (have h1 := pt_cnt_t (p := (fun t => ¬ A 14 t = 0)) (n := t) hp; have h2 := pt_cnt_mono (p := (fun t => ¬ A 14 t = 0)) (m := t + 1) 64 ht; have h3 : j2 < fc := (by omega); exact c9 (by rw [e]; exact nI_lt h3 hfc)), rfl⟩), zh⟩) (fun q h => by cases h) dX1_found_13
  · refine lv_iload_n hx hb dX1_found_4 rfl (lv_at hl 1 rfl) ?_
    refine lv_aload_n hx hb dX1_found_5 rfl (lv_at hl 0 rfl) ?_
    refine va_get (D := (dC, dI)) (ci := 1) (v := .int (F 15)) (C := RX1) (T := TX1) (N := 18) hx hb hts iw_c_X1_found_wsX10 hown hK hP 0 rfl rfl 15 (by decide) (hts _ wd_c_X1_found_X1_found_0) (fun _ h9 => h9) rfl dX1_found_6 ?_
    refine pt_top (y := nI fc) h15 ?_
    refine lv_icmp_lt (tgt := 14) hx hb dX1_found_9 (by decide) (fun c9 => ?_) (fun c9 => ?_)
    · obtain ⟨j, hj, ek⟩ := pt_ix c1 (Int32.not_le.mpr c9) hfc
      subst ek
      refine lv_iconst (v := nI 0) hx hb dX1_found_14 (by decide) ?_
      refine lv_istore_n (lv' := [(2, .int (nI 0)), (0, .ref (a 0)), (1, .int (nI j))]) hx hb dX1_found_15 rfl hl (by decide) rfl (fun ls hl => ?_)
      refine lv_iconst (v := nI 0) hx hb dX1_found_16 (by decide) ?_
      refine lv_istore_n (lv' := [(3, .int (nI 0)), (2, .int (nI 0)), (0, .ref (a 0)), (1, .int (nI j))]) hx hb dX1_found_17 rfl hl (by decide) rfl (fun ls hl => ?_)
      refine pt_loopR (fun i : Nat => 64 - i) (fun i ls => i ≤ 64 ∧ (∀ u, u < i → ¬ A 14 u = 0 → ¬ pt_cnt (fun t => ¬ A 14 t = 0) u = j) ∧ lv_has ls 4 [(3, .int (nI i)), (2, .int (nI (pt_cnt (fun t => ¬ A 14 t = 0) i))), (0, .ref (a 0)), (1, .int (nI j))]) ?_ 0 _ ⟨Nat.zero_le _, fun u hu => absurd hu (Nat.not_lt_zero _), hl⟩
      intro i ls ⟨hi, hno, hl⟩ ih
      refine lv_iload_n hx hb dX1_found_18 rfl (lv_at hl 0 rfl) ?_
      refine lv_bipush (v := nI 64) hx hb dX1_found_19 (by decide) ?_
      refine lv_icmp_ge (tgt := 49) hx hb dX1_found_21 (by decide) (fun c21 => ?_) (fun c21 => ?_)
      · have hie : i = 64 := by have := (nI_leI (by omega) (by omega)).mp c21; omega
        subst hie
        refine lv_iconst (v := (-1)) hx hb dX1_found_49 (by decide) ?_
        exact W.iret (v := (-1)) hx hb hr (fun zt zh zW => ⟨_, rfl, (Or.inr ⟨fun j2 t e hj2 ht hp q => hno t ht hp (by rw [q]; exact ((nI_eq (by omega) hj2).mp e).symm), rfl⟩), zh⟩) (fun q h => by cases h) dX1_found_50
      · have hlt : i < 64 := Nat.not_le.mp (fun q => c21 ((nI_leI (by omega) (by omega)).mpr q))
        refine lv_aload_n hx hb dX1_found_24 rfl (lv_at hl 2 rfl) ?_
        refine va_get (D := (dC, dI)) (ci := 1) (v := .ref (a 14)) (C := RX1) (T := TX1) (N := 18) hx hb hts iw_c_X1_found_wsX10 hown hK hP 0 rfl rfl 14 (by decide) (hts _ wd_c_X1_found_X1_found_1) (fun _ h9 => h9) rfl dX1_found_25 ?_
        refine lv_iload_n hx hb dX1_found_28 rfl (lv_at hl 0 rfl) ?_
        refine pt_zald hx hb hK hP 13 9 rfl rfl i rfl (by omega) (by decide) dX1_found_29 ?_
        refine lv_if_eq (tgt := 43) hx hb dX1_found_30 (by decide) (fun c30 => ?_) (fun c30 => ?_)
        · have d30 : A 14 i = 0 := c30
          refine lv_iinc (v := nI (i + 1)) (lv' := [(3, .int (nI (i + 1))), (2, .int (nI (pt_cnt (fun t => ¬ A 14 t = 0) i))), (0, .ref (a 0)), (1, .int (nI j))]) hx hb dX1_found_43 hl (k := 0) rfl (nI_1 _) (by decide) rfl (fun ls hl => ?_)
          refine lv_goto (tgt := 18) hx hb dX1_found_46 (by decide) ?_
          have ec := pt_cnt_f (p := (fun t => ¬ A 14 t = 0)) (n := i) (fun q => q d30)
          exact ih (i + 1) _ ⟨by omega, fun u hu h => (Nat.lt_succ_iff_lt_or_eq.mp hu).elim (fun q => hno u q h) (fun q => by subst q; exact absurd d30 h), by rw [ec]; exact lv_sub hl [0, 1, 2, 3] rfl⟩ (by omega)
        · have d30 : ¬ A 14 i = 0 := c30
          refine lv_iload_n hx hb dX1_found_33 rfl (lv_at hl 1 rfl) ?_
          refine lv_iload_n hx hb dX1_found_34 rfl (lv_at hl 3 rfl) ?_
          refine lv_icmp_ne (tgt := 40) hx hb dX1_found_35 (by decide) (fun c35 => ?_) (fun c35 => ?_)
          · have d35 : ¬ pt_cnt (fun t => ¬ A 14 t = 0) i = j := fun q => c35 (by rw [q])
            refine lv_iinc (v := nI ((pt_cnt (fun t => ¬ A 14 t = 0) i) + 1)) (lv' := [(2, .int (nI ((pt_cnt (fun t => ¬ A 14 t = 0) i) + 1))), (3, .int (nI i)), (0, .ref (a 0)), (1, .int (nI j))]) hx hb dX1_found_40 hl (k := 1) rfl (nI_1 _) (by decide) rfl (fun ls hl => ?_)
            refine lv_iinc (v := nI (i + 1)) (lv' := [(3, .int (nI (i + 1))), (2, .int (nI ((pt_cnt (fun t => ¬ A 14 t = 0) i) + 1))), (0, .ref (a 0)), (1, .int (nI j))]) hx hb dX1_found_43 hl (k := 1) rfl (nI_1 _) (by decide) rfl (fun ls hl => ?_)
            refine lv_goto (tgt := 18) hx hb dX1_found_46 (by decide) ?_
            have ec := pt_cnt_t (p := (fun t => ¬ A 14 t = 0)) (n := i) d30
            exact ih (i + 1) _ ⟨by omega, fun u hu h => (Nat.lt_succ_iff_lt_or_eq.mp hu).elim (fun q => hno u q h) (fun q => by subst q; exact d35), by rw [ec]; exact lv_sub hl [0, 1, 2, 3] rfl⟩ (by omega)
          · have hcl := pt_cnt_le (fun t => ¬ A 14 t = 0) i
            have d35 : pt_cnt (fun t => ¬ A 14 t = 0) i = j := (nI_eq (by omega) (by omega)).mp c35
            refine lv_iload_n hx hb dX1_found_38 rfl (lv_at hl 0 rfl) ?_
            exact W.iret (v := nI i) hx hb hr (fun zt zh zW => ⟨_, rfl, (Or.inl ⟨j, i, rfl, by omega, hlt, d30, d35, rfl⟩), zh⟩) (fun q h => by cases h) dX1_found_39
    · refine lv_iconst (v := (-1)) hx hb dX1_found_12 (by decide) ?_
      exact W.iret (v := (-1)) hx hb hr (fun zt zh zW => ⟨_, rfl, (Or.inr ⟨fun j2 t e hj2 ht hp q => by first | exact absurd (show nI j2 < 0 by rw [← e]; exact c1) (nI_pos hj2) | (have h1 := pt_cnt_t (p := (fun t => ¬ A 14 t = 0)) (n := t) hp; have h2 := pt_cnt_mono (p := (fun t => ¬ A 14 t = 0)) (m := t + 1) 64 ht; have h3 : j2 < fc := (by omega); exact c9 (by rw [e]; exact nI_lt h3 hfc)), rfl⟩), zh⟩) (fun q h => by cases h) dX1_found_13

theorem wd_c_X1_distance_X1_distance_0 : Cond.constantLong RX1 91 (-9223372036854775808) ∈ wsX1_distance := by decide +kernel
theorem wd_c_X1_distance_X1_distance_1 : Cond.fieldLink RX1 24 "PointTrees" "things" "LPointTrees$Boxes;" ∈ wsX1_distance := by decide +kernel
theorem wd_c_X1_distance_X1_distance_2 : Cond.fieldLink RX1 9 "PointTrees" "axes" "I" ∈ wsX1_distance := by decide +kernel
theorem wd_c_X1_distance_X1_distance_3 : Cond.initialized RX0 ∈ wsX1_distance := by decide +kernel
theorem wd_c_X1_distance_X1_distance_4 : Cond.instanceMethod yX0_squareTo ∈ wsX1_distance := by decide +kernel
theorem wd_c_X1_distance_X1_distance_5 : Cond.selects RX0 yX0_squareTo yX0_squareTo ∈ wsX1_distance := by decide +kernel
theorem iw_c_X1_distance_wsX10 : ∀ w ∈ wsX10, w ∈ wsX1_distance := fun _ h => List.mem_cons_of_mem _ (List.mem_append_left _ (List.mem_append_right _ h))
theorem iw_c_X1_distance_wsX00 : ∀ w ∈ wsX00, w ∈ wsX1_distance := fun _ h => List.mem_cons_of_mem _ (List.mem_append_right _ h)
set_option maxHeartbeats 4000000 in
set_option maxRecDepth 100000 in
theorem c_X1_distance (l : Launch) (dC : Nat → ClassId) (dI : Nat → Nat → Nat) (a : Nat → Nat) (c : Nat → ClassId) (F : Nat → Int32) (A : Nat → Nat → Int32) (Q : Nat → Int64) (ax : Nat) (h0 : F 0 = nI ax) (hax : ax ≤ 3) (md : Nat) (h1 : F 1 = nI md) (hmd : md ≤ 64) (k x y z : Int32) : Met l yX1_distance wsX1_distance (pt_rm 3) (pt_R (dC, dI) vwCl (pt_xt c) (pt_xw a c F A Q) pt_nw [.ref (a 0), .int k, .int x, .int y, .int z]) (vp_Sl (fun r => (∃ t, t < md ∧ k = nI t ∧ ¬ A 3 t = 0 ∧ pt_box ax x x y y z z ∧ r = pt_sqt ax (fun q => A 4 (t * 6 + q * 2 + 0)) (fun q => A 4 (t * 6 + q * 2 + 1)) x y z) ∨ (¬ (pt_in md (fun t => ¬ A 3 t = 0) k ∧ pt_box ax x x y y z z) ∧ r = -9223372036854775808))) 0 0 (fun _ => False) := by
  refine Met.ofW (cc := cX1_distance) (maxL := 5) (ret := (some .long)) (by decide) rfl ?_
  intro p e s m args below meth cd s₁ B hml hv
  obtain ⟨rfl, hP, hK, hN⟩ := hv
  have hx := B.exec
  have hb := B.bytes
  have hr := B.returns
  have hts := atoms_spec (ws := wsX1_distance) B.pre
  have hown : s.vm.findClass RX1 = some m.cls := findClass_of_methodNamed B.named
  have hlocks := B.notSynchronized
  have hl := lv_entry ([.ref (a 0), .int k, .int x, .int y, .int z]) (n := 5) (Nat.le_of_ble_eq_true rfl)
  rw [lg_entry_eq]
  generalize (lg_sl ([.ref (a 0), .int k, .int x, .int y, .int z]) ++ List.replicate (5 - (lg_sl ([.ref (a 0), .int k, .int x, .int y, .int z])).length) Slot.unset).toArray = ls at hl ⊢
  have hl : lv_has ls 5 [(0, .ref (a 0)), (1, .int k), (2, .int x), (3, .int y), (4, .int z)] := hl
  refine lv_aload_n hx hb dX1_distance_0 rfl (lv_at hl 0 rfl) ?_
  refine lv_iload_n hx hb dX1_distance_1 rfl (lv_at hl 1 rfl) ?_
  refine pt_rdi (va_runV (As := [.int k]) (rest := []) ⟨hx, hb, hml, hown, hts⟩ (c_X1_hasThing l dC dI a c F A Q md h1 hmd k) (cwV 1 hts gX1_distance_X1_hasThing rfl rfl rfl (by decide +kernel) ⟨Nat.le_of_ble_eq_true rfl, Nat.le_of_ble_eq_true rfl⟩) (pt_pv1 hP hK hN (q0 := 0) rfl) rfl rfl hl.1 rfl (lv_room (Nat.le_of_ble_eq_true rfl)) dX1_distance_2 ⟨Nat.le_of_ble_eq_true rfl, Nat.le_of_ble_eq_true rfl⟩) (fun r2 hr2 => ?_)
  refine lv_if_eq (tgt := 19) hx hb dX1_distance_5 (by decide) (fun c5 => ?_) (fun c5 => ?_)
  · have d5 := hr2.f c5
    refine lv_ldc2 (v := -9223372036854775808) hx hb hown (hts _ wd_c_X1_distance_X1_distance_0) dX1_distance_19 ?_
    exact W.lret (v := (-9223372036854775808 : Int64)) hx hb hr (fun zt zh zW => ⟨_, rfl, (Or.inr ⟨fun q => by first | exact d16 q.2 | exact d5 q.1, rfl⟩), zh⟩) (fun q h => by cases h) dX1_distance_22
  · have d5 := hr2.t c5
    refine lv_aload_n hx hb dX1_distance_8 rfl (lv_at hl 0 rfl) ?_
    refine lv_iload_n hx hb dX1_distance_9 rfl (lv_at hl 2 rfl) ?_
    refine lv_iload_n hx hb dX1_distance_10 rfl (lv_at hl 3 rfl) ?_
    refine lv_iload hx hb dX1_distance_11 (lv_at hl 4 rfl) ?_
    refine pt_rdi (va_runV (As := [.int x, .int y, .int z]) (rest := []) ⟨hx, hb, hml, hown, hts⟩ (c_X1_isPlace l dC dI a c F A Q ax h0 hax x y z) (cwV 3 hts gX1_distance_X1_isPlace rfl rfl rfl (by decide +kernel) ⟨Nat.le_of_ble_eq_true rfl, Nat.le_of_ble_eq_true rfl⟩) (pt_pv1 hP hK hN (q0 := 0) rfl) rfl rfl hl.1 rfl (lv_room (Nat.le_of_ble_eq_true rfl)) dX1_distance_13 ⟨Nat.le_of_ble_eq_true rfl, Nat.le_of_ble_eq_true rfl⟩) (fun r13 hr13 => ?_)
    refine lv_if_ne (tgt := 23) hx hb dX1_distance_16 (by decide) (fun c16 => ?_) (fun c16 => ?_)
    · have d16 := hr13.t c16
      obtain ⟨t, ht, ek, hT⟩ := d5
      subst ek
      refine lv_aload_n hx hb dX1_distance_23 rfl (lv_at hl 0 rfl) ?_
      refine va_get (D := (dC, dI)) (ci := 1) (v := .ref (a 4)) (C := RX1) (T := TX1) (N := 18) hx hb hts iw_c_X1_distance_wsX10 hown hK hP 0 rfl rfl 4 (by decide) (hts _ wd_c_X1_distance_X1_distance_1) (fun _ h9 => h9) rfl dX1_distance_24 ?_
      refine lv_iload_n hx hb dX1_distance_27 rfl (lv_at hl 1 rfl) ?_
      refine lv_aload_n hx hb dX1_distance_28 rfl (lv_at hl 0 rfl) ?_
      refine va_get (D := (dC, dI)) (ci := 1) (v := .int (F 0)) (C := RX1) (T := TX1) (N := 18) hx hb hts iw_c_X1_distance_wsX10 hown hK hP 0 rfl rfl 0 (by decide) (hts _ wd_c_X1_distance_X1_distance_2) (fun _ h9 => h9) rfl dX1_distance_29 ?_
      refine pt_top (y := nI ax) h0 ?_
      refine lv_iload_n hx hb dX1_distance_32 rfl (lv_at hl 2 rfl) ?_
      refine lv_iload_n hx hb dX1_distance_33 rfl (lv_at hl 3 rfl) ?_
      refine lv_iload hx hb dX1_distance_34 (lv_at hl 4 rfl) ?_
      refine pt_rdl (va_runVN (As := [.int (nI t), .int (nI ax), .int x, .int y, .int z]) (rest := []) ⟨hx, hb, hml, hown, hts⟩ (c_X0_squareTo l dC dI (pt_xt c) (pt_xw a c F A Q) 2 3 1 (a 4) (a 24) (c 4) 384 (A 4) rfl rfl rfl (by decide) t ax x y z (by omega) hax) ⟨va_cnB 5 hts gX1_distance_X0_squareTo_n121 rfl rfl rfl (pt_nest hN 8 rfl) (hts _ wd_c_X1_distance_X1_distance_3) (by decide +kernel) ⟨Nat.le_of_ble_eq_true rfl, Nat.le_of_ble_eq_true rfl⟩, (hts _ wd_c_X1_distance_X1_distance_4), (hts _ wd_c_X1_distance_X1_distance_5)⟩ (pt_pv0 hP hK hN (q0 := 2) rfl) rfl rfl hl.1 rfl (lv_room (Nat.le_of_ble_eq_true rfl)) dX1_distance_36 ⟨Nat.le_of_ble_eq_true rfl, Nat.le_of_ble_eq_true rfl⟩) (fun r36 hr36 => ?_)
      refine pt_topl (y := (pt_sqt ax (fun q => A 4 (t * 6 + q * 2 + 0)) (fun q => A 4 (t * 6 + q * 2 + 1)) x y z)) hr36 ?_
      exact W.lret (v := (pt_sqt ax (fun q => A 4 (t * 6 + q * 2 + 0)) (fun q => A 4 (t * 6 + q * 2 + 1)) x y z)) hx hb hr (fun zt zh zW => ⟨_, rfl, (Or.inl ⟨t, ht, rfl, hT, d16, rfl⟩), zh⟩) (fun q h => by cases h) dX1_distance_39
    · have d16 := hr13.f c16
      refine lv_ldc2 (v := -9223372036854775808) hx hb hown (hts _ wd_c_X1_distance_X1_distance_0) dX1_distance_19 ?_
      exact W.lret (v := (-9223372036854775808 : Int64)) hx hb hr (fun zt zh zW => ⟨_, rfl, (Or.inr ⟨fun q => by first | exact d16 q.2 | exact d5 q.1, rfl⟩), zh⟩) (fun q h => by cases h) dX1_distance_22

/-- do the boxes t of T and u of U meet -/
def pt_mee (ax : Nat) (T U : Nat → Int32) (t u : Nat) : Prop := ∀ a, a < ax → T (t * 6 + a * 2 + 0) ≤ U (u * 6 + a * 2 + 1) ∧ U (u * 6 + a * 2 + 0) ≤ T (t * 6 + a * 2 + 1)
def pt_wn (ax : Nat) (T U : Nat → Int32) (t u : Nat) : Prop := ∀ a, a < ax → U (u * 6 + a * 2 + 0) ≤ T (t * 6 + a * 2 + 0) ∧ T (t * 6 + a * 2 + 1) ≤ U (u * 6 + a * 2 + 1)

theorem wd_c_X1_pairs_X1_pairs_0 : Cond.fieldLink RX1 60 "PointTrees" "made" "I" ∈ wsX1_pairs := by decide +kernel
theorem wd_c_X1_pairs_X1_pairs_1 : Cond.fieldLink RX1 15 "PointTrees" "isThere" "[Z" ∈ wsX1_pairs := by decide +kernel
theorem wd_c_X1_pairs_X1_pairs_2 : Cond.fieldLink RX1 24 "PointTrees" "things" "LPointTrees$Boxes;" ∈ wsX1_pairs := by decide +kernel
theorem wd_c_X1_pairs_X1_pairs_3 : Cond.fieldLink RX1 9 "PointTrees" "axes" "I" ∈ wsX1_pairs := by decide +kernel
theorem wd_c_X1_pairs_X1_pairs_4 : Cond.initialized RX0 ∈ wsX1_pairs := by decide +kernel
theorem wd_c_X1_pairs_X1_pairs_5 : Cond.static yX0_meet ∈ wsX1_pairs := by decide +kernel
theorem iw_c_X1_pairs_wsX10 : ∀ w ∈ wsX10, w ∈ wsX1_pairs := fun _ h => List.mem_cons_of_mem _ (List.mem_append_left _ (List.mem_append_right _ h))
theorem iw_c_X1_pairs_wsX00 : ∀ w ∈ wsX00, w ∈ wsX1_pairs := fun _ h => List.mem_cons_of_mem _ (List.mem_append_right _ h)
set_option maxHeartbeats 4000000 in
set_option maxRecDepth 100000 in
theorem c_X1_pairs (l : Launch) (dC : Nat → ClassId) (dI : Nat → Nat → Nat) (a : Nat → Nat) (c : Nat → ClassId) (F : Nat → Int32) (A : Nat → Nat → Int32) (Q : Nat → Int64) (ax : Nat) (h0 : F 0 = nI ax) (hax : ax ≤ 3) (md : Nat) (h1 : F 1 = nI md) (hmd : md ≤ 64) : Met l yX1_pairs wsX1_pairs (pt_rm 2) (pt_R (dC, dI) vwCl (pt_xt c) (pt_xw a c F A Q) pt_nw [.ref (a 0)]) (vp_Si (fun r => r = nI (pt_sum (fun t => pt_cnt (fun v => t + 1 ≤ v ∧ (¬ A 3 t = 0 ∧ ¬ A 3 v = 0 ∧ pt_mee ax (A 4) (A 4) t v)) md) md))) 0 0 (fun _ => False) := by
  refine Met.ofW (cc := cX1_pairs) (maxL := 4) (ret := (some .int)) (by decide) rfl ?_
  intro p e s m args below meth cd s₁ B hml hv
  obtain ⟨rfl, hP, hK, hN⟩ := hv
  have hx := B.exec
  have hb := B.bytes
  have hr := B.returns
  have hts := atoms_spec (ws := wsX1_pairs) B.pre
  have hown : s.vm.findClass RX1 = some m.cls := findClass_of_methodNamed B.named
  have hlocks := B.notSynchronized
  have hl := lv_entry ([.ref (a 0)]) (n := 4) (Nat.le_of_ble_eq_true rfl)
  rw [lg_entry_eq]
  generalize (lg_sl ([.ref (a 0)]) ++ List.replicate (4 - (lg_sl ([.ref (a 0)])).length) Slot.unset).toArray = ls at hl ⊢
  have hl : lv_has ls 4 [(0, .ref (a 0))] := hl
  refine lv_iconst (v := nI 0) hx hb dX1_pairs_0 (by decide) ?_
  refine lv_istore_n (lv' := [(1, .int (nI 0)), (0, .ref (a 0))]) hx hb dX1_pairs_1 rfl hl (by decide) rfl (fun ls hl => ?_)
  refine lv_iconst (v := nI 0) hx hb dX1_pairs_2 (by decide) ?_
  refine lv_istore_n (lv' := [(2, .int (nI 0)), (1, .int (nI 0)), (0, .ref (a 0))]) hx hb dX1_pairs_3 rfl hl (by decide) rfl (fun ls hl => ?_)
  refine pt_loopR (fun i : Nat => md - i) (fun i ls => i ≤ md ∧ lv_has ls 4 [(2, .int (nI i)), (1, .int (nI (pt_sum (fun t => pt_cnt (fun v => t + 1 ≤ v ∧ (¬ A 3 t = 0 ∧ ¬ A 3 v = 0 ∧ pt_mee ax (A 4) (A 4) t v)) md) i))), (0, .ref (a 0))]) ?_ 0 _ ⟨Nat.zero_le _, hl⟩
  intro i ls ⟨hi, hl⟩ ih
  refine lv_iload_n hx hb dX1_pairs_4 rfl (lv_at hl 0 rfl) ?_
  refine lv_aload_n hx hb dX1_pairs_5 rfl (lv_at hl 2 rfl) ?_
  refine va_get (D := (dC, dI)) (ci := 1) (v := .int (F 1)) (C := RX1) (T := TX1) (N := 18) hx hb hts iw_c_X1_pairs_wsX10 hown hK hP 0 rfl rfl 1 (by decide) (hts _ wd_c_X1_pairs_X1_pairs_0) (fun _ h9 => h9) rfl dX1_pairs_6 ?_
  refine pt_top (y := nI md) h1 ?_
  refine lv_icmp_ge (tgt := 77) hx hb dX1_pairs_9 (by decide) (fun c9 => ?_) (fun c9 => ?_)
  · have hie : i = md := by have := (nI_leI (by omega) (by omega)).mp c9; omega
    refine lv_iload_n hx hb dX1_pairs_77 rfl (lv_at hl 1 rfl) ?_
    exact W.iret (v := nI (pt_sum (fun t => pt_cnt (fun v => t + 1 ≤ v ∧ (¬ A 3 t = 0 ∧ ¬ A 3 v = 0 ∧ pt_mee ax (A 4) (A 4) t v)) md) i)) hx hb hr (fun zt zh zW => ⟨_, rfl, (by rw [← hie]), zh⟩) (fun q h => by cases h) dX1_pairs_78
  · have hlt : i < md := Nat.not_le.mp (fun q => c9 ((nI_leI (by omega) (by omega)).mpr q))
    refine lv_iload_n hx hb dX1_pairs_12 rfl (lv_at hl 0 rfl) ?_
    refine lv_iconst (v := nI 1) hx hb dX1_pairs_13 (by decide) ?_
    refine lv_iadd hx hb dX1_pairs_14 ?_
    refine pt_top (y := nI (i + 1)) (nI_add _ _) ?_
    refine lv_istore_n (lv' := [(3, .int (nI (i + 1))), (2, .int (nI i)), (1, .int (nI (pt_sum (fun t => pt_cnt (fun v => t + 1 ≤ v ∧ (¬ A 3 t = 0 ∧ ¬ A 3 v = 0 ∧ pt_mee ax (A 4) (A 4) t v)) md) i))), (0, .ref (a 0))]) hx hb dX1_pairs_15 rfl hl (by decide) rfl (fun ls hl => ?_)
    have e0 : pt_sum (fun t => pt_cnt (fun v => t + 1 ≤ v ∧ (¬ A 3 t = 0 ∧ ¬ A 3 v = 0 ∧ pt_mee ax (A 4) (A 4) t v)) md) i = pt_sum (fun t => pt_cnt (fun v => t + 1 ≤ v ∧ (¬ A 3 t = 0 ∧ ¬ A 3 v = 0 ∧ pt_mee ax (A 4) (A 4) t v)) md) i + pt_cnt (fun v => i + 1 ≤ v ∧ (¬ A 3 i = 0 ∧ ¬ A 3 v = 0 ∧ pt_mee ax (A 4) (A 4) i v)) (i + 1) := by rw [pt_cnt_none (i + 1) (fun v hv q => by have := q.1; omega)]; rfl
    rw [e0] at hl
    refine pt_loopR (fun j : Nat => md - j) (fun j ls => i + 1 ≤ j ∧ j ≤ md ∧ lv_has ls 4 [(3, .int (nI j)), (2, .int (nI i)), (1, .int (nI (pt_sum (fun t => pt_cnt (fun v => t + 1 ≤ v ∧ (¬ A 3 t = 0 ∧ ¬ A 3 v = 0 ∧ pt_mee ax (A 4) (A 4) t v)) md) i + pt_cnt (fun v => i + 1 ≤ v ∧ (¬ A 3 i = 0 ∧ ¬ A 3 v = 0 ∧ pt_mee ax (A 4) (A 4) i v)) j))), (0, .ref (a 0))]) ?_ (i + 1) _ ⟨Nat.le_refl _, by omega, hl⟩
    intro j ls ⟨hj0, hj, hl⟩ ihj
    refine lv_iload_n hx hb dX1_pairs_16 rfl (lv_at hl 0 rfl) ?_
    refine lv_aload_n hx hb dX1_pairs_17 rfl (lv_at hl 3 rfl) ?_
    refine va_get (D := (dC, dI)) (ci := 1) (v := .int (F 1)) (C := RX1) (T := TX1) (N := 18) hx hb hts iw_c_X1_pairs_wsX10 hown hK hP 0 rfl rfl 1 (by decide) (hts _ wd_c_X1_pairs_X1_pairs_0) (fun _ h9 => h9) rfl dX1_pairs_18 ?_
    refine pt_top (y := nI md) h1 ?_
    refine lv_icmp_ge (tgt := 71) hx hb dX1_pairs_21 (by decide) (fun c21 => ?_) (fun c21 => ?_)
    · have hje : j = md := by have := (nI_leI (by omega) (by omega)).mp c21; omega
      rw [hje] at hl
      have hl : lv_has ls 4 [(3, .int (nI md)), (2, .int (nI i)), (1, .int (nI (pt_sum (fun t => pt_cnt (fun v => t + 1 ≤ v ∧ (¬ A 3 t = 0 ∧ ¬ A 3 v = 0 ∧ pt_mee ax (A 4) (A 4) t v)) md) (i + 1)))), (0, .ref (a 0))] := hl
      refine lv_iinc (v := nI (i + 1)) (lv' := [(2, .int (nI (i + 1))), (3, .int (nI md)), (1, .int (nI (pt_sum (fun t => pt_cnt (fun v => t + 1 ≤ v ∧ (¬ A 3 t = 0 ∧ ¬ A 3 v = 0 ∧ pt_mee ax (A 4) (A 4) t v)) md) (i + 1)))), (0, .ref (a 0))]) hx hb dX1_pairs_71 hl (k := 1) rfl (nI_1 _) (by decide) rfl (fun ls hl => ?_)
      refine lv_goto (tgt := 4) hx hb dX1_pairs_74 (by decide) ?_
      exact ih (i + 1) _ ⟨by omega, lv_sub hl [0, 2, 3] rfl⟩ (by omega)
    · have hjl : j < md := Nat.not_le.mp (fun q => c21 ((nI_leI (by omega) (by omega)).mpr q))
      refine lv_aload_n hx hb dX1_pairs_24 rfl (lv_at hl 3 rfl) ?_
      refine va_get (D := (dC, dI)) (ci := 1) (v := .ref (a 3)) (C := RX1) (T := TX1) (N := 18) hx hb hts iw_c_X1_pairs_wsX10 hown hK hP 0 rfl rfl 3 (by decide) (hts _ wd_c_X1_pairs_X1_pairs_1) (fun _ h9 => h9) rfl dX1_pairs_25 ?_
      refine lv_iload_n hx hb dX1_pairs_28 rfl (lv_at hl 1 rfl) ?_
      refine pt_zald hx hb hK hP 1 0 rfl rfl i rfl (by omega) (by decide) dX1_pairs_29 ?_
      refine lv_if_eq (tgt := 65) hx hb dX1_pairs_30 (by decide) (fun c30 => ?_) (fun c30 => ?_)
      · have d30 : A 3 i = 0 := c30
        refine lv_iinc (v := nI (j + 1)) (lv' := [(3, .int (nI (j + 1))), (2, .int (nI i)), (1, .int (nI (pt_sum (fun t => pt_cnt (fun v => t + 1 ≤ v ∧ (¬ A 3 t = 0 ∧ ¬ A 3 v = 0 ∧ pt_mee ax (A 4) (A 4) t v)) md) i + pt_cnt (fun v => i + 1 ≤ v ∧ (¬ A 3 i = 0 ∧ ¬ A 3 v = 0 ∧ pt_mee ax (A 4) (A 4) i v)) j))), (0, .ref (a 0))]) hx hb dX1_pairs_65 hl (k := 0) rfl (nI_1 _) (by decide) rfl (fun ls hl => ?_)
        refine lv_goto (tgt := 16) hx hb dX1_pairs_68 (by decide) ?_
        have ec := pt_cnt_f (p := (fun v => i + 1 ≤ v ∧ (¬ A 3 i = 0 ∧ ¬ A 3 v = 0 ∧ pt_mee ax (A 4) (A 4) i v))) (n := j) (fun q => by first | exact hr56.f c59 q.2.2.2 | exact q.2.2.1 d39 | exact q.2.1 d30)
        exact ihj (j + 1) _ ⟨by omega, by omega, by rw [ec]; exact lv_sub hl [0, 1, 2, 3] rfl⟩ (by omega)
      · have d30 : ¬ A 3 i = 0 := c30
        refine lv_aload_n hx hb dX1_pairs_33 rfl (lv_at hl 3 rfl) ?_
        refine va_get (D := (dC, dI)) (ci := 1) (v := .ref (a 3)) (C := RX1) (T := TX1) (N := 18) hx hb hts iw_c_X1_pairs_wsX10 hown hK hP 0 rfl rfl 3 (by decide) (hts _ wd_c_X1_pairs_X1_pairs_1) (fun _ h9 => h9) rfl dX1_pairs_34 ?_
        refine lv_iload_n hx hb dX1_pairs_37 rfl (lv_at hl 0 rfl) ?_
        refine pt_zald hx hb hK hP 1 0 rfl rfl j rfl (by omega) (by decide) dX1_pairs_38 ?_
        refine lv_if_eq (tgt := 65) hx hb dX1_pairs_39 (by decide) (fun c39 => ?_) (fun c39 => ?_)
        · have d39 : A 3 j = 0 := c39
          refine lv_iinc (v := nI (j + 1)) (lv' := [(3, .int (nI (j + 1))), (2, .int (nI i)), (1, .int (nI (pt_sum (fun t => pt_cnt (fun v => t + 1 ≤ v ∧ (¬ A 3 t = 0 ∧ ¬ A 3 v = 0 ∧ pt_mee ax (A 4) (A 4) t v)) md) i + pt_cnt (fun v => i + 1 ≤ v ∧ (¬ A 3 i = 0 ∧ ¬ A 3 v = 0 ∧ pt_mee ax (A 4) (A 4) i v)) j))), (0, .ref (a 0))]) hx hb dX1_pairs_65 hl (k := 0) rfl (nI_1 _) (by decide) rfl (fun ls hl => ?_)
          refine lv_goto (tgt := 16) hx hb dX1_pairs_68 (by decide) ?_
          have ec := pt_cnt_f (p := (fun v => i + 1 ≤ v ∧ (¬ A 3 i = 0 ∧ ¬ A 3 v = 0 ∧ pt_mee ax (A 4) (A 4) i v))) (n := j) (fun q => by first | exact hr56.f c59 q.2.2.2 | exact q.2.2.1 d39 | exact q.2.1 d30)
          exact ihj (j + 1) _ ⟨by omega, by omega, by rw [ec]; exact lv_sub hl [0, 1, 2, 3] rfl⟩ (by omega)
        · have d39 : ¬ A 3 j = 0 := c39
          refine lv_aload_n hx hb dX1_pairs_42 rfl (lv_at hl 3 rfl) ?_
          refine va_get (D := (dC, dI)) (ci := 1) (v := .ref (a 4)) (C := RX1) (T := TX1) (N := 18) hx hb hts iw_c_X1_pairs_wsX10 hown hK hP 0 rfl rfl 4 (by decide) (hts _ wd_c_X1_pairs_X1_pairs_2) (fun _ h9 => h9) rfl dX1_pairs_43 ?_
          refine lv_iload_n hx hb dX1_pairs_46 rfl (lv_at hl 1 rfl) ?_
          refine lv_aload_n hx hb dX1_pairs_47 rfl (lv_at hl 3 rfl) ?_
          refine va_get (D := (dC, dI)) (ci := 1) (v := .ref (a 4)) (C := RX1) (T := TX1) (N := 18) hx hb hts iw_c_X1_pairs_wsX10 hown hK hP 0 rfl rfl 4 (by decide) (hts _ wd_c_X1_pairs_X1_pairs_2) (fun _ h9 => h9) rfl dX1_pairs_48 ?_
          refine lv_iload_n hx hb dX1_pairs_51 rfl (lv_at hl 0 rfl) ?_
          refine lv_aload_n hx hb dX1_pairs_52 rfl (lv_at hl 3 rfl) ?_
          refine va_get (D := (dC, dI)) (ci := 1) (v := .int (F 0)) (C := RX1) (T := TX1) (N := 18) hx hb hts iw_c_X1_pairs_wsX10 hown hK hP 0 rfl rfl 0 (by decide) (hts _ wd_c_X1_pairs_X1_pairs_3) (fun _ h9 => h9) rfl dX1_pairs_53 ?_
          refine pt_top (y := nI ax) h0 ?_
          refine pt_rdi (va_runSN (As := [.ref (a 4), .int (nI i), .ref (a 4), .int (nI j), .int (nI ax)]) (rest := []) ⟨hx, hb, hml, hown, hts⟩ (c_X0_meet l dC dI (pt_xt c) (pt_xw a c F A Q) 2 3 1 (a 4) (a 24) (c 4) 384 (A 4) rfl rfl rfl (by decide) 2 3 1 (a 4) (a 24) (c 4) 384 (A 4) rfl rfl rfl (by decide) i j ax (by omega) (by omega) hax) ⟨va_cnB 5 hts gX1_pairs_X0_meet_n129 rfl rfl rfl (pt_nest hN 7 rfl) (hts _ wd_c_X1_pairs_X1_pairs_4) (by decide +kernel) ⟨Nat.le_of_ble_eq_true rfl, Nat.le_of_ble_eq_true rfl⟩, (hts _ wd_c_X1_pairs_X1_pairs_5), trivial⟩ (pt_R.preS hP hK hN) rfl rfl hl.1 rfl (lv_room (Nat.le_of_ble_eq_true rfl)) dX1_pairs_56 ⟨Nat.le_of_ble_eq_true rfl, Nat.le_of_ble_eq_true rfl⟩) (fun r56 hr56 => ?_)
          refine lv_if_eq (tgt := 65) hx hb dX1_pairs_59 (by decide) (fun c59 => ?_) (fun c59 => ?_)
          · refine lv_iinc (v := nI (j + 1)) (lv' := [(3, .int (nI (j + 1))), (2, .int (nI i)), (1, .int (nI (pt_sum (fun t => pt_cnt (fun v => t + 1 ≤ v ∧ (¬ A 3 t = 0 ∧ ¬ A 3 v = 0 ∧ pt_mee ax (A 4) (A 4) t v)) md) i + pt_cnt (fun v => i + 1 ≤ v ∧ (¬ A 3 i = 0 ∧ ¬ A 3 v = 0 ∧ pt_mee ax (A 4) (A 4) i v)) j))), (0, .ref (a 0))]) hx hb dX1_pairs_65 hl (k := 0) rfl (nI_1 _) (by decide) rfl (fun ls hl => ?_)
            refine lv_goto (tgt := 16) hx hb dX1_pairs_68 (by decide) ?_
            have ec := pt_cnt_f (p := (fun v => i + 1 ≤ v ∧ (¬ A 3 i = 0 ∧ ¬ A 3 v = 0 ∧ pt_mee ax (A 4) (A 4) i v))) (n := j) (fun q => by first | exact hr56.f c59 q.2.2.2 | exact q.2.2.1 d39 | exact q.2.1 d30)
            exact ihj (j + 1) _ ⟨by omega, by omega, by rw [ec]; exact lv_sub hl [0, 1, 2, 3] rfl⟩ (by omega)
          · refine lv_iinc (v := nI ((pt_sum (fun t => pt_cnt (fun v => t + 1 ≤ v ∧ (¬ A 3 t = 0 ∧ ¬ A 3 v = 0 ∧ pt_mee ax (A 4) (A 4) t v)) md) i + pt_cnt (fun v => i + 1 ≤ v ∧ (¬ A 3 i = 0 ∧ ¬ A 3 v = 0 ∧ pt_mee ax (A 4) (A 4) i v)) j) + 1)) (lv' := [(1, .int (nI ((pt_sum (fun t => pt_cnt (fun v => t + 1 ≤ v ∧ (¬ A 3 t = 0 ∧ ¬ A 3 v = 0 ∧ pt_mee ax (A 4) (A 4) t v)) md) i + pt_cnt (fun v => i + 1 ≤ v ∧ (¬ A 3 i = 0 ∧ ¬ A 3 v = 0 ∧ pt_mee ax (A 4) (A 4) i v)) j) + 1))), (3, .int (nI j)), (2, .int (nI i)), (0, .ref (a 0))]) hx hb dX1_pairs_62 hl (k := 2) rfl (nI_1 _) (by decide) rfl (fun ls hl => ?_)
            refine lv_iinc (v := nI (j + 1)) (lv' := [(3, .int (nI (j + 1))), (1, .int (nI ((pt_sum (fun t => pt_cnt (fun v => t + 1 ≤ v ∧ (¬ A 3 t = 0 ∧ ¬ A 3 v = 0 ∧ pt_mee ax (A 4) (A 4) t v)) md) i + pt_cnt (fun v => i + 1 ≤ v ∧ (¬ A 3 i = 0 ∧ ¬ A 3 v = 0 ∧ pt_mee ax (A 4) (A 4) i v)) j) + 1))), (2, .int (nI i)), (0, .ref (a 0))]) hx hb dX1_pairs_65 hl (k := 1) rfl (nI_1 _) (by decide) rfl (fun ls hl => ?_)
            refine lv_goto (tgt := 16) hx hb dX1_pairs_68 (by decide) ?_
            have ec := pt_cnt_t (p := (fun v => i + 1 ≤ v ∧ (¬ A 3 i = 0 ∧ ¬ A 3 v = 0 ∧ pt_mee ax (A 4) (A 4) i v))) (n := j) ⟨hj0, d30, d39, hr56.t c59⟩
            exact ihj (j + 1) _ ⟨by omega, by omega, by rw [ec]; exact lv_sub hl [0, 2, 1, 3] rfl⟩ (by omega)

theorem wd_c_X1_isNearer_X1_isNearer_0 : Cond.fieldLink RX1 56 "PointTrees" "squares" "[J" ∈ wsX1_isNearer := by decide +kernel
theorem iw_c_X1_isNearer_wsX10 : ∀ w ∈ wsX10, w ∈ wsX1_isNearer := fun _ h => List.mem_cons_of_mem _ (List.mem_append_right _ h)
set_option maxHeartbeats 4000000 in
set_option maxRecDepth 100000 in
theorem c_X1_isNearer (l : Launch) (dC : Nat → ClassId) (dI : Nat → Nat → Nat) (a : Nat → Nat) (c : Nat → ClassId) (F : Nat → Int32) (A : Nat → Nat → Int32) (Q : Nat → Int64) (t v : Nat) (ht : t < 64) (hv1 : v < 64) : Met l yX1_isNearer wsX1_isNearer (pt_rm 0) (pt_R (dC, dI) vwCl (pt_xt c) (pt_xw a c F A Q) pt_nw [.ref (a 0), .int (nI t), .int (nI v)]) (vp_Si (fun r => pt_B r (Q t < Q v ∨ (Q t = Q v ∧ t < v)))) 0 0 (fun _ => False) := by
  refine Met.ofW (cc := cX1_isNearer) (maxL := 3) (ret := (some .boolean)) (by decide) rfl ?_
  intro p e s m args below meth cd s₁ B hml hv
  obtain ⟨rfl, hP, hK, hN⟩ := hv
  have hx := B.exec
  have hb := B.bytes
  have hr := B.returns
  have hts := atoms_spec (ws := wsX1_isNearer) B.pre
  have hown : s.vm.findClass RX1 = some m.cls := findClass_of_methodNamed B.named
  have hlocks := B.notSynchronized
  have hl := lv_entry ([.ref (a 0), .int (nI t), .int (nI v)]) (n := 3) (Nat.le_of_ble_eq_true rfl)
  rw [lg_entry_eq]
  generalize (lg_sl ([.ref (a 0), .int (nI t), .int (nI v)]) ++ List.replicate (3 - (lg_sl ([.ref (a 0), .int (nI t), .int (nI v)])).length) Slot.unset).toArray = ls at hl ⊢
  have hl : lv_has ls 3 [(0, .ref (a 0)), (1, .int (nI t)), (2, .int (nI v))] := hl
  refine lv_aload_n hx hb dX1_isNearer_0 rfl (lv_at hl 0 rfl) ?_
  refine va_get (D := (dC, dI)) (ci := 1) (v := .ref (a 17)) (C := RX1) (T := TX1) (N := 18) hx hb hts iw_c_X1_isNearer_wsX10 hown hK hP 0 rfl rfl 17 (by decide) (hts _ wd_c_X1_isNearer_X1_isNearer_0) (fun _ h9 => h9) rfl dX1_isNearer_1 ?_
  refine lv_iload_n hx hb dX1_isNearer_4 rfl (lv_at hl 1 rfl) ?_
  refine pt_lald hx hb hK hP 15 11 rfl rfl t rfl (by omega) (by decide) dX1_isNearer_5 ?_
  refine lv_aload_n hx hb dX1_isNearer_6 rfl (lv_at hl 0 rfl) ?_
  refine va_get (D := (dC, dI)) (ci := 1) (v := .ref (a 17)) (C := RX1) (T := TX1) (N := 18) hx hb hts iw_c_X1_isNearer_wsX10 hown hK hP 0 rfl rfl 17 (by decide) (hts _ wd_c_X1_isNearer_X1_isNearer_0) (fun _ h9 => h9) rfl dX1_isNearer_7 ?_
  refine lv_iload_n hx hb dX1_isNearer_10 rfl (lv_at hl 2 rfl) ?_
  refine pt_lald hx hb hK hP 15 11 rfl rfl v rfl (by omega) (by decide) dX1_isNearer_11 ?_
  refine W.lcmp hx hb dX1_isNearer_12 ?_
  refine lv_if_lt (tgt := 37) hx hb dX1_isNearer_13 (by decide) (fun c13 => ?_) (fun c13 => ?_)
  · have d13 : Q t < Q v := (lg_cmp_lt _ _).mp c13
    refine lv_iconst (v := 1) hx hb dX1_isNearer_37 (by decide) ?_
    refine lv_goto (tgt := 42) hx hb dX1_isNearer_38 (by decide) ?_
    exact W.zret (v := 1) hx hb hr rfl (fun zt zh zW => ⟨_, rfl, (pt_B.one (by first | exact Or.inl d13 | exact Or.inr ⟨d29, d34⟩)), zh⟩) (fun q h => by cases h) dX1_isNearer_42
  · have d13 : ¬ Q t < Q v := fun q => c13 ((lg_cmp_lt _ _).mpr q)
    refine lv_aload_n hx hb dX1_isNearer_16 rfl (lv_at hl 0 rfl) ?_
    refine va_get (D := (dC, dI)) (ci := 1) (v := .ref (a 17)) (C := RX1) (T := TX1) (N := 18) hx hb hts iw_c_X1_isNearer_wsX10 hown hK hP 0 rfl rfl 17 (by decide) (hts _ wd_c_X1_isNearer_X1_isNearer_0) (fun _ h9 => h9) rfl dX1_isNearer_17 ?_
    refine lv_iload_n hx hb dX1_isNearer_20 rfl (lv_at hl 1 rfl) ?_
    refine pt_lald hx hb hK hP 15 11 rfl rfl t rfl (by omega) (by decide) dX1_isNearer_21 ?_
    refine lv_aload_n hx hb dX1_isNearer_22 rfl (lv_at hl 0 rfl) ?_
    refine va_get (D := (dC, dI)) (ci := 1) (v := .ref (a 17)) (C := RX1) (T := TX1) (N := 18) hx hb hts iw_c_X1_isNearer_wsX10 hown hK hP 0 rfl rfl 17 (by decide) (hts _ wd_c_X1_isNearer_X1_isNearer_0) (fun _ h9 => h9) rfl dX1_isNearer_23 ?_
    refine lv_iload_n hx hb dX1_isNearer_26 rfl (lv_at hl 2 rfl) ?_
    refine pt_lald hx hb hK hP 15 11 rfl rfl v rfl (by omega) (by decide) dX1_isNearer_27 ?_
    refine W.lcmp hx hb dX1_isNearer_28 ?_
    refine lv_if_ne (tgt := 41) hx hb dX1_isNearer_29 (by decide) (fun c29 => ?_) (fun c29 => ?_)
    · have d29 : ¬ Q t = Q v := fun q => c29 ((lg_cmp_eq _ _).mpr q)
      refine lv_iconst (v := 0) hx hb dX1_isNearer_41 (by decide) ?_
      exact W.zret (v := 0) hx hb hr rfl (fun zt zh zW => ⟨_, rfl, (pt_B.zero (fun q => q.elim d13 (fun q => by first | exact d29 q.1 | exact d34 q.2))), zh⟩) (fun q h => by cases h) dX1_isNearer_42
    · have d29 : Q t = Q v := (lg_cmp_eq _ _).mp c29
      refine lv_iload_n hx hb dX1_isNearer_32 rfl (lv_at hl 1 rfl) ?_
      refine lv_iload_n hx hb dX1_isNearer_33 rfl (lv_at hl 2 rfl) ?_
      refine lv_icmp_ge (tgt := 41) hx hb dX1_isNearer_34 (by decide) (fun c34 => ?_) (fun c34 => ?_)
      · have d34 : ¬ t < v := fun q => nI_ge q (by omega) c34
        refine lv_iconst (v := 0) hx hb dX1_isNearer_41 (by decide) ?_
        exact W.zret (v := 0) hx hb hr rfl (fun zt zh zW => ⟨_, rfl, (pt_B.zero (fun q => q.elim d13 (fun q => by first | exact d29 q.1 | exact d34 q.2))), zh⟩) (fun q h => by cases h) dX1_isNearer_42
      · have d34 : t < v := Nat.not_le.mp (fun q => c34 (nI_le q (by omega)))
        refine lv_iconst (v := 1) hx hb dX1_isNearer_37 (by decide) ?_
        refine lv_goto (tgt := 42) hx hb dX1_isNearer_38 (by decide) ?_
        exact W.zret (v := 1) hx hb hr rfl (fun zt zh zW => ⟨_, rfl, (pt_B.one (by first | exact Or.inl d13 | exact Or.inr ⟨d29, d34⟩)), zh⟩) (fun q h => by cases h) dX1_isNearer_42

theorem wd_c_X1_nearerThan_X1_nearerThan_0 : Cond.fieldLink RX1 60 "PointTrees" "made" "I" ∈ wsX1_nearerThan := by decide +kernel
theorem wd_c_X1_nearerThan_X1_nearerThan_1 : Cond.fieldLink RX1 15 "PointTrees" "isThere" "[Z" ∈ wsX1_nearerThan := by decide +kernel
theorem iw_c_X1_nearerThan_wsX10 : ∀ w ∈ wsX10, w ∈ wsX1_nearerThan := fun _ h => List.mem_cons_of_mem _ (List.mem_append_right _ h)
set_option maxHeartbeats 4000000 in
set_option maxRecDepth 100000 in
theorem c_X1_nearerThan (l : Launch) (dC : Nat → ClassId) (dI : Nat → Nat → Nat) (a : Nat → Nat) (c : Nat → ClassId) (F : Nat → Int32) (A : Nat → Nat → Int32) (Q : Nat → Int64) (md : Nat) (h1 : F 1 = nI md) (hmd : md ≤ 64) (k : Nat) (hk : k < 64) : Met l yX1_nearerThan wsX1_nearerThan (pt_rm 1) (pt_R (dC, dI) vwCl (pt_xt c) (pt_xw a c F A Q) pt_nw [.ref (a 0), .int (nI k)]) (vp_Si (fun r => r = nI (pt_cnt (fun t => ¬ A 3 t = 0 ∧ (Q t < Q k ∨ (Q t = Q k ∧ t < k))) md))) 0 0 (fun _ => False) := by
  refine Met.ofW (cc := cX1_nearerThan) (maxL := 4) (ret := (some .int)) (by decide) rfl ?_
  intro p e s m args below meth cd s₁ B hml hv
  obtain ⟨rfl, hP, hK, hN⟩ := hv
  have hx := B.exec
  have hb := B.bytes
  have hr := B.returns
  have hts := atoms_spec (ws := wsX1_nearerThan) B.pre
  have hown : s.vm.findClass RX1 = some m.cls := findClass_of_methodNamed B.named
  have hlocks := B.notSynchronized
  have hl := lv_entry ([.ref (a 0), .int (nI k)]) (n := 4) (Nat.le_of_ble_eq_true rfl)
  rw [lg_entry_eq]
  generalize (lg_sl ([.ref (a 0), .int (nI k)]) ++ List.replicate (4 - (lg_sl ([.ref (a 0), .int (nI k)])).length) Slot.unset).toArray = ls at hl ⊢
  have hl : lv_has ls 4 [(0, .ref (a 0)), (1, .int (nI k))] := hl
  refine lv_iconst (v := nI 0) hx hb dX1_nearerThan_0 (by decide) ?_
  refine lv_istore_n (lv' := [(2, .int (nI 0)), (0, .ref (a 0)), (1, .int (nI k))]) hx hb dX1_nearerThan_1 rfl hl (by decide) rfl (fun ls hl => ?_)
  refine lv_iconst (v := nI 0) hx hb dX1_nearerThan_2 (by decide) ?_
  refine lv_istore_n (lv' := [(3, .int (nI 0)), (2, .int (nI 0)), (0, .ref (a 0)), (1, .int (nI k))]) hx hb dX1_nearerThan_3 rfl hl (by decide) rfl (fun ls hl => ?_)
  refine pt_loopR (fun i : Nat => md - i) (fun i ls => i ≤ md ∧ lv_has ls 4 [(3, .int (nI i)), (2, .int (nI (pt_cnt (fun t => ¬ A 3 t = 0 ∧ (Q t < Q k ∨ (Q t = Q k ∧ t < k))) i))), (0, .ref (a 0)), (1, .int (nI k))]) ?_ 0 _ ⟨Nat.zero_le _, hl⟩
  intro i ls ⟨hi, hl⟩ ih
  refine lv_iload_n hx hb dX1_nearerThan_4 rfl (lv_at hl 0 rfl) ?_
  refine lv_aload_n hx hb dX1_nearerThan_5 rfl (lv_at hl 2 rfl) ?_
  refine va_get (D := (dC, dI)) (ci := 1) (v := .int (F 1)) (C := RX1) (T := TX1) (N := 18) hx hb hts iw_c_X1_nearerThan_wsX10 hown hK hP 0 rfl rfl 1 (by decide) (hts _ wd_c_X1_nearerThan_X1_nearerThan_0) (fun _ h9 => h9) rfl dX1_nearerThan_6 ?_
  refine pt_top (y := nI md) h1 ?_
  refine lv_icmp_ge (tgt := 39) hx hb dX1_nearerThan_9 (by decide) (fun c9 => ?_) (fun c9 => ?_)
  · have hie : i = md := by have := (nI_leI (by omega) (by omega)).mp c9; omega
    refine lv_iload_n hx hb dX1_nearerThan_39 rfl (lv_at hl 1 rfl) ?_
    exact W.iret (v := nI (pt_cnt (fun t => ¬ A 3 t = 0 ∧ (Q t < Q k ∨ (Q t = Q k ∧ t < k))) i)) hx hb hr (fun zt zh zW => ⟨_, rfl, (by rw [← hie]), zh⟩) (fun q h => by cases h) dX1_nearerThan_40
  · have hlt : i < md := Nat.not_le.mp (fun q => c9 ((nI_leI (by omega) (by omega)).mpr q))
    refine lv_aload_n hx hb dX1_nearerThan_12 rfl (lv_at hl 2 rfl) ?_
    refine va_get (D := (dC, dI)) (ci := 1) (v := .ref (a 3)) (C := RX1) (T := TX1) (N := 18) hx hb hts iw_c_X1_nearerThan_wsX10 hown hK hP 0 rfl rfl 3 (by decide) (hts _ wd_c_X1_nearerThan_X1_nearerThan_1) (fun _ h9 => h9) rfl dX1_nearerThan_13 ?_
    refine lv_iload_n hx hb dX1_nearerThan_16 rfl (lv_at hl 0 rfl) ?_
    refine pt_zald hx hb hK hP 1 0 rfl rfl i rfl (by omega) (by decide) dX1_nearerThan_17 ?_
    refine lv_if_eq (tgt := 33) hx hb dX1_nearerThan_18 (by decide) (fun c18 => ?_) (fun c18 => ?_)
    · refine lv_iinc (v := nI (i + 1)) (lv' := [(3, .int (nI (i + 1))), (2, .int (nI (pt_cnt (fun t => ¬ A 3 t = 0 ∧ (Q t < Q k ∨ (Q t = Q k ∧ t < k))) i))), (0, .ref (a 0)), (1, .int (nI k))]) hx hb dX1_nearerThan_33 hl (k := 0) rfl (nI_1 _) (by decide) rfl (fun ls hl => ?_)
      refine lv_goto (tgt := 4) hx hb dX1_nearerThan_36 (by decide) ?_
      have ec := pt_cnt_f (p := (fun t => ¬ A 3 t = 0 ∧ (Q t < Q k ∨ (Q t = Q k ∧ t < k)))) (n := i) (fun q => by first | exact hr24.f c27 q.2 | exact q.1 c18)
      exact ih (i + 1) _ ⟨by omega, by rw [ec]; exact lv_sub hl [0, 1, 2, 3] rfl⟩ (by omega)
    · refine lv_aload_n hx hb dX1_nearerThan_21 rfl (lv_at hl 2 rfl) ?_
      refine lv_iload_n hx hb dX1_nearerThan_22 rfl (lv_at hl 0 rfl) ?_
      refine lv_iload_n hx hb dX1_nearerThan_23 rfl (lv_at hl 3 rfl) ?_
      refine pt_rdi (va_runV (As := [.int (nI i), .int (nI k)]) (rest := []) ⟨hx, hb, hml, hown, hts⟩ (c_X1_isNearer l dC dI a c F A Q i k (by omega) (by omega)) (cwV 2 hts gX1_nearerThan_X1_isNearer rfl rfl rfl (by decide +kernel) ⟨Nat.le_of_ble_eq_true rfl, Nat.le_of_ble_eq_true rfl⟩) (pt_pv1 hP hK hN (q0 := 0) rfl) rfl rfl hl.1 rfl (lv_room (Nat.le_of_ble_eq_true rfl)) dX1_nearerThan_24 ⟨Nat.le_of_ble_eq_true rfl, Nat.le_of_ble_eq_true rfl⟩) (fun r24 hr24 => ?_)
      refine lv_if_eq (tgt := 33) hx hb dX1_nearerThan_27 (by decide) (fun c27 => ?_) (fun c27 => ?_)
      · refine lv_iinc (v := nI (i + 1)) (lv' := [(3, .int (nI (i + 1))), (2, .int (nI (pt_cnt (fun t => ¬ A 3 t = 0 ∧ (Q t < Q k ∨ (Q t = Q k ∧ t < k))) i))), (0, .ref (a 0)), (1, .int (nI k))]) hx hb dX1_nearerThan_33 hl (k := 0) rfl (nI_1 _) (by decide) rfl (fun ls hl => ?_)
        refine lv_goto (tgt := 4) hx hb dX1_nearerThan_36 (by decide) ?_
        have ec := pt_cnt_f (p := (fun t => ¬ A 3 t = 0 ∧ (Q t < Q k ∨ (Q t = Q k ∧ t < k)))) (n := i) (fun q => by first | exact hr24.f c27 q.2 | exact q.1 c18)
        exact ih (i + 1) _ ⟨by omega, by rw [ec]; exact lv_sub hl [0, 1, 2, 3] rfl⟩ (by omega)
      · refine lv_iinc (v := nI ((pt_cnt (fun t => ¬ A 3 t = 0 ∧ (Q t < Q k ∨ (Q t = Q k ∧ t < k))) i) + 1)) (lv' := [(2, .int (nI ((pt_cnt (fun t => ¬ A 3 t = 0 ∧ (Q t < Q k ∨ (Q t = Q k ∧ t < k))) i) + 1))), (3, .int (nI i)), (0, .ref (a 0)), (1, .int (nI k))]) hx hb dX1_nearerThan_30 hl (k := 1) rfl (nI_1 _) (by decide) rfl (fun ls hl => ?_)
        refine lv_iinc (v := nI (i + 1)) (lv' := [(3, .int (nI (i + 1))), (2, .int (nI ((pt_cnt (fun t => ¬ A 3 t = 0 ∧ (Q t < Q k ∨ (Q t = Q k ∧ t < k))) i) + 1))), (0, .ref (a 0)), (1, .int (nI k))]) hx hb dX1_nearerThan_33 hl (k := 1) rfl (nI_1 _) (by decide) rfl (fun ls hl => ?_)
        refine lv_goto (tgt := 4) hx hb dX1_nearerThan_36 (by decide) ?_
        have ec := pt_cnt_t (p := (fun t => ¬ A 3 t = 0 ∧ (Q t < Q k ∨ (Q t = Q k ∧ t < k)))) (n := i) ⟨c18, hr24.t c27⟩
        exact ih (i + 1) _ ⟨by omega, by rw [ec]; exact lv_sub hl [0, 1, 2, 3] rfl⟩ (by omega)

/-- which thing is the k-th nearest, by the squares S -/
def pt_rk (th : Nat → Prop) (S : Nat → Int64) (md : Nat) (k : Int32) (t : Nat) : Prop := th t ∧ nI (pt_cnt (fun v => th v ∧ (S v < S t ∨ (S v = S t ∧ v < t))) md) = k

theorem wd_c_X1_nearest_X1_nearest_0 : Cond.fieldLink RX1 63 "PointTrees" "present" "I" ∈ wsX1_nearest := by decide +kernel
theorem wd_c_X1_nearest_X1_nearest_1 : Cond.fieldLink RX1 60 "PointTrees" "made" "I" ∈ wsX1_nearest := by decide +kernel
theorem wd_c_X1_nearest_X1_nearest_2 : Cond.fieldLink RX1 15 "PointTrees" "isThere" "[Z" ∈ wsX1_nearest := by decide +kernel
theorem wd_c_X1_nearest_X1_nearest_3 : Cond.fieldLink RX1 56 "PointTrees" "squares" "[J" ∈ wsX1_nearest := by decide +kernel
theorem wd_c_X1_nearest_X1_nearest_4 : Cond.fieldLink RX1 24 "PointTrees" "things" "LPointTrees$Boxes;" ∈ wsX1_nearest := by decide +kernel
theorem wd_c_X1_nearest_X1_nearest_5 : Cond.fieldLink RX1 9 "PointTrees" "axes" "I" ∈ wsX1_nearest := by decide +kernel
theorem wd_c_X1_nearest_X1_nearest_6 : Cond.initialized RX0 ∈ wsX1_nearest := by decide +kernel
theorem wd_c_X1_nearest_X1_nearest_7 : Cond.instanceMethod yX0_squareTo ∈ wsX1_nearest := by decide +kernel
theorem wd_c_X1_nearest_X1_nearest_8 : Cond.selects RX0 yX0_squareTo yX0_squareTo ∈ wsX1_nearest := by decide +kernel
theorem iw_c_X1_nearest_wsX10 : ∀ w ∈ wsX10, w ∈ wsX1_nearest := fun _ h => List.mem_cons_of_mem _ (List.mem_append_left _ (List.mem_append_right _ h))
theorem iw_c_X1_nearest_wsX00 : ∀ w ∈ wsX00, w ∈ wsX1_nearest := fun _ h => List.mem_cons_of_mem _ (List.mem_append_right _ h)
set_option maxHeartbeats 4000000 in
set_option maxRecDepth 100000 in
theorem c_X1_nearest (l : Launch) (dC : Nat → ClassId) (dI : Nat → Nat → Nat) (a : Nat → Nat) (c : Nat → ClassId) (F : Nat → Int32) (A : Nat → Nat → Int32) (Q : Nat → Int64) (sz : Nat) (ax : Nat) (h0 : F 0 = nI ax) (hax : ax ≤ 3) (md : Nat) (h1 : F 1 = nI md) (hmd : md ≤ 64) (pr : Nat) (h2 : F 2 = nI pr) (hpr : pr ≤ 64) (x y z k : Int32) : Met l yX1_nearest wsX1_nearest (pt_rm 3) (pt_W (dC, dI) vwCl (pt_xt c) (pt_xw a c F A Q) pt_nw sz [.ref (a 0), .int x, .int y, .int z, .int k]) (va_Qi (fun (r : Int32) (u : pt_XS) => u.1 = F ∧ u.2.1 = A ∧ ((¬ pt_in pr (fun _ => True) k ∧ r = -1) ∨ (pt_in pr (fun _ => True) k ∧ ¬ pt_box ax x x y y z z ∧ r = -2) ∨ (pt_in pr (fun _ => True) k ∧ pt_box ax x x y y z z ∧ pt_fst (pt_rk (fun t => ¬ A 3 t = 0) (fun t => pt_sqt ax (fun q => A 4 (t * 6 + q * 2 + 0)) (fun q => A 4 (t * 6 + q * 2 + 1)) x y z) md k) md r))) (fun u t => va_P (dC, dI) vwCl (pt_xw a c u.1 u.2.1 u.2.2) t.heap) (va_A (pt_xw a c F A Q) sz)) 0 0 (va_A (pt_xw a c F A Q) sz) := by
  refine Met.ofW (cc := cX1_nearest) (maxL := 6) (ret := (some .int)) (by decide) rfl ?_
  intro p e s m args below meth cd s₁ B hml hv
  obtain ⟨rfl, hsz, hP, hK, hN, hD0⟩ := hv
  have hx := B.exec
  have hb := B.bytes
  have hr := B.returns
  have hts := atoms_spec (ws := wsX1_nearest) B.pre
  have hown : s.vm.findClass RX1 = some m.cls := findClass_of_methodNamed B.named
  have hlocks := B.notSynchronized
  subst hsz
  have hD := hD0.self (sz := s.heap.size)
  generalize hAe : va_A (pt_xw a c F A Q) s.heap.size = AA at hD ⊢
  have hA : ∀ q : Nat, s.heap.size ≤ q → AA q := fun q h => by rw [← hAe]; exact Or.inr h
  have hS : va_S AA s.heap s.heap [] := va_S.rf
  have hl := lv_entry ([.ref (a 0), .int x, .int y, .int z, .int k]) (n := 6) (Nat.le_of_ble_eq_true rfl)
  rw [lg_entry_eq]
  generalize (lg_sl ([.ref (a 0), .int x, .int y, .int z, .int k]) ++ List.replicate (6 - (lg_sl ([.ref (a 0), .int x, .int y, .int z, .int k])).length) Slot.unset).toArray = ls at hl ⊢
  have hl : lv_has ls 6 [(0, .ref (a 0)), (1, .int x), (2, .int y), (3, .int z), (4, .int k)] := hl
  refine lv_iload hx hb dX1_nearest_0 (lv_at hl 4 rfl) ?_
  refine lv_if_lt (tgt := 14) hx hb dX1_nearest_2 (by decide) (fun c2 => ?_) (fun c2 => ?_)
  · refine lv_iconst (v := (-1)) hx hb dX1_nearest_14 (by decide) ?_
    exact W.iret (v := (-1)) hx hb hr (fun zt zh zW => ⟨⟨_, (F, A, Q), rfl, ⟨rfl, rfl, Or.inl ⟨by first | exact pt_in_hi (Int32.not_lt.mp c11) (by omega) | exact pt_in_lo c2 (by omega), rfl⟩⟩, by show va_P _ _ _ zt.heap; rw [zh]; exact hP⟩, hS.F zh⟩) hS.2.2 dX1_nearest_15
  · refine lv_iload hx hb dX1_nearest_5 (lv_at hl 4 rfl) ?_
    refine lv_aload_n hx hb dX1_nearest_7 rfl (lv_at hl 0 rfl) ?_
    refine va_get (D := (dC, dI)) (ci := 1) (v := .int (F 2)) (C := RX1) (T := TX1) (N := 18) hx hb hts iw_c_X1_nearest_wsX10 hown hK hP 0 rfl rfl 2 (by decide) (hts _ wd_c_X1_nearest_X1_nearest_0) (fun _ h9 => h9) rfl dX1_nearest_8 ?_
    refine pt_top (y := nI pr) h2 ?_
    refine lv_icmp_lt (tgt := 16) hx hb dX1_nearest_11 (by decide) (fun c11 => ?_) (fun c11 => ?_)
    · obtain ⟨kk, hkk, ek⟩ := pt_ix c2 (Int32.not_le.mpr c11) (by omega)
      have hin : pt_in pr (fun _ => True) k := ⟨kk, hkk, ek, trivial⟩
      refine lv_aload_n hx hb dX1_nearest_16 rfl (lv_at hl 0 rfl) ?_
      refine lv_iload_n hx hb dX1_nearest_17 rfl (lv_at hl 1 rfl) ?_
      refine lv_iload_n hx hb dX1_nearest_18 rfl (lv_at hl 2 rfl) ?_
      refine lv_iload_n hx hb dX1_nearest_19 rfl (lv_at hl 3 rfl) ?_
      refine pt_rdi (va_runV (As := [.int x, .int y, .int z]) (rest := []) ⟨hx, hb, hml, hown, hts⟩ (c_X1_isPlace l dC dI a c F A Q ax h0 hax x y z) (cwV 3 hts gX1_nearest_X1_isPlace rfl rfl rfl (by decide +kernel) ⟨Nat.le_of_ble_eq_true rfl, Nat.le_of_ble_eq_true rfl⟩) (pt_pv1 hP hK hN (q0 := 0) rfl) rfl rfl hl.1 rfl (lv_room (Nat.le_of_ble_eq_true rfl)) dX1_nearest_20 ⟨Nat.le_of_ble_eq_true rfl, Nat.le_of_ble_eq_true rfl⟩) (fun r20 hr20 => ?_)
      refine lv_if_ne (tgt := 29) hx hb dX1_nearest_23 (by decide) (fun c23 => ?_) (fun c23 => ?_)
      · have d23 := hr20.t c23
        refine lv_iconst (v := nI 0) hx hb dX1_nearest_29 (by decide) ?_
        refine lv_istore (lv' := [(5, .int (nI 0)), (0, .ref (a 0)), (1, .int x), (2, .int y), (3, .int z), (4, .int k)]) hx hb dX1_nearest_30 hl (by decide) rfl (fun ls hl => ?_)
        refine pt_loopW (fun q : Nat × (Nat → Int64) => md - q.1) (fun q ls H locs => q.1 ≤ md ∧ (∀ t, t < q.1 → q.2 t = (fun t => pt_sqt ax (fun q => A 4 (t * 6 + q * 2 + 0)) (fun q => A 4 (t * 6 + q * 2 + 1)) x y z) t) ∧ va_P (dC, dI) vwCl (pt_xw a c F A q.2) H ∧ va_D AA (pt_xw a c F A q.2) ∧ va_S AA s.heap H locs ∧ lv_has ls 6 [(5, .int (nI q.1)), (0, .ref (a 0)), (1, .int x), (2, .int y), (3, .int z), (4, .int k)]) ?_ (0, Q) _ _ _ ⟨Nat.zero_le _, fun t ht => absurd ht (Nat.not_lt_zero _), hP, hD, hS, hl⟩
        intro ⟨i, Qi⟩ ls H locs ⟨hi, hsq, hP, hD, hS, hl⟩ ih
        dsimp only at hi hsq hP hD hl ih
        refine lv_iload hx hb dX1_nearest_32 (lv_at hl 0 rfl) ?_
        refine lv_aload_n hx hb dX1_nearest_34 rfl (lv_at hl 1 rfl) ?_
        refine va_get (D := (dC, dI)) (ci := 1) (v := .int (F 1)) (C := RX1) (T := TX1) (N := 18) hx hb hts iw_c_X1_nearest_wsX10 hown hK hP 0 rfl rfl 1 (by decide) (hts _ wd_c_X1_nearest_X1_nearest_1) (fun _ h9 => h9) rfl dX1_nearest_35 ?_
        refine pt_top (y := nI md) h1 ?_
        refine lv_icmp_ge (tgt := 70) hx hb dX1_nearest_38 (by decide) (fun c38 => ?_) (fun c38 => ?_)
        · have hie : i = md := by have := (nI_leI (by omega) (by omega)).mp c38; omega
          refine lv_iconst (v := nI 0) hx hb dX1_nearest_70 (by decide) ?_
          refine lv_istore (lv' := [(5, .int (nI 0)), (0, .ref (a 0)), (1, .int x), (2, .int y), (3, .int z), (4, .int k)]) hx hb dX1_nearest_71 hl (by decide) rfl (fun ls hl => ?_)
          refine pt_loopR (fun j : Nat => md - j) (fun j ls => j ≤ md ∧ (∀ u, u < j → ¬ pt_rk (fun t => ¬ A 3 t = 0) (fun t => pt_sqt ax (fun q => A 4 (t * 6 + q * 2 + 0)) (fun q => A 4 (t * 6 + q * 2 + 1)) x y z) md k u) ∧ lv_has ls 6 [(5, .int (nI j)), (0, .ref (a 0)), (1, .int x), (2, .int y), (3, .int z), (4, .int k)]) ?_ 0 _ ⟨Nat.zero_le _, fun t ht => absurd ht (Nat.not_lt_zero _), hl⟩
          intro j ls ⟨hj, hno, hl⟩ ihj
          refine lv_iload hx hb dX1_nearest_73 (lv_at hl 0 rfl) ?_
          refine lv_aload_n hx hb dX1_nearest_75 rfl (lv_at hl 1 rfl) ?_
          refine va_get (D := (dC, dI)) (ci := 1) (v := .int (F 1)) (C := RX1) (T := TX1) (N := 18) hx hb hts iw_c_X1_nearest_wsX10 hown hK hP 0 rfl rfl 1 (by decide) (hts _ wd_c_X1_nearest_X1_nearest_1) (fun _ h9 => h9) rfl dX1_nearest_76 ?_
          refine pt_top (y := nI md) h1 ?_
          refine lv_icmp_ge (tgt := 112) hx hb dX1_nearest_79 (by decide) (fun c79 => ?_) (fun c79 => ?_)
          · have hje : j = md := by have := (nI_leI (by omega) (by omega)).mp c79; omega
            refine lv_iconst (v := (-1)) hx hb dX1_nearest_112 (by decide) ?_
            exact W.iret (v := (-1)) hx hb hr (fun zt zh zW => ⟨⟨_, (F, A, Qi), rfl, ⟨rfl, rfl, Or.inr (Or.inr ⟨hin, d23, Or.inr ⟨fun t ht => hno t (by omega), rfl⟩⟩)⟩, by show va_P _ _ _ zt.heap; rw [zh]; exact hP⟩, hS.F zh⟩) hS.2.2 dX1_nearest_113
          · have hjl : j < md := Nat.not_le.mp (fun q => c79 ((nI_leI (by omega) (by omega)).mpr q))
            refine lv_aload_n hx hb dX1_nearest_82 rfl (lv_at hl 1 rfl) ?_
            refine va_get (D := (dC, dI)) (ci := 1) (v := .ref (a 3)) (C := RX1) (T := TX1) (N := 18) hx hb hts iw_c_X1_nearest_wsX10 hown hK hP 0 rfl rfl 3 (by decide) (hts _ wd_c_X1_nearest_X1_nearest_2) (fun _ h9 => h9) rfl dX1_nearest_83 ?_
            refine lv_iload hx hb dX1_nearest_86 (lv_at hl 0 rfl) ?_
            refine pt_zald hx hb hK hP 1 0 rfl rfl j rfl (by omega) (by decide) dX1_nearest_88 ?_
            refine lv_if_eq (tgt := 106) hx hb dX1_nearest_89 (by decide) (fun c89 => ?_) (fun c89 => ?_)
            · refine lv_iinc (v := nI (j + 1)) (lv' := [(5, .int (nI (j + 1))), (0, .ref (a 0)), (1, .int x), (2, .int y), (3, .int z), (4, .int k)]) hx hb dX1_nearest_106 hl (k := 0) rfl (nI_1 _) (by decide) rfl (fun ls hl => ?_)
              refine lv_goto (tgt := 73) hx hb dX1_nearest_109 (by decide) ?_
              exact ihj (j + 1) _ ⟨by omega, fun u hu => (Nat.lt_succ_iff_lt_or_eq.mp hu).elim (hno u) (fun q => by subst q; intro h; first | exact c100 (hr95e.trans h.2) | exact h.1 c89), lv_sub hl [0, 1, 2, 3, 4, 5] rfl⟩ (by omega)
            · refine lv_aload_n hx hb dX1_nearest_92 rfl (lv_at hl 1 rfl) ?_
              refine lv_iload hx hb dX1_nearest_93 (lv_at hl 0 rfl) ?_
              refine pt_rdi (va_runV (As := [.int (nI j)]) (rest := []) ⟨hx, hb, hml, hown, hts⟩ (c_X1_nearerThan l dC dI a c F A Qi md h1 hmd j (by omega)) (cwV 1 hts gX1_nearest_X1_nearerThan rfl rfl rfl (by decide +kernel) ⟨Nat.le_of_ble_eq_true rfl, Nat.le_of_ble_eq_true rfl⟩) (pt_pv1 hP hK hN (q0 := 0) rfl) rfl rfl hl.1 rfl (lv_room (Nat.le_of_ble_eq_true rfl)) dX1_nearest_95 ⟨Nat.le_of_ble_eq_true rfl, Nat.le_of_ble_eq_true rfl⟩) (fun r95 hr95 => ?_)
              have hr95e : r95 = nI (pt_cnt (fun v => ¬ A 3 v = 0 ∧ ((fun t => pt_sqt ax (fun q => A 4 (t * 6 + q * 2 + 0)) (fun q => A 4 (t * 6 + q * 2 + 1)) x y z) v < (fun t => pt_sqt ax (fun q => A 4 (t * 6 + q * 2 + 0)) (fun q => A 4 (t * 6 + q * 2 + 1)) x y z) j ∨ ((fun t => pt_sqt ax (fun q => A 4 (t * 6 + q * 2 + 0)) (fun q => A 4 (t * 6 + q * 2 + 1)) x y z) v = (fun t => pt_sqt ax (fun q => A 4 (t * 6 + q * 2 + 0)) (fun q => A 4 (t * 6 + q * 2 + 1)) x y z) j ∧ v < j))) md) := by rw [hr95]; exact congrArg nI (pt_cnt_c md (fun v hv => by rw [hsq v (by omega), hsq j (by omega)]))
              refine lv_iload hx hb dX1_nearest_98 (lv_at hl 5 rfl) ?_
              refine lv_icmp_ne (tgt := 106) hx hb dX1_nearest_100 (by decide) (fun c100 => ?_) (fun c100 => ?_)
              · refine lv_iinc (v := nI (j + 1)) (lv' := [(5, .int (nI (j + 1))), (0, .ref (a 0)), (1, .int x), (2, .int y), (3, .int z), (4, .int k)]) hx hb dX1_nearest_106 hl (k := 0) rfl (nI_1 _) (by decide) rfl (fun ls hl => ?_)
                refine lv_goto (tgt := 73) hx hb dX1_nearest_109 (by decide) ?_
                exact ihj (j + 1) _ ⟨by omega, fun u hu => (Nat.lt_succ_iff_lt_or_eq.mp hu).elim (hno u) (fun q => by subst q; intro h; first | exact c100 (hr95e.trans h.2) | exact h.1 c89), lv_sub hl [0, 1, 2, 3, 4, 5] rfl⟩ (by omega)
              · refine lv_iload hx hb dX1_nearest_103 (lv_at hl 0 rfl) ?_
                exact W.iret (v := nI j) hx hb hr (fun zt zh zW => ⟨⟨_, (F, A, Qi), rfl, ⟨rfl, rfl, Or.inr (Or.inr ⟨hin, d23, Or.inl ⟨j, hjl, ⟨c89, hr95e.symm.trans c100⟩, hno, rfl⟩⟩)⟩, by show va_P _ _ _ zt.heap; rw [zh]; exact hP⟩, hS.F zh⟩) hS.2.2 dX1_nearest_105
        · have hlt : i < md := Nat.not_le.mp (fun q => c38 ((nI_leI (by omega) (by omega)).mpr q))
          refine lv_aload_n hx hb dX1_nearest_41 rfl (lv_at hl 1 rfl) ?_
          refine va_get (D := (dC, dI)) (ci := 1) (v := .ref (a 17)) (C := RX1) (T := TX1) (N := 18) hx hb hts iw_c_X1_nearest_wsX10 hown hK hP 0 rfl rfl 17 (by decide) (hts _ wd_c_X1_nearest_X1_nearest_3) (fun _ h9 => h9) rfl dX1_nearest_42 ?_
          refine lv_iload hx hb dX1_nearest_45 (lv_at hl 0 rfl) ?_
          refine lv_aload_n hx hb dX1_nearest_47 rfl (lv_at hl 1 rfl) ?_
          refine va_get (D := (dC, dI)) (ci := 1) (v := .ref (a 4)) (C := RX1) (T := TX1) (N := 18) hx hb hts iw_c_X1_nearest_wsX10 hown hK hP 0 rfl rfl 4 (by decide) (hts _ wd_c_X1_nearest_X1_nearest_4) (fun _ h9 => h9) rfl dX1_nearest_48 ?_
          refine lv_iload hx hb dX1_nearest_51 (lv_at hl 0 rfl) ?_
          refine lv_aload_n hx hb dX1_nearest_53 rfl (lv_at hl 1 rfl) ?_
          refine va_get (D := (dC, dI)) (ci := 1) (v := .int (F 0)) (C := RX1) (T := TX1) (N := 18) hx hb hts iw_c_X1_nearest_wsX10 hown hK hP 0 rfl rfl 0 (by decide) (hts _ wd_c_X1_nearest_X1_nearest_5) (fun _ h9 => h9) rfl dX1_nearest_54 ?_
          refine pt_top (y := nI ax) h0 ?_
          refine lv_iload_n hx hb dX1_nearest_57 rfl (lv_at hl 2 rfl) ?_
          refine lv_iload_n hx hb dX1_nearest_58 rfl (lv_at hl 3 rfl) ?_
          refine lv_iload_n hx hb dX1_nearest_59 rfl (lv_at hl 4 rfl) ?_
          refine pt_rdl (va_runVN (As := [.int (nI i), .int (nI ax), .int x, .int y, .int z]) (rest := [.int (nI i), .ref (a 17)]) ⟨hx, hb, hml, hown, hts⟩ (c_X0_squareTo l dC dI (pt_xt c) (pt_xw a c F A Qi) 2 3 1 (a 4) (a 24) (c 4) 384 (A 4) rfl rfl rfl (by decide) i ax x y z (by omega) hax) ⟨va_cnB 5 hts gX1_nearest_X0_squareTo_n121 rfl rfl rfl (pt_nest hN 8 rfl) (hts _ wd_c_X1_nearest_X1_nearest_6) (by decide +kernel) ⟨Nat.le_of_ble_eq_true rfl, Nat.le_of_ble_eq_true rfl⟩, (hts _ wd_c_X1_nearest_X1_nearest_7), (hts _ wd_c_X1_nearest_X1_nearest_8)⟩ (pt_pv0 hP hK hN (q0 := 2) rfl) rfl rfl hl.1 rfl (lv_room (Nat.le_of_ble_eq_true rfl)) dX1_nearest_60 ⟨Nat.le_of_ble_eq_true rfl, Nat.le_of_ble_eq_true rfl⟩) (fun r60 hr60 => ?_)
          refine pt_topl (y := (pt_sqt ax (fun q => A 4 (i * 6 + q * 2 + 0)) (fun q => A 4 (i * 6 + q * 2 + 1)) x y z)) hr60 ?_
          obtain ⟨Q1, eQ1⟩ : ∃ zz, zz = vp_updL Qi i (pt_sqt ax (fun q => A 4 (i * 6 + q * 2 + 0)) (fun q => A 4 (i * 6 + q * 2 + 1)) x y z) := ⟨_, rfl⟩
          refine pt_last hx hb hK hP hD hS 15 11 rfl rfl i rfl (by omega) (by decide) (ws' := (pt_xw a c F A Q1)) (by rw [eQ1]; rfl) dX1_nearest_63 (fun H locs hP hD hS => ?_)
          refine lv_iinc (v := nI (i + 1)) (lv' := [(5, .int (nI (i + 1))), (0, .ref (a 0)), (1, .int x), (2, .int y), (3, .int z), (4, .int k)]) hx hb dX1_nearest_64 hl (k := 0) rfl (nI_1 _) (by decide) rfl (fun ls hl => ?_)
          refine lv_goto (tgt := 32) hx hb dX1_nearest_67 (by decide) ?_
          exact ih (i + 1, Q1) _ _ _ ⟨by show i + 1 ≤ md; omega, fun t ht => by show Q1 t = _; rw [eQ1]; exact pt_updL_s hsq rfl t ht, hP, hD, hS, lv_sub hl [0, 1, 2, 3, 4, 5] rfl⟩ (by show md - (i + 1) < md - i; omega)
      · have d23 := hr20.f c23
        refine lv_bipush (v := (-2)) hx hb dX1_nearest_26 (by decide) ?_
        exact W.iret (v := (-2)) hx hb hr (fun zt zh zW => ⟨⟨_, (F, A, Q), rfl, ⟨rfl, rfl, Or.inr (Or.inl ⟨hin, d23, rfl⟩)⟩, by show va_P _ _ _ zt.heap; rw [zh]; exact hP⟩, hS.F zh⟩) hS.2.2 dX1_nearest_28
    · refine lv_iconst (v := (-1)) hx hb dX1_nearest_14 (by decide) ?_
      exact W.iret (v := (-1)) hx hb hr (fun zt zh zW => ⟨⟨_, (F, A, Q), rfl, ⟨rfl, rfl, Or.inl ⟨by first | exact pt_in_hi (Int32.not_lt.mp c11) (by omega) | exact pt_in_lo c2 (by omega), rfl⟩⟩, by show va_P _ _ _ zt.heap; rw [zh]; exact hP⟩, hS.F zh⟩) hS.2.2 dX1_nearest_15
