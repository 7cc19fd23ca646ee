theorem wd_c_X0_at_X0_at_0 : Cond.fieldLink RX0 11 "PointTrees$Boxes" "ends" "[I" ∈ wsX0_at := by decide +kernel
theorem iw_c_X0_at_wsX00 : ∀ w ∈ wsX00, w ∈ wsX0_at := fun _ h => List.mem_cons_of_mem _ (List.mem_append_right _ h)
set_option maxHeartbeats 4000000 in
set_option maxRecDepth 100000 in
/-- Boxes.at -/
theorem c_X0_at (l : Launch) (dC : Nat → ClassId) (dI : Nat → Nat → Nat) (tys : List (ClassId × FieldType)) (ws : va_W) (q0 q1 t0 h b : Nat) (cA : ClassId) (n : Nat) (f : Nat → Int32) (e0 : ws[q0]? = some (h, .inr (0, [.ref b]))) (e1 : ws[q1]? = some (b, .inl (cA, n, .inl f))) (et : tys[t0]? = some (cA, .int)) (hn : n < 2 ^ 31) (x y z : Nat) (hk : x * 6 + y * 2 + z < n) : Met l yX0_at wsX0_at (pt_rm 0) (pt_R (dC, dI) vwCl tys ws pt_nw [.ref h, .int (nI x), .int (nI y), .int (nI z)]) (vp_Si (fun r => r = f (x * 6 + y * 2 + z))) 0 0 (fun _ => False) := by
  refine Met.ofW (cc := cX0_at) (maxL := 4) (ret := (some .int)) (by decide) rfl ?_
  intro p e s m args below meth cd s₁ B hml hv
  obtain ⟨rfl, hP, hK, hN⟩ := hv
  have hx := B.exec
  have hb := B.bytes
  have hr := B.returns
  have hts := atoms_spec (ws := wsX0_at) B.pre
  have hown : s.vm.findClass RX0 = some m.cls := findClass_of_methodNamed B.named
  have hlocks := B.notSynchronized
  have hl := lv_entry ([.ref h, .int (nI x), .int (nI y), .int (nI z)]) (n := 4) (Nat.le_of_ble_eq_true rfl)
  rw [lg_entry_eq]
  generalize (lg_sl ([.ref h, .int (nI x), .int (nI y), .int (nI z)]) ++ List.replicate (4 - (lg_sl ([.ref h, .int (nI x), .int (nI y), .int (nI z)])).length) Slot.unset).toArray = ls at hl ⊢
  have hl : lv_has ls 4 [(0, .ref h), (1, .int (nI x)), (2, .int (nI y)), (3, .int (nI z))] := hl
  refine lv_aload_n hx hb dX0_at_0 rfl (lv_at hl 0 rfl) ?_
  refine va_get (D := (dC, dI)) (ci := 0) (v := .ref b) (C := RX0) (T := TX0) (N := 1) hx hb hts iw_c_X0_at_wsX00 hown hK hP q0 e0 rfl 0 (by decide) (hts _ wd_c_X0_at_X0_at_0) (fun _ h9 => h9) rfl dX0_at_1 ?_
  refine lv_iload_n hx hb dX0_at_4 rfl (lv_at hl 1 rfl) ?_
  refine lv_bipush (v := nI 6) hx hb dX0_at_5 (by decide) ?_
  refine lv_imul hx hb dX0_at_7 ?_
  refine pt_top (y := nI (x * 6)) (pk_mul _ _) ?_
  refine lv_iload_n hx hb dX0_at_8 rfl (lv_at hl 2 rfl) ?_
  refine lv_iconst (v := nI 2) hx hb dX0_at_9 (by decide) ?_
  refine lv_imul hx hb dX0_at_10 ?_
  refine pt_top (y := nI (y * 2)) (pk_mul _ _) ?_
  refine lv_iadd hx hb dX0_at_11 ?_
  refine pt_top (y := nI ((x * 6) + (y * 2))) (nI_add _ _) ?_
  refine lv_iload_n hx hb dX0_at_12 rfl (lv_at hl 3 rfl) ?_
  refine lv_iadd hx hb dX0_at_13 ?_
  refine pt_top (y := nI (((x * 6) + (y * 2)) + z)) (nI_add _ _) ?_
  refine pt_iald hx hb hK hP q1 t0 e1 et (x * 6 + y * 2 + z) rfl hk hn dX0_at_14 ?_
  exact W.iret (v := (f (x * 6 + y * 2 + z))) hx hb hr (fun t ht hW => ⟨_, rfl, rfl, ht⟩) (fun q h => by cases h) dX0_at_15

theorem iw_c_X0_sum_wsX00 : ∀ w ∈ wsX00, w ∈ wsX0_sum := fun _ h => List.mem_cons_of_mem _ (List.mem_append_right _ h)
set_option maxHeartbeats 4000000 in
set_option maxRecDepth 100000 in
/-- Boxes.sum -/
theorem c_X0_sum (l : Launch) (dC : Nat → ClassId) (dI : Nat → Nat → Nat) (tys : List (ClassId × FieldType)) (ws : va_W) (q0 q1 t0 h b : Nat) (cA : ClassId) (n : Nat) (f : Nat → Int32) (e0 : ws[q0]? = some (h, .inr (0, [.ref b]))) (e1 : ws[q1]? = some (b, .inl (cA, n, .inl f))) (et : tys[t0]? = some (cA, .int)) (hn : n < 2 ^ 31) (x y : Nat) (hk : x * 6 + y * 2 + 1 < n) : Met l yX0_sum wsX0_sum (pt_rm 1) (pt_R (dC, dI) vwCl tys ws pt_nw [.ref h, .int (nI x), .int (nI y)]) (vp_Si (fun r => r = f (x * 6 + y * 2 + 0) + f (x * 6 + y * 2 + 1))) 0 0 (fun _ => False) := by
  refine Met.ofW (cc := cX0_sum) (maxL := 3) (ret := (some .int)) (by decide) rfl ?_
  intro p e s m args below meth cd s₁ B hml hv
  obtain ⟨rfl, hP, hK, hN⟩ := hv
  have hx := B.exec
  have hb := B.bytes
  have hr := B.returns
  have hts := atoms_spec (ws := wsX0_sum) B.pre
  have hown : s.vm.findClass RX0 = some m.cls := findClass_of_methodNamed B.named
  have hlocks := B.notSynchronized
  have hl := lv_entry ([.ref h, .int (nI x), .int (nI y)]) (n := 3) (Nat.le_of_ble_eq_true rfl)
  rw [lg_entry_eq]
  generalize (lg_sl ([.ref h, .int (nI x), .int (nI y)]) ++ List.replicate (3 - (lg_sl ([.ref h, .int (nI x), .int (nI y)])).length) Slot.unset).toArray = ls at hl ⊢
  have hl : lv_has ls 3 [(0, .ref h), (1, .int (nI x)), (2, .int (nI y))] := hl
  refine lv_aload_n hx hb dX0_sum_0 rfl (lv_at hl 0 rfl) ?_
  refine lv_iload_n hx hb dX0_sum_1 rfl (lv_at hl 1 rfl) ?_
  refine lv_iload_n hx hb dX0_sum_2 rfl (lv_at hl 2 rfl) ?_
  refine lv_iconst (v := nI 0) hx hb dX0_sum_3 (by decide) ?_
  refine pt_rdi (va_runV (As := [.int (nI x), .int (nI y), .int (nI 0)]) (rest := []) ⟨hx, hb, hml, hown, hts⟩ (c_X0_at l dC dI (tys) (ws) q0 q1 t0 h b cA n f e0 e1 et hn x y 0 (by omega)) (cwV 3 hts gX0_sum_X0_at rfl rfl rfl (by decide +kernel) ⟨Nat.le_of_ble_eq_true rfl, Nat.le_of_ble_eq_true rfl⟩) (pt_pv0 hP hK hN (q0 := q0) e0) rfl rfl hl.1 rfl (lv_room (Nat.le_of_ble_eq_true rfl)) dX0_sum_4 ⟨Nat.le_of_ble_eq_true rfl, Nat.le_of_ble_eq_true rfl⟩) (fun r4 hr4 => ?_)
  refine pt_top (y := (f (x * 6 + y * 2 + 0))) hr4 ?_
  refine lv_aload_n hx hb dX0_sum_7 rfl (lv_at hl 0 rfl) ?_
  refine lv_iload_n hx hb dX0_sum_8 rfl (lv_at hl 1 rfl) ?_
  refine lv_iload_n hx hb dX0_sum_9 rfl (lv_at hl 2 rfl) ?_
  refine lv_iconst (v := nI 1) hx hb dX0_sum_10 (by decide) ?_
  refine pt_rdi (va_runV (As := [.int (nI x), .int (nI y), .int (nI 1)]) (rest := [.int (f (x * 6 + y * 2 + 0))]) ⟨hx, hb, hml, hown, hts⟩ (c_X0_at l dC dI (tys) (ws) q0 q1 t0 h b cA n f e0 e1 et hn x y 1 (by omega)) (cwV 3 hts gX0_sum_X0_at rfl rfl rfl (by decide +kernel) ⟨Nat.le_of_ble_eq_true rfl, Nat.le_of_ble_eq_true rfl⟩) (pt_pv0 hP hK hN (q0 := q0) e0) rfl rfl hl.1 rfl (lv_room (Nat.le_of_ble_eq_true rfl)) dX0_sum_11 ⟨Nat.le_of_ble_eq_true rfl, Nat.le_of_ble_eq_true rfl⟩) (fun r11 hr11 => ?_)
  refine pt_top (y := (f (x * 6 + y * 2 + 1))) hr11 ?_
  refine lv_iadd hx hb dX0_sum_14 ?_
  exact W.iret (v := ((f (x * 6 + y * 2 + 0)) + (f (x * 6 + y * 2 + 1)))) hx hb hr (fun t ht hW => ⟨_, rfl, rfl, ht⟩) (fun q h => by cases h) dX0_sum_15

theorem iw_c_X0_meet_wsX00 : ∀ w ∈ wsX00, w ∈ wsX0_meet := fun _ h => List.mem_cons_of_mem _ (List.mem_append_right _ h)
set_option maxHeartbeats 4000000 in
set_option maxRecDepth 100000 in
/-- Boxes.meet -/
theorem c_X0_meet (l : Launch) (dC : Nat → ClassId) (dI : Nat → Nat → Nat) (tys : List (ClassId × FieldType)) (ws : va_W) (q0 q1 t0 h b : Nat) (cA : ClassId) (n : Nat) (f : Nat → Int32) (e0 : ws[q0]? = some (h, .inr (0, [.ref b]))) (e1 : ws[q1]? = some (b, .inl (cA, n, .inl f))) (et : tys[t0]? = some (cA, .int)) (hn : n < 2 ^ 31) (q2 q3 t1 h2 b2 : Nat) (cB : ClassId) (n2 : Nat) (g : Nat → Int32) (e2 : ws[q2]? = some (h2, .inr (0, [.ref b2]))) (e3 : ws[q3]? = some (b2, .inl (cB, n2, .inl g))) (et2 : tys[t1]? = some (cB, .int)) (hn2 : n2 < 2 ^ 31) (x y ax : Nat) (hx1 : x * 6 + 5 < n) (hy1 : y * 6 + 5 < n2) (hax : ax ≤ 3) : Met l yX0_meet wsX0_meet (pt_rm 1) (pt_R (dC, dI) vwCl tys ws pt_nw [.ref h, .int (nI x), .ref h2, .int (nI y), .int (nI ax)]) (vp_Si (fun r => pt_B r (∀ a, a < ax → f (x * 6 + a * 2 + 0) ≤ g (y * 6 + a * 2 + 1) ∧ g (y * 6 + a * 2 + 0) ≤ f (x * 6 + a * 2 + 1)))) 0 0 (fun _ => False) := by
  refine Met.ofW (cc := cX0_meet) (maxL := 6) (ret := (some .boolean)) (by decide) rfl ?_
  intro p e s m args below meth cd s₁ B hml hv
  obtain ⟨rfl, hP, hK, hN⟩ := hv
  have hx := B.exec
  have hb := B.bytes
  have hr := B.returns
  have hts := atoms_spec (ws := wsX0_meet) B.pre
  have hown : s.vm.findClass RX0 = some m.cls := findClass_of_methodNamed B.named
  have hlocks := B.notSynchronized
  have hl := lv_entry ([.ref h, .int (nI x), .ref h2, .int (nI y), .int (nI ax)]) (n := 6) (Nat.le_of_ble_eq_true rfl)
  rw [lg_entry_eq]
  generalize (lg_sl ([.ref h, .int (nI x), .ref h2, .int (nI y), .int (nI ax)]) ++ List.replicate (6 - (lg_sl ([.ref h, .int (nI x), .ref h2, .int (nI y), .int (nI ax)])).length) Slot.unset).toArray = ls at hl ⊢
  have hl : lv_has ls 6 [(0, .ref h), (1, .int (nI x)), (2, .ref h2), (3, .int (nI y)), (4, .int (nI ax))] := hl
  refine lv_iconst (v := nI 0) hx hb dX0_meet_0 (by decide) ?_
  refine lv_istore (lv' := [(5, .int (nI 0)), (0, .ref h), (1, .int (nI x)), (2, .ref h2), (3, .int (nI y)), (4, .int (nI ax))]) hx hb dX0_meet_1 hl (by decide) rfl (fun ls hl => ?_)
  refine pt_loopR (fun i : Nat => ax - i) (fun i ls => i ≤ ax ∧ (∀ a, a < i → f (x * 6 + a * 2 + 0) ≤ g (y * 6 + a * 2 + 1) ∧ g (y * 6 + a * 2 + 0) ≤ f (x * 6 + a * 2 + 1)) ∧ lv_has ls 6 [(5, .int (nI i)), (0, .ref h), (1, .int (nI x)), (2, .ref h2), (3, .int (nI y)), (4, .int (nI ax))]) ?_ 0 _ ⟨by omega, fun a ha => absurd ha (Nat.not_lt_zero _), hl⟩
  intro i ls ⟨hi, hall, hl⟩ ih
  refine lv_iload hx hb dX0_meet_3 (lv_at hl 0 rfl) ?_
  refine lv_iload hx hb dX0_meet_5 (lv_at hl 5 rfl) ?_
  refine lv_icmp_ge (tgt := 56) hx hb dX0_meet_7 (by decide) (fun c7 => ?_) (fun c7 => ?_)
  · have hie : i = ax := by have := (nI_leI (by omega) (by omega)).mp c7; omega
    subst hie
    refine lv_iconst (v := 1) hx hb dX0_meet_56 (by decide) ?_
    exact W.zret (v := 1) hx hb hr rfl (fun t ht hW => ⟨_, rfl, pt_B.one hall, ht⟩) (fun q h => by cases h) dX0_meet_57
  · have hlt : i < ax := Nat.not_le.mp (fun q => c7 ((nI_leI (by omega) (by omega)).mpr q))
    refine lv_aload_n hx hb dX0_meet_10 rfl (lv_at hl 1 rfl) ?_
    refine lv_iload_n hx hb dX0_meet_11 rfl (lv_at hl 2 rfl) ?_
    refine lv_iload hx hb dX0_meet_12 (lv_at hl 0 rfl) ?_
    refine lv_iconst (v := nI 0) hx hb dX0_meet_14 (by decide) ?_
    refine pt_rdi (va_runV (As := [.int (nI x), .int (nI i), .int (nI 0)]) (rest := []) ⟨hx, hb, hml, hown, hts⟩ (c_X0_at l dC dI (tys) (ws) q0 q1 t0 h b cA n f e0 e1 et hn x i 0 (by omega)) (cwV 3 hts gX0_meet_X0_at rfl rfl rfl (by decide +kernel) ⟨Nat.le_of_ble_eq_true rfl, Nat.le_of_ble_eq_true rfl⟩) (pt_pv0 hP hK hN (q0 := q0) e0) rfl rfl hl.1 rfl (lv_room (Nat.le_of_ble_eq_true rfl)) dX0_meet_15 ⟨Nat.le_of_ble_eq_true rfl, Nat.le_of_ble_eq_true rfl⟩) (fun r15 hr15 => ?_)
    refine pt_top (y := (f (x * 6 + i * 2 + 0))) hr15 ?_
    refine lv_aload_n hx hb dX0_meet_18 rfl (lv_at hl 3 rfl) ?_
    refine lv_iload_n hx hb dX0_meet_19 rfl (lv_at hl 4 rfl) ?_
    refine lv_iload hx hb dX0_meet_20 (lv_at hl 0 rfl) ?_
    refine lv_iconst (v := nI 1) hx hb dX0_meet_22 (by decide) ?_
    refine pt_rdi (va_runV (As := [.int (nI y), .int (nI i), .int (nI 1)]) (rest := [.int (f (x * 6 + i * 2 + 0))]) ⟨hx, hb, hml, hown, hts⟩ (c_X0_at l dC dI tys ws q2 q3 t1 h2 b2 cB n2 g e2 e3 et2 hn2 y i 1 (by omega)) (cwV 3 hts gX0_meet_X0_at rfl rfl rfl (by decide +kernel) ⟨Nat.le_of_ble_eq_true rfl, Nat.le_of_ble_eq_true rfl⟩) (pt_pv0 hP hK hN (q0 := q2) e2) rfl rfl hl.1 rfl (lv_room (Nat.le_of_ble_eq_true rfl)) dX0_meet_23 ⟨Nat.le_of_ble_eq_true rfl, Nat.le_of_ble_eq_true rfl⟩) (fun r23 hr23 => ?_)
    refine pt_top (y := (g (y * 6 + i * 2 + 1))) hr23 ?_
    refine lv_icmp_gt (tgt := 48) hx hb dX0_meet_26 (by decide) (fun c26 => ?_) (fun c26 => ?_)
    · refine lv_iconst (v := 0) hx hb dX0_meet_48 (by decide) ?_
      exact W.zret (v := 0) hx hb hr rfl (fun t ht hW => ⟨_, rfl, (pt_B.zero (fun q => Int32.not_le.mpr c26 (q i hlt).1)), ht⟩) (fun q h => by cases h) dX0_meet_49
    · refine lv_aload_n hx hb dX0_meet_29 rfl (lv_at hl 3 rfl) ?_
      refine lv_iload_n hx hb dX0_meet_30 rfl (lv_at hl 4 rfl) ?_
      refine lv_iload hx hb dX0_meet_31 (lv_at hl 0 rfl) ?_
      refine lv_iconst (v := nI 0) hx hb dX0_meet_33 (by decide) ?_
      refine pt_rdi (va_runV (As := [.int (nI y), .int (nI i), .int (nI 0)]) (rest := []) ⟨hx, hb, hml, hown, hts⟩ (c_X0_at l dC dI tys ws q2 q3 t1 h2 b2 cB n2 g e2 e3 et2 hn2 y i 0 (by omega)) (cwV 3 hts gX0_meet_X0_at rfl rfl rfl (by decide +kernel) ⟨Nat.le_of_ble_eq_true rfl, Nat.le_of_ble_eq_true rfl⟩) (pt_pv0 hP hK hN (q0 := q2) e2) rfl rfl hl.1 rfl (lv_room (Nat.le_of_ble_eq_true rfl)) dX0_meet_34 ⟨Nat.le_of_ble_eq_true rfl, Nat.le_of_ble_eq_true rfl⟩) (fun r34 hr34 => ?_)
      refine pt_top (y := (g (y * 6 + i * 2 + 0))) hr34 ?_
      refine lv_aload_n hx hb dX0_meet_37 rfl (lv_at hl 1 rfl) ?_
      refine lv_iload_n hx hb dX0_meet_38 rfl (lv_at hl 2 rfl) ?_
      refine lv_iload hx hb dX0_meet_39 (lv_at hl 0 rfl) ?_
      refine lv_iconst (v := nI 1) hx hb dX0_meet_41 (by decide) ?_
      refine pt_rdi (va_runV (As := [.int (nI x), .int (nI i), .int (nI 1)]) (rest := [.int (g (y * 6 + i * 2 + 0))]) ⟨hx, hb, hml, hown, hts⟩ (c_X0_at l dC dI (tys) (ws) q0 q1 t0 h b cA n f e0 e1 et hn x i 1 (by omega)) (cwV 3 hts gX0_meet_X0_at rfl rfl rfl (by decide +kernel) ⟨Nat.le_of_ble_eq_true rfl, Nat.le_of_ble_eq_true rfl⟩) (pt_pv0 hP hK hN (q0 := q0) e0) rfl rfl hl.1 rfl (lv_room (Nat.le_of_ble_eq_true rfl)) dX0_meet_42 ⟨Nat.le_of_ble_eq_true rfl, Nat.le_of_ble_eq_true rfl⟩) (fun r42 hr42 => ?_)
      refine pt_top (y := (f (x * 6 + i * 2 + 1))) hr42 ?_
      refine lv_icmp_le (tgt := 50) hx hb dX0_meet_45 (by decide) (fun c45 => ?_) (fun c45 => ?_)
      · have hone : f (x * 6 + i * 2 + 0) ≤ g (y * 6 + i * 2 + 1) ∧ g (y * 6 + i * 2 + 0) ≤ f (x * 6 + i * 2 + 1) := ⟨Int32.not_lt.mp c26, c45⟩
        refine lv_iinc (v := nI (i + 1)) (lv' := [(5, .int (nI (i + 1))), (0, .ref h), (1, .int (nI x)), (2, .ref h2), (3, .int (nI y)), (4, .int (nI ax))]) hx hb dX0_meet_50 hl (k := 0) rfl (nI_1 _) (by decide) rfl (fun ls hl => ?_)
        refine lv_goto (tgt := 3) hx hb dX0_meet_53 (by decide) ?_
        exact ih (i + 1) _ ⟨by omega, fun a ha => (Nat.lt_succ_iff_lt_or_eq.mp ha).elim (hall a) (fun q => by subst q; exact hone), lv_sub hl [0, 1, 2, 3, 4, 5] rfl⟩ (by omega)
      · refine lv_iconst (v := 0) hx hb dX0_meet_48 (by decide) ?_
        exact W.zret (v := 0) hx hb hr rfl (fun t ht hW => ⟨_, rfl, (pt_B.zero (fun q => c45 (q i hlt).2)), ht⟩) (fun q h => by cases h) dX0_meet_49

theorem iw_c_X0_within_wsX00 : ∀ w ∈ wsX00, w ∈ wsX0_within := fun _ h => List.mem_cons_of_mem _ (List.mem_append_right _ h)
set_option maxHeartbeats 4000000 in
set_option maxRecDepth 100000 in
/-- Boxes.within -/
theorem c_X0_within (l : Launch) (dC : Nat → ClassId) (dI : Nat → Nat → Nat) (tys : List (ClassId × FieldType)) (ws : va_W) (q0 q1 t0 h b : Nat) (cA : ClassId) (n : Nat) (f : Nat → Int32) (e0 : ws[q0]? = some (h, .inr (0, [.ref b]))) (e1 : ws[q1]? = some (b, .inl (cA, n, .inl f))) (et : tys[t0]? = some (cA, .int)) (hn : n < 2 ^ 31) (q2 q3 t1 h2 b2 : Nat) (cB : ClassId) (n2 : Nat) (g : Nat → Int32) (e2 : ws[q2]? = some (h2, .inr (0, [.ref b2]))) (e3 : ws[q3]? = some (b2, .inl (cB, n2, .inl g))) (et2 : tys[t1]? = some (cB, .int)) (hn2 : n2 < 2 ^ 31) (x y ax : Nat) (hx1 : x * 6 + 5 < n) (hy1 : y * 6 + 5 < n2) (hax : ax ≤ 3) : Met l yX0_within wsX0_within (pt_rm 1) (pt_R (dC, dI) vwCl tys ws pt_nw [.ref h, .int (nI x), .ref h2, .int (nI y), .int (nI ax)]) (vp_Si (fun r => pt_B r (∀ a, a < ax → g (y * 6 + a * 2 + 0) ≤ f (x * 6 + a * 2 + 0) ∧ f (x * 6 + a * 2 + 1) ≤ g (y * 6 + a * 2 + 1)))) 0 0 (fun _ => False) := by
  refine Met.ofW (cc := cX0_within) (maxL := 6) (ret := (some .boolean)) (by decide) rfl ?_
  intro p e s m args below meth cd s₁ B hml hv
  obtain ⟨rfl, hP, hK, hN⟩ := hv
  have hx := B.exec
  have hb := B.bytes
  have hr := B.returns
  have hts := atoms_spec (ws := wsX0_within) B.pre
  have hown : s.vm.findClass RX0 = some m.cls := findClass_of_methodNamed B.named
  have hlocks := B.notSynchronized
  have hl := lv_entry ([.ref h, .int (nI x), .ref h2, .int (nI y), .int (nI ax)]) (n := 6) (Nat.le_of_ble_eq_true rfl)
  rw [lg_entry_eq]
  generalize (lg_sl ([.ref h, .int (nI x), .ref h2, .int (nI y), .int (nI ax)]) ++ List.replicate (6 - (lg_sl ([.ref h, .int (nI x), .ref h2, .int (nI y), .int (nI ax)])).length) Slot.unset).toArray = ls at hl ⊢
  have hl : lv_has ls 6 [(0, .ref h), (1, .int (nI x)), (2, .ref h2), (3, .int (nI y)), (4, .int (nI ax))] := hl
  refine lv_iconst (v := nI 0) hx hb dX0_within_0 (by decide) ?_
  refine lv_istore (lv' := [(5, .int (nI 0)), (0, .ref h), (1, .int (nI x)), (2, .ref h2), (3, .int (nI y)), (4, .int (nI ax))]) hx hb dX0_within_1 hl (by decide) rfl (fun ls hl => ?_)
  refine pt_loopR (fun i : Nat => ax - i) (fun i ls => i ≤ ax ∧ (∀ a, a < i → g (y * 6 + a * 2 + 0) ≤ f (x * 6 + a * 2 + 0) ∧ f (x * 6 + a * 2 + 1) ≤ g (y * 6 + a * 2 + 1)) ∧ lv_has ls 6 [(5, .int (nI i)), (0, .ref h), (1, .int (nI x)), (2, .ref h2), (3, .int (nI y)), (4, .int (nI ax))]) ?_ 0 _ ⟨by omega, fun a ha => absurd ha (Nat.not_lt_zero _), hl⟩
  intro i ls ⟨hi, hall, hl⟩ ih
  refine lv_iload hx hb dX0_within_3 (lv_at hl 0 rfl) ?_
  refine lv_iload hx hb dX0_within_5 (lv_at hl 5 rfl) ?_
  refine lv_icmp_ge (tgt := 56) hx hb dX0_within_7 (by decide) (fun c7 => ?_) (fun c7 => ?_)
  · have hie : i = ax := by have := (nI_leI (by omega) (by omega)).mp c7; omega
    subst hie
    refine lv_iconst (v := 1) hx hb dX0_within_56 (by decide) ?_
    exact W.zret (v := 1) hx hb hr rfl (fun t ht hW => ⟨_, rfl, pt_B.one hall, ht⟩) (fun q h => by cases h) dX0_within_57
  · have hlt : i < ax := Nat.not_le.mp (fun q => c7 ((nI_leI (by omega) (by omega)).mpr q))
    refine lv_aload_n hx hb dX0_within_10 rfl (lv_at hl 1 rfl) ?_
    refine lv_iload_n hx hb dX0_within_11 rfl (lv_at hl 2 rfl) ?_
    refine lv_iload hx hb dX0_within_12 (lv_at hl 0 rfl) ?_
    refine lv_iconst (v := nI 0) hx hb dX0_within_14 (by decide) ?_
    refine pt_rdi (va_runV (As := [.int (nI x), .int (nI i), .int (nI 0)]) (rest := []) ⟨hx, hb, hml, hown, hts⟩ (c_X0_at l dC dI (tys) (ws) q0 q1 t0 h b cA n f e0 e1 et hn x i 0 (by omega)) (cwV 3 hts gX0_within_X0_at rfl rfl rfl (by decide +kernel) ⟨Nat.le_of_ble_eq_true rfl, Nat.le_of_ble_eq_true rfl⟩) (pt_pv0 hP hK hN (q0 := q0) e0) rfl rfl hl.1 rfl (lv_room (Nat.le_of_ble_eq_true rfl)) dX0_within_15 ⟨Nat.le_of_ble_eq_true rfl, Nat.le_of_ble_eq_true rfl⟩) (fun r15 hr15 => ?_)
    refine pt_top (y := (f (x * 6 + i * 2 + 0))) hr15 ?_
    refine lv_aload_n hx hb dX0_within_18 rfl (lv_at hl 3 rfl) ?_
    refine lv_iload_n hx hb dX0_within_19 rfl (lv_at hl 4 rfl) ?_
    refine lv_iload hx hb dX0_within_20 (lv_at hl 0 rfl) ?_
    refine lv_iconst (v := nI 0) hx hb dX0_within_22 (by decide) ?_
    refine pt_rdi (va_runV (As := [.int (nI y), .int (nI i), .int (nI 0)]) (rest := [.int (f (x * 6 + i * 2 + 0))]) ⟨hx, hb, hml, hown, hts⟩ (c_X0_at l dC dI tys ws q2 q3 t1 h2 b2 cB n2 g e2 e3 et2 hn2 y i 0 (by omega)) (cwV 3 hts gX0_within_X0_at rfl rfl rfl (by decide +kernel) ⟨Nat.le_of_ble_eq_true rfl, Nat.le_of_ble_eq_true rfl⟩) (pt_pv0 hP hK hN (q0 := q2) e2) rfl rfl hl.1 rfl (lv_room (Nat.le_of_ble_eq_true rfl)) dX0_within_23 ⟨Nat.le_of_ble_eq_true rfl, Nat.le_of_ble_eq_true rfl⟩) (fun r23 hr23 => ?_)
    refine pt_top (y := (g (y * 6 + i * 2 + 0))) hr23 ?_
    refine lv_icmp_lt (tgt := 48) hx hb dX0_within_26 (by decide) (fun c26 => ?_) (fun c26 => ?_)
    · refine lv_iconst (v := 0) hx hb dX0_within_48 (by decide) ?_
      exact W.zret (v := 0) hx hb hr rfl (fun t ht hW => ⟨_, rfl, (pt_B.zero (fun q => Int32.not_le.mpr c26 (q i hlt).1)), ht⟩) (fun q h => by cases h) dX0_within_49
    · refine lv_aload_n hx hb dX0_within_29 rfl (lv_at hl 1 rfl) ?_
      refine lv_iload_n hx hb dX0_within_30 rfl (lv_at hl 2 rfl) ?_
      refine lv_iload hx hb dX0_within_31 (lv_at hl 0 rfl) ?_
      refine lv_iconst (v := nI 1) hx hb dX0_within_33 (by decide) ?_
      refine pt_rdi (va_runV (As := [.int (nI x), .int (nI i), .int (nI 1)]) (rest := []) ⟨hx, hb, hml, hown, hts⟩ (c_X0_at l dC dI (tys) (ws) q0 q1 t0 h b cA n f e0 e1 et hn x i 1 (by omega)) (cwV 3 hts gX0_within_X0_at rfl rfl rfl (by decide +kernel) ⟨Nat.le_of_ble_eq_true rfl, Nat.le_of_ble_eq_true rfl⟩) (pt_pv0 hP hK hN (q0 := q0) e0) rfl rfl hl.1 rfl (lv_room (Nat.le_of_ble_eq_true rfl)) dX0_within_34 ⟨Nat.le_of_ble_eq_true rfl, Nat.le_of_ble_eq_true rfl⟩) (fun r34 hr34 => ?_)
      refine pt_top (y := (f (x * 6 + i * 2 + 1))) hr34 ?_
      refine lv_aload_n hx hb dX0_within_37 rfl (lv_at hl 3 rfl) ?_
      refine lv_iload_n hx hb dX0_within_38 rfl (lv_at hl 4 rfl) ?_
      refine lv_iload hx hb dX0_within_39 (lv_at hl 0 rfl) ?_
      refine lv_iconst (v := nI 1) hx hb dX0_within_41 (by decide) ?_
      refine pt_rdi (va_runV (As := [.int (nI y), .int (nI i), .int (nI 1)]) (rest := [.int (f (x * 6 + i * 2 + 1))]) ⟨hx, hb, hml, hown, hts⟩ (c_X0_at l dC dI tys ws q2 q3 t1 h2 b2 cB n2 g e2 e3 et2 hn2 y i 1 (by omega)) (cwV 3 hts gX0_within_X0_at rfl rfl rfl (by decide +kernel) ⟨Nat.le_of_ble_eq_true rfl, Nat.le_of_ble_eq_true rfl⟩) (pt_pv0 hP hK hN (q0 := q2) e2) rfl rfl hl.1 rfl (lv_room (Nat.le_of_ble_eq_true rfl)) dX0_within_42 ⟨Nat.le_of_ble_eq_true rfl, Nat.le_of_ble_eq_true rfl⟩) (fun r42 hr42 => ?_)
      refine pt_top (y := (g (y * 6 + i * 2 + 1))) hr42 ?_
      refine lv_icmp_le (tgt := 50) hx hb dX0_within_45 (by decide) (fun c45 => ?_) (fun c45 => ?_)
      · have hone : g (y * 6 + i * 2 + 0) ≤ f (x * 6 + i * 2 + 0) ∧ f (x * 6 + i * 2 + 1) ≤ g (y * 6 + i * 2 + 1) := ⟨Int32.not_lt.mp c26, c45⟩
        refine lv_iinc (v := nI (i + 1)) (lv' := [(5, .int (nI (i + 1))), (0, .ref h), (1, .int (nI x)), (2, .ref h2), (3, .int (nI y)), (4, .int (nI ax))]) hx hb dX0_within_50 hl (k := 0) rfl (nI_1 _) (by decide) rfl (fun ls hl => ?_)
        refine lv_goto (tgt := 3) hx hb dX0_within_53 (by decide) ?_
        exact ih (i + 1) _ ⟨by omega, fun a ha => (Nat.lt_succ_iff_lt_or_eq.mp ha).elim (hall a) (fun q => by subst q; exact hone), lv_sub hl [0, 1, 2, 3, 4, 5] rfl⟩ (by omega)
      · refine lv_iconst (v := 0) hx hb dX0_within_48 (by decide) ?_
        exact W.zret (v := 0) hx hb hr rfl (fun t ht hW => ⟨_, rfl, (pt_B.zero (fun q => c45 (q i hlt).2)), ht⟩) (fun q h => by cases h) dX0_within_49
