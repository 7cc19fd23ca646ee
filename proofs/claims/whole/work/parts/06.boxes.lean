theorem wd_c_X0_at_X0_at_0 : Cond.fieldLink RX0 11 "PointTrees$Boxes" "ends" "[I" ∈ wsX0_at := by decide +kernel
theorem iw_c_X0_at_wsX00 : ∀ w ∈ wsX00, w ∈ wsX0_at := fun _ h => List.mem_cons_of_mem _ (List.mem_append_right _ h)
set_option maxHeartbeats 4000000 in
set_option maxRecDepth 100000 in
/-- Boxes.at -/
theorem c_X0_at (l : Launch) (dC : Nat → ClassId) (dI : Nat → Nat → Nat) (tys : List (ClassId × FieldType)) (ws : va_W) (q0 q1 t0 h b : Nat) (cA : ClassId) (n : Nat) (f : Nat → Int32) (e0 : ws[q0]? = some (h, .inr (0, [.ref b]))) (e1 : ws[q1]? = some (b, .inl (cA, n, .inl f))) (et : tys[t0]? = some (cA, .int)) (hn : n < 2 ^ 31) (x y z : Nat) (hk : x * 6 + y * 2 + z < n) : Met l yX0_at wsX0_at (pt_rm 0) (pt_R (dC, dI) vwCl tys ws pt_nw [.ref h, .int (nI x), .int (nI y), .int (nI z)]) (vp_Si (fun r => r = f (x * 6 + y * 2 + z))) 0 0 (fun _ => False) := by
  refine Met.ofW (cc := cX0_at) (maxL := 4) (ret := (some .int)) (by decide) rfl ?_
  intro p e s m args below meth cd s₁ B hml hv
  obtain ⟨rfl, hP, hK, hN⟩ := hv
  have hx := B.exec
  have hb := B.bytes
  have hr := B.returns
  have hts := atoms_spec (ws := wsX0_at) B.pre
  have hown : s.vm.findClass RX0 = some m.cls := findClass_of_methodNamed B.named
  have hlocks := B.notSynchronized
  have hl := lv_entry ([.ref h, .int (nI x), .int (nI y), .int (nI z)]) (n := 4) (Nat.le_of_ble_eq_true rfl)
  rw [lg_entry_eq]
  generalize (lg_sl ([.ref h, .int (nI x), .int (nI y), .int (nI z)]) ++ List.replicate (4 - (lg_sl ([.ref h, .int (nI x), .int (nI y), .int (nI z)])).length) Slot.unset).toArray = ls at hl ⊢
  have hl : lv_has ls 4 [(0, .ref h), (1, .int (nI x)), (2, .int (nI y)), (3, .int (nI z))] := hl
  refine lv_aload_n hx hb dX0_at_0 rfl (lv_at hl 0 rfl) ?_
  refine va_get (D := (dC, dI)) (ci := 0) (v := .ref b) (C := RX0) (T := TX0) (N := 1) hx hb hts iw_c_X0_at_wsX00 hown hK hP q0 e0 rfl 0 (by decide) (hts _ wd_c_X0_at_X0_at_0) (fun _ h9 => h9) rfl dX0_at_1 ?_
  refine lv_iload_n hx hb dX0_at_4 rfl (lv_at hl 1 rfl) ?_
  refine lv_bipush (v := nI 6) hx hb dX0_at_5 (by decide) ?_
  refine lv_imul hx hb dX0_at_7 ?_
  refine pt_top (y := nI (x * 6)) (pk_mul _ _) ?_
  refine lv_iload_n hx hb dX0_at_8 rfl (lv_at hl 2 rfl) ?_
  refine lv_iconst (v := nI 2) hx hb dX0_at_9 (by decide) ?_
  refine lv_imul hx hb dX0_at_10 ?_
  refine pt_top (y := nI (y * 2)) (pk_mul _ _) ?_
  refine lv_iadd hx hb dX0_at_11 ?_
  refine pt_top (y := nI ((x * 6) + (y * 2))) (nI_add _ _) ?_
  refine lv_iload_n hx hb dX0_at_12 rfl (lv_at hl 3 rfl) ?_
  refine lv_iadd hx hb dX0_at_13 ?_
  refine pt_top (y := nI (((x * 6) + (y * 2)) + z)) (nI_add _ _) ?_
  refine pt_iald hx hb hK hP q1 t0 e1 et (x * 6 + y * 2 + z) rfl hk hn dX0_at_14 ?_
  exact W.iret (v := (f (x * 6 + y * 2 + z))) hx hb hr (fun zt zh zW => ⟨_, rfl, rfl, zh⟩) (fun q h => by cases h) dX0_at_15

theorem iw_c_X0_sum_wsX00 : ∀ w ∈ wsX00, w ∈ wsX0_sum := fun _ h => List.mem_cons_of_mem _ (List.mem_append_right _ h)
set_option maxHeartbeats 4000000 in
set_option maxRecDepth 100000 in
/-- Boxes.sum -/
theorem c_X0_sum (l : Launch) (dC : Nat → ClassId) (dI : Nat → Nat → Nat) (tys : List (ClassId × FieldType)) (ws : va_W) (q0 q1 t0 h b : Nat) (cA : ClassId) (n : Nat) (f : Nat → Int32) (e0 : ws[q0]? = some (h, .inr (0, [.ref b]))) (e1 : ws[q1]? = some (b, .inl (cA, n, .inl f))) (et : tys[t0]? = some (cA, .int)) (hn : n < 2 ^ 31) (x y : Nat) (hk : x * 6 + y * 2 + 1 < n) : Met l yX0_sum wsX0_sum (pt_rm 1) (pt_R (dC, dI) vwCl tys ws pt_nw [.ref h, .int (nI x), .int (nI y)]) (vp_Si (fun r => r = f (x * 6 + y * 2 + 0) + f (x * 6 + y * 2 + 1))) 0 0 (fun _ => False) := by
  refine Met.ofW (cc := cX0_sum) (maxL := 3) (ret := (some .int)) (by decide) rfl ?_
  intro p e s m args below meth cd s₁ B hml hv
  obtain ⟨rfl, hP, hK, hN⟩ := hv
  have hx := B.exec
  have hb := B.bytes
  have hr := B.returns
  have hts := atoms_spec (ws := wsX0_sum) B.pre
  have hown : s.vm.findClass RX0 = some m.cls := findClass_of_methodNamed B.named
  have hlocks := B.notSynchronized
  have hl := lv_entry ([.ref h, .int (nI x), .int (nI y)]) (n := 3) (Nat.le_of_ble_eq_true rfl)
  rw [lg_entry_eq]
  generalize (lg_sl ([.ref h, .int (nI x), .int (nI y)]) ++ List.replicate (3 - (lg_sl ([.ref h, .int (nI x), .int (nI y)])).length) Slot.unset).toArray = ls at hl ⊢
  have hl : lv_has ls 3 [(0, .ref h), (1, .int (nI x)), (2, .int (nI y))] := hl
  refine lv_aload_n hx hb dX0_sum_0 rfl (lv_at hl 0 rfl) ?_
  refine lv_iload_n hx hb dX0_sum_1 rfl (lv_at hl 1 rfl) ?_
  refine lv_iload_n hx hb dX0_sum_2 rfl (lv_at hl 2 rfl) ?_
  refine lv_iconst (v := nI 0) hx hb dX0_sum_3 (by decide) ?_
  refine pt_rdi (va_runV (As := [.int (nI x), .int (nI y), .int (nI 0)]) (rest := []) ⟨hx, hb, hml, hown, hts⟩ (c_X0_at l dC dI (tys) (ws) q0 q1 t0 h b cA n f e0 e1 et hn x y 0 (by omega)) (cwV 3 hts gX0_sum_X0_at rfl rfl rfl (by decide +kernel) ⟨Nat.le_of_ble_eq_true rfl, Nat.le_of_ble_eq_true rfl⟩) (pt_pv0 hP hK hN (q0 := q0) e0) rfl rfl hl.1 rfl (lv_room (Nat.le_of_ble_eq_true rfl)) dX0_sum_4 ⟨Nat.le_of_ble_eq_true rfl, Nat.le_of_ble_eq_true rfl⟩) (fun r4 hr4 => ?_)
  refine pt_top (y := (f (x * 6 + y * 2 + 0))) hr4 ?_
  refine lv_aload_n hx hb dX0_sum_7 rfl (lv_at hl 0 rfl) ?_
  refine lv_iload_n hx hb dX0_sum_8 rfl (lv_at hl 1 rfl) ?_
  refine lv_iload_n hx hb dX0_sum_9 rfl (lv_at hl 2 rfl) ?_
  refine lv_iconst (v := nI 1) hx hb dX0_sum_10 (by decide) ?_
  refine pt_rdi (va_runV (As := [.int (nI x), .int (nI y), .int (nI 1)]) (rest := [.int (f (x * 6 + y * 2 + 0))]) ⟨hx, hb, hml, hown, hts⟩ (c_X0_at l dC dI (tys) (ws) q0 q1 t0 h b cA n f e0 e1 et hn x y 1 (by omega)) (cwV 3 hts gX0_sum_X0_at rfl rfl rfl (by decide +kernel) ⟨Nat.le_of_ble_eq_true rfl, Nat.le_of_ble_eq_true rfl⟩) (pt_pv0 hP hK hN (q0 := q0) e0) rfl rfl hl.1 rfl (lv_room (Nat.le_of_ble_eq_true rfl)) dX0_sum_11 ⟨Nat.le_of_ble_eq_true rfl, Nat.le_of_ble_eq_true rfl⟩) (fun r11 hr11 => ?_)
  refine pt_top (y := (f (x * 6 + y * 2 + 1))) hr11 ?_
  refine lv_iadd hx hb dX0_sum_14 ?_
  exact W.iret (v := ((f (x * 6 + y * 2 + 0)) + (f (x * 6 + y * 2 + 1)))) hx hb hr (fun zt zh zW => ⟨_, rfl, rfl, zh⟩) (fun q h => by cases h) dX0_sum_15

theorem iw_c_X0_meet_wsX00 : ∀ w ∈ wsX00, w ∈ wsX0_meet := fun _ h => List.mem_cons_of_mem _ (List.mem_append_right _ h)
set_option maxHeartbeats 4000000 in
set_option maxRecDepth 100000 in
/-- Boxes.meet -/
theorem c_X0_meet (l : Launch) (dC : Nat → ClassId) (dI : Nat → Nat → Nat) (tys : List (ClassId × FieldType)) (ws : va_W) (q0 q1 t0 h b : Nat) (cA : ClassId) (n : Nat) (f : Nat → Int32) (e0 : ws[q0]? = some (h, .inr (0, [.ref b]))) (e1 : ws[q1]? = some (b, .inl (cA, n, .inl f))) (et : tys[t0]? = some (cA, .int)) (hn : n < 2 ^ 31) (q2 q3 t1 h2 b2 : Nat) (cB : ClassId) (n2 : Nat) (g : Nat → Int32) (e2 : ws[q2]? = some (h2, .inr (0, [.ref b2]))) (e3 : ws[q3]? = some (b2, .inl (cB, n2, .inl g))) (et2 : tys[t1]? = some (cB, .int)) (hn2 : n2 < 2 ^ 31) (x y ax : Nat) (hx1 : x * 6 + 5 < n) (hy1 : y * 6 + 5 < n2) (hax : ax ≤ 3) : Met l yX0_meet wsX0_meet (pt_rm 1) (pt_R (dC, dI) vwCl tys ws pt_nw [.ref h, .int (nI x), .ref h2, .int (nI y), .int (nI ax)]) (vp_Si (fun r => pt_B r (∀ a, a < ax → f (x * 6 + a * 2 + 0) ≤ g (y * 6 + a * 2 + 1) ∧ g (y * 6 + a * 2 + 0) ≤ f (x * 6 + a * 2 + 1)))) 0 0 (fun _ => False) := by
  refine Met.ofW (cc := cX0_meet) (maxL := 6) (ret := (some .boolean)) (by decide) rfl ?_
  intro p e s m args below meth cd s₁ B hml hv
  obtain ⟨rfl, hP, hK, hN⟩ := hv
  have hx := B.exec
  have hb := B.bytes
  have hr := B.returns
  have hts := atoms_spec (ws := wsX0_meet) B.pre
  have hown : s.vm.findClass RX0 = some m.cls := findClass_of_methodNamed B.named
  have hlocks := B.notSynchronized
  have hl := lv_entry ([.ref h, .int (nI x), .ref h2, .int (nI y), .int (nI ax)]) (n := 6) (Nat.le_of_ble_eq_true rfl)
  rw [lg_entry_eq]
  generalize (lg_sl ([.ref h, .int (nI x), .ref h2, .int (nI y), .int (nI ax)]) ++ List.replicate (6 - (lg_sl ([.ref h, .int (nI x), .ref h2, .int (nI y), .int (nI ax)])).length) Slot.unset).toArray = ls at hl ⊢
  have hl : lv_has ls 6 [(0, .ref h), (1, .int (nI x)), (2, .ref h2), (3, .int (nI y)), (4, .int (nI ax))] := hl
  refine lv_iconst (v := nI 0) hx hb dX0_meet_0 (by decide) ?_
  refine lv_istore (lv' := [(5, .int (nI 0)), (0, .ref h), (1, .int (nI x)), (2, .ref h2), (3, .int (nI y)), (4, .int (nI ax))]) hx hb dX0_meet_1 hl (by decide) rfl (fun ls hl => ?_)
  refine pt_loopR (fun i : Nat => ax - i) (fun i ls => i ≤ ax ∧ (∀ a, a < i → f (x * 6 + a * 2 + 0) ≤ g (y * 6 + a * 2 + 1) ∧ g (y * 6 + a * 2 + 0) ≤ f (x * 6 + a * 2 + 1)) ∧ lv_has ls 6 [(5, .int (nI i)), (0, .ref h), (1, .int (nI x)), (2, .ref h2), (3, .int (nI y)), (4, .int (nI ax))]) ?_ 0 _ ⟨by omega, fun a ha => absurd ha (Nat.not_lt_zero _), hl⟩
  intro i ls ⟨hi, hall, hl⟩ ih
  refine lv_iload hx hb dX0_meet_3 (lv_at hl 0 rfl) ?_
  refine lv_iload hx hb dX0_meet_5 (lv_at hl 5 rfl) ?_
  refine lv_icmp_ge (tgt := 56) hx hb dX0_meet_7 (by decide) (fun c7 => ?_) (fun c7 => ?_)
  · have hie : i = ax := by have := (nI_leI (by omega) (by omega)).mp c7; omega
    subst hie
    refine lv_iconst (v := 1) hx hb dX0_meet_56 (by decide) ?_
    exact W.zret (v := 1) hx hb hr rfl (fun zt zh zW => ⟨_, rfl, pt_B.one hall, zh⟩) (fun q h => by cases h) dX0_meet_57
  · have hlt : i < ax := Nat.not_le.mp (fun q => c7 ((nI_leI (by omega) (by omega)).mpr q))
    refine lv_aload_n hx hb dX0_meet_10 rfl (lv_at hl 1 rfl) ?_
    refine lv_iload_n hx hb dX0_meet_11 rfl (lv_at hl 2 rfl) ?_
    refine lv_iload hx hb dX0_meet_12 (lv_at hl 0 rfl) ?_
    refine lv_iconst (v := nI 0) hx hb dX0_meet_14 (by decide) ?_
    refine pt_rdi (va_runV (As := [.int (nI x), .int (nI i), .int (nI 0)]) (rest := []) ⟨hx, hb, hml, hown, hts⟩ (c_X0_at l dC dI (tys) (ws) q0 q1 t0 h b cA n f e0 e1 et hn x i 0 (by omega)) (cwV 3 hts gX0_meet_X0_at rfl rfl rfl (by decide +kernel) ⟨Nat.le_of_ble_eq_true rfl, Nat.le_of_ble_eq_true rfl⟩) (pt_pv0 hP hK hN (q0 := q0) e0) rfl rfl hl.1 rfl (lv_room (Nat.le_of_ble_eq_true rfl)) dX0_meet_15 ⟨Nat.le_of_ble_eq_true rfl, Nat.le_of_ble_eq_true rfl⟩) (fun r15 hr15 => ?_)
    refine pt_top (y := (f (x * 6 + i * 2 + 0))) hr15 ?_
    refine lv_aload_n hx hb dX0_meet_18 rfl (lv_at hl 3 rfl) ?_
    refine lv_iload_n hx hb dX0_meet_19 rfl (lv_at hl 4 rfl) ?_
    refine lv_iload hx hb dX0_meet_20 (lv_at hl 0 rfl) ?_
    refine lv_iconst (v := nI 1) hx hb dX0_meet_22 (by decide) ?_
    refine pt_rdi (va_runV (As := [.int (nI y), .int (nI i), .int (nI 1)]) (rest := [.int (f (x * 6 + i * 2 + 0))]) ⟨hx, hb, hml, hown, hts⟩ (c_X0_at l dC dI tys ws q2 q3 t1 h2 b2 cB n2 g e2 e3 et2 hn2 y i 1 (by omega)) (cwV 3 hts gX0_meet_X0_at rfl rfl rfl (by decide +kernel) ⟨Nat.le_of_ble_eq_true rfl, Nat.le_of_ble_eq_true rfl⟩) (pt_pv0 hP hK hN (q0 := q2) e2) rfl rfl hl.1 rfl (lv_room (Nat.le_of_ble_eq_true rfl)) dX0_meet_23 ⟨Nat.le_of_ble_eq_true rfl, Nat.le_of_ble_eq_true rfl⟩) (fun r23 hr23 => ?_)
    refine pt_top (y := (g (y * 6 + i * 2 + 1))) hr23 ?_
    refine lv_icmp_gt (tgt := 48) hx hb dX0_meet_26 (by decide) (fun c26 => ?_) (fun c26 => ?_)
    · refine lv_iconst (v := 0) hx hb dX0_meet_48 (by decide) ?_
      exact W.zret (v := 0) hx hb hr rfl (fun zt zh zW => ⟨_, rfl, (pt_B.zero (fun q => Int32.not_le.mpr c26 (q i hlt).1)), zh⟩) (fun q h => by cases h) dX0_meet_49
    · refine lv_aload_n hx hb dX0_meet_29 rfl (lv_at hl 3 rfl) ?_
      refine lv_iload_n hx hb dX0_meet_30 rfl (lv_at hl 4 rfl) ?_
      refine lv_iload hx hb dX0_meet_31 (lv_at hl 0 rfl) ?_
      refine lv_iconst (v := nI 0) hx hb dX0_meet_33 (by decide) ?_
      refine pt_rdi (va_runV (As := [.int (nI y), .int (nI i), .int (nI 0)]) (rest := []) ⟨hx, hb, hml, hown, hts⟩ (c_X0_at l dC dI tys ws q2 q3 t1 h2 b2 cB n2 g e2 e3 et2 hn2 y i 0 (by omega)) (cwV 3 hts gX0_meet_X0_at rfl rfl rfl (by decide +kernel) ⟨Nat.le_of_ble_eq_true rfl, Nat.le_of_ble_eq_true rfl⟩) (pt_pv0 hP hK hN (q0 := q2) e2) rfl rfl hl.1 rfl (lv_room (Nat.le_of_ble_eq_true rfl)) dX0_meet_34 ⟨Nat.le_of_ble_eq_true rfl, Nat.le_of_ble_eq_true rfl⟩) (fun r34 hr34 => ?_)
      refine pt_top (y := (g (y * 6 + i * 2 + 0))) hr34 ?_
      refine lv_aload_n hx hb dX0_meet_37 rfl (lv_at hl 1 rfl) ?_
      refine lv_iload_n hx hb dX0_meet_38 rfl (lv_at hl 2 rfl) ?_
      refine lv_iload hx hb dX0_meet_39 (lv_at hl 0 rfl) ?_
      refine lv_iconst (v := nI 1) hx hb dX0_meet_41 (by decide) ?_
      refine pt_rdi (va_runV (As := [.int (nI x), .int (nI i), .int (nI 1)]) (rest := [.int (g (y * 6 + i * 2 + 0))]) ⟨hx, hb, hml, hown, hts⟩ (c_X0_at l dC dI (tys) (ws) q0 q1 t0 h b cA n f e0 e1 et hn x i 1 (by omega)) (cwV 3 hts gX0_meet_X0_at rfl rfl rfl (by decide +kernel) ⟨Nat.le_of_ble_eq_true rfl, Nat.le_of_ble_eq_true rfl⟩) (pt_pv0 hP hK hN (q0 := q0) e0) rfl rfl hl.1 rfl (lv_room (Nat.le_of_ble_eq_true rfl)) dX0_meet_42 ⟨Nat.le_of_ble_eq_true rfl, Nat.le_of_ble_eq_true rfl⟩) (fun r42 hr42 => ?_)
      refine pt_top (y := (f (x * 6 + i * 2 + 1))) hr42 ?_
      refine lv_icmp_le (tgt := 50) hx hb dX0_meet_45 (by decide) (fun c45 => ?_) (fun c45 => ?_)
      · have hone : f (x * 6 + i * 2 + 0) ≤ g (y * 6 + i * 2 + 1) ∧ g (y * 6 + i * 2 + 0) ≤ f (x * 6 + i * 2 + 1) := ⟨Int32.not_lt.mp c26, c45⟩
        refine lv_iinc (v := nI (i + 1)) (lv' := [(5, .int (nI (i + 1))), (0, .ref h), (1, .int (nI x)), (2, .ref h2), (3, .int (nI y)), (4, .int (nI ax))]) hx hb dX0_meet_50 hl (k := 0) rfl (nI_1 _) (by decide) rfl (fun ls hl => ?_)
        refine lv_goto (tgt := 3) hx hb dX0_meet_53 (by decide) ?_
        exact ih (i + 1) _ ⟨by omega, fun a ha => (Nat.lt_succ_iff_lt_or_eq.mp ha).elim (hall a) (fun q => by subst q; exact hone), lv_sub hl [0, 1, 2, 3, 4, 5] rfl⟩ (by omega)
      · refine lv_iconst (v := 0) hx hb dX0_meet_48 (by decide) ?_
        exact W.zret (v := 0) hx hb hr rfl (fun zt zh zW => ⟨_, rfl, (pt_B.zero (fun q => c45 (q i hlt).2)), zh⟩) (fun q h => by cases h) dX0_meet_49

theorem iw_c_X0_within_wsX00 : ∀ w ∈ wsX00, w ∈ wsX0_within := fun _ h => List.mem_cons_of_mem _ (List.mem_append_right _ h)
set_option maxHeartbeats 4000000 in
set_option maxRecDepth 100000 in
/-- Boxes.within -/
theorem c_X0_within (l : Launch) (dC : Nat → ClassId) (dI : Nat → Nat → Nat) (tys : List (ClassId × FieldType)) (ws : va_W) (q0 q1 t0 h b : Nat) (cA : ClassId) (n : Nat) (f : Nat → Int32) (e0 : ws[q0]? = some (h, .inr (0, [.ref b]))) (e1 : ws[q1]? = some (b, .inl (cA, n, .inl f))) (et : tys[t0]? = some (cA, .int)) (hn : n < 2 ^ 31) (q2 q3 t1 h2 b2 : Nat) (cB : ClassId) (n2 : Nat) (g : Nat → Int32) (e2 : ws[q2]? = some (h2, .inr (0, [.ref b2]))) (e3 : ws[q3]? = some (b2, .inl (cB, n2, .inl g))) (et2 : tys[t1]? = some (cB, .int)) (hn2 : n2 < 2 ^ 31) (x y ax : Nat) (hx1 : x * 6 + 5 < n) (hy1 : y * 6 + 5 < n2) (hax : ax ≤ 3) : Met l yX0_within wsX0_within (pt_rm 1) (pt_R (dC, dI) vwCl tys ws pt_nw [.ref h, .int (nI x), .ref h2, .int (nI y), .int (nI ax)]) (vp_Si (fun r => pt_B r (∀ a, a < ax → g (y * 6 + a * 2 + 0) ≤ f (x * 6 + a * 2 + 0) ∧ f (x * 6 + a * 2 + 1) ≤ g (y * 6 + a * 2 + 1)))) 0 0 (fun _ => False) := by
  refine Met.ofW (cc := cX0_within) (maxL := 6) (ret := (some .boolean)) (by decide) rfl ?_
  intro p e s m args below meth cd s₁ B hml hv
  obtain ⟨rfl, hP, hK, hN⟩ := hv
  have hx := B.exec
  have hb := B.bytes
  have hr := B.returns
  have hts := atoms_spec (ws := wsX0_within) B.pre
  have hown : s.vm.findClass RX0 = some m.cls := findClass_of_methodNamed B.named
  have hlocks := B.notSynchronized
  have hl := lv_entry ([.ref h, .int (nI x), .ref h2, .int (nI y), .int (nI ax)]) (n := 6) (Nat.le_of_ble_eq_true rfl)
  rw [lg_entry_eq]
  generalize (lg_sl ([.ref h, .int (nI x), .ref h2, .int (nI y), .int (nI ax)]) ++ List.replicate (6 - (lg_sl ([.ref h, .int (nI x), .ref h2, .int (nI y), .int (nI ax)])).length) Slot.unset).toArray = ls at hl ⊢
  have hl : lv_has ls 6 [(0, .ref h), (1, .int (nI x)), (2, .ref h2), (3, .int (nI y)), (4, .int (nI ax))] := hl
  refine lv_iconst (v := nI 0) hx hb dX0_within_0 (by decide) ?_
  refine lv_istore (lv' := [(5, .int (nI 0)), (0, .ref h), (1, .int (nI x)), (2, .ref h2), (3, .int (nI y)), (4, .int (nI ax))]) hx hb dX0_within_1 hl (by decide) rfl (fun ls hl => ?_)
  refine pt_loopR (fun i : Nat => ax - i) (fun i ls => i ≤ ax ∧ (∀ a, a < i → g (y * 6 + a * 2 + 0) ≤ f (x * 6 + a * 2 + 0) ∧ f (x * 6 + a * 2 + 1) ≤ g (y * 6 + a * 2 + 1)) ∧ lv_has ls 6 [(5, .int (nI i)), (0, .ref h), (1, .int (nI x)), (2, .ref h2), (3, .int (nI y)), (4, .int (nI ax))]) ?_ 0 _ ⟨by omega, fun a ha => absurd ha (Nat.not_lt_zero _), hl⟩
  intro i ls ⟨hi, hall, hl⟩ ih
  refine lv_iload hx hb dX0_within_3 (lv_at hl 0 rfl) ?_
  refine lv_iload hx hb dX0_within_5 (lv_at hl 5 rfl) ?_
  refine lv_icmp_ge (tgt := 56) hx hb dX0_within_7 (by decide) (fun c7 => ?_) (fun c7 => ?_)
  · have hie : i = ax := by have := (nI_leI (by omega) (by omega)).mp c7; omega
    subst hie
    refine lv_iconst (v := 1) hx hb dX0_within_56 (by decide) ?_
    exact W.zret (v := 1) hx hb hr rfl (fun zt zh zW => ⟨_, rfl, pt_B.one hall, zh⟩) (fun q h => by cases h) dX0_within_57
  · have hlt : i < ax := Nat.not_le.mp (fun q => c7 ((nI_leI (by omega) (by omega)).mpr q))
    refine lv_aload_n hx hb dX0_within_10 rfl (lv_at hl 1 rfl) ?_
    refine lv_iload_n hx hb dX0_within_11 rfl (lv_at hl 2 rfl) ?_
    refine lv_iload hx hb dX0_within_12 (lv_at hl 0 rfl) ?_
    refine lv_iconst (v := nI 0) hx hb dX0_within_14 (by decide) ?_
    refine pt_rdi (va_runV (As := [.int (nI x), .int (nI i), .int (nI 0)]) (rest := []) ⟨hx, hb, hml, hown, hts⟩ (c_X0_at l dC dI (tys) (ws) q0 q1 t0 h b cA n f e0 e1 et hn x i 0 (by omega)) (cwV 3 hts gX0_within_X0_at rfl rfl rfl (by decide +kernel) ⟨Nat.le_of_ble_eq_true rfl, Nat.le_of_ble_eq_true rfl⟩) (pt_pv0 hP hK hN (q0 := q0) e0) rfl rfl hl.1 rfl (lv_room (Nat.le_of_ble_eq_true rfl)) dX0_within_15 ⟨Nat.le_of_ble_eq_true rfl, Nat.le_of_ble_eq_true rfl⟩) (fun r15 hr15 => ?_)
    refine pt_top (y := (f (x * 6 + i * 2 + 0))) hr15 ?_
    refine lv_aload_n hx hb dX0_within_18 rfl (lv_at hl 3 rfl) ?_
    refine lv_iload_n hx hb dX0_within_19 rfl (lv_at hl 4 rfl) ?_
    refine lv_iload hx hb dX0_within_20 (lv_at hl 0 rfl) ?_
    refine lv_iconst (v := nI 0) hx hb dX0_within_22 (by decide) ?_
    refine pt_rdi (va_runV (As := [.int (nI y), .int (nI i), .int (nI 0)]) (rest := [.int (f (x * 6 + i * 2 + 0))]) ⟨hx, hb, hml, hown, hts⟩ (c_X0_at l dC dI tys ws q2 q3 t1 h2 b2 cB n2 g e2 e3 et2 hn2 y i 0 (by omega)) (cwV 3 hts gX0_within_X0_at rfl rfl rfl (by decide +kernel) ⟨Nat.le_of_ble_eq_true rfl, Nat.le_of_ble_eq_true rfl⟩) (pt_pv0 hP hK hN (q0 := q2) e2) rfl rfl hl.1 rfl (lv_room (Nat.le_of_ble_eq_true rfl)) dX0_within_23 ⟨Nat.le_of_ble_eq_true rfl, Nat.le_of_ble_eq_true rfl⟩) (fun r23 hr23 => ?_)
    refine pt_top (y := (g (y * 6 + i * 2 + 0))) hr23 ?_
    refine lv_icmp_lt (tgt := 48) hx hb dX0_within_26 (by decide) (fun c26 => ?_) (fun c26 => ?_)
    · refine lv_iconst (v := 0) hx hb dX0_within_48 (by decide) ?_
      exact W.zret (v := 0) hx hb hr rfl (fun zt zh zW => ⟨_, rfl, (pt_B.zero (fun q => Int32.not_le.mpr c26 (q i hlt).1)), zh⟩) (fun q h => by cases h) dX0_within_49
    · refine lv_aload_n hx hb dX0_within_29 rfl (lv_at hl 1 rfl) ?_
      refine lv_iload_n hx hb dX0_within_30 rfl (lv_at hl 2 rfl) ?_
      refine lv_iload hx hb dX0_within_31 (lv_at hl 0 rfl) ?_
      refine lv_iconst (v := nI 1) hx hb dX0_within_33 (by decide) ?_
      refine pt_rdi (va_runV (As := [.int (nI x), .int (nI i), .int (nI 1)]) (rest := []) ⟨hx, hb, hml, hown, hts⟩ (c_X0_at l dC dI (tys) (ws) q0 q1 t0 h b cA n f e0 e1 et hn x i 1 (by omega)) (cwV 3 hts gX0_within_X0_at rfl rfl rfl (by decide +kernel) ⟨Nat.le_of_ble_eq_true rfl, Nat.le_of_ble_eq_true rfl⟩) (pt_pv0 hP hK hN (q0 := q0) e0) rfl rfl hl.1 rfl (lv_room (Nat.le_of_ble_eq_true rfl)) dX0_within_34 ⟨Nat.le_of_ble_eq_true rfl, Nat.le_of_ble_eq_true rfl⟩) (fun r34 hr34 => ?_)
      refine pt_top (y := (f (x * 6 + i * 2 + 1))) hr34 ?_
      refine lv_aload_n hx hb dX0_within_37 rfl (lv_at hl 3 rfl) ?_
      refine lv_iload_n hx hb dX0_within_38 rfl (lv_at hl 4 rfl) ?_
      refine lv_iload hx hb dX0_within_39 (lv_at hl 0 rfl) ?_
      refine lv_iconst (v := nI 1) hx hb dX0_within_41 (by decide) ?_
      refine pt_rdi (va_runV (As := [.int (nI y), .int (nI i), .int (nI 1)]) (rest := [.int (f (x * 6 + i * 2 + 1))]) ⟨hx, hb, hml, hown, hts⟩ (c_X0_at l dC dI tys ws q2 q3 t1 h2 b2 cB n2 g e2 e3 et2 hn2 y i 1 (by omega)) (cwV 3 hts gX0_within_X0_at rfl rfl rfl (by decide +kernel) ⟨Nat.le_of_ble_eq_true rfl, Nat.le_of_ble_eq_true rfl⟩) (pt_pv0 hP hK hN (q0 := q2) e2) rfl rfl hl.1 rfl (lv_room (Nat.le_of_ble_eq_true rfl)) dX0_within_42 ⟨Nat.le_of_ble_eq_true rfl, Nat.le_of_ble_eq_true rfl⟩) (fun r42 hr42 => ?_)
      refine pt_top (y := (g (y * 6 + i * 2 + 1))) hr42 ?_
      refine lv_icmp_le (tgt := 50) hx hb dX0_within_45 (by decide) (fun c45 => ?_) (fun c45 => ?_)
      · have hone : g (y * 6 + i * 2 + 0) ≤ f (x * 6 + i * 2 + 0) ∧ f (x * 6 + i * 2 + 1) ≤ g (y * 6 + i * 2 + 1) := ⟨Int32.not_lt.mp c26, c45⟩
        refine lv_iinc (v := nI (i + 1)) (lv' := [(5, .int (nI (i + 1))), (0, .ref h), (1, .int (nI x)), (2, .ref h2), (3, .int (nI y)), (4, .int (nI ax))]) hx hb dX0_within_50 hl (k := 0) rfl (nI_1 _) (by decide) rfl (fun ls hl => ?_)
        refine lv_goto (tgt := 3) hx hb dX0_within_53 (by decide) ?_
        exact ih (i + 1) _ ⟨by omega, fun a ha => (Nat.lt_succ_iff_lt_or_eq.mp ha).elim (hall a) (fun q => by subst q; exact hone), lv_sub hl [0, 1, 2, 3, 4, 5] rfl⟩ (by omega)
      · refine lv_iconst (v := 0) hx hb dX0_within_48 (by decide) ?_
        exact W.zret (v := 0) hx hb hr rfl (fun zt zh zW => ⟨_, rfl, (pt_B.zero (fun q => c45 (q i hlt).2)), zh⟩) (fun q h => by cases h) dX0_within_49

theorem pt_set_eq {ws : va_W} {q b : Nat} {x y : va_E} (h : ws[q]? = some (b, x)) : (ws.set q (b, y))[q]? = some (b, y) := by
  rw [List.getElem?_set, if_pos rfl, if_pos (List.getElem?_eq_some_iff.mp h).1]
theorem pt_set_ne {ws : va_W} {q q2 : Nat} {v r : Nat × va_E} (hq : q ≠ q2) (h : ws[q2]? = some r) : (ws.set q v)[q2]? = some r := by
  rw [List.getElem?_set, if_neg hq]; exact h
theorem pt_set_o {ws : va_W} {q q2 b b2 : Nat} {o : Nat × List Value} {x y : ClassId × vp_A} (h : ws[q2]? = some (b2, .inr o)) (h1 : ws[q]? = some (b, .inl x)) : (ws.set q (b, .inl y))[q2]? = some (b2, .inr o) := by
  refine pt_set_ne (fun e => ?_) h
  rw [← e, h1] at h
  cases h
theorem pt_set_self {ws : va_W} {q : Nat} {v : Nat × va_E} (h : ws[q]? = some v) : ws.set q v = ws := by
  refine List.ext_getElem? fun i => ?_
  rw [List.getElem?_set]
  by_cases hi : q = i
  · rw [if_pos hi, ← hi, if_pos (List.getElem?_eq_some_iff.mp h).1, h]
  · rw [if_neg hi]

theorem wd_c_X0_putSpan_X0_putSpan_0 : Cond.fieldLink RX0 11 "PointTrees$Boxes" "ends" "[I" ∈ wsX0_putSpan := by decide +kernel
theorem iw_c_X0_putSpan_wsX00 : ∀ w ∈ wsX00, w ∈ wsX0_putSpan := fun _ h => List.mem_cons_of_mem _ (List.mem_append_right _ h)
set_option maxHeartbeats 4000000 in
set_option maxRecDepth 100000 in
/-- Boxes.putSpan -/
theorem c_X0_putSpan (l : Launch) (dC : Nat → ClassId) (dI : Nat → Nat → Nat) (tys : List (ClassId × FieldType)) (ws : va_W) (q0 q1 t0 h b : Nat) (cA : ClassId) (n : Nat) (f : Nat → Int32) (e0 : ws[q0]? = some (h, .inr (0, [.ref b]))) (e1 : ws[q1]? = some (b, .inl (cA, n, .inl f))) (et : tys[t0]? = some (cA, .int)) (hn : n < 2 ^ 31) (sz : Nat) (x y : Nat) (lo hi : Int32) (hk : x * 6 + y * 2 + 1 < n) : Met l yX0_putSpan wsX0_putSpan (pt_rm 0) (pt_W (dC, dI) vwCl tys ws pt_nw sz [.ref h, .int (nI x), .int (nI y), .int lo, .int hi]) (va_Qv (fun (u : (Nat → Int32)) => u = upd (upd f (x * 6 + y * 2 + 0) lo) (x * 6 + y * 2 + 1) hi) (fun u t => va_P (dC, dI) vwCl (ws.set q1 (b, .inl (cA, n, .inl u))) t.heap) (va_A ws sz)) 0 0 (va_A ws sz) := by
  refine Met.ofW (cc := cX0_putSpan) (maxL := 5) (ret := none) (by decide) rfl ?_
  intro p e s m args below meth cd s₁ B hml hv
  obtain ⟨rfl, hsz, hP, hK, hN, hD0⟩ := hv
  have hx := B.exec
  have hb := B.bytes
  have hr := B.returns
  have hts := atoms_spec (ws := wsX0_putSpan) B.pre
  have hown : s.vm.findClass RX0 = some m.cls := findClass_of_methodNamed B.named
  have hlocks := B.notSynchronized
  subst hsz
  have hD := hD0.self (sz := s.heap.size)
  generalize hAe : va_A ws s.heap.size = AA at hD ⊢
  have hA : ∀ q : Nat, s.heap.size ≤ q → AA q := fun q h => by rw [← hAe]; exact Or.inr h
  have hS : va_S AA s.heap s.heap [] := va_S.rf
  have hl := lv_entry ([.ref h, .int (nI x), .int (nI y), .int lo, .int hi]) (n := 5) (Nat.le_of_ble_eq_true rfl)
  rw [lg_entry_eq]
  generalize (lg_sl ([.ref h, .int (nI x), .int (nI y), .int lo, .int hi]) ++ List.replicate (5 - (lg_sl ([.ref h, .int (nI x), .int (nI y), .int lo, .int hi])).length) Slot.unset).toArray = ls at hl ⊢
  have hl : lv_has ls 5 [(0, .ref h), (1, .int (nI x)), (2, .int (nI y)), (3, .int lo), (4, .int hi)] := hl
  have hP : va_P (dC, dI) vwCl (ws.set q1 (b, .inl (cA, n, .inl f))) s.heap := by rw [pt_set_self e1]; exact hP
  have hD : va_D AA (ws.set q1 (b, .inl (cA, n, .inl f))) := by rw [pt_set_self e1]; exact hD
  refine lv_aload_n hx hb dX0_putSpan_0 rfl (lv_at hl 0 rfl) ?_
  refine va_get (D := (dC, dI)) (ci := 0) (v := .ref b) (C := RX0) (T := TX0) (N := 1) hx hb hts iw_c_X0_putSpan_wsX00 hown hK hP q0 (pt_set_o (ws := ws) e0 e1) rfl 0 (by decide) (hts _ wd_c_X0_putSpan_X0_putSpan_0) (fun _ h9 => h9) rfl dX0_putSpan_1 ?_
  refine lv_iload_n hx hb dX0_putSpan_4 rfl (lv_at hl 1 rfl) ?_
  refine lv_bipush (v := nI 6) hx hb dX0_putSpan_5 (by decide) ?_
  refine lv_imul hx hb dX0_putSpan_7 ?_
  refine pt_top (y := nI (x * 6)) (pk_mul _ _) ?_
  refine lv_iload_n hx hb dX0_putSpan_8 rfl (lv_at hl 2 rfl) ?_
  refine lv_iconst (v := nI 2) hx hb dX0_putSpan_9 (by decide) ?_
  refine lv_imul hx hb dX0_putSpan_10 ?_
  refine pt_top (y := nI (y * 2)) (pk_mul _ _) ?_
  refine lv_iadd hx hb dX0_putSpan_11 ?_
  refine pt_top (y := nI ((x * 6) + (y * 2))) (nI_add _ _) ?_
  refine lv_iconst (v := nI 0) hx hb dX0_putSpan_12 (by decide) ?_
  refine lv_iadd hx hb dX0_putSpan_13 ?_
  refine pt_top (y := nI (((x * 6) + (y * 2)) + 0)) (nI_add _ _) ?_
  refine lv_iload_n hx hb dX0_putSpan_14 rfl (lv_at hl 3 rfl) ?_
  obtain ⟨f1, ef1⟩ : ∃ zz, zz = upd f (x * 6 + y * 2 + 0) lo := ⟨_, rfl⟩
  refine pt_iast hx hb hK hP hD hS q1 t0 (pt_set_eq (ws := ws) e1) et (x * 6 + y * 2 + 0) rfl (by omega) hn (ws' := (ws.set q1 (b, .inl (cA, n, .inl f1)))) (by rw [List.set_set, ef1]) dX0_putSpan_15 (fun H locs hP hD hS => ?_)
  refine lv_aload_n hx hb dX0_putSpan_16 rfl (lv_at hl 0 rfl) ?_
  refine va_get (D := (dC, dI)) (ci := 0) (v := .ref b) (C := RX0) (T := TX0) (N := 1) hx hb hts iw_c_X0_putSpan_wsX00 hown hK hP q0 (pt_set_o (ws := ws) e0 e1) rfl 0 (by decide) (hts _ wd_c_X0_putSpan_X0_putSpan_0) (fun _ h9 => h9) rfl dX0_putSpan_17 ?_
  refine lv_iload_n hx hb dX0_putSpan_20 rfl (lv_at hl 1 rfl) ?_
  refine lv_bipush (v := nI 6) hx hb dX0_putSpan_21 (by decide) ?_
  refine lv_imul hx hb dX0_putSpan_23 ?_
  refine pt_top (y := nI (x * 6)) (pk_mul _ _) ?_
  refine lv_iload_n hx hb dX0_putSpan_24 rfl (lv_at hl 2 rfl) ?_
  refine lv_iconst (v := nI 2) hx hb dX0_putSpan_25 (by decide) ?_
  refine lv_imul hx hb dX0_putSpan_26 ?_
  refine pt_top (y := nI (y * 2)) (pk_mul _ _) ?_
  refine lv_iadd hx hb dX0_putSpan_27 ?_
  refine pt_top (y := nI ((x * 6) + (y * 2))) (nI_add _ _) ?_
  refine lv_iconst (v := nI 1) hx hb dX0_putSpan_28 (by decide) ?_
  refine lv_iadd hx hb dX0_putSpan_29 ?_
  refine pt_top (y := nI (((x * 6) + (y * 2)) + 1)) (nI_add _ _) ?_
  refine lv_iload hx hb dX0_putSpan_30 (lv_at hl 4 rfl) ?_
  obtain ⟨f2, ef2⟩ : ∃ zz, zz = upd f1 (x * 6 + y * 2 + 1) hi := ⟨_, rfl⟩
  refine pt_iast hx hb hK hP hD hS q1 t0 (pt_set_eq (ws := ws) e1) et (x * 6 + y * 2 + 1) rfl (by omega) hn (ws' := (ws.set q1 (b, .inl (cA, n, .inl f2)))) (by rw [List.set_set, ef2]) dX0_putSpan_32 (fun H locs hP hD hS => ?_)
  exact W.vret hx hb hr (fun zt zh zW => ⟨⟨f2, rfl, (by rw [ef2, ef1]), by show va_P _ _ _ zt.heap; rw [zh]; exact hP⟩, hS.F zh⟩) hS.2.2 dX0_putSpan_33

theorem iw_c_X0_put_wsX00 : ∀ w ∈ wsX00, w ∈ wsX0_put := fun _ h => List.mem_cons_of_mem _ (List.mem_append_right _ h)
set_option maxHeartbeats 4000000 in
set_option maxRecDepth 100000 in
/-- Boxes.put -/
theorem c_X0_put (l : Launch) (dC : Nat → ClassId) (dI : Nat → Nat → Nat) (tys : List (ClassId × FieldType)) (ws : va_W) (q0 q1 t0 h b : Nat) (cA : ClassId) (n : Nat) (f : Nat → Int32) (e0 : ws[q0]? = some (h, .inr (0, [.ref b]))) (e1 : ws[q1]? = some (b, .inl (cA, n, .inl f))) (et : tys[t0]? = some (cA, .int)) (hn : n < 2 ^ 31) (sz : Nat) (x : Nat) (x0 x1 y0 y1 z0 z1 : Int32) (hk : x * 6 + 5 < n) : Met l yX0_put wsX0_put (pt_rm 1) (pt_W (dC, dI) vwCl tys ws pt_nw sz [.ref h, .int (nI x), .int x0, .int x1, .int y0, .int y1, .int z0, .int z1]) (va_Qv (fun (u : (Nat → Int32)) => u = upd (upd (upd (upd (upd (upd f (x * 6 + 0 * 2 + 0) x0) (x * 6 + 0 * 2 + 1) x1) (x * 6 + 1 * 2 + 0) y0) (x * 6 + 1 * 2 + 1) y1) (x * 6 + 2 * 2 + 0) z0) (x * 6 + 2 * 2 + 1) z1) (fun u t => va_P (dC, dI) vwCl (ws.set q1 (b, .inl (cA, n, .inl u))) t.heap) (va_A ws sz)) 0 0 (va_A ws sz) := by
  refine Met.ofW (cc := cX0_put) (maxL := 8) (ret := none) (by decide) rfl ?_
  intro p e s m args below meth cd s₁ B hml hv
  obtain ⟨rfl, hsz, hP, hK, hN, hD0⟩ := hv
  have hx := B.exec
  have hb := B.bytes
  have hr := B.returns
  have hts := atoms_spec (ws := wsX0_put) B.pre
  have hown : s.vm.findClass RX0 = some m.cls := findClass_of_methodNamed B.named
  have hlocks := B.notSynchronized
  subst hsz
  have hD := hD0.self (sz := s.heap.size)
  generalize hAe : va_A ws s.heap.size = AA at hD ⊢
  have hA : ∀ q : Nat, s.heap.size ≤ q → AA q := fun q h => by rw [← hAe]; exact Or.inr h
  have hS : va_S AA s.heap s.heap [] := va_S.rf
  have hl := lv_entry ([.ref h, .int (nI x), .int x0, .int x1, .int y0, .int y1, .int z0, .int z1]) (n := 8) (Nat.le_of_ble_eq_true rfl)
  rw [lg_entry_eq]
  generalize (lg_sl ([.ref h, .int (nI x), .int x0, .int x1, .int y0, .int y1, .int z0, .int z1]) ++ List.replicate (8 - (lg_sl ([.ref h, .int (nI x), .int x0, .int x1, .int y0, .int y1, .int z0, .int z1])).length) Slot.unset).toArray = ls at hl ⊢
  have hl : lv_has ls 8 [(0, .ref h), (1, .int (nI x)), (2, .int x0), (3, .int x1), (4, .int y0), (5, .int y1), (6, .int z0), (7, .int z1)] := hl
  have hP : va_P (dC, dI) vwCl (ws.set q1 (b, .inl (cA, n, .inl f))) s.heap := by rw [pt_set_self e1]; exact hP
  have hD : va_D AA (ws.set q1 (b, .inl (cA, n, .inl f))) := by rw [pt_set_self e1]; exact hD
  refine lv_aload_n hx hb dX0_put_0 rfl (lv_at hl 0 rfl) ?_
  refine lv_iload_n hx hb dX0_put_1 rfl (lv_at hl 1 rfl) ?_
  refine lv_iconst (v := nI 0) hx hb dX0_put_2 (by decide) ?_
  refine lv_iload_n hx hb dX0_put_3 rfl (lv_at hl 2 rfl) ?_
  refine lv_iload_n hx hb dX0_put_4 rfl (lv_at hl 3 rfl) ?_
  refine pt_callv (wf := (fun u => (ws.set q1 (b, .inl (cA, n, .inl f))).set q1 (b, .inl (cA, n, .inl u)))) (va_runV (As := [.int (nI x), .int (nI 0), .int x0, .int x1]) (rest := []) ⟨hx, hb, hml, hown, hts⟩ (c_X0_putSpan l dC dI tys (ws.set q1 (b, .inl (cA, n, .inl f))) q0 q1 t0 h b cA n f (pt_set_o (ws := ws) e0 e1) (pt_set_eq (ws := ws) e1) et hn _ x 0 x0 x1 (by omega)) (cwV 4 hts gX0_put_X0_putSpan rfl rfl rfl (by decide +kernel) ⟨Nat.le_of_ble_eq_true rfl, Nat.le_of_ble_eq_true rfl⟩) (pt_wv0 hP hK hN hD (q0 := q0) (pt_set_o (ws := ws) e0 e1)) rfl rfl hl.1 rfl (lv_room (Nat.le_of_ble_eq_true rfl)) dX0_put_5 ⟨Nat.le_of_ble_eq_true rfl, Nat.le_of_ble_eq_true rfl⟩) hD hS hA (fun _ => pt_setaddr (pt_set_eq (ws := ws) e1)) (fun u5 H locs hr5 hP hD hS => ?_)
  rw [List.set_set] at hP hD
  obtain ⟨f1, rfl⟩ : ∃ zz, zz = u5 := ⟨_, rfl⟩
  have ef1 := hr5
  refine lv_aload_n hx hb dX0_put_8 rfl (lv_at hl 0 rfl) ?_
  refine lv_iload_n hx hb dX0_put_9 rfl (lv_at hl 1 rfl) ?_
  refine lv_iconst (v := nI 1) hx hb dX0_put_10 (by decide) ?_
  refine lv_iload hx hb dX0_put_11 (lv_at hl 4 rfl) ?_
  refine lv_iload hx hb dX0_put_13 (lv_at hl 5 rfl) ?_
  refine pt_callv (wf := (fun u => (ws.set q1 (b, .inl (cA, n, .inl f1))).set q1 (b, .inl (cA, n, .inl u)))) (va_runV (As := [.int (nI x), .int (nI 1), .int y0, .int y1]) (rest := []) ⟨hx, hb, hml, hown, hts⟩ (c_X0_putSpan l dC dI tys (ws.set q1 (b, .inl (cA, n, .inl f1))) q0 q1 t0 h b cA n f1 (pt_set_o (ws := ws) e0 e1) (pt_set_eq (ws := ws) e1) et hn _ x 1 y0 y1 (by omega)) (cwV 4 hts gX0_put_X0_putSpan rfl rfl rfl (by decide +kernel) ⟨Nat.le_of_ble_eq_true rfl, Nat.le_of_ble_eq_true rfl⟩) (pt_wv0 hP hK hN hD (q0 := q0) (pt_set_o (ws := ws) e0 e1)) rfl rfl hl.1 rfl (lv_room (Nat.le_of_ble_eq_true rfl)) dX0_put_15 ⟨Nat.le_of_ble_eq_true rfl, Nat.le_of_ble_eq_true rfl⟩) hD hS hA (fun _ => pt_setaddr (pt_set_eq (ws := ws) e1)) (fun u15 H locs hr15 hP hD hS => ?_)
  rw [List.set_set] at hP hD
  obtain ⟨f2, rfl⟩ : ∃ zz, zz = u15 := ⟨_, rfl⟩
  have ef2 := hr15
  refine lv_aload_n hx hb dX0_put_18 rfl (lv_at hl 0 rfl) ?_
  refine lv_iload_n hx hb dX0_put_19 rfl (lv_at hl 1 rfl) ?_
  refine lv_iconst (v := nI 2) hx hb dX0_put_20 (by decide) ?_
  refine lv_iload hx hb dX0_put_21 (lv_at hl 6 rfl) ?_
  refine lv_iload hx hb dX0_put_23 (lv_at hl 7 rfl) ?_
  refine pt_callv (wf := (fun u => (ws.set q1 (b, .inl (cA, n, .inl f2))).set q1 (b, .inl (cA, n, .inl u)))) (va_runV (As := [.int (nI x), .int (nI 2), .int z0, .int z1]) (rest := []) ⟨hx, hb, hml, hown, hts⟩ (c_X0_putSpan l dC dI tys (ws.set q1 (b, .inl (cA, n, .inl f2))) q0 q1 t0 h b cA n f2 (pt_set_o (ws := ws) e0 e1) (pt_set_eq (ws := ws) e1) et hn _ x 2 z0 z1 (by omega)) (cwV 4 hts gX0_put_X0_putSpan rfl rfl rfl (by decide +kernel) ⟨Nat.le_of_ble_eq_true rfl, Nat.le_of_ble_eq_true rfl⟩) (pt_wv0 hP hK hN hD (q0 := q0) (pt_set_o (ws := ws) e0 e1)) rfl rfl hl.1 rfl (lv_room (Nat.le_of_ble_eq_true rfl)) dX0_put_25 ⟨Nat.le_of_ble_eq_true rfl, Nat.le_of_ble_eq_true rfl⟩) hD hS hA (fun _ => pt_setaddr (pt_set_eq (ws := ws) e1)) (fun u25 H locs hr25 hP hD hS => ?_)
  rw [List.set_set] at hP hD
  obtain ⟨f3, rfl⟩ : ∃ zz, zz = u25 := ⟨_, rfl⟩
  have ef3 := hr25
  exact W.vret hx hb hr (fun zt zh zW => ⟨⟨f3, rfl, (by rw [ef3, ef2, ef1]), by show va_P _ _ _ zt.heap; rw [zh]; exact hP⟩, hS.F zh⟩) hS.2.2 dX0_put_28

theorem pt_cpy_step {f g : Nat → Int32} {s d i : Nat} : upd (upd (va_cpy g f s d (i * 2)) (d + i * 2 + 0) (g (s + i * 2 + 0))) (d + i * 2 + 1) (g (s + i * 2 + 1)) = va_cpy g f s d ((i + 1) * 2) := by
  funext k
  unfold upd va_cpy
  by_cases h1 : k = d + i * 2 + 1
  · subst h1
    rw [if_pos rfl, if_pos ⟨by omega, by omega⟩, show d + i * 2 + 1 - d = i * 2 + 1 by omega, Nat.add_assoc]
  · rw [if_neg h1]
    by_cases h2 : k = d + i * 2 + 0
    · subst h2
      rw [if_pos rfl, if_pos ⟨by omega, by omega⟩, show d + i * 2 + 0 - d = i * 2 + 0 by omega, Nat.add_assoc]
    · rw [if_neg h2]
      by_cases h3 : d ≤ k ∧ k < d + i * 2
      · rw [if_pos h3, if_pos ⟨h3.1, by omega⟩]
      · rw [if_neg h3, if_neg (fun q => h3 ⟨q.1, by omega⟩)]
theorem pt_cpy_0 {f g : Nat → Int32} {s d : Nat} : va_cpy g f s d (0 * 2) = f := by
  funext k
  unfold va_cpy
  rw [if_neg (fun q => by omega)]

theorem iw_c_X0_copyFrom_wsX00 : ∀ w ∈ wsX00, w ∈ wsX0_copyFrom := fun _ h => List.mem_cons_of_mem _ (List.mem_append_right _ h)
set_option maxHeartbeats 4000000 in
set_option maxRecDepth 100000 in
/-- Boxes.copyFrom -/
theorem c_X0_copyFrom (l : Launch) (dC : Nat → ClassId) (dI : Nat → Nat → Nat) (tys : List (ClassId × FieldType)) (ws : va_W) (q0 q1 t0 h b : Nat) (cA : ClassId) (n : Nat) (f : Nat → Int32) (e0 : ws[q0]? = some (h, .inr (0, [.ref b]))) (e1 : ws[q1]? = some (b, .inl (cA, n, .inl f))) (et : tys[t0]? = some (cA, .int)) (hn : n < 2 ^ 31) (q2 q3 t1 h2 b2 : Nat) (cB : ClassId) (n2 : Nat) (g : Nat → Int32) (e2 : ws[q2]? = some (h2, .inr (0, [.ref b2]))) (e3 : ws[q3]? = some (b2, .inl (cB, n2, .inl g))) (et2 : tys[t1]? = some (cB, .int)) (hn2 : n2 < 2 ^ 31) (hq : q1 ≠ q3) (sz : Nat) (x y : Nat) (hkx : x * 6 + 5 < n) (hky : y * 6 + 5 < n2) : Met l yX0_copyFrom wsX0_copyFrom (pt_rm 1) (pt_W (dC, dI) vwCl tys ws pt_nw sz [.ref h, .int (nI x), .ref h2, .int (nI y)]) (va_Qv (fun (u : (Nat → Int32)) => u = va_cpy g f (y * 6) (x * 6) (3 * 2)) (fun u t => va_P (dC, dI) vwCl (ws.set q1 (b, .inl (cA, n, .inl u))) t.heap) (va_A ws sz)) 0 0 (va_A ws sz) := by
  refine Met.ofW (cc := cX0_copyFrom) (maxL := 5) (ret := none) (by decide) rfl ?_
  intro p e s m args below meth cd s₁ B hml hv
  obtain ⟨rfl, hsz, hP, hK, hN, hD0⟩ := hv
  have hx := B.exec
  have hb := B.bytes
  have hr := B.returns
  have hts := atoms_spec (ws := wsX0_copyFrom) B.pre
  have hown : s.vm.findClass RX0 = some m.cls := findClass_of_methodNamed B.named
  have hlocks := B.notSynchronized
  subst hsz
  have hD := hD0.self (sz := s.heap.size)
  generalize hAe : va_A ws s.heap.size = AA at hD ⊢
  have hA : ∀ q : Nat, s.heap.size ≤ q → AA q := fun q h => by rw [← hAe]; exact Or.inr h
  have hS : va_S AA s.heap s.heap [] := va_S.rf
  have hl := lv_entry ([.ref h, .int (nI x), .ref h2, .int (nI y)]) (n := 5) (Nat.le_of_ble_eq_true rfl)
  rw [lg_entry_eq]
  generalize (lg_sl ([.ref h, .int (nI x), .ref h2, .int (nI y)]) ++ List.replicate (5 - (lg_sl ([.ref h, .int (nI x), .ref h2, .int (nI y)])).length) Slot.unset).toArray = ls at hl ⊢
  have hl : lv_has ls 5 [(0, .ref h), (1, .int (nI x)), (2, .ref h2), (3, .int (nI y))] := hl
  have hP : va_P (dC, dI) vwCl (ws.set q1 (b, .inl (cA, n, .inl f))) s.heap := by rw [pt_set_self e1]; exact hP
  have hD : va_D AA (ws.set q1 (b, .inl (cA, n, .inl f))) := by rw [pt_set_self e1]; exact hD
  refine lv_iconst (v := nI 0) hx hb dX0_copyFrom_0 (by decide) ?_
  refine lv_istore (lv' := [(4, .int (nI 0)), (0, .ref h), (1, .int (nI x)), (2, .ref h2), (3, .int (nI y))]) hx hb dX0_copyFrom_1 hl (by decide) rfl (fun ls hl => ?_)
  refine pt_loopW (fun q : Nat × (Nat → Int32) => 3 - q.1) (fun q ls H locs => q.1 ≤ 3 ∧ q.2 = va_cpy g f (y * 6) (x * 6) (q.1 * 2) ∧ va_P (dC, dI) vwCl (ws.set q1 (b, .inl (cA, n, .inl q.2))) H ∧ va_D AA (ws.set q1 (b, .inl (cA, n, .inl q.2))) ∧ va_S AA s.heap H locs ∧ lv_has ls 5 [(4, .int (nI q.1)), (0, .ref h), (1, .int (nI x)), (2, .ref h2), (3, .int (nI y))]) ?_ (0, f) _ _ _ ⟨Nat.zero_le 3, pt_cpy_0.symm, hP, hD, hS, hl⟩
  intro ⟨i, fu⟩ ls H locs ⟨hi, eu, hP, hD, hS, hl⟩ ih
  dsimp only at hi eu hP hD hl ih
  refine lv_iload hx hb dX0_copyFrom_3 (lv_at hl 0 rfl) ?_
  refine lv_iconst (v := nI 3) hx hb dX0_copyFrom_5 (by decide) ?_
  refine lv_icmp_ge (tgt := 38) hx hb dX0_copyFrom_6 (by decide) (fun c6 => ?_) (fun c6 => ?_)
  · have hie : i = 3 := by have := (nI_leI (by omega) (by omega)).mp c6; omega
    subst hie
    exact W.vret hx hb hr (fun zt zh zW => ⟨⟨fu, rfl, eu, by show va_P _ _ _ zt.heap; rw [zh]; exact hP⟩, hS.F zh⟩) hS.2.2 dX0_copyFrom_38
  · have hlt : i < 3 := Nat.not_le.mp (fun q => c6 ((nI_leI (by omega) (by omega)).mpr q))
    refine lv_aload_n hx hb dX0_copyFrom_9 rfl (lv_at hl 1 rfl) ?_
    refine lv_iload_n hx hb dX0_copyFrom_10 rfl (lv_at hl 2 rfl) ?_
    refine lv_iload hx hb dX0_copyFrom_11 (lv_at hl 0 rfl) ?_
    refine lv_aload_n hx hb dX0_copyFrom_13 rfl (lv_at hl 3 rfl) ?_
    refine lv_iload_n hx hb dX0_copyFrom_14 rfl (lv_at hl 4 rfl) ?_
    refine lv_iload hx hb dX0_copyFrom_15 (lv_at hl 0 rfl) ?_
    refine lv_iconst (v := nI 0) hx hb dX0_copyFrom_17 (by decide) ?_
    refine pt_rdi (va_runV (As := [.int (nI y), .int (nI i), .int (nI 0)]) (rest := [.int (nI i), .int (nI x), .ref h]) ⟨hx, hb, hml, hown, hts⟩ (c_X0_at l dC dI tys (ws.set q1 (b, .inl (cA, n, .inl fu))) q2 q3 t1 h2 b2 cB n2 g (pt_set_o (ws := ws) e2 e1) (pt_set_ne (ws := ws) hq e3) et2 hn2 y i 0 (by omega)) (cwV 3 hts gX0_copyFrom_X0_at rfl rfl rfl (by decide +kernel) ⟨Nat.le_of_ble_eq_true rfl, Nat.le_of_ble_eq_true rfl⟩) (pt_pv0 hP hK hN (q0 := q2) (pt_set_o (ws := ws) e2 e1)) rfl rfl hl.1 rfl (lv_room (Nat.le_of_ble_eq_true rfl)) dX0_copyFrom_18 ⟨Nat.le_of_ble_eq_true rfl, Nat.le_of_ble_eq_true rfl⟩) (fun r18 hr18 => ?_)
    refine pt_top (y := (g (y * 6 + i * 2 + 0))) hr18 ?_
    refine lv_aload_n hx hb dX0_copyFrom_21 rfl (lv_at hl 3 rfl) ?_
    refine lv_iload_n hx hb dX0_copyFrom_22 rfl (lv_at hl 4 rfl) ?_
    refine lv_iload hx hb dX0_copyFrom_23 (lv_at hl 0 rfl) ?_
    refine lv_iconst (v := nI 1) hx hb dX0_copyFrom_25 (by decide) ?_
    refine pt_rdi (va_runV (As := [.int (nI y), .int (nI i), .int (nI 1)]) (rest := [.int (g (y * 6 + i * 2 + 0)), .int (nI i), .int (nI x), .ref h]) ⟨hx, hb, hml, hown, hts⟩ (c_X0_at l dC dI tys (ws.set q1 (b, .inl (cA, n, .inl fu))) q2 q3 t1 h2 b2 cB n2 g (pt_set_o (ws := ws) e2 e1) (pt_set_ne (ws := ws) hq e3) et2 hn2 y i 1 (by omega)) (cwV 3 hts gX0_copyFrom_X0_at rfl rfl rfl (by decide +kernel) ⟨Nat.le_of_ble_eq_true rfl, Nat.le_of_ble_eq_true rfl⟩) (pt_pv0 hP hK hN (q0 := q2) (pt_set_o (ws := ws) e2 e1)) rfl rfl hl.1 rfl (lv_room (Nat.le_of_ble_eq_true rfl)) dX0_copyFrom_26 ⟨Nat.le_of_ble_eq_true rfl, Nat.le_of_ble_eq_true rfl⟩) (fun r26 hr26 => ?_)
    refine pt_top (y := (g (y * 6 + i * 2 + 1))) hr26 ?_
    refine pt_callv (wf := (fun u => (ws.set q1 (b, .inl (cA, n, .inl fu))).set q1 (b, .inl (cA, n, .inl u)))) (va_runV (As := [.int (nI x), .int (nI i), .int (g (y * 6 + i * 2 + 0)), .int (g (y * 6 + i * 2 + 1))]) (rest := []) ⟨hx, hb, hml, hown, hts⟩ (c_X0_putSpan l dC dI tys (ws.set q1 (b, .inl (cA, n, .inl fu))) q0 q1 t0 h b cA n fu (pt_set_o (ws := ws) e0 e1) (pt_set_eq (ws := ws) e1) et hn _ x i (g (y * 6 + i * 2 + 0)) (g (y * 6 + i * 2 + 1)) (by omega)) (cwV 4 hts gX0_copyFrom_X0_putSpan rfl rfl rfl (by decide +kernel) ⟨Nat.le_of_ble_eq_true rfl, Nat.le_of_ble_eq_true rfl⟩) (pt_wv0 hP hK hN hD (q0 := q0) (pt_set_o (ws := ws) e0 e1)) rfl rfl hl.1 rfl (lv_room (Nat.le_of_ble_eq_true rfl)) dX0_copyFrom_29 ⟨Nat.le_of_ble_eq_true rfl, Nat.le_of_ble_eq_true rfl⟩) hD hS hA (fun _ => pt_setaddr (pt_set_eq (ws := ws) e1)) (fun u29 H locs hr29 hP hD hS => ?_)
    rw [List.set_set] at hP hD
    obtain ⟨f1, rfl⟩ : ∃ zz, zz = u29 := ⟨_, rfl⟩
    have ef1 := hr29
    refine lv_iinc (v := nI (i + 1)) (lv' := [(4, .int (nI (i + 1))), (0, .ref h), (1, .int (nI x)), (2, .ref h2), (3, .int (nI y))]) hx hb dX0_copyFrom_32 hl (k := 0) rfl (nI_1 _) (by decide) rfl (fun ls hl => ?_)
    refine lv_goto (tgt := 3) hx hb dX0_copyFrom_35 (by decide) ?_
    exact ih (i + 1, f1) _ _ _ ⟨by show i + 1 ≤ 3; omega, by show f1 = _; rw [ef1, eu]; exact pt_cpy_step, hP, hD, hS, lv_sub hl [0, 1, 2, 3, 4] rfl⟩ (by show 3 - (i + 1) < 3 - i; omega)

/-- the ends of a box at d of f, widened by the box at s of g: of the first m of them -/
def pt_wd (f g : Nat → Int32) (s d m : Nat) : Nat → Int32 := fun k => if d ≤ k ∧ k < d + m then (if (k - d) % 2 = 0 then (if g (s + (k - d)) < f k then g (s + (k - d)) else f k) else (if f k < g (s + (k - d)) then g (s + (k - d)) else f k)) else f k
theorem pt_wd_0 {f g : Nat → Int32} {s d : Nat} : pt_wd f g s d (0 * 2) = f := by
  funext k
  unfold pt_wd
  rw [if_neg (fun q => by omega)]
theorem pt_wd_out {f g : Nat → Int32} {s d m k : Nat} (h : ¬ (d ≤ k ∧ k < d + m)) : pt_wd f g s d m k = f k := by
  unfold pt_wd; rw [if_neg h]
theorem pt_wd_hi {f g : Nat → Int32} {s d i : Nat} : pt_wd f g s d ((i + 1) * 2) (d + i * 2 + 1) = if f (d + i * 2 + 1) < g (s + i * 2 + 1) then g (s + i * 2 + 1) else f (d + i * 2 + 1) := by
  unfold pt_wd
  rw [if_pos (show d ≤ d + i * 2 + 1 ∧ d + i * 2 + 1 < d + (i + 1) * 2 from ⟨by omega, by omega⟩), show d + i * 2 + 1 - d = i * 2 + 1 by omega, if_neg (show ¬ (i * 2 + 1) % 2 = 0 by omega), Nat.add_assoc s]
theorem pt_wd_lo {f g : Nat → Int32} {s d i : Nat} : pt_wd f g s d ((i + 1) * 2) (d + i * 2 + 0) = if g (s + i * 2 + 0) < f (d + i * 2 + 0) then g (s + i * 2 + 0) else f (d + i * 2 + 0) := by
  unfold pt_wd
  rw [if_pos (show d ≤ d + i * 2 + 0 ∧ d + i * 2 + 0 < d + (i + 1) * 2 from ⟨by omega, by omega⟩), show d + i * 2 + 0 - d = i * 2 + 0 by omega, if_pos (show (i * 2 + 0) % 2 = 0 by omega), Nat.add_assoc s]
theorem pt_wd_step {f g : Nat → Int32} {s d i : Nat} : upd (upd (pt_wd f g s d (i * 2)) (d + i * 2 + 0) (if g (s + i * 2 + 0) < pt_wd f g s d (i * 2) (d + i * 2 + 0) then g (s + i * 2 + 0) else pt_wd f g s d (i * 2) (d + i * 2 + 0))) (d + i * 2 + 1) (if pt_wd f g s d (i * 2) (d + i * 2 + 1) < g (s + i * 2 + 1) then g (s + i * 2 + 1) else pt_wd f g s d (i * 2) (d + i * 2 + 1)) = pt_wd f g s d ((i + 1) * 2) := by
  rw [pt_wd_out (k := d + i * 2 + 0) (by omega), pt_wd_out (k := d + i * 2 + 1) (by omega)]
  funext k
  by_cases h1 : k = d + i * 2 + 1
  · subst h1
    rw [pt_upd, pt_wd_hi]
  · rw [pt_upd_ne h1]
    by_cases h2 : k = d + i * 2 + 0
    · subst h2
      rw [pt_upd, pt_wd_lo]
    · rw [pt_upd_ne h2]
      by_cases h3 : d ≤ k ∧ k < d + i * 2
      · unfold pt_wd
        rw [if_pos h3, if_pos (show d ≤ k ∧ k < d + (i + 1) * 2 from ⟨h3.1, by omega⟩)]
      · rw [pt_wd_out h3, pt_wd_out (fun q => h3 ⟨q.1, by omega⟩)]

theorem wd_c_X0_widen_X0_widen_0 : Cond.methodLink RX0 23 Lib.Math.min.name ∈ wsX0_widen := by decide +kernel
theorem wd_c_X0_widen_X0_widen_1 : Cond.static Lib.Math.min.name ∈ wsX0_widen := by decide +kernel
theorem wd_c_X0_widen_X0_widen_2 : Cond.initialized "java/lang/Math" ∈ wsX0_widen := by decide +kernel
theorem wd_c_X0_widen_X0_widen_3 : Cond.code Lib.Math.min.name Lib.Math.min.code 2 (some .int) ∈ wsX0_widen := by decide +kernel
theorem wd_c_X0_widen_X0_widen_4 : Cond.methodLink RX0 29 Lib.Math.max.name ∈ wsX0_widen := by decide +kernel
theorem wd_c_X0_widen_X0_widen_5 : Cond.static Lib.Math.max.name ∈ wsX0_widen := by decide +kernel
theorem wd_c_X0_widen_X0_widen_6 : Cond.code Lib.Math.max.name Lib.Math.max.code 2 (some .int) ∈ wsX0_widen := by decide +kernel
theorem iw_c_X0_widen_wsX00 : ∀ w ∈ wsX00, w ∈ wsX0_widen := fun _ h => List.mem_cons_of_mem _ (List.mem_append_right _ h)
set_option maxHeartbeats 4000000 in
set_option maxRecDepth 100000 in
/-- Boxes.widen -/
theorem c_X0_widen (l : Launch) (dC : Nat → ClassId) (dI : Nat → Nat → Nat) (tys : List (ClassId × FieldType)) (ws : va_W) (q0 q1 t0 h b : Nat) (cA : ClassId) (n : Nat) (f : Nat → Int32) (e0 : ws[q0]? = some (h, .inr (0, [.ref b]))) (e1 : ws[q1]? = some (b, .inl (cA, n, .inl f))) (et : tys[t0]? = some (cA, .int)) (hn : n < 2 ^ 31) (q2 q3 t1 h2 b2 : Nat) (cB : ClassId) (n2 : Nat) (g : Nat → Int32) (e2 : ws[q2]? = some (h2, .inr (0, [.ref b2]))) (e3 : ws[q3]? = some (b2, .inl (cB, n2, .inl g))) (et2 : tys[t1]? = some (cB, .int)) (hn2 : n2 < 2 ^ 31) (hq : q1 ≠ q3) (sz : Nat) (x y : Nat) (hkx : x * 6 + 5 < n) (hky : y * 6 + 5 < n2) : Met l yX0_widen wsX0_widen (pt_rm 1) (pt_W (dC, dI) vwCl tys ws pt_nw sz [.ref h, .int (nI x), .ref h2, .int (nI y)]) (va_Qv (fun (u : (Nat → Int32)) => u = pt_wd f g (y * 6) (x * 6) (3 * 2)) (fun u t => va_P (dC, dI) vwCl (ws.set q1 (b, .inl (cA, n, .inl u))) t.heap) (va_A ws sz)) 0 0 (va_A ws sz) := by
  refine Met.ofW (cc := cX0_widen) (maxL := 7) (ret := none) (by decide) rfl ?_
  intro p e s m args below meth cd s₁ B hml hv
  obtain ⟨rfl, hsz, hP, hK, hN, hD0⟩ := hv
  have hx := B.exec
  have hb := B.bytes
  have hr := B.returns
  have hts := atoms_spec (ws := wsX0_widen) B.pre
  have hown : s.vm.findClass RX0 = some m.cls := findClass_of_methodNamed B.named
  have hlocks := B.notSynchronized
  subst hsz
  have hD := hD0.self (sz := s.heap.size)
  generalize hAe : va_A ws s.heap.size = AA at hD ⊢
  have hA : ∀ q : Nat, s.heap.size ≤ q → AA q := fun q h => by rw [← hAe]; exact Or.inr h
  have hS : va_S AA s.heap s.heap [] := va_S.rf
  have hl := lv_entry ([.ref h, .int (nI x), .ref h2, .int (nI y)]) (n := 7) (Nat.le_of_ble_eq_true rfl)
  rw [lg_entry_eq]
  generalize (lg_sl ([.ref h, .int (nI x), .ref h2, .int (nI y)]) ++ List.replicate (7 - (lg_sl ([.ref h, .int (nI x), .ref h2, .int (nI y)])).length) Slot.unset).toArray = ls at hl ⊢
  have hl : lv_has ls 7 [(0, .ref h), (1, .int (nI x)), (2, .ref h2), (3, .int (nI y))] := hl
  have hP : va_P (dC, dI) vwCl (ws.set q1 (b, .inl (cA, n, .inl f))) s.heap := by rw [pt_set_self e1]; exact hP
  have hD : va_D AA (ws.set q1 (b, .inl (cA, n, .inl f))) := by rw [pt_set_self e1]; exact hD
  refine lv_iconst (v := nI 0) hx hb dX0_widen_0 (by decide) ?_
  refine lv_istore (lv' := [(4, .int (nI 0)), (0, .ref h), (1, .int (nI x)), (2, .ref h2), (3, .int (nI y))]) hx hb dX0_widen_1 hl (by decide) rfl (fun ls hl => ?_)
  refine pt_loopW (fun q : Nat × (Nat → Int32) => 3 - q.1) (fun q ls H locs => q.1 ≤ 3 ∧ q.2 = pt_wd f g (y * 6) (x * 6) (q.1 * 2) ∧ va_P (dC, dI) vwCl (ws.set q1 (b, .inl (cA, n, .inl q.2))) H ∧ va_D AA (ws.set q1 (b, .inl (cA, n, .inl q.2))) ∧ va_S AA s.heap H locs ∧ lv_has ls 7 [(4, .int (nI q.1)), (0, .ref h), (1, .int (nI x)), (2, .ref h2), (3, .int (nI y))]) ?_ (0, f) _ _ _ ⟨Nat.zero_le 3, pt_wd_0.symm, hP, hD, hS, hl⟩
  intro ⟨i, fu⟩ ls H locs ⟨hi, eu, hP, hD, hS, hl⟩ ih
  dsimp only at hi eu hP hD hl ih
  refine lv_iload hx hb dX0_widen_3 (lv_at hl 0 rfl) ?_
  refine lv_iconst (v := nI 3) hx hb dX0_widen_5 (by decide) ?_
  refine lv_icmp_ge (tgt := 68) hx hb dX0_widen_6 (by decide) (fun c6 => ?_) (fun c6 => ?_)
  · have hie : i = 3 := by have := (nI_leI (by omega) (by omega)).mp c6; omega
    subst hie
    exact W.vret hx hb hr (fun zt zh zW => ⟨⟨fu, rfl, eu, by show va_P _ _ _ zt.heap; rw [zh]; exact hP⟩, hS.F zh⟩) hS.2.2 dX0_widen_68
  · have hlt : i < 3 := Nat.not_le.mp (fun q => c6 ((nI_leI (by omega) (by omega)).mpr q))
    refine lv_aload_n hx hb dX0_widen_9 rfl (lv_at hl 1 rfl) ?_
    refine lv_iload_n hx hb dX0_widen_10 rfl (lv_at hl 2 rfl) ?_
    refine lv_iload hx hb dX0_widen_11 (lv_at hl 0 rfl) ?_
    refine lv_iconst (v := nI 0) hx hb dX0_widen_13 (by decide) ?_
    refine pt_rdi (va_runV (As := [.int (nI x), .int (nI i), .int (nI 0)]) (rest := []) ⟨hx, hb, hml, hown, hts⟩ (c_X0_at l dC dI tys (ws.set q1 (b, .inl (cA, n, .inl fu))) q0 q1 t0 h b cA n fu (pt_set_o (ws := ws) e0 e1) (pt_set_eq (ws := ws) e1) et hn x i 0 (by omega)) (cwV 3 hts gX0_widen_X0_at rfl rfl rfl (by decide +kernel) ⟨Nat.le_of_ble_eq_true rfl, Nat.le_of_ble_eq_true rfl⟩) (pt_pv0 hP hK hN (q0 := q0) (pt_set_o (ws := ws) e0 e1)) rfl rfl hl.1 rfl (lv_room (Nat.le_of_ble_eq_true rfl)) dX0_widen_14 ⟨Nat.le_of_ble_eq_true rfl, Nat.le_of_ble_eq_true rfl⟩) (fun r14 hr14 => ?_)
    refine pt_top (y := (fu (x * 6 + i * 2 + 0))) hr14 ?_
    refine lv_aload_n hx hb dX0_widen_17 rfl (lv_at hl 3 rfl) ?_
    refine lv_iload_n hx hb dX0_widen_18 rfl (lv_at hl 4 rfl) ?_
    refine lv_iload hx hb dX0_widen_19 (lv_at hl 0 rfl) ?_
    refine lv_iconst (v := nI 0) hx hb dX0_widen_21 (by decide) ?_
    refine pt_rdi (va_runV (As := [.int (nI y), .int (nI i), .int (nI 0)]) (rest := [.int (fu (x * 6 + i * 2 + 0))]) ⟨hx, hb, hml, hown, hts⟩ (c_X0_at l dC dI tys (ws.set q1 (b, .inl (cA, n, .inl fu))) q2 q3 t1 h2 b2 cB n2 g (pt_set_o (ws := ws) e2 e1) (pt_set_ne (ws := ws) hq e3) et2 hn2 y i 0 (by omega)) (cwV 3 hts gX0_widen_X0_at rfl rfl rfl (by decide +kernel) ⟨Nat.le_of_ble_eq_true rfl, Nat.le_of_ble_eq_true rfl⟩) (pt_pv0 hP hK hN (q0 := q2) (pt_set_o (ws := ws) e2 e1)) rfl rfl hl.1 rfl (lv_room (Nat.le_of_ble_eq_true rfl)) dX0_widen_22 ⟨Nat.le_of_ble_eq_true rfl, Nat.le_of_ble_eq_true rfl⟩) (fun r22 hr22 => ?_)
    refine pt_top (y := (g (y * 6 + i * 2 + 0))) hr22 ?_
    refine va_mmin hx hb (hml.trans hl.1.symm) hown (hts _ wd_c_X0_widen_X0_widen_0) (hts _ wd_c_X0_widen_X0_widen_1) (hts _ wd_c_X0_widen_X0_widen_2) (hts _ wd_c_X0_widen_X0_widen_3) (Nat.le_of_ble_eq_true rfl) (Nat.le_of_ble_eq_true rfl) (Nat.le_refl _) (Nat.le_refl _) dX0_widen_25 ?_
    refine lv_istore (lv' := [(5, .int (if (g (y * 6 + i * 2 + 0)) < (fu (x * 6 + i * 2 + 0)) then (g (y * 6 + i * 2 + 0)) else (fu (x * 6 + i * 2 + 0)))), (4, .int (nI i)), (0, .ref h), (1, .int (nI x)), (2, .ref h2), (3, .int (nI y))]) hx hb dX0_widen_28 hl (by decide) rfl (fun ls hl => ?_)
    refine lv_aload_n hx hb dX0_widen_30 rfl (lv_at hl 2 rfl) ?_
    refine lv_iload_n hx hb dX0_widen_31 rfl (lv_at hl 3 rfl) ?_
    refine lv_iload hx hb dX0_widen_32 (lv_at hl 1 rfl) ?_
    refine lv_iconst (v := nI 1) hx hb dX0_widen_34 (by decide) ?_
    refine pt_rdi (va_runV (As := [.int (nI x), .int (nI i), .int (nI 1)]) (rest := []) ⟨hx, hb, hml, hown, hts⟩ (c_X0_at l dC dI tys (ws.set q1 (b, .inl (cA, n, .inl fu))) q0 q1 t0 h b cA n fu (pt_set_o (ws := ws) e0 e1) (pt_set_eq (ws := ws) e1) et hn x i 1 (by omega)) (cwV 3 hts gX0_widen_X0_at rfl rfl rfl (by decide +kernel) ⟨Nat.le_of_ble_eq_true rfl, Nat.le_of_ble_eq_true rfl⟩) (pt_pv0 hP hK hN (q0 := q0) (pt_set_o (ws := ws) e0 e1)) rfl rfl hl.1 rfl (lv_room (Nat.le_of_ble_eq_true rfl)) dX0_widen_35 ⟨Nat.le_of_ble_eq_true rfl, Nat.le_of_ble_eq_true rfl⟩) (fun r35 hr35 => ?_)
    refine pt_top (y := (fu (x * 6 + i * 2 + 1))) hr35 ?_
    refine lv_aload_n hx hb dX0_widen_38 rfl (lv_at hl 4 rfl) ?_
    refine lv_iload_n hx hb dX0_widen_39 rfl (lv_at hl 5 rfl) ?_
    refine lv_iload hx hb dX0_widen_40 (lv_at hl 1 rfl) ?_
    refine lv_iconst (v := nI 1) hx hb dX0_widen_42 (by decide) ?_
    refine pt_rdi (va_runV (As := [.int (nI y), .int (nI i), .int (nI 1)]) (rest := [.int (fu (x * 6 + i * 2 + 1))]) ⟨hx, hb, hml, hown, hts⟩ (c_X0_at l dC dI tys (ws.set q1 (b, .inl (cA, n, .inl fu))) q2 q3 t1 h2 b2 cB n2 g (pt_set_o (ws := ws) e2 e1) (pt_set_ne (ws := ws) hq e3) et2 hn2 y i 1 (by omega)) (cwV 3 hts gX0_widen_X0_at rfl rfl rfl (by decide +kernel) ⟨Nat.le_of_ble_eq_true rfl, Nat.le_of_ble_eq_true rfl⟩) (pt_pv0 hP hK hN (q0 := q2) (pt_set_o (ws := ws) e2 e1)) rfl rfl hl.1 rfl (lv_room (Nat.le_of_ble_eq_true rfl)) dX0_widen_43 ⟨Nat.le_of_ble_eq_true rfl, Nat.le_of_ble_eq_true rfl⟩) (fun r43 hr43 => ?_)
    refine pt_top (y := (g (y * 6 + i * 2 + 1))) hr43 ?_
    refine va_mmax hx hb (hml.trans hl.1.symm) hown (hts _ wd_c_X0_widen_X0_widen_4) (hts _ wd_c_X0_widen_X0_widen_5) (hts _ wd_c_X0_widen_X0_widen_2) (hts _ wd_c_X0_widen_X0_widen_6) (Nat.le_of_ble_eq_true rfl) (Nat.le_of_ble_eq_true rfl) (Nat.le_refl _) (Nat.le_refl _) dX0_widen_46 ?_
    refine lv_istore (lv' := [(6, .int (if (fu (x * 6 + i * 2 + 1)) < (g (y * 6 + i * 2 + 1)) then (g (y * 6 + i * 2 + 1)) else (fu (x * 6 + i * 2 + 1)))), (5, .int (if (g (y * 6 + i * 2 + 0)) < (fu (x * 6 + i * 2 + 0)) then (g (y * 6 + i * 2 + 0)) else (fu (x * 6 + i * 2 + 0)))), (4, .int (nI i)), (0, .ref h), (1, .int (nI x)), (2, .ref h2), (3, .int (nI y))]) hx hb dX0_widen_49 hl (by decide) rfl (fun ls hl => ?_)
    refine lv_aload_n hx hb dX0_widen_51 rfl (lv_at hl 3 rfl) ?_
    refine lv_iload_n hx hb dX0_widen_52 rfl (lv_at hl 4 rfl) ?_
    refine lv_iload hx hb dX0_widen_53 (lv_at hl 2 rfl) ?_
    refine lv_iload hx hb dX0_widen_55 (lv_at hl 1 rfl) ?_
    refine lv_iload hx hb dX0_widen_57 (lv_at hl 0 rfl) ?_
    refine pt_callv (wf := (fun u => (ws.set q1 (b, .inl (cA, n, .inl fu))).set q1 (b, .inl (cA, n, .inl u)))) (va_runV (As := [.int (nI x), .int (nI i), .int (if (g (y * 6 + i * 2 + 0)) < (fu (x * 6 + i * 2 + 0)) then (g (y * 6 + i * 2 + 0)) else (fu (x * 6 + i * 2 + 0))), .int (if (fu (x * 6 + i * 2 + 1)) < (g (y * 6 + i * 2 + 1)) then (g (y * 6 + i * 2 + 1)) else (fu (x * 6 + i * 2 + 1)))]) (rest := []) ⟨hx, hb, hml, hown, hts⟩ (c_X0_putSpan l dC dI tys (ws.set q1 (b, .inl (cA, n, .inl fu))) q0 q1 t0 h b cA n fu (pt_set_o (ws := ws) e0 e1) (pt_set_eq (ws := ws) e1) et hn _ x i (if (g (y * 6 + i * 2 + 0)) < (fu (x * 6 + i * 2 + 0)) then (g (y * 6 + i * 2 + 0)) else (fu (x * 6 + i * 2 + 0))) (if (fu (x * 6 + i * 2 + 1)) < (g (y * 6 + i * 2 + 1)) then (g (y * 6 + i * 2 + 1)) else (fu (x * 6 + i * 2 + 1))) (by omega)) (cwV 4 hts gX0_widen_X0_putSpan rfl rfl rfl (by decide +kernel) ⟨Nat.le_of_ble_eq_true rfl, Nat.le_of_ble_eq_true rfl⟩) (pt_wv0 hP hK hN hD (q0 := q0) (pt_set_o (ws := ws) e0 e1)) rfl rfl hl.1 rfl (lv_room (Nat.le_of_ble_eq_true rfl)) dX0_widen_59 ⟨Nat.le_of_ble_eq_true rfl, Nat.le_of_ble_eq_true rfl⟩) hD hS hA (fun _ => pt_setaddr (pt_set_eq (ws := ws) e1)) (fun u59 H locs hr59 hP hD hS => ?_)
    rw [List.set_set] at hP hD
    obtain ⟨f1, rfl⟩ : ∃ zz, zz = u59 := ⟨_, rfl⟩
    have ef1 := hr59
    refine lv_iinc (v := nI (i + 1)) (lv' := [(4, .int (nI (i + 1))), (6, .int (if (fu (x * 6 + i * 2 + 1)) < (g (y * 6 + i * 2 + 1)) then (g (y * 6 + i * 2 + 1)) else (fu (x * 6 + i * 2 + 1)))), (5, .int (if (g (y * 6 + i * 2 + 0)) < (fu (x * 6 + i * 2 + 0)) then (g (y * 6 + i * 2 + 0)) else (fu (x * 6 + i * 2 + 0)))), (0, .ref h), (1, .int (nI x)), (2, .ref h2), (3, .int (nI y))]) hx hb dX0_widen_62 hl (k := 2) rfl (nI_1 _) (by decide) rfl (fun ls hl => ?_)
    refine lv_goto (tgt := 3) hx hb dX0_widen_65 (by decide) ?_
    exact ih (i + 1, f1) _ _ _ ⟨by show i + 1 ≤ 3; omega, by show f1 = _; rw [ef1, eu]; exact pt_wd_step, hP, hD, hS, lv_sub hl [0, 3, 4, 5, 6] rfl⟩ (by show 3 - (i + 1) < 3 - i; omega)

/-- the square of the gap between p and lo .. hi, as the class reckons it -/
def pt_gap (lo hi p : Int32) : Int64 := if (if p.toInt64 - hi.toInt64 < lo.toInt64 - p.toInt64 then lo.toInt64 - p.toInt64 else p.toInt64 - hi.toInt64) < 0 then 0 else (if p.toInt64 - hi.toInt64 < lo.toInt64 - p.toInt64 then lo.toInt64 - p.toInt64 else p.toInt64 - hi.toInt64)
def pt_sqa (lo hi p : Int32) : Int64 := pt_gap lo hi p * pt_gap lo hi p
def pt_sqt (ax : Nat) (lo hi : Nat → Int32) (x y z : Int32) : Int64 := if ax ≤ 1 then pt_sqa (lo 0) (hi 0) x else if ax ≤ 2 then pt_sqa (lo 0) (hi 0) x + pt_sqa (lo 1) (hi 1) y else pt_sqa (lo 0) (hi 0) x + pt_sqa (lo 1) (hi 1) y + pt_sqa (lo 2) (hi 2) z

theorem wd_c_X0_squareOnAxis_X0_squareOnAxis_0 : Cond.methodLink RX0 36 Lib.MathLoose.max_long.x ∈ wsX0_squareOnAxis := by decide +kernel
theorem wd_c_X0_squareOnAxis_X0_squareOnAxis_1 : Cond.static Lib.MathLoose.max_long.x ∈ wsX0_squareOnAxis := by decide +kernel
theorem wd_c_X0_squareOnAxis_X0_squareOnAxis_2 : Cond.initialized "java/lang/Math" ∈ wsX0_squareOnAxis := by decide +kernel
theorem wd_c_X0_squareOnAxis_X0_squareOnAxis_3 : Cond.code Lib.MathLoose.max_long.x Lib.MathLoose.max_long.code 4 (some .long) ∈ wsX0_squareOnAxis := by decide +kernel
theorem iw_c_X0_squareOnAxis_wsX00 : ∀ w ∈ wsX00, w ∈ wsX0_squareOnAxis := fun _ h => List.mem_cons_of_mem _ (List.mem_append_right _ h)
set_option maxHeartbeats 4000000 in
set_option maxRecDepth 100000 in
/-- Boxes.squareOnAxis -/
theorem c_X0_squareOnAxis (l : Launch) (dC : Nat → ClassId) (dI : Nat → Nat → Nat) (tys : List (ClassId × FieldType)) (ws : va_W) (q0 q1 t0 h b : Nat) (cA : ClassId) (n : Nat) (f : Nat → Int32) (e0 : ws[q0]? = some (h, .inr (0, [.ref b]))) (e1 : ws[q1]? = some (b, .inl (cA, n, .inl f))) (et : tys[t0]? = some (cA, .int)) (hn : n < 2 ^ 31) (x y : Nat) (p0 : Int32) (hk : x * 6 + y * 2 + 1 < n) : Met l yX0_squareOnAxis wsX0_squareOnAxis (pt_rm 1) (pt_R (dC, dI) vwCl tys ws pt_nw [.ref h, .int (nI x), .int (nI y), .int p0]) (vp_Sl (fun r => r = pt_sqa (f (x * 6 + y * 2 + 0)) (f (x * 6 + y * 2 + 1)) p0)) 0 0 (fun _ => False) := by
  refine Met.ofW (cc := cX0_squareOnAxis) (maxL := 10) (ret := (some .long)) (by decide) rfl ?_
  intro p e s m args below meth cd s₁ B hml hv
  obtain ⟨rfl, hP, hK, hN⟩ := hv
  have hx := B.exec
  have hb := B.bytes
  have hr := B.returns
  have hts := atoms_spec (ws := wsX0_squareOnAxis) B.pre
  have hown : s.vm.findClass RX0 = some m.cls := findClass_of_methodNamed B.named
  have hlocks := B.notSynchronized
  have hl := lv_entry ([.ref h, .int (nI x), .int (nI y), .int p0]) (n := 10) (Nat.le_of_ble_eq_true rfl)
  rw [lg_entry_eq]
  generalize (lg_sl ([.ref h, .int (nI x), .int (nI y), .int p0]) ++ List.replicate (10 - (lg_sl ([.ref h, .int (nI x), .int (nI y), .int p0])).length) Slot.unset).toArray = ls at hl ⊢
  have hl : lv_has ls 10 [(0, .ref h), (1, .int (nI x)), (2, .int (nI y)), (3, .int p0)] := hl
  refine lv_aload_n hx hb dX0_squareOnAxis_0 rfl (lv_at hl 0 rfl) ?_
  refine lv_iload_n hx hb dX0_squareOnAxis_1 rfl (lv_at hl 1 rfl) ?_
  refine lv_iload_n hx hb dX0_squareOnAxis_2 rfl (lv_at hl 2 rfl) ?_
  refine lv_iconst (v := nI 0) hx hb dX0_squareOnAxis_3 (by decide) ?_
  refine pt_rdi (va_runV (As := [.int (nI x), .int (nI y), .int (nI 0)]) (rest := []) ⟨hx, hb, hml, hown, hts⟩ (c_X0_at l dC dI (tys) (ws) q0 q1 t0 h b cA n f e0 e1 et hn x y 0 (by omega)) (cwV 3 hts gX0_squareOnAxis_X0_at rfl rfl rfl (by decide +kernel) ⟨Nat.le_of_ble_eq_true rfl, Nat.le_of_ble_eq_true rfl⟩) (pt_pv0 hP hK hN (q0 := q0) e0) rfl rfl hl.1 rfl (lv_room (Nat.le_of_ble_eq_true rfl)) dX0_squareOnAxis_4 ⟨Nat.le_of_ble_eq_true rfl, Nat.le_of_ble_eq_true rfl⟩) (fun r4 hr4 => ?_)
  refine pt_top (y := (f (x * 6 + y * 2 + 0))) hr4 ?_
  refine lv_i2l (v := ((f (x * 6 + y * 2 + 0))).toInt64) hx hb dX0_squareOnAxis_7 rfl ?_
  refine lv_iload_n hx hb dX0_squareOnAxis_8 rfl (lv_at hl 3 rfl) ?_
  refine lv_i2l (v := (p0).toInt64) hx hb dX0_squareOnAxis_9 rfl ?_
  refine lv_lsub hx hb dX0_squareOnAxis_10 ?_
  refine lv_lstore (lv' := [(4, .long ((((f (x * 6 + y * 2 + 0))).toInt64) - ((p0).toInt64))), (0, .ref h), (1, .int (nI x)), (2, .int (nI y)), (3, .int p0)]) hx hb dX0_squareOnAxis_11 hl (by decide) rfl (fun ls hl => ?_)
  refine lv_iload_n hx hb dX0_squareOnAxis_13 rfl (lv_at hl 4 rfl) ?_
  refine lv_i2l (v := (p0).toInt64) hx hb dX0_squareOnAxis_14 rfl ?_
  refine lv_aload_n hx hb dX0_squareOnAxis_15 rfl (lv_at hl 1 rfl) ?_
  refine lv_iload_n hx hb dX0_squareOnAxis_16 rfl (lv_at hl 2 rfl) ?_
  refine lv_iload_n hx hb dX0_squareOnAxis_17 rfl (lv_at hl 3 rfl) ?_
  refine lv_iconst (v := nI 1) hx hb dX0_squareOnAxis_18 (by decide) ?_
  refine pt_rdi (va_runV (As := [.int (nI x), .int (nI y), .int (nI 1)]) (rest := [.long ((p0).toInt64)]) ⟨hx, hb, hml, hown, hts⟩ (c_X0_at l dC dI (tys) (ws) q0 q1 t0 h b cA n f e0 e1 et hn x y 1 (by omega)) (cwV 3 hts gX0_squareOnAxis_X0_at rfl rfl rfl (by decide +kernel) ⟨Nat.le_of_ble_eq_true rfl, Nat.le_of_ble_eq_true rfl⟩) (pt_pv0 hP hK hN (q0 := q0) e0) rfl rfl hl.1 rfl (lv_room (Nat.le_of_ble_eq_true rfl)) dX0_squareOnAxis_19 ⟨Nat.le_of_ble_eq_true rfl, Nat.le_of_ble_eq_true rfl⟩) (fun r19 hr19 => ?_)
  refine pt_top (y := (f (x * 6 + y * 2 + 1))) hr19 ?_
  refine lv_i2l (v := ((f (x * 6 + y * 2 + 1))).toInt64) hx hb dX0_squareOnAxis_22 rfl ?_
  refine lv_lsub hx hb dX0_squareOnAxis_23 ?_
  refine lv_lstore (lv' := [(6, .long (((p0).toInt64) - (((f (x * 6 + y * 2 + 1))).toInt64))), (4, .long ((((f (x * 6 + y * 2 + 0))).toInt64) - ((p0).toInt64))), (0, .ref h), (1, .int (nI x)), (2, .int (nI y)), (3, .int p0)]) hx hb dX0_squareOnAxis_24 hl (by decide) rfl (fun ls hl => ?_)
  refine lv_lconst (v := 0) hx hb dX0_squareOnAxis_26 (by decide) ?_
  refine lv_lload hx hb dX0_squareOnAxis_27 (lv_at hl 1 rfl) ?_
  refine lv_lload hx hb dX0_squareOnAxis_29 (lv_at hl 0 rfl) ?_
  refine va_mmax_long hx hb (hml.trans hl.1.symm) hown (hts _ wd_c_X0_squareOnAxis_X0_squareOnAxis_0) (hts _ wd_c_X0_squareOnAxis_X0_squareOnAxis_1) (hts _ wd_c_X0_squareOnAxis_X0_squareOnAxis_2) (hts _ wd_c_X0_squareOnAxis_X0_squareOnAxis_3) (Nat.le_of_ble_eq_true rfl) (Nat.le_of_ble_eq_true rfl) (Nat.le_refl _) (Nat.le_refl _) dX0_squareOnAxis_31 ?_
  refine va_mmax_long hx hb (hml.trans hl.1.symm) hown (hts _ wd_c_X0_squareOnAxis_X0_squareOnAxis_0) (hts _ wd_c_X0_squareOnAxis_X0_squareOnAxis_1) (hts _ wd_c_X0_squareOnAxis_X0_squareOnAxis_2) (hts _ wd_c_X0_squareOnAxis_X0_squareOnAxis_3) (Nat.le_of_ble_eq_true rfl) (Nat.le_of_ble_eq_true rfl) (Nat.le_refl _) (Nat.le_refl _) dX0_squareOnAxis_34 ?_
  refine lv_lstore (lv' := [(8, .long (if (if (((p0).toInt64) - (((f (x * 6 + y * 2 + 1))).toInt64)) < ((((f (x * 6 + y * 2 + 0))).toInt64) - ((p0).toInt64)) then ((((f (x * 6 + y * 2 + 0))).toInt64) - ((p0).toInt64)) else (((p0).toInt64) - (((f (x * 6 + y * 2 + 1))).toInt64))) < (0 : Int64) then (0 : Int64) else (if (((p0).toInt64) - (((f (x * 6 + y * 2 + 1))).toInt64)) < ((((f (x * 6 + y * 2 + 0))).toInt64) - ((p0).toInt64)) then ((((f (x * 6 + y * 2 + 0))).toInt64) - ((p0).toInt64)) else (((p0).toInt64) - (((f (x * 6 + y * 2 + 1))).toInt64))))), (6, .long (((p0).toInt64) - (((f (x * 6 + y * 2 + 1))).toInt64))), (4, .long ((((f (x * 6 + y * 2 + 0))).toInt64) - ((p0).toInt64))), (0, .ref h), (1, .int (nI x)), (2, .int (nI y)), (3, .int p0)]) hx hb dX0_squareOnAxis_37 hl (by decide) rfl (fun ls hl => ?_)
  refine lv_lload hx hb dX0_squareOnAxis_39 (lv_at hl 0 rfl) ?_
  refine lv_lload hx hb dX0_squareOnAxis_41 (lv_at hl 0 rfl) ?_
  refine lv_lmul hx hb dX0_squareOnAxis_43 ?_
  exact W.lret (v := ((if (if (((p0).toInt64) - (((f (x * 6 + y * 2 + 1))).toInt64)) < ((((f (x * 6 + y * 2 + 0))).toInt64) - ((p0).toInt64)) then ((((f (x * 6 + y * 2 + 0))).toInt64) - ((p0).toInt64)) else (((p0).toInt64) - (((f (x * 6 + y * 2 + 1))).toInt64))) < (0 : Int64) then (0 : Int64) else (if (((p0).toInt64) - (((f (x * 6 + y * 2 + 1))).toInt64)) < ((((f (x * 6 + y * 2 + 0))).toInt64) - ((p0).toInt64)) then ((((f (x * 6 + y * 2 + 0))).toInt64) - ((p0).toInt64)) else (((p0).toInt64) - (((f (x * 6 + y * 2 + 1))).toInt64)))) * (if (if (((p0).toInt64) - (((f (x * 6 + y * 2 + 1))).toInt64)) < ((((f (x * 6 + y * 2 + 0))).toInt64) - ((p0).toInt64)) then ((((f (x * 6 + y * 2 + 0))).toInt64) - ((p0).toInt64)) else (((p0).toInt64) - (((f (x * 6 + y * 2 + 1))).toInt64))) < (0 : Int64) then (0 : Int64) else (if (((p0).toInt64) - (((f (x * 6 + y * 2 + 1))).toInt64)) < ((((f (x * 6 + y * 2 + 0))).toInt64) - ((p0).toInt64)) then ((((f (x * 6 + y * 2 + 0))).toInt64) - ((p0).toInt64)) else (((p0).toInt64) - (((f (x * 6 + y * 2 + 1))).toInt64)))))) hx hb hr (fun zt zh zW => ⟨_, rfl, rfl, zh⟩) (fun q h => by cases h) dX0_squareOnAxis_44

theorem iw_c_X0_squareTo_wsX00 : ∀ w ∈ wsX00, w ∈ wsX0_squareTo := fun _ h => List.mem_cons_of_mem _ (List.mem_append_right _ h)
set_option maxHeartbeats 4000000 in
set_option maxRecDepth 100000 in
/-- Boxes.squareTo -/
theorem c_X0_squareTo (l : Launch) (dC : Nat → ClassId) (dI : Nat → Nat → Nat) (tys : List (ClassId × FieldType)) (ws : va_W) (q0 q1 t0 h b : Nat) (cA : ClassId) (n : Nat) (f : Nat → Int32) (e0 : ws[q0]? = some (h, .inr (0, [.ref b]))) (e1 : ws[q1]? = some (b, .inl (cA, n, .inl f))) (et : tys[t0]? = some (cA, .int)) (hn : n < 2 ^ 31) (x ax : Nat) (px py pz : Int32) (hk : x * 6 + 5 < n) (hax : ax ≤ 3) : Met l yX0_squareTo wsX0_squareTo (pt_rm 2) (pt_R (dC, dI) vwCl tys ws pt_nw [.ref h, .int (nI x), .int (nI ax), .int px, .int py, .int pz]) (vp_Sl (fun r => r = pt_sqt ax (fun a => f (x * 6 + a * 2 + 0)) (fun a => f (x * 6 + a * 2 + 1)) px py pz)) 0 0 (fun _ => False) := by
  refine Met.ofW (cc := cX0_squareTo) (maxL := 8) (ret := (some .long)) (by decide) rfl ?_
  intro p e s m args below meth cd s₁ B hml hv
  obtain ⟨rfl, hP, hK, hN⟩ := hv
  have hx := B.exec
  have hb := B.bytes
  have hr := B.returns
  have hts := atoms_spec (ws := wsX0_squareTo) B.pre
  have hown : s.vm.findClass RX0 = some m.cls := findClass_of_methodNamed B.named
  have hlocks := B.notSynchronized
  have hl := lv_entry ([.ref h, .int (nI x), .int (nI ax), .int px, .int py, .int pz]) (n := 8) (Nat.le_of_ble_eq_true rfl)
  rw [lg_entry_eq]
  generalize (lg_sl ([.ref h, .int (nI x), .int (nI ax), .int px, .int py, .int pz]) ++ List.replicate (8 - (lg_sl ([.ref h, .int (nI x), .int (nI ax), .int px, .int py, .int pz])).length) Slot.unset).toArray = ls at hl ⊢
  have hl : lv_has ls 8 [(0, .ref h), (1, .int (nI x)), (2, .int (nI ax)), (3, .int px), (4, .int py), (5, .int pz)] := hl
  refine lv_aload_n hx hb dX0_squareTo_0 rfl (lv_at hl 0 rfl) ?_
  refine lv_iload_n hx hb dX0_squareTo_1 rfl (lv_at hl 1 rfl) ?_
  refine lv_iconst (v := nI 0) hx hb dX0_squareTo_2 (by decide) ?_
  refine lv_iload_n hx hb dX0_squareTo_3 rfl (lv_at hl 3 rfl) ?_
  refine pt_rdl (va_runV (As := [.int (nI x), .int (nI 0), .int px]) (rest := []) ⟨hx, hb, hml, hown, hts⟩ (c_X0_squareOnAxis l dC dI (tys) (ws) q0 q1 t0 h b cA n f e0 e1 et hn x 0 px (by omega)) (cwV 3 hts gX0_squareTo_X0_squareOnAxis rfl rfl rfl (by decide +kernel) ⟨Nat.le_of_ble_eq_true rfl, Nat.le_of_ble_eq_true rfl⟩) (pt_pv0 hP hK hN (q0 := q0) e0) rfl rfl hl.1 rfl (lv_room (Nat.le_of_ble_eq_true rfl)) dX0_squareTo_4 ⟨Nat.le_of_ble_eq_true rfl, Nat.le_of_ble_eq_true rfl⟩) (fun r4 hr4 => ?_)
  refine pt_topl (y := (pt_sqa (f (x * 6 + 0 * 2 + 0)) (f (x * 6 + 0 * 2 + 1)) px)) hr4 ?_
  refine lv_lstore (lv' := [(6, .long (pt_sqa (f (x * 6 + 0 * 2 + 0)) (f (x * 6 + 0 * 2 + 1)) px)), (0, .ref h), (1, .int (nI x)), (2, .int (nI ax)), (3, .int px), (4, .int py), (5, .int pz)]) hx hb dX0_squareTo_7 hl (by decide) rfl (fun ls hl => ?_)
  refine lv_iload_n hx hb dX0_squareTo_9 rfl (lv_at hl 3 rfl) ?_
  refine lv_iconst (v := nI 1) hx hb dX0_squareTo_10 (by decide) ?_
  refine lv_icmp_le (tgt := 27) hx hb dX0_squareTo_11 (by decide) (fun c11 => ?_) (fun c11 => ?_)
  · have d11 : ax ≤ 1 := (nI_leI (by omega) (by omega)).mp c11
    refine lv_iload_n hx hb dX0_squareTo_27 rfl (lv_at hl 3 rfl) ?_
    refine lv_iconst (v := nI 2) hx hb dX0_squareTo_28 (by decide) ?_
    refine lv_icmp_le (tgt := 45) hx hb dX0_squareTo_29 (by decide) (fun c29 => ?_) (fun c29 => absurd (nI_le (by omega) (by omega)) c29)
    refine lv_lload hx hb dX0_squareTo_45 (lv_at hl 0 rfl) ?_
    exact W.lret (v := (pt_sqa (f (x * 6 + 0 * 2 + 0)) (f (x * 6 + 0 * 2 + 1)) px)) hx hb hr (fun zt zh zW => ⟨_, rfl, (by unfold pt_sqt; first | (rw [if_pos d11]; done) | (rw [if_neg d11, if_pos d29]; done) | (rw [if_neg d11, if_neg d29]; done)), zh⟩) (fun q h => by cases h) dX0_squareTo_47
  · have d11 : ¬ ax ≤ 1 := fun q => c11 ((nI_leI (by omega) (by omega)).mpr q)
    refine lv_lload hx hb dX0_squareTo_14 (lv_at hl 0 rfl) ?_
    refine lv_aload_n hx hb dX0_squareTo_16 rfl (lv_at hl 1 rfl) ?_
    refine lv_iload_n hx hb dX0_squareTo_17 rfl (lv_at hl 2 rfl) ?_
    refine lv_iconst (v := nI 1) hx hb dX0_squareTo_18 (by decide) ?_
    refine lv_iload hx hb dX0_squareTo_19 (lv_at hl 5 rfl) ?_
    refine pt_rdl (va_runV (As := [.int (nI x), .int (nI 1), .int py]) (rest := [.long (pt_sqa (f (x * 6 + 0 * 2 + 0)) (f (x * 6 + 0 * 2 + 1)) px)]) ⟨hx, hb, hml, hown, hts⟩ (c_X0_squareOnAxis l dC dI (tys) (ws) q0 q1 t0 h b cA n f e0 e1 et hn x 1 py (by omega)) (cwV 3 hts gX0_squareTo_X0_squareOnAxis rfl rfl rfl (by decide +kernel) ⟨Nat.le_of_ble_eq_true rfl, Nat.le_of_ble_eq_true rfl⟩) (pt_pv0 hP hK hN (q0 := q0) e0) rfl rfl hl.1 rfl (lv_room (Nat.le_of_ble_eq_true rfl)) dX0_squareTo_21 ⟨Nat.le_of_ble_eq_true rfl, Nat.le_of_ble_eq_true rfl⟩) (fun r21 hr21 => ?_)
    refine pt_topl (y := (pt_sqa (f (x * 6 + 1 * 2 + 0)) (f (x * 6 + 1 * 2 + 1)) py)) hr21 ?_
    refine lv_ladd hx hb dX0_squareTo_24 ?_
    refine lv_lstore (lv' := [(6, .long ((pt_sqa (f (x * 6 + 0 * 2 + 0)) (f (x * 6 + 0 * 2 + 1)) px) + (pt_sqa (f (x * 6 + 1 * 2 + 0)) (f (x * 6 + 1 * 2 + 1)) py))), (0, .ref h), (1, .int (nI x)), (2, .int (nI ax)), (3, .int px), (4, .int py), (5, .int pz)]) hx hb dX0_squareTo_25 hl (by decide) rfl (fun ls hl => ?_)
    refine lv_iload_n hx hb dX0_squareTo_27 rfl (lv_at hl 3 rfl) ?_
    refine lv_iconst (v := nI 2) hx hb dX0_squareTo_28 (by decide) ?_
    refine lv_icmp_le (tgt := 45) hx hb dX0_squareTo_29 (by decide) (fun c29 => ?_) (fun c29 => ?_)
    · have d29 : ax ≤ 2 := (nI_leI (by omega) (by omega)).mp c29
      refine lv_lload hx hb dX0_squareTo_45 (lv_at hl 0 rfl) ?_
      exact W.lret (v := ((pt_sqa (f (x * 6 + 0 * 2 + 0)) (f (x * 6 + 0 * 2 + 1)) px) + (pt_sqa (f (x * 6 + 1 * 2 + 0)) (f (x * 6 + 1 * 2 + 1)) py))) hx hb hr (fun zt zh zW => ⟨_, rfl, (by unfold pt_sqt; first | (rw [if_pos d11]; done) | (rw [if_neg d11, if_pos d29]; done) | (rw [if_neg d11, if_neg d29]; done)), zh⟩) (fun q h => by cases h) dX0_squareTo_47
    · have d29 : ¬ ax ≤ 2 := fun q => c29 ((nI_leI (by omega) (by omega)).mpr q)
      refine lv_lload hx hb dX0_squareTo_32 (lv_at hl 0 rfl) ?_
      refine lv_aload_n hx hb dX0_squareTo_34 rfl (lv_at hl 1 rfl) ?_
      refine lv_iload_n hx hb dX0_squareTo_35 rfl (lv_at hl 2 rfl) ?_
      refine lv_iconst (v := nI 2) hx hb dX0_squareTo_36 (by decide) ?_
      refine lv_iload hx hb dX0_squareTo_37 (lv_at hl 6 rfl) ?_
      refine pt_rdl (va_runV (As := [.int (nI x), .int (nI 2), .int pz]) (rest := [.long ((pt_sqa (f (x * 6 + 0 * 2 + 0)) (f (x * 6 + 0 * 2 + 1)) px) + (pt_sqa (f (x * 6 + 1 * 2 + 0)) (f (x * 6 + 1 * 2 + 1)) py))]) ⟨hx, hb, hml, hown, hts⟩ (c_X0_squareOnAxis l dC dI (tys) (ws) q0 q1 t0 h b cA n f e0 e1 et hn x 2 pz (by omega)) (cwV 3 hts gX0_squareTo_X0_squareOnAxis rfl rfl rfl (by decide +kernel) ⟨Nat.le_of_ble_eq_true rfl, Nat.le_of_ble_eq_true rfl⟩) (pt_pv0 hP hK hN (q0 := q0) e0) rfl rfl hl.1 rfl (lv_room (Nat.le_of_ble_eq_true rfl)) dX0_squareTo_39 ⟨Nat.le_of_ble_eq_true rfl, Nat.le_of_ble_eq_true rfl⟩) (fun r39 hr39 => ?_)
      refine pt_topl (y := (pt_sqa (f (x * 6 + 2 * 2 + 0)) (f (x * 6 + 2 * 2 + 1)) pz)) hr39 ?_
      refine lv_ladd hx hb dX0_squareTo_42 ?_
      refine lv_lstore (lv' := [(6, .long (((pt_sqa (f (x * 6 + 0 * 2 + 0)) (f (x * 6 + 0 * 2 + 1)) px) + (pt_sqa (f (x * 6 + 1 * 2 + 0)) (f (x * 6 + 1 * 2 + 1)) py)) + (pt_sqa (f (x * 6 + 2 * 2 + 0)) (f (x * 6 + 2 * 2 + 1)) pz))), (0, .ref h), (1, .int (nI x)), (2, .int (nI ax)), (3, .int px), (4, .int py), (5, .int pz)]) hx hb dX0_squareTo_43 hl (by decide) rfl (fun ls hl => ?_)
      refine lv_lload hx hb dX0_squareTo_45 (lv_at hl 0 rfl) ?_
      exact W.lret (v := (((pt_sqa (f (x * 6 + 0 * 2 + 0)) (f (x * 6 + 0 * 2 + 1)) px) + (pt_sqa (f (x * 6 + 1 * 2 + 0)) (f (x * 6 + 1 * 2 + 1)) py)) + (pt_sqa (f (x * 6 + 2 * 2 + 0)) (f (x * 6 + 2 * 2 + 1)) pz))) hx hb hr (fun zt zh zW => ⟨_, rfl, (by unfold pt_sqt; first | (rw [if_pos d11]; done) | (rw [if_neg d11, if_pos d29]; done) | (rw [if_neg d11, if_neg d29]; done)), zh⟩) (fun q h => by cases h) dX0_squareTo_47
