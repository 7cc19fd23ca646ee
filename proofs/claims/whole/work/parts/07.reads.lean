/-- what a pair of ends must keep to -/
def pt_span (lo hi : Int32) : Prop := -1000000 ≤ lo ∧ hi ≤ 1000000 ∧ lo ≤ hi
def pt_box (ax : Nat) (x0 x1 y0 y1 z0 z1 : Int32) : Prop := pt_span x0 x1 ∧ (2 ≤ ax → pt_span y0 y1) ∧ (3 ≤ ax → pt_span z0 z1)
theorem pt_ix {k : Int32} {n : Nat} (h0 : ¬ k < 0) (h1 : ¬ nI n ≤ k) (hn : n < 2 ^ 31) : ∃ t, t < n ∧ k = nI t := by
  rcases pk_ix k hn with h | h | h
  · exact absurd h h0
  · exact absurd h h1
  · exact h
theorem pt_ixn {t n : Nat} (ht : t < n) (hn : n < 2 ^ 31) : ¬ nI t < 0 ∧ ¬ nI n ≤ nI t := ⟨nI_pos (by omega), nI_ge ht hn⟩
/-- a number of a row of n things -/
def pt_in (n : Nat) (P : Nat → Prop) (k : Int32) : Prop := ∃ t, t < n ∧ k = nI t ∧ P t
theorem pt_in_lo {n : Nat} {P : Nat → Prop} {k : Int32} (h : k < 0) (hn : n < 2 ^ 31) : ¬ pt_in n P k := fun ⟨t, ht, e, _⟩ => (pt_ixn ht hn).1 (by rw [← e]; exact h)
theorem pt_in_hi {n : Nat} {P : Nat → Prop} {k : Int32} (h : nI n ≤ k) (hn : n < 2 ^ 31) : ¬ pt_in n P k := fun ⟨t, ht, e, _⟩ => (pt_ixn ht hn).2 (by rw [← e]; exact h)
theorem pt_in_no {n : Nat} {P : Nat → Prop} {k : Int32} {t : Nat} (e : k = nI t) (ht : t < n) (hn : n < 2 ^ 31) (h : ¬ P t) : ¬ pt_in n P k := fun ⟨u, hu, eu, hp⟩ => h (by
  have : t = u := (nI_eq (by omega) (by omega)).mp (e.symm.trans eu)
  rw [this]; exact hp)

theorem wd_c_X1_isSpan_X1_isSpan_0 : Cond.constant RX1 149 (-1000000) ∈ wsX1_isSpan := by decide +kernel
theorem wd_c_X1_isSpan_X1_isSpan_1 : Cond.constant RX1 150 (1000000) ∈ wsX1_isSpan := by decide +kernel
set_option maxHeartbeats 4000000 in
set_option maxRecDepth 100000 in
theorem c_X1_isSpan (l : Launch) (dC : Nat → ClassId) (dI : Nat → Nat → Nat)  (tys : List (ClassId × FieldType)) (ws : va_W) (lo hi : Int32) : Met l yX1_isSpan wsX1_isSpan (pt_rm 0) (pt_R (dC, dI) vwCl tys ws pt_nw [.int lo, .int hi]) (vp_Si (fun r => pt_B r (pt_span lo hi))) 0 0 (fun _ => False) := by
  refine Met.ofW (cc := cX1_isSpan) (maxL := 2) (ret := (some .boolean)) (by decide) rfl ?_
  intro p e s m args below meth cd s₁ B hml hv
  obtain ⟨rfl, hP, hK, hN⟩ := hv
  have hx := B.exec
  have hb := B.bytes
  have hr := B.returns
  have hts := atoms_spec (ws := wsX1_isSpan) B.pre
  have hown : s.vm.findClass RX1 = some m.cls := findClass_of_methodNamed B.named
  have hlocks := B.notSynchronized
  have hl := lv_entry ([.int lo, .int hi]) (n := 2) (Nat.le_of_ble_eq_true rfl)
  rw [lg_entry_eq]
  generalize (lg_sl ([.int lo, .int hi]) ++ List.replicate (2 - (lg_sl ([.int lo, .int hi])).length) Slot.unset).toArray = ls at hl ⊢
  have hl : lv_has ls 2 [(0, .int lo), (1, .int hi)] := hl
  refine lv_iload_n hx hb dX1_isSpan_0 rfl (lv_at hl 0 rfl) ?_
  refine lv_ldc (v := -1000000) hx hb hown (hts _ wd_c_X1_isSpan_X1_isSpan_0) dX1_isSpan_1 ?_
  refine lv_icmp_lt (tgt := 21) hx hb dX1_isSpan_3 (by decide) (fun c3 => ?_) (fun c3 => ?_)
  · refine lv_iconst (v := 0) hx hb dX1_isSpan_21 (by decide) ?_
    exact W.zret (v := 0) hx hb hr rfl (fun zt zh zW => ⟨_, rfl, (pt_B.zero (fun q => by first | exact Int32.not_le.mpr c3 q.1 | exact Int32.not_le.mpr c9 q.2.1 | exact Int32.not_le.mpr c14 q.2.2)), zh⟩) (fun q h => by cases h) dX1_isSpan_22
  · refine lv_iload_n hx hb dX1_isSpan_6 rfl (lv_at hl 1 rfl) ?_
    refine lv_ldc (v := 1000000) hx hb hown (hts _ wd_c_X1_isSpan_X1_isSpan_1) dX1_isSpan_7 ?_
    refine lv_icmp_gt (tgt := 21) hx hb dX1_isSpan_9 (by decide) (fun c9 => ?_) (fun c9 => ?_)
    · refine lv_iconst (v := 0) hx hb dX1_isSpan_21 (by decide) ?_
      exact W.zret (v := 0) hx hb hr rfl (fun zt zh zW => ⟨_, rfl, (pt_B.zero (fun q => by first | exact Int32.not_le.mpr c3 q.1 | exact Int32.not_le.mpr c9 q.2.1 | exact Int32.not_le.mpr c14 q.2.2)), zh⟩) (fun q h => by cases h) dX1_isSpan_22
    · refine lv_iload_n hx hb dX1_isSpan_12 rfl (lv_at hl 0 rfl) ?_
      refine lv_iload_n hx hb dX1_isSpan_13 rfl (lv_at hl 1 rfl) ?_
      refine lv_icmp_gt (tgt := 21) hx hb dX1_isSpan_14 (by decide) (fun c14 => ?_) (fun c14 => ?_)
      · refine lv_iconst (v := 0) hx hb dX1_isSpan_21 (by decide) ?_
        exact W.zret (v := 0) hx hb hr rfl (fun zt zh zW => ⟨_, rfl, (pt_B.zero (fun q => by first | exact Int32.not_le.mpr c3 q.1 | exact Int32.not_le.mpr c9 q.2.1 | exact Int32.not_le.mpr c14 q.2.2)), zh⟩) (fun q h => by cases h) dX1_isSpan_22
      · refine lv_iconst (v := 1) hx hb dX1_isSpan_17 (by decide) ?_
        refine lv_goto (tgt := 22) hx hb dX1_isSpan_18 (by decide) ?_
        exact W.zret (v := 1) hx hb hr rfl (fun zt zh zW => ⟨_, rfl, (pt_B.one ⟨Int32.not_lt.mp c3, Int32.not_lt.mp c9, Int32.not_lt.mp c14⟩), zh⟩) (fun q h => by cases h) dX1_isSpan_22

theorem wd_c_X1_isBox_X1_isBox_0 : Cond.fieldLink RX1 9 "PointTrees" "axes" "I" ∈ wsX1_isBox := by decide +kernel
theorem iw_c_X1_isBox_wsX10 : ∀ w ∈ wsX10, w ∈ wsX1_isBox := fun _ h => List.mem_cons_of_mem _ (List.mem_append_right _ h)
set_option maxHeartbeats 4000000 in
set_option maxRecDepth 100000 in
theorem c_X1_isBox (l : Launch) (dC : Nat → ClassId) (dI : Nat → Nat → Nat) (a : Nat → Nat) (c : Nat → ClassId) (F : Nat → Int32) (A : Nat → Nat → Int32) (Q : Nat → Int64) (ax : Nat) (h0 : F 0 = nI ax) (hax : ax ≤ 3) (x0 x1 y0 y1 z0 z1 : Int32) : Met l yX1_isBox wsX1_isBox (pt_rm 1) (pt_R (dC, dI) vwCl (pt_xt c) (pt_xw a c F A Q) pt_nw [.ref (a 0), .int x0, .int x1, .int y0, .int y1, .int z0, .int z1]) (vp_Si (fun r => pt_B r (pt_box ax x0 x1 y0 y1 z0 z1))) 0 0 (fun _ => False) := by
  refine Met.ofW (cc := cX1_isBox) (maxL := 7) (ret := (some .boolean)) (by decide) rfl ?_
  intro p e s m args below meth cd s₁ B hml hv
  obtain ⟨rfl, hP, hK, hN⟩ := hv
  have hx := B.exec
  have hb := B.bytes
  have hr := B.returns
  have hts := atoms_spec (ws := wsX1_isBox) B.pre
  have hown : s.vm.findClass RX1 = some m.cls := findClass_of_methodNamed B.named
  have hlocks := B.notSynchronized
  have hl := lv_entry ([.ref (a 0), .int x0, .int x1, .int y0, .int y1, .int z0, .int z1]) (n := 7) (Nat.le_of_ble_eq_true rfl)
  rw [lg_entry_eq]
  generalize (lg_sl ([.ref (a 0), .int x0, .int x1, .int y0, .int y1, .int z0, .int z1]) ++ List.replicate (7 - (lg_sl ([.ref (a 0), .int x0, .int x1, .int y0, .int y1, .int z0, .int z1])).length) Slot.unset).toArray = ls at hl ⊢
  have hl : lv_has ls 7 [(0, .ref (a 0)), (1, .int x0), (2, .int x1), (3, .int y0), (4, .int y1), (5, .int z0), (6, .int z1)] := hl
  refine lv_iload_n hx hb dX1_isBox_0 rfl (lv_at hl 1 rfl) ?_
  refine lv_iload_n hx hb dX1_isBox_1 rfl (lv_at hl 2 rfl) ?_
  refine pt_rdi (va_runS (As := [.int x0, .int x1]) (rest := []) ⟨hx, hb, hml, hown, hts⟩ (c_X1_isSpan l dC dI (pt_xt c) (pt_xw a c F A Q) x0 x1) (va_cwS 2 hts gX1_isBox_X1_isSpan rfl rfl rfl (by decide +kernel) ⟨Nat.le_of_ble_eq_true rfl, Nat.le_of_ble_eq_true rfl⟩) (pt_R.preS hP hK hN) rfl rfl hl.1 rfl (lv_room (Nat.le_of_ble_eq_true rfl)) dX1_isBox_2 ⟨Nat.le_of_ble_eq_true rfl, Nat.le_of_ble_eq_true rfl⟩) (fun r2 hr2 => ?_)
  refine lv_if_eq (tgt := 47) hx hb dX1_isBox_5 (by decide) (fun c5 => ?_) (fun c5 => ?_)
  · have d5 := hr2.f c5
    refine lv_iconst (v := 0) hx hb dX1_isBox_47 (by decide) ?_
    exact W.zret (v := 0) hx hb hr rfl (fun zt zh zW => ⟨_, rfl, (pt_B.zero (fun q => by first | exact d40 (q.2.2 d30) | exact d22 (q.2.1 d13) | exact d5 q.1)), zh⟩) (fun q h => by cases h) dX1_isBox_48
  · have d5 := hr2.t c5
    refine lv_aload_n hx hb dX1_isBox_8 rfl (lv_at hl 0 rfl) ?_
    refine va_get (D := (dC, dI)) (ci := 1) (v := .int (F 0)) (C := RX1) (T := TX1) (N := 18) hx hb hts iw_c_X1_isBox_wsX10 hown hK hP 0 rfl rfl 0 (by decide) (hts _ wd_c_X1_isBox_X1_isBox_0) (fun _ h9 => h9) rfl dX1_isBox_9 ?_
    refine pt_top (y := nI ax) h0 ?_
    refine lv_iconst (v := nI 2) hx hb dX1_isBox_12 (by decide) ?_
    refine lv_icmp_lt (tgt := 25) hx hb dX1_isBox_13 (by decide) (fun c13 => ?_) (fun c13 => ?_)
    · have d13 : ¬ 2 ≤ ax := fun q => nI_nlt q (by omega) c13
      refine lv_aload_n hx hb dX1_isBox_25 rfl (lv_at hl 0 rfl) ?_
      refine va_get (D := (dC, dI)) (ci := 1) (v := .int (F 0)) (C := RX1) (T := TX1) (N := 18) hx hb hts iw_c_X1_isBox_wsX10 hown hK hP 0 rfl rfl 0 (by decide) (hts _ wd_c_X1_isBox_X1_isBox_0) (fun _ h9 => h9) rfl dX1_isBox_26 ?_
      refine pt_top (y := nI ax) h0 ?_
      refine lv_iconst (v := nI 3) hx hb dX1_isBox_29 (by decide) ?_
      refine lv_icmp_lt (tgt := 43) hx hb dX1_isBox_30 (by decide) (fun c30 => ?_) (fun c30 => ?_)
      · have d30 : ¬ 3 ≤ ax := fun q => nI_nlt q (by omega) c30
        refine lv_iconst (v := 1) hx hb dX1_isBox_43 (by decide) ?_
        refine lv_goto (tgt := 48) hx hb dX1_isBox_44 (by decide) ?_
        exact W.zret (v := 1) hx hb hr rfl (fun zt zh zW => ⟨_, rfl, (pt_B.one ⟨d5, by first | exact fun _ => d22 | exact fun q => absurd q d13, by first | exact fun _ => d40 | exact fun q => absurd q d30⟩), zh⟩) (fun q h => by cases h) dX1_isBox_48
      · have d30 : 3 ≤ ax := Nat.not_lt.mp (fun q => c30 (nI_lt q (by omega)))
        refine lv_iload hx hb dX1_isBox_33 (lv_at hl 5 rfl) ?_
        refine lv_iload hx hb dX1_isBox_35 (lv_at hl 6 rfl) ?_
        refine pt_rdi (va_runS (As := [.int z0, .int z1]) (rest := []) ⟨hx, hb, hml, hown, hts⟩ (c_X1_isSpan l dC dI (pt_xt c) (pt_xw a c F A Q) z0 z1) (va_cwS 2 hts gX1_isBox_X1_isSpan rfl rfl rfl (by decide +kernel) ⟨Nat.le_of_ble_eq_true rfl, Nat.le_of_ble_eq_true rfl⟩) (pt_R.preS hP hK hN) rfl rfl hl.1 rfl (lv_room (Nat.le_of_ble_eq_true rfl)) dX1_isBox_37 ⟨Nat.le_of_ble_eq_true rfl, Nat.le_of_ble_eq_true rfl⟩) (fun r37 hr37 => ?_)
        refine lv_if_eq (tgt := 47) hx hb dX1_isBox_40 (by decide) (fun c40 => ?_) (fun c40 => ?_)
        · have d40 := hr37.f c40
          refine lv_iconst (v := 0) hx hb dX1_isBox_47 (by decide) ?_
          exact W.zret (v := 0) hx hb hr rfl (fun zt zh zW => ⟨_, rfl, (pt_B.zero (fun q => by first | exact d40 (q.2.2 d30) | exact d22 (q.2.1 d13) | exact d5 q.1)), zh⟩) (fun q h => by cases h) dX1_isBox_48
        · have d40 := hr37.t c40
          refine lv_iconst (v := 1) hx hb dX1_isBox_43 (by decide) ?_
          refine lv_goto (tgt := 48) hx hb dX1_isBox_44 (by decide) ?_
          exact W.zret (v := 1) hx hb hr rfl (fun zt zh zW => ⟨_, rfl, (pt_B.one ⟨d5, by first | exact fun _ => d22 | exact fun q => absurd q d13, by first | exact fun _ => d40 | exact fun q => absurd q d30⟩), zh⟩) (fun q h => by cases h) dX1_isBox_48
    · have d13 : 2 ≤ ax := Nat.not_lt.mp (fun q => c13 (nI_lt q (by omega)))
      refine lv_iload_n hx hb dX1_isBox_16 rfl (lv_at hl 3 rfl) ?_
      refine lv_iload hx hb dX1_isBox_17 (lv_at hl 4 rfl) ?_
      refine pt_rdi (va_runS (As := [.int y0, .int y1]) (rest := []) ⟨hx, hb, hml, hown, hts⟩ (c_X1_isSpan l dC dI (pt_xt c) (pt_xw a c F A Q) y0 y1) (va_cwS 2 hts gX1_isBox_X1_isSpan rfl rfl rfl (by decide +kernel) ⟨Nat.le_of_ble_eq_true rfl, Nat.le_of_ble_eq_true rfl⟩) (pt_R.preS hP hK hN) rfl rfl hl.1 rfl (lv_room (Nat.le_of_ble_eq_true rfl)) dX1_isBox_19 ⟨Nat.le_of_ble_eq_true rfl, Nat.le_of_ble_eq_true rfl⟩) (fun r19 hr19 => ?_)
      refine lv_if_eq (tgt := 47) hx hb dX1_isBox_22 (by decide) (fun c22 => ?_) (fun c22 => ?_)
      · have d22 := hr19.f c22
        refine lv_iconst (v := 0) hx hb dX1_isBox_47 (by decide) ?_
        exact W.zret (v := 0) hx hb hr rfl (fun zt zh zW => ⟨_, rfl, (pt_B.zero (fun q => by first | exact d40 (q.2.2 d30) | exact d22 (q.2.1 d13) | exact d5 q.1)), zh⟩) (fun q h => by cases h) dX1_isBox_48
      · have d22 := hr19.t c22
        refine lv_aload_n hx hb dX1_isBox_25 rfl (lv_at hl 0 rfl) ?_
        refine va_get (D := (dC, dI)) (ci := 1) (v := .int (F 0)) (C := RX1) (T := TX1) (N := 18) hx hb hts iw_c_X1_isBox_wsX10 hown hK hP 0 rfl rfl 0 (by decide) (hts _ wd_c_X1_isBox_X1_isBox_0) (fun _ h9 => h9) rfl dX1_isBox_26 ?_
        refine pt_top (y := nI ax) h0 ?_
        refine lv_iconst (v := nI 3) hx hb dX1_isBox_29 (by decide) ?_
        refine lv_icmp_lt (tgt := 43) hx hb dX1_isBox_30 (by decide) (fun c30 => ?_) (fun c30 => ?_)
        · have d30 : ¬ 3 ≤ ax := fun q => nI_nlt q (by omega) c30
          refine lv_iconst (v := 1) hx hb dX1_isBox_43 (by decide) ?_
          refine lv_goto (tgt := 48) hx hb dX1_isBox_44 (by decide) ?_
          exact W.zret (v := 1) hx hb hr rfl (fun zt zh zW => ⟨_, rfl, (pt_B.one ⟨d5, by first | exact fun _ => d22 | exact fun q => absurd q d13, by first | exact fun _ => d40 | exact fun q => absurd q d30⟩), zh⟩) (fun q h => by cases h) dX1_isBox_48
        · have d30 : 3 ≤ ax := Nat.not_lt.mp (fun q => c30 (nI_lt q (by omega)))
          refine lv_iload hx hb dX1_isBox_33 (lv_at hl 5 rfl) ?_
          refine lv_iload hx hb dX1_isBox_35 (lv_at hl 6 rfl) ?_
          refine pt_rdi (va_runS (As := [.int z0, .int z1]) (rest := []) ⟨hx, hb, hml, hown, hts⟩ (c_X1_isSpan l dC dI (pt_xt c) (pt_xw a c F A Q) z0 z1) (va_cwS 2 hts gX1_isBox_X1_isSpan rfl rfl rfl (by decide +kernel) ⟨Nat.le_of_ble_eq_true rfl, Nat.le_of_ble_eq_true rfl⟩) (pt_R.preS hP hK hN) rfl rfl hl.1 rfl (lv_room (Nat.le_of_ble_eq_true rfl)) dX1_isBox_37 ⟨Nat.le_of_ble_eq_true rfl, Nat.le_of_ble_eq_true rfl⟩) (fun r37 hr37 => ?_)
          refine lv_if_eq (tgt := 47) hx hb dX1_isBox_40 (by decide) (fun c40 => ?_) (fun c40 => ?_)
          · have d40 := hr37.f c40
            refine lv_iconst (v := 0) hx hb dX1_isBox_47 (by decide) ?_
            exact W.zret (v := 0) hx hb hr rfl (fun zt zh zW => ⟨_, rfl, (pt_B.zero (fun q => by first | exact d40 (q.2.2 d30) | exact d22 (q.2.1 d13) | exact d5 q.1)), zh⟩) (fun q h => by cases h) dX1_isBox_48
          · have d40 := hr37.t c40
            refine lv_iconst (v := 1) hx hb dX1_isBox_43 (by decide) ?_
            refine lv_goto (tgt := 48) hx hb dX1_isBox_44 (by decide) ?_
            exact W.zret (v := 1) hx hb hr rfl (fun zt zh zW => ⟨_, rfl, (pt_B.one ⟨d5, by first | exact fun _ => d22 | exact fun q => absurd q d13, by first | exact fun _ => d40 | exact fun q => absurd q d30⟩), zh⟩) (fun q h => by cases h) dX1_isBox_48

theorem iw_c_X1_isPlace_wsX10 : ∀ w ∈ wsX10, w ∈ wsX1_isPlace := fun _ h => List.mem_cons_of_mem _ (List.mem_append_right _ h)
set_option maxHeartbeats 4000000 in
set_option maxRecDepth 100000 in
theorem c_X1_isPlace (l : Launch) (dC : Nat → ClassId) (dI : Nat → Nat → Nat) (a : Nat → Nat) (c : Nat → ClassId) (F : Nat → Int32) (A : Nat → Nat → Int32) (Q : Nat → Int64) (ax : Nat) (h0 : F 0 = nI ax) (hax : ax ≤ 3) (x y z : Int32) : Met l yX1_isPlace wsX1_isPlace (pt_rm 2) (pt_R (dC, dI) vwCl (pt_xt c) (pt_xw a c F A Q) pt_nw [.ref (a 0), .int x, .int y, .int z]) (vp_Si (fun r => pt_B r (pt_box ax x x y y z z))) 0 0 (fun _ => False) := by
  refine Met.ofW (cc := cX1_isPlace) (maxL := 4) (ret := (some .boolean)) (by decide) rfl ?_
  intro p e s m args below meth cd s₁ B hml hv
  obtain ⟨rfl, hP, hK, hN⟩ := hv
  have hx := B.exec
  have hb := B.bytes
  have hr := B.returns
  have hts := atoms_spec (ws := wsX1_isPlace) B.pre
  have hown : s.vm.findClass RX1 = some m.cls := findClass_of_methodNamed B.named
  have hlocks := B.notSynchronized
  have hl := lv_entry ([.ref (a 0), .int x, .int y, .int z]) (n := 4) (Nat.le_of_ble_eq_true rfl)
  rw [lg_entry_eq]
  generalize (lg_sl ([.ref (a 0), .int x, .int y, .int z]) ++ List.replicate (4 - (lg_sl ([.ref (a 0), .int x, .int y, .int z])).length) Slot.unset).toArray = ls at hl ⊢
  have hl : lv_has ls 4 [(0, .ref (a 0)), (1, .int x), (2, .int y), (3, .int z)] := hl
  refine lv_aload_n hx hb dX1_isPlace_0 rfl (lv_at hl 0 rfl) ?_
  refine lv_iload_n hx hb dX1_isPlace_1 rfl (lv_at hl 1 rfl) ?_
  refine lv_iload_n hx hb dX1_isPlace_2 rfl (lv_at hl 1 rfl) ?_
  refine lv_iload_n hx hb dX1_isPlace_3 rfl (lv_at hl 2 rfl) ?_
  refine lv_iload_n hx hb dX1_isPlace_4 rfl (lv_at hl 2 rfl) ?_
  refine lv_iload_n hx hb dX1_isPlace_5 rfl (lv_at hl 3 rfl) ?_
  refine lv_iload_n hx hb dX1_isPlace_6 rfl (lv_at hl 3 rfl) ?_
  refine pt_rdi (va_runV (As := [.int x, .int x, .int y, .int y, .int z, .int z]) (rest := []) ⟨hx, hb, hml, hown, hts⟩ (c_X1_isBox l dC dI a c F A Q ax h0 hax x x y y z z) (cwV 6 hts gX1_isPlace_X1_isBox rfl rfl rfl (by decide +kernel) ⟨Nat.le_of_ble_eq_true rfl, Nat.le_of_ble_eq_true rfl⟩) (pt_pv1 hP hK hN (q0 := 0) rfl) rfl rfl hl.1 rfl (lv_room (Nat.le_of_ble_eq_true rfl)) dX1_isPlace_7 ⟨Nat.le_of_ble_eq_true rfl, Nat.le_of_ble_eq_true rfl⟩) (fun r7 hr7 => ?_)
  exact W.zret (v := r7) hx hb hr hr7.nar (fun zt zh zW => ⟨_, rfl, hr7, zh⟩) (fun q h => by cases h) dX1_isPlace_10

theorem wd_c_X1_hasThing_X1_hasThing_0 : Cond.fieldLink RX1 60 "PointTrees" "made" "I" ∈ wsX1_hasThing := by decide +kernel
theorem wd_c_X1_hasThing_X1_hasThing_1 : Cond.fieldLink RX1 15 "PointTrees" "isThere" "[Z" ∈ wsX1_hasThing := by decide +kernel
theorem iw_c_X1_hasThing_wsX10 : ∀ w ∈ wsX10, w ∈ wsX1_hasThing := fun _ h => List.mem_cons_of_mem _ (List.mem_append_right _ h)
set_option maxHeartbeats 4000000 in
set_option maxRecDepth 100000 in
theorem c_X1_hasThing (l : Launch) (dC : Nat → ClassId) (dI : Nat → Nat → Nat) (a : Nat → Nat) (c : Nat → ClassId) (F : Nat → Int32) (A : Nat → Nat → Int32) (Q : Nat → Int64) (md : Nat) (h1 : F 1 = nI md) (hmd : md ≤ 64) (k : Int32) : Met l yX1_hasThing wsX1_hasThing (pt_rm 0) (pt_R (dC, dI) vwCl (pt_xt c) (pt_xw a c F A Q) pt_nw [.ref (a 0), .int k]) (vp_Si (fun r => pt_B r (pt_in md (fun t => ¬ A 3 t = 0) k))) 0 0 (fun _ => False) := by
  refine Met.ofW (cc := cX1_hasThing) (maxL := 2) (ret := (some .boolean)) (by decide) rfl ?_
  intro p e s m args below meth cd s₁ B hml hv
  obtain ⟨rfl, hP, hK, hN⟩ := hv
  have hx := B.exec
  have hb := B.bytes
  have hr := B.returns
  have hts := atoms_spec (ws := wsX1_hasThing) B.pre
  have hown : s.vm.findClass RX1 = some m.cls := findClass_of_methodNamed B.named
  have hlocks := B.notSynchronized
  have hl := lv_entry ([.ref (a 0), .int k]) (n := 2) (Nat.le_of_ble_eq_true rfl)
  rw [lg_entry_eq]
  generalize (lg_sl ([.ref (a 0), .int k]) ++ List.replicate (2 - (lg_sl ([.ref (a 0), .int k])).length) Slot.unset).toArray = ls at hl ⊢
  have hl : lv_has ls 2 [(0, .ref (a 0)), (1, .int k)] := hl
  refine lv_iload_n hx hb dX1_hasThing_0 rfl (lv_at hl 1 rfl) ?_
  refine lv_if_lt (tgt := 25) hx hb dX1_hasThing_1 (by decide) (fun c1 => ?_) (fun c1 => ?_)
  · refine lv_iconst (v := 0) hx hb dX1_hasThing_25 (by decide) ?_
    exact W.zret (v := 0) hx hb hr rfl (fun zt zh zW => ⟨_, rfl, (pt_B.zero (by first | exact pt_in_no ek ht (by omega) (fun q => q c18) | exact pt_in_hi c9 (by omega) | exact pt_in_lo c1 (by omega))), zh⟩) (fun q h => by cases h) dX1_hasThing_26
  · refine lv_iload_n hx hb dX1_hasThing_4 rfl (lv_at hl 1 rfl) ?_
    refine lv_aload_n hx hb dX1_hasThing_5 rfl (lv_at hl 0 rfl) ?_
    refine va_get (D := (dC, dI)) (ci := 1) (v := .int (F 1)) (C := RX1) (T := TX1) (N := 18) hx hb hts iw_c_X1_hasThing_wsX10 hown hK hP 0 rfl rfl 1 (by decide) (hts _ wd_c_X1_hasThing_X1_hasThing_0) (fun _ h9 => h9) rfl dX1_hasThing_6 ?_
    refine pt_top (y := nI md) h1 ?_
    refine lv_icmp_ge (tgt := 25) hx hb dX1_hasThing_9 (by decide) (fun c9 => ?_) (fun c9 => ?_)
    · refine lv_iconst (v := 0) hx hb dX1_hasThing_25 (by decide) ?_
      exact W.zret (v := 0) hx hb hr rfl (fun zt zh zW => ⟨_, rfl, (pt_B.zero (by first | exact pt_in_no ek ht (by omega) (fun q => q c18) | exact pt_in_hi c9 (by omega) | exact pt_in_lo c1 (by omega))), zh⟩) (fun q h => by cases h) dX1_hasThing_26
    · obtain ⟨t, ht, ek⟩ := pt_ix c1 c9 (by omega)
      refine lv_aload_n hx hb dX1_hasThing_12 rfl (lv_at hl 0 rfl) ?_
      refine va_get (D := (dC, dI)) (ci := 1) (v := .ref (a 3)) (C := RX1) (T := TX1) (N := 18) hx hb hts iw_c_X1_hasThing_wsX10 hown hK hP 0 rfl rfl 3 (by decide) (hts _ wd_c_X1_hasThing_X1_hasThing_1) (fun _ h9 => h9) rfl dX1_hasThing_13 ?_
      refine lv_iload_n hx hb dX1_hasThing_16 rfl (lv_at hl 1 rfl) ?_
      refine pt_zald hx hb hK hP 1 0 rfl rfl t ek (by omega) (by decide) dX1_hasThing_17 ?_
      refine lv_if_eq (tgt := 25) hx hb dX1_hasThing_18 (by decide) (fun c18 => ?_) (fun c18 => ?_)
      · refine lv_iconst (v := 0) hx hb dX1_hasThing_25 (by decide) ?_
        exact W.zret (v := 0) hx hb hr rfl (fun zt zh zW => ⟨_, rfl, (pt_B.zero (by first | exact pt_in_no ek ht (by omega) (fun q => q c18) | exact pt_in_hi c9 (by omega) | exact pt_in_lo c1 (by omega))), zh⟩) (fun q h => by cases h) dX1_hasThing_26
      · refine lv_iconst (v := 1) hx hb dX1_hasThing_21 (by decide) ?_
        refine lv_goto (tgt := 26) hx hb dX1_hasThing_22 (by decide) ?_
        exact W.zret (v := 1) hx hb hr rfl (fun zt zh zW => ⟨_, rfl, (pt_B.one ⟨t, ht, ek, c18⟩), zh⟩) (fun q h => by cases h) dX1_hasThing_26

theorem wd_c_X1_hasBlock_X1_hasBlock_0 : Cond.fieldLink RX1 66 "PointTrees" "blocks" "I" ∈ wsX1_hasBlock := by decide +kernel
theorem iw_c_X1_hasBlock_wsX10 : ∀ w ∈ wsX10, w ∈ wsX1_hasBlock := fun _ h => List.mem_cons_of_mem _ (List.mem_append_right _ h)
set_option maxHeartbeats 4000000 in
set_option maxRecDepth 100000 in
theorem c_X1_hasBlock (l : Launch) (dC : Nat → ClassId) (dI : Nat → Nat → Nat) (a : Nat → Nat) (c : Nat → ClassId) (F : Nat → Int32) (A : Nat → Nat → Int32) (Q : Nat → Int64) (nb : Nat) (h5 : F 5 = nI nb) (hnb : nb ≤ 31) (k : Int32) : Met l yX1_hasBlock wsX1_hasBlock (pt_rm 0) (pt_R (dC, dI) vwCl (pt_xt c) (pt_xw a c F A Q) pt_nw [.ref (a 0), .int k]) (vp_Si (fun r => pt_B r (pt_in nb (fun _ => True) k))) 0 0 (fun _ => False) := by
  refine Met.ofW (cc := cX1_hasBlock) (maxL := 2) (ret := (some .boolean)) (by decide) rfl ?_
  intro p e s m args below meth cd s₁ B hml hv
  obtain ⟨rfl, hP, hK, hN⟩ := hv
  have hx := B.exec
  have hb := B.bytes
  have hr := B.returns
  have hts := atoms_spec (ws := wsX1_hasBlock) B.pre
  have hown : s.vm.findClass RX1 = some m.cls := findClass_of_methodNamed B.named
  have hlocks := B.notSynchronized
  have hl := lv_entry ([.ref (a 0), .int k]) (n := 2) (Nat.le_of_ble_eq_true rfl)
  rw [lg_entry_eq]
  generalize (lg_sl ([.ref (a 0), .int k]) ++ List.replicate (2 - (lg_sl ([.ref (a 0), .int k])).length) Slot.unset).toArray = ls at hl ⊢
  have hl : lv_has ls 2 [(0, .ref (a 0)), (1, .int k)] := hl
  refine lv_iload_n hx hb dX1_hasBlock_0 rfl (lv_at hl 1 rfl) ?_
  refine lv_if_lt (tgt := 16) hx hb dX1_hasBlock_1 (by decide) (fun c1 => ?_) (fun c1 => ?_)
  · refine lv_iconst (v := 0) hx hb dX1_hasBlock_16 (by decide) ?_
    exact W.zret (v := 0) hx hb hr rfl (fun zt zh zW => ⟨_, rfl, (pt_B.zero (by first | exact pt_in_hi c9 (by omega) | exact pt_in_lo c1 (by omega))), zh⟩) (fun q h => by cases h) dX1_hasBlock_17
  · refine lv_iload_n hx hb dX1_hasBlock_4 rfl (lv_at hl 1 rfl) ?_
    refine lv_aload_n hx hb dX1_hasBlock_5 rfl (lv_at hl 0 rfl) ?_
    refine va_get (D := (dC, dI)) (ci := 1) (v := .int (F 5)) (C := RX1) (T := TX1) (N := 18) hx hb hts iw_c_X1_hasBlock_wsX10 hown hK hP 0 rfl rfl 5 (by decide) (hts _ wd_c_X1_hasBlock_X1_hasBlock_0) (fun _ h9 => h9) rfl dX1_hasBlock_6 ?_
    refine pt_top (y := nI nb) h5 ?_
    refine lv_icmp_ge (tgt := 16) hx hb dX1_hasBlock_9 (by decide) (fun c9 => ?_) (fun c9 => ?_)
    · refine lv_iconst (v := 0) hx hb dX1_hasBlock_16 (by decide) ?_
      exact W.zret (v := 0) hx hb hr rfl (fun zt zh zW => ⟨_, rfl, (pt_B.zero (by first | exact pt_in_hi c9 (by omega) | exact pt_in_lo c1 (by omega))), zh⟩) (fun q h => by cases h) dX1_hasBlock_17
    · obtain ⟨t, ht, ek⟩ := pt_ix c1 c9 (by omega)
      refine lv_iconst (v := 1) hx hb dX1_hasBlock_12 (by decide) ?_
      refine lv_goto (tgt := 17) hx hb dX1_hasBlock_13 (by decide) ?_
      exact W.zret (v := 1) hx hb hr rfl (fun zt zh zW => ⟨_, rfl, (pt_B.one ⟨t, ht, ek, trivial⟩), zh⟩) (fun q h => by cases h) dX1_hasBlock_17

theorem wd_c_X1_hasEnd_X1_hasEnd_0 : Cond.fieldLink RX1 9 "PointTrees" "axes" "I" ∈ wsX1_hasEnd := by decide +kernel
theorem iw_c_X1_hasEnd_wsX10 : ∀ w ∈ wsX10, w ∈ wsX1_hasEnd := fun _ h => List.mem_cons_of_mem _ (List.mem_append_right _ h)
set_option maxHeartbeats 4000000 in
set_option maxRecDepth 100000 in
theorem c_X1_hasEnd (l : Launch) (dC : Nat → ClassId) (dI : Nat → Nat → Nat) (a : Nat → Nat) (c : Nat → ClassId) (F : Nat → Int32) (A : Nat → Nat → Int32) (Q : Nat → Int64) (ax : Nat) (h0 : F 0 = nI ax) (hax : ax ≤ 3) (k d : Int32) : Met l yX1_hasEnd wsX1_hasEnd (pt_rm 0) (pt_R (dC, dI) vwCl (pt_xt c) (pt_xw a c F A Q) pt_nw [.ref (a 0), .int k, .int d]) (vp_Si (fun r => pt_B r (pt_in ax (fun _ => True) k ∧ pt_in 2 (fun _ => True) d))) 0 0 (fun _ => False) := by
  refine Met.ofW (cc := cX1_hasEnd) (maxL := 3) (ret := (some .boolean)) (by decide) rfl ?_
  intro p e s m args below meth cd s₁ B hml hv
  obtain ⟨rfl, hP, hK, hN⟩ := hv
  have hx := B.exec
  have hb := B.bytes
  have hr := B.returns
  have hts := atoms_spec (ws := wsX1_hasEnd) B.pre
  have hown : s.vm.findClass RX1 = some m.cls := findClass_of_methodNamed B.named
  have hlocks := B.notSynchronized
  have hl := lv_entry ([.ref (a 0), .int k, .int d]) (n := 3) (Nat.le_of_ble_eq_true rfl)
  rw [lg_entry_eq]
  generalize (lg_sl ([.ref (a 0), .int k, .int d]) ++ List.replicate (3 - (lg_sl ([.ref (a 0), .int k, .int d])).length) Slot.unset).toArray = ls at hl ⊢
  have hl : lv_has ls 3 [(0, .ref (a 0)), (1, .int k), (2, .int d)] := hl
  refine lv_iload_n hx hb dX1_hasEnd_0 rfl (lv_at hl 1 rfl) ?_
  refine lv_if_lt (tgt := 25) hx hb dX1_hasEnd_1 (by decide) (fun c1 => ?_) (fun c1 => ?_)
  · refine lv_iconst (v := 0) hx hb dX1_hasEnd_25 (by decide) ?_
    exact W.zret (v := 0) hx hb hr rfl (fun zt zh zW => ⟨_, rfl, (pt_B.zero (fun q => by first | (obtain ⟨_, u, hu, eu, _⟩ := q; rcases (show u = 0 ∨ u = 1 by omega) with rfl | rfl <;> first | exact c13 eu | exact c18 eu) | exact pt_in_hi c9 (by omega) q.1 | exact pt_in_lo c1 (by omega) q.1)), zh⟩) (fun q h => by cases h) dX1_hasEnd_26
  · refine lv_iload_n hx hb dX1_hasEnd_4 rfl (lv_at hl 1 rfl) ?_
    refine lv_aload_n hx hb dX1_hasEnd_5 rfl (lv_at hl 0 rfl) ?_
    refine va_get (D := (dC, dI)) (ci := 1) (v := .int (F 0)) (C := RX1) (T := TX1) (N := 18) hx hb hts iw_c_X1_hasEnd_wsX10 hown hK hP 0 rfl rfl 0 (by decide) (hts _ wd_c_X1_hasEnd_X1_hasEnd_0) (fun _ h9 => h9) rfl dX1_hasEnd_6 ?_
    refine pt_top (y := nI ax) h0 ?_
    refine lv_icmp_ge (tgt := 25) hx hb dX1_hasEnd_9 (by decide) (fun c9 => ?_) (fun c9 => ?_)
    · refine lv_iconst (v := 0) hx hb dX1_hasEnd_25 (by decide) ?_
      exact W.zret (v := 0) hx hb hr rfl (fun zt zh zW => ⟨_, rfl, (pt_B.zero (fun q => by first | (obtain ⟨_, u, hu, eu, _⟩ := q; rcases (show u = 0 ∨ u = 1 by omega) with rfl | rfl <;> first | exact c13 eu | exact c18 eu) | exact pt_in_hi c9 (by omega) q.1 | exact pt_in_lo c1 (by omega) q.1)), zh⟩) (fun q h => by cases h) dX1_hasEnd_26
    · obtain ⟨t, ht, ek⟩ := pt_ix c1 c9 (by omega)
      refine lv_iload_n hx hb dX1_hasEnd_12 rfl (lv_at hl 2 rfl) ?_
      refine lv_if_eq (tgt := 21) hx hb dX1_hasEnd_13 (by decide) (fun c13 => ?_) (fun c13 => ?_)
      · refine lv_iconst (v := 1) hx hb dX1_hasEnd_21 (by decide) ?_
        refine lv_goto (tgt := 26) hx hb dX1_hasEnd_22 (by decide) ?_
        exact W.zret (v := 1) hx hb hr rfl (fun zt zh zW => ⟨_, rfl, (pt_B.one ⟨⟨t, ht, ek, trivial⟩, by first | exact ⟨1, by decide, c18, trivial⟩ | exact ⟨0, by decide, c13, trivial⟩⟩), zh⟩) (fun q h => by cases h) dX1_hasEnd_26
      · refine lv_iload_n hx hb dX1_hasEnd_16 rfl (lv_at hl 2 rfl) ?_
        refine lv_iconst (v := nI 1) hx hb dX1_hasEnd_17 (by decide) ?_
        refine lv_icmp_ne (tgt := 25) hx hb dX1_hasEnd_18 (by decide) (fun c18 => ?_) (fun c18 => ?_)
        · refine lv_iconst (v := 0) hx hb dX1_hasEnd_25 (by decide) ?_
          exact W.zret (v := 0) hx hb hr rfl (fun zt zh zW => ⟨_, rfl, (pt_B.zero (fun q => by first | (obtain ⟨_, u, hu, eu, _⟩ := q; rcases (show u = 0 ∨ u = 1 by omega) with rfl | rfl <;> first | exact c13 eu | exact c18 eu) | exact pt_in_hi c9 (by omega) q.1 | exact pt_in_lo c1 (by omega) q.1)), zh⟩) (fun q h => by cases h) dX1_hasEnd_26
        · refine lv_iconst (v := 1) hx hb dX1_hasEnd_21 (by decide) ?_
          refine lv_goto (tgt := 26) hx hb dX1_hasEnd_22 (by decide) ?_
          exact W.zret (v := 1) hx hb hr rfl (fun zt zh zW => ⟨_, rfl, (pt_B.one ⟨⟨t, ht, ek, trivial⟩, by first | exact ⟨1, by decide, c18, trivial⟩ | exact ⟨0, by decide, c13, trivial⟩⟩), zh⟩) (fun q h => by cases h) dX1_hasEnd_26

theorem wd_c_X1_isParted_X1_isParted_0 : Cond.fieldLink RX1 38 "PointTrees" "otherHalf" "[I" ∈ wsX1_isParted := by decide +kernel
theorem iw_c_X1_isParted_wsX10 : ∀ w ∈ wsX10, w ∈ wsX1_isParted := fun _ h => List.mem_cons_of_mem _ (List.mem_append_right _ h)
set_option maxHeartbeats 4000000 in
set_option maxRecDepth 100000 in
theorem c_X1_isParted (l : Launch) (dC : Nat → ClassId) (dI : Nat → Nat → Nat) (a : Nat → Nat) (c : Nat → ClassId) (F : Nat → Int32) (A : Nat → Nat → Int32) (Q : Nat → Int64) (k : Nat) (hk : k < 31) : Met l yX1_isParted wsX1_isParted (pt_rm 0) (pt_R (dC, dI) vwCl (pt_xt c) (pt_xw a c F A Q) pt_nw [.ref (a 0), .int (nI k)]) (vp_Si (fun r => pt_B r (¬ A 10 k = 0))) 0 0 (fun _ => False) := by
  refine Met.ofW (cc := cX1_isParted) (maxL := 2) (ret := (some .boolean)) (by decide) rfl ?_
  intro p e s m args below meth cd s₁ B hml hv
  obtain ⟨rfl, hP, hK, hN⟩ := hv
  have hx := B.exec
  have hb := B.bytes
  have hr := B.returns
  have hts := atoms_spec (ws := wsX1_isParted) B.pre
  have hown : s.vm.findClass RX1 = some m.cls := findClass_of_methodNamed B.named
  have hlocks := B.notSynchronized
  have hl := lv_entry ([.ref (a 0), .int (nI k)]) (n := 2) (Nat.le_of_ble_eq_true rfl)
  rw [lg_entry_eq]
  generalize (lg_sl ([.ref (a 0), .int (nI k)]) ++ List.replicate (2 - (lg_sl ([.ref (a 0), .int (nI k)])).length) Slot.unset).toArray = ls at hl ⊢
  have hl : lv_has ls 2 [(0, .ref (a 0)), (1, .int (nI k))] := hl
  refine lv_aload_n hx hb dX1_isParted_0 rfl (lv_at hl 0 rfl) ?_
  refine va_get (D := (dC, dI)) (ci := 1) (v := .ref (a 10)) (C := RX1) (T := TX1) (N := 18) hx hb hts iw_c_X1_isParted_wsX10 hown hK hP 0 rfl rfl 10 (by decide) (hts _ wd_c_X1_isParted_X1_isParted_0) (fun _ h9 => h9) rfl dX1_isParted_1 ?_
  refine lv_iload_n hx hb dX1_isParted_4 rfl (lv_at hl 1 rfl) ?_
  refine pt_iald hx hb hK hP 7 5 rfl rfl k rfl (by omega) (by decide) dX1_isParted_5 ?_
  refine lv_if_eq (tgt := 13) hx hb dX1_isParted_6 (by decide) (fun c6 => ?_) (fun c6 => ?_)
  · refine lv_iconst (v := 0) hx hb dX1_isParted_13 (by decide) ?_
    exact W.zret (v := 0) hx hb hr rfl (fun zt zh zW => ⟨_, rfl, (pt_B.zero (fun q => q c6)), zh⟩) (fun q h => by cases h) dX1_isParted_14
  · refine lv_iconst (v := 1) hx hb dX1_isParted_9 (by decide) ?_
    refine lv_goto (tgt := 14) hx hb dX1_isParted_10 (by decide) ?_
    exact W.zret (v := 1) hx hb hr rfl (fun zt zh zW => ⟨_, rfl, (pt_B.one c6), zh⟩) (fun q h => by cases h) dX1_isParted_14

theorem wd_c_X1_count_X1_count_0 : Cond.fieldLink RX1 63 "PointTrees" "present" "I" ∈ wsX1_count := by decide +kernel
theorem iw_c_X1_count_wsX10 : ∀ w ∈ wsX10, w ∈ wsX1_count := fun _ h => List.mem_cons_of_mem _ (List.mem_append_right _ h)
set_option maxHeartbeats 4000000 in
set_option maxRecDepth 100000 in
theorem c_X1_count (l : Launch) (dC : Nat → ClassId) (dI : Nat → Nat → Nat) (a : Nat → Nat) (c : Nat → ClassId) (F : Nat → Int32) (A : Nat → Nat → Int32) (Q : Nat → Int64) : Met l yX1_count wsX1_count (pt_rm 0) (pt_R (dC, dI) vwCl (pt_xt c) (pt_xw a c F A Q) pt_nw [.ref (a 0)]) (vp_Si (fun r => r = F 2)) 0 0 (fun _ => False) := by
  refine Met.ofW (cc := cX1_count) (maxL := 1) (ret := (some .int)) (by decide) rfl ?_
  intro p e s m args below meth cd s₁ B hml hv
  obtain ⟨rfl, hP, hK, hN⟩ := hv
  have hx := B.exec
  have hb := B.bytes
  have hr := B.returns
  have hts := atoms_spec (ws := wsX1_count) B.pre
  have hown : s.vm.findClass RX1 = some m.cls := findClass_of_methodNamed B.named
  have hlocks := B.notSynchronized
  have hl := lv_entry ([.ref (a 0)]) (n := 1) (Nat.le_of_ble_eq_true rfl)
  rw [lg_entry_eq]
  generalize (lg_sl ([.ref (a 0)]) ++ List.replicate (1 - (lg_sl ([.ref (a 0)])).length) Slot.unset).toArray = ls at hl ⊢
  have hl : lv_has ls 1 [(0, .ref (a 0))] := hl
  refine lv_aload_n hx hb dX1_count_0 rfl (lv_at hl 0 rfl) ?_
  refine va_get (D := (dC, dI)) (ci := 1) (v := .int (F 2)) (C := RX1) (T := TX1) (N := 18) hx hb hts iw_c_X1_count_wsX10 hown hK hP 0 rfl rfl 2 (by decide) (hts _ wd_c_X1_count_X1_count_0) (fun _ h9 => h9) rfl dX1_count_1 ?_
  exact W.iret (v := (F 2)) hx hb hr (fun zt zh zW => ⟨_, rfl, rfl, zh⟩) (fun q h => by cases h) dX1_count_4

theorem wd_c_X1_told_X1_told_0 : Cond.fieldLink RX1 53 "PointTrees" "toldCounts" "[I" ∈ wsX1_told := by decide +kernel
theorem iw_c_X1_told_wsX10 : ∀ w ∈ wsX10, w ∈ wsX1_told := fun _ h => List.mem_cons_of_mem _ (List.mem_append_right _ h)
set_option maxHeartbeats 4000000 in
set_option maxRecDepth 100000 in
theorem c_X1_told (l : Launch) (dC : Nat → ClassId) (dI : Nat → Nat → Nat) (a : Nat → Nat) (c : Nat → ClassId) (F : Nat → Int32) (A : Nat → Nat → Int32) (Q : Nat → Int64) (k : Int32) : Met l yX1_told wsX1_told (pt_rm 0) (pt_R (dC, dI) vwCl (pt_xt c) (pt_xw a c F A Q) pt_nw [.ref (a 0), .int k]) (vp_Si (fun r => (∃ t, t < 3 ∧ k = nI t ∧ r = A 16 t) ∨ (¬ pt_in 3 (fun _ => True) k ∧ r = -2))) 0 0 (fun _ => False) := by
  refine Met.ofW (cc := cX1_told) (maxL := 2) (ret := (some .int)) (by decide) rfl ?_
  intro p e s m args below meth cd s₁ B hml hv
  obtain ⟨rfl, hP, hK, hN⟩ := hv
  have hx := B.exec
  have hb := B.bytes
  have hr := B.returns
  have hts := atoms_spec (ws := wsX1_told) B.pre
  have hown : s.vm.findClass RX1 = some m.cls := findClass_of_methodNamed B.named
  have hlocks := B.notSynchronized
  have hl := lv_entry ([.ref (a 0), .int k]) (n := 2) (Nat.le_of_ble_eq_true rfl)
  rw [lg_entry_eq]
  generalize (lg_sl ([.ref (a 0), .int k]) ++ List.replicate (2 - (lg_sl ([.ref (a 0), .int k])).length) Slot.unset).toArray = ls at hl ⊢
  have hl : lv_has ls 2 [(0, .ref (a 0)), (1, .int k)] := hl
  refine lv_iload_n hx hb dX1_told_0 rfl (lv_at hl 1 rfl) ?_
  refine lv_if_lt (tgt := 9) hx hb dX1_told_1 (by decide) (fun c1 => ?_) (fun c1 => ?_)
  · refine lv_bipush (v := (-2)) hx hb dX1_told_9 (by decide) ?_
    exact W.iret (v := (-2)) hx hb hr (fun zt zh zW => ⟨_, rfl, (Or.inr ⟨by first | exact pt_in_hi (Int32.not_lt.mp c6) (by omega) | exact pt_in_lo c1 (by omega), rfl⟩), zh⟩) (fun q h => by cases h) dX1_told_11
  · refine lv_iload_n hx hb dX1_told_4 rfl (lv_at hl 1 rfl) ?_
    refine lv_iconst (v := nI 3) hx hb dX1_told_5 (by decide) ?_
    refine lv_icmp_lt (tgt := 12) hx hb dX1_told_6 (by decide) (fun c6 => ?_) (fun c6 => ?_)
    · obtain ⟨t, ht, ek⟩ := pt_ix (n := 3) c1 (Int32.not_le.mpr c6) (by omega)
      refine lv_aload_n hx hb dX1_told_12 rfl (lv_at hl 0 rfl) ?_
      refine va_get (D := (dC, dI)) (ci := 1) (v := .ref (a 16)) (C := RX1) (T := TX1) (N := 18) hx hb hts iw_c_X1_told_wsX10 hown hK hP 0 rfl rfl 16 (by decide) (hts _ wd_c_X1_told_X1_told_0) (fun _ h9 => h9) rfl dX1_told_13 ?_
      refine lv_iload_n hx hb dX1_told_16 rfl (lv_at hl 1 rfl) ?_
      refine pt_iald hx hb hK hP 14 10 rfl rfl t ek ht (by decide) dX1_told_17 ?_
      exact W.iret (v := (A 16 t)) hx hb hr (fun zt zh zW => ⟨_, rfl, (Or.inl ⟨t, ht, ek, rfl⟩), zh⟩) (fun q h => by cases h) dX1_told_18
    · refine lv_bipush (v := (-2)) hx hb dX1_told_9 (by decide) ?_
      exact W.iret (v := (-2)) hx hb hr (fun zt zh zW => ⟨_, rfl, (Or.inr ⟨by first | exact pt_in_hi (Int32.not_lt.mp c6) (by omega) | exact pt_in_lo c1 (by omega), rfl⟩), zh⟩) (fun q h => by cases h) dX1_told_11
