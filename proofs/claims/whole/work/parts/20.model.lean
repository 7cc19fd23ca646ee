theorem wd_c_X2_isThing_X2_isThing_0 : Cond.fieldLink RX2 72 "PointTreesModel" "made" "I" ∈ wsX2_isThing := by decide +kernel
theorem wd_c_X2_isThing_X2_isThing_1 : Cond.fieldLink RX2 13 "PointTreesModel" "there" "[Z" ∈ wsX2_isThing := by decide +kernel
theorem iw_c_X2_isThing_wsX20 : ∀ w ∈ wsX20, w ∈ wsX2_isThing := fun _ h => List.mem_cons_of_mem _ (List.mem_append_right _ h)
set_option maxHeartbeats 4000000 in
set_option maxRecDepth 100000 in
theorem c_X2_isThing (l : Launch) (dC : Nat → ClassId) (dI : Nat → Nat → Nat) (a : Nat → Nat) (c : Nat → ClassId) (F : Nat → Int32) (A : Nat → Nat → Int32) (md : Nat) (h2 : F 2 = nI md) (hmd : md ≤ 64) (k : Int32) : Met l yX2_isThing wsX2_isThing (pt_rm 0) (pt_R (dC, dI) vwCl (pt_mt c) (pt_mw a c F A) pt_nw [.ref (a 0), .int k]) (vp_Si (fun r => pt_B r (pt_in md (fun t => ¬ A 3 t = 0) k))) 0 0 (fun _ => False) := by
  refine Met.ofW (cc := cX2_isThing) (maxL := 2) (ret := (some .boolean)) (by decide) rfl ?_
  intro p e s m args below meth cd s₁ B hml hv
  obtain ⟨rfl, hP, hK, hN⟩ := hv
  have hx := B.exec
  have hb := B.bytes
  have hr := B.returns
  have hts := atoms_spec (ws := wsX2_isThing) B.pre
  have hown : s.vm.findClass RX2 = some m.cls := findClass_of_methodNamed B.named
  have hlocks := B.notSynchronized
  have hl := lv_entry ([.ref (a 0), .int k]) (n := 2) (Nat.le_of_ble_eq_true rfl)
  rw [lg_entry_eq]
  generalize (lg_sl ([.ref (a 0), .int k]) ++ List.replicate (2 - (lg_sl ([.ref (a 0), .int k])).length) Slot.unset).toArray = ls at hl ⊢
  have hl : lv_has ls 2 [(0, .ref (a 0)), (1, .int k)] := hl
  refine lv_iload_n hx hb dX2_isThing_0 rfl (lv_at hl 1 rfl) ?_
  refine lv_if_lt (tgt := 25) hx hb dX2_isThing_1 (by decide) (fun c1 => ?_) (fun c1 => ?_)
  · refine lv_iconst (v := 0) hx hb dX2_isThing_25 (by decide) ?_
    exact W.zret (v := 0) hx hb hr rfl (fun zt zh zW => ⟨_, rfl, (pt_B.zero (by first | exact pt_in_no ek ht (by omega) (fun q => q c18) | exact pt_in_hi c9 (by omega) | exact pt_in_lo c1 (by omega))), zh⟩) (fun q h => by cases h) dX2_isThing_26
  · refine lv_iload_n hx hb dX2_isThing_4 rfl (lv_at hl 1 rfl) ?_
    refine lv_aload_n hx hb dX2_isThing_5 rfl (lv_at hl 0 rfl) ?_
    refine va_get (D := (dC, dI)) (ci := 2) (v := .int (F 2)) (C := RX2) (T := TX2) (N := 27) hx hb hts iw_c_X2_isThing_wsX20 hown hK hP 0 rfl rfl 2 (by decide) (hts _ wd_c_X2_isThing_X2_isThing_0) (fun _ h9 => h9) rfl dX2_isThing_6 ?_
    refine pt_top (y := nI md) h2 ?_
    refine lv_icmp_ge (tgt := 25) hx hb dX2_isThing_9 (by decide) (fun c9 => ?_) (fun c9 => ?_)
    · refine lv_iconst (v := 0) hx hb dX2_isThing_25 (by decide) ?_
      exact W.zret (v := 0) hx hb hr rfl (fun zt zh zW => ⟨_, rfl, (pt_B.zero (by first | exact pt_in_no ek ht (by omega) (fun q => q c18) | exact pt_in_hi c9 (by omega) | exact pt_in_lo c1 (by omega))), zh⟩) (fun q h => by cases h) dX2_isThing_26
    · obtain ⟨t, ht, ek⟩ := pt_ix c1 c9 (by omega)
      refine lv_aload_n hx hb dX2_isThing_12 rfl (lv_at hl 0 rfl) ?_
      refine va_get (D := (dC, dI)) (ci := 2) (v := .ref (a 3)) (C := RX2) (T := TX2) (N := 27) hx hb hts iw_c_X2_isThing_wsX20 hown hK hP 0 rfl rfl 3 (by decide) (hts _ wd_c_X2_isThing_X2_isThing_1) (fun _ h9 => h9) rfl dX2_isThing_13 ?_
      refine lv_iload_n hx hb dX2_isThing_16 rfl (lv_at hl 1 rfl) ?_
      refine pt_zald hx hb hK hP 1 0 rfl rfl t ek (by omega) (by decide) dX2_isThing_17 ?_
      refine lv_if_eq (tgt := 25) hx hb dX2_isThing_18 (by decide) (fun c18 => ?_) (fun c18 => ?_)
      · refine lv_iconst (v := 0) hx hb dX2_isThing_25 (by decide) ?_
        exact W.zret (v := 0) hx hb hr rfl (fun zt zh zW => ⟨_, rfl, (pt_B.zero (by first | exact pt_in_no ek ht (by omega) (fun q => q c18) | exact pt_in_hi c9 (by omega) | exact pt_in_lo c1 (by omega))), zh⟩) (fun q h => by cases h) dX2_isThing_26
      · refine lv_iconst (v := 1) hx hb dX2_isThing_21 (by decide) ?_
        refine lv_goto (tgt := 26) hx hb dX2_isThing_22 (by decide) ?_
        exact W.zret (v := 1) hx hb hr rfl (fun zt zh zW => ⟨_, rfl, (pt_B.one ⟨t, ht, ek, c18⟩), zh⟩) (fun q h => by cases h) dX2_isThing_26

theorem wd_c_X2_isBlock_X2_isBlock_0 : Cond.fieldLink RX2 77 "PointTreesModel" "blocks" "I" ∈ wsX2_isBlock := by decide +kernel
theorem iw_c_X2_isBlock_wsX20 : ∀ w ∈ wsX20, w ∈ wsX2_isBlock := fun _ h => List.mem_cons_of_mem _ (List.mem_append_right _ h)
set_option maxHeartbeats 4000000 in
set_option maxRecDepth 100000 in
theorem c_X2_isBlock (l : Launch) (dC : Nat → ClassId) (dI : Nat → Nat → Nat) (a : Nat → Nat) (c : Nat → ClassId) (F : Nat → Int32) (A : Nat → Nat → Int32) (nb : Nat) (h8 : F 8 = nI nb) (hnb : nb ≤ 31) (k : Int32) : Met l yX2_isBlock wsX2_isBlock (pt_rm 0) (pt_R (dC, dI) vwCl (pt_mt c) (pt_mw a c F A) pt_nw [.ref (a 0), .int k]) (vp_Si (fun r => pt_B r (pt_in nb (fun _ => True) k))) 0 0 (fun _ => False) := by
  refine Met.ofW (cc := cX2_isBlock) (maxL := 2) (ret := (some .boolean)) (by decide) rfl ?_
  intro p e s m args below meth cd s₁ B hml hv
  obtain ⟨rfl, hP, hK, hN⟩ := hv
  have hx := B.exec
  have hb := B.bytes
  have hr := B.returns
  have hts := atoms_spec (ws := wsX2_isBlock) B.pre
  have hown : s.vm.findClass RX2 = some m.cls := findClass_of_methodNamed B.named
  have hlocks := B.notSynchronized
  have hl := lv_entry ([.ref (a 0), .int k]) (n := 2) (Nat.le_of_ble_eq_true rfl)
  rw [lg_entry_eq]
  generalize (lg_sl ([.ref (a 0), .int k]) ++ List.replicate (2 - (lg_sl ([.ref (a 0), .int k])).length) Slot.unset).toArray = ls at hl ⊢
  have hl : lv_has ls 2 [(0, .ref (a 0)), (1, .int k)] := hl
  refine lv_iload_n hx hb dX2_isBlock_0 rfl (lv_at hl 1 rfl) ?_
  refine lv_if_lt (tgt := 16) hx hb dX2_isBlock_1 (by decide) (fun c1 => ?_) (fun c1 => ?_)
  · refine lv_iconst (v := 0) hx hb dX2_isBlock_16 (by decide) ?_
    exact W.zret (v := 0) hx hb hr rfl (fun zt zh zW => ⟨_, rfl, (pt_B.zero (by first | exact pt_in_hi c9 (by omega) | exact pt_in_lo c1 (by omega))), zh⟩) (fun q h => by cases h) dX2_isBlock_17
  · refine lv_iload_n hx hb dX2_isBlock_4 rfl (lv_at hl 1 rfl) ?_
    refine lv_aload_n hx hb dX2_isBlock_5 rfl (lv_at hl 0 rfl) ?_
    refine va_get (D := (dC, dI)) (ci := 2) (v := .int (F 8)) (C := RX2) (T := TX2) (N := 27) hx hb hts iw_c_X2_isBlock_wsX20 hown hK hP 0 rfl rfl 8 (by decide) (hts _ wd_c_X2_isBlock_X2_isBlock_0) (fun _ h9 => h9) rfl dX2_isBlock_6 ?_
    refine pt_top (y := nI nb) h8 ?_
    refine lv_icmp_ge (tgt := 16) hx hb dX2_isBlock_9 (by decide) (fun c9 => ?_) (fun c9 => ?_)
    · refine lv_iconst (v := 0) hx hb dX2_isBlock_16 (by decide) ?_
      exact W.zret (v := 0) hx hb hr rfl (fun zt zh zW => ⟨_, rfl, (pt_B.zero (by first | exact pt_in_hi c9 (by omega) | exact pt_in_lo c1 (by omega))), zh⟩) (fun q h => by cases h) dX2_isBlock_17
    · obtain ⟨t, ht, ek⟩ := pt_ix c1 c9 (by omega)
      refine lv_iconst (v := 1) hx hb dX2_isBlock_12 (by decide) ?_
      refine lv_goto (tgt := 17) hx hb dX2_isBlock_13 (by decide) ?_
      exact W.zret (v := 1) hx hb hr rfl (fun zt zh zW => ⟨_, rfl, (pt_B.one ⟨t, ht, ek, trivial⟩), zh⟩) (fun q h => by cases h) dX2_isBlock_17

theorem wd_c_X2_isPlace_X2_isPlace_0 : Cond.constant RX2 75 (-1000000) ∈ wsX2_isPlace := by decide +kernel
theorem wd_c_X2_isPlace_X2_isPlace_1 : Cond.constant RX2 76 (1000000) ∈ wsX2_isPlace := by decide +kernel
set_option maxHeartbeats 4000000 in
set_option maxRecDepth 100000 in
theorem c_X2_isPlace (l : Launch) (dC : Nat → ClassId) (dI : Nat → Nat → Nat)  (tys : List (ClassId × FieldType)) (ws : va_W) (v : Int32) : Met l yX2_isPlace wsX2_isPlace (pt_rm 0) (pt_R (dC, dI) vwCl tys ws pt_nw [.int v]) (vp_Si (fun r => pt_B r (-1000000 ≤ v ∧ v ≤ 1000000))) 0 0 (fun _ => False) := by
  refine Met.ofW (cc := cX2_isPlace) (maxL := 1) (ret := (some .boolean)) (by decide) rfl ?_
  intro p e s m args below meth cd s₁ B hml hv
  obtain ⟨rfl, hP, hK, hN⟩ := hv
  have hx := B.exec
  have hb := B.bytes
  have hr := B.returns
  have hts := atoms_spec (ws := wsX2_isPlace) B.pre
  have hown : s.vm.findClass RX2 = some m.cls := findClass_of_methodNamed B.named
  have hlocks := B.notSynchronized
  have hl := lv_entry ([.int v]) (n := 1) (Nat.le_of_ble_eq_true rfl)
  rw [lg_entry_eq]
  generalize (lg_sl ([.int v]) ++ List.replicate (1 - (lg_sl ([.int v])).length) Slot.unset).toArray = ls at hl ⊢
  have hl : lv_has ls 1 [(0, .int v)] := hl
  refine lv_iload_n hx hb dX2_isPlace_0 rfl (lv_at hl 0 rfl) ?_
  refine lv_ldc (v := -1000000) hx hb hown (hts _ wd_c_X2_isPlace_X2_isPlace_0) dX2_isPlace_1 ?_
  refine lv_icmp_lt (tgt := 16) hx hb dX2_isPlace_3 (by decide) (fun c3 => ?_) (fun c3 => ?_)
  · refine lv_iconst (v := 0) hx hb dX2_isPlace_16 (by decide) ?_
    exact W.zret (v := 0) hx hb hr rfl (fun zt zh zW => ⟨_, rfl, (pt_B.zero (fun q => by first | exact Int32.not_le.mpr c3 q.1 | exact Int32.not_le.mpr c9 q.2)), zh⟩) (fun q h => by cases h) dX2_isPlace_17
  · refine lv_iload_n hx hb dX2_isPlace_6 rfl (lv_at hl 0 rfl) ?_
    refine lv_ldc (v := 1000000) hx hb hown (hts _ wd_c_X2_isPlace_X2_isPlace_1) dX2_isPlace_7 ?_
    refine lv_icmp_gt (tgt := 16) hx hb dX2_isPlace_9 (by decide) (fun c9 => ?_) (fun c9 => ?_)
    · refine lv_iconst (v := 0) hx hb dX2_isPlace_16 (by decide) ?_
      exact W.zret (v := 0) hx hb hr rfl (fun zt zh zW => ⟨_, rfl, (pt_B.zero (fun q => by first | exact Int32.not_le.mpr c3 q.1 | exact Int32.not_le.mpr c9 q.2)), zh⟩) (fun q h => by cases h) dX2_isPlace_17
    · refine lv_iconst (v := 1) hx hb dX2_isPlace_12 (by decide) ?_
      refine lv_goto (tgt := 17) hx hb dX2_isPlace_13 (by decide) ?_
      exact W.zret (v := 1) hx hb hr rfl (fun zt zh zW => ⟨_, rfl, (pt_B.one ⟨Int32.not_lt.mp c3, Int32.not_lt.mp c9⟩), zh⟩) (fun q h => by cases h) dX2_isPlace_17

theorem wd_c_X2_isAt_X2_isAt_0 : Cond.fieldLink RX2 7 "PointTreesModel" "axes" "I" ∈ wsX2_isAt := by decide +kernel
theorem iw_c_X2_isAt_wsX20 : ∀ w ∈ wsX20, w ∈ wsX2_isAt := fun _ h => List.mem_cons_of_mem _ (List.mem_append_right _ h)
set_option maxHeartbeats 4000000 in
set_option maxRecDepth 100000 in
theorem c_X2_isAt (l : Launch) (dC : Nat → ClassId) (dI : Nat → Nat → Nat) (a : Nat → Nat) (c : Nat → ClassId) (F : Nat → Int32) (A : Nat → Nat → Int32) (ax : Nat) (h1 : F 1 = nI ax) (hax : ax ≤ 3) (x y z : Int32) : Met l yX2_isAt wsX2_isAt (pt_rm 1) (pt_R (dC, dI) vwCl (pt_mt c) (pt_mw a c F A) pt_nw [.ref (a 0), .int x, .int y, .int z]) (vp_Si (fun r => pt_B r (pt_box ax x x y y z z))) 0 0 (fun _ => False) := by
  refine Met.ofW (cc := cX2_isAt) (maxL := 4) (ret := (some .boolean)) (by decide) rfl ?_
  intro p e s m args below meth cd s₁ B hml hv
  obtain ⟨rfl, hP, hK, hN⟩ := hv
  have hx := B.exec
  have hb := B.bytes
  have hr := B.returns
  have hts := atoms_spec (ws := wsX2_isAt) B.pre
  have hown : s.vm.findClass RX2 = some m.cls := findClass_of_methodNamed B.named
  have hlocks := B.notSynchronized
  have hl := lv_entry ([.ref (a 0), .int x, .int y, .int z]) (n := 4) (Nat.le_of_ble_eq_true rfl)
  rw [lg_entry_eq]
  generalize (lg_sl ([.ref (a 0), .int x, .int y, .int z]) ++ List.replicate (4 - (lg_sl ([.ref (a 0), .int x, .int y, .int z])).length) Slot.unset).toArray = ls at hl ⊢
  have hl : lv_has ls 4 [(0, .ref (a 0)), (1, .int x), (2, .int y), (3, .int z)] := hl
  refine lv_iload_n hx hb dX2_isAt_0 rfl (lv_at hl 1 rfl) ?_
  refine pt_rdi (va_runS (As := [.int x]) (rest := []) ⟨hx, hb, hml, hown, hts⟩ (c_X2_isPlace l dC dI (pt_mt c) (pt_mw a c F A) x) (va_cwS 1 hts gX2_isAt_X2_isPlace rfl rfl rfl (by decide +kernel) ⟨Nat.le_of_ble_eq_true rfl, Nat.le_of_ble_eq_true rfl⟩) (pt_R.preS hP hK hN) rfl rfl hl.1 rfl (lv_room (Nat.le_of_ble_eq_true rfl)) dX2_isAt_1 ⟨Nat.le_of_ble_eq_true rfl, Nat.le_of_ble_eq_true rfl⟩) (fun r1 hr1 => ?_)
  refine lv_if_eq (tgt := 41) hx hb dX2_isAt_4 (by decide) (fun c4 => ?_) (fun c4 => ?_)
  · have d4 := hr1.f c4
    refine lv_iconst (v := 0) hx hb dX2_isAt_41 (by decide) ?_
    exact W.zret (v := 0) hx hb hr rfl (fun zt zh zW => ⟨_, rfl, (pt_B.zero (fun q => by first | exact d34 ⟨(q.2.2 d27).1, (q.2.2 d27).2.1⟩ | exact d19 ⟨(q.2.1 d12).1, (q.2.1 d12).2.1⟩ | exact d4 ⟨q.1.1, q.1.2.1⟩)), zh⟩) (fun q h => by cases h) dX2_isAt_42
  · have d4 := hr1.t c4
    refine lv_aload_n hx hb dX2_isAt_7 rfl (lv_at hl 0 rfl) ?_
    refine va_get (D := (dC, dI)) (ci := 2) (v := .int (F 1)) (C := RX2) (T := TX2) (N := 27) hx hb hts iw_c_X2_isAt_wsX20 hown hK hP 0 rfl rfl 1 (by decide) (hts _ wd_c_X2_isAt_X2_isAt_0) (fun _ h9 => h9) rfl dX2_isAt_8 ?_
    refine pt_top (y := nI ax) h1 ?_
    refine lv_iconst (v := nI 2) hx hb dX2_isAt_11 (by decide) ?_
    refine lv_icmp_lt (tgt := 22) hx hb dX2_isAt_12 (by decide) (fun c12 => ?_) (fun c12 => ?_)
    · have d12 : ¬ 2 ≤ ax := fun q => nI_nlt q (by omega) c12
      refine lv_aload_n hx hb dX2_isAt_22 rfl (lv_at hl 0 rfl) ?_
      refine va_get (D := (dC, dI)) (ci := 2) (v := .int (F 1)) (C := RX2) (T := TX2) (N := 27) hx hb hts iw_c_X2_isAt_wsX20 hown hK hP 0 rfl rfl 1 (by decide) (hts _ wd_c_X2_isAt_X2_isAt_0) (fun _ h9 => h9) rfl dX2_isAt_23 ?_
      refine pt_top (y := nI ax) h1 ?_
      refine lv_iconst (v := nI 3) hx hb dX2_isAt_26 (by decide) ?_
      refine lv_icmp_lt (tgt := 37) hx hb dX2_isAt_27 (by decide) (fun c27 => ?_) (fun c27 => ?_)
      · have d27 : ¬ 3 ≤ ax := fun q => nI_nlt q (by omega) c27
        refine lv_iconst (v := 1) hx hb dX2_isAt_37 (by decide) ?_
        refine lv_goto (tgt := 42) hx hb dX2_isAt_38 (by decide) ?_
        exact W.zret (v := 1) hx hb hr rfl (fun zt zh zW => ⟨_, rfl, (pt_B.one ⟨⟨d4.1, d4.2, Int32.le_refl _⟩, by first | exact fun _ => ⟨d19.1, d19.2, Int32.le_refl _⟩ | exact fun q => absurd q d12, by first | exact fun _ => ⟨d34.1, d34.2, Int32.le_refl _⟩ | exact fun q => absurd q d27⟩), zh⟩) (fun q h => by cases h) dX2_isAt_42
      · have d27 : 3 ≤ ax := Nat.not_lt.mp (fun q => c27 (nI_lt q (by omega)))
        refine lv_iload_n hx hb dX2_isAt_30 rfl (lv_at hl 3 rfl) ?_
        refine pt_rdi (va_runS (As := [.int z]) (rest := []) ⟨hx, hb, hml, hown, hts⟩ (c_X2_isPlace l dC dI (pt_mt c) (pt_mw a c F A) z) (va_cwS 1 hts gX2_isAt_X2_isPlace rfl rfl rfl (by decide +kernel) ⟨Nat.le_of_ble_eq_true rfl, Nat.le_of_ble_eq_true rfl⟩) (pt_R.preS hP hK hN) rfl rfl hl.1 rfl (lv_room (Nat.le_of_ble_eq_true rfl)) dX2_isAt_31 ⟨Nat.le_of_ble_eq_true rfl, Nat.le_of_ble_eq_true rfl⟩) (fun r31 hr31 => ?_)
        refine lv_if_eq (tgt := 41) hx hb dX2_isAt_34 (by decide) (fun c34 => ?_) (fun c34 => ?_)
        · have d34 := hr31.f c34
          refine lv_iconst (v := 0) hx hb dX2_isAt_41 (by decide) ?_
          exact W.zret (v := 0) hx hb hr rfl (fun zt zh zW => ⟨_, rfl, (pt_B.zero (fun q => by first | exact d34 ⟨(q.2.2 d27).1, (q.2.2 d27).2.1⟩ | exact d19 ⟨(q.2.1 d12).1, (q.2.1 d12).2.1⟩ | exact d4 ⟨q.1.1, q.1.2.1⟩)), zh⟩) (fun q h => by cases h) dX2_isAt_42
        · have d34 := hr31.t c34
          refine lv_iconst (v := 1) hx hb dX2_isAt_37 (by decide) ?_
          refine lv_goto (tgt := 42) hx hb dX2_isAt_38 (by decide) ?_
          exact W.zret (v := 1) hx hb hr rfl (fun zt zh zW => ⟨_, rfl, (pt_B.one ⟨⟨d4.1, d4.2, Int32.le_refl _⟩, by first | exact fun _ => ⟨d19.1, d19.2, Int32.le_refl _⟩ | exact fun q => absurd q d12, by first | exact fun _ => ⟨d34.1, d34.2, Int32.le_refl _⟩ | exact fun q => absurd q d27⟩), zh⟩) (fun q h => by cases h) dX2_isAt_42
    · have d12 : 2 ≤ ax := Nat.not_lt.mp (fun q => c12 (nI_lt q (by omega)))
      refine lv_iload_n hx hb dX2_isAt_15 rfl (lv_at hl 2 rfl) ?_
      refine pt_rdi (va_runS (As := [.int y]) (rest := []) ⟨hx, hb, hml, hown, hts⟩ (c_X2_isPlace l dC dI (pt_mt c) (pt_mw a c F A) y) (va_cwS 1 hts gX2_isAt_X2_isPlace rfl rfl rfl (by decide +kernel) ⟨Nat.le_of_ble_eq_true rfl, Nat.le_of_ble_eq_true rfl⟩) (pt_R.preS hP hK hN) rfl rfl hl.1 rfl (lv_room (Nat.le_of_ble_eq_true rfl)) dX2_isAt_16 ⟨Nat.le_of_ble_eq_true rfl, Nat.le_of_ble_eq_true rfl⟩) (fun r16 hr16 => ?_)
      refine lv_if_eq (tgt := 41) hx hb dX2_isAt_19 (by decide) (fun c19 => ?_) (fun c19 => ?_)
      · have d19 := hr16.f c19
        refine lv_iconst (v := 0) hx hb dX2_isAt_41 (by decide) ?_
        exact W.zret (v := 0) hx hb hr rfl (fun zt zh zW => ⟨_, rfl, (pt_B.zero (fun q => by first | exact d34 ⟨(q.2.2 d27).1, (q.2.2 d27).2.1⟩ | exact d19 ⟨(q.2.1 d12).1, (q.2.1 d12).2.1⟩ | exact d4 ⟨q.1.1, q.1.2.1⟩)), zh⟩) (fun q h => by cases h) dX2_isAt_42
      · have d19 := hr16.t c19
        refine lv_aload_n hx hb dX2_isAt_22 rfl (lv_at hl 0 rfl) ?_
        refine va_get (D := (dC, dI)) (ci := 2) (v := .int (F 1)) (C := RX2) (T := TX2) (N := 27) hx hb hts iw_c_X2_isAt_wsX20 hown hK hP 0 rfl rfl 1 (by decide) (hts _ wd_c_X2_isAt_X2_isAt_0) (fun _ h9 => h9) rfl dX2_isAt_23 ?_
        refine pt_top (y := nI ax) h1 ?_
        refine lv_iconst (v := nI 3) hx hb dX2_isAt_26 (by decide) ?_
        refine lv_icmp_lt (tgt := 37) hx hb dX2_isAt_27 (by decide) (fun c27 => ?_) (fun c27 => ?_)
        · have d27 : ¬ 3 ≤ ax := fun q => nI_nlt q (by omega) c27
          refine lv_iconst (v := 1) hx hb dX2_isAt_37 (by decide) ?_
          refine lv_goto (tgt := 42) hx hb dX2_isAt_38 (by decide) ?_
          exact W.zret (v := 1) hx hb hr rfl (fun zt zh zW => ⟨_, rfl, (pt_B.one ⟨⟨d4.1, d4.2, Int32.le_refl _⟩, by first | exact fun _ => ⟨d19.1, d19.2, Int32.le_refl _⟩ | exact fun q => absurd q d12, by first | exact fun _ => ⟨d34.1, d34.2, Int32.le_refl _⟩ | exact fun q => absurd q d27⟩), zh⟩) (fun q h => by cases h) dX2_isAt_42
        · have d27 : 3 ≤ ax := Nat.not_lt.mp (fun q => c27 (nI_lt q (by omega)))
          refine lv_iload_n hx hb dX2_isAt_30 rfl (lv_at hl 3 rfl) ?_
          refine pt_rdi (va_runS (As := [.int z]) (rest := []) ⟨hx, hb, hml, hown, hts⟩ (c_X2_isPlace l dC dI (pt_mt c) (pt_mw a c F A) z) (va_cwS 1 hts gX2_isAt_X2_isPlace rfl rfl rfl (by decide +kernel) ⟨Nat.le_of_ble_eq_true rfl, Nat.le_of_ble_eq_true rfl⟩) (pt_R.preS hP hK hN) rfl rfl hl.1 rfl (lv_room (Nat.le_of_ble_eq_true rfl)) dX2_isAt_31 ⟨Nat.le_of_ble_eq_true rfl, Nat.le_of_ble_eq_true rfl⟩) (fun r31 hr31 => ?_)
          refine lv_if_eq (tgt := 41) hx hb dX2_isAt_34 (by decide) (fun c34 => ?_) (fun c34 => ?_)
          · have d34 := hr31.f c34
            refine lv_iconst (v := 0) hx hb dX2_isAt_41 (by decide) ?_
            exact W.zret (v := 0) hx hb hr rfl (fun zt zh zW => ⟨_, rfl, (pt_B.zero (fun q => by first | exact d34 ⟨(q.2.2 d27).1, (q.2.2 d27).2.1⟩ | exact d19 ⟨(q.2.1 d12).1, (q.2.1 d12).2.1⟩ | exact d4 ⟨q.1.1, q.1.2.1⟩)), zh⟩) (fun q h => by cases h) dX2_isAt_42
          · have d34 := hr31.t c34
            refine lv_iconst (v := 1) hx hb dX2_isAt_37 (by decide) ?_
            refine lv_goto (tgt := 42) hx hb dX2_isAt_38 (by decide) ?_
            exact W.zret (v := 1) hx hb hr rfl (fun zt zh zW => ⟨_, rfl, (pt_B.one ⟨⟨d4.1, d4.2, Int32.le_refl _⟩, by first | exact fun _ => ⟨d19.1, d19.2, Int32.le_refl _⟩ | exact fun q => absurd q d12, by first | exact fun _ => ⟨d34.1, d34.2, Int32.le_refl _⟩ | exact fun q => absurd q d27⟩), zh⟩) (fun q h => by cases h) dX2_isAt_42

theorem wd_c_X2_thrown_X2_thrown_0 : Cond.fieldLink RX2 69 "PointTreesModel" "thrown" "I" ∈ wsX2_thrown := by decide +kernel
theorem iw_c_X2_thrown_wsX20 : ∀ w ∈ wsX20, w ∈ wsX2_thrown := fun _ h => List.mem_cons_of_mem _ (List.mem_append_right _ h)
set_option maxHeartbeats 4000000 in
set_option maxRecDepth 100000 in
theorem c_X2_thrown (l : Launch) (dC : Nat → ClassId) (dI : Nat → Nat → Nat) (a : Nat → Nat) (c : Nat → ClassId) (F : Nat → Int32) (A : Nat → Nat → Int32) : Met l yX2_thrown wsX2_thrown (pt_rm 0) (pt_R (dC, dI) vwCl (pt_mt c) (pt_mw a c F A) pt_nw [.ref (a 0)]) (vp_Si (fun r => r = F 0)) 0 0 (fun _ => False) := by
  refine Met.ofW (cc := cX2_thrown) (maxL := 1) (ret := (some .int)) (by decide) rfl ?_
  intro p e s m args below meth cd s₁ B hml hv
  obtain ⟨rfl, hP, hK, hN⟩ := hv
  have hx := B.exec
  have hb := B.bytes
  have hr := B.returns
  have hts := atoms_spec (ws := wsX2_thrown) B.pre
  have hown : s.vm.findClass RX2 = some m.cls := findClass_of_methodNamed B.named
  have hlocks := B.notSynchronized
  have hl := lv_entry ([.ref (a 0)]) (n := 1) (Nat.le_of_ble_eq_true rfl)
  rw [lg_entry_eq]
  generalize (lg_sl ([.ref (a 0)]) ++ List.replicate (1 - (lg_sl ([.ref (a 0)])).length) Slot.unset).toArray = ls at hl ⊢
  have hl : lv_has ls 1 [(0, .ref (a 0))] := hl
  refine lv_aload_n hx hb dX2_thrown_0 rfl (lv_at hl 0 rfl) ?_
  refine va_get (D := (dC, dI)) (ci := 2) (v := .int (F 0)) (C := RX2) (T := TX2) (N := 27) hx hb hts iw_c_X2_thrown_wsX20 hown hK hP 0 rfl rfl 0 (by decide) (hts _ wd_c_X2_thrown_X2_thrown_0) (fun _ h9 => h9) rfl dX2_thrown_1 ?_
  exact W.iret (v := (F 0)) hx hb hr (fun zt zh zW => ⟨_, rfl, rfl, zh⟩) (fun q h => by cases h) dX2_thrown_4

theorem wd_c_X2_sum_X2_sum_0 : Cond.fieldLink RX2 17 "PointTreesModel" "lows" "[I" ∈ wsX2_sum := by decide +kernel
theorem wd_c_X2_sum_X2_sum_1 : Cond.fieldLink RX2 21 "PointTreesModel" "highs" "[I" ∈ wsX2_sum := by decide +kernel
theorem iw_c_X2_sum_wsX20 : ∀ w ∈ wsX20, w ∈ wsX2_sum := fun _ h => List.mem_cons_of_mem _ (List.mem_append_right _ h)
set_option maxHeartbeats 4000000 in
set_option maxRecDepth 100000 in
theorem c_X2_sum (l : Launch) (dC : Nat → ClassId) (dI : Nat → Nat → Nat) (a : Nat → Nat) (c : Nat → ClassId) (F : Nat → Int32) (A : Nat → Nat → Int32) (t x : Nat) (hk : 3 * t + x < 192) : Met l yX2_sum wsX2_sum (pt_rm 0) (pt_R (dC, dI) vwCl (pt_mt c) (pt_mw a c F A) pt_nw [.ref (a 0), .int (nI t), .int (nI x)]) (vp_Si (fun r => r = A 4 (3 * t + x) + A 5 (3 * t + x))) 0 0 (fun _ => False) := by
  refine Met.ofW (cc := cX2_sum) (maxL := 3) (ret := (some .int)) (by decide) rfl ?_
  intro p e s m args below meth cd s₁ B hml hv
  obtain ⟨rfl, hP, hK, hN⟩ := hv
  have hx := B.exec
  have hb := B.bytes
  have hr := B.returns
  have hts := atoms_spec (ws := wsX2_sum) B.pre
  have hown : s.vm.findClass RX2 = some m.cls := findClass_of_methodNamed B.named
  have hlocks := B.notSynchronized
  have hl := lv_entry ([.ref (a 0), .int (nI t), .int (nI x)]) (n := 3) (Nat.le_of_ble_eq_true rfl)
  rw [lg_entry_eq]
  generalize (lg_sl ([.ref (a 0), .int (nI t), .int (nI x)]) ++ List.replicate (3 - (lg_sl ([.ref (a 0), .int (nI t), .int (nI x)])).length) Slot.unset).toArray = ls at hl ⊢
  have hl : lv_has ls 3 [(0, .ref (a 0)), (1, .int (nI t)), (2, .int (nI x))] := hl
  refine lv_aload_n hx hb dX2_sum_0 rfl (lv_at hl 0 rfl) ?_
  refine va_get (D := (dC, dI)) (ci := 2) (v := .ref (a 4)) (C := RX2) (T := TX2) (N := 27) hx hb hts iw_c_X2_sum_wsX20 hown hK hP 0 rfl rfl 4 (by decide) (hts _ wd_c_X2_sum_X2_sum_0) (fun _ h9 => h9) rfl dX2_sum_1 ?_
  refine lv_iconst (v := nI 3) hx hb dX2_sum_4 (by decide) ?_
  refine lv_iload_n hx hb dX2_sum_5 rfl (lv_at hl 1 rfl) ?_
  refine lv_imul hx hb dX2_sum_6 ?_
  refine pt_top (y := nI (3 * t)) (pk_mul _ _) ?_
  refine lv_iload_n hx hb dX2_sum_7 rfl (lv_at hl 2 rfl) ?_
  refine lv_iadd hx hb dX2_sum_8 ?_
  refine pt_top (y := nI ((3 * t) + x)) (nI_add _ _) ?_
  refine pt_iald hx hb hK hP 2 1 rfl rfl ((3 * t) + x) rfl (by omega) (by decide) dX2_sum_9 ?_
  refine lv_aload_n hx hb dX2_sum_10 rfl (lv_at hl 0 rfl) ?_
  refine va_get (D := (dC, dI)) (ci := 2) (v := .ref (a 5)) (C := RX2) (T := TX2) (N := 27) hx hb hts iw_c_X2_sum_wsX20 hown hK hP 0 rfl rfl 5 (by decide) (hts _ wd_c_X2_sum_X2_sum_1) (fun _ h9 => h9) rfl dX2_sum_11 ?_
  refine lv_iconst (v := nI 3) hx hb dX2_sum_14 (by decide) ?_
  refine lv_iload_n hx hb dX2_sum_15 rfl (lv_at hl 1 rfl) ?_
  refine lv_imul hx hb dX2_sum_16 ?_
  refine pt_top (y := nI (3 * t)) (pk_mul _ _) ?_
  refine lv_iload_n hx hb dX2_sum_17 rfl (lv_at hl 2 rfl) ?_
  refine lv_iadd hx hb dX2_sum_18 ?_
  refine pt_top (y := nI ((3 * t) + x)) (nI_add _ _) ?_
  refine pt_iald hx hb hK hP 3 2 rfl rfl ((3 * t) + x) rfl (by omega) (by decide) dX2_sum_19 ?_
  refine lv_iadd hx hb dX2_sum_20 ?_
  exact W.iret (v := ((A 4 ((3 * t) + x)) + (A 5 ((3 * t) + x)))) hx hb hr (fun zt zh zW => ⟨_, rfl, rfl, zh⟩) (fun q h => by cases h) dX2_sum_21

theorem wd_c_X2_count_X2_count_0 : Cond.fieldLink RX2 69 "PointTreesModel" "thrown" "I" ∈ wsX2_count := by decide +kernel
theorem wd_c_X2_count_X2_count_1 : Cond.fieldLink RX2 72 "PointTreesModel" "made" "I" ∈ wsX2_count := by decide +kernel
theorem wd_c_X2_count_X2_count_2 : Cond.fieldLink RX2 13 "PointTreesModel" "there" "[Z" ∈ wsX2_count := by decide +kernel
theorem iw_c_X2_count_wsX20 : ∀ w ∈ wsX20, w ∈ wsX2_count := fun _ h => List.mem_cons_of_mem _ (List.mem_append_right _ h)
set_option maxHeartbeats 4000000 in
set_option maxRecDepth 100000 in
theorem c_X2_count (l : Launch) (dC : Nat → ClassId) (dI : Nat → Nat → Nat) (a : Nat → Nat) (c : Nat → ClassId) (F : Nat → Int32) (A : Nat → Nat → Int32) (sz : Nat) (md : Nat) (h2 : F 2 = nI md) (hmd : md ≤ 64) : Met l yX2_count wsX2_count (pt_rm 0) (pt_W (dC, dI) vwCl (pt_mt c) (pt_mw a c F A) pt_nw sz [.ref (a 0)]) (va_Qi (fun (r : Int32) (u : pt_MS) => r = nI (pt_cnt (fun t => ¬ A 3 t = 0) md) ∧ u = ((upd F 0 (nI 0)), A)) (fun u t => va_P (dC, dI) vwCl (pt_mw a c u.1 u.2) t.heap) (va_A (pt_mw a c F A) sz)) 0 0 (va_A (pt_mw a c F A) sz) := by
  refine Met.ofW (cc := cX2_count) (maxL := 3) (ret := (some .int)) (by decide) rfl ?_
  intro p e s m args below meth cd s₁ B hml hv
  obtain ⟨rfl, hsz, hP, hK, hN, hD0⟩ := hv
  have hx := B.exec
  have hb := B.bytes
  have hr := B.returns
  have hts := atoms_spec (ws := wsX2_count) B.pre
  have hown : s.vm.findClass RX2 = some m.cls := findClass_of_methodNamed B.named
  have hlocks := B.notSynchronized
  subst hsz
  have hD := hD0.self (sz := s.heap.size)
  generalize hAe : va_A (pt_mw a c F A) s.heap.size = AA at hD ⊢
  have hA : ∀ q : Nat, s.heap.size ≤ q → AA q := fun q h => by rw [← hAe]; exact Or.inr h
  have hS : va_S AA s.heap s.heap [] := va_S.rf
  have hl := lv_entry ([.ref (a 0)]) (n := 3) (Nat.le_of_ble_eq_true rfl)
  rw [lg_entry_eq]
  generalize (lg_sl ([.ref (a 0)]) ++ List.replicate (3 - (lg_sl ([.ref (a 0)])).length) Slot.unset).toArray = ls at hl ⊢
  have hl : lv_has ls 3 [(0, .ref (a 0))] := hl
  refine lv_aload_n hx hb dX2_count_0 rfl (lv_at hl 0 rfl) ?_
  refine lv_iconst (v := nI 0) hx hb dX2_count_1 (by decide) ?_
  obtain ⟨F1, eF1⟩ : ∃ zz, zz = upd F 0 (nI 0) := ⟨_, rfl⟩
  refine va_put (D := (dC, dI)) (ci := 2) (v := .int (nI 0)) (ty := .int) (C := RX2) (T := TX2) (N := 27) hx hb hts iw_c_X2_count_wsX20 tyX2 tyX2_ok nmX2 hown hK hP hD hS 0 rfl rfl 0 (by decide) (hts _ wd_c_X2_count_X2_count_0) (fun _ h9 => h9) rfl (by decide +kernel) rfl rfl (Nat.le_of_ble_eq_true rfl) dX2_count_2 (fun H locs hP hD hS => ?_)
  have hP : va_P (dC, dI) vwCl (pt_mw a c F1 A) H := by rw [eF1]; exact hP
  have hD : va_D AA (pt_mw a c F1 A) := by rw [eF1]; exact hD
  have kF1_2 : F1 2 = nI md := by rw [eF1, pt_upd_ne (by decide)]; exact h2
  have kF1_0 : F1 0 = nI 0 := by rw [eF1, pt_upd]
  refine lv_iconst (v := nI 0) hx hb dX2_count_5 (by decide) ?_
  refine lv_istore_n (lv' := [(1, .int (nI 0)), (0, .ref (a 0))]) hx hb dX2_count_6 rfl hl (by decide) rfl (fun ls hl => ?_)
  refine lv_iconst (v := nI 0) hx hb dX2_count_7 (by decide) ?_
  refine lv_istore_n (lv' := [(2, .int (nI 0)), (1, .int (nI 0)), (0, .ref (a 0))]) hx hb dX2_count_8 rfl hl (by decide) rfl (fun ls hl => ?_)
  refine pt_loopR (fun i : Nat => md - i) (fun i ls => i ≤ md ∧ lv_has ls 3 [(2, .int (nI i)), (1, .int (nI (pt_cnt (fun t => ¬ A 3 t = 0) i))), (0, .ref (a 0))]) ?_ 0 _ ⟨Nat.zero_le _, hl⟩
  intro i ls ⟨hi, hl⟩ ih
  refine lv_iload_n hx hb dX2_count_9 rfl (lv_at hl 0 rfl) ?_
  refine lv_aload_n hx hb dX2_count_10 rfl (lv_at hl 2 rfl) ?_
  refine va_get (D := (dC, dI)) (ci := 2) (v := .int (F1 2)) (C := RX2) (T := TX2) (N := 27) hx hb hts iw_c_X2_count_wsX20 hown hK hP 0 rfl rfl 2 (by decide) (hts _ wd_c_X2_count_X2_count_1) (fun _ h9 => h9) rfl dX2_count_11 ?_
  refine pt_top (y := nI md) kF1_2 ?_
  refine lv_icmp_ge (tgt := 40) hx hb dX2_count_14 (by decide) (fun c14 => ?_) (fun c14 => ?_)
  · have hie : i = md := by have := (nI_leI (by omega) (by omega)).mp c14; omega
    refine lv_iload_n hx hb dX2_count_40 rfl (lv_at hl 1 rfl) ?_
    exact W.iret (v := nI (pt_cnt (fun t => ¬ A 3 t = 0) i)) hx hb hr (fun zt zh zW => ⟨⟨_, (F1, A), rfl, ⟨by rw [hie], by rw [eF1]⟩, by show va_P _ _ _ zt.heap; rw [zh]; exact hP⟩, hS.F zh⟩) hS.2.2 dX2_count_41
  · have hlt : i < md := Nat.not_le.mp (fun q => c14 ((nI_leI (by omega) (by omega)).mpr q))
    refine lv_iload_n hx hb dX2_count_17 rfl (lv_at hl 1 rfl) ?_
    refine lv_aload_n hx hb dX2_count_18 rfl (lv_at hl 2 rfl) ?_
    refine va_get (D := (dC, dI)) (ci := 2) (v := .ref (a 3)) (C := RX2) (T := TX2) (N := 27) hx hb hts iw_c_X2_count_wsX20 hown hK hP 0 rfl rfl 3 (by decide) (hts _ wd_c_X2_count_X2_count_2) (fun _ h9 => h9) rfl dX2_count_19 ?_
    refine lv_iload_n hx hb dX2_count_22 rfl (lv_at hl 0 rfl) ?_
    refine pt_zald hx hb hK hP 1 0 rfl rfl i rfl (by omega) (by decide) dX2_count_23 ?_
    refine lv_if_eq (tgt := 31) hx hb dX2_count_24 (by decide) (fun c24 => ?_) (fun c24 => ?_)
    · refine lv_iconst (v := nI 0) hx hb dX2_count_31 (by decide) ?_
      refine lv_iadd hx hb dX2_count_32 ?_
      refine pt_top (y := nI ((pt_cnt (fun t => ¬ A 3 t = 0) i) + 0)) (nI_add _ _) ?_
      refine lv_istore_n (lv' := [(1, .int (nI ((pt_cnt (fun t => ¬ A 3 t = 0) i) + 0))), (2, .int (nI i)), (0, .ref (a 0))]) hx hb dX2_count_33 rfl hl (by decide) rfl (fun ls hl => ?_)
      refine lv_iinc (v := nI (i + 1)) (lv' := [(2, .int (nI (i + 1))), (1, .int (nI ((pt_cnt (fun t => ¬ A 3 t = 0) i) + 0))), (0, .ref (a 0))]) hx hb dX2_count_34 hl (k := 1) rfl (nI_1 _) (by decide) rfl (fun ls hl => ?_)
      refine lv_goto (tgt := 9) hx hb dX2_count_37 (by decide) ?_
      have ec := pt_cnt_f (p := (fun t => ¬ A 3 t = 0)) (n := i) (fun q => q c24)
      exact ih (i + 1) _ ⟨by omega, by rw [ec]; exact lv_sub hl [0, 1, 2] rfl⟩ (by omega)
    · refine lv_iconst (v := nI 1) hx hb dX2_count_27 (by decide) ?_
      refine lv_goto (tgt := 32) hx hb dX2_count_28 (by decide) ?_
      refine lv_iadd hx hb dX2_count_32 ?_
      refine pt_top (y := nI ((pt_cnt (fun t => ¬ A 3 t = 0) i) + 1)) (nI_add _ _) ?_
      refine lv_istore_n (lv' := [(1, .int (nI ((pt_cnt (fun t => ¬ A 3 t = 0) i) + 1))), (2, .int (nI i)), (0, .ref (a 0))]) hx hb dX2_count_33 rfl hl (by decide) rfl (fun ls hl => ?_)
      refine lv_iinc (v := nI (i + 1)) (lv' := [(2, .int (nI (i + 1))), (1, .int (nI ((pt_cnt (fun t => ¬ A 3 t = 0) i) + 1))), (0, .ref (a 0))]) hx hb dX2_count_34 hl (k := 1) rfl (nI_1 _) (by decide) rfl (fun ls hl => ?_)
      refine lv_goto (tgt := 9) hx hb dX2_count_37 (by decide) ?_
      have ec := pt_cnt_t (p := (fun t => ¬ A 3 t = 0)) (n := i) c24
      exact ih (i + 1) _ ⟨by omega, by rw [ec]; exact lv_sub hl [0, 1, 2] rfl⟩ (by omega)

theorem wd_c_X2_drop_X2_drop_0 : Cond.fieldLink RX2 69 "PointTreesModel" "thrown" "I" ∈ wsX2_drop := by decide +kernel
theorem wd_c_X2_drop_X2_drop_1 : Cond.fieldLink RX2 13 "PointTreesModel" "there" "[Z" ∈ wsX2_drop := by decide +kernel
theorem iw_c_X2_drop_wsX20 : ∀ w ∈ wsX20, w ∈ wsX2_drop := fun _ h => List.mem_cons_of_mem _ (List.mem_append_right _ h)
set_option maxHeartbeats 4000000 in
set_option maxRecDepth 100000 in
theorem c_X2_drop (l : Launch) (dC : Nat → ClassId) (dI : Nat → Nat → Nat) (a : Nat → Nat) (c : Nat → ClassId) (F : Nat → Int32) (A : Nat → Nat → Int32) (sz : Nat) (md : Nat) (h2 : F 2 = nI md) (hmd : md ≤ 64) (k : Int32) : Met l yX2_drop wsX2_drop (pt_rm 1) (pt_W (dC, dI) vwCl (pt_mt c) (pt_mw a c F A) pt_nw sz [.ref (a 0), .int k]) (va_Qi (fun (r : Int32) (u : pt_MS) => (¬ pt_in md (fun t => ¬ A 3 t = 0) k ∧ r = -1 ∧ u = ((upd F 0 (nI 0)), A)) ∨ ∃ t, t < md ∧ k = nI t ∧ ¬ A 3 t = 0 ∧ r = nI (pt_cnt (fun v => ¬ upd (A 3) t 0 v = 0) md) ∧ u = ((upd F 0 (nI 0)), va_up A 3 (upd (A 3) t 0))) (fun u t => va_P (dC, dI) vwCl (pt_mw a c u.1 u.2) t.heap) (va_A (pt_mw a c F A) sz)) 0 0 (va_A (pt_mw a c F A) sz) := by
  refine Met.ofW (cc := cX2_drop) (maxL := 2) (ret := (some .int)) (by decide) rfl ?_
  intro p e s m args below meth cd s₁ B hml hv
  obtain ⟨rfl, hsz, hP, hK, hN, hD0⟩ := hv
  have hx := B.exec
  have hb := B.bytes
  have hr := B.returns
  have hts := atoms_spec (ws := wsX2_drop) B.pre
  have hown : s.vm.findClass RX2 = some m.cls := findClass_of_methodNamed B.named
  have hlocks := B.notSynchronized
  subst hsz
  have hD := hD0.self (sz := s.heap.size)
  generalize hAe : va_A (pt_mw a c F A) s.heap.size = AA at hD ⊢
  have hA : ∀ q : Nat, s.heap.size ≤ q → AA q := fun q h => by rw [← hAe]; exact Or.inr h
  have hS : va_S AA s.heap s.heap [] := va_S.rf
  have hl := lv_entry ([.ref (a 0), .int k]) (n := 2) (Nat.le_of_ble_eq_true rfl)
  rw [lg_entry_eq]
  generalize (lg_sl ([.ref (a 0), .int k]) ++ List.replicate (2 - (lg_sl ([.ref (a 0), .int k])).length) Slot.unset).toArray = ls at hl ⊢
  have hl : lv_has ls 2 [(0, .ref (a 0)), (1, .int k)] := hl
  refine lv_aload_n hx hb dX2_drop_0 rfl (lv_at hl 0 rfl) ?_
  refine lv_iconst (v := nI 0) hx hb dX2_drop_1 (by decide) ?_
  obtain ⟨F1, eF1⟩ : ∃ zz, zz = upd F 0 (nI 0) := ⟨_, rfl⟩
  refine va_put (D := (dC, dI)) (ci := 2) (v := .int (nI 0)) (ty := .int) (C := RX2) (T := TX2) (N := 27) hx hb hts iw_c_X2_drop_wsX20 tyX2 tyX2_ok nmX2 hown hK hP hD hS 0 rfl rfl 0 (by decide) (hts _ wd_c_X2_drop_X2_drop_0) (fun _ h9 => h9) rfl (by decide +kernel) rfl rfl (Nat.le_of_ble_eq_true rfl) dX2_drop_2 (fun H locs hP hD hS => ?_)
  have hP : va_P (dC, dI) vwCl (pt_mw a c F1 A) H := by rw [eF1]; exact hP
  have hD : va_D AA (pt_mw a c F1 A) := by rw [eF1]; exact hD
  have kF1_2 : F1 2 = nI md := by rw [eF1, pt_upd_ne (by decide)]; exact h2
  have kF1_0 : F1 0 = nI 0 := by rw [eF1, pt_upd]
  refine lv_aload_n hx hb dX2_drop_5 rfl (lv_at hl 0 rfl) ?_
  refine lv_iload_n hx hb dX2_drop_6 rfl (lv_at hl 1 rfl) ?_
  refine pt_rdi (va_runV (As := [.int k]) (rest := []) ⟨hx, hb, hml, hown, hts⟩ (c_X2_isThing l dC dI a c F1 A md kF1_2 hmd k) (cwV 1 hts gX2_drop_X2_isThing rfl rfl rfl (by decide +kernel) ⟨Nat.le_of_ble_eq_true rfl, Nat.le_of_ble_eq_true rfl⟩) (pt_pv2 hP hK hN (q0 := 0) rfl) rfl rfl hl.1 rfl (lv_room (Nat.le_of_ble_eq_true rfl)) dX2_drop_7 ⟨Nat.le_of_ble_eq_true rfl, Nat.le_of_ble_eq_true rfl⟩) (fun r7 hr7 => ?_)
  refine lv_if_ne (tgt := 15) hx hb dX2_drop_10 (by decide) (fun c10 => ?_) (fun c10 => ?_)
  · have d10 := hr7.t c10
    obtain ⟨t, ht, ek, hT⟩ := d10
    refine lv_aload_n hx hb dX2_drop_15 rfl (lv_at hl 0 rfl) ?_
    refine va_get (D := (dC, dI)) (ci := 2) (v := .ref (a 3)) (C := RX2) (T := TX2) (N := 27) hx hb hts iw_c_X2_drop_wsX20 hown hK hP 0 rfl rfl 3 (by decide) (hts _ wd_c_X2_drop_X2_drop_1) (fun _ h9 => h9) rfl dX2_drop_16 ?_
    refine lv_iload_n hx hb dX2_drop_19 rfl (lv_at hl 1 rfl) ?_
    refine lv_iconst (v := 0) hx hb dX2_drop_20 (by decide) ?_
    obtain ⟨A2, eA2⟩ : ∃ zz, zz = va_up A 3 (upd (A 3) t 0) := ⟨_, rfl⟩
    refine pt_zast hx hb hK hP hD hS 1 0 rfl rfl t ek (by omega) (by decide) rfl (ws' := (pt_mw a c F1 A2)) (by rw [eA2]; rfl) dX2_drop_21 (fun H locs hP hD hS => ?_)
    refine lv_aload_n hx hb dX2_drop_22 rfl (lv_at hl 0 rfl) ?_
    refine pt_calli (wf := (fun u : pt_MS => pt_mw a c u.1 u.2)) (va_runV (As := []) (rest := []) ⟨hx, hb, hml, hown, hts⟩ (c_X2_count l dC dI a c F1 A2 _ md kF1_2 hmd) (cwV 0 hts gX2_drop_X2_count rfl rfl rfl (by decide +kernel) ⟨Nat.le_of_ble_eq_true rfl, Nat.le_of_ble_eq_true rfl⟩) (pt_wv2 hP hK hN hD (q0 := 0) rfl) rfl rfl hl.1 rfl (lv_room (Nat.le_of_ble_eq_true rfl)) dX2_drop_23 ⟨Nat.le_of_ble_eq_true rfl, Nat.le_of_ble_eq_true rfl⟩) hD hS hA (fun _ => rfl) (fun r23 u23 H locs hr23 hP hD hS => ?_)
    obtain ⟨F3, A3⟩ := u23
    obtain ⟨hc3, hu3⟩ := hr23
    dsimp only at hP hD
    exact W.iret (v := r23) hx hb hr (fun zt zh zW => ⟨⟨_, (F3, A3), rfl, (Or.inr ⟨t, ht, ek, hT, by rw [hc3, eA2, pt_up], by rw [hu3, eF1, eA2]; congr 1; funext j; unfold upd; split <;> rfl⟩), by show va_P _ _ _ zt.heap; rw [zh]; exact hP⟩, hS.F zh⟩) hS.2.2 dX2_drop_26
  · have d10 := hr7.f c10
    refine lv_iconst (v := (-1)) hx hb dX2_drop_13 (by decide) ?_
    exact W.iret (v := (-1)) hx hb hr (fun zt zh zW => ⟨⟨_, (F1, A), rfl, (Or.inl ⟨d10, rfl, by rw [eF1]⟩), by show va_P _ _ _ zt.heap; rw [zh]; exact hP⟩, hS.F zh⟩) hS.2.2 dX2_drop_14

theorem wd_c_X2_told_X2_told_0 : Cond.fieldLink RX2 69 "PointTreesModel" "thrown" "I" ∈ wsX2_told := by decide +kernel
theorem wd_c_X2_told_X2_told_1 : Cond.fieldLink RX2 89 "PointTreesModel" "foundThere" "I" ∈ wsX2_told := by decide +kernel
theorem wd_c_X2_told_X2_told_2 : Cond.fieldLink RX2 86 "PointTreesModel" "settled" "I" ∈ wsX2_told := by decide +kernel
theorem wd_c_X2_told_X2_told_3 : Cond.fieldLink RX2 83 "PointTreesModel" "opened" "I" ∈ wsX2_told := by decide +kernel
theorem iw_c_X2_told_wsX20 : ∀ w ∈ wsX20, w ∈ wsX2_told := fun _ h => List.mem_cons_of_mem _ (List.mem_append_right _ h)
set_option maxHeartbeats 4000000 in
set_option maxRecDepth 100000 in
theorem c_X2_told (l : Launch) (dC : Nat → ClassId) (dI : Nat → Nat → Nat) (a : Nat → Nat) (c : Nat → ClassId) (F : Nat → Int32) (A : Nat → Nat → Int32) (sz : Nat) (op se ft : Nat) (h24 : F 24 = nI op) (h25 : F 25 = nI se) (h26 : F 26 = nI ft) (k : Int32) : Met l yX2_told wsX2_told (pt_rm 0) (pt_W (dC, dI) vwCl (pt_mt c) (pt_mw a c F A) pt_nw sz [.ref (a 0), .int k]) (va_Qi (fun (r : Int32) (u : pt_MS) => ((k = nI 0 ∧ r = nI op) ∨ (k = nI 1 ∧ r = nI se) ∨ (k = nI 2 ∧ r = nI ft) ∨ (¬ pt_in 3 (fun _ => True) k ∧ r = -2)) ∧ u = ((upd F 0 (nI 0)), A)) (fun u t => va_P (dC, dI) vwCl (pt_mw a c u.1 u.2) t.heap) (va_A (pt_mw a c F A) sz)) 0 0 (va_A (pt_mw a c F A) sz) := by
  refine Met.ofW (cc := cX2_told) (maxL := 2) (ret := (some .int)) (by decide) rfl ?_
  intro p e s m args below meth cd s₁ B hml hv
  obtain ⟨rfl, hsz, hP, hK, hN, hD0⟩ := hv
  have hx := B.exec
  have hb := B.bytes
  have hr := B.returns
  have hts := atoms_spec (ws := wsX2_told) B.pre
  have hown : s.vm.findClass RX2 = some m.cls := findClass_of_methodNamed B.named
  have hlocks := B.notSynchronized
  subst hsz
  have hD := hD0.self (sz := s.heap.size)
  generalize hAe : va_A (pt_mw a c F A) s.heap.size = AA at hD ⊢
  have hA : ∀ q : Nat, s.heap.size ≤ q → AA q := fun q h => by rw [← hAe]; exact Or.inr h
  have hS : va_S AA s.heap s.heap [] := va_S.rf
  have hl := lv_entry ([.ref (a 0), .int k]) (n := 2) (Nat.le_of_ble_eq_true rfl)
  rw [lg_entry_eq]
  generalize (lg_sl ([.ref (a 0), .int k]) ++ List.replicate (2 - (lg_sl ([.ref (a 0), .int k])).length) Slot.unset).toArray = ls at hl ⊢
  have hl : lv_has ls 2 [(0, .ref (a 0)), (1, .int k)] := hl
  refine lv_aload_n hx hb dX2_told_0 rfl (lv_at hl 0 rfl) ?_
  refine lv_iconst (v := nI 0) hx hb dX2_told_1 (by decide) ?_
  obtain ⟨F1, eF1⟩ : ∃ zz, zz = upd F 0 (nI 0) := ⟨_, rfl⟩
  refine va_put (D := (dC, dI)) (ci := 2) (v := .int (nI 0)) (ty := .int) (C := RX2) (T := TX2) (N := 27) hx hb hts iw_c_X2_told_wsX20 tyX2 tyX2_ok nmX2 hown hK hP hD hS 0 rfl rfl 0 (by decide) (hts _ wd_c_X2_told_X2_told_0) (fun _ h9 => h9) rfl (by decide +kernel) rfl rfl (Nat.le_of_ble_eq_true rfl) dX2_told_2 (fun H locs hP hD hS => ?_)
  have hP : va_P (dC, dI) vwCl (pt_mw a c F1 A) H := by rw [eF1]; exact hP
  have hD : va_D AA (pt_mw a c F1 A) := by rw [eF1]; exact hD
  have kF1_24 : F1 24 = nI op := by rw [eF1, pt_upd_ne (by decide)]; exact h24
  have kF1_25 : F1 25 = nI se := by rw [eF1, pt_upd_ne (by decide)]; exact h25
  have kF1_26 : F1 26 = nI ft := by rw [eF1, pt_upd_ne (by decide)]; exact h26
  have kF1_0 : F1 0 = nI 0 := by rw [eF1, pt_upd]
  refine lv_iload_n hx hb dX2_told_5 rfl (lv_at hl 1 rfl) ?_
  refine lv_if_ne (tgt := 16) hx hb dX2_told_6 (by decide) (fun c6 => ?_) (fun c6 => ?_)
  · refine lv_iload_n hx hb dX2_told_16 rfl (lv_at hl 1 rfl) ?_
    refine lv_iconst (v := nI 1) hx hb dX2_told_17 (by decide) ?_
    refine lv_icmp_ne (tgt := 28) hx hb dX2_told_18 (by decide) (fun c18 => ?_) (fun c18 => ?_)
    · refine lv_iload_n hx hb dX2_told_28 rfl (lv_at hl 1 rfl) ?_
      refine lv_iconst (v := nI 2) hx hb dX2_told_29 (by decide) ?_
      refine lv_icmp_ne (tgt := 40) hx hb dX2_told_30 (by decide) (fun c30 => ?_) (fun c30 => ?_)
      · refine lv_bipush (v := (-2)) hx hb dX2_told_40 (by decide) ?_
        exact W.iret (v := (-2)) hx hb hr (fun zt zh zW => ⟨⟨_, (F1, A), rfl, ⟨Or.inr (Or.inr (Or.inr ⟨fun q => by obtain ⟨t, ht, et, _⟩ := q; rcases (show t = 0 ∨ t = 1 ∨ t = 2 by omega) with rfl | rfl | rfl <;> first | exact c6 et | exact c18 et | exact c30 et, rfl⟩)), by rw [eF1]⟩, by show va_P _ _ _ zt.heap; rw [zh]; exact hP⟩, hS.F zh⟩) hS.2.2 dX2_told_42
      · refine lv_aload_n hx hb dX2_told_33 rfl (lv_at hl 0 rfl) ?_
        refine va_get (D := (dC, dI)) (ci := 2) (v := .int (F1 26)) (C := RX2) (T := TX2) (N := 27) hx hb hts iw_c_X2_told_wsX20 hown hK hP 0 rfl rfl 26 (by decide) (hts _ wd_c_X2_told_X2_told_1) (fun _ h9 => h9) rfl dX2_told_34 ?_
        refine pt_top (y := nI ft) kF1_26 ?_
        refine lv_goto (tgt := 42) hx hb dX2_told_37 (by decide) ?_
        exact W.iret (v := nI ft) hx hb hr (fun zt zh zW => ⟨⟨_, (F1, A), rfl, ⟨Or.inr (Or.inr (Or.inl ⟨c30, rfl⟩)), by rw [eF1]⟩, by show va_P _ _ _ zt.heap; rw [zh]; exact hP⟩, hS.F zh⟩) hS.2.2 dX2_told_42
    · refine lv_aload_n hx hb dX2_told_21 rfl (lv_at hl 0 rfl) ?_
      refine va_get (D := (dC, dI)) (ci := 2) (v := .int (F1 25)) (C := RX2) (T := TX2) (N := 27) hx hb hts iw_c_X2_told_wsX20 hown hK hP 0 rfl rfl 25 (by decide) (hts _ wd_c_X2_told_X2_told_2) (fun _ h9 => h9) rfl dX2_told_22 ?_
      refine pt_top (y := nI se) kF1_25 ?_
      refine lv_goto (tgt := 42) hx hb dX2_told_25 (by decide) ?_
      exact W.iret (v := nI se) hx hb hr (fun zt zh zW => ⟨⟨_, (F1, A), rfl, ⟨Or.inr (Or.inl ⟨c18, rfl⟩), by rw [eF1]⟩, by show va_P _ _ _ zt.heap; rw [zh]; exact hP⟩, hS.F zh⟩) hS.2.2 dX2_told_42
  · refine lv_aload_n hx hb dX2_told_9 rfl (lv_at hl 0 rfl) ?_
    refine va_get (D := (dC, dI)) (ci := 2) (v := .int (F1 24)) (C := RX2) (T := TX2) (N := 27) hx hb hts iw_c_X2_told_wsX20 hown hK hP 0 rfl rfl 24 (by decide) (hts _ wd_c_X2_told_X2_told_3) (fun _ h9 => h9) rfl dX2_told_10 ?_
    refine pt_top (y := nI op) kF1_24 ?_
    refine lv_goto (tgt := 42) hx hb dX2_told_13 (by decide) ?_
    exact W.iret (v := nI op) hx hb hr (fun zt zh zW => ⟨⟨_, (F1, A), rfl, ⟨Or.inl ⟨c6, rfl⟩, by rw [eF1]⟩, by show va_P _ _ _ zt.heap; rw [zh]; exact hP⟩, hS.F zh⟩) hS.2.2 dX2_told_42

theorem wd_c_X2_found_X2_found_0 : Cond.fieldLink RX2 69 "PointTreesModel" "thrown" "I" ∈ wsX2_found := by decide +kernel
theorem wd_c_X2_found_X2_found_1 : Cond.fieldLink RX2 66 "PointTreesModel" "isFound" "[Z" ∈ wsX2_found := by decide +kernel
theorem iw_c_X2_found_wsX20 : ∀ w ∈ wsX20, w ∈ wsX2_found := fun _ h => List.mem_cons_of_mem _ (List.mem_append_right _ h)
set_option maxHeartbeats 4000000 in
set_option maxRecDepth 100000 in
theorem c_X2_found (l : Launch) (dC : Nat → ClassId) (dI : Nat → Nat → Nat) (a : Nat → Nat) (c : Nat → ClassId) (F : Nat → Int32) (A : Nat → Nat → Int32) (sz : Nat) (k : Int32) : Met l yX2_found wsX2_found (pt_rm 0) (pt_W (dC, dI) vwCl (pt_mt c) (pt_mw a c F A) pt_nw sz [.ref (a 0), .int k]) (va_Qi (fun (r : Int32) (u : pt_MS) => pt_kth (fun t => ¬ A 22 t = 0) 64 k r ∧ u = ((upd F 0 (nI 0)), A)) (fun u t => va_P (dC, dI) vwCl (pt_mw a c u.1 u.2) t.heap) (va_A (pt_mw a c F A) sz)) 0 0 (va_A (pt_mw a c F A) sz) := by
  refine Met.ofW (cc := cX2_found) (maxL := 4) (ret := (some .int)) (by decide) rfl ?_
  intro p e s m args below meth cd s₁ B hml hv
  obtain ⟨rfl, hsz, hP, hK, hN, hD0⟩ := hv
  have hx := B.exec
  have hb := B.bytes
  have hr := B.returns
  have hts := atoms_spec (ws := wsX2_found) B.pre
  have hown : s.vm.findClass RX2 = some m.cls := findClass_of_methodNamed B.named
  have hlocks := B.notSynchronized
  subst hsz
  have hD := hD0.self (sz := s.heap.size)
  generalize hAe : va_A (pt_mw a c F A) s.heap.size = AA at hD ⊢
  have hA : ∀ q : Nat, s.heap.size ≤ q → AA q := fun q h => by rw [← hAe]; exact Or.inr h
  have hS : va_S AA s.heap s.heap [] := va_S.rf
  have hl := lv_entry ([.ref (a 0), .int k]) (n := 4) (Nat.le_of_ble_eq_true rfl)
  rw [lg_entry_eq]
  generalize (lg_sl ([.ref (a 0), .int k]) ++ List.replicate (4 - (lg_sl ([.ref (a 0), .int k])).length) Slot.unset).toArray = ls at hl ⊢
  have hl : lv_has ls 4 [(0, .ref (a 0)), (1, .int k)] := hl
  refine lv_aload_n hx hb dX2_found_0 rfl (lv_at hl 0 rfl) ?_
  refine lv_iconst (v := nI 0) hx hb dX2_found_1 (by decide) ?_
  obtain ⟨F1, eF1⟩ : ∃ zz, zz = upd F 0 (nI 0) := ⟨_, rfl⟩
  refine va_put (D := (dC, dI)) (ci := 2) (v := .int (nI 0)) (ty := .int) (C := RX2) (T := TX2) (N := 27) hx hb hts iw_c_X2_found_wsX20 tyX2 tyX2_ok nmX2 hown hK hP hD hS 0 rfl rfl 0 (by decide) (hts _ wd_c_X2_found_X2_found_0) (fun _ h9 => h9) rfl (by decide +kernel) rfl rfl (Nat.le_of_ble_eq_true rfl) dX2_found_2 (fun H locs hP hD hS => ?_)
  have hP : va_P (dC, dI) vwCl (pt_mw a c F1 A) H := by rw [eF1]; exact hP
  have hD : va_D AA (pt_mw a c F1 A) := by rw [eF1]; exact hD
  have kF1_0 : F1 0 = nI 0 := by rw [eF1, pt_upd]
  by_cases hneg : k < 0
  · refine lv_iload_n hx hb dX2_found_5 rfl (lv_at hl 1 rfl) ?_
    refine lv_istore_n (lv' := [(2, .int k), (0, .ref (a 0)), (1, .int k)]) hx hb dX2_found_6 rfl hl (by decide) rfl (fun ls hl => ?_)
    refine lv_iconst (v := nI 0) hx hb dX2_found_7 (by decide) ?_
    refine lv_istore_n (lv' := [(3, .int (nI 0)), (2, .int k), (0, .ref (a 0)), (1, .int k)]) hx hb dX2_found_8 rfl hl (by decide) rfl (fun ls hl => ?_)
    refine lv_iload_n hx hb dX2_found_9 rfl (lv_at hl 0 rfl) ?_
    refine lv_bipush (v := nI 64) hx hb dX2_found_10 (by decide) ?_
    refine lv_icmp_ge (tgt := 43) hx hb dX2_found_12 (by decide) (fun c12 => absurd c12 (nI_ge (show 0 < 64 by decide) (by decide))) (fun c12 => ?_)
    refine lv_iload_n hx hb dX2_found_15 rfl (lv_at hl 3 rfl) ?_
    refine lv_if_lt (tgt := 43) hx hb dX2_found_16 (by decide) (fun c16 => ?_) (fun c16 => absurd hneg c16)
    refine lv_iconst (v := (-1)) hx hb dX2_found_43 (by decide) ?_
    exact W.iret (v := (-1)) hx hb hr (fun zt zh zW => ⟨⟨_, (F1, A), rfl, ⟨Or.inr ⟨fun j t e hj ht hp q => absurd (show nI j < 0 by rw [← e]; exact hneg) (nI_pos hj), rfl⟩, by rw [eF1]⟩, by show va_P _ _ _ zt.heap; rw [zh]; exact hP⟩, hS.F zh⟩) hS.2.2 dX2_found_44
  · obtain ⟨j, hj, ek⟩ := nI_of hneg
    subst ek
    refine lv_iload_n hx hb dX2_found_5 rfl (lv_at hl 1 rfl) ?_
    refine lv_istore_n (lv' := [(2, .int (nI j)), (0, .ref (a 0)), (1, .int (nI j))]) hx hb dX2_found_6 rfl hl (by decide) rfl (fun ls hl => ?_)
    refine lv_iconst (v := nI 0) hx hb dX2_found_7 (by decide) ?_
    refine lv_istore_n (lv' := [(3, .int (nI 0)), (2, .int (nI j)), (0, .ref (a 0)), (1, .int (nI j))]) hx hb dX2_found_8 rfl hl (by decide) rfl (fun ls hl => ?_)
    refine pt_loopR (fun q : Nat × Nat => 64 - q.1) (fun q ls => q.1 ≤ 64 ∧ q.2 + pt_cnt (fun t => ¬ A 22 t = 0) q.1 = j ∧ (∀ u, u < q.1 → ¬ A 22 u = 0 → ¬ pt_cnt (fun t => ¬ A 22 t = 0) u = j) ∧ lv_has ls 4 [(3, .int (nI q.1)), (2, .int (nI q.2)), (0, .ref (a 0)), (1, .int (nI j))]) ?_ (0, j) _ ⟨Nat.zero_le _, rfl, fun u hu => absurd hu (Nat.not_lt_zero _), hl⟩
    intro ⟨i, m2⟩ ls ⟨hi, hij, hno, hl⟩ ih
    dsimp only at hi hij hno hl ih
    refine lv_iload_n hx hb dX2_found_9 rfl (lv_at hl 0 rfl) ?_
    refine lv_bipush (v := nI 64) hx hb dX2_found_10 (by decide) ?_
    refine lv_icmp_ge (tgt := 43) hx hb dX2_found_12 (by decide) (fun c12 => ?_) (fun c12 => ?_)
    · have hie : i = 64 := by have := (nI_leI (by omega) (by omega)).mp c12; omega
      subst hie
      refine lv_iconst (v := (-1)) hx hb dX2_found_43 (by decide) ?_
      exact W.iret (v := (-1)) hx hb hr (fun zt zh zW => ⟨⟨_, (F1, A), rfl, ⟨Or.inr ⟨fun j2 t e hj2 ht hp q => hno t ht hp (by rw [q]; exact ((nI_eq hj hj2).mp e).symm), rfl⟩, by rw [eF1]⟩, by show va_P _ _ _ zt.heap; rw [zh]; exact hP⟩, hS.F zh⟩) hS.2.2 dX2_found_44
    · have hlt : i < 64 := Nat.not_le.mp (fun q => c12 ((nI_leI (by omega) (by omega)).mpr q))
      refine lv_iload_n hx hb dX2_found_15 rfl (lv_at hl 3 rfl) ?_
      refine lv_if_lt (tgt := 43) hx hb dX2_found_16 (by decide) (fun c16 => absurd c16 (nI_pos hj)) (fun c16 => ?_)
      refine lv_aload_n hx hb dX2_found_19 rfl (lv_at hl 2 rfl) ?_
      refine va_get (D := (dC, dI)) (ci := 2) (v := .ref (a 22)) (C := RX2) (T := TX2) (N := 27) hx hb hts iw_c_X2_found_wsX20 hown hK hP 0 rfl rfl 22 (by decide) (hts _ wd_c_X2_found_X2_found_1) (fun _ h9 => h9) rfl dX2_found_20 ?_
      refine lv_iload_n hx hb dX2_found_23 rfl (lv_at hl 0 rfl) ?_
      refine pt_zald hx hb hK hP 18 17 rfl rfl i rfl (by omega) (by decide) dX2_found_24 ?_
      refine lv_if_eq (tgt := 37) hx hb dX2_found_25 (by decide) (fun c25 => ?_) (fun c25 => ?_)
      · refine lv_iinc (v := nI (i + 1)) (lv' := [(3, .int (nI (i + 1))), (2, .int (nI m2)), (0, .ref (a 0)), (1, .int (nI j))]) hx hb dX2_found_37 hl (k := 0) rfl (nI_1 _) (by decide) rfl (fun ls hl => ?_)
        refine lv_goto (tgt := 9) hx hb dX2_found_40 (by decide) ?_
        have ec := pt_cnt_f (p := (fun t => ¬ A 22 t = 0)) (n := i) (fun q => q c25)
        exact ih (i + 1, m2) _ ⟨by show i + 1 ≤ 64; omega, by show m2 + pt_cnt _ (i + 1) = j; rw [ec]; exact hij, fun u hu h => (Nat.lt_succ_iff_lt_or_eq.mp hu).elim (fun q => hno u q h) (fun q => by subst q; exact absurd c25 h), lv_sub hl [0, 1, 2, 3] rfl⟩ (by show 64 - (i + 1) < 64 - i; omega)
      · refine lv_iload_n hx hb dX2_found_28 rfl (lv_at hl 1 rfl) ?_
        refine lv_if_ne (tgt := 34) hx hb dX2_found_29 (by decide) (fun c29 => ?_) (fun c29 => ?_)
        · have d29 : ¬ m2 = 0 := fun q => c29 (by rw [q]; rfl)
          refine lv_iinc (v := nI (m2 - 1)) (lv' := [(2, .int (nI (m2 - 1))), (3, .int (nI i)), (0, .ref (a 0)), (1, .int (nI j))]) hx hb dX2_found_34 hl (k := 1) rfl (by have := sb_m1 (p := m2) (by omega); exact this) (by decide) rfl (fun ls hl => ?_)
          refine lv_iinc (v := nI (i + 1)) (lv' := [(3, .int (nI (i + 1))), (2, .int (nI (m2 - 1))), (0, .ref (a 0)), (1, .int (nI j))]) hx hb dX2_found_37 hl (k := 1) rfl (nI_1 _) (by decide) rfl (fun ls hl => ?_)
          refine lv_goto (tgt := 9) hx hb dX2_found_40 (by decide) ?_
          have ec := pt_cnt_t (p := (fun t => ¬ A 22 t = 0)) (n := i) c25
          exact ih (i + 1, m2 - 1) _ ⟨by show i + 1 ≤ 64; omega, by show m2 - 1 + pt_cnt _ (i + 1) = j; rw [ec]; omega, fun u hu h => (Nat.lt_succ_iff_lt_or_eq.mp hu).elim (fun q => hno u q h) (fun q => by subst q; omega), lv_sub hl [0, 1, 2, 3] rfl⟩ (by show 64 - (i + 1) < 64 - i; omega)
        · have d29 : m2 = 0 := (nI_eq (b := 0) (by omega) (by omega)).mp c29
          refine lv_iload_n hx hb dX2_found_32 rfl (lv_at hl 0 rfl) ?_
          exact W.iret (v := nI i) hx hb hr (fun zt zh zW => ⟨⟨_, (F1, A), rfl, ⟨Or.inl ⟨j, i, rfl, hj, hlt, c25, by omega, rfl⟩, by rw [eF1]⟩, by show va_P _ _ _ zt.heap; rw [zh]; exact hP⟩, hS.F zh⟩) hS.2.2 dX2_found_33

theorem wd_c_X2_end_X2_end_0 : Cond.fieldLink RX2 69 "PointTreesModel" "thrown" "I" ∈ wsX2_end := by decide +kernel
theorem wd_c_X2_end_X2_end_1 : Cond.constantLong RX2 107 (-9223372036854775808) ∈ wsX2_end := by decide +kernel
theorem wd_c_X2_end_X2_end_2 : Cond.fieldLink RX2 7 "PointTreesModel" "axes" "I" ∈ wsX2_end := by decide +kernel
theorem wd_c_X2_end_X2_end_3 : Cond.fieldLink RX2 21 "PointTreesModel" "highs" "[I" ∈ wsX2_end := by decide +kernel
theorem wd_c_X2_end_X2_end_4 : Cond.fieldLink RX2 17 "PointTreesModel" "lows" "[I" ∈ wsX2_end := by decide +kernel
theorem iw_c_X2_end_wsX20 : ∀ w ∈ wsX20, w ∈ wsX2_end := fun _ h => List.mem_cons_of_mem _ (List.mem_append_right _ h)
set_option maxHeartbeats 4000000 in
set_option maxRecDepth 100000 in
theorem c_X2_end (l : Launch) (dC : Nat → ClassId) (dI : Nat → Nat → Nat) (a : Nat → Nat) (c : Nat → ClassId) (F : Nat → Int32) (A : Nat → Nat → Int32) (sz : Nat) (ax : Nat) (h1 : F 1 = nI ax) (hax : ax ≤ 3) (md : Nat) (h2 : F 2 = nI md) (hmd : md ≤ 64) (k x z : Int32) : Met l yX2_end wsX2_end (pt_rm 1) (pt_W (dC, dI) vwCl (pt_mt c) (pt_mw a c F A) pt_nw sz [.ref (a 0), .int k, .int x, .int z]) (va_Ql (fun (r : Int64) (u : pt_MS) => ((∃ t y d, t < md ∧ y < ax ∧ d < 2 ∧ k = nI t ∧ x = nI y ∧ z = nI d ∧ ¬ A 3 t = 0 ∧ r = (if d = 0 then A 4 (3 * t + y) else A 5 (3 * t + y)).toInt64) ∨ (¬ (pt_in md (fun t => ¬ A 3 t = 0) k ∧ pt_in ax (fun _ => True) x ∧ pt_in 2 (fun _ => True) z) ∧ r = -9223372036854775808)) ∧ u = ((upd F 0 (nI 0)), A)) (fun u t => va_P (dC, dI) vwCl (pt_mw a c u.1 u.2) t.heap) (va_A (pt_mw a c F A) sz)) 0 0 (va_A (pt_mw a c F A) sz) := by
  refine Met.ofW (cc := cX2_end) (maxL := 4) (ret := (some .long)) (by decide) rfl ?_
  intro p e s m args below meth cd s₁ B hml hv
  obtain ⟨rfl, hsz, hP, hK, hN, hD0⟩ := hv
  have hx := B.exec
  have hb := B.bytes
  have hr := B.returns
  have hts := atoms_spec (ws := wsX2_end) B.pre
  have hown : s.vm.findClass RX2 = some m.cls := findClass_of_methodNamed B.named
  have hlocks := B.notSynchronized
  subst hsz
  have hD := hD0.self (sz := s.heap.size)
  generalize hAe : va_A (pt_mw a c F A) s.heap.size = AA at hD ⊢
  have hA : ∀ q : Nat, s.heap.size ≤ q → AA q := fun q h => by rw [← hAe]; exact Or.inr h
  have hS : va_S AA s.heap s.heap [] := va_S.rf
  have hl := lv_entry ([.ref (a 0), .int k, .int x, .int z]) (n := 4) (Nat.le_of_ble_eq_true rfl)
  rw [lg_entry_eq]
  generalize (lg_sl ([.ref (a 0), .int k, .int x, .int z]) ++ List.replicate (4 - (lg_sl ([.ref (a 0), .int k, .int x, .int z])).length) Slot.unset).toArray = ls at hl ⊢
  have hl : lv_has ls 4 [(0, .ref (a 0)), (1, .int k), (2, .int x), (3, .int z)] := hl
  refine lv_aload_n hx hb dX2_end_0 rfl (lv_at hl 0 rfl) ?_
  refine lv_iconst (v := nI 0) hx hb dX2_end_1 (by decide) ?_
  obtain ⟨F1, eF1⟩ : ∃ zz, zz = upd F 0 (nI 0) := ⟨_, rfl⟩
  refine va_put (D := (dC, dI)) (ci := 2) (v := .int (nI 0)) (ty := .int) (C := RX2) (T := TX2) (N := 27) hx hb hts iw_c_X2_end_wsX20 tyX2 tyX2_ok nmX2 hown hK hP hD hS 0 rfl rfl 0 (by decide) (hts _ wd_c_X2_end_X2_end_0) (fun _ h9 => h9) rfl (by decide +kernel) rfl rfl (Nat.le_of_ble_eq_true rfl) dX2_end_2 (fun H locs hP hD hS => ?_)
  have hP : va_P (dC, dI) vwCl (pt_mw a c F1 A) H := by rw [eF1]; exact hP
  have hD : va_D AA (pt_mw a c F1 A) := by rw [eF1]; exact hD
  have kF1_1 : F1 1 = nI ax := by rw [eF1, pt_upd_ne (by decide)]; exact h1
  have kF1_2 : F1 2 = nI md := by rw [eF1, pt_upd_ne (by decide)]; exact h2
  have kF1_0 : F1 0 = nI 0 := by rw [eF1, pt_upd]
  refine lv_aload_n hx hb dX2_end_5 rfl (lv_at hl 0 rfl) ?_
  refine lv_iload_n hx hb dX2_end_6 rfl (lv_at hl 1 rfl) ?_
  refine pt_rdi (va_runV (As := [.int k]) (rest := []) ⟨hx, hb, hml, hown, hts⟩ (c_X2_isThing l dC dI a c F1 A md kF1_2 hmd k) (cwV 1 hts gX2_end_X2_isThing rfl rfl rfl (by decide +kernel) ⟨Nat.le_of_ble_eq_true rfl, Nat.le_of_ble_eq_true rfl⟩) (pt_pv2 hP hK hN (q0 := 0) rfl) rfl rfl hl.1 rfl (lv_room (Nat.le_of_ble_eq_true rfl)) dX2_end_7 ⟨Nat.le_of_ble_eq_true rfl, Nat.le_of_ble_eq_true rfl⟩) (fun r7 hr7 => ?_)
  refine lv_if_eq (tgt := 34) hx hb dX2_end_10 (by decide) (fun c10 => ?_) (fun c10 => ?_)
  · have d10 := hr7.f c10
    refine lv_ldc2 (v := -9223372036854775808) hx hb hown (hts _ wd_c_X2_end_X2_end_1) dX2_end_34 ?_
    exact W.lret (v := (-9223372036854775808 : Int64)) hx hb hr (fun zt zh zW => ⟨⟨_, (F1, A), rfl, ⟨Or.inr ⟨fun q => by first | (obtain ⟨_, _, t, ht, et, _⟩ := q; exact c31 (by rw [et]; exact nI_le (by omega) (by decide))) | exact pt_in_lo c26 (by decide) q.2.2 | exact pt_in_hi c22 (by omega) q.2.1 | exact pt_in_lo c14 (by omega) q.2.1 | exact d10 q.1, rfl⟩, by rw [eF1]⟩, by show va_P _ _ _ zt.heap; rw [zh]; exact hP⟩, hS.F zh⟩) hS.2.2 dX2_end_37
  · have d10 := hr7.t c10
    refine lv_iload_n hx hb dX2_end_13 rfl (lv_at hl 2 rfl) ?_
    refine lv_if_lt (tgt := 34) hx hb dX2_end_14 (by decide) (fun c14 => ?_) (fun c14 => ?_)
    · refine lv_ldc2 (v := -9223372036854775808) hx hb hown (hts _ wd_c_X2_end_X2_end_1) dX2_end_34 ?_
      exact W.lret (v := (-9223372036854775808 : Int64)) hx hb hr (fun zt zh zW => ⟨⟨_, (F1, A), rfl, ⟨Or.inr ⟨fun q => by first | (obtain ⟨_, _, t, ht, et, _⟩ := q; exact c31 (by rw [et]; exact nI_le (by omega) (by decide))) | exact pt_in_lo c26 (by decide) q.2.2 | exact pt_in_hi c22 (by omega) q.2.1 | exact pt_in_lo c14 (by omega) q.2.1 | exact d10 q.1, rfl⟩, by rw [eF1]⟩, by show va_P _ _ _ zt.heap; rw [zh]; exact hP⟩, hS.F zh⟩) hS.2.2 dX2_end_37
    · refine lv_iload_n hx hb dX2_end_17 rfl (lv_at hl 2 rfl) ?_
      refine lv_aload_n hx hb dX2_end_18 rfl (lv_at hl 0 rfl) ?_
      refine va_get (D := (dC, dI)) (ci := 2) (v := .int (F1 1)) (C := RX2) (T := TX2) (N := 27) hx hb hts iw_c_X2_end_wsX20 hown hK hP 0 rfl rfl 1 (by decide) (hts _ wd_c_X2_end_X2_end_2) (fun _ h9 => h9) rfl dX2_end_19 ?_
      refine pt_top (y := nI ax) kF1_1 ?_
      refine lv_icmp_ge (tgt := 34) hx hb dX2_end_22 (by decide) (fun c22 => ?_) (fun c22 => ?_)
      · refine lv_ldc2 (v := -9223372036854775808) hx hb hown (hts _ wd_c_X2_end_X2_end_1) dX2_end_34 ?_
        exact W.lret (v := (-9223372036854775808 : Int64)) hx hb hr (fun zt zh zW => ⟨⟨_, (F1, A), rfl, ⟨Or.inr ⟨fun q => by first | (obtain ⟨_, _, t, ht, et, _⟩ := q; exact c31 (by rw [et]; exact nI_le (by omega) (by decide))) | exact pt_in_lo c26 (by decide) q.2.2 | exact pt_in_hi c22 (by omega) q.2.1 | exact pt_in_lo c14 (by omega) q.2.1 | exact d10 q.1, rfl⟩, by rw [eF1]⟩, by show va_P _ _ _ zt.heap; rw [zh]; exact hP⟩, hS.F zh⟩) hS.2.2 dX2_end_37
      · refine lv_iload_n hx hb dX2_end_25 rfl (lv_at hl 3 rfl) ?_
        refine lv_if_lt (tgt := 34) hx hb dX2_end_26 (by decide) (fun c26 => ?_) (fun c26 => ?_)
        · refine lv_ldc2 (v := -9223372036854775808) hx hb hown (hts _ wd_c_X2_end_X2_end_1) dX2_end_34 ?_
          exact W.lret (v := (-9223372036854775808 : Int64)) hx hb hr (fun zt zh zW => ⟨⟨_, (F1, A), rfl, ⟨Or.inr ⟨fun q => by first | (obtain ⟨_, _, t, ht, et, _⟩ := q; exact c31 (by rw [et]; exact nI_le (by omega) (by decide))) | exact pt_in_lo c26 (by decide) q.2.2 | exact pt_in_hi c22 (by omega) q.2.1 | exact pt_in_lo c14 (by omega) q.2.1 | exact d10 q.1, rfl⟩, by rw [eF1]⟩, by show va_P _ _ _ zt.heap; rw [zh]; exact hP⟩, hS.F zh⟩) hS.2.2 dX2_end_37
        · refine lv_iload_n hx hb dX2_end_29 rfl (lv_at hl 3 rfl) ?_
          refine lv_iconst (v := nI 1) hx hb dX2_end_30 (by decide) ?_
          refine lv_icmp_le (tgt := 38) hx hb dX2_end_31 (by decide) (fun c31 => ?_) (fun c31 => ?_)
          · obtain ⟨t, ht, ek, hT⟩ := d10
            obtain ⟨y, hy, ey⟩ := pt_ix c14 c22 (by omega)
            obtain ⟨d, hd, ed⟩ := nI_of2 (M := nI 1) (n := 1) (by decide) c26 c31
            subst ek
            subst ey
            subst ed
            refine lv_iload_n hx hb dX2_end_38 rfl (lv_at hl 3 rfl) ?_
            refine lv_if_ne (tgt := 56) hx hb dX2_end_39 (by decide) (fun c39 => ?_) (fun c39 => ?_)
            · have d39 : ¬ d = 0 := fun q => c39 (by rw [q]; rfl)
              refine lv_aload_n hx hb dX2_end_56 rfl (lv_at hl 0 rfl) ?_
              refine va_get (D := (dC, dI)) (ci := 2) (v := .ref (a 5)) (C := RX2) (T := TX2) (N := 27) hx hb hts iw_c_X2_end_wsX20 hown hK hP 0 rfl rfl 5 (by decide) (hts _ wd_c_X2_end_X2_end_3) (fun _ h9 => h9) rfl dX2_end_57 ?_
              refine lv_iconst (v := nI 3) hx hb dX2_end_60 (by decide) ?_
              refine lv_iload_n hx hb dX2_end_61 rfl (lv_at hl 1 rfl) ?_
              refine lv_imul hx hb dX2_end_62 ?_
              refine pt_top (y := nI (3 * t)) (pk_mul _ _) ?_
              refine lv_iload_n hx hb dX2_end_63 rfl (lv_at hl 2 rfl) ?_
              refine lv_iadd hx hb dX2_end_64 ?_
              refine pt_top (y := nI ((3 * t) + y)) (nI_add _ _) ?_
              refine pt_iald hx hb hK hP 3 2 rfl rfl ((3 * t) + y) rfl (by omega) (by decide) dX2_end_65 ?_
              refine lv_i2l (v := ((A 5 ((3 * t) + y))).toInt64) hx hb dX2_end_66 rfl ?_
              exact W.lret (v := ((A 5 ((3 * t) + y))).toInt64) hx hb hr (fun zt zh zW => ⟨⟨_, (F1, A), rfl, ⟨Or.inl ⟨t, y, d, ht, hy, by omega, rfl, rfl, rfl, hT, by first | rw [if_pos d39] | rw [if_neg d39]⟩, by rw [eF1]⟩, by show va_P _ _ _ zt.heap; rw [zh]; exact hP⟩, hS.F zh⟩) hS.2.2 dX2_end_67
            · have d39 : d = 0 := (nI_eq (b := 0) (by omega) (by omega)).mp c39
              refine lv_aload_n hx hb dX2_end_42 rfl (lv_at hl 0 rfl) ?_
              refine va_get (D := (dC, dI)) (ci := 2) (v := .ref (a 4)) (C := RX2) (T := TX2) (N := 27) hx hb hts iw_c_X2_end_wsX20 hown hK hP 0 rfl rfl 4 (by decide) (hts _ wd_c_X2_end_X2_end_4) (fun _ h9 => h9) rfl dX2_end_43 ?_
              refine lv_iconst (v := nI 3) hx hb dX2_end_46 (by decide) ?_
              refine lv_iload_n hx hb dX2_end_47 rfl (lv_at hl 1 rfl) ?_
              refine lv_imul hx hb dX2_end_48 ?_
              refine pt_top (y := nI (3 * t)) (pk_mul _ _) ?_
              refine lv_iload_n hx hb dX2_end_49 rfl (lv_at hl 2 rfl) ?_
              refine lv_iadd hx hb dX2_end_50 ?_
              refine pt_top (y := nI ((3 * t) + y)) (nI_add _ _) ?_
              refine pt_iald hx hb hK hP 2 1 rfl rfl ((3 * t) + y) rfl (by omega) (by decide) dX2_end_51 ?_
              refine lv_i2l (v := ((A 4 ((3 * t) + y))).toInt64) hx hb dX2_end_52 rfl ?_
              refine lv_goto (tgt := 67) hx hb dX2_end_53 (by decide) ?_
              exact W.lret (v := ((A 4 ((3 * t) + y))).toInt64) hx hb hr (fun zt zh zW => ⟨⟨_, (F1, A), rfl, ⟨Or.inl ⟨t, y, d, ht, hy, by omega, rfl, rfl, rfl, hT, by first | rw [if_pos d39] | rw [if_neg d39]⟩, by rw [eF1]⟩, by show va_P _ _ _ zt.heap; rw [zh]; exact hP⟩, hS.F zh⟩) hS.2.2 dX2_end_67
          · refine lv_ldc2 (v := -9223372036854775808) hx hb hown (hts _ wd_c_X2_end_X2_end_1) dX2_end_34 ?_
            exact W.lret (v := (-9223372036854775808 : Int64)) hx hb hr (fun zt zh zW => ⟨⟨_, (F1, A), rfl, ⟨Or.inr ⟨fun q => by first | (obtain ⟨_, _, t, ht, et, _⟩ := q; exact c31 (by rw [et]; exact nI_le (by omega) (by decide))) | exact pt_in_lo c26 (by decide) q.2.2 | exact pt_in_hi c22 (by omega) q.2.1 | exact pt_in_lo c14 (by omega) q.2.1 | exact d10 q.1, rfl⟩, by rw [eF1]⟩, by show va_P _ _ _ zt.heap; rw [zh]; exact hP⟩, hS.F zh⟩) hS.2.2 dX2_end_37

theorem wd_c_X2_bound_X2_bound_0 : Cond.fieldLink RX2 69 "PointTreesModel" "thrown" "I" ∈ wsX2_bound := by decide +kernel
theorem wd_c_X2_bound_X2_bound_1 : Cond.constantLong RX2 107 (-9223372036854775808) ∈ wsX2_bound := by decide +kernel
theorem wd_c_X2_bound_X2_bound_2 : Cond.fieldLink RX2 7 "PointTreesModel" "axes" "I" ∈ wsX2_bound := by decide +kernel
theorem wd_c_X2_bound_X2_bound_3 : Cond.fieldLink RX2 45 "PointTreesModel" "greatests" "[I" ∈ wsX2_bound := by decide +kernel
theorem wd_c_X2_bound_X2_bound_4 : Cond.fieldLink RX2 42 "PointTreesModel" "leasts" "[I" ∈ wsX2_bound := by decide +kernel
theorem iw_c_X2_bound_wsX20 : ∀ w ∈ wsX20, w ∈ wsX2_bound := fun _ h => List.mem_cons_of_mem _ (List.mem_append_right _ h)
set_option maxHeartbeats 4000000 in
set_option maxRecDepth 100000 in
theorem c_X2_bound (l : Launch) (dC : Nat → ClassId) (dI : Nat → Nat → Nat) (a : Nat → Nat) (c : Nat → ClassId) (F : Nat → Int32) (A : Nat → Nat → Int32) (sz : Nat) (ax : Nat) (h1 : F 1 = nI ax) (hax : ax ≤ 3) (nb : Nat) (h8 : F 8 = nI nb) (hnb : nb ≤ 31) (k x z : Int32) : Met l yX2_bound wsX2_bound (pt_rm 1) (pt_W (dC, dI) vwCl (pt_mt c) (pt_mw a c F A) pt_nw sz [.ref (a 0), .int k, .int x, .int z]) (va_Ql (fun (r : Int64) (u : pt_MS) => ((∃ t y d, t < nb ∧ y < ax ∧ d < 2 ∧ k = nI t ∧ x = nI y ∧ z = nI d ∧ True ∧ r = (if d = 0 then A 13 (3 * t + y) else A 14 (3 * t + y)).toInt64) ∨ (¬ (pt_in nb (fun t => True) k ∧ pt_in ax (fun _ => True) x ∧ pt_in 2 (fun _ => True) z) ∧ r = -9223372036854775808)) ∧ u = ((upd F 0 (nI 0)), A)) (fun u t => va_P (dC, dI) vwCl (pt_mw a c u.1 u.2) t.heap) (va_A (pt_mw a c F A) sz)) 0 0 (va_A (pt_mw a c F A) sz) := by
  refine Met.ofW (cc := cX2_bound) (maxL := 4) (ret := (some .long)) (by decide) rfl ?_
  intro p e s m args below meth cd s₁ B hml hv
  obtain ⟨rfl, hsz, hP, hK, hN, hD0⟩ := hv
  have hx := B.exec
  have hb := B.bytes
  have hr := B.returns
  have hts := atoms_spec (ws := wsX2_bound) B.pre
  have hown : s.vm.findClass RX2 = some m.cls := findClass_of_methodNamed B.named
  have hlocks := B.notSynchronized
  subst hsz
  have hD := hD0.self (sz := s.heap.size)
  generalize hAe : va_A (pt_mw a c F A) s.heap.size = AA at hD ⊢
  have hA : ∀ q : Nat, s.heap.size ≤ q → AA q := fun q h => by rw [← hAe]; exact Or.inr h
  have hS : va_S AA s.heap s.heap [] := va_S.rf
  have hl := lv_entry ([.ref (a 0), .int k, .int x, .int z]) (n := 4) (Nat.le_of_ble_eq_true rfl)
  rw [lg_entry_eq]
  generalize (lg_sl ([.ref (a 0), .int k, .int x, .int z]) ++ List.replicate (4 - (lg_sl ([.ref (a 0), .int k, .int x, .int z])).length) Slot.unset).toArray = ls at hl ⊢
  have hl : lv_has ls 4 [(0, .ref (a 0)), (1, .int k), (2, .int x), (3, .int z)] := hl
  refine lv_aload_n hx hb dX2_bound_0 rfl (lv_at hl 0 rfl) ?_
  refine lv_iconst (v := nI 0) hx hb dX2_bound_1 (by decide) ?_
  obtain ⟨F1, eF1⟩ : ∃ zz, zz = upd F 0 (nI 0) := ⟨_, rfl⟩
  refine va_put (D := (dC, dI)) (ci := 2) (v := .int (nI 0)) (ty := .int) (C := RX2) (T := TX2) (N := 27) hx hb hts iw_c_X2_bound_wsX20 tyX2 tyX2_ok nmX2 hown hK hP hD hS 0 rfl rfl 0 (by decide) (hts _ wd_c_X2_bound_X2_bound_0) (fun _ h9 => h9) rfl (by decide +kernel) rfl rfl (Nat.le_of_ble_eq_true rfl) dX2_bound_2 (fun H locs hP hD hS => ?_)
  have hP : va_P (dC, dI) vwCl (pt_mw a c F1 A) H := by rw [eF1]; exact hP
  have hD : va_D AA (pt_mw a c F1 A) := by rw [eF1]; exact hD
  have kF1_1 : F1 1 = nI ax := by rw [eF1, pt_upd_ne (by decide)]; exact h1
  have kF1_8 : F1 8 = nI nb := by rw [eF1, pt_upd_ne (by decide)]; exact h8
  have kF1_0 : F1 0 = nI 0 := by rw [eF1, pt_upd]
  refine lv_aload_n hx hb dX2_bound_5 rfl (lv_at hl 0 rfl) ?_
  refine lv_iload_n hx hb dX2_bound_6 rfl (lv_at hl 1 rfl) ?_
  refine pt_rdi (va_runV (As := [.int k]) (rest := []) ⟨hx, hb, hml, hown, hts⟩ (c_X2_isBlock l dC dI a c F1 A nb kF1_8 hnb k) (cwV 1 hts gX2_bound_X2_isBlock rfl rfl rfl (by decide +kernel) ⟨Nat.le_of_ble_eq_true rfl, Nat.le_of_ble_eq_true rfl⟩) (pt_pv2 hP hK hN (q0 := 0) rfl) rfl rfl hl.1 rfl (lv_room (Nat.le_of_ble_eq_true rfl)) dX2_bound_7 ⟨Nat.le_of_ble_eq_true rfl, Nat.le_of_ble_eq_true rfl⟩) (fun r7 hr7 => ?_)
  refine lv_if_eq (tgt := 34) hx hb dX2_bound_10 (by decide) (fun c10 => ?_) (fun c10 => ?_)
  · have d10 := hr7.f c10
    refine lv_ldc2 (v := -9223372036854775808) hx hb hown (hts _ wd_c_X2_bound_X2_bound_1) dX2_bound_34 ?_
    exact W.lret (v := (-9223372036854775808 : Int64)) hx hb hr (fun zt zh zW => ⟨⟨_, (F1, A), rfl, ⟨Or.inr ⟨fun q => by first | (obtain ⟨_, _, t, ht, et, _⟩ := q; exact c31 (by rw [et]; exact nI_le (by omega) (by decide))) | exact pt_in_lo c26 (by decide) q.2.2 | exact pt_in_hi c22 (by omega) q.2.1 | exact pt_in_lo c14 (by omega) q.2.1 | exact d10 q.1, rfl⟩, by rw [eF1]⟩, by show va_P _ _ _ zt.heap; rw [zh]; exact hP⟩, hS.F zh⟩) hS.2.2 dX2_bound_37
  · have d10 := hr7.t c10
    refine lv_iload_n hx hb dX2_bound_13 rfl (lv_at hl 2 rfl) ?_
    refine lv_if_lt (tgt := 34) hx hb dX2_bound_14 (by decide) (fun c14 => ?_) (fun c14 => ?_)
    · refine lv_ldc2 (v := -9223372036854775808) hx hb hown (hts _ wd_c_X2_bound_X2_bound_1) dX2_bound_34 ?_
      exact W.lret (v := (-9223372036854775808 : Int64)) hx hb hr (fun zt zh zW => ⟨⟨_, (F1, A), rfl, ⟨Or.inr ⟨fun q => by first | (obtain ⟨_, _, t, ht, et, _⟩ := q; exact c31 (by rw [et]; exact nI_le (by omega) (by decide))) | exact pt_in_lo c26 (by decide) q.2.2 | exact pt_in_hi c22 (by omega) q.2.1 | exact pt_in_lo c14 (by omega) q.2.1 | exact d10 q.1, rfl⟩, by rw [eF1]⟩, by show va_P _ _ _ zt.heap; rw [zh]; exact hP⟩, hS.F zh⟩) hS.2.2 dX2_bound_37
    · refine lv_iload_n hx hb dX2_bound_17 rfl (lv_at hl 2 rfl) ?_
      refine lv_aload_n hx hb dX2_bound_18 rfl (lv_at hl 0 rfl) ?_
      refine va_get (D := (dC, dI)) (ci := 2) (v := .int (F1 1)) (C := RX2) (T := TX2) (N := 27) hx hb hts iw_c_X2_bound_wsX20 hown hK hP 0 rfl rfl 1 (by decide) (hts _ wd_c_X2_bound_X2_bound_2) (fun _ h9 => h9) rfl dX2_bound_19 ?_
      refine pt_top (y := nI ax) kF1_1 ?_
      refine lv_icmp_ge (tgt := 34) hx hb dX2_bound_22 (by decide) (fun c22 => ?_) (fun c22 => ?_)
      · refine lv_ldc2 (v := -9223372036854775808) hx hb hown (hts _ wd_c_X2_bound_X2_bound_1) dX2_bound_34 ?_
        exact W.lret (v := (-9223372036854775808 : Int64)) hx hb hr (fun zt zh zW => ⟨⟨_, (F1, A), rfl, ⟨Or.inr ⟨fun q => by first | (obtain ⟨_, _, t, ht, et, _⟩ := q; exact c31 (by rw [et]; exact nI_le (by omega) (by decide))) | exact pt_in_lo c26 (by decide) q.2.2 | exact pt_in_hi c22 (by omega) q.2.1 | exact pt_in_lo c14 (by omega) q.2.1 | exact d10 q.1, rfl⟩, by rw [eF1]⟩, by show va_P _ _ _ zt.heap; rw [zh]; exact hP⟩, hS.F zh⟩) hS.2.2 dX2_bound_37
      · refine lv_iload_n hx hb dX2_bound_25 rfl (lv_at hl 3 rfl) ?_
        refine lv_if_lt (tgt := 34) hx hb dX2_bound_26 (by decide) (fun c26 => ?_) (fun c26 => ?_)
        · refine lv_ldc2 (v := -9223372036854775808) hx hb hown (hts _ wd_c_X2_bound_X2_bound_1) dX2_bound_34 ?_
          exact W.lret (v := (-9223372036854775808 : Int64)) hx hb hr (fun zt zh zW => ⟨⟨_, (F1, A), rfl, ⟨Or.inr ⟨fun q => by first | (obtain ⟨_, _, t, ht, et, _⟩ := q; exact c31 (by rw [et]; exact nI_le (by omega) (by decide))) | exact pt_in_lo c26 (by decide) q.2.2 | exact pt_in_hi c22 (by omega) q.2.1 | exact pt_in_lo c14 (by omega) q.2.1 | exact d10 q.1, rfl⟩, by rw [eF1]⟩, by show va_P _ _ _ zt.heap; rw [zh]; exact hP⟩, hS.F zh⟩) hS.2.2 dX2_bound_37
        · refine lv_iload_n hx hb dX2_bound_29 rfl (lv_at hl 3 rfl) ?_
          refine lv_iconst (v := nI 1) hx hb dX2_bound_30 (by decide) ?_
          refine lv_icmp_le (tgt := 38) hx hb dX2_bound_31 (by decide) (fun c31 => ?_) (fun c31 => ?_)
          · obtain ⟨t, ht, ek, hT⟩ := d10
            obtain ⟨y, hy, ey⟩ := pt_ix c14 c22 (by omega)
            obtain ⟨d, hd, ed⟩ := nI_of2 (M := nI 1) (n := 1) (by decide) c26 c31
            subst ek
            subst ey
            subst ed
            refine lv_iload_n hx hb dX2_bound_38 rfl (lv_at hl 3 rfl) ?_
            refine lv_if_ne (tgt := 56) hx hb dX2_bound_39 (by decide) (fun c39 => ?_) (fun c39 => ?_)
            · have d39 : ¬ d = 0 := fun q => c39 (by rw [q]; rfl)
              refine lv_aload_n hx hb dX2_bound_56 rfl (lv_at hl 0 rfl) ?_
              refine va_get (D := (dC, dI)) (ci := 2) (v := .ref (a 14)) (C := RX2) (T := TX2) (N := 27) hx hb hts iw_c_X2_bound_wsX20 hown hK hP 0 rfl rfl 14 (by decide) (hts _ wd_c_X2_bound_X2_bound_3) (fun _ h9 => h9) rfl dX2_bound_57 ?_
              refine lv_iconst (v := nI 3) hx hb dX2_bound_60 (by decide) ?_
              refine lv_iload_n hx hb dX2_bound_61 rfl (lv_at hl 1 rfl) ?_
              refine lv_imul hx hb dX2_bound_62 ?_
              refine pt_top (y := nI (3 * t)) (pk_mul _ _) ?_
              refine lv_iload_n hx hb dX2_bound_63 rfl (lv_at hl 2 rfl) ?_
              refine lv_iadd hx hb dX2_bound_64 ?_
              refine pt_top (y := nI ((3 * t) + y)) (nI_add _ _) ?_
              refine pt_iald hx hb hK hP 11 10 rfl rfl ((3 * t) + y) rfl (by omega) (by decide) dX2_bound_65 ?_
              refine lv_i2l (v := ((A 14 ((3 * t) + y))).toInt64) hx hb dX2_bound_66 rfl ?_
              exact W.lret (v := ((A 14 ((3 * t) + y))).toInt64) hx hb hr (fun zt zh zW => ⟨⟨_, (F1, A), rfl, ⟨Or.inl ⟨t, y, d, ht, hy, by omega, rfl, rfl, rfl, hT, by first | rw [if_pos d39] | rw [if_neg d39]⟩, by rw [eF1]⟩, by show va_P _ _ _ zt.heap; rw [zh]; exact hP⟩, hS.F zh⟩) hS.2.2 dX2_bound_67
            · have d39 : d = 0 := (nI_eq (b := 0) (by omega) (by omega)).mp c39
              refine lv_aload_n hx hb dX2_bound_42 rfl (lv_at hl 0 rfl) ?_
              refine va_get (D := (dC, dI)) (ci := 2) (v := .ref (a 13)) (C := RX2) (T := TX2) (N := 27) hx hb hts iw_c_X2_bound_wsX20 hown hK hP 0 rfl rfl 13 (by decide) (hts _ wd_c_X2_bound_X2_bound_4) (fun _ h9 => h9) rfl dX2_bound_43 ?_
              refine lv_iconst (v := nI 3) hx hb dX2_bound_46 (by decide) ?_
              refine lv_iload_n hx hb dX2_bound_47 rfl (lv_at hl 1 rfl) ?_
              refine lv_imul hx hb dX2_bound_48 ?_
              refine pt_top (y := nI (3 * t)) (pk_mul _ _) ?_
              refine lv_iload_n hx hb dX2_bound_49 rfl (lv_at hl 2 rfl) ?_
              refine lv_iadd hx hb dX2_bound_50 ?_
              refine pt_top (y := nI ((3 * t) + y)) (nI_add _ _) ?_
              refine pt_iald hx hb hK hP 10 9 rfl rfl ((3 * t) + y) rfl (by omega) (by decide) dX2_bound_51 ?_
              refine lv_i2l (v := ((A 13 ((3 * t) + y))).toInt64) hx hb dX2_bound_52 rfl ?_
              refine lv_goto (tgt := 67) hx hb dX2_bound_53 (by decide) ?_
              exact W.lret (v := ((A 13 ((3 * t) + y))).toInt64) hx hb hr (fun zt zh zW => ⟨⟨_, (F1, A), rfl, ⟨Or.inl ⟨t, y, d, ht, hy, by omega, rfl, rfl, rfl, hT, by first | rw [if_pos d39] | rw [if_neg d39]⟩, by rw [eF1]⟩, by show va_P _ _ _ zt.heap; rw [zh]; exact hP⟩, hS.F zh⟩) hS.2.2 dX2_bound_67
          · refine lv_ldc2 (v := -9223372036854775808) hx hb hown (hts _ wd_c_X2_bound_X2_bound_1) dX2_bound_34 ?_
            exact W.lret (v := (-9223372036854775808 : Int64)) hx hb hr (fun zt zh zW => ⟨⟨_, (F1, A), rfl, ⟨Or.inr ⟨fun q => by first | (obtain ⟨_, _, t, ht, et, _⟩ := q; exact c31 (by rw [et]; exact nI_le (by omega) (by decide))) | exact pt_in_lo c26 (by decide) q.2.2 | exact pt_in_hi c22 (by omega) q.2.1 | exact pt_in_lo c14 (by omega) q.2.1 | exact d10 q.1, rfl⟩, by rw [eF1]⟩, by show va_P _ _ _ zt.heap; rw [zh]; exact hP⟩, hS.F zh⟩) hS.2.2 dX2_bound_37

theorem wd_c_X2_block_X2_block_0 : Cond.fieldLink RX2 69 "PointTreesModel" "thrown" "I" ∈ wsX2_block := by decide +kernel
theorem wd_c_X2_block_X2_block_1 : Cond.fieldLink RX2 33 "PointTreesModel" "manys" "[I" ∈ wsX2_block := by decide +kernel
theorem wd_c_X2_block_X2_block_2 : Cond.fieldLink RX2 36 "PointTreesModel" "others" "[I" ∈ wsX2_block := by decide +kernel
theorem wd_c_X2_block_X2_block_3 : Cond.fieldLink RX2 39 "PointTreesModel" "depths" "[I" ∈ wsX2_block := by decide +kernel
theorem iw_c_X2_block_wsX20 : ∀ w ∈ wsX20, w ∈ wsX2_block := fun _ h => List.mem_cons_of_mem _ (List.mem_append_right _ h)
set_option maxHeartbeats 4000000 in
set_option maxRecDepth 100000 in
theorem c_X2_block (l : Launch) (dC : Nat → ClassId) (dI : Nat → Nat → Nat) (a : Nat → Nat) (c : Nat → ClassId) (F : Nat → Int32) (A : Nat → Nat → Int32) (sz : Nat) (nb : Nat) (h8 : F 8 = nI nb) (hnb : nb ≤ 31) (mn : Nat → Nat) (hmn : ∀ b, b < nb → A 10 b = nI (mn b) ∧ mn b ≤ 64) (k x : Int32) : Met l yX2_block wsX2_block (pt_rm 1) (pt_W (dC, dI) vwCl (pt_mt c) (pt_mw a c F A) pt_nw sz [.ref (a 0), .int k, .int x]) (va_Qi (fun (r : Int32) (u : pt_MS) => ((¬ pt_in nb (fun _ => True) k ∧ r = -1) ∨ ∃ b, b < nb ∧ k = nI b ∧ ((x = nI 0 ∧ pt_B r (4 < mn b)) ∨ (x = nI 1 ∧ r = nI (mn b)) ∨ (x = nI 2 ∧ r = A 11 b) ∨ (x = nI 3 ∧ r = A 12 b) ∨ (¬ pt_in 4 (fun _ => True) x ∧ r = -2))) ∧ u = ((upd F 0 (nI 0)), A)) (fun u t => va_P (dC, dI) vwCl (pt_mw a c u.1 u.2) t.heap) (va_A (pt_mw a c F A) sz)) 0 0 (va_A (pt_mw a c F A) sz) := by
  refine Met.ofW (cc := cX2_block) (maxL := 3) (ret := (some .int)) (by decide) rfl ?_
  intro p e s m args below meth cd s₁ B hml hv
  obtain ⟨rfl, hsz, hP, hK, hN, hD0⟩ := hv
  have hx := B.exec
  have hb := B.bytes
  have hr := B.returns
  have hts := atoms_spec (ws := wsX2_block) B.pre
  have hown : s.vm.findClass RX2 = some m.cls := findClass_of_methodNamed B.named
  have hlocks := B.notSynchronized
  subst hsz
  have hD := hD0.self (sz := s.heap.size)
  generalize hAe : va_A (pt_mw a c F A) s.heap.size = AA at hD ⊢
  have hA : ∀ q : Nat, s.heap.size ≤ q → AA q := fun q h => by rw [← hAe]; exact Or.inr h
  have hS : va_S AA s.heap s.heap [] := va_S.rf
  have hl := lv_entry ([.ref (a 0), .int k, .int x]) (n := 3) (Nat.le_of_ble_eq_true rfl)
  rw [lg_entry_eq]
  generalize (lg_sl ([.ref (a 0), .int k, .int x]) ++ List.replicate (3 - (lg_sl ([.ref (a 0), .int k, .int x])).length) Slot.unset).toArray = ls at hl ⊢
  have hl : lv_has ls 3 [(0, .ref (a 0)), (1, .int k), (2, .int x)] := hl
  refine lv_aload_n hx hb dX2_block_0 rfl (lv_at hl 0 rfl) ?_
  refine lv_iconst (v := nI 0) hx hb dX2_block_1 (by decide) ?_
  obtain ⟨F1, eF1⟩ : ∃ zz, zz = upd F 0 (nI 0) := ⟨_, rfl⟩
  refine va_put (D := (dC, dI)) (ci := 2) (v := .int (nI 0)) (ty := .int) (C := RX2) (T := TX2) (N := 27) hx hb hts iw_c_X2_block_wsX20 tyX2 tyX2_ok nmX2 hown hK hP hD hS 0 rfl rfl 0 (by decide) (hts _ wd_c_X2_block_X2_block_0) (fun _ h9 => h9) rfl (by decide +kernel) rfl rfl (Nat.le_of_ble_eq_true rfl) dX2_block_2 (fun H locs hP hD hS => ?_)
  have hP : va_P (dC, dI) vwCl (pt_mw a c F1 A) H := by rw [eF1]; exact hP
  have hD : va_D AA (pt_mw a c F1 A) := by rw [eF1]; exact hD
  have kF1_8 : F1 8 = nI nb := by rw [eF1, pt_upd_ne (by decide)]; exact h8
  have kF1_0 : F1 0 = nI 0 := by rw [eF1, pt_upd]
  refine lv_aload_n hx hb dX2_block_5 rfl (lv_at hl 0 rfl) ?_
  refine lv_iload_n hx hb dX2_block_6 rfl (lv_at hl 1 rfl) ?_
  refine pt_rdi (va_runV (As := [.int k]) (rest := []) ⟨hx, hb, hml, hown, hts⟩ (c_X2_isBlock l dC dI a c F1 A nb kF1_8 hnb k) (cwV 1 hts gX2_block_X2_isBlock rfl rfl rfl (by decide +kernel) ⟨Nat.le_of_ble_eq_true rfl, Nat.le_of_ble_eq_true rfl⟩) (pt_pv2 hP hK hN (q0 := 0) rfl) rfl rfl hl.1 rfl (lv_room (Nat.le_of_ble_eq_true rfl)) dX2_block_7 ⟨Nat.le_of_ble_eq_true rfl, Nat.le_of_ble_eq_true rfl⟩) (fun r7 hr7 => ?_)
  refine lv_if_ne (tgt := 15) hx hb dX2_block_10 (by decide) (fun c10 => ?_) (fun c10 => ?_)
  · have d10 := hr7.t c10
    obtain ⟨b, hb2, ek, _⟩ := d10
    subst ek
    have hmb := hmn b hb2
    refine lv_iload_n hx hb dX2_block_15 rfl (lv_at hl 2 rfl) ?_
    by_cases cx : x < 0 ∨ nI 4 ≤ x
    · refine lv_tableOut (tgt := 85) hx hb dX2_block_16 (pt_sw_out (n := 4) (by decide) cx) (by decide) ?_
      refine lv_bipush (v := (-2)) hx hb dX2_block_85 (by decide) ?_
      exact W.iret (v := (-2)) hx hb hr (fun zt zh zW => ⟨⟨_, (F1, A), rfl, ⟨Or.inr ⟨b, hb2, rfl, Or.inr (Or.inr (Or.inr (Or.inr ⟨fun q => cx.elim (fun h => pt_in_lo h (by decide) q) (fun h => pt_in_hi h (by decide) q), rfl⟩)))⟩, by rw [eF1]⟩, by show va_P _ _ _ zt.heap; rw [zh]; exact hP⟩, hS.F zh⟩) hS.2.2 dX2_block_87
    · obtain ⟨j, hj, ej⟩ := pt_ix (n := 4) (fun q => cx (Or.inl q)) (fun q => cx (Or.inr q)) (by decide)
      subst ej
      rcases (show j = 0 ∨ j = 1 ∨ j = 2 ∨ j = 3 by omega) with rfl | rfl | rfl | rfl
      · refine lv_tableIn (tgt := 48) hx hb dX2_block_16 (by decide) (by decide) rfl (by decide) ?_
        refine lv_aload_n hx hb dX2_block_48 rfl (lv_at hl 0 rfl) ?_
        refine va_get (D := (dC, dI)) (ci := 2) (v := .ref (a 10)) (C := RX2) (T := TX2) (N := 27) hx hb hts iw_c_X2_block_wsX20 hown hK hP 0 rfl rfl 10 (by decide) (hts _ wd_c_X2_block_X2_block_1) (fun _ h9 => h9) rfl dX2_block_49 ?_
        refine lv_iload_n hx hb dX2_block_52 rfl (lv_at hl 1 rfl) ?_
        refine pt_iald hx hb hK hP 7 6 rfl rfl b rfl (by omega) (by decide) dX2_block_53 ?_
        refine pt_top (y := nI (mn b)) hmb.1 ?_
        refine lv_iconst (v := nI 4) hx hb dX2_block_54 (by decide) ?_
        refine lv_icmp_le (tgt := 62) hx hb dX2_block_55 (by decide) (fun c55 => ?_) (fun c55 => ?_)
        · have d55 : ¬ 4 < mn b := Nat.not_lt.mpr ((nI_leI (by omega) (by omega)).mp c55)
          refine lv_iconst (v := 0) hx hb dX2_block_62 (by decide) ?_
          exact W.iret (v := 0) hx hb hr (fun zt zh zW => ⟨⟨_, (F1, A), rfl, ⟨Or.inr ⟨b, hb2, rfl, Or.inl ⟨rfl, by first | exact pt_B.one d55 | exact pt_B.zero d55⟩⟩, by rw [eF1]⟩, by show va_P _ _ _ zt.heap; rw [zh]; exact hP⟩, hS.F zh⟩) hS.2.2 dX2_block_63
        · have d55 : 4 < mn b := Nat.not_le.mp (fun q => c55 ((nI_leI (by omega) (by omega)).mpr q))
          refine lv_iconst (v := 1) hx hb dX2_block_58 (by decide) ?_
          refine lv_goto (tgt := 63) hx hb dX2_block_59 (by decide) ?_
          exact W.iret (v := 1) hx hb hr (fun zt zh zW => ⟨⟨_, (F1, A), rfl, ⟨Or.inr ⟨b, hb2, rfl, Or.inl ⟨rfl, by first | exact pt_B.one d55 | exact pt_B.zero d55⟩⟩, by rw [eF1]⟩, by show va_P _ _ _ zt.heap; rw [zh]; exact hP⟩, hS.F zh⟩) hS.2.2 dX2_block_63
      · refine lv_tableIn (tgt := 64) hx hb dX2_block_16 (by decide) (by decide) rfl (by decide) ?_
        refine lv_aload_n hx hb dX2_block_64 rfl (lv_at hl 0 rfl) ?_
        refine va_get (D := (dC, dI)) (ci := 2) (v := .ref (a 10)) (C := RX2) (T := TX2) (N := 27) hx hb hts iw_c_X2_block_wsX20 hown hK hP 0 rfl rfl 10 (by decide) (hts _ wd_c_X2_block_X2_block_1) (fun _ h9 => h9) rfl dX2_block_65 ?_
        refine lv_iload_n hx hb dX2_block_68 rfl (lv_at hl 1 rfl) ?_
        refine pt_iald hx hb hK hP 7 6 rfl rfl b rfl (by omega) (by decide) dX2_block_69 ?_
        refine pt_top (y := nI (mn b)) hmb.1 ?_
        exact W.iret (v := nI (mn b)) hx hb hr (fun zt zh zW => ⟨⟨_, (F1, A), rfl, ⟨Or.inr ⟨b, hb2, rfl, Or.inr (Or.inl ⟨rfl, rfl⟩)⟩, by rw [eF1]⟩, by show va_P _ _ _ zt.heap; rw [zh]; exact hP⟩, hS.F zh⟩) hS.2.2 dX2_block_70
      · refine lv_tableIn (tgt := 71) hx hb dX2_block_16 (by decide) (by decide) rfl (by decide) ?_
        refine lv_aload_n hx hb dX2_block_71 rfl (lv_at hl 0 rfl) ?_
        refine va_get (D := (dC, dI)) (ci := 2) (v := .ref (a 11)) (C := RX2) (T := TX2) (N := 27) hx hb hts iw_c_X2_block_wsX20 hown hK hP 0 rfl rfl 11 (by decide) (hts _ wd_c_X2_block_X2_block_2) (fun _ h9 => h9) rfl dX2_block_72 ?_
        refine lv_iload_n hx hb dX2_block_75 rfl (lv_at hl 1 rfl) ?_
        refine pt_iald hx hb hK hP 8 7 rfl rfl b rfl (by omega) (by decide) dX2_block_76 ?_
        exact W.iret (v := (A 11 b)) hx hb hr (fun zt zh zW => ⟨⟨_, (F1, A), rfl, ⟨Or.inr ⟨b, hb2, rfl, Or.inr (Or.inr (Or.inl ⟨rfl, rfl⟩))⟩, by rw [eF1]⟩, by show va_P _ _ _ zt.heap; rw [zh]; exact hP⟩, hS.F zh⟩) hS.2.2 dX2_block_77
      · refine lv_tableIn (tgt := 78) hx hb dX2_block_16 (by decide) (by decide) rfl (by decide) ?_
        refine lv_aload_n hx hb dX2_block_78 rfl (lv_at hl 0 rfl) ?_
        refine va_get (D := (dC, dI)) (ci := 2) (v := .ref (a 12)) (C := RX2) (T := TX2) (N := 27) hx hb hts iw_c_X2_block_wsX20 hown hK hP 0 rfl rfl 12 (by decide) (hts _ wd_c_X2_block_X2_block_3) (fun _ h9 => h9) rfl dX2_block_79 ?_
        refine lv_iload_n hx hb dX2_block_82 rfl (lv_at hl 1 rfl) ?_
        refine pt_iald hx hb hK hP 9 8 rfl rfl b rfl (by omega) (by decide) dX2_block_83 ?_
        exact W.iret (v := (A 12 b)) hx hb hr (fun zt zh zW => ⟨⟨_, (F1, A), rfl, ⟨Or.inr ⟨b, hb2, rfl, Or.inr (Or.inr (Or.inr (Or.inl ⟨rfl, rfl⟩)))⟩, by rw [eF1]⟩, by show va_P _ _ _ zt.heap; rw [zh]; exact hP⟩, hS.F zh⟩) hS.2.2 dX2_block_84
  · have d10 := hr7.f c10
    refine lv_iconst (v := (-1)) hx hb dX2_block_13 (by decide) ?_
    exact W.iret (v := (-1)) hx hb hr (fun zt zh zW => ⟨⟨_, (F1, A), rfl, ⟨Or.inl ⟨d10, rfl⟩, by rw [eF1]⟩, by show va_P _ _ _ zt.heap; rw [zh]; exact hP⟩, hS.F zh⟩) hS.2.2 dX2_block_14
