theorem iw_c_X1_makeBlock_0_wsX10 : ∀ w ∈ wsX10, w ∈ wsX1_makeBlock := fun _ h => List.mem_cons_of_mem _ (List.mem_append_left _ (List.mem_append_right _ h))
theorem iw_c_X1_makeBlock_0_wsX00 : ∀ w ∈ wsX00, w ∈ wsX1_makeBlock := fun _ h => List.mem_cons_of_mem _ (List.mem_append_right _ h)
set_option maxHeartbeats 4000000 in
set_option maxRecDepth 100000 in
theorem c_X1_makeBlock_0 (l : Launch) (dC : Nat → ClassId) (dI : Nat → Nat → Nat) (a : Nat → Nat) (c : Nat → ClassId) (F : Nat → Int32) (A : Nat → Nat → Int32) (Q : Nat → Int64) (sz : Nat) (f t d : Nat) (hft : t ≤ f) (hf : f ≤ 64) : Met l yX1_makeBlock wsX1_makeBlock (pt_rm 0) (pt_W (dC, dI) vwCl (pt_xt c) (pt_xw a c F A Q) pt_nw sz [.ref (a 0), .int (nI f), .int (nI t), .int (nI d)]) (va_Qv (fun (u : pt_XS) => u = (F, A, Q)) (fun u t => va_P (dC, dI) vwCl (pt_xw a c u.1 u.2.1 u.2.2) t.heap) (va_A (pt_xw a c F A Q) sz)) 0 0 (va_A (pt_xw a c F A Q) sz) := by
  refine Met.ofW (cc := cX1_makeBlock) (maxL := 6) (ret := none) (by decide) rfl ?_
  intro p e s m args below meth cd s₁ B hml hv
  obtain ⟨rfl, hsz, hP, hK, hN, hD0⟩ := hv
  have hx := B.exec
  have hb := B.bytes
  have hr := B.returns
  have hts := atoms_spec (ws := wsX1_makeBlock) B.pre
  have hown : s.vm.findClass RX1 = some m.cls := findClass_of_methodNamed B.named
  have hlocks := B.notSynchronized
  subst hsz
  have hD := hD0.self (sz := s.heap.size)
  generalize hAe : va_A (pt_xw a c F A Q) s.heap.size = AA at hD ⊢
  have hA : ∀ q : Nat, s.heap.size ≤ q → AA q := fun q h => by rw [← hAe]; exact Or.inr h
  have hS : va_S AA s.heap s.heap [] := va_S.rf
  have hl := lv_entry ([.ref (a 0), .int (nI f), .int (nI t), .int (nI d)]) (n := 6) (Nat.le_of_ble_eq_true rfl)
  rw [lg_entry_eq]
  generalize (lg_sl ([.ref (a 0), .int (nI f), .int (nI t), .int (nI d)]) ++ List.replicate (6 - (lg_sl ([.ref (a 0), .int (nI f), .int (nI t), .int (nI d)])).length) Slot.unset).toArray = ls at hl ⊢
  have hl : lv_has ls 6 [(0, .ref (a 0)), (1, .int (nI f)), (2, .int (nI t)), (3, .int (nI d))] := hl
  refine lv_iload_n hx hb dX1_makeBlock_0 rfl (lv_at hl 1 rfl) ?_
  refine lv_iload_n hx hb dX1_makeBlock_1 rfl (lv_at hl 2 rfl) ?_
  refine lv_icmp_ge (tgt := 19) hx hb dX1_makeBlock_2 (by decide) (fun c2 => ?_) (fun c2 => absurd (nI_le hft (by omega)) c2)
  exact W.vret hx hb hr (fun zt zh zW => ⟨⟨(F, A, Q), rfl, rfl, by show va_P _ _ _ zt.heap; rw [zh]; exact hP⟩, hS.F zh⟩) hS.2.2 dX1_makeBlock_19

/-- the things that are there, one behind the other -/
noncomputable def pt_ord (th : Nat → Prop) : Nat → (Nat → Nat)
  | 0 => fun _ => 0
  | t + 1 => pt_if (th t) (va_up (pt_ord th t) (pt_cnt th t) t) (pt_ord th t)
/-- the tree of the things that are there -/
noncomputable def pt_tree (ax : Nat) (lo hi : Nat → Nat → Int32) (th : Nat → Prop) (md : Nat) : pt_TS := if pt_cnt th md = 0 then (0, pt_ord th md, fun _ _ => 0, fun _ _ _ => 0) else pt_mk ax lo hi 5 0 (pt_cnt th md) 0 (0, pt_ord th md, fun _ _ => 0, fun _ _ _ => 0)
theorem pt_ix13 {d : Int32} (h1 : ¬ d < nI 1) (h3 : d ≤ nI 3) : ∃ k, 1 ≤ k ∧ k ≤ 3 ∧ d = nI k := by
  rcases pk_ix d (n := 4) (by decide) with h | h | ⟨k, hk, e⟩
  · exact absurd (Int32.lt_trans h (by decide)) h1
  · exact absurd (Int32.le_trans h h3) (by decide)
  · refine ⟨k, ?_, by omega, e⟩
    rcases k with _ | k
    · exact absurd (by rw [e]; decide) h1
    · omega

theorem pt_row_add {n md v : Nat} {od : Nat → Nat} {r : Nat → Int32} (h : pt_row n md od r) (hv : v < md) : pt_row (n + 1) md (va_up od n v) (upd r n (nI v)) := by
  intro k hk
  by_cases q : k = n
  · subst q; rw [pt_upd, pt_up]; exact ⟨rfl, hv⟩
  · rw [pt_upd_ne q, pt_up_ne q]; exact h k (by omega)

theorem wd_c_X1_build_X1_build_0 : Cond.fieldLink RX1 66 "PointTrees" "blocks" "I" ∈ wsX1_build := by decide +kernel
theorem wd_c_X1_build_X1_build_1 : Cond.fieldLink RX1 60 "PointTrees" "made" "I" ∈ wsX1_build := by decide +kernel
theorem wd_c_X1_build_X1_build_2 : Cond.fieldLink RX1 69 "PointTrees" "firstLoose" "I" ∈ wsX1_build := by decide +kernel
theorem wd_c_X1_build_X1_build_3 : Cond.fieldLink RX1 15 "PointTrees" "isThere" "[Z" ∈ wsX1_build := by decide +kernel
theorem wd_c_X1_build_X1_build_4 : Cond.fieldLink RX1 28 "PointTrees" "order" "[I" ∈ wsX1_build := by decide +kernel
theorem iw_c_X1_build_wsX10 : ∀ w ∈ wsX10, w ∈ wsX1_build := fun _ h => List.mem_cons_of_mem _ (List.mem_append_left _ (List.mem_append_right _ h))
theorem iw_c_X1_build_wsX00 : ∀ w ∈ wsX00, w ∈ wsX1_build := fun _ h => List.mem_cons_of_mem _ (List.mem_append_right _ h)
set_option maxHeartbeats 4000000 in
set_option maxRecDepth 100000 in
theorem c_X1_build (l : Launch) (dC : Nat → ClassId) (dI : Nat → Nat → Nat) (a : Nat → Nat) (c : Nat → ClassId) (F : Nat → Int32) (A : Nat → Nat → Int32) (Q : Nat → Int64) (sz : Nat) (ax : Nat) (h0 : F 0 = nI ax) (hax1 : 1 ≤ ax) (hax : ax ≤ 3) (md : Nat) (h1 : F 1 = nI md) (hmd : md ≤ 64) (lo hi : Nat → Nat → Int32) (hB : pt_XB ax md lo hi (A 4)) : Met l yX1_build wsX1_build (pt_rm 10) (pt_W (dC, dI) vwCl (pt_xt c) (pt_xw a c F A Q) pt_nw sz [.ref (a 0)]) (va_Qi (fun (r : Int32) (u : pt_XS) => r = nI (pt_tree ax lo hi (fun t => ¬ A 3 t = 0) md).1 ∧ pt_XT ax (pt_cnt (fun t => ¬ A 3 t = 0) md) md (pt_tree ax lo hi (fun t => ¬ A 3 t = 0) md) u.1 u.2.1 ∧ u.1 6 = nI md ∧ (∀ j, j ≠ 5 → j ≠ 6 → u.1 j = F j) ∧ (∀ j, j < 7 ∨ 12 < j → u.2.1 j = A j) ∧ u.2.2 = Q) (fun u t => va_P (dC, dI) vwCl (pt_xw a c u.1 u.2.1 u.2.2) t.heap) (va_A (pt_xw a c F A Q) sz)) 0 0 (va_A (pt_xw a c F A Q) sz) := by
  refine Met.ofW (cc := cX1_build) (maxL := 3) (ret := (some .int)) (by decide) rfl ?_
  intro p e s m args below meth cd s₁ B hml hv
  obtain ⟨rfl, hsz, hP, hK, hN, hD0⟩ := hv
  have hx := B.exec
  have hb := B.bytes
  have hr := B.returns
  have hts := atoms_spec (ws := wsX1_build) B.pre
  have hown : s.vm.findClass RX1 = some m.cls := findClass_of_methodNamed B.named
  have hlocks := B.notSynchronized
  subst hsz
  have hD := hD0.self (sz := s.heap.size)
  generalize hAe : va_A (pt_xw a c F A Q) s.heap.size = AA at hD ⊢
  have hA : ∀ q : Nat, s.heap.size ≤ q → AA q := fun q h => by rw [← hAe]; exact Or.inr h
  have hS : va_S AA s.heap s.heap [] := va_S.rf
  have hl := lv_entry ([.ref (a 0)]) (n := 3) (Nat.le_of_ble_eq_true rfl)
  rw [lg_entry_eq]
  generalize (lg_sl ([.ref (a 0)]) ++ List.replicate (3 - (lg_sl ([.ref (a 0)])).length) Slot.unset).toArray = ls at hl ⊢
  have hl : lv_has ls 3 [(0, .ref (a 0))] := hl
  refine lv_aload_n hx hb dX1_build_0 rfl (lv_at hl 0 rfl) ?_
  refine lv_iconst (v := nI 0) hx hb dX1_build_1 (by decide) ?_
  obtain ⟨F1, eF1⟩ : ∃ zz, zz = upd F 5 (nI 0) := ⟨_, rfl⟩
  refine va_put (D := (dC, dI)) (ci := 1) (v := .int (nI 0)) (ty := .int) (C := RX1) (T := TX1) (N := 18) hx hb hts iw_c_X1_build_wsX10 tyX1 tyX1_ok nmX1 hown hK hP hD hS 0 rfl rfl 5 (by decide) (hts _ wd_c_X1_build_X1_build_0) (fun _ h9 => h9) rfl (by decide +kernel) rfl rfl (Nat.le_of_ble_eq_true rfl) dX1_build_2 (fun H locs hP hD hS => ?_)
  have hP : va_P (dC, dI) vwCl (pt_xw a c F1 A Q) H := by rw [eF1]; exact hP
  have hD : va_D AA (pt_xw a c F1 A Q) := by rw [eF1]; exact hD
  have kF1_0 : F1 0 = nI ax := by rw [eF1, pt_upd_ne (by decide)]; exact h0
  have kF1_1 : F1 1 = nI md := by rw [eF1, pt_upd_ne (by decide)]; exact h1
  have kF1_5 : F1 5 = nI 0 := by rw [eF1, pt_upd]
  refine lv_aload_n hx hb dX1_build_5 rfl (lv_at hl 0 rfl) ?_
  refine lv_aload_n hx hb dX1_build_6 rfl (lv_at hl 0 rfl) ?_
  refine va_get (D := (dC, dI)) (ci := 1) (v := .int (F1 1)) (C := RX1) (T := TX1) (N := 18) hx hb hts iw_c_X1_build_wsX10 hown hK hP 0 rfl rfl 1 (by decide) (hts _ wd_c_X1_build_X1_build_1) (fun _ h9 => h9) rfl dX1_build_7 ?_
  refine pt_top (y := nI md) kF1_1 ?_
  obtain ⟨F2, eF2⟩ : ∃ zz, zz = upd F1 6 (nI md) := ⟨_, rfl⟩
  refine va_put (D := (dC, dI)) (ci := 1) (v := .int (nI md)) (ty := .int) (C := RX1) (T := TX1) (N := 18) hx hb hts iw_c_X1_build_wsX10 tyX1 tyX1_ok nmX1 hown hK hP hD hS 0 rfl rfl 6 (by decide) (hts _ wd_c_X1_build_X1_build_2) (fun _ h9 => h9) rfl (by decide +kernel) rfl rfl (Nat.le_of_ble_eq_true rfl) dX1_build_10 (fun H locs hP hD hS => ?_)
  have hP : va_P (dC, dI) vwCl (pt_xw a c F2 A Q) H := by rw [eF2]; exact hP
  have hD : va_D AA (pt_xw a c F2 A Q) := by rw [eF2]; exact hD
  have kF2_0 : F2 0 = nI ax := by rw [eF2, pt_upd_ne (by decide)]; exact kF1_0
  have kF2_1 : F2 1 = nI md := by rw [eF2, pt_upd_ne (by decide)]; exact kF1_1
  have kF2_5 : F2 5 = nI 0 := by rw [eF2, pt_upd_ne (by decide)]; exact kF1_5
  have kF2_6 : F2 6 = nI md := by rw [eF2, pt_upd]
  refine lv_iconst (v := nI 0) hx hb dX1_build_13 (by decide) ?_
  refine lv_istore_n (lv' := [(1, .int (nI 0)), (0, .ref (a 0))]) hx hb dX1_build_14 rfl hl (by decide) rfl (fun ls hl => ?_)
  refine lv_iconst (v := nI 0) hx hb dX1_build_15 (by decide) ?_
  refine lv_istore_n (lv' := [(2, .int (nI 0)), (1, .int (nI 0)), (0, .ref (a 0))]) hx hb dX1_build_16 rfl hl (by decide) rfl (fun ls hl => ?_)
  refine pt_loopW (fun q : Nat × (Nat → Nat → Int32) => md - q.1) (fun q ls H locs => q.1 ≤ md ∧ (pt_row (pt_cnt (fun t => ¬ A 3 t = 0) q.1) md (pt_ord (fun t => ¬ A 3 t = 0) q.1) (q.2 7) ∧ ∀ j, j ≠ 7 → q.2 j = A j) ∧ va_P (dC, dI) vwCl (pt_xw a c F2 q.2 Q) H ∧ va_D AA (pt_xw a c F2 q.2 Q) ∧ va_S AA s.heap H locs ∧ lv_has ls 3 [(2, .int (nI q.1)), (1, .int (nI (pt_cnt (fun t => ¬ A 3 t = 0) q.1))), (0, .ref (a 0))]) ?_ (0, A) _ _ _ ⟨Nat.zero_le _, ⟨fun k hk => absurd hk (Nat.not_lt_zero _), fun _ _ => rfl⟩, hP, hD, hS, hl⟩
  intro ⟨i, Ai⟩ ls H locs ⟨hii, ⟨hri, hsi⟩, hP, hD, hS, hl⟩ ih
  dsimp only at hii hri hsi hP hD hl ih
  have hci := pt_cnt_le (fun t => ¬ A 3 t = 0) i
  refine lv_iload_n hx hb dX1_build_17 rfl (lv_at hl 0 rfl) ?_
  refine lv_aload_n hx hb dX1_build_18 rfl (lv_at hl 2 rfl) ?_
  refine va_get (D := (dC, dI)) (ci := 1) (v := .int (F2 1)) (C := RX1) (T := TX1) (N := 18) hx hb hts iw_c_X1_build_wsX10 hown hK hP 0 rfl rfl 1 (by decide) (hts _ wd_c_X1_build_X1_build_1) (fun _ h9 => h9) rfl dX1_build_19 ?_
  refine pt_top (y := nI md) kF2_1 ?_
  refine lv_icmp_ge (tgt := 50) hx hb dX1_build_22 (by decide) (fun c22 => ?_) (fun c22 => ?_)
  · have hie : i = md := by have := (nI_leI (by omega) (by omega)).mp c22; omega
    rw [hie] at hri hci hl
    refine lv_aload_n hx hb dX1_build_50 rfl (lv_at hl 2 rfl) ?_
    refine lv_iconst (v := nI 0) hx hb dX1_build_51 (by decide) ?_
    refine lv_iload_n hx hb dX1_build_52 rfl (lv_at hl 1 rfl) ?_
    refine lv_iconst (v := nI 0) hx hb dX1_build_53 (by decide) ?_
    have hsi5 : pt_XT ax (pt_cnt (fun t => ¬ A 3 t = 0) md) md (0, pt_ord (fun t => ¬ A 3 t = 0) md, fun _ _ => 0, fun _ _ _ => 0) F2 Ai := ⟨kF2_5, hri, fun b hb => absurd hb (Nat.not_lt_zero _)⟩
    have hBi : pt_XB ax md lo hi (Ai 4) := by rw [hsi 4 (by decide)]; exact hB
    have hFo : ∀ j, j ≠ 5 → j ≠ 6 → F2 j = F j := fun j j1 j2 => by rw [eF2, pt_upd_ne j2, eF1, pt_upd_ne j1]
    by_cases hn0 : pt_cnt (fun t => ¬ A 3 t = 0) md = 0
    · refine pt_callv (wf := (fun u : pt_XS => pt_xw a c u.1 u.2.1 u.2.2)) (va_runV (As := [.int (nI 0), .int (nI (pt_cnt (fun t => ¬ A 3 t = 0) md)), .int (nI 0)]) (rest := []) ⟨hx, hb, hml, hown, hts⟩ (c_X1_makeBlock_0 l dC dI a c F2 Ai Q _ 0 (pt_cnt (fun t => ¬ A 3 t = 0) md) 0 (by omega) (by decide)) (cwV 3 hts gX1_build_X1_makeBlock rfl rfl rfl (by decide +kernel) ⟨Nat.le_of_ble_eq_true rfl, Nat.le_of_ble_eq_true rfl⟩) (pt_wv1 hP hK hN hD (q0 := 0) rfl) rfl rfl hl.1 rfl (lv_room (Nat.le_of_ble_eq_true rfl)) dX1_build_54 ⟨Nat.le_of_ble_eq_true rfl, Nat.le_of_ble_eq_true rfl⟩) hD hS hA (fun _ => rfl) (fun u54 H locs hr54 hP hD hS => ?_)
      subst hr54
      have et : (pt_tree ax lo hi (fun t => ¬ A 3 t = 0) md) = (0, pt_ord (fun t => ¬ A 3 t = 0) md, fun _ _ => 0, fun _ _ _ => 0) := if_pos hn0
      have et5 : F2 5 = nI (pt_tree ax lo hi (fun t => ¬ A 3 t = 0) md).1 := by rw [et]; exact kF2_5
      dsimp only at hP hD
      have hT9 : pt_XT ax (pt_cnt (fun t => ¬ A 3 t = 0) md) md (pt_tree ax lo hi (fun t => ¬ A 3 t = 0) md) F2 Ai := by rw [et]; exact hsi5
      have h69 : F2 6 = nI md := kF2_6
      have hFo9 := hFo
      have hAo9 : ∀ j, j < 7 ∨ 12 < j → Ai j = A j := fun j hj => hsi j (by omega)
      have hQ9 : Q = Q := rfl
      refine lv_aload_n hx hb dX1_build_57 rfl (lv_at hl 2 rfl) ?_
      refine va_get (D := (dC, dI)) (ci := 1) (v := .int (F2 5)) (C := RX1) (T := TX1) (N := 18) hx hb hts iw_c_X1_build_wsX10 hown hK hP 0 rfl rfl 5 (by decide) (hts _ wd_c_X1_build_X1_build_0) (fun _ h9 => h9) rfl dX1_build_58 ?_
      refine pt_top (y := nI ((pt_tree ax lo hi (fun t => ¬ A 3 t = 0) md).1)) et5 ?_
      exact W.iret (v := nI ((pt_tree ax lo hi (fun t => ¬ A 3 t = 0) md).1)) hx hb hr (fun zt zh zW => ⟨⟨_, (F2, Ai, Q), rfl, ⟨rfl, hT9, h69, hFo9, hAo9, hQ9⟩, by show va_P _ _ _ zt.heap; rw [zh]; exact hP⟩, hS.F zh⟩) hS.2.2 dX1_build_61
    · refine pt_callv (wf := (fun u : pt_XS => pt_xw a c u.1 u.2.1 u.2.2)) (va_runV (As := [.int (nI 0), .int (nI (pt_cnt (fun t => ¬ A 3 t = 0) md)), .int (nI 0)]) (rest := []) ⟨hx, hb, hml, hown, hts⟩ (c_X1_makeBlock l dC dI a c ax (pt_cnt (fun t => ¬ A 3 t = 0) md) md lo hi 5 (by decide) F2 Ai Q _ 0 (pt_cnt (fun t => ¬ A 3 t = 0) md) 0 (0, pt_ord (fun t => ¬ A 3 t = 0) md, fun _ _ => 0, fun _ _ _ => 0) kF2_0 (by omega) (Nat.le_refl _) (by omega) hmd hax1 hax rfl (by show _ ≤ 64; omega) (by show 0 + 2 ^ 5 ≤ 32; decide) hsi5 hBi) (cwV 3 hts gX1_build_X1_makeBlock rfl rfl rfl (by decide +kernel) ⟨Nat.le_of_ble_eq_true rfl, Nat.le_of_ble_eq_true rfl⟩) (pt_wv1 hP hK hN hD (q0 := 0) rfl) rfl rfl hl.1 rfl (lv_room (Nat.le_of_ble_eq_true rfl)) dX1_build_54 ⟨Nat.le_of_ble_eq_true rfl, Nat.le_of_ble_eq_true rfl⟩) hD hS hA (fun _ => rfl) (fun u54 H locs hr54 hP hD hS => ?_)
      obtain ⟨F4, A4, Q4⟩ := u54
      obtain ⟨hT8, hfM, haM, hQ9⟩ := hr54
      dsimp only at hT8 hfM haM hQ9 hP hD
      have et : (pt_tree ax lo hi (fun t => ¬ A 3 t = 0) md) = pt_mk ax lo hi 5 0 (pt_cnt (fun t => ¬ A 3 t = 0) md) 0 (0, pt_ord (fun t => ¬ A 3 t = 0) md, fun _ _ => 0, fun _ _ _ => 0) := if_neg hn0
      have hT9 : pt_XT ax (pt_cnt (fun t => ¬ A 3 t = 0) md) md (pt_tree ax lo hi (fun t => ¬ A 3 t = 0) md) F4 A4 := by rw [et]; exact hT8
      have h69 : F4 6 = nI md := (hfM 6 (by decide)).trans kF2_6
      have hFo9 : ∀ j, j ≠ 5 → j ≠ 6 → F4 j = F j := fun j j1 j2 => (hfM j j1).trans (hFo j j1 j2)
      have hAo9 : ∀ j, j < 7 ∨ 12 < j → A4 j = A j := fun j hj => (haM j hj).trans (hsi j (by omega))
      refine lv_aload_n hx hb dX1_build_57 rfl (lv_at hl 2 rfl) ?_
      refine va_get (D := (dC, dI)) (ci := 1) (v := .int (F4 5)) (C := RX1) (T := TX1) (N := 18) hx hb hts iw_c_X1_build_wsX10 hown hK hP 0 rfl rfl 5 (by decide) (hts _ wd_c_X1_build_X1_build_0) (fun _ h9 => h9) rfl dX1_build_58 ?_
      refine pt_top (y := nI ((pt_tree ax lo hi (fun t => ¬ A 3 t = 0) md).1)) hT9.1 ?_
      exact W.iret (v := nI ((pt_tree ax lo hi (fun t => ¬ A 3 t = 0) md).1)) hx hb hr (fun zt zh zW => ⟨⟨_, (F4, A4, Q4), rfl, ⟨rfl, hT9, h69, hFo9, hAo9, hQ9⟩, by show va_P _ _ _ zt.heap; rw [zh]; exact hP⟩, hS.F zh⟩) hS.2.2 dX1_build_61
  · have hlt : i < md := Nat.not_le.mp (fun q => c22 ((nI_leI (by omega) (by omega)).mpr q))
    refine lv_aload_n hx hb dX1_build_25 rfl (lv_at hl 2 rfl) ?_
    refine va_get (D := (dC, dI)) (ci := 1) (v := .ref (a 3)) (C := RX1) (T := TX1) (N := 18) hx hb hts iw_c_X1_build_wsX10 hown hK hP 0 rfl rfl 3 (by decide) (hts _ wd_c_X1_build_X1_build_3) (fun _ h9 => h9) rfl dX1_build_26 ?_
    refine lv_iload_n hx hb dX1_build_29 rfl (lv_at hl 0 rfl) ?_
    refine pt_zald hx hb hK hP 1 0 rfl rfl i rfl (by omega) (by decide) dX1_build_30 ?_
    refine lv_if_eq (tgt := 44) hx hb dX1_build_31 (by decide) (fun c31 => ?_) (fun c31 => ?_)
    · refine lv_iinc (v := nI (i + 1)) (lv' := [(2, .int (nI (i + 1))), (1, .int (nI (pt_cnt (fun t => ¬ A 3 t = 0) i))), (0, .ref (a 0))]) hx hb dX1_build_44 hl (k := 0) rfl (nI_1 _) (by decide) rfl (fun ls hl => ?_)
      refine lv_goto (tgt := 17) hx hb dX1_build_47 (by decide) ?_
      have d31 : ¬ (fun t => ¬ A 3 t = 0) i := fun q => q ((congrFun (hsi 3 (by decide)) i).symm.trans c31)
      have ec := pt_cnt_f (p := (fun t => ¬ A 3 t = 0)) d31
      have eo : pt_ord (fun t => ¬ A 3 t = 0) (i + 1) = pt_ord (fun t => ¬ A 3 t = 0) i := pt_if_f d31
      exact ih (i + 1, Ai) _ _ _ ⟨by show i + 1 ≤ md; omega, ⟨by show pt_row (pt_cnt _ (i + 1)) md (pt_ord _ (i + 1)) _; rw [ec, eo]; exact hri, hsi⟩, hP, hD, hS, by show lv_has ls 3 [(2, .int (nI (i + 1))), (1, .int (nI (pt_cnt _ (i + 1)))), _]; rw [ec]; exact lv_sub hl [0, 1, 2] rfl⟩ (by show md - (i + 1) < md - i; omega)
    · refine lv_aload_n hx hb dX1_build_34 rfl (lv_at hl 2 rfl) ?_
      refine va_get (D := (dC, dI)) (ci := 1) (v := .ref (a 7)) (C := RX1) (T := TX1) (N := 18) hx hb hts iw_c_X1_build_wsX10 hown hK hP 0 rfl rfl 7 (by decide) (hts _ wd_c_X1_build_X1_build_4) (fun _ h9 => h9) rfl dX1_build_35 ?_
      refine lv_iload_n hx hb dX1_build_38 rfl (lv_at hl 1 rfl) ?_
      refine lv_iload_n hx hb dX1_build_39 rfl (lv_at hl 0 rfl) ?_
      obtain ⟨A5, eA5⟩ : ∃ zz, zz = va_up Ai 7 (upd (Ai 7) (pt_cnt (fun t => ¬ A 3 t = 0) i) (nI i)) := ⟨_, rfl⟩
      refine pt_iast hx hb hK hP hD hS 4 2 rfl rfl (pt_cnt (fun t => ¬ A 3 t = 0) i) rfl (by omega) (by decide) (ws' := (pt_xw a c F2 A5 Q)) (by rw [eA5]; rfl) dX1_build_40 (fun H locs hP hD hS => ?_)
      refine lv_iinc (v := nI ((pt_cnt (fun t => ¬ A 3 t = 0) i) + 1)) (lv' := [(1, .int (nI ((pt_cnt (fun t => ¬ A 3 t = 0) i) + 1))), (2, .int (nI i)), (0, .ref (a 0))]) hx hb dX1_build_41 hl (k := 1) rfl (nI_1 _) (by decide) rfl (fun ls hl => ?_)
      refine lv_iinc (v := nI (i + 1)) (lv' := [(2, .int (nI (i + 1))), (1, .int (nI ((pt_cnt (fun t => ¬ A 3 t = 0) i) + 1))), (0, .ref (a 0))]) hx hb dX1_build_44 hl (k := 1) rfl (nI_1 _) (by decide) rfl (fun ls hl => ?_)
      refine lv_goto (tgt := 17) hx hb dX1_build_47 (by decide) ?_
      have d31 : (fun t => ¬ A 3 t = 0) i := fun q => c31 ((congrFun (hsi 3 (by decide)) i).trans q)
      have ec := pt_cnt_t (p := (fun t => ¬ A 3 t = 0)) d31
      have eo : pt_ord (fun t => ¬ A 3 t = 0) (i + 1) = va_up (pt_ord (fun t => ¬ A 3 t = 0) i) (pt_cnt (fun t => ¬ A 3 t = 0) i) i := pt_if_t d31
      exact ih (i + 1, A5) _ _ _ ⟨by show i + 1 ≤ md; omega, ⟨by show pt_row (pt_cnt _ (i + 1)) md (pt_ord _ (i + 1)) (A5 7); rw [ec, eo, eA5, pt_up]; exact pt_row_add hri (by omega), fun j hj => by show A5 j = A j; rw [eA5, pt_up_ne hj]; exact hsi j hj⟩, hP, hD, hS, by show lv_has ls 3 [(2, .int (nI (i + 1))), (1, .int (nI (pt_cnt _ (i + 1)))), _]; rw [ec]; exact lv_sub hl [0, 1, 2] rfl⟩ (by show md - (i + 1) < md - i; omega)

theorem wd_c_X1_dimensions_X1_dimensions_0 : Cond.fieldLink RX1 9 "PointTrees" "axes" "I" ∈ wsX1_dimensions := by decide +kernel
theorem wd_c_X1_dimensions_X1_dimensions_1 : Cond.fieldLink RX1 60 "PointTrees" "made" "I" ∈ wsX1_dimensions := by decide +kernel
theorem wd_c_X1_dimensions_X1_dimensions_2 : Cond.fieldLink RX1 63 "PointTrees" "present" "I" ∈ wsX1_dimensions := by decide +kernel
theorem wd_c_X1_dimensions_X1_dimensions_3 : Cond.fieldLink RX1 66 "PointTrees" "blocks" "I" ∈ wsX1_dimensions := by decide +kernel
theorem wd_c_X1_dimensions_X1_dimensions_4 : Cond.fieldLink RX1 69 "PointTrees" "firstLoose" "I" ∈ wsX1_dimensions := by decide +kernel
theorem iw_c_X1_dimensions_wsX10 : ∀ w ∈ wsX10, w ∈ wsX1_dimensions := fun _ h => List.mem_cons_of_mem _ (List.mem_append_right _ h)
set_option maxHeartbeats 4000000 in
set_option maxRecDepth 100000 in
theorem c_X1_dimensions (l : Launch) (dC : Nat → ClassId) (dI : Nat → Nat → Nat) (a : Nat → Nat) (c : Nat → ClassId) (F : Nat → Int32) (A : Nat → Nat → Int32) (Q : Nat → Int64) (sz : Nat) (d : Int32) : Met l yX1_dimensions wsX1_dimensions (pt_rm 1) (pt_W (dC, dI) vwCl (pt_xt c) (pt_xw a c F A Q) pt_nw sz [.ref (a 0), .int d]) (va_Qi (fun (r : Int32) (u : pt_XS) => ((∀ k, 1 ≤ k → k ≤ 3 → ¬ d = nI k) ∧ r = -2 ∧ u = (F, A, Q)) ∨ ∃ k, 1 ≤ k ∧ k ≤ 3 ∧ d = nI k ∧ r = F 0 ∧ u.1 0 = nI k ∧ u.1 1 = nI 0 ∧ u.1 2 = nI 0 ∧ u.1 5 = nI 0 ∧ u.1 6 = nI 0 ∧ pt_ask (fun _ => False) 0 u.1 u.2.1 ∧ (∀ x, x < 3 → u.2.1 16 x = nI 0)) (fun u t => va_P (dC, dI) vwCl (pt_xw a c u.1 u.2.1 u.2.2) t.heap) (va_A (pt_xw a c F A Q) sz)) 0 0 (va_A (pt_xw a c F A Q) sz) := by
  refine Met.ofW (cc := cX1_dimensions) (maxL := 3) (ret := (some .int)) (by decide) rfl ?_
  intro p e s m args below meth cd s₁ B hml hv
  obtain ⟨rfl, hsz, hP, hK, hN, hD0⟩ := hv
  have hx := B.exec
  have hb := B.bytes
  have hr := B.returns
  have hts := atoms_spec (ws := wsX1_dimensions) B.pre
  have hown : s.vm.findClass RX1 = some m.cls := findClass_of_methodNamed B.named
  have hlocks := B.notSynchronized
  subst hsz
  have hD := hD0.self (sz := s.heap.size)
  generalize hAe : va_A (pt_xw a c F A Q) s.heap.size = AA at hD ⊢
  have hA : ∀ q : Nat, s.heap.size ≤ q → AA q := fun q h => by rw [← hAe]; exact Or.inr h
  have hS : va_S AA s.heap s.heap [] := va_S.rf
  have hl := lv_entry ([.ref (a 0), .int d]) (n := 3) (Nat.le_of_ble_eq_true rfl)
  rw [lg_entry_eq]
  generalize (lg_sl ([.ref (a 0), .int d]) ++ List.replicate (3 - (lg_sl ([.ref (a 0), .int d])).length) Slot.unset).toArray = ls at hl ⊢
  have hl : lv_has ls 3 [(0, .ref (a 0)), (1, .int d)] := hl
  refine lv_iload_n hx hb dX1_dimensions_0 rfl (lv_at hl 1 rfl) ?_
  refine lv_iconst (v := nI 1) hx hb dX1_dimensions_1 (by decide) ?_
  refine lv_icmp_lt (tgt := 10) hx hb dX1_dimensions_2 (by decide) (fun c2 => ?_) (fun c2 => ?_)
  · refine lv_bipush (v := (-2)) hx hb dX1_dimensions_10 (by decide) ?_
    exact W.iret (v := (-2)) hx hb hr (fun zt zh zW => ⟨⟨_, (F, A, Q), rfl, (Or.inl ⟨fun k k1 k3 e => by subst e; first | exact c7 (nI_le k3 (by decide)) | exact nI_nlt k1 (by omega) c2, rfl, rfl⟩), by show va_P _ _ _ zt.heap; rw [zh]; exact hP⟩, hS.F zh⟩) hS.2.2 dX1_dimensions_12
  · refine lv_iload_n hx hb dX1_dimensions_5 rfl (lv_at hl 1 rfl) ?_
    refine lv_iconst (v := nI 3) hx hb dX1_dimensions_6 (by decide) ?_
    refine lv_icmp_le (tgt := 13) hx hb dX1_dimensions_7 (by decide) (fun c7 => ?_) (fun c7 => ?_)
    · obtain ⟨k, hk1, hk3, ek⟩ := pt_ix13 c2 c7
      subst ek
      refine lv_aload_n hx hb dX1_dimensions_13 rfl (lv_at hl 0 rfl) ?_
      refine va_get (D := (dC, dI)) (ci := 1) (v := .int (F 0)) (C := RX1) (T := TX1) (N := 18) hx hb hts iw_c_X1_dimensions_wsX10 hown hK hP 0 rfl rfl 0 (by decide) (hts _ wd_c_X1_dimensions_X1_dimensions_0) (fun _ h9 => h9) rfl dX1_dimensions_14 ?_
      refine lv_istore_n (lv' := [(2, .int (F 0)), (0, .ref (a 0)), (1, .int (nI k))]) hx hb dX1_dimensions_17 rfl hl (by decide) rfl (fun ls hl => ?_)
      refine lv_aload_n hx hb dX1_dimensions_18 rfl (lv_at hl 1 rfl) ?_
      refine lv_iload_n hx hb dX1_dimensions_19 rfl (lv_at hl 2 rfl) ?_
      obtain ⟨F1, eF1⟩ : ∃ zz, zz = upd F 0 (nI k) := ⟨_, rfl⟩
      refine va_put (D := (dC, dI)) (ci := 1) (v := .int (nI k)) (ty := .int) (C := RX1) (T := TX1) (N := 18) hx hb hts iw_c_X1_dimensions_wsX10 tyX1 tyX1_ok nmX1 hown hK hP hD hS 0 rfl rfl 0 (by decide) (hts _ wd_c_X1_dimensions_X1_dimensions_0) (fun _ h9 => h9) rfl (by decide +kernel) rfl rfl (Nat.le_of_ble_eq_true rfl) dX1_dimensions_20 (fun H locs hP hD hS => ?_)
      have hP : va_P (dC, dI) vwCl (pt_xw a c F1 A Q) H := by rw [eF1]; exact hP
      have hD : va_D AA (pt_xw a c F1 A Q) := by rw [eF1]; exact hD
      have kF1_0 : F1 0 = nI k := by rw [eF1, pt_upd]
      refine lv_aload_n hx hb dX1_dimensions_23 rfl (lv_at hl 1 rfl) ?_
      refine lv_iconst (v := nI 0) hx hb dX1_dimensions_24 (by decide) ?_
      obtain ⟨F2, eF2⟩ : ∃ zz, zz = upd F1 1 (nI 0) := ⟨_, rfl⟩
      refine va_put (D := (dC, dI)) (ci := 1) (v := .int (nI 0)) (ty := .int) (C := RX1) (T := TX1) (N := 18) hx hb hts iw_c_X1_dimensions_wsX10 tyX1 tyX1_ok nmX1 hown hK hP hD hS 0 rfl rfl 1 (by decide) (hts _ wd_c_X1_dimensions_X1_dimensions_1) (fun _ h9 => h9) rfl (by decide +kernel) rfl rfl (Nat.le_of_ble_eq_true rfl) dX1_dimensions_25 (fun H locs hP hD hS => ?_)
      have hP : va_P (dC, dI) vwCl (pt_xw a c F2 A Q) H := by rw [eF2]; exact hP
      have hD : va_D AA (pt_xw a c F2 A Q) := by rw [eF2]; exact hD
      have kF2_0 : F2 0 = nI k := by rw [eF2, pt_upd_ne (by decide)]; exact kF1_0
      have kF2_1 : F2 1 = nI 0 := by rw [eF2, pt_upd]
      refine lv_aload_n hx hb dX1_dimensions_28 rfl (lv_at hl 1 rfl) ?_
      refine lv_iconst (v := nI 0) hx hb dX1_dimensions_29 (by decide) ?_
      obtain ⟨F3, eF3⟩ : ∃ zz, zz = upd F2 2 (nI 0) := ⟨_, rfl⟩
      refine va_put (D := (dC, dI)) (ci := 1) (v := .int (nI 0)) (ty := .int) (C := RX1) (T := TX1) (N := 18) hx hb hts iw_c_X1_dimensions_wsX10 tyX1 tyX1_ok nmX1 hown hK hP hD hS 0 rfl rfl 2 (by decide) (hts _ wd_c_X1_dimensions_X1_dimensions_2) (fun _ h9 => h9) rfl (by decide +kernel) rfl rfl (Nat.le_of_ble_eq_true rfl) dX1_dimensions_30 (fun H locs hP hD hS => ?_)
      have hP : va_P (dC, dI) vwCl (pt_xw a c F3 A Q) H := by rw [eF3]; exact hP
      have hD : va_D AA (pt_xw a c F3 A Q) := by rw [eF3]; exact hD
      have kF3_0 : F3 0 = nI k := by rw [eF3, pt_upd_ne (by decide)]; exact kF2_0
      have kF3_1 : F3 1 = nI 0 := by rw [eF3, pt_upd_ne (by decide)]; exact kF2_1
      have kF3_2 : F3 2 = nI 0 := by rw [eF3, pt_upd]
      refine lv_aload_n hx hb dX1_dimensions_33 rfl (lv_at hl 1 rfl) ?_
      refine lv_iconst (v := nI 0) hx hb dX1_dimensions_34 (by decide) ?_
      obtain ⟨F4, eF4⟩ : ∃ zz, zz = upd F3 5 (nI 0) := ⟨_, rfl⟩
      refine va_put (D := (dC, dI)) (ci := 1) (v := .int (nI 0)) (ty := .int) (C := RX1) (T := TX1) (N := 18) hx hb hts iw_c_X1_dimensions_wsX10 tyX1 tyX1_ok nmX1 hown hK hP hD hS 0 rfl rfl 5 (by decide) (hts _ wd_c_X1_dimensions_X1_dimensions_3) (fun _ h9 => h9) rfl (by decide +kernel) rfl rfl (Nat.le_of_ble_eq_true rfl) dX1_dimensions_35 (fun H locs hP hD hS => ?_)
      have hP : va_P (dC, dI) vwCl (pt_xw a c F4 A Q) H := by rw [eF4]; exact hP
      have hD : va_D AA (pt_xw a c F4 A Q) := by rw [eF4]; exact hD
      have kF4_0 : F4 0 = nI k := by rw [eF4, pt_upd_ne (by decide)]; exact kF3_0
      have kF4_1 : F4 1 = nI 0 := by rw [eF4, pt_upd_ne (by decide)]; exact kF3_1
      have kF4_2 : F4 2 = nI 0 := by rw [eF4, pt_upd_ne (by decide)]; exact kF3_2
      have kF4_5 : F4 5 = nI 0 := by rw [eF4, pt_upd]
      refine lv_aload_n hx hb dX1_dimensions_38 rfl (lv_at hl 1 rfl) ?_
      refine lv_iconst (v := nI 0) hx hb dX1_dimensions_39 (by decide) ?_
      obtain ⟨F5, eF5⟩ : ∃ zz, zz = upd F4 6 (nI 0) := ⟨_, rfl⟩
      refine va_put (D := (dC, dI)) (ci := 1) (v := .int (nI 0)) (ty := .int) (C := RX1) (T := TX1) (N := 18) hx hb hts iw_c_X1_dimensions_wsX10 tyX1 tyX1_ok nmX1 hown hK hP hD hS 0 rfl rfl 6 (by decide) (hts _ wd_c_X1_dimensions_X1_dimensions_4) (fun _ h9 => h9) rfl (by decide +kernel) rfl rfl (Nat.le_of_ble_eq_true rfl) dX1_dimensions_40 (fun H locs hP hD hS => ?_)
      have hP : va_P (dC, dI) vwCl (pt_xw a c F5 A Q) H := by rw [eF5]; exact hP
      have hD : va_D AA (pt_xw a c F5 A Q) := by rw [eF5]; exact hD
      have kF5_0 : F5 0 = nI k := by rw [eF5, pt_upd_ne (by decide)]; exact kF4_0
      have kF5_1 : F5 1 = nI 0 := by rw [eF5, pt_upd_ne (by decide)]; exact kF4_1
      have kF5_2 : F5 2 = nI 0 := by rw [eF5, pt_upd_ne (by decide)]; exact kF4_2
      have kF5_5 : F5 5 = nI 0 := by rw [eF5, pt_upd_ne (by decide)]; exact kF4_5
      have kF5_6 : F5 6 = nI 0 := by rw [eF5, pt_upd]
      refine lv_aload_n hx hb dX1_dimensions_43 rfl (lv_at hl 1 rfl) ?_
      refine pt_callv (wf := (fun u : pt_XS => pt_xw a c u.1 u.2.1 u.2.2)) (va_runV (As := []) (rest := []) ⟨hx, hb, hml, hown, hts⟩ (c_X1_forgetAsked l dC dI a c F5 A Q _) (cwV 0 hts gX1_dimensions_X1_forgetAsked rfl rfl rfl (by decide +kernel) ⟨Nat.le_of_ble_eq_true rfl, Nat.le_of_ble_eq_true rfl⟩) (pt_wv1 hP hK hN hD (q0 := 0) rfl) rfl rfl hl.1 rfl (lv_room (Nat.le_of_ble_eq_true rfl)) dX1_dimensions_44 ⟨Nat.le_of_ble_eq_true rfl, Nat.le_of_ble_eq_true rfl⟩) hD hS hA (fun _ => rfl) (fun u44 H locs hr44 hP hD hS => ?_)
      obtain ⟨F6, A6, Q6⟩ := u44
      obtain ⟨hm6, hz6, ho6, hq6⟩ := hr44
      dsimp only at hm6 hz6 ho6 hq6 hP hD
      have kF6_0 : F6 0 = nI k := (ho6.1 0 (by decide)).trans kF5_0
      have kF6_1 : F6 1 = nI 0 := (ho6.1 1 (by decide)).trans kF5_1
      have kF6_2 : F6 2 = nI 0 := (ho6.1 2 (by decide)).trans kF5_2
      have kF6_5 : F6 5 = nI 0 := (ho6.1 5 (by decide)).trans kF5_5
      have kF6_6 : F6 6 = nI 0 := (ho6.1 6 (by decide)).trans kF5_6
      refine lv_iload_n hx hb dX1_dimensions_47 rfl (lv_at hl 0 rfl) ?_
      exact W.iret (v := (F 0)) hx hb hr (fun zt zh zW => ⟨⟨_, (F6, A6, Q6), rfl, (Or.inr ⟨k, hk1, hk3, rfl, rfl, kF6_0, kF6_1, kF6_2, kF6_5, kF6_6, hm6, hz6⟩), by show va_P _ _ _ zt.heap; rw [zh]; exact hP⟩, hS.F zh⟩) hS.2.2 dX1_dimensions_48
    · refine lv_bipush (v := (-2)) hx hb dX1_dimensions_10 (by decide) ?_
      exact W.iret (v := (-2)) hx hb hr (fun zt zh zW => ⟨⟨_, (F, A, Q), rfl, (Or.inl ⟨fun k k1 k3 e => by subst e; first | exact c7 (nI_le k3 (by decide)) | exact nI_nlt k1 (by omega) c2, rfl, rfl⟩), by show va_P _ _ _ zt.heap; rw [zh]; exact hP⟩, hS.F zh⟩) hS.2.2 dX1_dimensions_12

theorem wd_c_X1_thing_X1_thing_0 : Cond.fieldLink RX1 60 "PointTrees" "made" "I" ∈ wsX1_thing := by decide +kernel
theorem wd_c_X1_thing_X1_thing_1 : Cond.fieldLink RX1 24 "PointTrees" "things" "LPointTrees$Boxes;" ∈ wsX1_thing := by decide +kernel
theorem wd_c_X1_thing_X1_thing_2 : Cond.initialized RX0 ∈ wsX1_thing := by decide +kernel
theorem wd_c_X1_thing_X1_thing_3 : Cond.instanceMethod yX0_put ∈ wsX1_thing := by decide +kernel
theorem wd_c_X1_thing_X1_thing_4 : Cond.selects RX0 yX0_put yX0_put ∈ wsX1_thing := by decide +kernel
theorem wd_c_X1_thing_X1_thing_5 : Cond.fieldLink RX1 15 "PointTrees" "isThere" "[Z" ∈ wsX1_thing := by decide +kernel
theorem wd_c_X1_thing_X1_thing_6 : Cond.fieldLink RX1 63 "PointTrees" "present" "I" ∈ wsX1_thing := by decide +kernel
theorem iw_c_X1_thing_wsX10 : ∀ w ∈ wsX10, w ∈ wsX1_thing := fun _ h => List.mem_cons_of_mem _ (List.mem_append_left _ (List.mem_append_right _ h))
theorem iw_c_X1_thing_wsX00 : ∀ w ∈ wsX00, w ∈ wsX1_thing := fun _ h => List.mem_cons_of_mem _ (List.mem_append_right _ h)
set_option maxHeartbeats 4000000 in
set_option maxRecDepth 100000 in
theorem c_X1_thing (l : Launch) (dC : Nat → ClassId) (dI : Nat → Nat → Nat) (a : Nat → Nat) (c : Nat → ClassId) (F : Nat → Int32) (A : Nat → Nat → Int32) (Q : Nat → Int64) (sz : Nat) (ax : Nat) (h0 : F 0 = nI ax) (hax : ax ≤ 3) (md : Nat) (h1 : F 1 = nI md) (hmd : md ≤ 64) (pr : Nat) (h2 : F 2 = nI pr) (x0 x1 y0 y1 z0 z1 : Int32) : Met l yX1_thing wsX1_thing (pt_rm 3) (pt_W (dC, dI) vwCl (pt_xt c) (pt_xw a c F A Q) pt_nw sz [.ref (a 0), .int x0, .int x1, .int y0, .int y1, .int z0, .int z1]) (va_Qi (fun (r : Int32) (u : pt_XS) => (¬ pt_box ax x0 x1 y0 y1 z0 z1 ∧ r = -2 ∧ u = (F, A, Q)) ∨ (pt_box ax x0 x1 y0 y1 z0 z1 ∧ md = 64 ∧ r = -4 ∧ u = (F, A, Q)) ∨ (pt_box ax x0 x1 y0 y1 z0 z1 ∧ md < 64 ∧ r = nI md ∧ u.1 1 = nI (md + 1) ∧ u.1 2 = nI (pr + 1) ∧ (∀ j, j ≠ 1 → j ≠ 2 → u.1 j = F j) ∧ u.2.1 3 = upd (A 3) md 1 ∧ u.2.1 4 = pt_pt6 (A 4) md x0 x1 y0 y1 z0 z1 ∧ (∀ j, j ≠ 3 → j ≠ 4 → u.2.1 j = A j) ∧ u.2.2 = Q)) (fun u t => va_P (dC, dI) vwCl (pt_xw a c u.1 u.2.1 u.2.2) t.heap) (va_A (pt_xw a c F A Q) sz)) 0 0 (va_A (pt_xw a c F A Q) sz) := by
  refine Met.ofW (cc := cX1_thing) (maxL := 8) (ret := (some .int)) (by decide) rfl ?_
  intro p e s m args below meth cd s₁ B hml hv
  obtain ⟨rfl, hsz, hP, hK, hN, hD0⟩ := hv
  have hx := B.exec
  have hb := B.bytes
  have hr := B.returns
  have hts := atoms_spec (ws := wsX1_thing) B.pre
  have hown : s.vm.findClass RX1 = some m.cls := findClass_of_methodNamed B.named
  have hlocks := B.notSynchronized
  subst hsz
  have hD := hD0.self (sz := s.heap.size)
  generalize hAe : va_A (pt_xw a c F A Q) s.heap.size = AA at hD ⊢
  have hA : ∀ q : Nat, s.heap.size ≤ q → AA q := fun q h => by rw [← hAe]; exact Or.inr h
  have hS : va_S AA s.heap s.heap [] := va_S.rf
  have hl := lv_entry ([.ref (a 0), .int x0, .int x1, .int y0, .int y1, .int z0, .int z1]) (n := 8) (Nat.le_of_ble_eq_true rfl)
  rw [lg_entry_eq]
  generalize (lg_sl ([.ref (a 0), .int x0, .int x1, .int y0, .int y1, .int z0, .int z1]) ++ List.replicate (8 - (lg_sl ([.ref (a 0), .int x0, .int x1, .int y0, .int y1, .int z0, .int z1])).length) Slot.unset).toArray = ls at hl ⊢
  have hl : lv_has ls 8 [(0, .ref (a 0)), (1, .int x0), (2, .int x1), (3, .int y0), (4, .int y1), (5, .int z0), (6, .int z1)] := hl
  refine lv_aload_n hx hb dX1_thing_0 rfl (lv_at hl 0 rfl) ?_
  refine lv_iload_n hx hb dX1_thing_1 rfl (lv_at hl 1 rfl) ?_
  refine lv_iload_n hx hb dX1_thing_2 rfl (lv_at hl 2 rfl) ?_
  refine lv_iload_n hx hb dX1_thing_3 rfl (lv_at hl 3 rfl) ?_
  refine lv_iload hx hb dX1_thing_4 (lv_at hl 4 rfl) ?_
  refine lv_iload hx hb dX1_thing_6 (lv_at hl 5 rfl) ?_
  refine lv_iload hx hb dX1_thing_8 (lv_at hl 6 rfl) ?_
  refine pt_rdi (va_runV (As := [.int x0, .int x1, .int y0, .int y1, .int z0, .int z1]) (rest := []) ⟨hx, hb, hml, hown, hts⟩ (c_X1_isBox l dC dI a c F A Q ax h0 hax x0 x1 y0 y1 z0 z1) (cwV 6 hts gX1_thing_X1_isBox rfl rfl rfl (by decide +kernel) ⟨Nat.le_of_ble_eq_true rfl, Nat.le_of_ble_eq_true rfl⟩) (pt_pv1 hP hK hN (q0 := 0) rfl) rfl rfl hl.1 rfl (lv_room (Nat.le_of_ble_eq_true rfl)) dX1_thing_10 ⟨Nat.le_of_ble_eq_true rfl, Nat.le_of_ble_eq_true rfl⟩) (fun r10 hr10 => ?_)
  refine lv_if_ne (tgt := 19) hx hb dX1_thing_13 (by decide) (fun c13 => ?_) (fun c13 => ?_)
  · have d13 := hr10.t c13
    refine lv_aload_n hx hb dX1_thing_19 rfl (lv_at hl 0 rfl) ?_
    refine va_get (D := (dC, dI)) (ci := 1) (v := .int (F 1)) (C := RX1) (T := TX1) (N := 18) hx hb hts iw_c_X1_thing_wsX10 hown hK hP 0 rfl rfl 1 (by decide) (hts _ wd_c_X1_thing_X1_thing_0) (fun _ h9 => h9) rfl dX1_thing_20 ?_
    refine pt_top (y := nI md) h1 ?_
    refine lv_bipush (v := nI 64) hx hb dX1_thing_23 (by decide) ?_
    refine lv_icmp_lt (tgt := 31) hx hb dX1_thing_25 (by decide) (fun c25 => ?_) (fun c25 => ?_)
    · have d25 : md < 64 := (nI_ltI (by omega) (by omega)).mp c25
      refine lv_aload_n hx hb dX1_thing_31 rfl (lv_at hl 0 rfl) ?_
      refine va_get (D := (dC, dI)) (ci := 1) (v := .int (F 1)) (C := RX1) (T := TX1) (N := 18) hx hb hts iw_c_X1_thing_wsX10 hown hK hP 0 rfl rfl 1 (by decide) (hts _ wd_c_X1_thing_X1_thing_0) (fun _ h9 => h9) rfl dX1_thing_32 ?_
      refine pt_top (y := nI md) h1 ?_
      refine lv_istore (lv' := [(7, .int (nI md)), (0, .ref (a 0)), (1, .int x0), (2, .int x1), (3, .int y0), (4, .int y1), (5, .int z0), (6, .int z1)]) hx hb dX1_thing_35 hl (by decide) rfl (fun ls hl => ?_)
      refine lv_aload_n hx hb dX1_thing_37 rfl (lv_at hl 1 rfl) ?_
      refine va_get (D := (dC, dI)) (ci := 1) (v := .ref (a 4)) (C := RX1) (T := TX1) (N := 18) hx hb hts iw_c_X1_thing_wsX10 hown hK hP 0 rfl rfl 4 (by decide) (hts _ wd_c_X1_thing_X1_thing_1) (fun _ h9 => h9) rfl dX1_thing_38 ?_
      refine lv_iload hx hb dX1_thing_41 (lv_at hl 0 rfl) ?_
      refine lv_iload_n hx hb dX1_thing_43 rfl (lv_at hl 2 rfl) ?_
      refine lv_iload_n hx hb dX1_thing_44 rfl (lv_at hl 3 rfl) ?_
      refine lv_iload_n hx hb dX1_thing_45 rfl (lv_at hl 4 rfl) ?_
      refine lv_iload hx hb dX1_thing_46 (lv_at hl 5 rfl) ?_
      refine lv_iload hx hb dX1_thing_48 (lv_at hl 6 rfl) ?_
      refine lv_iload hx hb dX1_thing_50 (lv_at hl 7 rfl) ?_
      refine pt_callv (wf := (fun u => (pt_xw a c F A Q).set 3 (a 24, .inl (c 4, 384, .inl u)))) (va_runVN (As := [.int (nI md), .int x0, .int x1, .int y0, .int y1, .int z0, .int z1]) (rest := []) ⟨hx, hb, hml, hown, hts⟩ (c_X0_put l dC dI (pt_xt c) (pt_xw a c F A Q) 2 3 1 (a 4) (a 24) (c 4) 384 (A 4) rfl rfl rfl (by decide) _ md x0 x1 y0 y1 z0 z1 (by omega)) ⟨va_cnB 7 hts gX1_thing_X0_put_n79 rfl rfl rfl (pt_nest hN 1 rfl) (hts _ wd_c_X1_thing_X1_thing_2) (by decide +kernel) ⟨Nat.le_of_ble_eq_true rfl, Nat.le_of_ble_eq_true rfl⟩, (hts _ wd_c_X1_thing_X1_thing_3), (hts _ wd_c_X1_thing_X1_thing_4)⟩ (pt_wv0 hP hK hN hD (q0 := 2) rfl) rfl rfl hl.1 rfl (lv_room (Nat.le_of_ble_eq_true rfl)) dX1_thing_52 ⟨Nat.le_of_ble_eq_true rfl, Nat.le_of_ble_eq_true rfl⟩) hD hS hA (fun _ => rfl) (fun u52 H locs hr52 hP hD hS => ?_)
      obtain ⟨A1, eA1⟩ : ∃ zz, zz = va_up A 4 u52 := ⟨_, rfl⟩
      have hP : va_P (dC, dI) vwCl (pt_xw a c F A1 Q) H := by rw [eA1]; exact hP
      have hD : va_D AA (pt_xw a c F A1 Q) := by rw [eA1]; exact hD
      have hu4 : A1 4 = pt_pt6 (A 4) md x0 x1 y0 y1 z0 z1 := by rw [eA1, pt_up]; exact hr52
      refine lv_aload_n hx hb dX1_thing_55 rfl (lv_at hl 1 rfl) ?_
      refine va_get (D := (dC, dI)) (ci := 1) (v := .ref (a 3)) (C := RX1) (T := TX1) (N := 18) hx hb hts iw_c_X1_thing_wsX10 hown hK hP 0 rfl rfl 3 (by decide) (hts _ wd_c_X1_thing_X1_thing_5) (fun _ h9 => h9) rfl dX1_thing_56 ?_
      refine lv_iload hx hb dX1_thing_59 (lv_at hl 0 rfl) ?_
      refine lv_iconst (v := 1) hx hb dX1_thing_61 (by decide) ?_
      obtain ⟨A2, eA2⟩ : ∃ zz, zz = va_up A1 3 (upd (A1 3) md 1) := ⟨_, rfl⟩
      refine pt_zast hx hb hK hP hD hS 1 0 rfl rfl md rfl (by omega) (by decide) rfl (ws' := (pt_xw a c F A2 Q)) (by rw [eA2]; rfl) dX1_thing_62 (fun H locs hP hD hS => ?_)
      refine lv_aload_n hx hb dX1_thing_63 rfl (lv_at hl 1 rfl) ?_
      refine lv_dup hx hb dX1_thing_64 rfl ?_
      refine va_get (D := (dC, dI)) (ci := 1) (v := .int (F 1)) (C := RX1) (T := TX1) (N := 18) hx hb hts iw_c_X1_thing_wsX10 hown hK hP 0 rfl rfl 1 (by decide) (hts _ wd_c_X1_thing_X1_thing_0) (fun _ h9 => h9) rfl dX1_thing_65 ?_
      refine pt_top (y := nI md) h1 ?_
      refine lv_iconst (v := nI 1) hx hb dX1_thing_68 (by decide) ?_
      refine lv_iadd hx hb dX1_thing_69 ?_
      refine pt_top (y := nI (md + 1)) (nI_add _ _) ?_
      obtain ⟨F3, eF3⟩ : ∃ zz, zz = upd F 1 (nI (md + 1)) := ⟨_, rfl⟩
      refine va_put (D := (dC, dI)) (ci := 1) (v := .int (nI (md + 1))) (ty := .int) (C := RX1) (T := TX1) (N := 18) hx hb hts iw_c_X1_thing_wsX10 tyX1 tyX1_ok nmX1 hown hK hP hD hS 0 rfl rfl 1 (by decide) (hts _ wd_c_X1_thing_X1_thing_0) (fun _ h9 => h9) rfl (by decide +kernel) rfl rfl (Nat.le_of_ble_eq_true rfl) dX1_thing_70 (fun H locs hP hD hS => ?_)
      have hP : va_P (dC, dI) vwCl (pt_xw a c F3 A2 Q) H := by rw [eF3]; exact hP
      have hD : va_D AA (pt_xw a c F3 A2 Q) := by rw [eF3]; exact hD
      have kF3_0 : F3 0 = nI ax := by rw [eF3, pt_upd_ne (by decide)]; exact h0
      have kF3_2 : F3 2 = nI pr := by rw [eF3, pt_upd_ne (by decide)]; exact h2
      have kF3_1 : F3 1 = nI (md + 1) := by rw [eF3, pt_upd]
      refine lv_aload_n hx hb dX1_thing_73 rfl (lv_at hl 1 rfl) ?_
      refine lv_dup hx hb dX1_thing_74 rfl ?_
      refine va_get (D := (dC, dI)) (ci := 1) (v := .int (F3 2)) (C := RX1) (T := TX1) (N := 18) hx hb hts iw_c_X1_thing_wsX10 hown hK hP 0 rfl rfl 2 (by decide) (hts _ wd_c_X1_thing_X1_thing_6) (fun _ h9 => h9) rfl dX1_thing_75 ?_
      refine pt_top (y := nI pr) kF3_2 ?_
      refine lv_iconst (v := nI 1) hx hb dX1_thing_78 (by decide) ?_
      refine lv_iadd hx hb dX1_thing_79 ?_
      refine pt_top (y := nI (pr + 1)) (nI_add _ _) ?_
      obtain ⟨F4, eF4⟩ : ∃ zz, zz = upd F3 2 (nI (pr + 1)) := ⟨_, rfl⟩
      refine va_put (D := (dC, dI)) (ci := 1) (v := .int (nI (pr + 1))) (ty := .int) (C := RX1) (T := TX1) (N := 18) hx hb hts iw_c_X1_thing_wsX10 tyX1 tyX1_ok nmX1 hown hK hP hD hS 0 rfl rfl 2 (by decide) (hts _ wd_c_X1_thing_X1_thing_6) (fun _ h9 => h9) rfl (by decide +kernel) rfl rfl (Nat.le_of_ble_eq_true rfl) dX1_thing_80 (fun H locs hP hD hS => ?_)
      have hP : va_P (dC, dI) vwCl (pt_xw a c F4 A2 Q) H := by rw [eF4]; exact hP
      have hD : va_D AA (pt_xw a c F4 A2 Q) := by rw [eF4]; exact hD
      have kF4_0 : F4 0 = nI ax := by rw [eF4, pt_upd_ne (by decide)]; exact kF3_0
      have kF4_1 : F4 1 = nI (md + 1) := by rw [eF4, pt_upd_ne (by decide)]; exact kF3_1
      have kF4_2 : F4 2 = nI (pr + 1) := by rw [eF4, pt_upd]
      refine lv_iload hx hb dX1_thing_83 (lv_at hl 0 rfl) ?_
      exact W.iret (v := nI md) hx hb hr (fun zt zh zW => ⟨⟨_, (F4, A2, Q), rfl, (Or.inr (Or.inr ⟨d13, d25, rfl, kF4_1, kF4_2, fun j j1 j2 => by show F4 j = F j; rw [eF4, pt_upd_ne j2, eF3, pt_upd_ne j1], by show A2 3 = _; rw [eA2, pt_up, eA1, pt_up_ne (by decide)], by show A2 4 = _; rw [eA2, pt_up_ne (by decide)]; exact hu4, fun j j3 j4 => by show A2 j = A j; rw [eA2, pt_up_ne j3, eA1, pt_up_ne j4], rfl⟩)), by show va_P _ _ _ zt.heap; rw [zh]; exact hP⟩, hS.F zh⟩) hS.2.2 dX1_thing_85
    · have d25 : md = 64 := by have : ¬ md < 64 := fun q => c25 ((nI_ltI (by omega) (by omega)).mpr q); omega
      refine lv_bipush (v := (-4)) hx hb dX1_thing_28 (by decide) ?_
      exact W.iret (v := (-4)) hx hb hr (fun zt zh zW => ⟨⟨_, (F, A, Q), rfl, (Or.inr (Or.inl ⟨d13, d25, rfl, rfl⟩)), by show va_P _ _ _ zt.heap; rw [zh]; exact hP⟩, hS.F zh⟩) hS.2.2 dX1_thing_30
  · have d13 := hr10.f c13
    refine lv_bipush (v := (-2)) hx hb dX1_thing_16 (by decide) ?_
    exact W.iret (v := (-2)) hx hb hr (fun zt zh zW => ⟨⟨_, (F, A, Q), rfl, (Or.inl ⟨d13, rfl, rfl⟩), by show va_P _ _ _ zt.heap; rw [zh]; exact hP⟩, hS.F zh⟩) hS.2.2 dX1_thing_18

theorem wd_c_X1_drop_X1_drop_0 : Cond.fieldLink RX1 15 "PointTrees" "isThere" "[Z" ∈ wsX1_drop := by decide +kernel
theorem wd_c_X1_drop_X1_drop_1 : Cond.fieldLink RX1 63 "PointTrees" "present" "I" ∈ wsX1_drop := by decide +kernel
theorem iw_c_X1_drop_wsX10 : ∀ w ∈ wsX10, w ∈ wsX1_drop := fun _ h => List.mem_cons_of_mem _ (List.mem_append_right _ h)
set_option maxHeartbeats 4000000 in
set_option maxRecDepth 100000 in
theorem c_X1_drop (l : Launch) (dC : Nat → ClassId) (dI : Nat → Nat → Nat) (a : Nat → Nat) (c : Nat → ClassId) (F : Nat → Int32) (A : Nat → Nat → Int32) (Q : Nat → Int64) (sz : Nat) (md : Nat) (h1 : F 1 = nI md) (hmd : md ≤ 64) (pr : Nat) (h2 : F 2 = nI pr) (hpr : ∀ t, t < md → ¬ A 3 t = 0 → 1 ≤ pr) (k : Int32) : Met l yX1_drop wsX1_drop (pt_rm 1) (pt_W (dC, dI) vwCl (pt_xt c) (pt_xw a c F A Q) pt_nw sz [.ref (a 0), .int k]) (va_Qi (fun (r : Int32) (u : pt_XS) => (¬ pt_in md (fun t => ¬ A 3 t = 0) k ∧ r = -1 ∧ u = (F, A, Q)) ∨ ∃ t, t < md ∧ k = nI t ∧ ¬ A 3 t = 0 ∧ r = nI (pr - 1) ∧ u = (upd F 2 (nI (pr - 1)), va_up A 3 (upd (A 3) t 0), Q)) (fun u t => va_P (dC, dI) vwCl (pt_xw a c u.1 u.2.1 u.2.2) t.heap) (va_A (pt_xw a c F A Q) sz)) 0 0 (va_A (pt_xw a c F A Q) sz) := by
  refine Met.ofW (cc := cX1_drop) (maxL := 2) (ret := (some .int)) (by decide) rfl ?_
  intro p e s m args below meth cd s₁ B hml hv
  obtain ⟨rfl, hsz, hP, hK, hN, hD0⟩ := hv
  have hx := B.exec
  have hb := B.bytes
  have hr := B.returns
  have hts := atoms_spec (ws := wsX1_drop) B.pre
  have hown : s.vm.findClass RX1 = some m.cls := findClass_of_methodNamed B.named
  have hlocks := B.notSynchronized
  subst hsz
  have hD := hD0.self (sz := s.heap.size)
  generalize hAe : va_A (pt_xw a c F A Q) s.heap.size = AA at hD ⊢
  have hA : ∀ q : Nat, s.heap.size ≤ q → AA q := fun q h => by rw [← hAe]; exact Or.inr h
  have hS : va_S AA s.heap s.heap [] := va_S.rf
  have hl := lv_entry ([.ref (a 0), .int k]) (n := 2) (Nat.le_of_ble_eq_true rfl)
  rw [lg_entry_eq]
  generalize (lg_sl ([.ref (a 0), .int k]) ++ List.replicate (2 - (lg_sl ([.ref (a 0), .int k])).length) Slot.unset).toArray = ls at hl ⊢
  have hl : lv_has ls 2 [(0, .ref (a 0)), (1, .int k)] := hl
  refine lv_aload_n hx hb dX1_drop_0 rfl (lv_at hl 0 rfl) ?_
  refine lv_iload_n hx hb dX1_drop_1 rfl (lv_at hl 1 rfl) ?_
  refine pt_rdi (va_runV (As := [.int k]) (rest := []) ⟨hx, hb, hml, hown, hts⟩ (c_X1_hasThing l dC dI a c F A Q md h1 hmd k) (cwV 1 hts gX1_drop_X1_hasThing rfl rfl rfl (by decide +kernel) ⟨Nat.le_of_ble_eq_true rfl, Nat.le_of_ble_eq_true rfl⟩) (pt_pv1 hP hK hN (q0 := 0) rfl) rfl rfl hl.1 rfl (lv_room (Nat.le_of_ble_eq_true rfl)) dX1_drop_2 ⟨Nat.le_of_ble_eq_true rfl, Nat.le_of_ble_eq_true rfl⟩) (fun r2 hr2 => ?_)
  refine lv_if_ne (tgt := 10) hx hb dX1_drop_5 (by decide) (fun c5 => ?_) (fun c5 => ?_)
  · have d5 := hr2.t c5
    obtain ⟨t, ht, ek, hT⟩ := d5
    have hp1 := hpr t ht hT
    refine lv_aload_n hx hb dX1_drop_10 rfl (lv_at hl 0 rfl) ?_
    refine va_get (D := (dC, dI)) (ci := 1) (v := .ref (a 3)) (C := RX1) (T := TX1) (N := 18) hx hb hts iw_c_X1_drop_wsX10 hown hK hP 0 rfl rfl 3 (by decide) (hts _ wd_c_X1_drop_X1_drop_0) (fun _ h9 => h9) rfl dX1_drop_11 ?_
    refine lv_iload_n hx hb dX1_drop_14 rfl (lv_at hl 1 rfl) ?_
    refine lv_iconst (v := 0) hx hb dX1_drop_15 (by decide) ?_
    obtain ⟨A1, eA1⟩ : ∃ zz, zz = va_up A 3 (upd (A 3) t 0) := ⟨_, rfl⟩
    refine pt_zast hx hb hK hP hD hS 1 0 rfl rfl t ek (by omega) (by decide) rfl (ws' := (pt_xw a c F A1 Q)) (by rw [eA1]; rfl) dX1_drop_16 (fun H locs hP hD hS => ?_)
    refine lv_aload_n hx hb dX1_drop_17 rfl (lv_at hl 0 rfl) ?_
    refine lv_dup hx hb dX1_drop_18 rfl ?_
    refine va_get (D := (dC, dI)) (ci := 1) (v := .int (F 2)) (C := RX1) (T := TX1) (N := 18) hx hb hts iw_c_X1_drop_wsX10 hown hK hP 0 rfl rfl 2 (by decide) (hts _ wd_c_X1_drop_X1_drop_1) (fun _ h9 => h9) rfl dX1_drop_19 ?_
    refine pt_top (y := nI pr) h2 ?_
    refine lv_iconst (v := nI 1) hx hb dX1_drop_22 (by decide) ?_
    refine lv_isub hx hb dX1_drop_23 ?_
    refine pt_top (y := nI (pr - 1)) (pk_sub hp1) ?_
    obtain ⟨F2, eF2⟩ : ∃ zz, zz = upd F 2 (nI (pr - 1)) := ⟨_, rfl⟩
    refine va_put (D := (dC, dI)) (ci := 1) (v := .int (nI (pr - 1))) (ty := .int) (C := RX1) (T := TX1) (N := 18) hx hb hts iw_c_X1_drop_wsX10 tyX1 tyX1_ok nmX1 hown hK hP hD hS 0 rfl rfl 2 (by decide) (hts _ wd_c_X1_drop_X1_drop_1) (fun _ h9 => h9) rfl (by decide +kernel) rfl rfl (Nat.le_of_ble_eq_true rfl) dX1_drop_24 (fun H locs hP hD hS => ?_)
    have hP : va_P (dC, dI) vwCl (pt_xw a c F2 A1 Q) H := by rw [eF2]; exact hP
    have hD : va_D AA (pt_xw a c F2 A1 Q) := by rw [eF2]; exact hD
    have kF2_1 : F2 1 = nI md := by rw [eF2, pt_upd_ne (by decide)]; exact h1
    have kF2_2 : F2 2 = nI (pr - 1) := by rw [eF2, pt_upd]
    refine lv_aload_n hx hb dX1_drop_27 rfl (lv_at hl 0 rfl) ?_
    refine va_get (D := (dC, dI)) (ci := 1) (v := .int (F2 2)) (C := RX1) (T := TX1) (N := 18) hx hb hts iw_c_X1_drop_wsX10 hown hK hP 0 rfl rfl 2 (by decide) (hts _ wd_c_X1_drop_X1_drop_1) (fun _ h9 => h9) rfl dX1_drop_28 ?_
    refine pt_top (y := nI (pr - 1)) kF2_2 ?_
    exact W.iret (v := nI (pr - 1)) hx hb hr (fun zt zh zW => ⟨⟨_, (F2, A1, Q), rfl, (Or.inr ⟨t, ht, ek, hT, rfl, by rw [eF2, eA1]⟩), by show va_P _ _ _ zt.heap; rw [zh]; exact hP⟩, hS.F zh⟩) hS.2.2 dX1_drop_31
  · have d5 := hr2.f c5
    refine lv_iconst (v := (-1)) hx hb dX1_drop_8 (by decide) ?_
    exact W.iret (v := (-1)) hx hb hr (fun zt zh zW => ⟨⟨_, (F, A, Q), rfl, (Or.inl ⟨d5, rfl, rfl⟩), by show va_P _ _ _ zt.heap; rw [zh]; exact hP⟩, hS.F zh⟩) hS.2.2 dX1_drop_9
