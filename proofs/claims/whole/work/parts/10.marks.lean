/-- what was found so far -/
def pt_ask (fd : Nat → Prop) (fc : Nat) (F : Nat → Int32) (A : Nat → Nat → Int32) : Prop := F 15 = nI fc ∧ (∀ x, x < 64 → pt_B (A 14 x) (fd x)) ∧ pt_cnt fd 64 ≤ fc
/-- the class's other cells stay: but slot 15, rows 14 and 16 -/
def pt_oth (F F' : Nat → Int32) (A A' : Nat → Nat → Int32) : Prop := (∀ j, j ≠ 15 → F' j = F j) ∧ ∀ j, j ≠ 14 → j ≠ 16 → A' j = A j
theorem pt_oth.rf {F : Nat → Int32} {A : Nat → Nat → Int32} : pt_oth F F A A := ⟨fun _ _ => rfl, fun _ _ _ => rfl⟩
theorem pt_oth.tr {F F' F'' : Nat → Int32} {A A' A'' : Nat → Nat → Int32} (h : pt_oth F F' A A') (g : pt_oth F' F'' A' A'') : pt_oth F F'' A A'' := ⟨fun j q => (g.1 j q).trans (h.1 j q), fun j q q2 => (g.2 j q q2).trans (h.2 j q q2)⟩
theorem pt_ask.c {fd fd' : Nat → Prop} {fc fc' : Nat} {F : Nat → Int32} {A : Nat → Nat → Int32} (h : pt_ask fd fc F A) (e : ∀ x, fd x ↔ fd' x) (ef : fc = fc') : pt_ask fd' fc' F A := by
  subst ef
  refine ⟨h.1, fun x hx => (h.2.1 x hx).c (e x), ?_⟩
  rw [← pt_cnt_c 64 (fun i _ => e i)]
  exact h.2.2
theorem pt_ask.m {fd : Nat → Prop} {fc : Nat} {F F' : Nat → Int32} {A A' : Nat → Nat → Int32} (h : pt_ask fd fc F A) (e : F' 15 = F 15) (ea : A' 14 = A 14) : pt_ask fd fc F' A' := ⟨by rw [e]; exact h.1, fun x hx => by rw [ea]; exact h.2.1 x hx, h.2.2⟩
theorem pt_cnt_one {fd : Nat → Prop} {t : Nat} : ∀ n, pt_cnt (fun x => fd x ∨ x = t) n ≤ pt_cnt fd n + pt_cb (t < n)
  | 0 => Nat.zero_le _
  | n + 1 => by
    have ih := pt_cnt_one (fd := fd) (t := t) n
    show pt_cnt (fun x => fd x ∨ x = t) n + pt_cb (fd n ∨ n = t) ≤ pt_cnt fd n + pt_cb (fd n) + pt_cb (t < n + 1)
    by_cases h : n = t
    · rw [pt_cb_t (P := t < n + 1) (by omega)]
      rw [pt_cb_f (P := t < n) (by omega)] at ih
      have := pt_cb_le (fd n ∨ n = t)
      omega
    · rw [pt_cb_c (P := fd n ∨ n = t) (Q := fd n) ⟨fun q => q.elim id (fun q => absurd q h), Or.inl⟩, pt_cb_c (P := t < n + 1) (Q := t < n) ⟨fun q => by omega, fun q => by omega⟩]
      omega
theorem pt_mark {fd : Nat → Prop} {fc t : Nat} {F : Nat → Int32} {A : Nat → Nat → Int32} (h : pt_ask fd fc F A) (ht : t < 64) : pt_ask (fun x => fd x ∨ x = t) (fc + 1) (upd F 15 (nI (fc + 1))) (va_up A 14 (upd (A 14) t 1)) ∧ pt_oth F (upd F 15 (nI (fc + 1))) A (va_up A 14 (upd (A 14) t 1)) ∧ va_up A 14 (upd (A 14) t 1) 16 = A 16 := by
  refine ⟨⟨pt_upd, fun x hx => ?_, ?_⟩, ⟨fun j hj => pt_upd_ne hj, fun j h1 _ => pt_up_ne h1⟩, pt_up_ne (by decide)⟩
  · rw [pt_up]
    by_cases q : x = t
    · subst q; rw [pt_upd]; exact pt_B.one (Or.inr rfl)
    · rw [pt_upd_ne q]; exact (h.2.1 x hx).c ⟨Or.inl, fun z => z.elim id (fun z => absurd z q)⟩
  · have h1 := pt_cnt_one (fd := fd) (t := t) 64
    rw [pt_cb_t ht] at h1
    have := h.2.2
    omega
theorem pt_ask.no {fd : Nat → Prop} {fc t : Nat} {P : Prop} {F : Nat → Int32} {A : Nat → Nat → Int32} (h : pt_ask fd fc F A) (hP : ¬ P) : pt_ask (fun x => fd x ∨ (x = t ∧ P)) (fc + pt_cb P) F A := h.c (fun _ => ⟨Or.inl, fun q => q.elim id (fun q => absurd q.2 hP)⟩) (by rw [pt_cb_f hP]; rfl)
theorem pt_ask.yes {fd : Nat → Prop} {fc t : Nat} {P : Prop} {F : Nat → Int32} {A : Nat → Nat → Int32} (h : pt_ask (fun x => fd x ∨ x = t) (fc + 1) F A) (hP : P) : pt_ask (fun x => fd x ∨ (x = t ∧ P)) (fc + pt_cb P) F A := h.c (fun _ => ⟨fun q => q.imp id (fun q => ⟨q, hP⟩), fun q => q.imp id (fun q => q.1)⟩) (by rw [pt_cb_t hP])
/-- a thing is there, and so -/
def pt_Px (ax rel : Nat) (th T B : Nat → Int32) (t : Nat) : Prop := ¬ th t = 0 ∧ pt_so rel (pt_mee ax T B t 0) (pt_wn ax T B t 0) (pt_wn ax B T 0 t)
/-- those of a run that are P, joined to fd -/
def pt_run (fd : Nat → Prop) (od : Nat → Nat) (P : Nat → Prop) (f i : Nat) (x : Nat) : Prop := fd x ∨ ∃ k, f ≤ k ∧ k < i ∧ x = od k ∧ P (od k)
theorem pt_run_0 {fd : Nat → Prop} {od : Nat → Nat} {P : Nat → Prop} {f x : Nat} : fd x ↔ pt_run fd od P f f x := ⟨Or.inl, fun q => q.elim id (fun ⟨k, h1, h2, _⟩ => by omega)⟩
theorem pt_run_s {fd : Nat → Prop} {od : Nat → Nat} {P : Nat → Prop} {f i x : Nat} (hi : f ≤ i) : (pt_run fd od P f i x ∨ (x = od i ∧ P (od i))) ↔ pt_run fd od P f (i + 1) x := by
  constructor
  · rintro ((h | ⟨k, h1, h2, h3⟩) | ⟨h1, h2⟩)
    · exact Or.inl h
    · exact Or.inr ⟨k, h1, by omega, h3⟩
    · exact Or.inr ⟨i, hi, by omega, h1, h2⟩
  · rintro (h | ⟨k, h1, h2, h3, h4⟩)
    · exact Or.inl (Or.inl h)
    · rcases Nat.lt_or_ge k i with q | q
      · exact Or.inl (Or.inr ⟨k, h1, q, h3, h4⟩)
      · have : k = i := by omega
        subst this
        exact Or.inr ⟨h3, h4⟩
theorem pt_cntr_0 {P : Nat → Prop} {f : Nat} : pt_cnt (fun k => f ≤ k ∧ P k) f = 0 := pt_cnt_none f (fun i hi q => by omega)
theorem pt_cntr_s {P : Nat → Prop} {f i : Nat} (hi : f ≤ i) : pt_cnt (fun k => f ≤ k ∧ P k) (i + 1) = pt_cnt (fun k => f ≤ k ∧ P k) i + pt_cb (P i) := by
  show _ + pt_cb (f ≤ i ∧ P i) = _
  rw [pt_cb_c (P := f ≤ i ∧ P i) (Q := P i) ⟨fun q => q.2, fun q => ⟨hi, q⟩⟩]

theorem wd_c_X1_markFound_X1_markFound_0 : Cond.fieldLink RX1 50 "PointTrees" "isFound" "[Z" ∈ wsX1_markFound := by decide +kernel
theorem wd_c_X1_markFound_X1_markFound_1 : Cond.fieldLink RX1 114 "PointTrees" "foundCount" "I" ∈ wsX1_markFound := by decide +kernel
theorem iw_c_X1_markFound_wsX10 : ∀ w ∈ wsX10, w ∈ wsX1_markFound := fun _ h => List.mem_cons_of_mem _ (List.mem_append_right _ h)
set_option maxHeartbeats 4000000 in
set_option maxRecDepth 100000 in
theorem c_X1_markFound (l : Launch) (dC : Nat → ClassId) (dI : Nat → Nat → Nat) (a : Nat → Nat) (c : Nat → ClassId) (F : Nat → Int32) (A : Nat → Nat → Int32) (Q : Nat → Int64) (sz : Nat) (t : Nat) (ht : t < 64) (fd : Nat → Prop) (fc : Nat) (hk : pt_ask fd fc F A) : Met l yX1_markFound wsX1_markFound (pt_rm 0) (pt_W (dC, dI) vwCl (pt_xt c) (pt_xw a c F A Q) pt_nw sz [.ref (a 0), .int (nI t)]) (va_Qv (fun (u : pt_XS) => pt_ask (fun x => fd x ∨ x = t) (fc + 1) u.1 u.2.1 ∧ pt_oth F u.1 A u.2.1 ∧ u.2.1 16 = A 16 ∧ u.2.2 = Q) (fun u t => va_P (dC, dI) vwCl (pt_xw a c u.1 u.2.1 u.2.2) t.heap) (va_A (pt_xw a c F A Q) sz)) 0 0 (va_A (pt_xw a c F A Q) sz) := by
  refine Met.ofW (cc := cX1_markFound) (maxL := 2) (ret := none) (by decide) rfl ?_
  intro p e s m args below meth cd s₁ B hml hv
  obtain ⟨rfl, hsz, hP, hK, hN, hD0⟩ := hv
  have hx := B.exec
  have hb := B.bytes
  have hr := B.returns
  have hts := atoms_spec (ws := wsX1_markFound) B.pre
  have hown : s.vm.findClass RX1 = some m.cls := findClass_of_methodNamed B.named
  have hlocks := B.notSynchronized
  subst hsz
  have hD := hD0.self (sz := s.heap.size)
  generalize hAe : va_A (pt_xw a c F A Q) s.heap.size = AA at hD ⊢
  have hA : ∀ q : Nat, s.heap.size ≤ q → AA q := fun q h => by rw [← hAe]; exact Or.inr h
  have hS : va_S AA s.heap s.heap [] := va_S.rf
  have hl := lv_entry ([.ref (a 0), .int (nI t)]) (n := 2) (Nat.le_of_ble_eq_true rfl)
  rw [lg_entry_eq]
  generalize (lg_sl ([.ref (a 0), .int (nI t)]) ++ List.replicate (2 - (lg_sl ([.ref (a 0), .int (nI t)])).length) Slot.unset).toArray = ls at hl ⊢
  have hl : lv_has ls 2 [(0, .ref (a 0)), (1, .int (nI t))] := hl
  refine lv_aload_n hx hb dX1_markFound_0 rfl (lv_at hl 0 rfl) ?_
  refine va_get (D := (dC, dI)) (ci := 1) (v := .ref (a 14)) (C := RX1) (T := TX1) (N := 18) hx hb hts iw_c_X1_markFound_wsX10 hown hK hP 0 rfl rfl 14 (by decide) (hts _ wd_c_X1_markFound_X1_markFound_0) (fun _ h9 => h9) rfl dX1_markFound_1 ?_
  refine lv_iload_n hx hb dX1_markFound_4 rfl (lv_at hl 1 rfl) ?_
  refine lv_iconst (v := 1) hx hb dX1_markFound_5 (by decide) ?_
  obtain ⟨A1, eA1⟩ : ∃ zz, zz = va_up A 14 (upd (A 14) t 1) := ⟨_, rfl⟩
  refine pt_zast hx hb hK hP hD hS 13 9 rfl rfl t rfl (by omega) (by decide) rfl (ws' := (pt_xw a c F A1 Q)) (by rw [eA1]; rfl) dX1_markFound_6 (fun H locs hP hD hS => ?_)
  refine lv_aload_n hx hb dX1_markFound_7 rfl (lv_at hl 0 rfl) ?_
  refine lv_dup hx hb dX1_markFound_8 rfl ?_
  refine va_get (D := (dC, dI)) (ci := 1) (v := .int (F 15)) (C := RX1) (T := TX1) (N := 18) hx hb hts iw_c_X1_markFound_wsX10 hown hK hP 0 rfl rfl 15 (by decide) (hts _ wd_c_X1_markFound_X1_markFound_1) (fun _ h9 => h9) rfl dX1_markFound_9 ?_
  refine pt_top (y := nI fc) hk.1 ?_
  refine lv_iconst (v := nI 1) hx hb dX1_markFound_12 (by decide) ?_
  refine lv_iadd hx hb dX1_markFound_13 ?_
  refine pt_top (y := nI (fc + 1)) (nI_add _ _) ?_
  obtain ⟨F2, eF2⟩ : ∃ zz, zz = upd F 15 (nI (fc + 1)) := ⟨_, rfl⟩
  refine va_put (D := (dC, dI)) (ci := 1) (v := .int (nI (fc + 1))) (ty := .int) (C := RX1) (T := TX1) (N := 18) hx hb hts iw_c_X1_markFound_wsX10 tyX1 tyX1_ok nmX1 hown hK hP hD hS 0 rfl rfl 15 (by decide) (hts _ wd_c_X1_markFound_X1_markFound_1) (fun _ h9 => h9) rfl (by decide +kernel) rfl rfl (Nat.le_of_ble_eq_true rfl) dX1_markFound_14 (fun H locs hP hD hS => ?_)
  have hP : va_P (dC, dI) vwCl (pt_xw a c F2 A1 Q) H := by rw [eF2]; exact hP
  have hD : va_D AA (pt_xw a c F2 A1 Q) := by rw [eF2]; exact hD
  have kF2_15 : F2 15 = nI (fc + 1) := by rw [eF2, pt_upd]
  exact W.vret hx hb hr (fun zt zh zW => ⟨⟨(F2, A1, Q), rfl, (by show pt_ask _ _ F2 A1 ∧ pt_oth F F2 A A1 ∧ A1 16 = A 16 ∧ Q = Q; rw [eF2, eA1]; exact ⟨(pt_mark hk ht).1, (pt_mark hk ht).2.1, (pt_mark hk ht).2.2, rfl⟩), by show va_P _ _ _ zt.heap; rw [zh]; exact hP⟩, hS.F zh⟩) hS.2.2 dX1_markFound_17

theorem wd_c_X1_askThing_X1_askThing_0 : Cond.fieldLink RX1 15 "PointTrees" "isThere" "[Z" ∈ wsX1_askThing := by decide +kernel
theorem iw_c_X1_askThing_wsX10 : ∀ w ∈ wsX10, w ∈ wsX1_askThing := fun _ h => List.mem_cons_of_mem _ (List.mem_append_left _ (List.mem_append_right _ h))
theorem iw_c_X1_askThing_wsX00 : ∀ w ∈ wsX00, w ∈ wsX1_askThing := fun _ h => List.mem_cons_of_mem _ (List.mem_append_right _ h)
set_option maxHeartbeats 4000000 in
set_option maxRecDepth 100000 in
theorem c_X1_askThing (l : Launch) (dC : Nat → ClassId) (dI : Nat → Nat → Nat) (a : Nat → Nat) (c : Nat → ClassId) (F : Nat → Int32) (A : Nat → Nat → Int32) (Q : Nat → Int64) (sz : Nat) (ax : Nat) (h0 : F 0 = nI ax) (hax : ax ≤ 3) (t rel : Nat) (ht : t < 64) (hrel : rel ≤ 3) (fd : Nat → Prop) (fc : Nat) (hk : pt_ask fd fc F A) : Met l yX1_askThing wsX1_askThing (pt_rm 3) (pt_W (dC, dI) vwCl (pt_xt c) (pt_xw a c F A Q) pt_nw sz [.ref (a 0), .int (nI t), .int (nI rel)]) (va_Qv (fun (u : pt_XS) => pt_ask (fun x => fd x ∨ (x = t ∧ pt_Px ax rel (A 3) (A 4) (A 13) t)) (fc + pt_cb (pt_Px ax rel (A 3) (A 4) (A 13) t)) u.1 u.2.1 ∧ pt_oth F u.1 A u.2.1 ∧ u.2.1 16 = A 16 ∧ u.2.2 = Q) (fun u t => va_P (dC, dI) vwCl (pt_xw a c u.1 u.2.1 u.2.2) t.heap) (va_A (pt_xw a c F A Q) sz)) 0 0 (va_A (pt_xw a c F A Q) sz) := by
  refine Met.ofW (cc := cX1_askThing) (maxL := 3) (ret := none) (by decide) rfl ?_
  intro p e s m args below meth cd s₁ B hml hv
  obtain ⟨rfl, hsz, hP, hK, hN, hD0⟩ := hv
  have hx := B.exec
  have hb := B.bytes
  have hr := B.returns
  have hts := atoms_spec (ws := wsX1_askThing) B.pre
  have hown : s.vm.findClass RX1 = some m.cls := findClass_of_methodNamed B.named
  have hlocks := B.notSynchronized
  subst hsz
  have hD := hD0.self (sz := s.heap.size)
  generalize hAe : va_A (pt_xw a c F A Q) s.heap.size = AA at hD ⊢
  have hA : ∀ q : Nat, s.heap.size ≤ q → AA q := fun q h => by rw [← hAe]; exact Or.inr h
  have hS : va_S AA s.heap s.heap [] := va_S.rf
  have hl := lv_entry ([.ref (a 0), .int (nI t), .int (nI rel)]) (n := 3) (Nat.le_of_ble_eq_true rfl)
  rw [lg_entry_eq]
  generalize (lg_sl ([.ref (a 0), .int (nI t), .int (nI rel)]) ++ List.replicate (3 - (lg_sl ([.ref (a 0), .int (nI t), .int (nI rel)])).length) Slot.unset).toArray = ls at hl ⊢
  have hl : lv_has ls 3 [(0, .ref (a 0)), (1, .int (nI t)), (2, .int (nI rel))] := hl
  refine lv_aload_n hx hb dX1_askThing_0 rfl (lv_at hl 0 rfl) ?_
  refine va_get (D := (dC, dI)) (ci := 1) (v := .ref (a 3)) (C := RX1) (T := TX1) (N := 18) hx hb hts iw_c_X1_askThing_wsX10 hown hK hP 0 rfl rfl 3 (by decide) (hts _ wd_c_X1_askThing_X1_askThing_0) (fun _ h9 => h9) rfl dX1_askThing_1 ?_
  refine lv_iload_n hx hb dX1_askThing_4 rfl (lv_at hl 1 rfl) ?_
  refine pt_zald hx hb hK hP 1 0 rfl rfl t rfl (by omega) (by decide) dX1_askThing_5 ?_
  refine lv_if_eq (tgt := 23) hx hb dX1_askThing_6 (by decide) (fun c6 => ?_) (fun c6 => ?_)
  · exact W.vret hx hb hr (fun zt zh zW => ⟨⟨(F, A, Q), rfl, ⟨hk.no (fun q => by first | exact d15 q.2 | exact q.1 c6), pt_oth.rf, rfl, rfl⟩, by show va_P _ _ _ zt.heap; rw [zh]; exact hP⟩, hS.F zh⟩) hS.2.2 dX1_askThing_23
  · refine lv_aload_n hx hb dX1_askThing_9 rfl (lv_at hl 0 rfl) ?_
    refine lv_iload_n hx hb dX1_askThing_10 rfl (lv_at hl 1 rfl) ?_
    refine lv_iload_n hx hb dX1_askThing_11 rfl (lv_at hl 2 rfl) ?_
    refine pt_rdi (va_runV (As := [.int (nI t), .int (nI rel)]) (rest := []) ⟨hx, hb, hml, hown, hts⟩ (c_X1_isSo l dC dI a c F A Q ax h0 hax t rel ht hrel) (cwV 2 hts gX1_askThing_X1_isSo rfl rfl rfl (by decide +kernel) ⟨Nat.le_of_ble_eq_true rfl, Nat.le_of_ble_eq_true rfl⟩) (pt_pv1 hP hK hN (q0 := 0) rfl) rfl rfl hl.1 rfl (lv_room (Nat.le_of_ble_eq_true rfl)) dX1_askThing_12 ⟨Nat.le_of_ble_eq_true rfl, Nat.le_of_ble_eq_true rfl⟩) (fun r12 hr12 => ?_)
    refine lv_if_eq (tgt := 23) hx hb dX1_askThing_15 (by decide) (fun c15 => ?_) (fun c15 => ?_)
    · have d15 := hr12.f c15
      exact W.vret hx hb hr (fun zt zh zW => ⟨⟨(F, A, Q), rfl, ⟨hk.no (fun q => by first | exact d15 q.2 | exact q.1 c6), pt_oth.rf, rfl, rfl⟩, by show va_P _ _ _ zt.heap; rw [zh]; exact hP⟩, hS.F zh⟩) hS.2.2 dX1_askThing_23
    · have d15 := hr12.t c15
      refine lv_aload_n hx hb dX1_askThing_18 rfl (lv_at hl 0 rfl) ?_
      refine lv_iload_n hx hb dX1_askThing_19 rfl (lv_at hl 1 rfl) ?_
      refine pt_callv (wf := (fun u : pt_XS => pt_xw a c u.1 u.2.1 u.2.2)) (va_runV (As := [.int (nI t)]) (rest := []) ⟨hx, hb, hml, hown, hts⟩ (c_X1_markFound l dC dI a c F A Q _ t (by omega) fd fc hk) (cwV 1 hts gX1_askThing_X1_markFound rfl rfl rfl (by decide +kernel) ⟨Nat.le_of_ble_eq_true rfl, Nat.le_of_ble_eq_true rfl⟩) (pt_wv1 hP hK hN hD (q0 := 0) rfl) rfl rfl hl.1 rfl (lv_room (Nat.le_of_ble_eq_true rfl)) dX1_askThing_20 ⟨Nat.le_of_ble_eq_true rfl, Nat.le_of_ble_eq_true rfl⟩) hD hS hA (fun _ => rfl) (fun u20 H locs hr20 hP hD hS => ?_)
      obtain ⟨F1, A1, Q1⟩ := u20
      obtain ⟨hm1, ho1, he1, hq1⟩ := hr20
      dsimp only at hm1 ho1 he1 hq1 hP hD
      have kF1_0 : F1 0 = nI ax := (ho1.1 0 (by decide)).trans h0
      exact W.vret hx hb hr (fun zt zh zW => ⟨⟨(F1, A1, Q1), rfl, ⟨hm1.yes ⟨c6, d15⟩, ho1, he1, hq1⟩, by show va_P _ _ _ zt.heap; rw [zh]; exact hP⟩, hS.F zh⟩) hS.2.2 dX1_askThing_23

theorem wd_c_X1_askThingsOf_X1_askThingsOf_0 : Cond.fieldLink RX1 32 "PointTrees" "blockFrom" "[I" ∈ wsX1_askThingsOf := by decide +kernel
theorem wd_c_X1_askThingsOf_X1_askThingsOf_1 : Cond.fieldLink RX1 35 "PointTrees" "blockTo" "[I" ∈ wsX1_askThingsOf := by decide +kernel
theorem wd_c_X1_askThingsOf_X1_askThingsOf_2 : Cond.fieldLink RX1 28 "PointTrees" "order" "[I" ∈ wsX1_askThingsOf := by decide +kernel
theorem iw_c_X1_askThingsOf_wsX10 : ∀ w ∈ wsX10, w ∈ wsX1_askThingsOf := fun _ h => List.mem_cons_of_mem _ (List.mem_append_left _ (List.mem_append_right _ h))
theorem iw_c_X1_askThingsOf_wsX00 : ∀ w ∈ wsX00, w ∈ wsX1_askThingsOf := fun _ h => List.mem_cons_of_mem _ (List.mem_append_right _ h)
set_option maxHeartbeats 4000000 in
set_option maxRecDepth 100000 in
theorem c_X1_askThingsOf (l : Launch) (dC : Nat → ClassId) (dI : Nat → Nat → Nat) (a : Nat → Nat) (c : Nat → ClassId) (F : Nat → Int32) (A : Nat → Nat → Int32) (Q : Nat → Int64) (sz : Nat) (ax : Nat) (h0 : F 0 = nI ax) (hax : ax ≤ 3) (b f t : Nat) (od : Nat → Nat) (hb1 : b < 31) (hf8 : A 8 b = nI f) (ht9 : A 9 b = nI t) (ht : t ≤ 64) (hft : f ≤ t) (hod : ∀ i, f ≤ i → i < t → A 7 i = nI (od i) ∧ od i < 64) (rel : Nat) (hrel : rel ≤ 3) (fd : Nat → Prop) (fc : Nat) (hk : pt_ask fd fc F A) : Met l yX1_askThingsOf wsX1_askThingsOf (pt_rm 4) (pt_W (dC, dI) vwCl (pt_xt c) (pt_xw a c F A Q) pt_nw sz [.ref (a 0), .int (nI b), .int (nI rel)]) (va_Qv (fun (u : pt_XS) => pt_ask (pt_run fd od (pt_Px ax rel (A 3) (A 4) (A 13)) f t) (fc + pt_cnt (fun k => f ≤ k ∧ (pt_Px ax rel (A 3) (A 4) (A 13)) (od k)) t) u.1 u.2.1 ∧ pt_oth F u.1 A u.2.1 ∧ u.2.1 16 = A 16 ∧ u.2.2 = Q) (fun u t => va_P (dC, dI) vwCl (pt_xw a c u.1 u.2.1 u.2.2) t.heap) (va_A (pt_xw a c F A Q) sz)) 0 0 (va_A (pt_xw a c F A Q) sz) := by
  refine Met.ofW (cc := cX1_askThingsOf) (maxL := 4) (ret := none) (by decide) rfl ?_
  intro p e s m args below meth cd s₁ B hml hv
  obtain ⟨rfl, hsz, hP, hK, hN, hD0⟩ := hv
  have hx := B.exec
  have hb := B.bytes
  have hr := B.returns
  have hts := atoms_spec (ws := wsX1_askThingsOf) B.pre
  have hown : s.vm.findClass RX1 = some m.cls := findClass_of_methodNamed B.named
  have hlocks := B.notSynchronized
  subst hsz
  have hD := hD0.self (sz := s.heap.size)
  generalize hAe : va_A (pt_xw a c F A Q) s.heap.size = AA at hD ⊢
  have hA : ∀ q : Nat, s.heap.size ≤ q → AA q := fun q h => by rw [← hAe]; exact Or.inr h
  have hS : va_S AA s.heap s.heap [] := va_S.rf
  have hl := lv_entry ([.ref (a 0), .int (nI b), .int (nI rel)]) (n := 4) (Nat.le_of_ble_eq_true rfl)
  rw [lg_entry_eq]
  generalize (lg_sl ([.ref (a 0), .int (nI b), .int (nI rel)]) ++ List.replicate (4 - (lg_sl ([.ref (a 0), .int (nI b), .int (nI rel)])).length) Slot.unset).toArray = ls at hl ⊢
  have hl : lv_has ls 4 [(0, .ref (a 0)), (1, .int (nI b)), (2, .int (nI rel))] := hl
  refine lv_aload_n hx hb dX1_askThingsOf_0 rfl (lv_at hl 0 rfl) ?_
  refine va_get (D := (dC, dI)) (ci := 1) (v := .ref (a 8)) (C := RX1) (T := TX1) (N := 18) hx hb hts iw_c_X1_askThingsOf_wsX10 hown hK hP 0 rfl rfl 8 (by decide) (hts _ wd_c_X1_askThingsOf_X1_askThingsOf_0) (fun _ h9 => h9) rfl dX1_askThingsOf_1 ?_
  refine lv_iload_n hx hb dX1_askThingsOf_4 rfl (lv_at hl 1 rfl) ?_
  refine pt_iald hx hb hK hP 5 3 rfl rfl b rfl (by omega) (by decide) dX1_askThingsOf_5 ?_
  refine pt_top (y := nI f) hf8 ?_
  refine lv_istore_n (lv' := [(3, .int (nI f)), (0, .ref (a 0)), (1, .int (nI b)), (2, .int (nI rel))]) hx hb dX1_askThingsOf_6 rfl hl (by decide) rfl (fun ls hl => ?_)
  refine pt_loopW (fun q : Nat × pt_XS => t - q.1) (fun q ls H locs => (f ≤ q.1 ∧ q.1 ≤ t) ∧ (pt_ask (pt_run fd od (pt_Px ax rel (A 3) (A 4) (A 13)) f q.1) (fc + pt_cnt (fun k => f ≤ k ∧ (pt_Px ax rel (A 3) (A 4) (A 13)) (od k)) q.1) q.2.1 q.2.2.1 ∧ pt_oth F q.2.1 A q.2.2.1 ∧ q.2.2.1 16 = A 16 ∧ q.2.2.2 = Q) ∧ va_P (dC, dI) vwCl (pt_xw a c q.2.1 q.2.2.1 q.2.2.2) H ∧ va_D AA (pt_xw a c q.2.1 q.2.2.1 q.2.2.2) ∧ va_S AA s.heap H locs ∧ lv_has ls 4 [(3, .int (nI q.1)), (0, .ref (a 0)), (1, .int (nI b)), (2, .int (nI rel))]) ?_ (f, F, A, Q) _ _ _ ⟨⟨Nat.le_refl _, hft⟩, ⟨hk.c (fun x => pt_run_0) (by show _ = _ + pt_cnt _ f; rw [pt_cntr_0]; rfl), pt_oth.rf, rfl, rfl⟩, hP, hD, hS, hl⟩
  intro ⟨i, Fi, Ai, Qi⟩ ls H locs ⟨⟨hfi, hit⟩, ⟨hki, hoi, hei, hqi⟩, hP, hD, hS, hl⟩ ih
  dsimp only at hfi hit hki hoi hei hqi hP hD hl ih
  have ki0 : Fi 0 = nI ax := (hoi.1 0 (by decide)).trans h0
  refine lv_iload_n hx hb dX1_askThingsOf_7 rfl (lv_at hl 0 rfl) ?_
  refine lv_aload_n hx hb dX1_askThingsOf_8 rfl (lv_at hl 1 rfl) ?_
  refine va_get (D := (dC, dI)) (ci := 1) (v := .ref (a 9)) (C := RX1) (T := TX1) (N := 18) hx hb hts iw_c_X1_askThingsOf_wsX10 hown hK hP 0 rfl rfl 9 (by decide) (hts _ wd_c_X1_askThingsOf_X1_askThingsOf_1) (fun _ h9 => h9) rfl dX1_askThingsOf_9 ?_
  refine lv_iload_n hx hb dX1_askThingsOf_12 rfl (lv_at hl 2 rfl) ?_
  refine pt_iald hx hb hK hP 6 4 rfl rfl b rfl (by omega) (by decide) dX1_askThingsOf_13 ?_
  refine pt_top (y := nI t) ((congrFun (hoi.2 9 (by decide) (by decide)) b).trans ht9) ?_
  refine lv_icmp_ge (tgt := 34) hx hb dX1_askThingsOf_14 (by decide) (fun c14 => ?_) (fun c14 => ?_)
  · have hie : i = t := by have := (nI_leI (by omega) (by omega)).mp c14; omega
    subst hie
    exact W.vret hx hb hr (fun zt zh zW => ⟨⟨(Fi, Ai, Qi), rfl, ⟨hki, hoi, hei, hqi⟩, by show va_P _ _ _ zt.heap; rw [zh]; exact hP⟩, hS.F zh⟩) hS.2.2 dX1_askThingsOf_34
  · have hlt : i < t := Nat.not_le.mp (fun q => c14 ((nI_leI (by omega) (by omega)).mpr q))
    have hoj := (hod i hfi hlt).2
    refine lv_aload_n hx hb dX1_askThingsOf_17 rfl (lv_at hl 1 rfl) ?_
    refine lv_aload_n hx hb dX1_askThingsOf_18 rfl (lv_at hl 1 rfl) ?_
    refine va_get (D := (dC, dI)) (ci := 1) (v := .ref (a 7)) (C := RX1) (T := TX1) (N := 18) hx hb hts iw_c_X1_askThingsOf_wsX10 hown hK hP 0 rfl rfl 7 (by decide) (hts _ wd_c_X1_askThingsOf_X1_askThingsOf_2) (fun _ h9 => h9) rfl dX1_askThingsOf_19 ?_
    refine lv_iload_n hx hb dX1_askThingsOf_22 rfl (lv_at hl 0 rfl) ?_
    refine pt_iald hx hb hK hP 4 2 rfl rfl i rfl (by omega) (by decide) dX1_askThingsOf_23 ?_
    refine pt_top (y := nI (od i)) ((congrFun (hoi.2 7 (by decide) (by decide)) i).trans (hod i hfi hlt).1) ?_
    refine lv_iload_n hx hb dX1_askThingsOf_24 rfl (lv_at hl 3 rfl) ?_
    refine pt_callv (wf := (fun u : pt_XS => pt_xw a c u.1 u.2.1 u.2.2)) (va_runV (As := [.int (nI (od i)), .int (nI rel)]) (rest := []) ⟨hx, hb, hml, hown, hts⟩ (c_X1_askThing l dC dI a c Fi Ai Qi _ ax ki0 hax (od i) rel (by omega) hrel _ _ hki) (cwV 2 hts gX1_askThingsOf_X1_askThing rfl rfl rfl (by decide +kernel) ⟨Nat.le_of_ble_eq_true rfl, Nat.le_of_ble_eq_true rfl⟩) (pt_wv1 hP hK hN hD (q0 := 0) rfl) rfl rfl hl.1 rfl (lv_room (Nat.le_of_ble_eq_true rfl)) dX1_askThingsOf_25 ⟨Nat.le_of_ble_eq_true rfl, Nat.le_of_ble_eq_true rfl⟩) hD hS hA (fun _ => rfl) (fun u25 H locs hr25 hP hD hS => ?_)
    obtain ⟨F1, A1, Q1⟩ := u25
    obtain ⟨hm1, ho1, he1, hq1⟩ := hr25
    dsimp only at hm1 ho1 he1 hq1 hP hD
    have kF1_0 : F1 0 = nI ax := (ho1.1 0 (by decide)).trans ki0
    refine lv_iinc (v := nI (i + 1)) (lv' := [(3, .int (nI (i + 1))), (0, .ref (a 0)), (1, .int (nI b)), (2, .int (nI rel))]) hx hb dX1_askThingsOf_28 hl (k := 0) rfl (nI_1 _) (by decide) rfl (fun ls hl => ?_)
    refine lv_goto (tgt := 7) hx hb dX1_askThingsOf_31 (by decide) ?_
    rw [hoi.2 3 (by decide) (by decide), hoi.2 4 (by decide) (by decide), hoi.2 13 (by decide) (by decide)] at hm1
    exact ih (i + 1, F1, A1, Q1) _ _ _ ⟨⟨by show f ≤ i + 1; omega, by show i + 1 ≤ t; omega⟩, ⟨hm1.c (fun x => pt_run_s hfi) (by show _ = fc + pt_cnt _ (i + 1); rw [pt_cntr_s hfi, Nat.add_assoc]), hoi.tr ho1, he1.trans hei, hq1.trans hqi⟩, hP, hD, hS, lv_sub hl [0, 1, 2, 3] rfl⟩ (by show t - (i + 1) < t - i; omega)

theorem wd_c_X1_findAllOf_X1_findAllOf_0 : Cond.fieldLink RX1 32 "PointTrees" "blockFrom" "[I" ∈ wsX1_findAllOf := by decide +kernel
theorem wd_c_X1_findAllOf_X1_findAllOf_1 : Cond.fieldLink RX1 35 "PointTrees" "blockTo" "[I" ∈ wsX1_findAllOf := by decide +kernel
theorem wd_c_X1_findAllOf_X1_findAllOf_2 : Cond.fieldLink RX1 15 "PointTrees" "isThere" "[Z" ∈ wsX1_findAllOf := by decide +kernel
theorem wd_c_X1_findAllOf_X1_findAllOf_3 : Cond.fieldLink RX1 28 "PointTrees" "order" "[I" ∈ wsX1_findAllOf := by decide +kernel
theorem wd_c_X1_findAllOf_X1_findAllOf_4 : Cond.fieldLink RX1 53 "PointTrees" "toldCounts" "[I" ∈ wsX1_findAllOf := by decide +kernel
theorem iw_c_X1_findAllOf_wsX10 : ∀ w ∈ wsX10, w ∈ wsX1_findAllOf := fun _ h => List.mem_cons_of_mem _ (List.mem_append_right _ h)
set_option maxHeartbeats 4000000 in
set_option maxRecDepth 100000 in
theorem c_X1_findAllOf (l : Launch) (dC : Nat → ClassId) (dI : Nat → Nat → Nat) (a : Nat → Nat) (c : Nat → ClassId) (F : Nat → Int32) (A : Nat → Nat → Int32) (Q : Nat → Int64) (sz : Nat) (b f t : Nat) (od : Nat → Nat) (hb1 : b < 31) (hf8 : A 8 b = nI f) (ht9 : A 9 b = nI t) (ht : t ≤ 64) (hft : f ≤ t) (hod : ∀ i, f ≤ i → i < t → A 7 i = nI (od i) ∧ od i < 64) (ft : Nat) (hf2 : A 16 2 = nI ft) (fd : Nat → Prop) (fc : Nat) (hk : pt_ask fd fc F A) : Met l yX1_findAllOf wsX1_findAllOf (pt_rm 1) (pt_W (dC, dI) vwCl (pt_xt c) (pt_xw a c F A Q) pt_nw sz [.ref (a 0), .int (nI b)]) (va_Qv (fun (u : pt_XS) => pt_ask (pt_run fd od (fun t => ¬ A 3 t = 0) f t) (fc + pt_cnt (fun k => f ≤ k ∧ (fun t => ¬ A 3 t = 0) (od k)) t) u.1 u.2.1 ∧ pt_oth F u.1 A u.2.1 ∧ u.2.1 16 = upd (A 16) 2 (nI (ft + pt_cnt (fun k => f ≤ k ∧ (fun t => ¬ A 3 t = 0) (od k)) t)) ∧ u.2.2 = Q) (fun u t => va_P (dC, dI) vwCl (pt_xw a c u.1 u.2.1 u.2.2) t.heap) (va_A (pt_xw a c F A Q) sz)) 0 0 (va_A (pt_xw a c F A Q) sz) := by
  refine Met.ofW (cc := cX1_findAllOf) (maxL := 3) (ret := none) (by decide) rfl ?_
  intro p e s m args below meth cd s₁ B hml hv
  obtain ⟨rfl, hsz, hP, hK, hN, hD0⟩ := hv
  have hx := B.exec
  have hb := B.bytes
  have hr := B.returns
  have hts := atoms_spec (ws := wsX1_findAllOf) B.pre
  have hown : s.vm.findClass RX1 = some m.cls := findClass_of_methodNamed B.named
  have hlocks := B.notSynchronized
  subst hsz
  have hD := hD0.self (sz := s.heap.size)
  generalize hAe : va_A (pt_xw a c F A Q) s.heap.size = AA at hD ⊢
  have hA : ∀ q : Nat, s.heap.size ≤ q → AA q := fun q h => by rw [← hAe]; exact Or.inr h
  have hS : va_S AA s.heap s.heap [] := va_S.rf
  have hl := lv_entry ([.ref (a 0), .int (nI b)]) (n := 3) (Nat.le_of_ble_eq_true rfl)
  rw [lg_entry_eq]
  generalize (lg_sl ([.ref (a 0), .int (nI b)]) ++ List.replicate (3 - (lg_sl ([.ref (a 0), .int (nI b)])).length) Slot.unset).toArray = ls at hl ⊢
  have hl : lv_has ls 3 [(0, .ref (a 0)), (1, .int (nI b))] := hl
  refine lv_aload_n hx hb dX1_findAllOf_0 rfl (lv_at hl 0 rfl) ?_
  refine va_get (D := (dC, dI)) (ci := 1) (v := .ref (a 8)) (C := RX1) (T := TX1) (N := 18) hx hb hts iw_c_X1_findAllOf_wsX10 hown hK hP 0 rfl rfl 8 (by decide) (hts _ wd_c_X1_findAllOf_X1_findAllOf_0) (fun _ h9 => h9) rfl dX1_findAllOf_1 ?_
  refine lv_iload_n hx hb dX1_findAllOf_4 rfl (lv_at hl 1 rfl) ?_
  refine pt_iald hx hb hK hP 5 3 rfl rfl b rfl (by omega) (by decide) dX1_findAllOf_5 ?_
  refine pt_top (y := nI f) hf8 ?_
  refine lv_istore_n (lv' := [(2, .int (nI f)), (0, .ref (a 0)), (1, .int (nI b))]) hx hb dX1_findAllOf_6 rfl hl (by decide) rfl (fun ls hl => ?_)
  have e16 : A 16 = upd (A 16) 2 (nI ft) := by funext z; unfold upd; split <;> first | rfl | (rename_i q; subst q; exact hf2)
  refine pt_loopW (fun q : Nat × pt_XS => t - q.1) (fun q ls H locs => (f ≤ q.1 ∧ q.1 ≤ t) ∧ (pt_ask (pt_run fd od (fun t => ¬ A 3 t = 0) f q.1) (fc + pt_cnt (fun k => f ≤ k ∧ (fun t => ¬ A 3 t = 0) (od k)) q.1) q.2.1 q.2.2.1 ∧ pt_oth F q.2.1 A q.2.2.1 ∧ q.2.2.1 16 = upd (A 16) 2 (nI (ft + pt_cnt (fun k => f ≤ k ∧ (fun t => ¬ A 3 t = 0) (od k)) q.1)) ∧ q.2.2.2 = Q) ∧ va_P (dC, dI) vwCl (pt_xw a c q.2.1 q.2.2.1 q.2.2.2) H ∧ va_D AA (pt_xw a c q.2.1 q.2.2.1 q.2.2.2) ∧ va_S AA s.heap H locs ∧ lv_has ls 3 [(2, .int (nI q.1)), (0, .ref (a 0)), (1, .int (nI b))]) ?_ (f, F, A, Q) _ _ _ ⟨⟨Nat.le_refl _, hft⟩, ⟨hk.c (fun x => pt_run_0) (by show _ = _ + pt_cnt _ f; rw [pt_cntr_0]; rfl), pt_oth.rf, by show A 16 = upd _ 2 (nI (ft + pt_cnt _ f)); rw [pt_cntr_0]; exact e16, rfl⟩, hP, hD, hS, hl⟩
  intro ⟨i, Fi, Ai, Qi⟩ ls H locs ⟨⟨hfi, hit⟩, ⟨hki, hoi, hei, hqi⟩, hP, hD, hS, hl⟩ ih
  dsimp only at hfi hit hki hoi hei hqi hP hD hl ih
  refine lv_iload_n hx hb dX1_findAllOf_7 rfl (lv_at hl 0 rfl) ?_
  refine lv_aload_n hx hb dX1_findAllOf_8 rfl (lv_at hl 1 rfl) ?_
  refine va_get (D := (dC, dI)) (ci := 1) (v := .ref (a 9)) (C := RX1) (T := TX1) (N := 18) hx hb hts iw_c_X1_findAllOf_wsX10 hown hK hP 0 rfl rfl 9 (by decide) (hts _ wd_c_X1_findAllOf_X1_findAllOf_1) (fun _ h9 => h9) rfl dX1_findAllOf_9 ?_
  refine lv_iload_n hx hb dX1_findAllOf_12 rfl (lv_at hl 2 rfl) ?_
  refine pt_iald hx hb hK hP 6 4 rfl rfl b rfl (by omega) (by decide) dX1_findAllOf_13 ?_
  refine pt_top (y := nI t) ((congrFun (hoi.2 9 (by decide) (by decide)) b).trans ht9) ?_
  refine lv_icmp_ge (tgt := 57) hx hb dX1_findAllOf_14 (by decide) (fun c14 => ?_) (fun c14 => ?_)
  · have hie : i = t := by have := (nI_leI (by omega) (by omega)).mp c14; omega
    subst hie
    exact W.vret hx hb hr (fun zt zh zW => ⟨⟨(Fi, Ai, Qi), rfl, ⟨hki, hoi, hei, hqi⟩, by show va_P _ _ _ zt.heap; rw [zh]; exact hP⟩, hS.F zh⟩) hS.2.2 dX1_findAllOf_57
  · have hlt : i < t := Nat.not_le.mp (fun q => c14 ((nI_leI (by omega) (by omega)).mpr q))
    have hoj := (hod i hfi hlt).2
    refine lv_aload_n hx hb dX1_findAllOf_17 rfl (lv_at hl 1 rfl) ?_
    refine va_get (D := (dC, dI)) (ci := 1) (v := .ref (a 3)) (C := RX1) (T := TX1) (N := 18) hx hb hts iw_c_X1_findAllOf_wsX10 hown hK hP 0 rfl rfl 3 (by decide) (hts _ wd_c_X1_findAllOf_X1_findAllOf_2) (fun _ h9 => h9) rfl dX1_findAllOf_18 ?_
    refine lv_aload_n hx hb dX1_findAllOf_21 rfl (lv_at hl 1 rfl) ?_
    refine va_get (D := (dC, dI)) (ci := 1) (v := .ref (a 7)) (C := RX1) (T := TX1) (N := 18) hx hb hts iw_c_X1_findAllOf_wsX10 hown hK hP 0 rfl rfl 7 (by decide) (hts _ wd_c_X1_findAllOf_X1_findAllOf_3) (fun _ h9 => h9) rfl dX1_findAllOf_22 ?_
    refine lv_iload_n hx hb dX1_findAllOf_25 rfl (lv_at hl 0 rfl) ?_
    refine pt_iald hx hb hK hP 4 2 rfl rfl i rfl (by omega) (by decide) dX1_findAllOf_26 ?_
    refine pt_top (y := nI (od i)) ((congrFun (hoi.2 7 (by decide) (by decide)) i).trans (hod i hfi hlt).1) ?_
    refine pt_zald hx hb hK hP 1 0 rfl rfl (od i) rfl (by omega) (by decide) dX1_findAllOf_27 ?_
    refine lv_if_eq (tgt := 51) hx hb dX1_findAllOf_28 (by decide) (fun c28 => ?_) (fun c28 => ?_)
    · refine lv_iinc (v := nI (i + 1)) (lv' := [(2, .int (nI (i + 1))), (0, .ref (a 0)), (1, .int (nI b))]) hx hb dX1_findAllOf_51 hl (k := 0) rfl (nI_1 _) (by decide) rfl (fun ls hl => ?_)
      refine lv_goto (tgt := 7) hx hb dX1_findAllOf_54 (by decide) ?_
      have hno : ¬ (fun t => ¬ A 3 t = 0) (od i) := fun q => q ((congrFun (hoi.2 3 (by decide) (by decide)) (od i)).symm.trans c28)
      exact ih (i + 1, Fi, Ai, Qi) _ _ _ ⟨⟨by show f ≤ i + 1; omega, by show i + 1 ≤ t; omega⟩, ⟨(hki.no (t := od i) hno).c (fun x => pt_run_s (P := (fun t => ¬ A 3 t = 0)) hfi) (by show _ = fc + pt_cnt _ (i + 1); rw [pt_cntr_s (P := fun k => (fun t => ¬ A 3 t = 0) (od k)) hfi, Nat.add_assoc]), hoi, by show Ai 16 = upd _ 2 (nI (ft + pt_cnt _ (i + 1))); rw [pt_cntr_s (P := fun k => (fun t => ¬ A 3 t = 0) (od k)) hfi, pt_cb_f hno]; exact hei, hqi⟩, hP, hD, hS, lv_sub hl [0, 1, 2] rfl⟩ (by show t - (i + 1) < t - i; omega)
    · refine lv_aload_n hx hb dX1_findAllOf_31 rfl (lv_at hl 1 rfl) ?_
      refine lv_aload_n hx hb dX1_findAllOf_32 rfl (lv_at hl 1 rfl) ?_
      refine va_get (D := (dC, dI)) (ci := 1) (v := .ref (a 7)) (C := RX1) (T := TX1) (N := 18) hx hb hts iw_c_X1_findAllOf_wsX10 hown hK hP 0 rfl rfl 7 (by decide) (hts _ wd_c_X1_findAllOf_X1_findAllOf_3) (fun _ h9 => h9) rfl dX1_findAllOf_33 ?_
      refine lv_iload_n hx hb dX1_findAllOf_36 rfl (lv_at hl 0 rfl) ?_
      refine pt_iald hx hb hK hP 4 2 rfl rfl i rfl (by omega) (by decide) dX1_findAllOf_37 ?_
      refine pt_top (y := nI (od i)) ((congrFun (hoi.2 7 (by decide) (by decide)) i).trans (hod i hfi hlt).1) ?_
      refine pt_callv (wf := (fun u : pt_XS => pt_xw a c u.1 u.2.1 u.2.2)) (va_runV (As := [.int (nI (od i))]) (rest := []) ⟨hx, hb, hml, hown, hts⟩ (c_X1_markFound l dC dI a c Fi Ai Qi _ (od i) (by omega) _ _ hki) (cwV 1 hts gX1_findAllOf_X1_markFound rfl rfl rfl (by decide +kernel) ⟨Nat.le_of_ble_eq_true rfl, Nat.le_of_ble_eq_true rfl⟩) (pt_wv1 hP hK hN hD (q0 := 0) rfl) rfl rfl hl.1 rfl (lv_room (Nat.le_of_ble_eq_true rfl)) dX1_findAllOf_38 ⟨Nat.le_of_ble_eq_true rfl, Nat.le_of_ble_eq_true rfl⟩) hD hS hA (fun _ => rfl) (fun u38 H locs hr38 hP hD hS => ?_)
      obtain ⟨F1, A1, Q1⟩ := u38
      obtain ⟨hm1, ho1, he1, hq1⟩ := hr38
      dsimp only at hm1 ho1 he1 hq1 hP hD
      refine lv_aload_n hx hb dX1_findAllOf_41 rfl (lv_at hl 1 rfl) ?_
      refine va_get (D := (dC, dI)) (ci := 1) (v := .ref (a 16)) (C := RX1) (T := TX1) (N := 18) hx hb hts iw_c_X1_findAllOf_wsX10 hown hK hP 0 rfl rfl 16 (by decide) (hts _ wd_c_X1_findAllOf_X1_findAllOf_4) (fun _ h9 => h9) rfl dX1_findAllOf_42 ?_
      refine lv_iconst (v := nI 2) hx hb dX1_findAllOf_45 (by decide) ?_
      refine lv_dup2_11 hx hb dX1_findAllOf_46 rfl rfl ?_
      refine pt_iald hx hb hK hP 14 10 rfl rfl 2 rfl (by decide) (by decide) dX1_findAllOf_47 ?_
      refine pt_top (y := nI (ft + pt_cnt (fun k => f ≤ k ∧ (fun t => ¬ A 3 t = 0) (od k)) i)) (by rw [he1, hei, pt_upd]) ?_
      refine lv_iconst (v := nI 1) hx hb dX1_findAllOf_48 (by decide) ?_
      refine lv_iadd hx hb dX1_findAllOf_49 ?_
      refine pt_top (y := nI ((ft + pt_cnt (fun k => f ≤ k ∧ (fun t => ¬ A 3 t = 0) (od k)) i) + 1)) (nI_add _ _) ?_
      obtain ⟨A2, eA2⟩ : ∃ zz, zz = va_up A1 16 (upd (A1 16) 2 (nI ((ft + pt_cnt (fun k => f ≤ k ∧ (fun t => ¬ A 3 t = 0) (od k)) i) + 1))) := ⟨_, rfl⟩
      refine pt_iast hx hb hK hP hD hS 14 10 rfl rfl 2 rfl (by decide) (by decide) (ws' := (pt_xw a c F1 A2 Q1)) (by rw [eA2]; rfl) dX1_findAllOf_50 (fun H locs hP hD hS => ?_)
      refine lv_iinc (v := nI (i + 1)) (lv' := [(2, .int (nI (i + 1))), (0, .ref (a 0)), (1, .int (nI b))]) hx hb dX1_findAllOf_51 hl (k := 0) rfl (nI_1 _) (by decide) rfl (fun ls hl => ?_)
      refine lv_goto (tgt := 7) hx hb dX1_findAllOf_54 (by decide) ?_
      have hyes : (fun t => ¬ A 3 t = 0) (od i) := fun q => c28 ((congrFun (hoi.2 3 (by decide) (by decide)) (od i)).trans q)
      have ea14 : A2 14 = A1 14 := by rw [eA2]; exact pt_up_ne (by decide)
      have eo : pt_oth F F1 A A2 := (hoi.tr ho1).tr ⟨fun _ _ => rfl, fun j _ h2 => by rw [eA2]; exact pt_up_ne h2⟩
      have e16n : A2 16 = upd (A 16) 2 (nI (ft + pt_cnt (fun k => f ≤ k ∧ (fun t => ¬ A 3 t = 0) (od k)) (i + 1))) := by rw [eA2, pt_up, pt_cntr_s (P := fun k => (fun t => ¬ A 3 t = 0) (od k)) hfi, pt_cb_t hyes, he1, hei]; funext z; unfold upd; split <;> rfl
      exact ih (i + 1, F1, A2, Q1) _ _ _ ⟨⟨by show f ≤ i + 1; omega, by show i + 1 ≤ t; omega⟩, ⟨((hm1.m rfl ea14).yes hyes).c (fun x => pt_run_s (P := (fun t => ¬ A 3 t = 0)) hfi) (by show _ = fc + pt_cnt _ (i + 1); rw [pt_cntr_s (P := fun k => (fun t => ¬ A 3 t = 0) (od k)) hfi, Nat.add_assoc]), eo, e16n, hq1.trans hqi⟩, hP, hD, hS, lv_sub hl [0, 1, 2] rfl⟩ (by show t - (i + 1) < t - i; omega)

theorem pt_ask_0 {F : Nat → Int32} {A : Nat → Nat → Int32} (h : F 15 = nI 0) (ha : ∀ x, x < 64 → A 14 x = 0) : pt_ask (fun _ => False) 0 F A := ⟨h, fun x hx => by rw [ha x hx]; exact pt_B.zero (fun q => q), by rw [pt_cnt_none 64 (fun _ _ q => q)]; exact Nat.le_refl 0⟩

theorem wd_c_X1_forgetAsked_X1_forgetAsked_0 : Cond.fieldLink RX1 114 "PointTrees" "foundCount" "I" ∈ wsX1_forgetAsked := by decide +kernel
theorem wd_c_X1_forgetAsked_X1_forgetAsked_1 : Cond.fieldLink RX1 53 "PointTrees" "toldCounts" "[I" ∈ wsX1_forgetAsked := by decide +kernel
theorem wd_c_X1_forgetAsked_X1_forgetAsked_2 : Cond.fieldLink RX1 50 "PointTrees" "isFound" "[Z" ∈ wsX1_forgetAsked := by decide +kernel
theorem iw_c_X1_forgetAsked_wsX10 : ∀ w ∈ wsX10, w ∈ wsX1_forgetAsked := fun _ h => List.mem_cons_of_mem _ (List.mem_append_right _ h)
set_option maxHeartbeats 4000000 in
set_option maxRecDepth 100000 in
theorem c_X1_forgetAsked (l : Launch) (dC : Nat → ClassId) (dI : Nat → Nat → Nat) (a : Nat → Nat) (c : Nat → ClassId) (F : Nat → Int32) (A : Nat → Nat → Int32) (Q : Nat → Int64) (sz : Nat) : Met l yX1_forgetAsked wsX1_forgetAsked (pt_rm 0) (pt_W (dC, dI) vwCl (pt_xt c) (pt_xw a c F A Q) pt_nw sz [.ref (a 0)]) (va_Qv (fun (u : pt_XS) => pt_ask (fun _ => False) 0 u.1 u.2.1 ∧ (∀ x, x < 3 → u.2.1 16 x = nI 0) ∧ pt_oth F u.1 A u.2.1 ∧ u.2.2 = Q) (fun u t => va_P (dC, dI) vwCl (pt_xw a c u.1 u.2.1 u.2.2) t.heap) (va_A (pt_xw a c F A Q) sz)) 0 0 (va_A (pt_xw a c F A Q) sz) := by
  refine Met.ofW (cc := cX1_forgetAsked) (maxL := 2) (ret := none) (by decide) rfl ?_
  intro p e s m args below meth cd s₁ B hml hv
  obtain ⟨rfl, hsz, hP, hK, hN, hD0⟩ := hv
  have hx := B.exec
  have hb := B.bytes
  have hr := B.returns
  have hts := atoms_spec (ws := wsX1_forgetAsked) B.pre
  have hown : s.vm.findClass RX1 = some m.cls := findClass_of_methodNamed B.named
  have hlocks := B.notSynchronized
  subst hsz
  have hD := hD0.self (sz := s.heap.size)
  generalize hAe : va_A (pt_xw a c F A Q) s.heap.size = AA at hD ⊢
  have hA : ∀ q : Nat, s.heap.size ≤ q → AA q := fun q h => by rw [← hAe]; exact Or.inr h
  have hS : va_S AA s.heap s.heap [] := va_S.rf
  have hl := lv_entry ([.ref (a 0)]) (n := 2) (Nat.le_of_ble_eq_true rfl)
  rw [lg_entry_eq]
  generalize (lg_sl ([.ref (a 0)]) ++ List.replicate (2 - (lg_sl ([.ref (a 0)])).length) Slot.unset).toArray = ls at hl ⊢
  have hl : lv_has ls 2 [(0, .ref (a 0))] := hl
  refine lv_iconst (v := nI 0) hx hb dX1_forgetAsked_0 (by decide) ?_
  refine lv_istore_n (lv' := [(1, .int (nI 0)), (0, .ref (a 0))]) hx hb dX1_forgetAsked_1 rfl hl (by decide) rfl (fun ls hl => ?_)
  refine pt_loopW (fun q : Nat × (Nat → Nat → Int32) => 64 - q.1) (fun q ls H locs => q.1 ≤ 64 ∧ ((∀ x, x < q.1 → q.2 14 x = 0) ∧ ∀ j, j ≠ 14 → q.2 j = A j) ∧ va_P (dC, dI) vwCl (pt_xw a c F q.2 Q) H ∧ va_D AA (pt_xw a c F q.2 Q) ∧ va_S AA s.heap H locs ∧ lv_has ls 2 [(1, .int (nI q.1)), (0, .ref (a 0))]) ?_ (0, A) _ _ _ ⟨Nat.zero_le _, ⟨fun x hx => absurd hx (Nat.not_lt_zero _), fun _ _ => rfl⟩, hP, hD, hS, hl⟩
  intro ⟨i, Ai⟩ ls H locs ⟨hi, ⟨hz, hsa⟩, hP, hD, hS, hl⟩ ih
  dsimp only at hi hz hsa hP hD hl ih
  refine lv_iload_n hx hb dX1_forgetAsked_2 rfl (lv_at hl 0 rfl) ?_
  refine lv_bipush (v := nI 64) hx hb dX1_forgetAsked_3 (by decide) ?_
  refine lv_icmp_ge (tgt := 21) hx hb dX1_forgetAsked_5 (by decide) (fun c5 => ?_) (fun c5 => ?_)
  · have hie : i = 64 := by have := (nI_leI (by omega) (by omega)).mp c5; omega
    subst hie
    refine lv_aload_n hx hb dX1_forgetAsked_21 rfl (lv_at hl 1 rfl) ?_
    refine lv_iconst (v := nI 0) hx hb dX1_forgetAsked_22 (by decide) ?_
    obtain ⟨F1, eF1⟩ : ∃ zz, zz = upd F 15 (nI 0) := ⟨_, rfl⟩
    refine va_put (D := (dC, dI)) (ci := 1) (v := .int (nI 0)) (ty := .int) (C := RX1) (T := TX1) (N := 18) hx hb hts iw_c_X1_forgetAsked_wsX10 tyX1 tyX1_ok nmX1 hown hK hP hD hS 0 rfl rfl 15 (by decide) (hts _ wd_c_X1_forgetAsked_X1_forgetAsked_0) (fun _ h9 => h9) rfl (by decide +kernel) rfl rfl (Nat.le_of_ble_eq_true rfl) dX1_forgetAsked_23 (fun H locs hP hD hS => ?_)
    have hP : va_P (dC, dI) vwCl (pt_xw a c F1 Ai Q) H := by rw [eF1]; exact hP
    have hD : va_D AA (pt_xw a c F1 Ai Q) := by rw [eF1]; exact hD
    have kF1_15 : F1 15 = nI 0 := by rw [eF1, pt_upd]
    refine lv_iconst (v := nI 0) hx hb dX1_forgetAsked_26 (by decide) ?_
    refine lv_istore_n (lv' := [(1, .int (nI 0)), (0, .ref (a 0))]) hx hb dX1_forgetAsked_27 rfl hl (by decide) rfl (fun ls hl => ?_)
    refine pt_loopW (fun q : Nat × (Nat → Nat → Int32) => 3 - q.1) (fun q ls H locs => q.1 ≤ 3 ∧ ((∀ x, x < q.1 → q.2 16 x = nI 0) ∧ ∀ j, j ≠ 16 → q.2 j = Ai j) ∧ va_P (dC, dI) vwCl (pt_xw a c F1 q.2 Q) H ∧ va_D AA (pt_xw a c F1 q.2 Q) ∧ va_S AA s.heap H locs ∧ lv_has ls 2 [(1, .int (nI q.1)), (0, .ref (a 0))]) ?_ (0, Ai) _ _ _ ⟨Nat.zero_le _, ⟨fun x hx => absurd hx (Nat.not_lt_zero _), fun _ _ => rfl⟩, hP, hD, hS, hl⟩
    intro ⟨k, Ak⟩ ls H locs ⟨hk, ⟨hzk, hsk⟩, hP, hD, hS, hl⟩ ihk
    dsimp only at hk hzk hsk hP hD hl ihk
    refine lv_iload_n hx hb dX1_forgetAsked_28 rfl (lv_at hl 0 rfl) ?_
    refine lv_iconst (v := nI 3) hx hb dX1_forgetAsked_29 (by decide) ?_
    refine lv_icmp_ge (tgt := 46) hx hb dX1_forgetAsked_30 (by decide) (fun c30 => ?_) (fun c30 => ?_)
    · have hke : k = 3 := by have := (nI_leI (by omega) (by omega)).mp c30; omega
      subst hke
      exact W.vret hx hb hr (fun zt zh zW => ⟨⟨(F1, Ak, Q), rfl, ⟨pt_ask_0 (by show F1 15 = nI 0; rw [eF1]; exact pt_upd) (fun x hx => by show Ak 14 x = 0; rw [hsk 14 (by decide)]; exact hz x hx), hzk, ⟨fun j hj => by show F1 j = F j; rw [eF1]; exact pt_upd_ne hj, fun j h1 h2 => (hsk j h2).trans (hsa j h1)⟩, rfl⟩, by show va_P _ _ _ zt.heap; rw [zh]; exact hP⟩, hS.F zh⟩) hS.2.2 dX1_forgetAsked_46
    · have hltk : k < 3 := Nat.not_le.mp (fun q => c30 ((nI_leI (by omega) (by omega)).mpr q))
      refine lv_aload_n hx hb dX1_forgetAsked_33 rfl (lv_at hl 1 rfl) ?_
      refine va_get (D := (dC, dI)) (ci := 1) (v := .ref (a 16)) (C := RX1) (T := TX1) (N := 18) hx hb hts iw_c_X1_forgetAsked_wsX10 hown hK hP 0 rfl rfl 16 (by decide) (hts _ wd_c_X1_forgetAsked_X1_forgetAsked_1) (fun _ h9 => h9) rfl dX1_forgetAsked_34 ?_
      refine lv_iload_n hx hb dX1_forgetAsked_37 rfl (lv_at hl 0 rfl) ?_
      refine lv_iconst (v := nI 0) hx hb dX1_forgetAsked_38 (by decide) ?_
      obtain ⟨A2, eA2⟩ : ∃ zz, zz = va_up Ak 16 (upd (Ak 16) k (nI 0)) := ⟨_, rfl⟩
      refine pt_iast hx hb hK hP hD hS 14 10 rfl rfl k rfl (by omega) (by decide) (ws' := (pt_xw a c F1 A2 Q)) (by rw [eA2]; rfl) dX1_forgetAsked_39 (fun H locs hP hD hS => ?_)
      refine lv_iinc (v := nI (k + 1)) (lv' := [(1, .int (nI (k + 1))), (0, .ref (a 0))]) hx hb dX1_forgetAsked_40 hl (k := 0) rfl (nI_1 _) (by decide) rfl (fun ls hl => ?_)
      refine lv_goto (tgt := 28) hx hb dX1_forgetAsked_43 (by decide) ?_
      exact ihk (k + 1, A2) _ _ _ ⟨by show k + 1 ≤ 3; omega, ⟨fun x hx => by show A2 16 x = nI 0; rw [eA2, pt_up]; exact pt_upd_s (g := fun _ => nI 0) hzk rfl x hx, fun j hj => by show A2 j = Ai j; rw [eA2, pt_up_ne hj]; exact hsk j hj⟩, hP, hD, hS, lv_sub hl [0, 1] rfl⟩ (by show 3 - (k + 1) < 3 - k; omega)
  · have hlt : i < 64 := Nat.not_le.mp (fun q => c5 ((nI_leI (by omega) (by omega)).mpr q))
    refine lv_aload_n hx hb dX1_forgetAsked_8 rfl (lv_at hl 1 rfl) ?_
    refine va_get (D := (dC, dI)) (ci := 1) (v := .ref (a 14)) (C := RX1) (T := TX1) (N := 18) hx hb hts iw_c_X1_forgetAsked_wsX10 hown hK hP 0 rfl rfl 14 (by decide) (hts _ wd_c_X1_forgetAsked_X1_forgetAsked_2) (fun _ h9 => h9) rfl dX1_forgetAsked_9 ?_
    refine lv_iload_n hx hb dX1_forgetAsked_12 rfl (lv_at hl 0 rfl) ?_
    refine lv_iconst (v := 0) hx hb dX1_forgetAsked_13 (by decide) ?_
    obtain ⟨A3, eA3⟩ : ∃ zz, zz = va_up Ai 14 (upd (Ai 14) i 0) := ⟨_, rfl⟩
    refine pt_zast hx hb hK hP hD hS 13 9 rfl rfl i rfl (by omega) (by decide) rfl (ws' := (pt_xw a c F A3 Q)) (by rw [eA3]; rfl) dX1_forgetAsked_14 (fun H locs hP hD hS => ?_)
    refine lv_iinc (v := nI (i + 1)) (lv' := [(1, .int (nI (i + 1))), (0, .ref (a 0))]) hx hb dX1_forgetAsked_15 hl (k := 0) rfl (nI_1 _) (by decide) rfl (fun ls hl => ?_)
    refine lv_goto (tgt := 2) hx hb dX1_forgetAsked_18 (by decide) ?_
    exact ih (i + 1, A3) _ _ _ ⟨by show i + 1 ≤ 64; omega, ⟨fun x hx => by show A3 14 x = 0; rw [eA3, pt_up]; exact pt_upd_s (g := fun _ => 0) hz rfl x hx, fun j hj => by show A3 j = A j; rw [eA3, pt_up_ne hj]; exact hsa j hj⟩, hP, hD, hS, lv_sub hl [0, 1] rfl⟩ (by show 64 - (i + 1) < 64 - i; omega)
