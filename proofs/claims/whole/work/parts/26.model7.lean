/-- the reference's cells hold the tree s -/
def pt_MT (ax N md : Nat) (s : pt_TS) (F : Nat → Int32) (A : Nat → Nat → Int32) : Prop := F 8 = nI s.1 ∧ pt_row N md s.2.1 (A 7) ∧ ∀ b, b < s.1 → A 9 b = nI (s.2.2.1 0 b) ∧ A 10 b = nI (s.2.2.1 1 b - s.2.2.1 0 b) ∧ A 11 b = nI (s.2.2.1 2 b) ∧ A 12 b = nI (s.2.2.1 3 b) ∧ ∀ x, x < ax → A 13 (3 * b + x) = s.2.2.2 0 b x ∧ A 14 (3 * b + x) = s.2.2.2 1 b x
/-- whose other half a block is going to be: 0 none, else the block's number and one -/
def pt_oI (o : Nat) : Int32 := if o = 0 then -1 else nI (o - 1)
theorem pt_oI_0 {o : Nat} (h : o = 0) : pt_oI o = -1 := if_pos h
theorem pt_oI_s {o : Nat} (h : ¬ o = 0) : pt_oI o = nI (o - 1) := if_neg h
def pt_so1 (o : Nat) (s : pt_TS) : pt_TS := if o = 0 then s else pt_seto (o - 1) s
theorem pt_so1_0 {s : pt_TS} : pt_so1 0 s = s := if_pos rfl
theorem pt_so1_s {o : Nat} {s : pt_TS} : pt_so1 (o + 1) s = pt_seto o s := if_neg (by omega)
theorem pt_so1_nb {o : Nat} {s : pt_TS} : (pt_so1 o s).1 = s.1 := by unfold pt_so1; split <;> rfl
theorem pt_so1_od {o : Nat} {s : pt_TS} : (pt_so1 o s).2.1 = s.2.1 := by unfold pt_so1; split <;> rfl
/-- what waits: from, how many, depth, whose other half, how deep it may go -/
abbrev pt_WK : Type := Nat → Nat × Nat × Nat × Nat × Nat
noncomputable def pt_pend (ax : Nat) (lo hi : Nat → Nat → Int32) (wk : pt_WK) : Nat → pt_TS → pt_TS
  | 0, s => s
  | i + 1, s => pt_pend ax lo hi wk i (pt_mk ax lo hi (wk i).2.2.2.2 (wk i).1 ((wk i).1 + (wk i).2.1) (wk i).2.2.1 (pt_so1 (wk i).2.2.2.1 s))
theorem pt_pend_c {ax : Nat} {lo hi : Nat → Nat → Int32} {wk wk' : pt_WK} : ∀ n s, (∀ i, i < n → wk i = wk' i) → pt_pend ax lo hi wk n s = pt_pend ax lo hi wk' n s
  | 0, _, _ => rfl
  | n + 1, s, h => by
    show pt_pend ax lo hi wk n _ = pt_pend ax lo hi wk' n _
    rw [h n (by omega)]
    exact pt_pend_c n _ (fun i hi => h i (by omega))
noncomputable def pt_wt (wk : pt_WK) (n : Nat) : Nat := pt_sum (fun i => 2 ^ (wk i).2.2.2.2 - 1) n
theorem pt_wt_c {wk wk' : pt_WK} (n : Nat) (h : ∀ i, i < n → wk i = wk' i) : pt_wt wk n = pt_wt wk' n := pt_sum_c n (fun i hi => by rw [h i hi])
theorem pt_wt_le {wk : pt_WK} : ∀ n, (∀ i, i < n → 1 ≤ (wk i).2.2.2.2) → n ≤ pt_wt wk n
  | 0, _ => Nat.le_refl 0
  | n + 1, h => by
    have h1 := pt_wt_le n (fun i hi => h i (by omega))
    have h2 : 2 ≤ 2 ^ (wk n).2.2.2.2 := by
      have h3 := h n (by omega)
      calc 2 = 2 ^ 1 := rfl
        _ ≤ 2 ^ (wk n).2.2.2.2 := Nat.pow_le_pow_right (by decide) h3
    show n + 1 ≤ pt_wt wk n + (2 ^ (wk n).2.2.2.2 - 1)
    omega
def pt_PQ (ax N md W : Nat) (wk : pt_WK) (s : pt_TS) (F : Nat → Int32) (A : Nat → Nat → Int32) : Prop := F 15 = nI W ∧ pt_MT ax N md s F A ∧ (∀ i, i < W → A 16 i = nI (wk i).1 ∧ A 17 i = nI (wk i).2.1 ∧ A 18 i = nI (wk i).2.2.1 ∧ A 19 i = pt_oI (wk i).2.2.2.1) ∧ (∀ i, i < W → 0 < (wk i).2.1 ∧ (wk i).1 + (wk i).2.1 ≤ N ∧ (wk i).2.1 ≤ 2 ^ ((wk i).2.2.2.2 + 1) ∧ 1 ≤ (wk i).2.2.2.2 ∧ (wk i).2.2.2.1 ≤ s.1) ∧ s.1 + pt_wt wk W ≤ 31
theorem pt_MT_new {ax N md f m d o : Nat} {lo hi : Nat → Nat → Int32} {s : pt_TS} {F F' : Nat → Int32} {A A' : Nat → Nat → Int32} (h : pt_MT ax N md s F A) (ho : o ≤ s.1) (h8 : F' 8 = nI (s.1 + 1)) (e7 : A' 7 = A 7) (e9 : A' 9 = upd (A 9) s.1 (nI f)) (e10 : A' 10 = upd (A 10) s.1 (nI m)) (e11 : A' 11 = if o = 0 then upd (A 11) s.1 (nI 0) else upd (upd (A 11) s.1 (nI 0)) (o - 1) (nI s.1)) (e12 : A' 12 = upd (A 12) s.1 (nI d)) (eb : ∀ x, x < ax → A' 13 (3 * s.1 + x) = pt_mn (fun i => lo (s.2.1 i) x) f (m - 1) ∧ A' 14 (3 * s.1 + x) = pt_mx (fun i => hi (s.2.1 i) x) f (m - 1)) (ek : ∀ k, k < 3 * s.1 ∨ 3 * s.1 + 3 ≤ k → A' 13 k = A 13 k ∧ A' 14 k = A 14 k) (hax : ax ≤ 3) : pt_MT ax N md (pt_new lo hi f (f + m) d (pt_so1 o s)) F' A' := by
  obtain ⟨_, hr, hb⟩ := h
  have n1 : (pt_so1 o s).1 = s.1 := pt_so1_nb
  have n2 : (pt_so1 o s).2.1 = s.2.1 := pt_so1_od
  refine ⟨by rw [h8]; show _ = nI ((pt_so1 o s).1 + 1); rw [n1], by rw [e7]; show pt_row N md (pt_so1 o s).2.1 _; rw [n2]; exact hr, fun b hb2 => ?_⟩
  have hb3 : b < s.1 + 1 := by have hb4 : b < (pt_so1 o s).1 + 1 := hb2; rw [n1] at hb4; exact hb4
  show A' 9 b = nI (va_up ((pt_so1 o s).2.2.1 0) (pt_so1 o s).1 f b) ∧ A' 10 b = nI (va_up ((pt_so1 o s).2.2.1 1) (pt_so1 o s).1 (f + m) b - va_up ((pt_so1 o s).2.2.1 0) (pt_so1 o s).1 f b) ∧ A' 11 b = nI (va_up ((pt_so1 o s).2.2.1 2) (pt_so1 o s).1 0 b) ∧ A' 12 b = nI (va_up ((pt_so1 o s).2.2.1 3) (pt_so1 o s).1 d b) ∧ ∀ x, x < ax → A' 13 (3 * b + x) = (va_up ((pt_so1 o s).2.2.2 0) (pt_so1 o s).1 (fun x => pt_mn (fun i => lo ((pt_so1 o s).2.1 i) x) f (f + m - f - 1)) b) x ∧ A' 14 (3 * b + x) = (va_up ((pt_so1 o s).2.2.2 1) (pt_so1 o s).1 (fun x => pt_mx (fun i => hi ((pt_so1 o s).2.1 i) x) f (f + m - f - 1)) b) x
  rw [n1, n2, show f + m - f - 1 = m - 1 by omega]
  have r0 : (pt_so1 o s).2.2.1 0 = s.2.2.1 0 := by unfold pt_so1; split <;> first | rfl | exact pt_up_ne (by decide)
  have r1 : (pt_so1 o s).2.2.1 1 = s.2.2.1 1 := by unfold pt_so1; split <;> first | rfl | exact pt_up_ne (by decide)
  have r3 : (pt_so1 o s).2.2.1 3 = s.2.2.1 3 := by unfold pt_so1; split <;> first | rfl | exact pt_up_ne (by decide)
  have rb : (pt_so1 o s).2.2.2 = s.2.2.2 := by unfold pt_so1; split <;> rfl
  rw [r0, r1, r3, rb]
  by_cases q : b = s.1
  · subst q
    rw [pt_up, pt_up, pt_up, pt_up, pt_up, pt_up, e9, e10, e12, pt_upd, pt_upd, pt_upd, show f + m - f = m by omega]
    refine ⟨rfl, rfl, ?_, rfl, eb⟩
    rw [e11]
    split
    · exact pt_upd
    · rw [pt_upd_ne (by omega)]; exact pt_upd
  · rw [pt_up_ne q, pt_up_ne q, pt_up_ne q, pt_up_ne q, pt_up_ne q, pt_up_ne q, e9, e10, e12, pt_upd_ne q, pt_upd_ne q, pt_upd_ne q]
    obtain ⟨g9, g10, g11, g12, gb⟩ := hb b (by omega)
    refine ⟨g9, g10, ?_, g12, fun x hx => by rw [(ek (3 * b + x) (by omega)).1, (ek (3 * b + x) (by omega)).2]; exact gb x hx⟩
    rw [e11]
    unfold pt_so1
    split
    · rw [pt_upd_ne q]; exact g11
    · rename_i ho2
      show _ = nI (va_up s.2.2.1 2 (va_up (s.2.2.1 2) (o - 1) s.1) 2 b)
      rw [pt_up]
      by_cases q2 : b = o - 1
      · rw [q2, pt_upd, pt_up]
      · rw [pt_upd_ne q2, pt_up_ne q2, pt_upd_ne q]; exact g11
theorem pt_MT_row {ax N md : Nat} {s : pt_TS} {od : Nat → Nat} {F F' : Nat → Int32} {A A' : Nat → Nat → Int32} (h : pt_MT ax N md s F A) (h8 : F' 8 = F 8) (hr : pt_row N md od (A' 7)) (ho : ∀ j, 9 ≤ j → j ≤ 14 → A' j = A j) : pt_MT ax N md (s.1, od, s.2.2.1, s.2.2.2) F' A' := by
  obtain ⟨h0, _, hb⟩ := h
  refine ⟨by rw [h8]; exact h0, hr, fun b hb2 => ?_⟩
  rw [ho 9 (by omega) (by omega), ho 10 (by omega) (by omega), ho 11 (by omega) (by omega), ho 12 (by omega) (by omega), ho 13 (by omega) (by omega), ho 14 (by omega) (by omega)]
  exact hb b hb2

theorem wd_c_X2_build_X2_build_0 : Cond.fieldLink RX2 69 "PointTreesModel" "thrown" "I" ∈ wsX2_build := by decide +kernel
theorem wd_c_X2_build_X2_build_1 : Cond.fieldLink RX2 72 "PointTreesModel" "made" "I" ∈ wsX2_build := by decide +kernel
theorem wd_c_X2_build_X2_build_2 : Cond.fieldLink RX2 77 "PointTreesModel" "blocks" "I" ∈ wsX2_build := by decide +kernel
theorem wd_c_X2_build_X2_build_3 : Cond.fieldLink RX2 109 "PointTreesModel" "waiting" "I" ∈ wsX2_build := by decide +kernel
theorem wd_c_X2_build_X2_build_4 : Cond.fieldLink RX2 30 "PointTreesModel" "froms" "[I" ∈ wsX2_build := by decide +kernel
theorem wd_c_X2_build_X2_build_5 : Cond.fieldLink RX2 48 "PointTreesModel" "waitFrom" "[I" ∈ wsX2_build := by decide +kernel
theorem wd_c_X2_build_X2_build_6 : Cond.fieldLink RX2 33 "PointTreesModel" "manys" "[I" ∈ wsX2_build := by decide +kernel
theorem wd_c_X2_build_X2_build_7 : Cond.fieldLink RX2 51 "PointTreesModel" "waitMany" "[I" ∈ wsX2_build := by decide +kernel
theorem wd_c_X2_build_X2_build_8 : Cond.fieldLink RX2 39 "PointTreesModel" "depths" "[I" ∈ wsX2_build := by decide +kernel
theorem wd_c_X2_build_X2_build_9 : Cond.fieldLink RX2 54 "PointTreesModel" "waitDepth" "[I" ∈ wsX2_build := by decide +kernel
theorem wd_c_X2_build_X2_build_10 : Cond.fieldLink RX2 36 "PointTreesModel" "others" "[I" ∈ wsX2_build := by decide +kernel
theorem wd_c_X2_build_X2_build_11 : Cond.fieldLink RX2 57 "PointTreesModel" "waitOf" "[I" ∈ wsX2_build := by decide +kernel
theorem wd_c_X2_build_X2_build_12 : Cond.fieldLink RX2 24 "PointTreesModel" "inTree" "[Z" ∈ wsX2_build := by decide +kernel
theorem wd_c_X2_build_X2_build_13 : Cond.fieldLink RX2 13 "PointTreesModel" "there" "[Z" ∈ wsX2_build := by decide +kernel
theorem wd_c_X2_build_X2_build_14 : Cond.fieldLink RX2 27 "PointTreesModel" "row" "[I" ∈ wsX2_build := by decide +kernel
theorem iw_c_X2_build_wsX20 : ∀ w ∈ wsX20, w ∈ wsX2_build := fun _ h => List.mem_cons_of_mem _ (List.mem_append_right _ h)
set_option maxHeartbeats 4000000 in
set_option maxRecDepth 100000 in
theorem c_X2_build (l : Launch) (dC : Nat → ClassId) (dI : Nat → Nat → Nat) (a : Nat → Nat) (c : Nat → ClassId) (F : Nat → Int32) (A : Nat → Nat → Int32) (sz : Nat) (ax : Nat) (h1 : F 1 = nI ax) (hax : ax ≤ 3) (hax1 : 1 ≤ ax) (md : Nat) (h2 : F 2 = nI md) (hmd : md ≤ 64) (hbit : ∀ t, t < md → A 3 t = 0 ∨ A 3 t = 1) (hbd : ∀ v x, v < md → x < ax → pt_bd (A 4 (3 * v + x)) (A 5 (3 * v + x))) : Met l yX2_build wsX2_build (pt_rm 2) (pt_W (dC, dI) vwCl (pt_mt c) (pt_mw a c F A) pt_nw sz [.ref (a 0)]) (va_Qi (fun (r : Int32) (u : pt_MS) => r = nI (pt_tree ax (fun v x => A 4 (3 * v + x)) (fun v x => A 5 (3 * v + x)) (fun t => ¬ A 3 t = 0) md).1 ∧ pt_MT ax (pt_cnt (fun t => ¬ A 3 t = 0) md) md (pt_tree ax (fun v x => A 4 (3 * v + x)) (fun v x => A 5 (3 * v + x)) (fun t => ¬ A 3 t = 0) md) u.1 u.2 ∧ u.1 0 = nI 0 ∧ (∀ j, j ≠ 0 → j ≠ 8 → j ≠ 15 → u.1 j = F j) ∧ (∀ t, t < md → u.2 6 t = A 3 t) ∧ ∀ j, j < 6 ∨ 19 < j → u.2 j = A j) (fun u t => va_P (dC, dI) vwCl (pt_mw a c u.1 u.2) t.heap) (va_A (pt_mw a c F A) sz)) 0 0 (va_A (pt_mw a c F A) sz) := by
  refine Met.ofW (cc := cX2_build) (maxL := 5) (ret := (some .int)) (by decide) rfl ?_
  intro p e s m args below meth cd s₁ B hml hv
  obtain ⟨rfl, hsz, hP, hK, hN, hD0⟩ := hv
  have hx := B.exec
  have hb := B.bytes
  have hr := B.returns
  have hts := atoms_spec (ws := wsX2_build) B.pre
  have hown : s.vm.findClass RX2 = some m.cls := findClass_of_methodNamed B.named
  have hlocks := B.notSynchronized
  subst hsz
  have hD := hD0.self (sz := s.heap.size)
  generalize hAe : va_A (pt_mw a c F A) s.heap.size = AA at hD ⊢
  have hA : ∀ q : Nat, s.heap.size ≤ q → AA q := fun q h => by rw [← hAe]; exact Or.inr h
  have hS : va_S AA s.heap s.heap [] := va_S.rf
  have hl := lv_entry ([.ref (a 0)]) (n := 5) (Nat.le_of_ble_eq_true rfl)
  rw [lg_entry_eq]
  generalize (lg_sl ([.ref (a 0)]) ++ List.replicate (5 - (lg_sl ([.ref (a 0)])).length) Slot.unset).toArray = ls at hl ⊢
  have hl : lv_has ls 5 [(0, .ref (a 0))] := hl
  refine lv_aload_n hx hb dX2_build_0 rfl (lv_at hl 0 rfl) ?_
  refine lv_iconst (v := nI 0) hx hb dX2_build_1 (by decide) ?_
  obtain ⟨F1, eF1⟩ : ∃ zz, zz = upd F 0 (nI 0) := ⟨_, rfl⟩
  refine va_put (D := (dC, dI)) (ci := 2) (v := .int (nI 0)) (ty := .int) (C := RX2) (T := TX2) (N := 27) hx hb hts iw_c_X2_build_wsX20 tyX2 tyX2_ok nmX2 hown hK hP hD hS 0 rfl rfl 0 (by decide) (hts _ wd_c_X2_build_X2_build_0) (fun _ h9 => h9) rfl (by decide +kernel) rfl rfl (Nat.le_of_ble_eq_true rfl) dX2_build_2 (fun H locs hP hD hS => ?_)
  have hP : va_P (dC, dI) vwCl (pt_mw a c F1 A) H := by rw [eF1]; exact hP
  have hD : va_D AA (pt_mw a c F1 A) := by rw [eF1]; exact hD
  have kF1_1 : F1 1 = nI ax := by rw [eF1, pt_upd_ne (by decide)]; exact h1
  have kF1_2 : F1 2 = nI md := by rw [eF1, pt_upd_ne (by decide)]; exact h2
  have kF1_0 : F1 0 = nI 0 := by rw [eF1, pt_upd]
  refine lv_iconst (v := nI 0) hx hb dX2_build_5 (by decide) ?_
  refine lv_istore_n (lv' := [(1, .int (nI 0)), (0, .ref (a 0))]) hx hb dX2_build_6 rfl hl (by decide) rfl (fun ls hl => ?_)
  refine lv_iconst (v := nI 0) hx hb dX2_build_7 (by decide) ?_
  refine lv_istore_n (lv' := [(2, .int (nI 0)), (1, .int (nI 0)), (0, .ref (a 0))]) hx hb dX2_build_8 rfl hl (by decide) rfl (fun ls hl => ?_)
  refine pt_loopW (fun q : Nat × (Nat → Nat → Int32) => md - q.1) (fun q ls H locs => q.1 ≤ md ∧ (pt_row (pt_cnt (fun t => ¬ A 3 t = 0) q.1) md (pt_ord (fun t => ¬ A 3 t = 0) q.1) (q.2 7) ∧ (∀ t, t < q.1 → q.2 6 t = A 3 t) ∧ ∀ j, j ≠ 6 → j ≠ 7 → q.2 j = A j) ∧ va_P (dC, dI) vwCl (pt_mw a c F1 q.2) H ∧ va_D AA (pt_mw a c F1 q.2) ∧ va_S AA s.heap H locs ∧ lv_has ls 5 [(2, .int (nI q.1)), (1, .int (nI (pt_cnt (fun t => ¬ A 3 t = 0) q.1))), (0, .ref (a 0))]) ?_ (0, A) _ _ _ ⟨Nat.zero_le _, ⟨fun k hk => absurd hk (Nat.not_lt_zero _), fun t ht => absurd ht (Nat.not_lt_zero _), fun _ _ _ => rfl⟩, hP, hD, hS, hl⟩
  intro ⟨i, Ai⟩ ls H locs ⟨hii, ⟨hri, h6i, hsi⟩, hP, hD, hS, hl⟩ ih
  dsimp only at hii hri h6i hsi hP hD hl ih
  have hci := pt_cnt_le (fun t => ¬ A 3 t = 0) i
  refine lv_iload_n hx hb dX2_build_9 rfl (lv_at hl 0 rfl) ?_
  refine lv_aload_n hx hb dX2_build_10 rfl (lv_at hl 2 rfl) ?_
  refine va_get (D := (dC, dI)) (ci := 2) (v := .int (F1 2)) (C := RX2) (T := TX2) (N := 27) hx hb hts iw_c_X2_build_wsX20 hown hK hP 0 rfl rfl 2 (by decide) (hts _ wd_c_X2_build_X2_build_1) (fun _ h9 => h9) rfl dX2_build_11 ?_
  refine pt_top (y := nI md) kF1_2 ?_
  refine lv_icmp_ge (tgt := 54) hx hb dX2_build_14 (by decide) (fun c14 => ?_) (fun c14 => ?_)
  · have hie : i = md := by have := (nI_leI (by omega) (by omega)).mp c14; omega
    rw [hie] at hri hci h6i hl
    clear ih
    refine lv_aload_n hx hb dX2_build_54 rfl (lv_at hl 2 rfl) ?_
    refine lv_iconst (v := nI 0) hx hb dX2_build_55 (by decide) ?_
    obtain ⟨F2, eF2⟩ : ∃ zz, zz = upd F1 8 (nI 0) := ⟨_, rfl⟩
    refine va_put (D := (dC, dI)) (ci := 2) (v := .int (nI 0)) (ty := .int) (C := RX2) (T := TX2) (N := 27) hx hb hts iw_c_X2_build_wsX20 tyX2 tyX2_ok nmX2 hown hK hP hD hS 0 rfl rfl 8 (by decide) (hts _ wd_c_X2_build_X2_build_2) (fun _ h9 => h9) rfl (by decide +kernel) rfl rfl (Nat.le_of_ble_eq_true rfl) dX2_build_56 (fun H locs hP hD hS => ?_)
    have hP : va_P (dC, dI) vwCl (pt_mw a c F2 Ai) H := by rw [eF2]; exact hP
    have hD : va_D AA (pt_mw a c F2 Ai) := by rw [eF2]; exact hD
    have kF2_1 : F2 1 = nI ax := by rw [eF2, pt_upd_ne (by decide)]; exact kF1_1
    have kF2_2 : F2 2 = nI md := by rw [eF2, pt_upd_ne (by decide)]; exact kF1_2
    have kF2_0 : F2 0 = nI 0 := by rw [eF2, pt_upd_ne (by decide)]; exact kF1_0
    have kF2_8 : F2 8 = nI 0 := by rw [eF2, pt_upd]
    refine lv_aload_n hx hb dX2_build_59 rfl (lv_at hl 2 rfl) ?_
    refine lv_iconst (v := nI 0) hx hb dX2_build_60 (by decide) ?_
    obtain ⟨F3, eF3⟩ : ∃ zz, zz = upd F2 15 (nI 0) := ⟨_, rfl⟩
    refine va_put (D := (dC, dI)) (ci := 2) (v := .int (nI 0)) (ty := .int) (C := RX2) (T := TX2) (N := 27) hx hb hts iw_c_X2_build_wsX20 tyX2 tyX2_ok nmX2 hown hK hP hD hS 0 rfl rfl 15 (by decide) (hts _ wd_c_X2_build_X2_build_3) (fun _ h9 => h9) rfl (by decide +kernel) rfl rfl (Nat.le_of_ble_eq_true rfl) dX2_build_61 (fun H locs hP hD hS => ?_)
    have hP : va_P (dC, dI) vwCl (pt_mw a c F3 Ai) H := by rw [eF3]; exact hP
    have hD : va_D AA (pt_mw a c F3 Ai) := by rw [eF3]; exact hD
    have kF3_1 : F3 1 = nI ax := by rw [eF3, pt_upd_ne (by decide)]; exact kF2_1
    have kF3_2 : F3 2 = nI md := by rw [eF3, pt_upd_ne (by decide)]; exact kF2_2
    have kF3_0 : F3 0 = nI 0 := by rw [eF3, pt_upd_ne (by decide)]; exact kF2_0
    have kF3_8 : F3 8 = nI 0 := by rw [eF3, pt_upd_ne (by decide)]; exact kF2_8
    have kF3_15 : F3 15 = nI 0 := by rw [eF3, pt_upd]
    refine lv_iload_n hx hb dX2_build_64 rfl (lv_at hl 1 rfl) ?_
    refine lv_if_le (tgt := 76) hx hb dX2_build_65 (by decide) (fun c65 => ?_) (fun c65 => ?_)
    · have hn0 : (pt_cnt (fun t => ¬ A 3 t = 0) md) = 0 := by have : nI (pt_cnt (fun t => ¬ A 3 t = 0) md) ≤ nI 0 := c65; have := (nI_leI (by omega) (by omega)).mp this; omega
      have et : (pt_tree ax (fun v x => A 4 (3 * v + x)) (fun v x => A 5 (3 * v + x)) (fun t => ¬ A 3 t = 0) md) = (0, pt_ord (fun t => ¬ A 3 t = 0) md, fun _ _ => 0, fun _ _ _ => 0) := if_pos hn0
      refine lv_aload_n hx hb dX2_build_76 rfl (lv_at hl 2 rfl) ?_
      refine va_get (D := (dC, dI)) (ci := 2) (v := .int (F3 15)) (C := RX2) (T := TX2) (N := 27) hx hb hts iw_c_X2_build_wsX20 hown hK hP 0 rfl rfl 15 (by decide) (hts _ wd_c_X2_build_X2_build_3) (fun _ h9 => h9) rfl dX2_build_77 ?_
      refine pt_top (y := nI 0) kF3_15 ?_
      refine lv_if_le (tgt := 287) hx hb dX2_build_80 (by decide) (fun c80 => ?_) (fun c80 => absurd (by decide) c80)
      refine lv_aload_n hx hb dX2_build_287 rfl (lv_at hl 2 rfl) ?_
      refine va_get (D := (dC, dI)) (ci := 2) (v := .int (F3 8)) (C := RX2) (T := TX2) (N := 27) hx hb hts iw_c_X2_build_wsX20 hown hK hP 0 rfl rfl 8 (by decide) (hts _ wd_c_X2_build_X2_build_2) (fun _ h9 => h9) rfl dX2_build_288 ?_
      refine pt_top (y := nI 0) kF3_8 ?_
      exact W.iret (v := nI 0) hx hb hr (fun zt zh zW => ⟨⟨_, (F3, Ai), rfl, ⟨by rw [et], by rw [et]; exact ⟨kF3_8, hri, fun b hb9 => absurd hb9 (Nat.not_lt_zero _)⟩, kF3_0, fun j j0 j8 j15 => by show F3 j = F j; rw [eF3, pt_upd_ne j15, eF2, pt_upd_ne j8, eF1, pt_upd_ne j0], h6i, fun j hj => hsi j (by omega) (by omega)⟩, by show va_P _ _ _ zt.heap; rw [zh]; exact hP⟩, hS.F zh⟩) hS.2.2 dX2_build_291
    · have hn0 : ¬ (pt_cnt (fun t => ¬ A 3 t = 0) md) = 0 := fun q => c65 (by rw [q]; decide)
      have et : (pt_tree ax (fun v x => A 4 (3 * v + x)) (fun v x => A 5 (3 * v + x)) (fun t => ¬ A 3 t = 0) md) = pt_mk ax (fun v x => A 4 (3 * v + x)) (fun v x => A 5 (3 * v + x)) 5 0 (pt_cnt (fun t => ¬ A 3 t = 0) md) 0 (0, pt_ord (fun t => ¬ A 3 t = 0) md, fun _ _ => 0, fun _ _ _ => 0) := if_neg hn0
      refine lv_aload_n hx hb dX2_build_68 rfl (lv_at hl 2 rfl) ?_
      refine lv_iconst (v := nI 0) hx hb dX2_build_69 (by decide) ?_
      refine lv_iload_n hx hb dX2_build_70 rfl (lv_at hl 1 rfl) ?_
      refine lv_iconst (v := nI 0) hx hb dX2_build_71 (by decide) ?_
      refine lv_iconst (v := (-1)) hx hb dX2_build_72 (by decide) ?_
      refine pt_callv (wf := (fun u : pt_MS => pt_mw a c u.1 u.2)) (va_runV (As := [.int (nI 0), .int (nI (pt_cnt (fun t => ¬ A 3 t = 0) md)), .int (nI 0), .int (-1)]) (rest := []) ⟨hx, hb, hml, hown, hts⟩ (c_X2_await l dC dI a c F3 Ai _ 0 kF3_15 (by omega) 0 (pt_cnt (fun t => ¬ A 3 t = 0) md) 0 (-1)) (cwV 4 hts gX2_build_X2_await rfl rfl rfl (by decide +kernel) ⟨Nat.le_of_ble_eq_true rfl, Nat.le_of_ble_eq_true rfl⟩) (pt_wv2 hP hK hN hD (q0 := 0) rfl) rfl rfl hl.1 rfl (lv_room (Nat.le_of_ble_eq_true rfl)) dX2_build_73 ⟨Nat.le_of_ble_eq_true rfl, Nat.le_of_ble_eq_true rfl⟩) hD hS hA (fun _ => rfl) (fun u73 H locs hr73 hP hD hS => ?_)
      obtain ⟨F4, A4⟩ := u73
      obtain ⟨fw4, w164, w174, w184, w194, wo4⟩ := hr73
      dsimp only at fw4 w164 w174 w184 w194 wo4 hP hD
      have kF4_1 : F4 1 = nI ax := by rw [fw4, pt_upd_ne (by decide)]; exact kF3_1
      have kF4_2 : F4 2 = nI md := by rw [fw4, pt_upd_ne (by decide)]; exact kF3_2
      have kF4_0 : F4 0 = nI 0 := by rw [fw4, pt_upd_ne (by decide)]; exact kF3_0
      have kF4_8 : F4 8 = nI 0 := by rw [fw4, pt_upd_ne (by decide)]; exact kF3_8
      have kF4_15 : F4 15 = nI (0 + 1) := by rw [fw4, pt_upd]
      have hFs : F4 0 = nI 0 ∧ ∀ j, j ≠ 0 → j ≠ 8 → j ≠ 15 → F4 j = F j := ⟨kF4_0, fun j j0 j8 j15 => by rw [fw4, pt_upd_ne j15, eF3, pt_upd_ne j15, eF2, pt_upd_ne j8, eF1, pt_upd_ne j0]⟩
      have hPQ : pt_PQ ax (pt_cnt (fun t => ¬ A 3 t = 0) md) md 1 (fun _ => (0, (pt_cnt (fun t => ¬ A 3 t = 0) md), 0, 0, 5)) (0, pt_ord (fun t => ¬ A 3 t = 0) md, fun _ _ => 0, fun _ _ _ => 0) F4 A4 := ⟨kF4_15, ⟨kF4_8, by rw [wo4 7 (by omega)]; exact hri, fun b hb9 => absurd hb9 (Nat.not_lt_zero _)⟩, fun j hj => by rw [show j = 0 by omega, w164, w174, w184, w194, pt_upd, pt_upd, pt_upd, pt_upd]; exact ⟨rfl, rfl, rfl, rfl⟩, fun j hj => ⟨by show 0 < (pt_cnt (fun t => ¬ A 3 t = 0) md); omega, by show 0 + (pt_cnt (fun t => ¬ A 3 t = 0) md) ≤ (pt_cnt (fun t => ¬ A 3 t = 0) md); omega, by show (pt_cnt (fun t => ¬ A 3 t = 0) md) ≤ 64; omega, by show 1 ≤ 5; omega, Nat.zero_le _⟩, by show 0 + (0 + (2 ^ 5 - 1)) ≤ 31; decide⟩
      have hpe : pt_pend ax (fun v x => A 4 (3 * v + x)) (fun v x => A 5 (3 * v + x)) (fun _ => (0, (pt_cnt (fun t => ¬ A 3 t = 0) md), 0, 0, 5)) 1 (0, pt_ord (fun t => ¬ A 3 t = 0) md, fun _ _ => 0, fun _ _ _ => 0) = (pt_tree ax (fun v x => A 4 (3 * v + x)) (fun v x => A 5 (3 * v + x)) (fun t => ¬ A 3 t = 0) md) := by rw [et]; show pt_mk ax _ _ 5 0 (0 + (pt_cnt (fun t => ¬ A 3 t = 0) md)) 0 (pt_so1 0 _) = _; rw [pt_so1_0, Nat.zero_add]
      refine pt_loopW (fun q : Nat × pt_WK × pt_TS × pt_MS => pt_wt q.2.1 q.1) (fun q ls H locs => (pt_PQ ax (pt_cnt (fun t => ¬ A 3 t = 0) md) md q.1 q.2.1 q.2.2.1 q.2.2.2.1 q.2.2.2.2 ∧ pt_pend ax (fun v x => A 4 (3 * v + x)) (fun v x => A 5 (3 * v + x)) q.2.1 q.1 q.2.2.1 = (pt_tree ax (fun v x => A 4 (3 * v + x)) (fun v x => A 5 (3 * v + x)) (fun t => ¬ A 3 t = 0) md) ∧ (q.2.2.2.1 0 = nI 0 ∧ ∀ j, j ≠ 0 → j ≠ 8 → j ≠ 15 → q.2.2.2.1 j = F j) ∧ (q.2.2.2.2 6 = Ai 6 ∧ ∀ j, j < 6 ∨ 19 < j → q.2.2.2.2 j = A j)) ∧ va_P (dC, dI) vwCl (pt_mw a c q.2.2.2.1 q.2.2.2.2) H ∧ va_D AA (pt_mw a c q.2.2.2.1 q.2.2.2.2) ∧ va_S AA s.heap H locs ∧ lv_has ls 5 [(0, .ref (a 0))]) ?_ (1, (fun _ => (0, (pt_cnt (fun t => ¬ A 3 t = 0) md), 0, 0, 5)), (0, pt_ord (fun t => ¬ A 3 t = 0) md, fun _ _ => 0, fun _ _ _ => 0), F4, A4) _ _ _ ⟨⟨hPQ, hpe, hFs, by show A4 6 = _; rw [wo4 6 (by omega)], fun j hj => by show A4 j = A j; rw [wo4 j (by omega)]; exact hsi j (by omega) (by omega)⟩, hP, hD, hS, lv_sub hl [2] rfl⟩
      intro ⟨wn, wk, ts, Fw, Aw⟩ ls H locs ⟨⟨⟨hW, hMT, hpd, hpv, hwt⟩, hpend, ⟨hF0w, hFw⟩, h6w, hAw⟩, hP, hD, hS, hl⟩ ihw
      dsimp only at hW hMT hpd hpv hwt hpend hF0w hFw h6w hAw hP hD hl ihw
      have hwl := pt_wt_le wn (fun j hj => (hpv j hj).2.2.2.1)
      have kw1 : Fw 1 = nI ax := (hFw 1 (by decide) (by decide) (by decide)).trans h1
      refine lv_aload_n hx hb dX2_build_76 rfl (lv_at hl 0 rfl) ?_
      refine va_get (D := (dC, dI)) (ci := 2) (v := .int (Fw 15)) (C := RX2) (T := TX2) (N := 27) hx hb hts iw_c_X2_build_wsX20 hown hK hP 0 rfl rfl 15 (by decide) (hts _ wd_c_X2_build_X2_build_3) (fun _ h9 => h9) rfl dX2_build_77 ?_
      refine pt_top (y := nI wn) hW ?_
      refine lv_if_le (tgt := 287) hx hb dX2_build_80 (by decide) (fun c80 => ?_) (fun c80 => ?_)
      · have hw0 : wn = 0 := by have h9 : nI wn ≤ nI 0 := c80; have := (nI_leI (by omega) (by omega)).mp h9; omega
        refine lv_aload_n hx hb dX2_build_287 rfl (lv_at hl 0 rfl) ?_
        refine va_get (D := (dC, dI)) (ci := 2) (v := .int (Fw 8)) (C := RX2) (T := TX2) (N := 27) hx hb hts iw_c_X2_build_wsX20 hown hK hP 0 rfl rfl 8 (by decide) (hts _ wd_c_X2_build_X2_build_2) (fun _ h9 => h9) rfl dX2_build_288 ?_
        refine pt_top (y := nI ts.1) hMT.1 ?_
        exact W.iret (v := nI ts.1) hx hb hr (fun zt zh zW => ⟨⟨_, (Fw, Aw), rfl, ⟨by rw [← hpend, hw0]; rfl, by rw [← hpend, hw0]; exact hMT, hF0w, hFw, fun t ht => by show Aw 6 t = _; rw [h6w]; exact h6i t ht, hAw⟩, by show va_P _ _ _ zt.heap; rw [zh]; exact hP⟩, hS.F zh⟩) hS.2.2 dX2_build_291
      · obtain ⟨wn, rfl⟩ : ∃ zz, wn = zz + 1 := ⟨wn - 1, by have : ¬ wn = 0 := fun q => c80 (by rw [q]; decide); omega⟩
        obtain ⟨f, m, d, o, k0, ew0⟩ : ∃ f m d o k, wk wn = (f, m, d, o, k) := ⟨_, _, _, _, _, rfl⟩
        have p0 := hpd wn (by omega)
        have v0 := hpv wn (by omega)
        rw [ew0] at p0 v0
        obtain ⟨p16, p17, p18, p19⟩ := p0
        obtain ⟨hv1, hv2, hv3, hv4, hv5⟩ := v0
        dsimp only at p16 p17 p18 p19 hv1 hv2 hv3 hv4 hv5
        obtain ⟨k, rfl⟩ : ∃ zz, k0 = zz + 1 := ⟨k0 - 1, by omega⟩
        have ew := ew0
        have hwt2 : pt_wt wk (wn + 1) = pt_wt wk wn + (2 ^ (k + 1) - 1) := by show pt_wt wk wn + (2 ^ (wk wn).2.2.2.2 - 1) = _; rw [ew]
        have hp0 : 2 ≤ 2 ^ (k + 1) := by have h7 : 1 ≤ 2 ^ k := Nat.one_le_two_pow; rw [Nat.pow_succ]; omega
        have kw15 : Fw 15 = nI (wn + 1) := hW
        refine lv_aload_n hx hb dX2_build_83 rfl (lv_at hl 0 rfl) ?_
        refine lv_dup hx hb dX2_build_84 rfl ?_
        refine va_get (D := (dC, dI)) (ci := 2) (v := .int (Fw 15)) (C := RX2) (T := TX2) (N := 27) hx hb hts iw_c_X2_build_wsX20 hown hK hP 0 rfl rfl 15 (by decide) (hts _ wd_c_X2_build_X2_build_3) (fun _ h9 => h9) rfl dX2_build_85 ?_
        refine pt_top (y := nI (wn + 1)) kw15 ?_
        refine lv_iconst (v := nI 1) hx hb dX2_build_88 (by decide) ?_
        refine lv_isub hx hb dX2_build_89 ?_
        refine pt_top (y := nI wn) (nI_pred wn) ?_
        obtain ⟨F5, eF5⟩ : ∃ zz, zz = upd Fw 15 (nI wn) := ⟨_, rfl⟩
        refine va_put (D := (dC, dI)) (ci := 2) (v := .int (nI wn)) (ty := .int) (C := RX2) (T := TX2) (N := 27) hx hb hts iw_c_X2_build_wsX20 tyX2 tyX2_ok nmX2 hown hK hP hD hS 0 rfl rfl 15 (by decide) (hts _ wd_c_X2_build_X2_build_3) (fun _ h9 => h9) rfl (by decide +kernel) rfl rfl (Nat.le_of_ble_eq_true rfl) dX2_build_90 (fun H locs hP hD hS => ?_)
        have hP : va_P (dC, dI) vwCl (pt_mw a c F5 Aw) H := by rw [eF5]; exact hP
        have hD : va_D AA (pt_mw a c F5 Aw) := by rw [eF5]; exact hD
        have kF5_0 : F5 0 = nI 0 := by rw [eF5, pt_upd_ne (by decide)]; exact hF0w
        have kF5_1 : F5 1 = nI ax := by rw [eF5, pt_upd_ne (by decide)]; exact kw1
        have kF5_8 : F5 8 = nI ts.1 := by rw [eF5, pt_upd_ne (by decide)]; exact hMT.1
        have kF5_15 : F5 15 = nI wn := by rw [eF5, pt_upd]
        refine lv_aload_n hx hb dX2_build_93 rfl (lv_at hl 0 rfl) ?_
        refine va_get (D := (dC, dI)) (ci := 2) (v := .int (F5 8)) (C := RX2) (T := TX2) (N := 27) hx hb hts iw_c_X2_build_wsX20 hown hK hP 0 rfl rfl 8 (by decide) (hts _ wd_c_X2_build_X2_build_2) (fun _ h9 => h9) rfl dX2_build_94 ?_
        refine pt_top (y := nI ts.1) kF5_8 ?_
        refine lv_istore_n (lv' := [(2, .int (nI ts.1)), (0, .ref (a 0))]) hx hb dX2_build_97 rfl hl (by decide) rfl (fun ls hl => ?_)
        refine lv_aload_n hx hb dX2_build_98 rfl (lv_at hl 1 rfl) ?_
        refine lv_dup hx hb dX2_build_99 rfl ?_
        refine va_get (D := (dC, dI)) (ci := 2) (v := .int (F5 8)) (C := RX2) (T := TX2) (N := 27) hx hb hts iw_c_X2_build_wsX20 hown hK hP 0 rfl rfl 8 (by decide) (hts _ wd_c_X2_build_X2_build_2) (fun _ h9 => h9) rfl dX2_build_100 ?_
        refine pt_top (y := nI ts.1) kF5_8 ?_
        refine lv_iconst (v := nI 1) hx hb dX2_build_103 (by decide) ?_
        refine lv_iadd hx hb dX2_build_104 ?_
        refine pt_top (y := nI (ts.1 + 1)) (nI_add _ _) ?_
        obtain ⟨F6, eF6⟩ : ∃ zz, zz = upd F5 8 (nI (ts.1 + 1)) := ⟨_, rfl⟩
        refine va_put (D := (dC, dI)) (ci := 2) (v := .int (nI (ts.1 + 1))) (ty := .int) (C := RX2) (T := TX2) (N := 27) hx hb hts iw_c_X2_build_wsX20 tyX2 tyX2_ok nmX2 hown hK hP hD hS 0 rfl rfl 8 (by decide) (hts _ wd_c_X2_build_X2_build_2) (fun _ h9 => h9) rfl (by decide +kernel) rfl rfl (Nat.le_of_ble_eq_true rfl) dX2_build_105 (fun H locs hP hD hS => ?_)
        have hP : va_P (dC, dI) vwCl (pt_mw a c F6 Aw) H := by rw [eF6]; exact hP
        have hD : va_D AA (pt_mw a c F6 Aw) := by rw [eF6]; exact hD
        have kF6_0 : F6 0 = nI 0 := by rw [eF6, pt_upd_ne (by decide)]; exact kF5_0
        have kF6_1 : F6 1 = nI ax := by rw [eF6, pt_upd_ne (by decide)]; exact kF5_1
        have kF6_15 : F6 15 = nI wn := by rw [eF6, pt_upd_ne (by decide)]; exact kF5_15
        have kF6_8 : F6 8 = nI (ts.1 + 1) := by rw [eF6, pt_upd]
        refine lv_aload_n hx hb dX2_build_108 rfl (lv_at hl 1 rfl) ?_
        refine va_get (D := (dC, dI)) (ci := 2) (v := .ref (a 9)) (C := RX2) (T := TX2) (N := 27) hx hb hts iw_c_X2_build_wsX20 hown hK hP 0 rfl rfl 9 (by decide) (hts _ wd_c_X2_build_X2_build_4) (fun _ h9 => h9) rfl dX2_build_109 ?_
        refine lv_iload_n hx hb dX2_build_112 rfl (lv_at hl 0 rfl) ?_
        refine lv_aload_n hx hb dX2_build_113 rfl (lv_at hl 1 rfl) ?_
        refine va_get (D := (dC, dI)) (ci := 2) (v := .ref (a 16)) (C := RX2) (T := TX2) (N := 27) hx hb hts iw_c_X2_build_wsX20 hown hK hP 0 rfl rfl 16 (by decide) (hts _ wd_c_X2_build_X2_build_5) (fun _ h9 => h9) rfl dX2_build_114 ?_
        refine lv_aload_n hx hb dX2_build_117 rfl (lv_at hl 1 rfl) ?_
        refine va_get (D := (dC, dI)) (ci := 2) (v := .int (F6 15)) (C := RX2) (T := TX2) (N := 27) hx hb hts iw_c_X2_build_wsX20 hown hK hP 0 rfl rfl 15 (by decide) (hts _ wd_c_X2_build_X2_build_3) (fun _ h9 => h9) rfl dX2_build_118 ?_
        refine pt_top (y := nI wn) kF6_15 ?_
        refine pt_iald hx hb hK hP 12 11 rfl rfl wn rfl (by omega) (by decide) dX2_build_121 ?_
        refine pt_top (y := nI f) p16 ?_
        obtain ⟨A7, eA7⟩ : ∃ zz, zz = va_up Aw 9 (upd (Aw 9) ts.1 (nI f)) := ⟨_, rfl⟩
        refine pt_iast hx hb hK hP hD hS 6 5 rfl rfl ts.1 rfl (by omega) (by decide) (ws' := (pt_mw a c F6 A7)) (by rw [eA7]; rfl) dX2_build_122 (fun H locs hP hD hS => ?_)
        refine lv_aload_n hx hb dX2_build_123 rfl (lv_at hl 1 rfl) ?_
        refine va_get (D := (dC, dI)) (ci := 2) (v := .ref (a 10)) (C := RX2) (T := TX2) (N := 27) hx hb hts iw_c_X2_build_wsX20 hown hK hP 0 rfl rfl 10 (by decide) (hts _ wd_c_X2_build_X2_build_6) (fun _ h9 => h9) rfl dX2_build_124 ?_
        refine lv_iload_n hx hb dX2_build_127 rfl (lv_at hl 0 rfl) ?_
        refine lv_aload_n hx hb dX2_build_128 rfl (lv_at hl 1 rfl) ?_
        refine va_get (D := (dC, dI)) (ci := 2) (v := .ref (a 17)) (C := RX2) (T := TX2) (N := 27) hx hb hts iw_c_X2_build_wsX20 hown hK hP 0 rfl rfl 17 (by decide) (hts _ wd_c_X2_build_X2_build_7) (fun _ h9 => h9) rfl dX2_build_129 ?_
        refine lv_aload_n hx hb dX2_build_132 rfl (lv_at hl 1 rfl) ?_
        refine va_get (D := (dC, dI)) (ci := 2) (v := .int (F6 15)) (C := RX2) (T := TX2) (N := 27) hx hb hts iw_c_X2_build_wsX20 hown hK hP 0 rfl rfl 15 (by decide) (hts _ wd_c_X2_build_X2_build_3) (fun _ h9 => h9) rfl dX2_build_133 ?_
        refine pt_top (y := nI wn) kF6_15 ?_
        refine pt_iald hx hb hK hP 13 12 rfl rfl wn rfl (by omega) (by decide) dX2_build_136 ?_
        refine pt_top (y := nI m) (by rw [eA7, pt_up_ne (by decide)]; exact p17) ?_
        obtain ⟨A8, eA8⟩ : ∃ zz, zz = va_up A7 10 (upd (A7 10) ts.1 (nI m)) := ⟨_, rfl⟩
        refine pt_iast hx hb hK hP hD hS 7 6 rfl rfl ts.1 rfl (by omega) (by decide) (ws' := (pt_mw a c F6 A8)) (by rw [eA8]; rfl) dX2_build_137 (fun H locs hP hD hS => ?_)
        refine lv_aload_n hx hb dX2_build_138 rfl (lv_at hl 1 rfl) ?_
        refine va_get (D := (dC, dI)) (ci := 2) (v := .ref (a 12)) (C := RX2) (T := TX2) (N := 27) hx hb hts iw_c_X2_build_wsX20 hown hK hP 0 rfl rfl 12 (by decide) (hts _ wd_c_X2_build_X2_build_8) (fun _ h9 => h9) rfl dX2_build_139 ?_
        refine lv_iload_n hx hb dX2_build_142 rfl (lv_at hl 0 rfl) ?_
        refine lv_aload_n hx hb dX2_build_143 rfl (lv_at hl 1 rfl) ?_
        refine va_get (D := (dC, dI)) (ci := 2) (v := .ref (a 18)) (C := RX2) (T := TX2) (N := 27) hx hb hts iw_c_X2_build_wsX20 hown hK hP 0 rfl rfl 18 (by decide) (hts _ wd_c_X2_build_X2_build_9) (fun _ h9 => h9) rfl dX2_build_144 ?_
        refine lv_aload_n hx hb dX2_build_147 rfl (lv_at hl 1 rfl) ?_
        refine va_get (D := (dC, dI)) (ci := 2) (v := .int (F6 15)) (C := RX2) (T := TX2) (N := 27) hx hb hts iw_c_X2_build_wsX20 hown hK hP 0 rfl rfl 15 (by decide) (hts _ wd_c_X2_build_X2_build_3) (fun _ h9 => h9) rfl dX2_build_148 ?_
        refine pt_top (y := nI wn) kF6_15 ?_
        refine pt_iald hx hb hK hP 14 13 rfl rfl wn rfl (by omega) (by decide) dX2_build_151 ?_
        refine pt_top (y := nI d) (by rw [eA8, pt_up_ne (by decide), eA7, pt_up_ne (by decide)]; exact p18) ?_
        obtain ⟨A9, eA9⟩ : ∃ zz, zz = va_up A8 12 (upd (A8 12) ts.1 (nI d)) := ⟨_, rfl⟩
        refine pt_iast hx hb hK hP hD hS 9 8 rfl rfl ts.1 rfl (by omega) (by decide) (ws' := (pt_mw a c F6 A9)) (by rw [eA9]; rfl) dX2_build_152 (fun H locs hP hD hS => ?_)
        refine lv_aload_n hx hb dX2_build_153 rfl (lv_at hl 1 rfl) ?_
        refine va_get (D := (dC, dI)) (ci := 2) (v := .ref (a 11)) (C := RX2) (T := TX2) (N := 27) hx hb hts iw_c_X2_build_wsX20 hown hK hP 0 rfl rfl 11 (by decide) (hts _ wd_c_X2_build_X2_build_10) (fun _ h9 => h9) rfl dX2_build_154 ?_
        refine lv_iload_n hx hb dX2_build_157 rfl (lv_at hl 0 rfl) ?_
        refine lv_iconst (v := nI 0) hx hb dX2_build_158 (by decide) ?_
        obtain ⟨A10, eA10⟩ : ∃ zz, zz = va_up A9 11 (upd (A9 11) ts.1 (nI 0)) := ⟨_, rfl⟩
        refine pt_iast hx hb hK hP hD hS 8 7 rfl rfl ts.1 rfl (by omega) (by decide) (ws' := (pt_mw a c F6 A10)) (by rw [eA10]; rfl) dX2_build_159 (fun H locs hP hD hS => ?_)
        refine lv_aload_n hx hb dX2_build_160 rfl (lv_at hl 1 rfl) ?_
        refine va_get (D := (dC, dI)) (ci := 2) (v := .ref (a 19)) (C := RX2) (T := TX2) (N := 27) hx hb hts iw_c_X2_build_wsX20 hown hK hP 0 rfl rfl 19 (by decide) (hts _ wd_c_X2_build_X2_build_11) (fun _ h9 => h9) rfl dX2_build_161 ?_
        refine lv_aload_n hx hb dX2_build_164 rfl (lv_at hl 1 rfl) ?_
        refine va_get (D := (dC, dI)) (ci := 2) (v := .int (F6 15)) (C := RX2) (T := TX2) (N := 27) hx hb hts iw_c_X2_build_wsX20 hown hK hP 0 rfl rfl 15 (by decide) (hts _ wd_c_X2_build_X2_build_3) (fun _ h9 => h9) rfl dX2_build_165 ?_
        refine pt_top (y := nI wn) kF6_15 ?_
        refine pt_iald hx hb hK hP 15 14 rfl rfl wn rfl (by omega) (by decide) dX2_build_168 ?_
        refine pt_top (y := pt_oI o) (by rw [eA10, pt_up_ne (by decide), eA9, pt_up_ne (by decide), eA8, pt_up_ne (by decide), eA7, pt_up_ne (by decide)]; exact p19) ?_
        refine lv_if_lt (tgt := 187) hx hb dX2_build_169 (by decide) (fun c169 => ?_) (fun c169 => ?_)
        · have d169 : o = 0 := Classical.byContradiction (fun q => by rw [pt_oI_s q] at c169; exact nI_pos (by omega) c169)
          have y9 : A10 9 = upd (Aw 9) ts.1 (nI f) := by rw [eA10, pt_up_ne (by decide), eA9, pt_up_ne (by decide), eA8, pt_up_ne (by decide), eA7, pt_up]
          have y10 : A10 10 = upd (Aw 10) ts.1 (nI m) := by rw [eA10, pt_up_ne (by decide), eA9, pt_up_ne (by decide), eA8, pt_up, eA7, pt_up_ne (by decide)]
          have y12 : A10 12 = upd (Aw 12) ts.1 (nI d) := by rw [eA10, pt_up_ne (by decide), eA9, pt_up, eA8, pt_up_ne (by decide), eA7, pt_up_ne (by decide)]
          have y11 : A10 11 = upd (Aw 11) ts.1 (nI 0) := by rw [eA10, pt_up, eA9, pt_up_ne (by decide), eA8, pt_up_ne (by decide), eA7, pt_up_ne (by decide)]
          have y11b : A10 11 = if o = 0 then upd (Aw 11) ts.1 (nI 0) else upd (upd (Aw 11) ts.1 (nI 0)) (o - 1) (nI ts.1) := by rw [if_pos d169]; exact y11
          have yo : ∀ j, j < 9 ∨ 12 < j → A10 j = Aw j := fun j hj => by rw [eA10, pt_up_ne (by omega), eA9, pt_up_ne (by omega), eA8, pt_up_ne (by omega), eA7, pt_up_ne (by omega)]
          refine lv_aload_n hx hb dX2_build_187 rfl (lv_at hl 1 rfl) ?_
          refine lv_iload_n hx hb dX2_build_188 rfl (lv_at hl 0 rfl) ?_
          refine pt_calli (wf := (fun u : pt_MS => pt_mw a c u.1 u.2)) (va_runV (As := [.int (nI ts.1)]) (rest := []) ⟨hx, hb, hml, hown, hts⟩ (c_X2_look l dC dI a c F6 A10 _ ax kF6_1 hax hax1 ts.1 f m (pt_cnt (fun t => ¬ A 3 t = 0) md) md ts.2.1 (by omega) (by rw [y9, pt_upd]) (by rw [y10, pt_upd]) hv1 hv2 (by omega) hmd (by rw [yo 7 (by omega)]; exact hMT.2.1) (fun v x hv hx9 => by rw [yo 4 (by omega), yo 5 (by omega), hAw 4 (by omega), hAw 5 (by omega)]; exact hbd v x hv hx9)) (cwV 1 hts gX2_build_X2_look rfl rfl rfl (by decide +kernel) ⟨Nat.le_of_ble_eq_true rfl, Nat.le_of_ble_eq_true rfl⟩) (pt_wv2 hP hK hN hD (q0 := 0) rfl) rfl rfl hl.1 rfl (lv_room (Nat.le_of_ble_eq_true rfl)) dX2_build_189 ⟨Nat.le_of_ble_eq_true rfl, Nat.le_of_ble_eq_true rfl⟩) hD hS hA (fun _ => rfl) (fun r189 u189 H locs hr189 hP hD hS => ?_)
          obtain ⟨F11, A11⟩ := u189
          obtain ⟨hrL, hfL, hbL, hkL, hoL⟩ := hr189
          dsimp only at hrL hfL hbL hkL hoL hP hD
          rw [yo 4 (by omega), yo 5 (by omega), hAw 4 (by omega), hAw 5 (by omega)] at hrL hbL
          have kF11_0 : F11 0 = nI 0 := by rw [hfL]; exact kF6_0
          have kF11_1 : F11 1 = nI ax := by rw [hfL]; exact kF6_1
          have kF11_15 : F11 15 = nI wn := by rw [hfL]; exact kF6_15
          have kF11_8 : F11 8 = nI (ts.1 + 1) := by rw [hfL]; exact kF6_8
          have hMT1 : pt_MT ax (pt_cnt (fun t => ¬ A 3 t = 0) md) md (pt_new (fun v x => A 4 (3 * v + x)) (fun v x => A 5 (3 * v + x)) f (f + m) d (pt_so1 o ts)) F11 A11 := pt_MT_new hMT hv5 kF11_8 ((hoL 7 (by decide) (by decide)).trans (yo 7 (by omega))) ((hoL 9 (by decide) (by decide)).trans y9) ((hoL 10 (by decide) (by decide)).trans y10) ((hoL 11 (by decide) (by decide)).trans y11b) ((hoL 12 (by decide) (by decide)).trans y12) hbL (fun k9 hk9 => by have := hkL k9 hk9; rw [yo 13 (by omega), yo 14 (by omega)] at this; exact this) hax
          have xo : ∀ j, j < 9 ∨ 14 < j → A11 j = Aw j := fun j hj => (hoL j (by omega) (by omega)).trans (yo j (by omega))
          have hFx : ∀ j, j ≠ 0 → j ≠ 8 → j ≠ 15 → F11 j = F j := fun j j0 j8 j15 => by rw [hfL, eF6, pt_upd_ne j8, eF5, pt_upd_ne j15]; exact hFw j j0 j8 j15
          have z9 : A11 9 ts.1 = nI f := by rw [hoL 9 (by decide) (by decide), y9, pt_upd]
          have z10 : A11 10 ts.1 = nI m := by rw [hoL 10 (by decide) (by decide), y10, pt_upd]
          have z12 : A11 12 ts.1 = nI d := by rw [hoL 12 (by decide) (by decide), y12, pt_upd]
          refine pt_top (y := nI (pt_wx ax (fun v x => A 4 (3 * v + x)) (fun v x => A 5 (3 * v + x)) f (f + m) ts.2.1)) hrL ?_
          have hwx : pt_wx ax (fun v x => A 4 (3 * v + x)) (fun v x => A 5 (3 * v + x)) f (f + m) ts.2.1 < ax := by have h7 := pt_wa_le (fun x => pt_spr (fun i => A 4 (3 * ts.2.1 i + x) + A 5 (3 * ts.2.1 i + x)) f (f + m)) (ax - 1); rw [show ax - 1 + 1 = ax by omega] at h7; exact Nat.lt_of_le_of_lt h7 (by omega)
          refine lv_istore_n (lv' := [(3, .int (nI (pt_wx ax (fun v x => A 4 (3 * v + x)) (fun v x => A 5 (3 * v + x)) f (f + m) ts.2.1))), (2, .int (nI ts.1)), (0, .ref (a 0))]) hx hb dX2_build_192 rfl hl (by decide) rfl (fun ls hl => ?_)
          refine lv_aload_n hx hb dX2_build_193 rfl (lv_at hl 2 rfl) ?_
          refine va_get (D := (dC, dI)) (ci := 2) (v := .ref (a 10)) (C := RX2) (T := TX2) (N := 27) hx hb hts iw_c_X2_build_wsX20 hown hK hP 0 rfl rfl 10 (by decide) (hts _ wd_c_X2_build_X2_build_6) (fun _ h9 => h9) rfl dX2_build_194 ?_
          refine lv_iload_n hx hb dX2_build_197 rfl (lv_at hl 1 rfl) ?_
          refine pt_iald hx hb hK hP 7 6 rfl rfl ts.1 rfl (by omega) (by decide) dX2_build_198 ?_
          refine pt_top (y := nI m) z10 ?_
          refine lv_iconst (v := nI 4) hx hb dX2_build_199 (by decide) ?_
          refine lv_icmp_le (tgt := 284) hx hb dX2_build_200 (by decide) (fun c200 => ?_) (fun c200 => ?_)
          · have d200 : m ≤ 4 := (nI_leI (by omega) (by omega)).mp c200
            refine lv_goto (tgt := 76) hx hb dX2_build_284 (by decide) ?_
            have epn : pt_pend ax (fun v x => A 4 (3 * v + x)) (fun v x => A 5 (3 * v + x)) wk wn (pt_new (fun v x => A 4 (3 * v + x)) (fun v x => A 5 (3 * v + x)) f (f + m) d (pt_so1 o ts)) = (pt_tree ax (fun v x => A 4 (3 * v + x)) (fun v x => A 5 (3 * v + x)) (fun t => ¬ A 3 t = 0) md) := by rw [← hpend]; show _ = pt_pend ax _ _ wk wn _; rw [ew]; show _ = pt_pend ax _ _ wk wn (pt_mk ax _ _ (k + 1) f (f + m) d (pt_so1 o ts)); rw [pt_mk_leaf (show f + m - f ≤ 4 by omega)]
            exact ihw (wn, wk, pt_new (fun v x => A 4 (3 * v + x)) (fun v x => A 5 (3 * v + x)) f (f + m) d (pt_so1 o ts), F11, A11) _ _ _ ⟨⟨⟨kF11_15, hMT1, fun j hj => by show A11 16 j = _ ∧ A11 17 j = _ ∧ A11 18 j = _ ∧ A11 19 j = _; rw [xo 16 (by omega), xo 17 (by omega), xo 18 (by omega), xo 19 (by omega)]; exact hpd j (by omega), fun j hj => by have := hpv j (by omega); exact ⟨this.1, this.2.1, this.2.2.1, this.2.2.2.1, by show (wk j).2.2.2.1 ≤ (pt_so1 o ts).1 + 1; rw [pt_so1_nb]; omega⟩, by show (pt_so1 o ts).1 + 1 + pt_wt wk wn ≤ 31; rw [pt_so1_nb]; omega⟩, epn, ⟨kF11_0, hFx⟩, by show A11 6 = _; rw [xo 6 (by omega)]; exact h6w, fun j hj => by show A11 j = A j; rw [xo j (by omega)]; exact hAw j hj⟩, hP, hD, hS, lv_sub hl [2] rfl⟩ (by show pt_wt wk wn < pt_wt wk (wn + 1); omega)
          · have d200 : ¬ m ≤ 4 := fun q => c200 ((nI_leI (by omega) (by omega)).mpr q)
            refine lv_aload_n hx hb dX2_build_203 rfl (lv_at hl 2 rfl) ?_
            refine lv_aload_n hx hb dX2_build_204 rfl (lv_at hl 2 rfl) ?_
            refine va_get (D := (dC, dI)) (ci := 2) (v := .ref (a 9)) (C := RX2) (T := TX2) (N := 27) hx hb hts iw_c_X2_build_wsX20 hown hK hP 0 rfl rfl 9 (by decide) (hts _ wd_c_X2_build_X2_build_4) (fun _ h9 => h9) rfl dX2_build_205 ?_
            refine lv_iload_n hx hb dX2_build_208 rfl (lv_at hl 1 rfl) ?_
            refine pt_iald hx hb hK hP 6 5 rfl rfl ts.1 rfl (by omega) (by decide) dX2_build_209 ?_
            refine pt_top (y := nI f) z9 ?_
            refine lv_aload_n hx hb dX2_build_210 rfl (lv_at hl 2 rfl) ?_
            refine va_get (D := (dC, dI)) (ci := 2) (v := .ref (a 10)) (C := RX2) (T := TX2) (N := 27) hx hb hts iw_c_X2_build_wsX20 hown hK hP 0 rfl rfl 10 (by decide) (hts _ wd_c_X2_build_X2_build_6) (fun _ h9 => h9) rfl dX2_build_211 ?_
            refine lv_iload_n hx hb dX2_build_214 rfl (lv_at hl 1 rfl) ?_
            refine pt_iald hx hb hK hP 7 6 rfl rfl ts.1 rfl (by omega) (by decide) dX2_build_215 ?_
            refine pt_top (y := nI m) z10 ?_
            refine lv_iload_n hx hb dX2_build_216 rfl (lv_at hl 0 rfl) ?_
            refine pt_callv (wf := (fun u : pt_MS => pt_mw a c u.1 u.2)) (va_runV (As := [.int (nI f), .int (nI m), .int (nI (pt_wx ax (fun v x => A 4 (3 * v + x)) (fun v x => A 5 (3 * v + x)) f (f + m) ts.2.1))]) (rest := []) ⟨hx, hb, hml, hown, hts⟩ (c_X2_sort l dC dI a c F11 A11 _ f m (pt_wx ax (fun v x => A 4 (3 * v + x)) (fun v x => A 5 (3 * v + x)) f (f + m) ts.2.1) (pt_cnt (fun t => ¬ A 3 t = 0) md) md ts.2.1 hv1 hv2 (by omega) hmd (by omega) (by have := hMT1.2.1; rw [show (pt_new (fun v x => A 4 (3 * v + x)) (fun v x => A 5 (3 * v + x)) f (f + m) d (pt_so1 o ts)).2.1 = ts.2.1 from pt_so1_od] at this; exact this)) (cwV 3 hts gX2_build_X2_sort rfl rfl rfl (by decide +kernel) ⟨Nat.le_of_ble_eq_true rfl, Nat.le_of_ble_eq_true rfl⟩) (pt_wv2 hP hK hN hD (q0 := 0) rfl) rfl rfl hl.1 rfl (lv_room (Nat.le_of_ble_eq_true rfl)) dX2_build_217 ⟨Nat.le_of_ble_eq_true rfl, Nat.le_of_ble_eq_true rfl⟩) hD hS hA (fun _ => rfl) (fun u217 H locs hr217 hP hD hS => ?_)
            obtain ⟨F12, A12⟩ := u217
            obtain ⟨hrS, hfS, hoS⟩ := hr217
            dsimp only at hrS hfS hoS hP hD
            rw [xo 4 (by omega), xo 5 (by omega), hAw 4 (by omega), hAw 5 (by omega)] at hrS
            have hrS2 : pt_row (pt_cnt (fun t => ¬ A 3 t = 0) md) md (pt_srt (pt_bf (fun v => A 4 (3 * v + pt_wx ax (fun v x => A 4 (3 * v + x)) (fun v x => A 5 (3 * v + x)) f (f + m) (pt_so1 o ts).2.1) + A 5 (3 * v + pt_wx ax (fun v x => A 4 (3 * v + x)) (fun v x => A 5 (3 * v + x)) f (f + m) (pt_so1 o ts).2.1))) f (m - 1) (pt_so1 o ts).2.1) (A12 7) := by rw [pt_so1_od]; exact hrS
            have kF12_0 : F12 0 = nI 0 := by rw [hfS]; exact kF11_0
            have kF12_1 : F12 1 = nI ax := by rw [hfS]; exact kF11_1
            have kF12_15 : F12 15 = nI wn := by rw [hfS]; exact kF11_15
            have kF12_8 : F12 8 = nI (ts.1 + 1) := by rw [hfS]; exact kF11_8
            refine lv_aload_n hx hb dX2_build_220 rfl (lv_at hl 2 rfl) ?_
            refine va_get (D := (dC, dI)) (ci := 2) (v := .ref (a 10)) (C := RX2) (T := TX2) (N := 27) hx hb hts iw_c_X2_build_wsX20 hown hK hP 0 rfl rfl 10 (by decide) (hts _ wd_c_X2_build_X2_build_6) (fun _ h9 => h9) rfl dX2_build_221 ?_
            refine lv_iload_n hx hb dX2_build_224 rfl (lv_at hl 1 rfl) ?_
            refine pt_iald hx hb hK hP 7 6 rfl rfl ts.1 rfl (by omega) (by decide) dX2_build_225 ?_
            refine pt_top (y := nI m) (by rw [hoS 10 (by decide)]; exact z10) ?_
            refine lv_iconst (v := nI 1) hx hb dX2_build_226 (by decide) ?_
            refine lv_iadd hx hb dX2_build_227 ?_
            refine pt_top (y := nI (m + 1)) (nI_add _ _) ?_
            refine lv_iconst (v := nI 2) hx hb dX2_build_228 (by decide) ?_
            refine lv_idiv hx hb dX2_build_229 (by decide) ?_
            refine pt_top (y := nI ((m + 1) / 2)) (pk_div (by omega) (by decide) (by decide)) ?_
            refine lv_istore (lv' := [(4, .int (nI ((m + 1) / 2))), (3, .int (nI (pt_wx ax (fun v x => A 4 (3 * v + x)) (fun v x => A 5 (3 * v + x)) f (f + m) ts.2.1))), (2, .int (nI ts.1)), (0, .ref (a 0))]) hx hb dX2_build_230 hl (by decide) rfl (fun ls hl => ?_)
            refine lv_aload_n hx hb dX2_build_232 rfl (lv_at hl 3 rfl) ?_
            refine lv_aload_n hx hb dX2_build_233 rfl (lv_at hl 3 rfl) ?_
            refine va_get (D := (dC, dI)) (ci := 2) (v := .ref (a 9)) (C := RX2) (T := TX2) (N := 27) hx hb hts iw_c_X2_build_wsX20 hown hK hP 0 rfl rfl 9 (by decide) (hts _ wd_c_X2_build_X2_build_4) (fun _ h9 => h9) rfl dX2_build_234 ?_
            refine lv_iload_n hx hb dX2_build_237 rfl (lv_at hl 2 rfl) ?_
            refine pt_iald hx hb hK hP 6 5 rfl rfl ts.1 rfl (by omega) (by decide) dX2_build_238 ?_
            refine pt_top (y := nI f) (by rw [hoS 9 (by decide)]; exact z9) ?_
            refine lv_iload hx hb dX2_build_239 (lv_at hl 0 rfl) ?_
            refine lv_iadd hx hb dX2_build_241 ?_
            refine pt_top (y := nI (f + ((m + 1) / 2))) (nI_add _ _) ?_
            refine lv_aload_n hx hb dX2_build_242 rfl (lv_at hl 3 rfl) ?_
            refine va_get (D := (dC, dI)) (ci := 2) (v := .ref (a 10)) (C := RX2) (T := TX2) (N := 27) hx hb hts iw_c_X2_build_wsX20 hown hK hP 0 rfl rfl 10 (by decide) (hts _ wd_c_X2_build_X2_build_6) (fun _ h9 => h9) rfl dX2_build_243 ?_
            refine lv_iload_n hx hb dX2_build_246 rfl (lv_at hl 2 rfl) ?_
            refine pt_iald hx hb hK hP 7 6 rfl rfl ts.1 rfl (by omega) (by decide) dX2_build_247 ?_
            refine pt_top (y := nI m) (by rw [hoS 10 (by decide)]; exact z10) ?_
            refine lv_iload hx hb dX2_build_248 (lv_at hl 0 rfl) ?_
            refine lv_isub hx hb dX2_build_250 ?_
            refine pt_top (y := nI (m - (m + 1) / 2)) (pk_sub (by omega)) ?_
            refine lv_aload_n hx hb dX2_build_251 rfl (lv_at hl 3 rfl) ?_
            refine va_get (D := (dC, dI)) (ci := 2) (v := .ref (a 12)) (C := RX2) (T := TX2) (N := 27) hx hb hts iw_c_X2_build_wsX20 hown hK hP 0 rfl rfl 12 (by decide) (hts _ wd_c_X2_build_X2_build_8) (fun _ h9 => h9) rfl dX2_build_252 ?_
            refine lv_iload_n hx hb dX2_build_255 rfl (lv_at hl 2 rfl) ?_
            refine pt_iald hx hb hK hP 9 8 rfl rfl ts.1 rfl (by omega) (by decide) dX2_build_256 ?_
            refine pt_top (y := nI d) (by rw [hoS 12 (by decide)]; exact z12) ?_
            refine lv_iconst (v := nI 1) hx hb dX2_build_257 (by decide) ?_
            refine lv_iadd hx hb dX2_build_258 ?_
            refine pt_top (y := nI (d + 1)) (nI_add _ _) ?_
            refine lv_iload_n hx hb dX2_build_259 rfl (lv_at hl 2 rfl) ?_
            refine pt_callv (wf := (fun u : pt_MS => pt_mw a c u.1 u.2)) (va_runV (As := [.int (nI (f + ((m + 1) / 2))), .int (nI (m - (m + 1) / 2)), .int (nI (d + 1)), .int (nI ts.1)]) (rest := []) ⟨hx, hb, hml, hown, hts⟩ (c_X2_await l dC dI a c F12 A12 _ wn kF12_15 (by omega) (f + ((m + 1) / 2)) (m - (m + 1) / 2) (d + 1) (nI ts.1)) (cwV 4 hts gX2_build_X2_await rfl rfl rfl (by decide +kernel) ⟨Nat.le_of_ble_eq_true rfl, Nat.le_of_ble_eq_true rfl⟩) (pt_wv2 hP hK hN hD (q0 := 0) rfl) rfl rfl hl.1 rfl (lv_room (Nat.le_of_ble_eq_true rfl)) dX2_build_260 ⟨Nat.le_of_ble_eq_true rfl, Nat.le_of_ble_eq_true rfl⟩) hD hS hA (fun _ => rfl) (fun u260 H locs hr260 hP hD hS => ?_)
            obtain ⟨F13, A13⟩ := u260
            obtain ⟨fw13, w1613, w1713, w1813, w1913, wo13⟩ := hr260
            dsimp only at fw13 w1613 w1713 w1813 w1913 wo13 hP hD
            have kF13_0 : F13 0 = nI 0 := by rw [fw13, pt_upd_ne (by decide)]; exact kF12_0
            have kF13_1 : F13 1 = nI ax := by rw [fw13, pt_upd_ne (by decide)]; exact kF12_1
            have kF13_8 : F13 8 = nI (ts.1 + 1) := by rw [fw13, pt_upd_ne (by decide)]; exact kF12_8
            have kF13_15 : F13 15 = nI (wn + 1) := by rw [fw13, pt_upd]
            refine lv_aload_n hx hb dX2_build_263 rfl (lv_at hl 3 rfl) ?_
            refine lv_aload_n hx hb dX2_build_264 rfl (lv_at hl 3 rfl) ?_
            refine va_get (D := (dC, dI)) (ci := 2) (v := .ref (a 9)) (C := RX2) (T := TX2) (N := 27) hx hb hts iw_c_X2_build_wsX20 hown hK hP 0 rfl rfl 9 (by decide) (hts _ wd_c_X2_build_X2_build_4) (fun _ h9 => h9) rfl dX2_build_265 ?_
            refine lv_iload_n hx hb dX2_build_268 rfl (lv_at hl 2 rfl) ?_
            refine pt_iald hx hb hK hP 6 5 rfl rfl ts.1 rfl (by omega) (by decide) dX2_build_269 ?_
            refine pt_top (y := nI f) (by rw [wo13 9 (by omega), hoS 9 (by decide)]; exact z9) ?_
            refine lv_iload hx hb dX2_build_270 (lv_at hl 0 rfl) ?_
            refine lv_aload_n hx hb dX2_build_272 rfl (lv_at hl 3 rfl) ?_
            refine va_get (D := (dC, dI)) (ci := 2) (v := .ref (a 12)) (C := RX2) (T := TX2) (N := 27) hx hb hts iw_c_X2_build_wsX20 hown hK hP 0 rfl rfl 12 (by decide) (hts _ wd_c_X2_build_X2_build_8) (fun _ h9 => h9) rfl dX2_build_273 ?_
            refine lv_iload_n hx hb dX2_build_276 rfl (lv_at hl 2 rfl) ?_
            refine pt_iald hx hb hK hP 9 8 rfl rfl ts.1 rfl (by omega) (by decide) dX2_build_277 ?_
            refine pt_top (y := nI d) (by rw [wo13 12 (by omega), hoS 12 (by decide)]; exact z12) ?_
            refine lv_iconst (v := nI 1) hx hb dX2_build_278 (by decide) ?_
            refine lv_iadd hx hb dX2_build_279 ?_
            refine pt_top (y := nI (d + 1)) (nI_add _ _) ?_
            refine lv_iconst (v := (-1)) hx hb dX2_build_280 (by decide) ?_
            refine pt_callv (wf := (fun u : pt_MS => pt_mw a c u.1 u.2)) (va_runV (As := [.int (nI f), .int (nI ((m + 1) / 2)), .int (nI (d + 1)), .int (-1)]) (rest := []) ⟨hx, hb, hml, hown, hts⟩ (c_X2_await l dC dI a c F13 A13 _ (wn + 1) kF13_15 (by omega) f ((m + 1) / 2) (d + 1) (-1)) (cwV 4 hts gX2_build_X2_await rfl rfl rfl (by decide +kernel) ⟨Nat.le_of_ble_eq_true rfl, Nat.le_of_ble_eq_true rfl⟩) (pt_wv2 hP hK hN hD (q0 := 0) rfl) rfl rfl hl.1 rfl (lv_room (Nat.le_of_ble_eq_true rfl)) dX2_build_281 ⟨Nat.le_of_ble_eq_true rfl, Nat.le_of_ble_eq_true rfl⟩) hD hS hA (fun _ => rfl) (fun u281 H locs hr281 hP hD hS => ?_)
            obtain ⟨F14, A14⟩ := u281
            obtain ⟨fw14, w1614, w1714, w1814, w1914, wo14⟩ := hr281
            dsimp only at fw14 w1614 w1714 w1814 w1914 wo14 hP hD
            have kF14_0 : F14 0 = nI 0 := by rw [fw14, pt_upd_ne (by decide)]; exact kF13_0
            have kF14_1 : F14 1 = nI ax := by rw [fw14, pt_upd_ne (by decide)]; exact kF13_1
            have kF14_8 : F14 8 = nI (ts.1 + 1) := by rw [fw14, pt_upd_ne (by decide)]; exact kF13_8
            have kF14_15 : F14 15 = nI (wn + 1 + 1) := by rw [fw14, pt_upd]
            refine lv_goto (tgt := 76) hx hb dX2_build_284 (by decide) ?_
            obtain ⟨wk2, ewk2⟩ : ∃ zz : pt_WK, zz = (va_up (va_up wk wn (f + (m + 1) / 2, m - (m + 1) / 2, d + 1, ts.1 + 1, k)) (wn + 1) (f, (m + 1) / 2, d + 1, 0, k)) := ⟨_, rfl⟩
            have wk2a : wk2 wn = (f + (m + 1) / 2, m - (m + 1) / 2, d + 1, ts.1 + 1, k) := by rw [ewk2, pt_up_ne (by omega), pt_up]
            have wk2b : wk2 (wn + 1) = (f, (m + 1) / 2, d + 1, 0, k) := by rw [ewk2, pt_up]
            have wk2c : ∀ j, j < wn → wk2 j = wk j := fun j hj => by rw [ewk2, pt_up_ne (by omega), pt_up_ne (by omega)]
            have epn : pt_pend ax (fun v x => A 4 (3 * v + x)) (fun v x => A 5 (3 * v + x)) wk2 (wn + 1 + 1) (pt_std ax (fun v x => A 4 (3 * v + x)) (fun v x => A 5 (3 * v + x)) f (f + m) (pt_new (fun v x => A 4 (3 * v + x)) (fun v x => A 5 (3 * v + x)) f (f + m) d (pt_so1 o ts))) = (pt_tree ax (fun v x => A 4 (3 * v + x)) (fun v x => A 5 (3 * v + x)) (fun t => ¬ A 3 t = 0) md) := by
              rw [← hpend]
              show pt_pend ax _ _ wk2 wn _ = pt_pend ax _ _ wk wn _
              rw [wk2a, wk2b, ew, pt_pend_c wn _ wk2c]
              show pt_pend ax _ _ wk wn (pt_mk ax _ _ k (f + (m + 1) / 2) (f + (m + 1) / 2 + (m - (m + 1) / 2)) (d + 1) (pt_so1 (ts.1 + 1) (pt_mk ax _ _ k f (f + (m + 1) / 2) (d + 1) (pt_so1 0 _)))) = pt_pend ax _ _ wk wn (pt_mk ax _ _ (k + 1) f (f + m) d (pt_so1 o ts))
              rw [pt_mk_part (show ¬ f + m - f ≤ 4 by omega), pt_so1_0, pt_so1_s, pt_so1_nb, show f + (m + 1) / 2 + (m - (m + 1) / 2) = f + m by omega, show f + m - f + 1 = m + 1 by omega]
            have hkk1 : 1 ≤ k := by
              rcases k with _ | k
              · exact absurd hv3 (by show ¬ m ≤ 4; omega)
              · omega
            have hp1 : 2 ^ (k + 1) = 2 * 2 ^ k := by rw [Nat.pow_succ]; omega
            have hp2 : 2 ^ (k + 1 + 1) = 2 * 2 ^ (k + 1) := by rw [Nat.pow_succ]; omega
            have hq1 : 1 ≤ 2 ^ k := Nat.one_le_two_pow
            have ewt : pt_wt wk2 (wn + 1 + 1) + 1 = pt_wt wk (wn + 1) := by
              show pt_wt wk2 wn + (2 ^ (wk2 wn).2.2.2.2 - 1) + (2 ^ (wk2 (wn + 1)).2.2.2.2 - 1) + 1 = pt_wt wk wn + (2 ^ (wk wn).2.2.2.2 - 1)
              rw [wk2a, wk2b, ew, pt_wt_c wn wk2c]
              show pt_wt wk wn + (2 ^ k - 1) + (2 ^ k - 1) + 1 = pt_wt wk wn + (2 ^ (k + 1) - 1)
              omega
            have hMT3 : pt_MT ax (pt_cnt (fun t => ¬ A 3 t = 0) md) md (pt_std ax (fun v x => A 4 (3 * v + x)) (fun v x => A 5 (3 * v + x)) f (f + m) (pt_new (fun v x => A 4 (3 * v + x)) (fun v x => A 5 (3 * v + x)) f (f + m) d (pt_so1 o ts))) F14 A14 := pt_MT_row hMT1 (by rw [fw14, pt_upd_ne (by decide), fw13, pt_upd_ne (by decide), hfS]) (by show pt_row _ _ (pt_srt _ f (f + m - f - 1) _) _; rw [wo14 7 (by omega), wo13 7 (by omega), show f + m - f - 1 = m - 1 by omega]; exact hrS2) (fun j j1 j2 => by rw [wo14 j (by omega), wo13 j (by omega)]; exact hoS j (by omega))
            have xs : ∀ j, j < 7 ∨ 19 < j → A14 j = Aw j := fun j hj => by rw [wo14 j (by omega), wo13 j (by omega), hoS j (by omega)]; exact xo j (by omega)
            have xr : ∀ j, 16 ≤ j → j ≤ 19 → A12 j = Aw j := fun j j1 j2 => by rw [hoS j (by omega)]; exact xo j (by omega)
            have hpd2 : ∀ j, j < wn + 1 + 1 → A14 16 j = nI (wk2 j).1 ∧ A14 17 j = nI (wk2 j).2.1 ∧ A14 18 j = nI (wk2 j).2.2.1 ∧ A14 19 j = pt_oI (wk2 j).2.2.2.1 := fun j hj => by
              rw [w1614, w1714, w1814, w1914, w1613, w1713, w1813, w1913, xr 16 (by omega) (by omega), xr 17 (by omega) (by omega), xr 18 (by omega) (by omega), xr 19 (by omega) (by omega)]
              by_cases q1 : j = wn + 1
              · rw [q1, pt_upd, pt_upd, pt_upd, pt_upd, wk2b]; exact ⟨rfl, rfl, rfl, rfl⟩
              · rw [pt_upd_ne q1, pt_upd_ne q1, pt_upd_ne q1, pt_upd_ne q1]
                by_cases q2 : j = wn
                · rw [q2, pt_upd, pt_upd, pt_upd, pt_upd, wk2a]; exact ⟨rfl, rfl, rfl, (pt_oI_s (o := ts.1 + 1) (by omega)).symm⟩
                · rw [pt_upd_ne q2, pt_upd_ne q2, pt_upd_ne q2, pt_upd_ne q2, wk2c j (by omega)]; exact hpd j (by omega)
            have hpv2 : ∀ j, j < wn + 1 + 1 → 0 < (wk2 j).2.1 ∧ (wk2 j).1 + (wk2 j).2.1 ≤ (pt_cnt (fun t => ¬ A 3 t = 0) md) ∧ (wk2 j).2.1 ≤ 2 ^ ((wk2 j).2.2.2.2 + 1) ∧ 1 ≤ (wk2 j).2.2.2.2 ∧ (wk2 j).2.2.2.1 ≤ ts.1 + 1 := fun j hj => by
              by_cases q1 : j = wn + 1
              · rw [q1, wk2b]; exact ⟨by show 0 < (m + 1) / 2; omega, by show f + (m + 1) / 2 ≤ _; omega, by show (m + 1) / 2 ≤ 2 ^ (k + 1); omega, hkk1, Nat.zero_le _⟩
              · by_cases q2 : j = wn
                · rw [q2, wk2a]; exact ⟨by show 0 < m - (m + 1) / 2; omega, by show f + (m + 1) / 2 + (m - (m + 1) / 2) ≤ _; omega, by show m - (m + 1) / 2 ≤ 2 ^ (k + 1); omega, hkk1, Nat.le_refl _⟩
                · rw [wk2c j (by omega)]; have := hpv j (by omega); exact ⟨this.1, this.2.1, this.2.2.1, this.2.2.2.1, by omega⟩
            have nS : (pt_std ax (fun v x => A 4 (3 * v + x)) (fun v x => A 5 (3 * v + x)) f (f + m) (pt_new (fun v x => A 4 (3 * v + x)) (fun v x => A 5 (3 * v + x)) f (f + m) d (pt_so1 o ts))).1 = ts.1 + 1 := by show (pt_so1 o ts).1 + 1 = _; rw [pt_so1_nb]
            exact ihw (wn + 1 + 1, wk2, (pt_std ax (fun v x => A 4 (3 * v + x)) (fun v x => A 5 (3 * v + x)) f (f + m) (pt_new (fun v x => A 4 (3 * v + x)) (fun v x => A 5 (3 * v + x)) f (f + m) d (pt_so1 o ts))), F14, A14) _ _ _ ⟨⟨⟨kF14_15, hMT3, hpd2, by rw [nS]; exact hpv2, by show (pt_std ax (fun v x => A 4 (3 * v + x)) (fun v x => A 5 (3 * v + x)) f (f + m) (pt_new (fun v x => A 4 (3 * v + x)) (fun v x => A 5 (3 * v + x)) f (f + m) d (pt_so1 o ts))).1 + pt_wt wk2 (wn + 1 + 1) ≤ 31; rw [nS]; omega⟩, epn, ⟨kF14_0, fun j j0 j8 j15 => by show F14 j = F j; rw [fw14, pt_upd_ne j15, fw13, pt_upd_ne j15, hfS]; exact hFx j j0 j8 j15⟩, by show A14 6 = _; rw [xs 6 (by omega)]; exact h6w, fun j hj => by show A14 j = A j; rw [xs j (by omega)]; exact hAw j hj⟩, hP, hD, hS, lv_sub hl [3] rfl⟩ (by show pt_wt wk2 (wn + 1 + 1) < pt_wt wk (wn + 1); omega)
        · have d169 : ¬ o = 0 := fun q => c169 (by rw [pt_oI_0 q]; decide)
          refine lv_aload_n hx hb dX2_build_172 rfl (lv_at hl 1 rfl) ?_
          refine va_get (D := (dC, dI)) (ci := 2) (v := .ref (a 11)) (C := RX2) (T := TX2) (N := 27) hx hb hts iw_c_X2_build_wsX20 hown hK hP 0 rfl rfl 11 (by decide) (hts _ wd_c_X2_build_X2_build_10) (fun _ h9 => h9) rfl dX2_build_173 ?_
          refine lv_aload_n hx hb dX2_build_176 rfl (lv_at hl 1 rfl) ?_
          refine va_get (D := (dC, dI)) (ci := 2) (v := .ref (a 19)) (C := RX2) (T := TX2) (N := 27) hx hb hts iw_c_X2_build_wsX20 hown hK hP 0 rfl rfl 19 (by decide) (hts _ wd_c_X2_build_X2_build_11) (fun _ h9 => h9) rfl dX2_build_177 ?_
          refine lv_aload_n hx hb dX2_build_180 rfl (lv_at hl 1 rfl) ?_
          refine va_get (D := (dC, dI)) (ci := 2) (v := .int (F6 15)) (C := RX2) (T := TX2) (N := 27) hx hb hts iw_c_X2_build_wsX20 hown hK hP 0 rfl rfl 15 (by decide) (hts _ wd_c_X2_build_X2_build_3) (fun _ h9 => h9) rfl dX2_build_181 ?_
          refine pt_top (y := nI wn) kF6_15 ?_
          refine pt_iald hx hb hK hP 15 14 rfl rfl wn rfl (by omega) (by decide) dX2_build_184 ?_
          refine pt_top (y := pt_oI o) (by rw [eA10, pt_up_ne (by decide), eA9, pt_up_ne (by decide), eA8, pt_up_ne (by decide), eA7, pt_up_ne (by decide)]; exact p19) ?_
          refine lv_iload_n hx hb dX2_build_185 rfl (lv_at hl 0 rfl) ?_
          obtain ⟨A15, eA15⟩ : ∃ zz, zz = va_up A10 11 (upd (A10 11) (o - 1) (nI ts.1)) := ⟨_, rfl⟩
          refine pt_iast hx hb hK hP hD hS 8 7 rfl rfl (o - 1) (pt_oI_s d169) (by omega) (by decide) (ws' := (pt_mw a c F6 A15)) (by rw [eA15]; rfl) dX2_build_186 (fun H locs hP hD hS => ?_)
          have y9 : A15 9 = upd (Aw 9) ts.1 (nI f) := by rw [eA15, pt_up_ne (by decide), eA10, pt_up_ne (by decide), eA9, pt_up_ne (by decide), eA8, pt_up_ne (by decide), eA7, pt_up]
          have y10 : A15 10 = upd (Aw 10) ts.1 (nI m) := by rw [eA15, pt_up_ne (by decide), eA10, pt_up_ne (by decide), eA9, pt_up_ne (by decide), eA8, pt_up, eA7, pt_up_ne (by decide)]
          have y12 : A15 12 = upd (Aw 12) ts.1 (nI d) := by rw [eA15, pt_up_ne (by decide), eA10, pt_up_ne (by decide), eA9, pt_up, eA8, pt_up_ne (by decide), eA7, pt_up_ne (by decide)]
          have y11 : A15 11 = upd (upd (Aw 11) ts.1 (nI 0)) (o - 1) (nI ts.1) := by rw [eA15, pt_up, eA10, pt_up, eA9, pt_up_ne (by decide), eA8, pt_up_ne (by decide), eA7, pt_up_ne (by decide)]
          have y11b : A15 11 = if o = 0 then upd (Aw 11) ts.1 (nI 0) else upd (upd (Aw 11) ts.1 (nI 0)) (o - 1) (nI ts.1) := by rw [if_neg d169]; exact y11
          have yo : ∀ j, j < 9 ∨ 12 < j → A15 j = Aw j := fun j hj => by rw [eA15, pt_up_ne (by omega), eA10, pt_up_ne (by omega), eA9, pt_up_ne (by omega), eA8, pt_up_ne (by omega), eA7, pt_up_ne (by omega)]
          refine lv_aload_n hx hb dX2_build_187 rfl (lv_at hl 1 rfl) ?_
          refine lv_iload_n hx hb dX2_build_188 rfl (lv_at hl 0 rfl) ?_
          refine pt_calli (wf := (fun u : pt_MS => pt_mw a c u.1 u.2)) (va_runV (As := [.int (nI ts.1)]) (rest := []) ⟨hx, hb, hml, hown, hts⟩ (c_X2_look l dC dI a c F6 A15 _ ax kF6_1 hax hax1 ts.1 f m (pt_cnt (fun t => ¬ A 3 t = 0) md) md ts.2.1 (by omega) (by rw [y9, pt_upd]) (by rw [y10, pt_upd]) hv1 hv2 (by omega) hmd (by rw [yo 7 (by omega)]; exact hMT.2.1) (fun v x hv hx9 => by rw [yo 4 (by omega), yo 5 (by omega), hAw 4 (by omega), hAw 5 (by omega)]; exact hbd v x hv hx9)) (cwV 1 hts gX2_build_X2_look rfl rfl rfl (by decide +kernel) ⟨Nat.le_of_ble_eq_true rfl, Nat.le_of_ble_eq_true rfl⟩) (pt_wv2 hP hK hN hD (q0 := 0) rfl) rfl rfl hl.1 rfl (lv_room (Nat.le_of_ble_eq_true rfl)) dX2_build_189 ⟨Nat.le_of_ble_eq_true rfl, Nat.le_of_ble_eq_true rfl⟩) hD hS hA (fun _ => rfl) (fun r189 u189 H locs hr189 hP hD hS => ?_)
          obtain ⟨F16, A16⟩ := u189
          obtain ⟨hrL, hfL, hbL, hkL, hoL⟩ := hr189
          dsimp only at hrL hfL hbL hkL hoL hP hD
          rw [yo 4 (by omega), yo 5 (by omega), hAw 4 (by omega), hAw 5 (by omega)] at hrL hbL
          have kF16_0 : F16 0 = nI 0 := by rw [hfL]; exact kF6_0
          have kF16_1 : F16 1 = nI ax := by rw [hfL]; exact kF6_1
          have kF16_15 : F16 15 = nI wn := by rw [hfL]; exact kF6_15
          have kF16_8 : F16 8 = nI (ts.1 + 1) := by rw [hfL]; exact kF6_8
          have hMT1 : pt_MT ax (pt_cnt (fun t => ¬ A 3 t = 0) md) md (pt_new (fun v x => A 4 (3 * v + x)) (fun v x => A 5 (3 * v + x)) f (f + m) d (pt_so1 o ts)) F16 A16 := pt_MT_new hMT hv5 kF16_8 ((hoL 7 (by decide) (by decide)).trans (yo 7 (by omega))) ((hoL 9 (by decide) (by decide)).trans y9) ((hoL 10 (by decide) (by decide)).trans y10) ((hoL 11 (by decide) (by decide)).trans y11b) ((hoL 12 (by decide) (by decide)).trans y12) hbL (fun k9 hk9 => by have := hkL k9 hk9; rw [yo 13 (by omega), yo 14 (by omega)] at this; exact this) hax
          have xo : ∀ j, j < 9 ∨ 14 < j → A16 j = Aw j := fun j hj => (hoL j (by omega) (by omega)).trans (yo j (by omega))
          have hFx : ∀ j, j ≠ 0 → j ≠ 8 → j ≠ 15 → F16 j = F j := fun j j0 j8 j15 => by rw [hfL, eF6, pt_upd_ne j8, eF5, pt_upd_ne j15]; exact hFw j j0 j8 j15
          have z9 : A16 9 ts.1 = nI f := by rw [hoL 9 (by decide) (by decide), y9, pt_upd]
          have z10 : A16 10 ts.1 = nI m := by rw [hoL 10 (by decide) (by decide), y10, pt_upd]
          have z12 : A16 12 ts.1 = nI d := by rw [hoL 12 (by decide) (by decide), y12, pt_upd]
          refine pt_top (y := nI (pt_wx ax (fun v x => A 4 (3 * v + x)) (fun v x => A 5 (3 * v + x)) f (f + m) ts.2.1)) hrL ?_
          have hwx : pt_wx ax (fun v x => A 4 (3 * v + x)) (fun v x => A 5 (3 * v + x)) f (f + m) ts.2.1 < ax := by have h7 := pt_wa_le (fun x => pt_spr (fun i => A 4 (3 * ts.2.1 i + x) + A 5 (3 * ts.2.1 i + x)) f (f + m)) (ax - 1); rw [show ax - 1 + 1 = ax by omega] at h7; exact Nat.lt_of_le_of_lt h7 (by omega)
          refine lv_istore_n (lv' := [(3, .int (nI (pt_wx ax (fun v x => A 4 (3 * v + x)) (fun v x => A 5 (3 * v + x)) f (f + m) ts.2.1))), (2, .int (nI ts.1)), (0, .ref (a 0))]) hx hb dX2_build_192 rfl hl (by decide) rfl (fun ls hl => ?_)
          refine lv_aload_n hx hb dX2_build_193 rfl (lv_at hl 2 rfl) ?_
          refine va_get (D := (dC, dI)) (ci := 2) (v := .ref (a 10)) (C := RX2) (T := TX2) (N := 27) hx hb hts iw_c_X2_build_wsX20 hown hK hP 0 rfl rfl 10 (by decide) (hts _ wd_c_X2_build_X2_build_6) (fun _ h9 => h9) rfl dX2_build_194 ?_
          refine lv_iload_n hx hb dX2_build_197 rfl (lv_at hl 1 rfl) ?_
          refine pt_iald hx hb hK hP 7 6 rfl rfl ts.1 rfl (by omega) (by decide) dX2_build_198 ?_
          refine pt_top (y := nI m) z10 ?_
          refine lv_iconst (v := nI 4) hx hb dX2_build_199 (by decide) ?_
          refine lv_icmp_le (tgt := 284) hx hb dX2_build_200 (by decide) (fun c200 => ?_) (fun c200 => ?_)
          · have d200 : m ≤ 4 := (nI_leI (by omega) (by omega)).mp c200
            refine lv_goto (tgt := 76) hx hb dX2_build_284 (by decide) ?_
            have epn : pt_pend ax (fun v x => A 4 (3 * v + x)) (fun v x => A 5 (3 * v + x)) wk wn (pt_new (fun v x => A 4 (3 * v + x)) (fun v x => A 5 (3 * v + x)) f (f + m) d (pt_so1 o ts)) = (pt_tree ax (fun v x => A 4 (3 * v + x)) (fun v x => A 5 (3 * v + x)) (fun t => ¬ A 3 t = 0) md) := by rw [← hpend]; show _ = pt_pend ax _ _ wk wn _; rw [ew]; show _ = pt_pend ax _ _ wk wn (pt_mk ax _ _ (k + 1) f (f + m) d (pt_so1 o ts)); rw [pt_mk_leaf (show f + m - f ≤ 4 by omega)]
            exact ihw (wn, wk, pt_new (fun v x => A 4 (3 * v + x)) (fun v x => A 5 (3 * v + x)) f (f + m) d (pt_so1 o ts), F16, A16) _ _ _ ⟨⟨⟨kF16_15, hMT1, fun j hj => by show A16 16 j = _ ∧ A16 17 j = _ ∧ A16 18 j = _ ∧ A16 19 j = _; rw [xo 16 (by omega), xo 17 (by omega), xo 18 (by omega), xo 19 (by omega)]; exact hpd j (by omega), fun j hj => by have := hpv j (by omega); exact ⟨this.1, this.2.1, this.2.2.1, this.2.2.2.1, by show (wk j).2.2.2.1 ≤ (pt_so1 o ts).1 + 1; rw [pt_so1_nb]; omega⟩, by show (pt_so1 o ts).1 + 1 + pt_wt wk wn ≤ 31; rw [pt_so1_nb]; omega⟩, epn, ⟨kF16_0, hFx⟩, by show A16 6 = _; rw [xo 6 (by omega)]; exact h6w, fun j hj => by show A16 j = A j; rw [xo j (by omega)]; exact hAw j hj⟩, hP, hD, hS, lv_sub hl [2] rfl⟩ (by show pt_wt wk wn < pt_wt wk (wn + 1); omega)
          · have d200 : ¬ m ≤ 4 := fun q => c200 ((nI_leI (by omega) (by omega)).mpr q)
            refine lv_aload_n hx hb dX2_build_203 rfl (lv_at hl 2 rfl) ?_
            refine lv_aload_n hx hb dX2_build_204 rfl (lv_at hl 2 rfl) ?_
            refine va_get (D := (dC, dI)) (ci := 2) (v := .ref (a 9)) (C := RX2) (T := TX2) (N := 27) hx hb hts iw_c_X2_build_wsX20 hown hK hP 0 rfl rfl 9 (by decide) (hts _ wd_c_X2_build_X2_build_4) (fun _ h9 => h9) rfl dX2_build_205 ?_
            refine lv_iload_n hx hb dX2_build_208 rfl (lv_at hl 1 rfl) ?_
            refine pt_iald hx hb hK hP 6 5 rfl rfl ts.1 rfl (by omega) (by decide) dX2_build_209 ?_
            refine pt_top (y := nI f) z9 ?_
            refine lv_aload_n hx hb dX2_build_210 rfl (lv_at hl 2 rfl) ?_
            refine va_get (D := (dC, dI)) (ci := 2) (v := .ref (a 10)) (C := RX2) (T := TX2) (N := 27) hx hb hts iw_c_X2_build_wsX20 hown hK hP 0 rfl rfl 10 (by decide) (hts _ wd_c_X2_build_X2_build_6) (fun _ h9 => h9) rfl dX2_build_211 ?_
            refine lv_iload_n hx hb dX2_build_214 rfl (lv_at hl 1 rfl) ?_
            refine pt_iald hx hb hK hP 7 6 rfl rfl ts.1 rfl (by omega) (by decide) dX2_build_215 ?_
            refine pt_top (y := nI m) z10 ?_
            refine lv_iload_n hx hb dX2_build_216 rfl (lv_at hl 0 rfl) ?_
            refine pt_callv (wf := (fun u : pt_MS => pt_mw a c u.1 u.2)) (va_runV (As := [.int (nI f), .int (nI m), .int (nI (pt_wx ax (fun v x => A 4 (3 * v + x)) (fun v x => A 5 (3 * v + x)) f (f + m) ts.2.1))]) (rest := []) ⟨hx, hb, hml, hown, hts⟩ (c_X2_sort l dC dI a c F16 A16 _ f m (pt_wx ax (fun v x => A 4 (3 * v + x)) (fun v x => A 5 (3 * v + x)) f (f + m) ts.2.1) (pt_cnt (fun t => ¬ A 3 t = 0) md) md ts.2.1 hv1 hv2 (by omega) hmd (by omega) (by have := hMT1.2.1; rw [show (pt_new (fun v x => A 4 (3 * v + x)) (fun v x => A 5 (3 * v + x)) f (f + m) d (pt_so1 o ts)).2.1 = ts.2.1 from pt_so1_od] at this; exact this)) (cwV 3 hts gX2_build_X2_sort rfl rfl rfl (by decide +kernel) ⟨Nat.le_of_ble_eq_true rfl, Nat.le_of_ble_eq_true rfl⟩) (pt_wv2 hP hK hN hD (q0 := 0) rfl) rfl rfl hl.1 rfl (lv_room (Nat.le_of_ble_eq_true rfl)) dX2_build_217 ⟨Nat.le_of_ble_eq_true rfl, Nat.le_of_ble_eq_true rfl⟩) hD hS hA (fun _ => rfl) (fun u217 H locs hr217 hP hD hS => ?_)
            obtain ⟨F17, A17⟩ := u217
            obtain ⟨hrS, hfS, hoS⟩ := hr217
            dsimp only at hrS hfS hoS hP hD
            rw [xo 4 (by omega), xo 5 (by omega), hAw 4 (by omega), hAw 5 (by omega)] at hrS
            have hrS2 : pt_row (pt_cnt (fun t => ¬ A 3 t = 0) md) md (pt_srt (pt_bf (fun v => A 4 (3 * v + pt_wx ax (fun v x => A 4 (3 * v + x)) (fun v x => A 5 (3 * v + x)) f (f + m) (pt_so1 o ts).2.1) + A 5 (3 * v + pt_wx ax (fun v x => A 4 (3 * v + x)) (fun v x => A 5 (3 * v + x)) f (f + m) (pt_so1 o ts).2.1))) f (m - 1) (pt_so1 o ts).2.1) (A17 7) := by rw [pt_so1_od]; exact hrS
            have kF17_0 : F17 0 = nI 0 := by rw [hfS]; exact kF16_0
            have kF17_1 : F17 1 = nI ax := by rw [hfS]; exact kF16_1
            have kF17_15 : F17 15 = nI wn := by rw [hfS]; exact kF16_15
            have kF17_8 : F17 8 = nI (ts.1 + 1) := by rw [hfS]; exact kF16_8
            refine lv_aload_n hx hb dX2_build_220 rfl (lv_at hl 2 rfl) ?_
            refine va_get (D := (dC, dI)) (ci := 2) (v := .ref (a 10)) (C := RX2) (T := TX2) (N := 27) hx hb hts iw_c_X2_build_wsX20 hown hK hP 0 rfl rfl 10 (by decide) (hts _ wd_c_X2_build_X2_build_6) (fun _ h9 => h9) rfl dX2_build_221 ?_
            refine lv_iload_n hx hb dX2_build_224 rfl (lv_at hl 1 rfl) ?_
            refine pt_iald hx hb hK hP 7 6 rfl rfl ts.1 rfl (by omega) (by decide) dX2_build_225 ?_
            refine pt_top (y := nI m) (by rw [hoS 10 (by decide)]; exact z10) ?_
            refine lv_iconst (v := nI 1) hx hb dX2_build_226 (by decide) ?_
            refine lv_iadd hx hb dX2_build_227 ?_
            refine pt_top (y := nI (m + 1)) (nI_add _ _) ?_
            refine lv_iconst (v := nI 2) hx hb dX2_build_228 (by decide) ?_
            refine lv_idiv hx hb dX2_build_229 (by decide) ?_
            refine pt_top (y := nI ((m + 1) / 2)) (pk_div (by omega) (by decide) (by decide)) ?_
            refine lv_istore (lv' := [(4, .int (nI ((m + 1) / 2))), (3, .int (nI (pt_wx ax (fun v x => A 4 (3 * v + x)) (fun v x => A 5 (3 * v + x)) f (f + m) ts.2.1))), (2, .int (nI ts.1)), (0, .ref (a 0))]) hx hb dX2_build_230 hl (by decide) rfl (fun ls hl => ?_)
            refine lv_aload_n hx hb dX2_build_232 rfl (lv_at hl 3 rfl) ?_
            refine lv_aload_n hx hb dX2_build_233 rfl (lv_at hl 3 rfl) ?_
            refine va_get (D := (dC, dI)) (ci := 2) (v := .ref (a 9)) (C := RX2) (T := TX2) (N := 27) hx hb hts iw_c_X2_build_wsX20 hown hK hP 0 rfl rfl 9 (by decide) (hts _ wd_c_X2_build_X2_build_4) (fun _ h9 => h9) rfl dX2_build_234 ?_
            refine lv_iload_n hx hb dX2_build_237 rfl (lv_at hl 2 rfl) ?_
            refine pt_iald hx hb hK hP 6 5 rfl rfl ts.1 rfl (by omega) (by decide) dX2_build_238 ?_
            refine pt_top (y := nI f) (by rw [hoS 9 (by decide)]; exact z9) ?_
            refine lv_iload hx hb dX2_build_239 (lv_at hl 0 rfl) ?_
            refine lv_iadd hx hb dX2_build_241 ?_
            refine pt_top (y := nI (f + ((m + 1) / 2))) (nI_add _ _) ?_
            refine lv_aload_n hx hb dX2_build_242 rfl (lv_at hl 3 rfl) ?_
            refine va_get (D := (dC, dI)) (ci := 2) (v := .ref (a 10)) (C := RX2) (T := TX2) (N := 27) hx hb hts iw_c_X2_build_wsX20 hown hK hP 0 rfl rfl 10 (by decide) (hts _ wd_c_X2_build_X2_build_6) (fun _ h9 => h9) rfl dX2_build_243 ?_
            refine lv_iload_n hx hb dX2_build_246 rfl (lv_at hl 2 rfl) ?_
            refine pt_iald hx hb hK hP 7 6 rfl rfl ts.1 rfl (by omega) (by decide) dX2_build_247 ?_
            refine pt_top (y := nI m) (by rw [hoS 10 (by decide)]; exact z10) ?_
            refine lv_iload hx hb dX2_build_248 (lv_at hl 0 rfl) ?_
            refine lv_isub hx hb dX2_build_250 ?_
            refine pt_top (y := nI (m - (m + 1) / 2)) (pk_sub (by omega)) ?_
            refine lv_aload_n hx hb dX2_build_251 rfl (lv_at hl 3 rfl) ?_
            refine va_get (D := (dC, dI)) (ci := 2) (v := .ref (a 12)) (C := RX2) (T := TX2) (N := 27) hx hb hts iw_c_X2_build_wsX20 hown hK hP 0 rfl rfl 12 (by decide) (hts _ wd_c_X2_build_X2_build_8) (fun _ h9 => h9) rfl dX2_build_252 ?_
            refine lv_iload_n hx hb dX2_build_255 rfl (lv_at hl 2 rfl) ?_
            refine pt_iald hx hb hK hP 9 8 rfl rfl ts.1 rfl (by omega) (by decide) dX2_build_256 ?_
            refine pt_top (y := nI d) (by rw [hoS 12 (by decide)]; exact z12) ?_
            refine lv_iconst (v := nI 1) hx hb dX2_build_257 (by decide) ?_
            refine lv_iadd hx hb dX2_build_258 ?_
            refine pt_top (y := nI (d + 1)) (nI_add _ _) ?_
            refine lv_iload_n hx hb dX2_build_259 rfl (lv_at hl 2 rfl) ?_
            refine pt_callv (wf := (fun u : pt_MS => pt_mw a c u.1 u.2)) (va_runV (As := [.int (nI (f + ((m + 1) / 2))), .int (nI (m - (m + 1) / 2)), .int (nI (d + 1)), .int (nI ts.1)]) (rest := []) ⟨hx, hb, hml, hown, hts⟩ (c_X2_await l dC dI a c F17 A17 _ wn kF17_15 (by omega) (f + ((m + 1) / 2)) (m - (m + 1) / 2) (d + 1) (nI ts.1)) (cwV 4 hts gX2_build_X2_await rfl rfl rfl (by decide +kernel) ⟨Nat.le_of_ble_eq_true rfl, Nat.le_of_ble_eq_true rfl⟩) (pt_wv2 hP hK hN hD (q0 := 0) rfl) rfl rfl hl.1 rfl (lv_room (Nat.le_of_ble_eq_true rfl)) dX2_build_260 ⟨Nat.le_of_ble_eq_true rfl, Nat.le_of_ble_eq_true rfl⟩) hD hS hA (fun _ => rfl) (fun u260 H locs hr260 hP hD hS => ?_)
            obtain ⟨F18, A18⟩ := u260
            obtain ⟨fw18, w1618, w1718, w1818, w1918, wo18⟩ := hr260
            dsimp only at fw18 w1618 w1718 w1818 w1918 wo18 hP hD
            have kF18_0 : F18 0 = nI 0 := by rw [fw18, pt_upd_ne (by decide)]; exact kF17_0
            have kF18_1 : F18 1 = nI ax := by rw [fw18, pt_upd_ne (by decide)]; exact kF17_1
            have kF18_8 : F18 8 = nI (ts.1 + 1) := by rw [fw18, pt_upd_ne (by decide)]; exact kF17_8
            have kF18_15 : F18 15 = nI (wn + 1) := by rw [fw18, pt_upd]
            refine lv_aload_n hx hb dX2_build_263 rfl (lv_at hl 3 rfl) ?_
            refine lv_aload_n hx hb dX2_build_264 rfl (lv_at hl 3 rfl) ?_
            refine va_get (D := (dC, dI)) (ci := 2) (v := .ref (a 9)) (C := RX2) (T := TX2) (N := 27) hx hb hts iw_c_X2_build_wsX20 hown hK hP 0 rfl rfl 9 (by decide) (hts _ wd_c_X2_build_X2_build_4) (fun _ h9 => h9) rfl dX2_build_265 ?_
            refine lv_iload_n hx hb dX2_build_268 rfl (lv_at hl 2 rfl) ?_
            refine pt_iald hx hb hK hP 6 5 rfl rfl ts.1 rfl (by omega) (by decide) dX2_build_269 ?_
            refine pt_top (y := nI f) (by rw [wo18 9 (by omega), hoS 9 (by decide)]; exact z9) ?_
            refine lv_iload hx hb dX2_build_270 (lv_at hl 0 rfl) ?_
            refine lv_aload_n hx hb dX2_build_272 rfl (lv_at hl 3 rfl) ?_
            refine va_get (D := (dC, dI)) (ci := 2) (v := .ref (a 12)) (C := RX2) (T := TX2) (N := 27) hx hb hts iw_c_X2_build_wsX20 hown hK hP 0 rfl rfl 12 (by decide) (hts _ wd_c_X2_build_X2_build_8) (fun _ h9 => h9) rfl dX2_build_273 ?_
            refine lv_iload_n hx hb dX2_build_276 rfl (lv_at hl 2 rfl) ?_
            refine pt_iald hx hb hK hP 9 8 rfl rfl ts.1 rfl (by omega) (by decide) dX2_build_277 ?_
            refine pt_top (y := nI d) (by rw [wo18 12 (by omega), hoS 12 (by decide)]; exact z12) ?_
            refine lv_iconst (v := nI 1) hx hb dX2_build_278 (by decide) ?_
            refine lv_iadd hx hb dX2_build_279 ?_
            refine pt_top (y := nI (d + 1)) (nI_add _ _) ?_
            refine lv_iconst (v := (-1)) hx hb dX2_build_280 (by decide) ?_
            refine pt_callv (wf := (fun u : pt_MS => pt_mw a c u.1 u.2)) (va_runV (As := [.int (nI f), .int (nI ((m + 1) / 2)), .int (nI (d + 1)), .int (-1)]) (rest := []) ⟨hx, hb, hml, hown, hts⟩ (c_X2_await l dC dI a c F18 A18 _ (wn + 1) kF18_15 (by omega) f ((m + 1) / 2) (d + 1) (-1)) (cwV 4 hts gX2_build_X2_await rfl rfl rfl (by decide +kernel) ⟨Nat.le_of_ble_eq_true rfl, Nat.le_of_ble_eq_true rfl⟩) (pt_wv2 hP hK hN hD (q0 := 0) rfl) rfl rfl hl.1 rfl (lv_room (Nat.le_of_ble_eq_true rfl)) dX2_build_281 ⟨Nat.le_of_ble_eq_true rfl, Nat.le_of_ble_eq_true rfl⟩) hD hS hA (fun _ => rfl) (fun u281 H locs hr281 hP hD hS => ?_)
            obtain ⟨F19, A19⟩ := u281
            obtain ⟨fw19, w1619, w1719, w1819, w1919, wo19⟩ := hr281
            dsimp only at fw19 w1619 w1719 w1819 w1919 wo19 hP hD
            have kF19_0 : F19 0 = nI 0 := by rw [fw19, pt_upd_ne (by decide)]; exact kF18_0
            have kF19_1 : F19 1 = nI ax := by rw [fw19, pt_upd_ne (by decide)]; exact kF18_1
            have kF19_8 : F19 8 = nI (ts.1 + 1) := by rw [fw19, pt_upd_ne (by decide)]; exact kF18_8
            have kF19_15 : F19 15 = nI (wn + 1 + 1) := by rw [fw19, pt_upd]
            refine lv_goto (tgt := 76) hx hb dX2_build_284 (by decide) ?_
            obtain ⟨wk2, ewk2⟩ : ∃ zz : pt_WK, zz = (va_up (va_up wk wn (f + (m + 1) / 2, m - (m + 1) / 2, d + 1, ts.1 + 1, k)) (wn + 1) (f, (m + 1) / 2, d + 1, 0, k)) := ⟨_, rfl⟩
            have wk2a : wk2 wn = (f + (m + 1) / 2, m - (m + 1) / 2, d + 1, ts.1 + 1, k) := by rw [ewk2, pt_up_ne (by omega), pt_up]
            have wk2b : wk2 (wn + 1) = (f, (m + 1) / 2, d + 1, 0, k) := by rw [ewk2, pt_up]
            have wk2c : ∀ j, j < wn → wk2 j = wk j := fun j hj => by rw [ewk2, pt_up_ne (by omega), pt_up_ne (by omega)]
            have epn : pt_pend ax (fun v x => A 4 (3 * v + x)) (fun v x => A 5 (3 * v + x)) wk2 (wn + 1 + 1) (pt_std ax (fun v x => A 4 (3 * v + x)) (fun v x => A 5 (3 * v + x)) f (f + m) (pt_new (fun v x => A 4 (3 * v + x)) (fun v x => A 5 (3 * v + x)) f (f + m) d (pt_so1 o ts))) = (pt_tree ax (fun v x => A 4 (3 * v + x)) (fun v x => A 5 (3 * v + x)) (fun t => ¬ A 3 t = 0) md) := by
              rw [← hpend]
              show pt_pend ax _ _ wk2 wn _ = pt_pend ax _ _ wk wn _
              rw [wk2a, wk2b, ew, pt_pend_c wn _ wk2c]
              show pt_pend ax _ _ wk wn (pt_mk ax _ _ k (f + (m + 1) / 2) (f + (m + 1) / 2 + (m - (m + 1) / 2)) (d + 1) (pt_so1 (ts.1 + 1) (pt_mk ax _ _ k f (f + (m + 1) / 2) (d + 1) (pt_so1 0 _)))) = pt_pend ax _ _ wk wn (pt_mk ax _ _ (k + 1) f (f + m) d (pt_so1 o ts))
              rw [pt_mk_part (show ¬ f + m - f ≤ 4 by omega), pt_so1_0, pt_so1_s, pt_so1_nb, show f + (m + 1) / 2 + (m - (m + 1) / 2) = f + m by omega, show f + m - f + 1 = m + 1 by omega]
            have hkk1 : 1 ≤ k := by
              rcases k with _ | k
              · exact absurd hv3 (by show ¬ m ≤ 4; omega)
              · omega
            have hp1 : 2 ^ (k + 1) = 2 * 2 ^ k := by rw [Nat.pow_succ]; omega
            have hp2 : 2 ^ (k + 1 + 1) = 2 * 2 ^ (k + 1) := by rw [Nat.pow_succ]; omega
            have hq1 : 1 ≤ 2 ^ k := Nat.one_le_two_pow
            have ewt : pt_wt wk2 (wn + 1 + 1) + 1 = pt_wt wk (wn + 1) := by
              show pt_wt wk2 wn + (2 ^ (wk2 wn).2.2.2.2 - 1) + (2 ^ (wk2 (wn + 1)).2.2.2.2 - 1) + 1 = pt_wt wk wn + (2 ^ (wk wn).2.2.2.2 - 1)
              rw [wk2a, wk2b, ew, pt_wt_c wn wk2c]
              show pt_wt wk wn + (2 ^ k - 1) + (2 ^ k - 1) + 1 = pt_wt wk wn + (2 ^ (k + 1) - 1)
              omega
            have hMT3 : pt_MT ax (pt_cnt (fun t => ¬ A 3 t = 0) md) md (pt_std ax (fun v x => A 4 (3 * v + x)) (fun v x => A 5 (3 * v + x)) f (f + m) (pt_new (fun v x => A 4 (3 * v + x)) (fun v x => A 5 (3 * v + x)) f (f + m) d (pt_so1 o ts))) F19 A19 := pt_MT_row hMT1 (by rw [fw19, pt_upd_ne (by decide), fw18, pt_upd_ne (by decide), hfS]) (by show pt_row _ _ (pt_srt _ f (f + m - f - 1) _) _; rw [wo19 7 (by omega), wo18 7 (by omega), show f + m - f - 1 = m - 1 by omega]; exact hrS2) (fun j j1 j2 => by rw [wo19 j (by omega), wo18 j (by omega)]; exact hoS j (by omega))
            have xs : ∀ j, j < 7 ∨ 19 < j → A19 j = Aw j := fun j hj => by rw [wo19 j (by omega), wo18 j (by omega), hoS j (by omega)]; exact xo j (by omega)
            have xr : ∀ j, 16 ≤ j → j ≤ 19 → A17 j = Aw j := fun j j1 j2 => by rw [hoS j (by omega)]; exact xo j (by omega)
            have hpd2 : ∀ j, j < wn + 1 + 1 → A19 16 j = nI (wk2 j).1 ∧ A19 17 j = nI (wk2 j).2.1 ∧ A19 18 j = nI (wk2 j).2.2.1 ∧ A19 19 j = pt_oI (wk2 j).2.2.2.1 := fun j hj => by
              rw [w1619, w1719, w1819, w1919, w1618, w1718, w1818, w1918, xr 16 (by omega) (by omega), xr 17 (by omega) (by omega), xr 18 (by omega) (by omega), xr 19 (by omega) (by omega)]
              by_cases q1 : j = wn + 1
              · rw [q1, pt_upd, pt_upd, pt_upd, pt_upd, wk2b]; exact ⟨rfl, rfl, rfl, rfl⟩
              · rw [pt_upd_ne q1, pt_upd_ne q1, pt_upd_ne q1, pt_upd_ne q1]
                by_cases q2 : j = wn
                · rw [q2, pt_upd, pt_upd, pt_upd, pt_upd, wk2a]; exact ⟨rfl, rfl, rfl, (pt_oI_s (o := ts.1 + 1) (by omega)).symm⟩
                · rw [pt_upd_ne q2, pt_upd_ne q2, pt_upd_ne q2, pt_upd_ne q2, wk2c j (by omega)]; exact hpd j (by omega)
            have hpv2 : ∀ j, j < wn + 1 + 1 → 0 < (wk2 j).2.1 ∧ (wk2 j).1 + (wk2 j).2.1 ≤ (pt_cnt (fun t => ¬ A 3 t = 0) md) ∧ (wk2 j).2.1 ≤ 2 ^ ((wk2 j).2.2.2.2 + 1) ∧ 1 ≤ (wk2 j).2.2.2.2 ∧ (wk2 j).2.2.2.1 ≤ ts.1 + 1 := fun j hj => by
              by_cases q1 : j = wn + 1
              · rw [q1, wk2b]; exact ⟨by show 0 < (m + 1) / 2; omega, by show f + (m + 1) / 2 ≤ _; omega, by show (m + 1) / 2 ≤ 2 ^ (k + 1); omega, hkk1, Nat.zero_le _⟩
              · by_cases q2 : j = wn
                · rw [q2, wk2a]; exact ⟨by show 0 < m - (m + 1) / 2; omega, by show f + (m + 1) / 2 + (m - (m + 1) / 2) ≤ _; omega, by show m - (m + 1) / 2 ≤ 2 ^ (k + 1); omega, hkk1, Nat.le_refl _⟩
                · rw [wk2c j (by omega)]; have := hpv j (by omega); exact ⟨this.1, this.2.1, this.2.2.1, this.2.2.2.1, by omega⟩
            have nS : (pt_std ax (fun v x => A 4 (3 * v + x)) (fun v x => A 5 (3 * v + x)) f (f + m) (pt_new (fun v x => A 4 (3 * v + x)) (fun v x => A 5 (3 * v + x)) f (f + m) d (pt_so1 o ts))).1 = ts.1 + 1 := by show (pt_so1 o ts).1 + 1 = _; rw [pt_so1_nb]
            exact ihw (wn + 1 + 1, wk2, (pt_std ax (fun v x => A 4 (3 * v + x)) (fun v x => A 5 (3 * v + x)) f (f + m) (pt_new (fun v x => A 4 (3 * v + x)) (fun v x => A 5 (3 * v + x)) f (f + m) d (pt_so1 o ts))), F19, A19) _ _ _ ⟨⟨⟨kF19_15, hMT3, hpd2, by rw [nS]; exact hpv2, by show (pt_std ax (fun v x => A 4 (3 * v + x)) (fun v x => A 5 (3 * v + x)) f (f + m) (pt_new (fun v x => A 4 (3 * v + x)) (fun v x => A 5 (3 * v + x)) f (f + m) d (pt_so1 o ts))).1 + pt_wt wk2 (wn + 1 + 1) ≤ 31; rw [nS]; omega⟩, epn, ⟨kF19_0, fun j j0 j8 j15 => by show F19 j = F j; rw [fw19, pt_upd_ne j15, fw18, pt_upd_ne j15, hfS]; exact hFx j j0 j8 j15⟩, by show A19 6 = _; rw [xs 6 (by omega)]; exact h6w, fun j hj => by show A19 j = A j; rw [xs j (by omega)]; exact hAw j hj⟩, hP, hD, hS, lv_sub hl [3] rfl⟩ (by show pt_wt wk2 (wn + 1 + 1) < pt_wt wk (wn + 1); omega)
  · have hlt : i < md := Nat.not_le.mp (fun q => c14 ((nI_leI (by omega) (by omega)).mpr q))
    refine lv_aload_n hx hb dX2_build_17 rfl (lv_at hl 2 rfl) ?_
    refine va_get (D := (dC, dI)) (ci := 2) (v := .ref (a 6)) (C := RX2) (T := TX2) (N := 27) hx hb hts iw_c_X2_build_wsX20 hown hK hP 0 rfl rfl 6 (by decide) (hts _ wd_c_X2_build_X2_build_12) (fun _ h9 => h9) rfl dX2_build_18 ?_
    refine lv_iload_n hx hb dX2_build_21 rfl (lv_at hl 0 rfl) ?_
    refine lv_aload_n hx hb dX2_build_22 rfl (lv_at hl 2 rfl) ?_
    refine va_get (D := (dC, dI)) (ci := 2) (v := .ref (a 3)) (C := RX2) (T := TX2) (N := 27) hx hb hts iw_c_X2_build_wsX20 hown hK hP 0 rfl rfl 3 (by decide) (hts _ wd_c_X2_build_X2_build_13) (fun _ h9 => h9) rfl dX2_build_23 ?_
    refine lv_iload_n hx hb dX2_build_26 rfl (lv_at hl 0 rfl) ?_
    refine pt_zald hx hb hK hP 1 0 rfl rfl i rfl (by omega) (by decide) dX2_build_27 ?_
    refine pt_top (y := A 3 i) (by rw [hsi 3 (by decide) (by decide)]) ?_
    obtain ⟨A20, eA20⟩ : ∃ zz, zz = va_up Ai 6 (upd (Ai 6) i (A 3 i)) := ⟨_, rfl⟩
    refine pt_zast hx hb hK hP hD hS 4 3 rfl rfl i rfl (by omega) (by decide) (by rcases hbit i hlt with q | q <;> rw [q] <;> rfl) (ws' := (pt_mw a c F1 A20)) (by rw [eA20]; rfl) dX2_build_28 (fun H locs hP hD hS => ?_)
    refine lv_aload_n hx hb dX2_build_29 rfl (lv_at hl 2 rfl) ?_
    refine va_get (D := (dC, dI)) (ci := 2) (v := .ref (a 3)) (C := RX2) (T := TX2) (N := 27) hx hb hts iw_c_X2_build_wsX20 hown hK hP 0 rfl rfl 3 (by decide) (hts _ wd_c_X2_build_X2_build_13) (fun _ h9 => h9) rfl dX2_build_30 ?_
    refine lv_iload_n hx hb dX2_build_33 rfl (lv_at hl 0 rfl) ?_
    refine pt_zald hx hb hK hP 1 0 rfl rfl i rfl (by omega) (by decide) dX2_build_34 ?_
    refine pt_top (y := A 3 i) (by rw [eA20, pt_up_ne (by decide), hsi 3 (by decide) (by decide)]) ?_
    refine lv_if_eq (tgt := 48) hx hb dX2_build_35 (by decide) (fun c35 => ?_) (fun c35 => ?_)
    · refine lv_iinc (v := nI (i + 1)) (lv' := [(2, .int (nI (i + 1))), (1, .int (nI (pt_cnt (fun t => ¬ A 3 t = 0) i))), (0, .ref (a 0))]) hx hb dX2_build_48 hl (k := 0) rfl (nI_1 _) (by decide) rfl (fun ls hl => ?_)
      refine lv_goto (tgt := 9) hx hb dX2_build_51 (by decide) ?_
      have d35 : ¬ (fun t => ¬ A 3 t = 0) i := fun q => q c35
      have ec := pt_cnt_f (p := (fun t => ¬ A 3 t = 0)) d35
      have eo : pt_ord (fun t => ¬ A 3 t = 0) (i + 1) = pt_ord (fun t => ¬ A 3 t = 0) i := pt_if_f d35
      exact ih (i + 1, A20) _ _ _ ⟨by show i + 1 ≤ md; omega, ⟨by show pt_row (pt_cnt _ (i + 1)) md (pt_ord _ (i + 1)) (A20 7); rw [ec, eo, eA20, pt_up_ne (by decide)]; exact hri, fun t ht => by show A20 6 t = _; rw [eA20, pt_up]; exact pt_upd_s h6i rfl t ht, fun j j6 j7 => by show A20 j = _; rw [eA20, pt_up_ne j6]; exact hsi j j6 j7⟩, hP, hD, hS, by show lv_has ls 5 [(2, .int (nI (i + 1))), (1, .int (nI (pt_cnt _ (i + 1)))), _]; rw [ec]; exact lv_sub hl [0, 1, 2] rfl⟩ (by show md - (i + 1) < md - i; omega)
    · refine lv_aload_n hx hb dX2_build_38 rfl (lv_at hl 2 rfl) ?_
      refine va_get (D := (dC, dI)) (ci := 2) (v := .ref (a 7)) (C := RX2) (T := TX2) (N := 27) hx hb hts iw_c_X2_build_wsX20 hown hK hP 0 rfl rfl 7 (by decide) (hts _ wd_c_X2_build_X2_build_14) (fun _ h9 => h9) rfl dX2_build_39 ?_
      refine lv_iload_n hx hb dX2_build_42 rfl (lv_at hl 1 rfl) ?_
      refine lv_iload_n hx hb dX2_build_43 rfl (lv_at hl 0 rfl) ?_
      obtain ⟨A21, eA21⟩ : ∃ zz, zz = va_up A20 7 (upd (A20 7) (pt_cnt (fun t => ¬ A 3 t = 0) i) (nI i)) := ⟨_, rfl⟩
      refine pt_iast hx hb hK hP hD hS 5 4 rfl rfl (pt_cnt (fun t => ¬ A 3 t = 0) i) rfl (by omega) (by decide) (ws' := (pt_mw a c F1 A21)) (by rw [eA21]; rfl) dX2_build_44 (fun H locs hP hD hS => ?_)
      refine lv_iinc (v := nI ((pt_cnt (fun t => ¬ A 3 t = 0) i) + 1)) (lv' := [(1, .int (nI ((pt_cnt (fun t => ¬ A 3 t = 0) i) + 1))), (2, .int (nI i)), (0, .ref (a 0))]) hx hb dX2_build_45 hl (k := 1) rfl (nI_1 _) (by decide) rfl (fun ls hl => ?_)
      refine lv_iinc (v := nI (i + 1)) (lv' := [(2, .int (nI (i + 1))), (1, .int (nI ((pt_cnt (fun t => ¬ A 3 t = 0) i) + 1))), (0, .ref (a 0))]) hx hb dX2_build_48 hl (k := 1) rfl (nI_1 _) (by decide) rfl (fun ls hl => ?_)
      refine lv_goto (tgt := 9) hx hb dX2_build_51 (by decide) ?_
      have d35 : (fun t => ¬ A 3 t = 0) i := c35
      have ec := pt_cnt_t (p := (fun t => ¬ A 3 t = 0)) d35
      have eo : pt_ord (fun t => ¬ A 3 t = 0) (i + 1) = va_up (pt_ord (fun t => ¬ A 3 t = 0) i) (pt_cnt (fun t => ¬ A 3 t = 0) i) i := pt_if_t d35
      exact ih (i + 1, A21) _ _ _ ⟨by show i + 1 ≤ md; omega, ⟨by show pt_row (pt_cnt _ (i + 1)) md (pt_ord _ (i + 1)) (A21 7); rw [ec, eo, eA21, pt_up, eA20, pt_up_ne (by decide)]; exact pt_row_add hri (by omega), fun t ht => by show A21 6 t = _; rw [eA21, pt_up_ne (by decide), eA20, pt_up]; exact pt_upd_s h6i rfl t ht, fun j j6 j7 => by show A21 j = _; rw [eA21, pt_up_ne j7, eA20, pt_up_ne j6]; exact hsi j j6 j7⟩, hP, hD, hS, by show lv_has ls 5 [(2, .int (nI (i + 1))), (1, .int (nI (pt_cnt _ (i + 1)))), _]; rw [ec]; exact lv_sub hl [0, 1, 2] rfl⟩ (by show md - (i + 1) < md - i; omega)
