/-! the sort of a run: one by one let down to its place -/
def pt_swp (od : Nat → Nat) (j : Nat) : Nat → Nat := va_up (va_up od j (od (j + 1))) (j + 1) (od j)
noncomputable def pt_sink (bf : Nat → Nat → Prop) (f : Nat) : Nat → (Nat → Nat) → (Nat → Nat)
  | 0, od => od
  | n + 1, od => pt_if (bf (od (f + (n + 1))) (od (f + n))) (pt_sink bf f n (pt_swp od (f + n))) od
noncomputable def pt_srt (bf : Nat → Nat → Prop) (f : Nat) : Nat → (Nat → Nat) → (Nat → Nat)
  | 0, od => od
  | m + 1, od => pt_sink bf f (m + 1) (pt_srt bf f m od)
/-- the row holds od, below N, of numbers below md -/
def pt_row (N md : Nat) (od : Nat → Nat) (r : Nat → Int32) : Prop := ∀ k, k < N → r k = nI (od k) ∧ od k < md
theorem pt_row_swp {N md j : Nat} {od : Nat → Nat} {r : Nat → Int32} (h : pt_row N md od r) (hj : j + 1 < N) : pt_row N md (pt_swp od j) (upd (upd r j (nI (od (j + 1)))) (j + 1) (nI (od j))) := by
  intro k hk
  unfold pt_swp
  by_cases h1 : k = j + 1
  · subst h1
    rw [pt_upd, pt_up]
    exact ⟨rfl, (h j (by omega)).2⟩
  · rw [pt_upd_ne h1, pt_up_ne h1]
    by_cases h2 : k = j
    · subst h2
      rw [pt_upd, pt_up]
      exact ⟨rfl, (h (k + 1) hj).2⟩
    · rw [pt_upd_ne h2, pt_up_ne h2]
      exact h k hk

theorem wd_c_X1_sortRun_X1_sortRun_0 : Cond.fieldLink RX1 28 "PointTrees" "order" "[I" ∈ wsX1_sortRun := by decide +kernel
theorem iw_c_X1_sortRun_wsX10 : ∀ w ∈ wsX10, w ∈ wsX1_sortRun := fun _ h => List.mem_cons_of_mem _ (List.mem_append_left _ (List.mem_append_right _ h))
theorem iw_c_X1_sortRun_wsX00 : ∀ w ∈ wsX00, w ∈ wsX1_sortRun := fun _ h => List.mem_cons_of_mem _ (List.mem_append_right _ h)
set_option maxHeartbeats 4000000 in
set_option maxRecDepth 100000 in
theorem c_X1_sortRun (l : Launch) (dC : Nat → ClassId) (dI : Nat → Nat → Nat) (a : Nat → Nat) (c : Nat → ClassId) (F : Nat → Int32) (A : Nat → Nat → Int32) (Q : Nat → Int64) (sz : Nat) (f t x N : Nat) (md : Nat) (od : Nat → Nat) (hft : f < t) (htN : t ≤ N) (hN64 : N ≤ 64) (hmd : md ≤ 64) (hx1 : x < 3) (hrow : pt_row N md od (A 7)) : Met l yX1_sortRun wsX1_sortRun (pt_rm 3) (pt_W (dC, dI) vwCl (pt_xt c) (pt_xw a c F A Q) pt_nw sz [.ref (a 0), .int (nI f), .int (nI t), .int (nI x)]) (va_Qv (fun (u : pt_XS) => pt_row N md (pt_srt (pt_bf (pt_sm (A 4) x)) f (t - f - 1) od) (u.2.1 7) ∧ u.1 = F ∧ (∀ j, j ≠ 7 → u.2.1 j = A j) ∧ u.2.2 = Q) (fun u t => va_P (dC, dI) vwCl (pt_xw a c u.1 u.2.1 u.2.2) t.heap) (va_A (pt_xw a c F A Q) sz)) 0 0 (va_A (pt_xw a c F A Q) sz) := by
  refine Met.ofW (cc := cX1_sortRun) (maxL := 7) (ret := none) (by decide) rfl ?_
  intro p e s m args below meth cd s₁ B hml hv
  obtain ⟨rfl, hsz, hP, hK, hN, hD0⟩ := hv
  have hx := B.exec
  have hb := B.bytes
  have hr := B.returns
  have hts := atoms_spec (ws := wsX1_sortRun) B.pre
  have hown : s.vm.findClass RX1 = some m.cls := findClass_of_methodNamed B.named
  have hlocks := B.notSynchronized
  subst hsz
  have hD := hD0.self (sz := s.heap.size)
  generalize hAe : va_A (pt_xw a c F A Q) s.heap.size = AA at hD ⊢
  have hA : ∀ q : Nat, s.heap.size ≤ q → AA q := fun q h => by rw [← hAe]; exact Or.inr h
  have hS : va_S AA s.heap s.heap [] := va_S.rf
  have hl := lv_entry ([.ref (a 0), .int (nI f), .int (nI t), .int (nI x)]) (n := 7) (Nat.le_of_ble_eq_true rfl)
  rw [lg_entry_eq]
  generalize (lg_sl ([.ref (a 0), .int (nI f), .int (nI t), .int (nI x)]) ++ List.replicate (7 - (lg_sl ([.ref (a 0), .int (nI f), .int (nI t), .int (nI x)])).length) Slot.unset).toArray = ls at hl ⊢
  have hl : lv_has ls 7 [(0, .ref (a 0)), (1, .int (nI f)), (2, .int (nI t)), (3, .int (nI x))] := hl
  refine lv_iload_n hx hb dX1_sortRun_0 rfl (lv_at hl 1 rfl) ?_
  refine lv_iconst (v := nI 1) hx hb dX1_sortRun_1 (by decide) ?_
  refine lv_iadd hx hb dX1_sortRun_2 ?_
  refine pt_top (y := nI (f + 1)) (nI_add _ _) ?_
  refine lv_istore (lv' := [(4, .int (nI (f + 1))), (0, .ref (a 0)), (1, .int (nI f)), (2, .int (nI t)), (3, .int (nI x))]) hx hb dX1_sortRun_3 hl (by decide) rfl (fun ls hl => ?_)
  refine pt_loopW (fun q : Nat × (Nat → Nat → Int32) => t - (f + (q.1 + 1))) (fun q ls H locs => f + (q.1 + 1) ≤ t ∧ (pt_row N md (pt_srt (pt_bf (pt_sm (A 4) x)) f q.1 od) (q.2 7) ∧ ∀ j, j ≠ 7 → q.2 j = A j) ∧ va_P (dC, dI) vwCl (pt_xw a c F q.2 Q) H ∧ va_D AA (pt_xw a c F q.2 Q) ∧ va_S AA s.heap H locs ∧ lv_has ls 7 [(4, .int (nI (f + (q.1 + 1)))), (0, .ref (a 0)), (1, .int (nI f)), (2, .int (nI t)), (3, .int (nI x))]) ?_ (0, A) _ _ _ ⟨by show f + (0 + 1) ≤ t; omega, ⟨hrow, fun _ _ => rfl⟩, hP, hD, hS, hl⟩
  intro ⟨m2, Am⟩ ls H locs ⟨hm, ⟨hrm, hsm⟩, hP, hD, hS, hl⟩ ih
  dsimp only at hm hrm hsm hP hD hl ih
  refine lv_iload hx hb dX1_sortRun_5 (lv_at hl 0 rfl) ?_
  refine lv_iload_n hx hb dX1_sortRun_7 rfl (lv_at hl 3 rfl) ?_
  refine lv_icmp_ge (tgt := 93) hx hb dX1_sortRun_8 (by decide) (fun c8 => ?_) (fun c8 => ?_)
  · have hme : m2 = t - f - 1 := by have := (nI_leI (by omega) (by omega)).mp c8; omega
    exact W.vret hx hb hr (fun zt zh zW => ⟨⟨(F, Am, Q), rfl, ⟨by rw [← hme]; exact hrm, rfl, hsm, rfl⟩, by show va_P _ _ _ zt.heap; rw [zh]; exact hP⟩, hS.F zh⟩) hS.2.2 dX1_sortRun_93
  · have hlt : f + (m2 + 1) < t := Nat.not_le.mp (fun q => c8 ((nI_leI (by omega) (by omega)).mpr q))
    refine lv_iload hx hb dX1_sortRun_11 (lv_at hl 0 rfl) ?_
    refine lv_istore (lv' := [(5, .int (nI (f + (m2 + 1)))), (4, .int (nI (f + (m2 + 1)))), (0, .ref (a 0)), (1, .int (nI f)), (2, .int (nI t)), (3, .int (nI x))]) hx hb dX1_sortRun_13 hl (by decide) rfl (fun ls hl => ?_)
    refine pt_loopW (fun q : Nat × (Nat → Nat) × (Nat → Nat → Int32) => q.1) (fun q ls H locs => q.1 ≤ m2 + 1 ∧ (pt_sink (pt_bf (pt_sm (A 4) x)) f q.1 q.2.1 = pt_srt (pt_bf (pt_sm (A 4) x)) f (m2 + 1) od ∧ pt_row N md q.2.1 (q.2.2 7) ∧ ∀ j, j ≠ 7 → q.2.2 j = A j) ∧ va_P (dC, dI) vwCl (pt_xw a c F q.2.2 Q) H ∧ va_D AA (pt_xw a c F q.2.2 Q) ∧ va_S AA s.heap H locs ∧ lv_has ls 7 [(5, .int (nI (f + q.1))), (4, .int (nI (f + (m2 + 1)))), (0, .ref (a 0)), (1, .int (nI f)), (2, .int (nI t)), (3, .int (nI x))]) ?_ (m2 + 1, pt_srt (pt_bf (pt_sm (A 4) x)) f m2 od, Am) _ _ _ ⟨Nat.le_refl _, ⟨rfl, hrm, hsm⟩, hP, hD, hS, hl⟩
    intro ⟨n, odn, An⟩ ls H locs ⟨hn, ⟨hsk, hrn, hsn⟩, hP, hD, hS, hl⟩ ihn
    dsimp only at hn hsk hrn hsn hP hD hl ihn
    refine lv_iload hx hb dX1_sortRun_15 (lv_at hl 0 rfl) ?_
    refine lv_iload_n hx hb dX1_sortRun_17 rfl (lv_at hl 3 rfl) ?_
    refine lv_icmp_le (tgt := 87) hx hb dX1_sortRun_18 (by decide) (fun c18 => ?_) (fun c18 => ?_)
    · have hn0 : n = 0 := by have := (nI_leI (by omega) (by omega)).mp c18; omega
      have hod2 : odn = pt_srt (pt_bf (pt_sm (A 4) x)) f (m2 + 1) od := by rw [← hsk, hn0]; rfl
      refine lv_iinc (v := nI ((f + (m2 + 1)) + 1)) (lv' := [(4, .int (nI ((f + (m2 + 1)) + 1))), (5, .int (nI (f + n))), (0, .ref (a 0)), (1, .int (nI f)), (2, .int (nI t)), (3, .int (nI x))]) hx hb dX1_sortRun_87 hl (k := 1) rfl (nI_1 _) (by decide) rfl (fun ls hl => ?_)
      refine lv_goto (tgt := 5) hx hb dX1_sortRun_90 (by decide) ?_
      exact ih (m2 + 1, An) _ _ _ ⟨by show f + (m2 + 1 + 1) ≤ t; omega, ⟨by show pt_row N md _ _; rw [← hod2]; exact hrn, hsn⟩, hP, hD, hS, lv_sub hl [0, 2, 3, 4, 5] rfl⟩ (by show t - (f + (m2 + 1 + 1)) < t - (f + (m2 + 1)); omega)
    · obtain ⟨n, rfl⟩ : ∃ zz, n = zz + 1 := ⟨n - 1, by have : ¬ f + n ≤ f := fun q => c18 ((nI_leI (by omega) (by omega)).mpr q); omega⟩
      have ra := hrn (f + (n + 1)) (by omega)
      have rb := hrn (f + n) (by omega)
      refine lv_aload_n hx hb dX1_sortRun_21 rfl (lv_at hl 2 rfl) ?_
      refine lv_aload_n hx hb dX1_sortRun_22 rfl (lv_at hl 2 rfl) ?_
      refine va_get (D := (dC, dI)) (ci := 1) (v := .ref (a 7)) (C := RX1) (T := TX1) (N := 18) hx hb hts iw_c_X1_sortRun_wsX10 hown hK hP 0 rfl rfl 7 (by decide) (hts _ wd_c_X1_sortRun_X1_sortRun_0) (fun _ h9 => h9) rfl dX1_sortRun_23 ?_
      refine lv_iload hx hb dX1_sortRun_26 (lv_at hl 0 rfl) ?_
      refine pt_iald hx hb hK hP 4 2 rfl rfl (f + (n + 1)) rfl (by omega) (by decide) dX1_sortRun_28 ?_
      refine pt_top (y := nI (odn (f + (n + 1)))) ra.1 ?_
      refine lv_aload_n hx hb dX1_sortRun_29 rfl (lv_at hl 2 rfl) ?_
      refine va_get (D := (dC, dI)) (ci := 1) (v := .ref (a 7)) (C := RX1) (T := TX1) (N := 18) hx hb hts iw_c_X1_sortRun_wsX10 hown hK hP 0 rfl rfl 7 (by decide) (hts _ wd_c_X1_sortRun_X1_sortRun_0) (fun _ h9 => h9) rfl dX1_sortRun_30 ?_
      refine lv_iload hx hb dX1_sortRun_33 (lv_at hl 0 rfl) ?_
      refine lv_iconst (v := nI 1) hx hb dX1_sortRun_35 (by decide) ?_
      refine lv_isub hx hb dX1_sortRun_36 ?_
      refine pt_top (y := nI (f + n)) (nI_pred (f + n)) ?_
      refine pt_iald hx hb hK hP 4 2 rfl rfl (f + n) rfl (by omega) (by decide) dX1_sortRun_37 ?_
      refine pt_top (y := nI (odn (f + n))) rb.1 ?_
      refine lv_iload_n hx hb dX1_sortRun_38 rfl (lv_at hl 5 rfl) ?_
      refine pt_rdi (va_runV (As := [.int (nI (odn (f + (n + 1)))), .int (nI (odn (f + n))), .int (nI x)]) (rest := []) ⟨hx, hb, hml, hown, hts⟩ (c_X1_comesBefore l dC dI a c F An Q (odn (f + (n + 1))) (odn (f + n)) x (by omega) (by omega) hx1) (cwV 3 hts gX1_sortRun_X1_comesBefore rfl rfl rfl (by decide +kernel) ⟨Nat.le_of_ble_eq_true rfl, Nat.le_of_ble_eq_true rfl⟩) (pt_pv1 hP hK hN (q0 := 0) rfl) rfl rfl hl.1 rfl (lv_room (Nat.le_of_ble_eq_true rfl)) dX1_sortRun_39 ⟨Nat.le_of_ble_eq_true rfl, Nat.le_of_ble_eq_true rfl⟩) (fun r39 hr39 => ?_)
      refine lv_if_eq (tgt := 87) hx hb dX1_sortRun_42 (by decide) (fun c42 => ?_) (fun c42 => ?_)
      · have d42 : ¬ (pt_bf (pt_sm (A 4) x)) (odn (f + (n + 1))) (odn (f + n)) := by have := hr39.f c42; rw [hsn 4 (by decide)] at this; exact this
        have hod2 : odn = pt_srt (pt_bf (pt_sm (A 4) x)) f (m2 + 1) od := by rw [← hsk]; exact (pt_if_f d42).symm
        refine lv_iinc (v := nI ((f + (m2 + 1)) + 1)) (lv' := [(4, .int (nI ((f + (m2 + 1)) + 1))), (5, .int (nI (f + (n + 1)))), (0, .ref (a 0)), (1, .int (nI f)), (2, .int (nI t)), (3, .int (nI x))]) hx hb dX1_sortRun_87 hl (k := 1) rfl (nI_1 _) (by decide) rfl (fun ls hl => ?_)
        refine lv_goto (tgt := 5) hx hb dX1_sortRun_90 (by decide) ?_
        exact ih (m2 + 1, An) _ _ _ ⟨by show f + (m2 + 1 + 1) ≤ t; omega, ⟨by show pt_row N md _ _; rw [← hod2]; exact hrn, hsn⟩, hP, hD, hS, lv_sub hl [0, 2, 3, 4, 5] rfl⟩ (by show t - (f + (m2 + 1 + 1)) < t - (f + (m2 + 1)); omega)
      · have d42 : (pt_bf (pt_sm (A 4) x)) (odn (f + (n + 1))) (odn (f + n)) := by have := hr39.t c42; rw [hsn 4 (by decide)] at this; exact this
        refine lv_aload_n hx hb dX1_sortRun_45 rfl (lv_at hl 2 rfl) ?_
        refine va_get (D := (dC, dI)) (ci := 1) (v := .ref (a 7)) (C := RX1) (T := TX1) (N := 18) hx hb hts iw_c_X1_sortRun_wsX10 hown hK hP 0 rfl rfl 7 (by decide) (hts _ wd_c_X1_sortRun_X1_sortRun_0) (fun _ h9 => h9) rfl dX1_sortRun_46 ?_
        refine lv_iload hx hb dX1_sortRun_49 (lv_at hl 0 rfl) ?_
        refine lv_iconst (v := nI 1) hx hb dX1_sortRun_51 (by decide) ?_
        refine lv_isub hx hb dX1_sortRun_52 ?_
        refine pt_top (y := nI (f + n)) (nI_pred (f + n)) ?_
        refine pt_iald hx hb hK hP 4 2 rfl rfl (f + n) rfl (by omega) (by decide) dX1_sortRun_53 ?_
        refine pt_top (y := nI (odn (f + n))) rb.1 ?_
        refine lv_istore (lv' := [(6, .int (nI (odn (f + n)))), (5, .int (nI (f + (n + 1)))), (4, .int (nI (f + (m2 + 1)))), (0, .ref (a 0)), (1, .int (nI f)), (2, .int (nI t)), (3, .int (nI x))]) hx hb dX1_sortRun_54 hl (by decide) rfl (fun ls hl => ?_)
        refine lv_aload_n hx hb dX1_sortRun_56 rfl (lv_at hl 3 rfl) ?_
        refine va_get (D := (dC, dI)) (ci := 1) (v := .ref (a 7)) (C := RX1) (T := TX1) (N := 18) hx hb hts iw_c_X1_sortRun_wsX10 hown hK hP 0 rfl rfl 7 (by decide) (hts _ wd_c_X1_sortRun_X1_sortRun_0) (fun _ h9 => h9) rfl dX1_sortRun_57 ?_
        refine lv_iload hx hb dX1_sortRun_60 (lv_at hl 1 rfl) ?_
        refine lv_iconst (v := nI 1) hx hb dX1_sortRun_62 (by decide) ?_
        refine lv_isub hx hb dX1_sortRun_63 ?_
        refine pt_top (y := nI (f + n)) (nI_pred (f + n)) ?_
        refine lv_aload_n hx hb dX1_sortRun_64 rfl (lv_at hl 3 rfl) ?_
        refine va_get (D := (dC, dI)) (ci := 1) (v := .ref (a 7)) (C := RX1) (T := TX1) (N := 18) hx hb hts iw_c_X1_sortRun_wsX10 hown hK hP 0 rfl rfl 7 (by decide) (hts _ wd_c_X1_sortRun_X1_sortRun_0) (fun _ h9 => h9) rfl dX1_sortRun_65 ?_
        refine lv_iload hx hb dX1_sortRun_68 (lv_at hl 1 rfl) ?_
        refine pt_iald hx hb hK hP 4 2 rfl rfl (f + (n + 1)) rfl (by omega) (by decide) dX1_sortRun_70 ?_
        refine pt_top (y := nI (odn (f + (n + 1)))) ra.1 ?_
        obtain ⟨A1, eA1⟩ : ∃ zz, zz = va_up An 7 (upd (An 7) (f + n) (nI (odn (f + (n + 1))))) := ⟨_, rfl⟩
        refine pt_iast hx hb hK hP hD hS 4 2 rfl rfl (f + n) rfl (by omega) (by decide) (ws' := (pt_xw a c F A1 Q)) (by rw [eA1]; rfl) dX1_sortRun_71 (fun H locs hP hD hS => ?_)
        refine lv_aload_n hx hb dX1_sortRun_72 rfl (lv_at hl 3 rfl) ?_
        refine va_get (D := (dC, dI)) (ci := 1) (v := .ref (a 7)) (C := RX1) (T := TX1) (N := 18) hx hb hts iw_c_X1_sortRun_wsX10 hown hK hP 0 rfl rfl 7 (by decide) (hts _ wd_c_X1_sortRun_X1_sortRun_0) (fun _ h9 => h9) rfl dX1_sortRun_73 ?_
        refine lv_iload hx hb dX1_sortRun_76 (lv_at hl 1 rfl) ?_
        refine lv_iload hx hb dX1_sortRun_78 (lv_at hl 0 rfl) ?_
        obtain ⟨A2, eA2⟩ : ∃ zz, zz = va_up A1 7 (upd (A1 7) (f + (n + 1)) (nI (odn (f + n)))) := ⟨_, rfl⟩
        refine pt_iast hx hb hK hP hD hS 4 2 rfl rfl (f + (n + 1)) rfl (by omega) (by decide) (ws' := (pt_xw a c F A2 Q)) (by rw [eA2]; rfl) dX1_sortRun_80 (fun H locs hP hD hS => ?_)
        refine lv_iinc (v := nI (f + n)) (lv' := [(5, .int (nI (f + n))), (6, .int (nI (odn (f + n)))), (4, .int (nI (f + (m2 + 1)))), (0, .ref (a 0)), (1, .int (nI f)), (2, .int (nI t)), (3, .int (nI x))]) hx hb dX1_sortRun_81 hl (k := 1) rfl (pk_m1 (f + n)) (by decide) rfl (fun ls hl => ?_)
        refine lv_goto (tgt := 15) hx hb dX1_sortRun_84 (by decide) ?_
        have e7 : A2 7 = upd (upd (An 7) (f + n) (nI (odn (f + n + 1)))) (f + n + 1) (nI (odn (f + n))) := by rw [eA2, pt_up, eA1, pt_up]; rfl
        exact ihn (n, pt_swp odn (f + n), A2) _ _ _ ⟨by show n ≤ m2 + 1; omega, ⟨by show pt_sink _ f n _ = _; rw [← hsk]; exact (pt_if_t d42).symm, by show pt_row N md _ (A2 7); rw [e7]; exact pt_row_swp hrn (by omega), fun j hj => by show A2 j = A j; rw [eA2, pt_up_ne hj, eA1, pt_up_ne hj]; exact hsn j hj⟩, hP, hD, hS, lv_sub hl [0, 2, 3, 4, 5, 6] rfl⟩ (by show n < n + 1; omega)

/-- a block's bounds: the first thing's box, widened by the others -/
def pt_bds (T : Nat → Int32) (od : Nat → Nat) (b f : Nat) (base : Nat → Int32) : Nat → (Nat → Int32)
  | 0 => va_cpy T base (od f * 6) (b * 6) (3 * 2)
  | n + 1 => pt_wd (pt_bds T od b f base n) T (od (f + 1 + n) * 6) (b * 6) (3 * 2)

theorem wd_c_X1_setBounds_X1_setBounds_0 : Cond.fieldLink RX1 44 "PointTrees" "bounds" "LPointTrees$Boxes;" ∈ wsX1_setBounds := by decide +kernel
theorem wd_c_X1_setBounds_X1_setBounds_1 : Cond.fieldLink RX1 24 "PointTrees" "things" "LPointTrees$Boxes;" ∈ wsX1_setBounds := by decide +kernel
theorem wd_c_X1_setBounds_X1_setBounds_2 : Cond.fieldLink RX1 28 "PointTrees" "order" "[I" ∈ wsX1_setBounds := by decide +kernel
theorem wd_c_X1_setBounds_X1_setBounds_3 : Cond.fieldLink RX1 32 "PointTrees" "blockFrom" "[I" ∈ wsX1_setBounds := by decide +kernel
theorem wd_c_X1_setBounds_X1_setBounds_4 : Cond.initialized RX0 ∈ wsX1_setBounds := by decide +kernel
theorem wd_c_X1_setBounds_X1_setBounds_5 : Cond.instanceMethod yX0_copyFrom ∈ wsX1_setBounds := by decide +kernel
theorem wd_c_X1_setBounds_X1_setBounds_6 : Cond.selects RX0 yX0_copyFrom yX0_copyFrom ∈ wsX1_setBounds := by decide +kernel
theorem wd_c_X1_setBounds_X1_setBounds_7 : Cond.fieldLink RX1 35 "PointTrees" "blockTo" "[I" ∈ wsX1_setBounds := by decide +kernel
theorem wd_c_X1_setBounds_X1_setBounds_8 : Cond.instanceMethod yX0_widen ∈ wsX1_setBounds := by decide +kernel
theorem wd_c_X1_setBounds_X1_setBounds_9 : Cond.selects RX0 yX0_widen yX0_widen ∈ wsX1_setBounds := by decide +kernel
theorem iw_c_X1_setBounds_wsX10 : ∀ w ∈ wsX10, w ∈ wsX1_setBounds := fun _ h => List.mem_cons_of_mem _ (List.mem_append_left _ (List.mem_append_right _ h))
theorem iw_c_X1_setBounds_wsX00 : ∀ w ∈ wsX00, w ∈ wsX1_setBounds := fun _ h => List.mem_cons_of_mem _ (List.mem_append_right _ h)
set_option maxHeartbeats 4000000 in
set_option maxRecDepth 100000 in
theorem c_X1_setBounds (l : Launch) (dC : Nat → ClassId) (dI : Nat → Nat → Nat) (a : Nat → Nat) (c : Nat → ClassId) (F : Nat → Int32) (A : Nat → Nat → Int32) (Q : Nat → Int64) (sz : Nat) (b f t N md : Nat) (od : Nat → Nat) (hb1 : b < 31) (hft : f < t) (htN : t ≤ N) (hN64 : N ≤ 64) (hmd : md ≤ 64) (h8 : A 8 b = nI f) (h9 : A 9 b = nI t) (hrow : pt_row N md od (A 7)) : Met l yX1_setBounds wsX1_setBounds (pt_rm 2) (pt_W (dC, dI) vwCl (pt_xt c) (pt_xw a c F A Q) pt_nw sz [.ref (a 0), .int (nI b)]) (va_Qv (fun (u : pt_XS) => u.2.1 12 = pt_bds (A 4) od b f (A 12) (t - f - 1) ∧ u.1 = F ∧ (∀ j, j ≠ 12 → u.2.1 j = A j) ∧ u.2.2 = Q) (fun u t => va_P (dC, dI) vwCl (pt_xw a c u.1 u.2.1 u.2.2) t.heap) (va_A (pt_xw a c F A Q) sz)) 0 0 (va_A (pt_xw a c F A Q) sz) := by
  refine Met.ofW (cc := cX1_setBounds) (maxL := 3) (ret := none) (by decide) rfl ?_
  intro p e s m args below meth cd s₁ B hml hv
  obtain ⟨rfl, hsz, hP, hK, hN, hD0⟩ := hv
  have hx := B.exec
  have hb := B.bytes
  have hr := B.returns
  have hts := atoms_spec (ws := wsX1_setBounds) B.pre
  have hown : s.vm.findClass RX1 = some m.cls := findClass_of_methodNamed B.named
  have hlocks := B.notSynchronized
  subst hsz
  have hD := hD0.self (sz := s.heap.size)
  generalize hAe : va_A (pt_xw a c F A Q) s.heap.size = AA at hD ⊢
  have hA : ∀ q : Nat, s.heap.size ≤ q → AA q := fun q h => by rw [← hAe]; exact Or.inr h
  have hS : va_S AA s.heap s.heap [] := va_S.rf
  have hl := lv_entry ([.ref (a 0), .int (nI b)]) (n := 3) (Nat.le_of_ble_eq_true rfl)
  rw [lg_entry_eq]
  generalize (lg_sl ([.ref (a 0), .int (nI b)]) ++ List.replicate (3 - (lg_sl ([.ref (a 0), .int (nI b)])).length) Slot.unset).toArray = ls at hl ⊢
  have hl : lv_has ls 3 [(0, .ref (a 0)), (1, .int (nI b))] := hl
  have rf := hrow f (by omega)
  refine lv_aload_n hx hb dX1_setBounds_0 rfl (lv_at hl 0 rfl) ?_
  refine va_get (D := (dC, dI)) (ci := 1) (v := .ref (a 12)) (C := RX1) (T := TX1) (N := 18) hx hb hts iw_c_X1_setBounds_wsX10 hown hK hP 0 rfl rfl 12 (by decide) (hts _ wd_c_X1_setBounds_X1_setBounds_0) (fun _ h9 => h9) rfl dX1_setBounds_1 ?_
  refine lv_iload_n hx hb dX1_setBounds_4 rfl (lv_at hl 1 rfl) ?_
  refine lv_aload_n hx hb dX1_setBounds_5 rfl (lv_at hl 0 rfl) ?_
  refine va_get (D := (dC, dI)) (ci := 1) (v := .ref (a 4)) (C := RX1) (T := TX1) (N := 18) hx hb hts iw_c_X1_setBounds_wsX10 hown hK hP 0 rfl rfl 4 (by decide) (hts _ wd_c_X1_setBounds_X1_setBounds_1) (fun _ h9 => h9) rfl dX1_setBounds_6 ?_
  refine lv_aload_n hx hb dX1_setBounds_9 rfl (lv_at hl 0 rfl) ?_
  refine va_get (D := (dC, dI)) (ci := 1) (v := .ref (a 7)) (C := RX1) (T := TX1) (N := 18) hx hb hts iw_c_X1_setBounds_wsX10 hown hK hP 0 rfl rfl 7 (by decide) (hts _ wd_c_X1_setBounds_X1_setBounds_2) (fun _ h9 => h9) rfl dX1_setBounds_10 ?_
  refine lv_aload_n hx hb dX1_setBounds_13 rfl (lv_at hl 0 rfl) ?_
  refine va_get (D := (dC, dI)) (ci := 1) (v := .ref (a 8)) (C := RX1) (T := TX1) (N := 18) hx hb hts iw_c_X1_setBounds_wsX10 hown hK hP 0 rfl rfl 8 (by decide) (hts _ wd_c_X1_setBounds_X1_setBounds_3) (fun _ h9 => h9) rfl dX1_setBounds_14 ?_
  refine lv_iload_n hx hb dX1_setBounds_17 rfl (lv_at hl 1 rfl) ?_
  refine pt_iald hx hb hK hP 5 3 rfl rfl b rfl (by omega) (by decide) dX1_setBounds_18 ?_
  refine pt_top (y := nI f) h8 ?_
  refine pt_iald hx hb hK hP 4 2 rfl rfl f rfl (by omega) (by decide) dX1_setBounds_19 ?_
  refine pt_top (y := nI (od f)) rf.1 ?_
  refine pt_callv (wf := (fun u => (pt_xw a c F A Q).set 10 (a 32, .inl (c 12, 186, .inl u)))) (va_runVN (As := [.int (nI b), .ref (a 4), .int (nI (od f))]) (rest := []) ⟨hx, hb, hml, hown, hts⟩ (c_X0_copyFrom l dC dI (pt_xt c) (pt_xw a c F A Q) 9 10 7 (a 12) (a 32) (c 12) 186 (A 12) rfl rfl rfl (by decide) 2 3 1 (a 4) (a 24) (c 4) 384 (A 4) rfl rfl rfl (by decide) (by decide) _ b (od f) (by omega) (by omega)) ⟨va_cnB 3 hts gX1_setBounds_X0_copyFrom_n161 rfl rfl rfl (pt_nest hN 3 rfl) (hts _ wd_c_X1_setBounds_X1_setBounds_4) (by decide +kernel) ⟨Nat.le_of_ble_eq_true rfl, Nat.le_of_ble_eq_true rfl⟩, (hts _ wd_c_X1_setBounds_X1_setBounds_5), (hts _ wd_c_X1_setBounds_X1_setBounds_6)⟩ (pt_wv0 hP hK hN hD (q0 := 9) rfl) rfl rfl hl.1 rfl (lv_room (Nat.le_of_ble_eq_true rfl)) dX1_setBounds_20 ⟨Nat.le_of_ble_eq_true rfl, Nat.le_of_ble_eq_true rfl⟩) hD hS hA (fun _ => rfl) (fun u20 H locs hr20 hP hD hS => ?_)
  obtain ⟨A1, eA1⟩ : ∃ zz, zz = va_up A 12 u20 := ⟨_, rfl⟩
  have hP : va_P (dC, dI) vwCl (pt_xw a c F A1 Q) H := by rw [eA1]; exact hP
  have hD : va_D AA (pt_xw a c F A1 Q) := by rw [eA1]; exact hD
  have wA1 : A1 12 = u20 := by rw [eA1, pt_up]
  have oA1 : ∀ j, j ≠ 12 → A1 j = A j := fun j hj => by rw [eA1]; exact pt_up_ne hj
  have gA1 := hr20
  refine lv_aload_n hx hb dX1_setBounds_23 rfl (lv_at hl 0 rfl) ?_
  refine va_get (D := (dC, dI)) (ci := 1) (v := .ref (a 8)) (C := RX1) (T := TX1) (N := 18) hx hb hts iw_c_X1_setBounds_wsX10 hown hK hP 0 rfl rfl 8 (by decide) (hts _ wd_c_X1_setBounds_X1_setBounds_3) (fun _ h9 => h9) rfl dX1_setBounds_24 ?_
  refine lv_iload_n hx hb dX1_setBounds_27 rfl (lv_at hl 1 rfl) ?_
  refine pt_iald hx hb hK hP 5 3 rfl rfl b rfl (by omega) (by decide) dX1_setBounds_28 ?_
  refine pt_top (y := nI f) (by rw [oA1 8 (by decide)]; exact h8) ?_
  refine lv_iconst (v := nI 1) hx hb dX1_setBounds_29 (by decide) ?_
  refine lv_iadd hx hb dX1_setBounds_30 ?_
  refine pt_top (y := nI (f + 1)) (nI_add _ _) ?_
  refine lv_istore_n (lv' := [(2, .int (nI (f + 1))), (0, .ref (a 0)), (1, .int (nI b))]) hx hb dX1_setBounds_31 rfl hl (by decide) rfl (fun ls hl => ?_)
  refine pt_loopW (fun q : Nat × (Nat → Nat → Int32) => t - (f + 1 + q.1)) (fun q ls H locs => f + 1 + q.1 ≤ t ∧ (q.2 12 = pt_bds (A 4) od b f (A 12) q.1 ∧ ∀ j, j ≠ 12 → q.2 j = A j) ∧ va_P (dC, dI) vwCl (pt_xw a c F q.2 Q) H ∧ va_D AA (pt_xw a c F q.2 Q) ∧ va_S AA s.heap H locs ∧ lv_has ls 3 [(2, .int (nI (f + 1 + q.1))), (0, .ref (a 0)), (1, .int (nI b))]) ?_ (0, A1) _ _ _ ⟨by show f + 1 + 0 ≤ t; omega, ⟨by show A1 12 = _; rw [wA1, gA1]; rfl, oA1⟩, hP, hD, hS, hl⟩
  intro ⟨n, An⟩ ls H locs ⟨hn, ⟨hbn, hsn⟩, hP, hD, hS, hl⟩ ih
  dsimp only at hn hbn hsn hP hD hl ih
  refine lv_iload_n hx hb dX1_setBounds_32 rfl (lv_at hl 0 rfl) ?_
  refine lv_aload_n hx hb dX1_setBounds_33 rfl (lv_at hl 1 rfl) ?_
  refine va_get (D := (dC, dI)) (ci := 1) (v := .ref (a 9)) (C := RX1) (T := TX1) (N := 18) hx hb hts iw_c_X1_setBounds_wsX10 hown hK hP 0 rfl rfl 9 (by decide) (hts _ wd_c_X1_setBounds_X1_setBounds_7) (fun _ h9 => h9) rfl dX1_setBounds_34 ?_
  refine lv_iload_n hx hb dX1_setBounds_37 rfl (lv_at hl 2 rfl) ?_
  refine pt_iald hx hb hK hP 6 4 rfl rfl b rfl (by omega) (by decide) dX1_setBounds_38 ?_
  refine pt_top (y := nI t) (by rw [hsn 9 (by decide)]; exact h9) ?_
  refine lv_icmp_ge (tgt := 66) hx hb dX1_setBounds_39 (by decide) (fun c39 => ?_) (fun c39 => ?_)
  · have hne : n = t - f - 1 := by have := (nI_leI (by omega) (by omega)).mp c39; omega
    exact W.vret hx hb hr (fun zt zh zW => ⟨⟨(F, An, Q), rfl, ⟨by rw [← hne]; exact hbn, rfl, hsn, rfl⟩, by show va_P _ _ _ zt.heap; rw [zh]; exact hP⟩, hS.F zh⟩) hS.2.2 dX1_setBounds_66
  · have hlt : f + 1 + n < t := Nat.not_le.mp (fun q => c39 ((nI_leI (by omega) (by omega)).mpr q))
    have ri := hrow (f + 1 + n) (by omega)
    refine lv_aload_n hx hb dX1_setBounds_42 rfl (lv_at hl 1 rfl) ?_
    refine va_get (D := (dC, dI)) (ci := 1) (v := .ref (a 12)) (C := RX1) (T := TX1) (N := 18) hx hb hts iw_c_X1_setBounds_wsX10 hown hK hP 0 rfl rfl 12 (by decide) (hts _ wd_c_X1_setBounds_X1_setBounds_0) (fun _ h9 => h9) rfl dX1_setBounds_43 ?_
    refine lv_iload_n hx hb dX1_setBounds_46 rfl (lv_at hl 2 rfl) ?_
    refine lv_aload_n hx hb dX1_setBounds_47 rfl (lv_at hl 1 rfl) ?_
    refine va_get (D := (dC, dI)) (ci := 1) (v := .ref (a 4)) (C := RX1) (T := TX1) (N := 18) hx hb hts iw_c_X1_setBounds_wsX10 hown hK hP 0 rfl rfl 4 (by decide) (hts _ wd_c_X1_setBounds_X1_setBounds_1) (fun _ h9 => h9) rfl dX1_setBounds_48 ?_
    refine lv_aload_n hx hb dX1_setBounds_51 rfl (lv_at hl 1 rfl) ?_
    refine va_get (D := (dC, dI)) (ci := 1) (v := .ref (a 7)) (C := RX1) (T := TX1) (N := 18) hx hb hts iw_c_X1_setBounds_wsX10 hown hK hP 0 rfl rfl 7 (by decide) (hts _ wd_c_X1_setBounds_X1_setBounds_2) (fun _ h9 => h9) rfl dX1_setBounds_52 ?_
    refine lv_iload_n hx hb dX1_setBounds_55 rfl (lv_at hl 0 rfl) ?_
    refine pt_iald hx hb hK hP 4 2 rfl rfl (f + 1 + n) rfl (by omega) (by decide) dX1_setBounds_56 ?_
    refine pt_top (y := nI (od (f + 1 + n))) (by rw [hsn 7 (by decide)]; exact ri.1) ?_
    refine pt_callv (wf := (fun u => (pt_xw a c F An Q).set 10 (a 32, .inl (c 12, 186, .inl u)))) (va_runVN (As := [.int (nI b), .ref (a 4), .int (nI (od (f + 1 + n)))]) (rest := []) ⟨hx, hb, hml, hown, hts⟩ (c_X0_widen l dC dI (pt_xt c) (pt_xw a c F An Q) 9 10 7 (a 12) (a 32) (c 12) 186 (An 12) rfl rfl rfl (by decide) 2 3 1 (a 4) (a 24) (c 4) 384 (An 4) rfl rfl rfl (by decide) (by decide) _ b (od (f + 1 + n)) (by omega) (by omega)) ⟨va_cnB 3 hts gX1_setBounds_X0_widen_n165 rfl rfl rfl (pt_nest hN 4 rfl) (hts _ wd_c_X1_setBounds_X1_setBounds_4) (by decide +kernel) ⟨Nat.le_of_ble_eq_true rfl, Nat.le_of_ble_eq_true rfl⟩, (hts _ wd_c_X1_setBounds_X1_setBounds_8), (hts _ wd_c_X1_setBounds_X1_setBounds_9)⟩ (pt_wv0 hP hK hN hD (q0 := 9) rfl) rfl rfl hl.1 rfl (lv_room (Nat.le_of_ble_eq_true rfl)) dX1_setBounds_57 ⟨Nat.le_of_ble_eq_true rfl, Nat.le_of_ble_eq_true rfl⟩) hD hS hA (fun _ => rfl) (fun u57 H locs hr57 hP hD hS => ?_)
    obtain ⟨A2, eA2⟩ : ∃ zz, zz = va_up An 12 u57 := ⟨_, rfl⟩
    have hP : va_P (dC, dI) vwCl (pt_xw a c F A2 Q) H := by rw [eA2]; exact hP
    have hD : va_D AA (pt_xw a c F A2 Q) := by rw [eA2]; exact hD
    have wA2 : A2 12 = u57 := by rw [eA2, pt_up]
    have oA2 : ∀ j, j ≠ 12 → A2 j = An j := fun j hj => by rw [eA2]; exact pt_up_ne hj
    have gA2 := hr57
    refine lv_iinc (v := nI ((f + 1 + n) + 1)) (lv' := [(2, .int (nI ((f + 1 + n) + 1))), (0, .ref (a 0)), (1, .int (nI b))]) hx hb dX1_setBounds_60 hl (k := 0) rfl (nI_1 _) (by decide) rfl (fun ls hl => ?_)
    refine lv_goto (tgt := 32) hx hb dX1_setBounds_63 (by decide) ?_
    exact ih (n + 1, A2) _ _ _ ⟨by show f + 1 + (n + 1) ≤ t; omega, ⟨by show A2 12 = _; rw [wA2, gA2, hbn, hsn 4 (by decide)]; rfl, fun j hj => by show A2 j = A j; rw [oA2 j hj]; exact hsn j hj⟩, hP, hD, hS, lv_sub hl [0, 1, 2] rfl⟩ (by show t - (f + 1 + (n + 1)) < t - (f + 1 + n); omega)
