/-- the row but for one place, that is going to be filled -/
def pt_rowx (N md at_ : Nat) (od : Nat → Nat) (r : Nat → Int32) : Prop := ∀ k, k < N → (k ≠ at_ → r k = nI (od k)) ∧ od k < md
theorem pt_row_fill {N md k0 v : Nat} {od : Nat → Nat} {r : Nat → Int32} (h : pt_rowx N md k0 od r) (e : od k0 = v) (hk : k0 < N) : pt_row N md od (upd r k0 (nI v)) := by
  intro k hk2
  by_cases q : k = k0
  · subst q; rw [pt_upd, e]; exact ⟨rfl, by rw [← e]; exact (h k hk2).2⟩
  · rw [pt_upd_ne q]; exact ⟨(h k hk2).1 q, (h k hk2).2⟩
theorem pt_rowx_of {N md k0 : Nat} {od : Nat → Nat} {r : Nat → Int32} (h : pt_row N md od r) : pt_rowx N md k0 od r := fun k hk => ⟨fun _ => (h k hk).1, (h k hk).2⟩
theorem pt_rowx_mv {N md j : Nat} {od : Nat → Nat} {r : Nat → Int32} (h : pt_rowx N md (j + 1) od r) (hj : j + 1 < N) : pt_rowx N md j (pt_swp od j) (upd r (j + 1) (nI (od j))) := by
  intro k hk
  unfold pt_swp
  by_cases h1 : k = j + 1
  · subst h1
    rw [pt_up, pt_upd]
    exact ⟨fun _ => rfl, (h j (by omega)).2⟩
  · rw [pt_up_ne h1, pt_upd_ne h1]
    by_cases h2 : k = j
    · subst h2; rw [pt_up]; exact ⟨fun q => absurd rfl q, (h (k + 1) hj).2⟩
    · rw [pt_up_ne h2]; exact ⟨fun _ => (h k hk).1 h1, (h k hk).2⟩
theorem pt_swp_at {od : Nat → Nat} {j : Nat} : pt_swp od j j = od (j + 1) := by
  unfold pt_swp; rw [pt_up_ne (by omega), pt_up]

theorem wd_c_X2_sort_X2_sort_0 : Cond.fieldLink RX2 27 "PointTreesModel" "row" "[I" ∈ wsX2_sort := by decide +kernel
theorem iw_c_X2_sort_wsX20 : ∀ w ∈ wsX20, w ∈ wsX2_sort := fun _ h => List.mem_cons_of_mem _ (List.mem_append_right _ h)
set_option maxHeartbeats 4000000 in
set_option maxRecDepth 100000 in
theorem c_X2_sort (l : Launch) (dC : Nat → ClassId) (dI : Nat → Nat → Nat) (a : Nat → Nat) (c : Nat → ClassId) (F : Nat → Int32) (A : Nat → Nat → Int32) (sz : Nat) (f mn x N md : Nat) (od : Nat → Nat) (hmn : 0 < mn) (hfN : f + mn ≤ N) (hN64 : N ≤ 64) (hmd : md ≤ 64) (hx1 : x < 3) (hrow : pt_row N md od (A 7)) : Met l yX2_sort wsX2_sort (pt_rm 1) (pt_W (dC, dI) vwCl (pt_mt c) (pt_mw a c F A) pt_nw sz [.ref (a 0), .int (nI f), .int (nI mn), .int (nI x)]) (va_Qv (fun (u : pt_MS) => pt_row N md (pt_srt (pt_bf (fun v => A 4 (3 * v + x) + A 5 (3 * v + x))) f (mn - 1) od) (u.2 7) ∧ u.1 = F ∧ ∀ j, j ≠ 7 → u.2 j = A j) (fun u t => va_P (dC, dI) vwCl (pt_mw a c u.1 u.2) t.heap) (va_A (pt_mw a c F A) sz)) 0 0 (va_A (pt_mw a c F A) sz) := by
  refine Met.ofW (cc := cX2_sort) (maxL := 7) (ret := none) (by decide) rfl ?_
  intro p e s m args below meth cd s₁ B hml hv
  obtain ⟨rfl, hsz, hP, hK, hN, hD0⟩ := hv
  have hx := B.exec
  have hb := B.bytes
  have hr := B.returns
  have hts := atoms_spec (ws := wsX2_sort) B.pre
  have hown : s.vm.findClass RX2 = some m.cls := findClass_of_methodNamed B.named
  have hlocks := B.notSynchronized
  subst hsz
  have hD := hD0.self (sz := s.heap.size)
  generalize hAe : va_A (pt_mw a c F A) s.heap.size = AA at hD ⊢
  have hA : ∀ q : Nat, s.heap.size ≤ q → AA q := fun q h => by rw [← hAe]; exact Or.inr h
  have hS : va_S AA s.heap s.heap [] := va_S.rf
  have hl := lv_entry ([.ref (a 0), .int (nI f), .int (nI mn), .int (nI x)]) (n := 7) (Nat.le_of_ble_eq_true rfl)
  rw [lg_entry_eq]
  generalize (lg_sl ([.ref (a 0), .int (nI f), .int (nI mn), .int (nI x)]) ++ List.replicate (7 - (lg_sl ([.ref (a 0), .int (nI f), .int (nI mn), .int (nI x)])).length) Slot.unset).toArray = ls at hl ⊢
  have hl : lv_has ls 7 [(0, .ref (a 0)), (1, .int (nI f)), (2, .int (nI mn)), (3, .int (nI x))] := hl
  refine lv_iload_n hx hb dX2_sort_0 rfl (lv_at hl 1 rfl) ?_
  refine lv_iconst (v := nI 1) hx hb dX2_sort_1 (by decide) ?_
  refine lv_iadd hx hb dX2_sort_2 ?_
  refine pt_top (y := nI (f + 1)) (nI_add _ _) ?_
  refine lv_istore (lv' := [(4, .int (nI (f + 1))), (0, .ref (a 0)), (1, .int (nI f)), (2, .int (nI mn)), (3, .int (nI x))]) hx hb dX2_sort_3 hl (by decide) rfl (fun ls hl => ?_)
  refine pt_loopW (fun q : Nat × (Nat → Nat → Int32) => mn - (q.1 + 1)) (fun q ls H locs => q.1 + 1 ≤ mn ∧ (pt_row N md (pt_srt (pt_bf (fun v => A 4 (3 * v + x) + A 5 (3 * v + x))) f q.1 od) (q.2 7) ∧ ∀ j, j ≠ 7 → q.2 j = A j) ∧ va_P (dC, dI) vwCl (pt_mw a c F q.2) H ∧ va_D AA (pt_mw a c F q.2) ∧ va_S AA s.heap H locs ∧ lv_has ls 7 [(4, .int (nI (f + (q.1 + 1)))), (0, .ref (a 0)), (1, .int (nI f)), (2, .int (nI mn)), (3, .int (nI x))]) ?_ (0, A) _ _ _ ⟨by show 0 + 1 ≤ mn; omega, ⟨hrow, fun _ _ => rfl⟩, hP, hD, hS, hl⟩
  intro ⟨m2, Am⟩ ls H locs ⟨hm, ⟨hrm, hsm⟩, hP, hD, hS, hl⟩ ih
  dsimp only at hm hrm hsm hP hD hl ih
  refine lv_iload hx hb dX2_sort_5 (lv_at hl 0 rfl) ?_
  refine lv_iload_n hx hb dX2_sort_7 rfl (lv_at hl 2 rfl) ?_
  refine lv_iload_n hx hb dX2_sort_8 rfl (lv_at hl 3 rfl) ?_
  refine lv_iadd hx hb dX2_sort_9 ?_
  refine pt_top (y := nI (f + mn)) (nI_add _ _) ?_
  refine lv_icmp_ge (tgt := 131) hx hb dX2_sort_10 (by decide) (fun c10 => ?_) (fun c10 => ?_)
  · have hme : m2 = mn - 1 := by have := (nI_leI (by omega) (by omega)).mp c10; omega
    exact W.vret hx hb hr (fun zt zh zW => ⟨⟨(F, Am), rfl, ⟨by rw [← hme]; exact hrm, rfl, hsm⟩, by show va_P _ _ _ zt.heap; rw [zh]; exact hP⟩, hS.F zh⟩) hS.2.2 dX2_sort_131
  · have hlt : m2 + 1 < mn := by have : ¬ f + mn ≤ f + (m2 + 1) := fun q => c10 ((nI_leI (by omega) (by omega)).mpr q); omega
    obtain ⟨tt, ett⟩ : ∃ zz, zz = pt_srt (pt_bf (fun v => A 4 (3 * v + x) + A 5 (3 * v + x))) f m2 od (f + (m2 + 1)) := ⟨_, rfl⟩
    have rt := hrm (f + (m2 + 1)) (by omega)
    have htt : tt < md := by rw [ett]; exact rt.2
    refine lv_aload_n hx hb dX2_sort_13 rfl (lv_at hl 1 rfl) ?_
    refine va_get (D := (dC, dI)) (ci := 2) (v := .ref (a 7)) (C := RX2) (T := TX2) (N := 27) hx hb hts iw_c_X2_sort_wsX20 hown hK hP 0 rfl rfl 7 (by decide) (hts _ wd_c_X2_sort_X2_sort_0) (fun _ h9 => h9) rfl dX2_sort_14 ?_
    refine lv_iload hx hb dX2_sort_17 (lv_at hl 0 rfl) ?_
    refine pt_iald hx hb hK hP 5 4 rfl rfl (f + (m2 + 1)) rfl (by omega) (by decide) dX2_sort_19 ?_
    refine pt_top (y := nI tt) (by rw [ett]; exact rt.1) ?_
    refine lv_istore (lv' := [(5, .int (nI tt)), (4, .int (nI (f + (m2 + 1)))), (0, .ref (a 0)), (1, .int (nI f)), (2, .int (nI mn)), (3, .int (nI x))]) hx hb dX2_sort_20 hl (by decide) rfl (fun ls hl => ?_)
    refine lv_iload hx hb dX2_sort_22 (lv_at hl 1 rfl) ?_
    refine lv_istore (lv' := [(6, .int (nI (f + (m2 + 1)))), (5, .int (nI tt)), (4, .int (nI (f + (m2 + 1)))), (0, .ref (a 0)), (1, .int (nI f)), (2, .int (nI mn)), (3, .int (nI x))]) hx hb dX2_sort_24 hl (by decide) rfl (fun ls hl => ?_)
    refine pt_loopW (fun q : Nat × (Nat → Nat) × (Nat → Nat → Int32) => q.1) (fun q ls H locs => q.1 ≤ m2 + 1 ∧ (pt_sink (pt_bf (fun v => A 4 (3 * v + x) + A 5 (3 * v + x))) f q.1 q.2.1 = pt_srt (pt_bf (fun v => A 4 (3 * v + x) + A 5 (3 * v + x))) f (m2 + 1) od ∧ pt_rowx N md (f + q.1) q.2.1 (q.2.2 7) ∧ q.2.1 (f + q.1) = tt ∧ ∀ j, j ≠ 7 → q.2.2 j = A j) ∧ va_P (dC, dI) vwCl (pt_mw a c F q.2.2) H ∧ va_D AA (pt_mw a c F q.2.2) ∧ va_S AA s.heap H locs ∧ lv_has ls 7 [(6, .int (nI (f + q.1))), (5, .int (nI tt)), (4, .int (nI (f + (m2 + 1)))), (0, .ref (a 0)), (1, .int (nI f)), (2, .int (nI mn)), (3, .int (nI x))]) ?_ (m2 + 1, pt_srt (pt_bf (fun v => A 4 (3 * v + x) + A 5 (3 * v + x))) f m2 od, Am) _ _ _ ⟨Nat.le_refl _, ⟨rfl, pt_rowx_of hrm, ett.symm, hsm⟩, hP, hD, hS, hl⟩
    intro ⟨n, odn, An⟩ ls H locs ⟨hn, ⟨hsk, hrn, hodt, hsn⟩, hP, hD, hS, hl⟩ ihn
    dsimp only at hn hsk hrn hodt hsn hP hD hl ihn
    refine lv_iload hx hb dX2_sort_26 (lv_at hl 0 rfl) ?_
    refine lv_iload_n hx hb dX2_sort_28 rfl (lv_at hl 4 rfl) ?_
    refine lv_icmp_le (tgt := 116) hx hb dX2_sort_29 (by decide) (fun c29 => ?_) (fun c29 => ?_)
    · have hn0 : n = 0 := by have := (nI_leI (by omega) (by omega)).mp c29; omega
      have hod2 : odn = pt_srt (pt_bf (fun v => A 4 (3 * v + x) + A 5 (3 * v + x))) f (m2 + 1) od := by rw [← hsk, hn0]; rfl
      refine lv_aload_n hx hb dX2_sort_116 rfl (lv_at hl 3 rfl) ?_
      refine va_get (D := (dC, dI)) (ci := 2) (v := .ref (a 7)) (C := RX2) (T := TX2) (N := 27) hx hb hts iw_c_X2_sort_wsX20 hown hK hP 0 rfl rfl 7 (by decide) (hts _ wd_c_X2_sort_X2_sort_0) (fun _ h9 => h9) rfl dX2_sort_117 ?_
      refine lv_iload hx hb dX2_sort_120 (lv_at hl 0 rfl) ?_
      refine lv_iload hx hb dX2_sort_122 (lv_at hl 1 rfl) ?_
      obtain ⟨A1, eA1⟩ : ∃ zz, zz = va_up An 7 (upd (An 7) (f + n) (nI tt)) := ⟨_, rfl⟩
      refine pt_iast hx hb hK hP hD hS 5 4 rfl rfl (f + n) rfl (by omega) (by decide) (ws' := (pt_mw a c F A1)) (by rw [eA1]; rfl) dX2_sort_124 (fun H locs hP hD hS => ?_)
      refine lv_iinc (v := nI ((f + (m2 + 1)) + 1)) (lv' := [(4, .int (nI ((f + (m2 + 1)) + 1))), (6, .int (nI (f + n))), (5, .int (nI tt)), (0, .ref (a 0)), (1, .int (nI f)), (2, .int (nI mn)), (3, .int (nI x))]) hx hb dX2_sort_125 hl (k := 2) rfl (nI_1 _) (by decide) rfl (fun ls hl => ?_)
      refine lv_goto (tgt := 5) hx hb dX2_sort_128 (by decide) ?_
      exact ih (m2 + 1, A1) _ _ _ ⟨by show m2 + 1 + 1 ≤ mn; omega, ⟨by show pt_row N md _ (A1 7); rw [← hod2, eA1, pt_up]; exact pt_row_fill hrn hodt (by omega), fun j hj => by show A1 j = A j; rw [eA1, pt_up_ne hj]; exact hsn j hj⟩, hP, hD, hS, lv_sub hl [0, 3, 4, 5, 6] rfl⟩ (by show mn - (m2 + 1 + 1) < mn - (m2 + 1); omega)
    · obtain ⟨n, rfl⟩ : ∃ zz, n = zz + 1 := ⟨n - 1, by have : ¬ f + n ≤ f := fun q => c29 ((nI_leI (by omega) (by omega)).mpr q); omega⟩
      have rb := (hrn (f + n) (by omega)).1 (by omega)
      have rb2 := (hrn (f + n) (by omega)).2
      refine lv_aload_n hx hb dX2_sort_32 rfl (lv_at hl 3 rfl) ?_
      refine lv_aload_n hx hb dX2_sort_33 rfl (lv_at hl 3 rfl) ?_
      refine va_get (D := (dC, dI)) (ci := 2) (v := .ref (a 7)) (C := RX2) (T := TX2) (N := 27) hx hb hts iw_c_X2_sort_wsX20 hown hK hP 0 rfl rfl 7 (by decide) (hts _ wd_c_X2_sort_X2_sort_0) (fun _ h9 => h9) rfl dX2_sort_34 ?_
      refine lv_iload hx hb dX2_sort_37 (lv_at hl 0 rfl) ?_
      refine lv_iconst (v := nI 1) hx hb dX2_sort_39 (by decide) ?_
      refine lv_isub hx hb dX2_sort_40 ?_
      refine pt_top (y := nI (f + n)) (nI_pred (f + n)) ?_
      refine pt_iald hx hb hK hP 5 4 rfl rfl (f + n) rfl (by omega) (by decide) dX2_sort_41 ?_
      refine pt_top (y := nI (odn (f + n))) rb ?_
      refine lv_iload_n hx hb dX2_sort_42 rfl (lv_at hl 6 rfl) ?_
      refine pt_rdi (va_runV (As := [.int (nI (odn (f + n))), .int (nI x)]) (rest := []) ⟨hx, hb, hml, hown, hts⟩ (c_X2_sum l dC dI a c F An (odn (f + n)) x (by omega)) (cwV 2 hts gX2_sort_X2_sum rfl rfl rfl (by decide +kernel) ⟨Nat.le_of_ble_eq_true rfl, Nat.le_of_ble_eq_true rfl⟩) (pt_pv2 hP hK hN (q0 := 0) rfl) rfl rfl hl.1 rfl (lv_room (Nat.le_of_ble_eq_true rfl)) dX2_sort_43 ⟨Nat.le_of_ble_eq_true rfl, Nat.le_of_ble_eq_true rfl⟩) (fun r43 hr43 => ?_)
      refine pt_top (y := (A 4 (3 * (odn (f + n)) + x) + A 5 (3 * (odn (f + n)) + x))) (hr43.trans (by rw [hsn 4 (by decide), hsn 5 (by decide)])) ?_
      refine lv_aload_n hx hb dX2_sort_46 rfl (lv_at hl 3 rfl) ?_
      refine lv_iload hx hb dX2_sort_47 (lv_at hl 1 rfl) ?_
      refine lv_iload_n hx hb dX2_sort_49 rfl (lv_at hl 6 rfl) ?_
      refine pt_rdi (va_runV (As := [.int (nI tt), .int (nI x)]) (rest := [.int (A 4 (3 * (odn (f + n)) + x) + A 5 (3 * (odn (f + n)) + x))]) ⟨hx, hb, hml, hown, hts⟩ (c_X2_sum l dC dI a c F An tt x (by omega)) (cwV 2 hts gX2_sort_X2_sum rfl rfl rfl (by decide +kernel) ⟨Nat.le_of_ble_eq_true rfl, Nat.le_of_ble_eq_true rfl⟩) (pt_pv2 hP hK hN (q0 := 0) rfl) rfl rfl hl.1 rfl (lv_room (Nat.le_of_ble_eq_true rfl)) dX2_sort_50 ⟨Nat.le_of_ble_eq_true rfl, Nat.le_of_ble_eq_true rfl⟩) (fun r50 hr50 => ?_)
      refine pt_top (y := (A 4 (3 * tt + x) + A 5 (3 * tt + x))) (hr50.trans (by rw [hsn 4 (by decide), hsn 5 (by decide)])) ?_
      refine lv_icmp_gt (tgt := 94) hx hb dX2_sort_53 (by decide) (fun c53 => ?_) (fun c53 => ?_)
      · refine lv_aload_n hx hb dX2_sort_94 rfl (lv_at hl 3 rfl) ?_
        refine va_get (D := (dC, dI)) (ci := 2) (v := .ref (a 7)) (C := RX2) (T := TX2) (N := 27) hx hb hts iw_c_X2_sort_wsX20 hown hK hP 0 rfl rfl 7 (by decide) (hts _ wd_c_X2_sort_X2_sort_0) (fun _ h9 => h9) rfl dX2_sort_95 ?_
        refine lv_iload hx hb dX2_sort_98 (lv_at hl 0 rfl) ?_
        refine lv_aload_n hx hb dX2_sort_100 rfl (lv_at hl 3 rfl) ?_
        refine va_get (D := (dC, dI)) (ci := 2) (v := .ref (a 7)) (C := RX2) (T := TX2) (N := 27) hx hb hts iw_c_X2_sort_wsX20 hown hK hP 0 rfl rfl 7 (by decide) (hts _ wd_c_X2_sort_X2_sort_0) (fun _ h9 => h9) rfl dX2_sort_101 ?_
        refine lv_iload hx hb dX2_sort_104 (lv_at hl 0 rfl) ?_
        refine lv_iconst (v := nI 1) hx hb dX2_sort_106 (by decide) ?_
        refine lv_isub hx hb dX2_sort_107 ?_
        refine pt_top (y := nI (f + n)) (nI_pred (f + n)) ?_
        refine pt_iald hx hb hK hP 5 4 rfl rfl (f + n) rfl (by omega) (by decide) dX2_sort_108 ?_
        refine pt_top (y := nI (odn (f + n))) rb ?_
        obtain ⟨A2, eA2⟩ : ∃ zz, zz = va_up An 7 (upd (An 7) (f + (n + 1)) (nI (odn (f + n)))) := ⟨_, rfl⟩
        refine pt_iast hx hb hK hP hD hS 5 4 rfl rfl (f + (n + 1)) rfl (by omega) (by decide) (ws' := (pt_mw a c F A2)) (by rw [eA2]; rfl) dX2_sort_109 (fun H locs hP hD hS => ?_)
        refine lv_iinc (v := nI (f + n)) (lv' := [(6, .int (nI (f + n))), (5, .int (nI tt)), (4, .int (nI (f + (m2 + 1)))), (0, .ref (a 0)), (1, .int (nI f)), (2, .int (nI mn)), (3, .int (nI x))]) hx hb dX2_sort_110 hl (k := 0) rfl (pk_m1 (f + n)) (by decide) rfl (fun ls hl => ?_)
        refine lv_goto (tgt := 26) hx hb dX2_sort_113 (by decide) ?_
        have d42 : (pt_bf (fun v => A 4 (3 * v + x) + A 5 (3 * v + x))) (odn (f + (n + 1))) (odn (f + n)) := by rw [hodt]; first | exact Or.inl c53 | exact Or.inr ⟨c77.symm, d91⟩
        exact ihn (n, pt_swp odn (f + n), A2) _ _ _ ⟨by show n ≤ m2 + 1; omega, ⟨by show pt_sink _ f n _ = _; rw [← hsk]; exact (pt_if_t d42).symm, by show pt_rowx N md (f + n) _ (A2 7); rw [eA2, pt_up]; exact pt_rowx_mv hrn (by omega), by show pt_swp odn (f + n) (f + n) = tt; rw [pt_swp_at]; exact hodt, fun j hj => by show A2 j = A j; rw [eA2, pt_up_ne hj]; exact hsn j hj⟩, hP, hD, hS, lv_sub hl [0, 1, 2, 3, 4, 5, 6] rfl⟩ (by show n < n + 1; omega)
      · refine lv_aload_n hx hb dX2_sort_56 rfl (lv_at hl 3 rfl) ?_
        refine lv_aload_n hx hb dX2_sort_57 rfl (lv_at hl 3 rfl) ?_
        refine va_get (D := (dC, dI)) (ci := 2) (v := .ref (a 7)) (C := RX2) (T := TX2) (N := 27) hx hb hts iw_c_X2_sort_wsX20 hown hK hP 0 rfl rfl 7 (by decide) (hts _ wd_c_X2_sort_X2_sort_0) (fun _ h9 => h9) rfl dX2_sort_58 ?_
        refine lv_iload hx hb dX2_sort_61 (lv_at hl 0 rfl) ?_
        refine lv_iconst (v := nI 1) hx hb dX2_sort_63 (by decide) ?_
        refine lv_isub hx hb dX2_sort_64 ?_
        refine pt_top (y := nI (f + n)) (nI_pred (f + n)) ?_
        refine pt_iald hx hb hK hP 5 4 rfl rfl (f + n) rfl (by omega) (by decide) dX2_sort_65 ?_
        refine pt_top (y := nI (odn (f + n))) rb ?_
        refine lv_iload_n hx hb dX2_sort_66 rfl (lv_at hl 6 rfl) ?_
        refine pt_rdi (va_runV (As := [.int (nI (odn (f + n))), .int (nI x)]) (rest := []) ⟨hx, hb, hml, hown, hts⟩ (c_X2_sum l dC dI a c F An (odn (f + n)) x (by omega)) (cwV 2 hts gX2_sort_X2_sum rfl rfl rfl (by decide +kernel) ⟨Nat.le_of_ble_eq_true rfl, Nat.le_of_ble_eq_true rfl⟩) (pt_pv2 hP hK hN (q0 := 0) rfl) rfl rfl hl.1 rfl (lv_room (Nat.le_of_ble_eq_true rfl)) dX2_sort_67 ⟨Nat.le_of_ble_eq_true rfl, Nat.le_of_ble_eq_true rfl⟩) (fun r67 hr67 => ?_)
        refine pt_top (y := (A 4 (3 * (odn (f + n)) + x) + A 5 (3 * (odn (f + n)) + x))) (hr67.trans (by rw [hsn 4 (by decide), hsn 5 (by decide)])) ?_
        refine lv_aload_n hx hb dX2_sort_70 rfl (lv_at hl 3 rfl) ?_
        refine lv_iload hx hb dX2_sort_71 (lv_at hl 1 rfl) ?_
        refine lv_iload_n hx hb dX2_sort_73 rfl (lv_at hl 6 rfl) ?_
        refine pt_rdi (va_runV (As := [.int (nI tt), .int (nI x)]) (rest := [.int (A 4 (3 * (odn (f + n)) + x) + A 5 (3 * (odn (f + n)) + x))]) ⟨hx, hb, hml, hown, hts⟩ (c_X2_sum l dC dI a c F An tt x (by omega)) (cwV 2 hts gX2_sort_X2_sum rfl rfl rfl (by decide +kernel) ⟨Nat.le_of_ble_eq_true rfl, Nat.le_of_ble_eq_true rfl⟩) (pt_pv2 hP hK hN (q0 := 0) rfl) rfl rfl hl.1 rfl (lv_room (Nat.le_of_ble_eq_true rfl)) dX2_sort_74 ⟨Nat.le_of_ble_eq_true rfl, Nat.le_of_ble_eq_true rfl⟩) (fun r74 hr74 => ?_)
        refine pt_top (y := (A 4 (3 * tt + x) + A 5 (3 * tt + x))) (hr74.trans (by rw [hsn 4 (by decide), hsn 5 (by decide)])) ?_
        refine lv_icmp_ne (tgt := 116) hx hb dX2_sort_77 (by decide) (fun c77 => ?_) (fun c77 => ?_)
        · have d42 : ¬ (pt_bf (fun v => A 4 (3 * v + x) + A 5 (3 * v + x))) (odn (f + (n + 1))) (odn (f + n)) := by rw [hodt]; exact fun q => q.elim c53 (fun q => by first | exact c77 q.1.symm | exact d91 q.2)
          have hod2 : odn = pt_srt (pt_bf (fun v => A 4 (3 * v + x) + A 5 (3 * v + x))) f (m2 + 1) od := by rw [← hsk]; exact (pt_if_f d42).symm
          refine lv_aload_n hx hb dX2_sort_116 rfl (lv_at hl 3 rfl) ?_
          refine va_get (D := (dC, dI)) (ci := 2) (v := .ref (a 7)) (C := RX2) (T := TX2) (N := 27) hx hb hts iw_c_X2_sort_wsX20 hown hK hP 0 rfl rfl 7 (by decide) (hts _ wd_c_X2_sort_X2_sort_0) (fun _ h9 => h9) rfl dX2_sort_117 ?_
          refine lv_iload hx hb dX2_sort_120 (lv_at hl 0 rfl) ?_
          refine lv_iload hx hb dX2_sort_122 (lv_at hl 1 rfl) ?_
          obtain ⟨A3, eA3⟩ : ∃ zz, zz = va_up An 7 (upd (An 7) (f + (n + 1)) (nI tt)) := ⟨_, rfl⟩
          refine pt_iast hx hb hK hP hD hS 5 4 rfl rfl (f + (n + 1)) rfl (by omega) (by decide) (ws' := (pt_mw a c F A3)) (by rw [eA3]; rfl) dX2_sort_124 (fun H locs hP hD hS => ?_)
          refine lv_iinc (v := nI ((f + (m2 + 1)) + 1)) (lv' := [(4, .int (nI ((f + (m2 + 1)) + 1))), (6, .int (nI (f + (n + 1)))), (5, .int (nI tt)), (0, .ref (a 0)), (1, .int (nI f)), (2, .int (nI mn)), (3, .int (nI x))]) hx hb dX2_sort_125 hl (k := 2) rfl (nI_1 _) (by decide) rfl (fun ls hl => ?_)
          refine lv_goto (tgt := 5) hx hb dX2_sort_128 (by decide) ?_
          exact ih (m2 + 1, A3) _ _ _ ⟨by show m2 + 1 + 1 ≤ mn; omega, ⟨by show pt_row N md _ (A3 7); rw [← hod2, eA3, pt_up]; exact pt_row_fill hrn hodt (by omega), fun j hj => by show A3 j = A j; rw [eA3, pt_up_ne hj]; exact hsn j hj⟩, hP, hD, hS, lv_sub hl [0, 3, 4, 5, 6] rfl⟩ (by show mn - (m2 + 1 + 1) < mn - (m2 + 1); omega)
        · refine lv_aload_n hx hb dX2_sort_80 rfl (lv_at hl 3 rfl) ?_
          refine va_get (D := (dC, dI)) (ci := 2) (v := .ref (a 7)) (C := RX2) (T := TX2) (N := 27) hx hb hts iw_c_X2_sort_wsX20 hown hK hP 0 rfl rfl 7 (by decide) (hts _ wd_c_X2_sort_X2_sort_0) (fun _ h9 => h9) rfl dX2_sort_81 ?_
          refine lv_iload hx hb dX2_sort_84 (lv_at hl 0 rfl) ?_
          refine lv_iconst (v := nI 1) hx hb dX2_sort_86 (by decide) ?_
          refine lv_isub hx hb dX2_sort_87 ?_
          refine pt_top (y := nI (f + n)) (nI_pred (f + n)) ?_
          refine pt_iald hx hb hK hP 5 4 rfl rfl (f + n) rfl (by omega) (by decide) dX2_sort_88 ?_
          refine pt_top (y := nI (odn (f + n))) rb ?_
          refine lv_iload hx hb dX2_sort_89 (lv_at hl 1 rfl) ?_
          refine lv_icmp_le (tgt := 116) hx hb dX2_sort_91 (by decide) (fun c91 => ?_) (fun c91 => ?_)
          · have d91 : ¬ tt < odn (f + n) := Nat.not_lt.mpr ((nI_leI (by omega) (by omega)).mp c91)
            have d42 : ¬ (pt_bf (fun v => A 4 (3 * v + x) + A 5 (3 * v + x))) (odn (f + (n + 1))) (odn (f + n)) := by rw [hodt]; exact fun q => q.elim c53 (fun q => by first | exact c77 q.1.symm | exact d91 q.2)
            have hod2 : odn = pt_srt (pt_bf (fun v => A 4 (3 * v + x) + A 5 (3 * v + x))) f (m2 + 1) od := by rw [← hsk]; exact (pt_if_f d42).symm
            refine lv_aload_n hx hb dX2_sort_116 rfl (lv_at hl 3 rfl) ?_
            refine va_get (D := (dC, dI)) (ci := 2) (v := .ref (a 7)) (C := RX2) (T := TX2) (N := 27) hx hb hts iw_c_X2_sort_wsX20 hown hK hP 0 rfl rfl 7 (by decide) (hts _ wd_c_X2_sort_X2_sort_0) (fun _ h9 => h9) rfl dX2_sort_117 ?_
            refine lv_iload hx hb dX2_sort_120 (lv_at hl 0 rfl) ?_
            refine lv_iload hx hb dX2_sort_122 (lv_at hl 1 rfl) ?_
            obtain ⟨A4, eA4⟩ : ∃ zz, zz = va_up An 7 (upd (An 7) (f + (n + 1)) (nI tt)) := ⟨_, rfl⟩
            refine pt_iast hx hb hK hP hD hS 5 4 rfl rfl (f + (n + 1)) rfl (by omega) (by decide) (ws' := (pt_mw a c F A4)) (by rw [eA4]; rfl) dX2_sort_124 (fun H locs hP hD hS => ?_)
            refine lv_iinc (v := nI ((f + (m2 + 1)) + 1)) (lv' := [(4, .int (nI ((f + (m2 + 1)) + 1))), (6, .int (nI (f + (n + 1)))), (5, .int (nI tt)), (0, .ref (a 0)), (1, .int (nI f)), (2, .int (nI mn)), (3, .int (nI x))]) hx hb dX2_sort_125 hl (k := 2) rfl (nI_1 _) (by decide) rfl (fun ls hl => ?_)
            refine lv_goto (tgt := 5) hx hb dX2_sort_128 (by decide) ?_
            exact ih (m2 + 1, A4) _ _ _ ⟨by show m2 + 1 + 1 ≤ mn; omega, ⟨by show pt_row N md _ (A4 7); rw [← hod2, eA4, pt_up]; exact pt_row_fill hrn hodt (by omega), fun j hj => by show A4 j = A j; rw [eA4, pt_up_ne hj]; exact hsn j hj⟩, hP, hD, hS, lv_sub hl [0, 3, 4, 5, 6] rfl⟩ (by show mn - (m2 + 1 + 1) < mn - (m2 + 1); omega)
          · have d91 : tt < odn (f + n) := Nat.not_le.mp (fun q => c91 ((nI_leI (by omega) (by omega)).mpr q))
            refine lv_aload_n hx hb dX2_sort_94 rfl (lv_at hl 3 rfl) ?_
            refine va_get (D := (dC, dI)) (ci := 2) (v := .ref (a 7)) (C := RX2) (T := TX2) (N := 27) hx hb hts iw_c_X2_sort_wsX20 hown hK hP 0 rfl rfl 7 (by decide) (hts _ wd_c_X2_sort_X2_sort_0) (fun _ h9 => h9) rfl dX2_sort_95 ?_
            refine lv_iload hx hb dX2_sort_98 (lv_at hl 0 rfl) ?_
            refine lv_aload_n hx hb dX2_sort_100 rfl (lv_at hl 3 rfl) ?_
            refine va_get (D := (dC, dI)) (ci := 2) (v := .ref (a 7)) (C := RX2) (T := TX2) (N := 27) hx hb hts iw_c_X2_sort_wsX20 hown hK hP 0 rfl rfl 7 (by decide) (hts _ wd_c_X2_sort_X2_sort_0) (fun _ h9 => h9) rfl dX2_sort_101 ?_
            refine lv_iload hx hb dX2_sort_104 (lv_at hl 0 rfl) ?_
            refine lv_iconst (v := nI 1) hx hb dX2_sort_106 (by decide) ?_
            refine lv_isub hx hb dX2_sort_107 ?_
            refine pt_top (y := nI (f + n)) (nI_pred (f + n)) ?_
            refine pt_iald hx hb hK hP 5 4 rfl rfl (f + n) rfl (by omega) (by decide) dX2_sort_108 ?_
            refine pt_top (y := nI (odn (f + n))) rb ?_
            obtain ⟨A5, eA5⟩ : ∃ zz, zz = va_up An 7 (upd (An 7) (f + (n + 1)) (nI (odn (f + n)))) := ⟨_, rfl⟩
            refine pt_iast hx hb hK hP hD hS 5 4 rfl rfl (f + (n + 1)) rfl (by omega) (by decide) (ws' := (pt_mw a c F A5)) (by rw [eA5]; rfl) dX2_sort_109 (fun H locs hP hD hS => ?_)
            refine lv_iinc (v := nI (f + n)) (lv' := [(6, .int (nI (f + n))), (5, .int (nI tt)), (4, .int (nI (f + (m2 + 1)))), (0, .ref (a 0)), (1, .int (nI f)), (2, .int (nI mn)), (3, .int (nI x))]) hx hb dX2_sort_110 hl (k := 0) rfl (pk_m1 (f + n)) (by decide) rfl (fun ls hl => ?_)
            refine lv_goto (tgt := 26) hx hb dX2_sort_113 (by decide) ?_
            have d42 : (pt_bf (fun v => A 4 (3 * v + x) + A 5 (3 * v + x))) (odn (f + (n + 1))) (odn (f + n)) := by rw [hodt]; first | exact Or.inl c53 | exact Or.inr ⟨c77.symm, d91⟩
            exact ihn (n, pt_swp odn (f + n), A5) _ _ _ ⟨by show n ≤ m2 + 1; omega, ⟨by show pt_sink _ f n _ = _; rw [← hsk]; exact (pt_if_t d42).symm, by show pt_rowx N md (f + n) _ (A5 7); rw [eA5, pt_up]; exact pt_rowx_mv hrn (by omega), by show pt_swp odn (f + n) (f + n) = tt; rw [pt_swp_at]; exact hodt, fun j hj => by show A5 j = A j; rw [eA5, pt_up_ne hj]; exact hsn j hj⟩, hP, hD, hS, lv_sub hl [0, 1, 2, 3, 4, 5, 6] rfl⟩ (by show n < n + 1; omega)

theorem wd_c_X2_await_X2_await_0 : Cond.fieldLink RX2 48 "PointTreesModel" "waitFrom" "[I" ∈ wsX2_await := by decide +kernel
theorem wd_c_X2_await_X2_await_1 : Cond.fieldLink RX2 109 "PointTreesModel" "waiting" "I" ∈ wsX2_await := by decide +kernel
theorem wd_c_X2_await_X2_await_2 : Cond.fieldLink RX2 51 "PointTreesModel" "waitMany" "[I" ∈ wsX2_await := by decide +kernel
theorem wd_c_X2_await_X2_await_3 : Cond.fieldLink RX2 54 "PointTreesModel" "waitDepth" "[I" ∈ wsX2_await := by decide +kernel
theorem wd_c_X2_await_X2_await_4 : Cond.fieldLink RX2 57 "PointTreesModel" "waitOf" "[I" ∈ wsX2_await := by decide +kernel
theorem iw_c_X2_await_wsX20 : ∀ w ∈ wsX20, w ∈ wsX2_await := fun _ h => List.mem_cons_of_mem _ (List.mem_append_right _ h)
set_option maxHeartbeats 4000000 in
set_option maxRecDepth 100000 in
theorem c_X2_await (l : Launch) (dC : Nat → ClassId) (dI : Nat → Nat → Nat) (a : Nat → Nat) (c : Nat → ClassId) (F : Nat → Int32) (A : Nat → Nat → Int32) (sz : Nat) (wn : Nat) (hW : F 15 = nI wn) (hW64 : wn < 64) (f mn d : Nat) (o : Int32) : Met l yX2_await wsX2_await (pt_rm 0) (pt_W (dC, dI) vwCl (pt_mt c) (pt_mw a c F A) pt_nw sz [.ref (a 0), .int (nI f), .int (nI mn), .int (nI d), .int o]) (va_Qv (fun (u : pt_MS) => u.1 = upd F 15 (nI (wn + 1)) ∧ u.2 16 = upd (A 16) wn (nI f) ∧ u.2 17 = upd (A 17) wn (nI mn) ∧ u.2 18 = upd (A 18) wn (nI d) ∧ u.2 19 = upd (A 19) wn o ∧ ∀ j, j < 16 ∨ 19 < j → u.2 j = A j) (fun u t => va_P (dC, dI) vwCl (pt_mw a c u.1 u.2) t.heap) (va_A (pt_mw a c F A) sz)) 0 0 (va_A (pt_mw a c F A) sz) := by
  refine Met.ofW (cc := cX2_await) (maxL := 5) (ret := none) (by decide) rfl ?_
  intro p e s m args below meth cd s₁ B hml hv
  obtain ⟨rfl, hsz, hP, hK, hN, hD0⟩ := hv
  have hx := B.exec
  have hb := B.bytes
  have hr := B.returns
  have hts := atoms_spec (ws := wsX2_await) B.pre
  have hown : s.vm.findClass RX2 = some m.cls := findClass_of_methodNamed B.named
  have hlocks := B.notSynchronized
  subst hsz
  have hD := hD0.self (sz := s.heap.size)
  generalize hAe : va_A (pt_mw a c F A) s.heap.size = AA at hD ⊢
  have hA : ∀ q : Nat, s.heap.size ≤ q → AA q := fun q h => by rw [← hAe]; exact Or.inr h
  have hS : va_S AA s.heap s.heap [] := va_S.rf
  have hl := lv_entry ([.ref (a 0), .int (nI f), .int (nI mn), .int (nI d), .int o]) (n := 5) (Nat.le_of_ble_eq_true rfl)
  rw [lg_entry_eq]
  generalize (lg_sl ([.ref (a 0), .int (nI f), .int (nI mn), .int (nI d), .int o]) ++ List.replicate (5 - (lg_sl ([.ref (a 0), .int (nI f), .int (nI mn), .int (nI d), .int o])).length) Slot.unset).toArray = ls at hl ⊢
  have hl : lv_has ls 5 [(0, .ref (a 0)), (1, .int (nI f)), (2, .int (nI mn)), (3, .int (nI d)), (4, .int o)] := hl
  refine lv_aload_n hx hb dX2_await_0 rfl (lv_at hl 0 rfl) ?_
  refine va_get (D := (dC, dI)) (ci := 2) (v := .ref (a 16)) (C := RX2) (T := TX2) (N := 27) hx hb hts iw_c_X2_await_wsX20 hown hK hP 0 rfl rfl 16 (by decide) (hts _ wd_c_X2_await_X2_await_0) (fun _ h9 => h9) rfl dX2_await_1 ?_
  refine lv_aload_n hx hb dX2_await_4 rfl (lv_at hl 0 rfl) ?_
  refine va_get (D := (dC, dI)) (ci := 2) (v := .int (F 15)) (C := RX2) (T := TX2) (N := 27) hx hb hts iw_c_X2_await_wsX20 hown hK hP 0 rfl rfl 15 (by decide) (hts _ wd_c_X2_await_X2_await_1) (fun _ h9 => h9) rfl dX2_await_5 ?_
  refine pt_top (y := nI wn) hW ?_
  refine lv_iload_n hx hb dX2_await_8 rfl (lv_at hl 1 rfl) ?_
  obtain ⟨A1, eA1⟩ : ∃ zz, zz = va_up A 16 (upd (A 16) wn (nI f)) := ⟨_, rfl⟩
  refine pt_iast hx hb hK hP hD hS 12 11 rfl rfl wn rfl (by omega) (by decide) (ws' := (pt_mw a c F A1)) (by rw [eA1]; rfl) dX2_await_9 (fun H locs hP hD hS => ?_)
  refine lv_aload_n hx hb dX2_await_10 rfl (lv_at hl 0 rfl) ?_
  refine va_get (D := (dC, dI)) (ci := 2) (v := .ref (a 17)) (C := RX2) (T := TX2) (N := 27) hx hb hts iw_c_X2_await_wsX20 hown hK hP 0 rfl rfl 17 (by decide) (hts _ wd_c_X2_await_X2_await_2) (fun _ h9 => h9) rfl dX2_await_11 ?_
  refine lv_aload_n hx hb dX2_await_14 rfl (lv_at hl 0 rfl) ?_
  refine va_get (D := (dC, dI)) (ci := 2) (v := .int (F 15)) (C := RX2) (T := TX2) (N := 27) hx hb hts iw_c_X2_await_wsX20 hown hK hP 0 rfl rfl 15 (by decide) (hts _ wd_c_X2_await_X2_await_1) (fun _ h9 => h9) rfl dX2_await_15 ?_
  refine pt_top (y := nI wn) hW ?_
  refine lv_iload_n hx hb dX2_await_18 rfl (lv_at hl 2 rfl) ?_
  obtain ⟨A2, eA2⟩ : ∃ zz, zz = va_up A1 17 (upd (A1 17) wn (nI mn)) := ⟨_, rfl⟩
  refine pt_iast hx hb hK hP hD hS 13 12 rfl rfl wn rfl (by omega) (by decide) (ws' := (pt_mw a c F A2)) (by rw [eA2]; rfl) dX2_await_19 (fun H locs hP hD hS => ?_)
  refine lv_aload_n hx hb dX2_await_20 rfl (lv_at hl 0 rfl) ?_
  refine va_get (D := (dC, dI)) (ci := 2) (v := .ref (a 18)) (C := RX2) (T := TX2) (N := 27) hx hb hts iw_c_X2_await_wsX20 hown hK hP 0 rfl rfl 18 (by decide) (hts _ wd_c_X2_await_X2_await_3) (fun _ h9 => h9) rfl dX2_await_21 ?_
  refine lv_aload_n hx hb dX2_await_24 rfl (lv_at hl 0 rfl) ?_
  refine va_get (D := (dC, dI)) (ci := 2) (v := .int (F 15)) (C := RX2) (T := TX2) (N := 27) hx hb hts iw_c_X2_await_wsX20 hown hK hP 0 rfl rfl 15 (by decide) (hts _ wd_c_X2_await_X2_await_1) (fun _ h9 => h9) rfl dX2_await_25 ?_
  refine pt_top (y := nI wn) hW ?_
  refine lv_iload_n hx hb dX2_await_28 rfl (lv_at hl 3 rfl) ?_
  obtain ⟨A3, eA3⟩ : ∃ zz, zz = va_up A2 18 (upd (A2 18) wn (nI d)) := ⟨_, rfl⟩
  refine pt_iast hx hb hK hP hD hS 14 13 rfl rfl wn rfl (by omega) (by decide) (ws' := (pt_mw a c F A3)) (by rw [eA3]; rfl) dX2_await_29 (fun H locs hP hD hS => ?_)
  refine lv_aload_n hx hb dX2_await_30 rfl (lv_at hl 0 rfl) ?_
  refine va_get (D := (dC, dI)) (ci := 2) (v := .ref (a 19)) (C := RX2) (T := TX2) (N := 27) hx hb hts iw_c_X2_await_wsX20 hown hK hP 0 rfl rfl 19 (by decide) (hts _ wd_c_X2_await_X2_await_4) (fun _ h9 => h9) rfl dX2_await_31 ?_
  refine lv_aload_n hx hb dX2_await_34 rfl (lv_at hl 0 rfl) ?_
  refine va_get (D := (dC, dI)) (ci := 2) (v := .int (F 15)) (C := RX2) (T := TX2) (N := 27) hx hb hts iw_c_X2_await_wsX20 hown hK hP 0 rfl rfl 15 (by decide) (hts _ wd_c_X2_await_X2_await_1) (fun _ h9 => h9) rfl dX2_await_35 ?_
  refine pt_top (y := nI wn) hW ?_
  refine lv_iload hx hb dX2_await_38 (lv_at hl 4 rfl) ?_
  obtain ⟨A4, eA4⟩ : ∃ zz, zz = va_up A3 19 (upd (A3 19) wn o) := ⟨_, rfl⟩
  refine pt_iast hx hb hK hP hD hS 15 14 rfl rfl wn rfl (by omega) (by decide) (ws' := (pt_mw a c F A4)) (by rw [eA4]; rfl) dX2_await_40 (fun H locs hP hD hS => ?_)
  refine lv_aload_n hx hb dX2_await_41 rfl (lv_at hl 0 rfl) ?_
  refine lv_dup hx hb dX2_await_42 rfl ?_
  refine va_get (D := (dC, dI)) (ci := 2) (v := .int (F 15)) (C := RX2) (T := TX2) (N := 27) hx hb hts iw_c_X2_await_wsX20 hown hK hP 0 rfl rfl 15 (by decide) (hts _ wd_c_X2_await_X2_await_1) (fun _ h9 => h9) rfl dX2_await_43 ?_
  refine pt_top (y := nI wn) hW ?_
  refine lv_iconst (v := nI 1) hx hb dX2_await_46 (by decide) ?_
  refine lv_iadd hx hb dX2_await_47 ?_
  refine pt_top (y := nI (wn + 1)) (nI_add _ _) ?_
  obtain ⟨F5, eF5⟩ : ∃ zz, zz = upd F 15 (nI (wn + 1)) := ⟨_, rfl⟩
  refine va_put (D := (dC, dI)) (ci := 2) (v := .int (nI (wn + 1))) (ty := .int) (C := RX2) (T := TX2) (N := 27) hx hb hts iw_c_X2_await_wsX20 tyX2 tyX2_ok nmX2 hown hK hP hD hS 0 rfl rfl 15 (by decide) (hts _ wd_c_X2_await_X2_await_1) (fun _ h9 => h9) rfl (by decide +kernel) rfl rfl (Nat.le_of_ble_eq_true rfl) dX2_await_48 (fun H locs hP hD hS => ?_)
  have hP : va_P (dC, dI) vwCl (pt_mw a c F5 A4) H := by rw [eF5]; exact hP
  have hD : va_D AA (pt_mw a c F5 A4) := by rw [eF5]; exact hD
  have kF5_15 : F5 15 = nI (wn + 1) := by rw [eF5, pt_upd]
  exact W.vret hx hb hr (fun zt zh zW => ⟨⟨(F5, A4), rfl, ⟨by show F5 = _; rw [eF5], by show A4 16 = _; rw [eA4, pt_up_ne (by decide), eA3, pt_up_ne (by decide), eA2, pt_up_ne (by decide), eA1, pt_up], by show A4 17 = _; rw [eA4, pt_up_ne (by decide), eA3, pt_up_ne (by decide), eA2, pt_up, eA1, pt_up_ne (by decide)], by show A4 18 = _; rw [eA4, pt_up_ne (by decide), eA3, pt_up, eA2, pt_up_ne (by decide), eA1, pt_up_ne (by decide)], by show A4 19 = _; rw [eA4, pt_up, eA3, pt_up_ne (by decide), eA2, pt_up_ne (by decide), eA1, pt_up_ne (by decide)], fun j hj => by show A4 j = _; rw [eA4, pt_up_ne (by omega), eA3, pt_up_ne (by omega), eA2, pt_up_ne (by omega), eA1, pt_up_ne (by omega)]⟩, by show va_P _ _ _ zt.heap; rw [zh]; exact hP⟩, hS.F zh⟩) hS.2.2 dX2_await_51
