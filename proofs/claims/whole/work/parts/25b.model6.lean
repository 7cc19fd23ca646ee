theorem wd_c_X2_look_X2_look_0 : Cond.fieldLink RX2 7 "PointTreesModel" "axes" "I" ∈ wsX2_look := by decide +kernel
theorem wd_c_X2_look_X2_look_1 : Cond.constant RX2 76 (1000000) ∈ wsX2_look := by decide +kernel
theorem wd_c_X2_look_X2_look_2 : Cond.constant RX2 75 (-1000000) ∈ wsX2_look := by decide +kernel
theorem wd_c_X2_look_X2_look_3 : Cond.constant RX2 112 (2000000) ∈ wsX2_look := by decide +kernel
theorem wd_c_X2_look_X2_look_4 : Cond.constant RX2 113 (-2000000) ∈ wsX2_look := by decide +kernel
theorem wd_c_X2_look_X2_look_5 : Cond.fieldLink RX2 30 "PointTreesModel" "froms" "[I" ∈ wsX2_look := by decide +kernel
theorem wd_c_X2_look_X2_look_6 : Cond.fieldLink RX2 33 "PointTreesModel" "manys" "[I" ∈ wsX2_look := by decide +kernel
theorem wd_c_X2_look_X2_look_7 : Cond.fieldLink RX2 42 "PointTreesModel" "leasts" "[I" ∈ wsX2_look := by decide +kernel
theorem wd_c_X2_look_X2_look_8 : Cond.fieldLink RX2 45 "PointTreesModel" "greatests" "[I" ∈ wsX2_look := by decide +kernel
theorem wd_c_X2_look_X2_look_9 : Cond.fieldLink RX2 27 "PointTreesModel" "row" "[I" ∈ wsX2_look := by decide +kernel
theorem wd_c_X2_look_X2_look_10 : Cond.fieldLink RX2 21 "PointTreesModel" "highs" "[I" ∈ wsX2_look := by decide +kernel
theorem wd_c_X2_look_X2_look_11 : Cond.fieldLink RX2 17 "PointTreesModel" "lows" "[I" ∈ wsX2_look := by decide +kernel
theorem iw_c_X2_look_wsX20 : ∀ w ∈ wsX20, w ∈ wsX2_look := fun _ h => List.mem_cons_of_mem _ (List.mem_append_right _ h)
set_option maxHeartbeats 4000000 in
set_option maxRecDepth 100000 in
theorem c_X2_look (l : Launch) (dC : Nat → ClassId) (dI : Nat → Nat → Nat) (a : Nat → Nat) (c : Nat → ClassId) (F : Nat → Int32) (A : Nat → Nat → Int32) (sz : Nat) (ax : Nat) (h1 : F 1 = nI ax) (hax : ax ≤ 3) (hax1 : 1 ≤ ax) (b f mn N md : Nat) (od : Nat → Nat) (hb1 : b < 64) (h9 : A 9 b = nI f) (h10 : A 10 b = nI mn) (hmn : 0 < mn) (hfN : f + mn ≤ N) (hN64 : N ≤ 64) (hmd : md ≤ 64) (hrow : pt_row N md od (A 7)) (hbd : ∀ v x, v < md → x < ax → pt_bd (A 4 (3 * v + x)) (A 5 (3 * v + x))) : Met l yX2_look wsX2_look (pt_rm 1) (pt_W (dC, dI) vwCl (pt_mt c) (pt_mw a c F A) pt_nw sz [.ref (a 0), .int (nI b)]) (va_Qi (fun (r : Int32) (u : pt_MS) => r = nI (pt_wx ax (fun v x => A 4 (3 * v + x)) (fun v x => A 5 (3 * v + x)) f (f + mn) od) ∧ u.1 = F ∧ (∀ x, x < ax → u.2 13 (3 * b + x) = pt_mn (fun q => A 4 (3 * od q + x)) f (mn - 1) ∧ u.2 14 (3 * b + x) = pt_mx (fun q => A 5 (3 * od q + x)) f (mn - 1)) ∧ (∀ k, k < 3 * b ∨ 3 * b + 3 ≤ k → u.2 13 k = A 13 k ∧ u.2 14 k = A 14 k) ∧ ∀ j, j ≠ 13 → j ≠ 14 → u.2 j = A j) (fun u t => va_P (dC, dI) vwCl (pt_mw a c u.1 u.2) t.heap) (va_A (pt_mw a c F A) sz)) 0 0 (va_A (pt_mw a c F A) sz) := by
  refine Met.ofW (cc := cX2_look) (maxL := 11) (ret := (some .int)) (by decide) rfl ?_
  intro p e s m args below meth cd s₁ B hml hv
  obtain ⟨rfl, hsz, hP, hK, hN, hD0⟩ := hv
  have hx := B.exec
  have hb := B.bytes
  have hr := B.returns
  have hts := atoms_spec (ws := wsX2_look) B.pre
  have hown : s.vm.findClass RX2 = some m.cls := findClass_of_methodNamed B.named
  have hlocks := B.notSynchronized
  subst hsz
  have hD := hD0.self (sz := s.heap.size)
  generalize hAe : va_A (pt_mw a c F A) s.heap.size = AA at hD ⊢
  have hA : ∀ q : Nat, s.heap.size ≤ q → AA q := fun q h => by rw [← hAe]; exact Or.inr h
  have hS : va_S AA s.heap s.heap [] := va_S.rf
  have hl := lv_entry ([.ref (a 0), .int (nI b)]) (n := 11) (Nat.le_of_ble_eq_true rfl)
  rw [lg_entry_eq]
  generalize (lg_sl ([.ref (a 0), .int (nI b)]) ++ List.replicate (11 - (lg_sl ([.ref (a 0), .int (nI b)])).length) Slot.unset).toArray = ls at hl ⊢
  have hl : lv_has ls 11 [(0, .ref (a 0)), (1, .int (nI b))] := hl
  refine lv_iconst (v := nI 0) hx hb dX2_look_0 (by decide) ?_
  refine lv_istore_n (lv' := [(2, .int (nI 0)), (0, .ref (a 0)), (1, .int (nI b))]) hx hb dX2_look_1 rfl hl (by decide) rfl (fun ls hl => ?_)
  refine lv_iconst (v := (-1)) hx hb dX2_look_2 (by decide) ?_
  refine lv_istore_n (lv' := [(3, .int (-1)), (2, .int (nI 0)), (0, .ref (a 0)), (1, .int (nI b))]) hx hb dX2_look_3 rfl hl (by decide) rfl (fun ls hl => ?_)
  refine lv_iconst (v := nI 0) hx hb dX2_look_4 (by decide) ?_
  refine lv_istore (lv' := [(4, .int (nI 0)), (3, .int (-1)), (2, .int (nI 0)), (0, .ref (a 0)), (1, .int (nI b))]) hx hb dX2_look_5 hl (by decide) rfl (fun ls hl => ?_)
  have hsp0 : ¬ (fun x => pt_spr (fun q => A 4 (3 * od q + x) + A 5 (3 * od q + x)) f (f + mn)) 0 ≤ -1 := by
    have hb0 := pt_mnx_b (g := fun q => A 4 (3 * od q + 0) + A 5 (3 * od q + 0)) (f := f) (a := -2000000) (b := 2000000) (f + mn - f - 1) (fun q h1 h2 => pt_bd_s (hbd (od q) 0 (hrow q (by omega)).2 (by omega)))
    exact pt_sub_nn (by omega) (by omega)
  refine pt_loopW (fun q : Nat × (Nat → Nat → Int32) => ax - q.1) (fun q ls H locs => q.1 ≤ ax ∧ ((∀ x, x < q.1 → q.2 13 (3 * b + x) = pt_mn (fun q => A 4 (3 * od q + x)) f (mn - 1) ∧ q.2 14 (3 * b + x) = pt_mx (fun q => A 5 (3 * od q + x)) f (mn - 1)) ∧ (∀ k, k < 3 * b ∨ 3 * b + 3 ≤ k → q.2 13 k = A 13 k ∧ q.2 14 k = A 14 k) ∧ ∀ j, j ≠ 13 → j ≠ 14 → q.2 j = A j) ∧ va_P (dC, dI) vwCl (pt_mw a c F q.2) H ∧ va_D AA (pt_mw a c F q.2) ∧ va_S AA s.heap H locs ∧ lv_has ls 11 [(4, .int (nI q.1)), (3, .int (pt_wv (fun x => pt_spr (fun q => A 4 (3 * od q + x) + A 5 (3 * od q + x)) f (f + mn)) q.1)), (2, .int (nI (pt_wa (fun x => pt_spr (fun q => A 4 (3 * od q + x) + A 5 (3 * od q + x)) f (f + mn)) q.1))), (0, .ref (a 0)), (1, .int (nI b))]) ?_ (0, A) _ _ _ ⟨Nat.zero_le _, ⟨fun x hx => absurd hx (Nat.not_lt_zero _), fun _ _ => ⟨rfl, rfl⟩, fun _ _ _ => rfl⟩, hP, hD, hS, hl⟩
  intro ⟨i, Ai⟩ ls H locs ⟨hi, ⟨hwi, hki, hsi⟩, hP, hD, hS, hl⟩ ih
  dsimp only at hi hwi hki hsi hP hD hl ih
  refine lv_iload hx hb dX2_look_7 (lv_at hl 0 rfl) ?_
  refine lv_aload_n hx hb dX2_look_9 rfl (lv_at hl 3 rfl) ?_
  refine va_get (D := (dC, dI)) (ci := 2) (v := .int (F 1)) (C := RX2) (T := TX2) (N := 27) hx hb hts iw_c_X2_look_wsX20 hown hK hP 0 rfl rfl 1 (by decide) (hts _ wd_c_X2_look_X2_look_0) (fun _ h9 => h9) rfl dX2_look_10 ?_
  refine pt_top (y := nI ax) h1 ?_
  refine lv_icmp_ge (tgt := 268) hx hb dX2_look_13 (by decide) (fun c13 => ?_) (fun c13 => ?_)
  · have hie : i = ax := by have := (nI_leI (by omega) (by omega)).mp c13; omega
    refine lv_iload_n hx hb dX2_look_268 rfl (lv_at hl 2 rfl) ?_
    exact W.iret (v := nI (pt_wa (fun x => pt_spr (fun q => A 4 (3 * od q + x) + A 5 (3 * od q + x)) f (f + mn)) i)) hx hb hr (fun zt zh zW => ⟨⟨_, (F, Ai), rfl, ⟨by rw [hie]; rfl, rfl, fun x hx => hwi x (by omega), hki, hsi⟩, by show va_P _ _ _ zt.heap; rw [zh]; exact hP⟩, hS.F zh⟩) hS.2.2 dX2_look_269
  · have hlt : i < ax := Nat.not_le.mp (fun q => c13 ((nI_leI (by omega) (by omega)).mpr q))
    refine lv_ldc (v := 1000000) hx hb hown (hts _ wd_c_X2_look_X2_look_1) dX2_look_16 ?_
    refine lv_istore (lv' := [(5, .int (1000000)), (4, .int (nI i)), (3, .int (pt_wv (fun x => pt_spr (fun q => A 4 (3 * od q + x) + A 5 (3 * od q + x)) f (f + mn)) i)), (2, .int (nI (pt_wa (fun x => pt_spr (fun q => A 4 (3 * od q + x) + A 5 (3 * od q + x)) f (f + mn)) i))), (0, .ref (a 0)), (1, .int (nI b))]) hx hb dX2_look_18 hl (by decide) rfl (fun ls hl => ?_)
    refine lv_ldc (v := -1000000) hx hb hown (hts _ wd_c_X2_look_X2_look_2) dX2_look_20 ?_
    refine lv_istore (lv' := [(6, .int (-1000000)), (5, .int (1000000)), (4, .int (nI i)), (3, .int (pt_wv (fun x => pt_spr (fun q => A 4 (3 * od q + x) + A 5 (3 * od q + x)) f (f + mn)) i)), (2, .int (nI (pt_wa (fun x => pt_spr (fun q => A 4 (3 * od q + x) + A 5 (3 * od q + x)) f (f + mn)) i))), (0, .ref (a 0)), (1, .int (nI b))]) hx hb dX2_look_22 hl (by decide) rfl (fun ls hl => ?_)
    refine lv_ldc (v := 2000000) hx hb hown (hts _ wd_c_X2_look_X2_look_3) dX2_look_24 ?_
    refine lv_istore (lv' := [(7, .int (2000000)), (6, .int (-1000000)), (5, .int (1000000)), (4, .int (nI i)), (3, .int (pt_wv (fun x => pt_spr (fun q => A 4 (3 * od q + x) + A 5 (3 * od q + x)) f (f + mn)) i)), (2, .int (nI (pt_wa (fun x => pt_spr (fun q => A 4 (3 * od q + x) + A 5 (3 * od q + x)) f (f + mn)) i))), (0, .ref (a 0)), (1, .int (nI b))]) hx hb dX2_look_26 hl (by decide) rfl (fun ls hl => ?_)
    refine lv_ldc (v := -2000000) hx hb hown (hts _ wd_c_X2_look_X2_look_4) dX2_look_28 ?_
    refine lv_istore (lv' := [(8, .int (-2000000)), (7, .int (2000000)), (6, .int (-1000000)), (5, .int (1000000)), (4, .int (nI i)), (3, .int (pt_wv (fun x => pt_spr (fun q => A 4 (3 * od q + x) + A 5 (3 * od q + x)) f (f + mn)) i)), (2, .int (nI (pt_wa (fun x => pt_spr (fun q => A 4 (3 * od q + x) + A 5 (3 * od q + x)) f (f + mn)) i))), (0, .ref (a 0)), (1, .int (nI b))]) hx hb dX2_look_30 hl (by decide) rfl (fun ls hl => ?_)
    refine lv_aload_n hx hb dX2_look_32 rfl (lv_at hl 7 rfl) ?_
    refine va_get (D := (dC, dI)) (ci := 2) (v := .ref (a 9)) (C := RX2) (T := TX2) (N := 27) hx hb hts iw_c_X2_look_wsX20 hown hK hP 0 rfl rfl 9 (by decide) (hts _ wd_c_X2_look_X2_look_5) (fun _ h9 => h9) rfl dX2_look_33 ?_
    refine lv_iload_n hx hb dX2_look_36 rfl (lv_at hl 8 rfl) ?_
    refine pt_iald hx hb hK hP 6 5 rfl rfl b rfl (by omega) (by decide) dX2_look_37 ?_
    refine pt_top (y := nI f) (by rw [hsi 9 (by decide) (by decide)]; exact h9) ?_
    refine lv_istore (lv' := [(9, .int (nI f)), (8, .int (-2000000)), (7, .int (2000000)), (6, .int (-1000000)), (5, .int (1000000)), (4, .int (nI i)), (3, .int (pt_wv (fun x => pt_spr (fun q => A 4 (3 * od q + x) + A 5 (3 * od q + x)) f (f + mn)) i)), (2, .int (nI (pt_wa (fun x => pt_spr (fun q => A 4 (3 * od q + x) + A 5 (3 * od q + x)) f (f + mn)) i))), (0, .ref (a 0)), (1, .int (nI b))]) hx hb dX2_look_38 hl (by decide) rfl (fun ls hl => ?_)
    refine pt_loopR (fun k : Nat => mn - k) (fun k ls => k ≤ mn ∧ lv_has ls 11 [(9, .int (nI (f + k))), (8, .int (pt_mx0 (fun q => A 4 (3 * od q + i) + A 5 (3 * od q + i)) (-2000000) f k)), (7, .int (pt_mn0 (fun q => A 4 (3 * od q + i) + A 5 (3 * od q + i)) 2000000 f k)), (6, .int (pt_mx0 (fun q => A 5 (3 * od q + i)) (-1000000) f k)), (5, .int (pt_mn0 (fun q => A 4 (3 * od q + i)) 1000000 f k)), (4, .int (nI i)), (3, .int (pt_wv (fun x => pt_spr (fun q => A 4 (3 * od q + x) + A 5 (3 * od q + x)) f (f + mn)) i)), (2, .int (nI (pt_wa (fun x => pt_spr (fun q => A 4 (3 * od q + x) + A 5 (3 * od q + x)) f (f + mn)) i))), (0, .ref (a 0)), (1, .int (nI b))]) ?_ 0 _ ⟨Nat.zero_le _, lv_sub hl [0, 1, 2, 3, 4, 5, 6, 7, 8, 9] rfl⟩
    intro k ls ⟨hk, hl⟩ ihk
    refine lv_iload hx hb dX2_look_40 (lv_at hl 0 rfl) ?_
    refine lv_aload_n hx hb dX2_look_42 rfl (lv_at hl 8 rfl) ?_
    refine va_get (D := (dC, dI)) (ci := 2) (v := .ref (a 9)) (C := RX2) (T := TX2) (N := 27) hx hb hts iw_c_X2_look_wsX20 hown hK hP 0 rfl rfl 9 (by decide) (hts _ wd_c_X2_look_X2_look_5) (fun _ h9 => h9) rfl dX2_look_43 ?_
    refine lv_iload_n hx hb dX2_look_46 rfl (lv_at hl 9 rfl) ?_
    refine pt_iald hx hb hK hP 6 5 rfl rfl b rfl (by omega) (by decide) dX2_look_47 ?_
    refine pt_top (y := nI f) (by rw [hsi 9 (by decide) (by decide)]; exact h9) ?_
    refine lv_aload_n hx hb dX2_look_48 rfl (lv_at hl 8 rfl) ?_
    refine va_get (D := (dC, dI)) (ci := 2) (v := .ref (a 10)) (C := RX2) (T := TX2) (N := 27) hx hb hts iw_c_X2_look_wsX20 hown hK hP 0 rfl rfl 10 (by decide) (hts _ wd_c_X2_look_X2_look_6) (fun _ h9 => h9) rfl dX2_look_49 ?_
    refine lv_iload_n hx hb dX2_look_52 rfl (lv_at hl 9 rfl) ?_
    refine pt_iald hx hb hK hP 7 6 rfl rfl b rfl (by omega) (by decide) dX2_look_53 ?_
    refine pt_top (y := nI mn) (by rw [hsi 10 (by decide) (by decide)]; exact h10) ?_
    refine lv_iadd hx hb dX2_look_54 ?_
    refine pt_top (y := nI (f + mn)) (nI_add _ _) ?_
    refine lv_icmp_ge (tgt := 201) hx hb dX2_look_55 (by decide) (fun c55 => ?_) (fun c55 => ?_)
    · have hke : k = mn := by have := (nI_leI (by omega) (by omega)).mp c55; omega
      have hbf := hbd (od f) i (hrow f (by omega)).2 hlt
      have hbs := pt_bd_s hbf
      obtain ⟨m1, em1⟩ : ∃ zz, mn = zz + 1 := ⟨mn - 1, by omega⟩
      have x5 : pt_mn0 (fun q => A 4 (3 * od q + i)) 1000000 f mn = pt_mn (fun q => A 4 (3 * od q + i)) f (mn - 1) := by rw [em1]; exact pt_mn0_e (g := (fun q => A 4 (3 * od q + i))) (Int32.le_trans hbf.2.1 hbf.2.2) m1
      have x6 : pt_mx0 (fun q => A 5 (3 * od q + i)) (-1000000) f mn = pt_mx (fun q => A 5 (3 * od q + i)) f (mn - 1) := by rw [em1]; exact pt_mx0_e (g := (fun q => A 5 (3 * od q + i))) (Int32.le_trans hbf.1 hbf.2.1) m1
      have x7 : pt_mn0 (fun q => A 4 (3 * od q + i) + A 5 (3 * od q + i)) 2000000 f mn = pt_mn (fun q => A 4 (3 * od q + i) + A 5 (3 * od q + i)) f (mn - 1) := by rw [em1]; exact pt_mn0_e (g := (fun q => A 4 (3 * od q + i) + A 5 (3 * od q + i))) (Int32.le_iff_toInt_le.mpr (by rw [show (2000000 : Int32).toInt = 2000000 by decide +kernel]; exact hbs.2)) m1
      have x8 : pt_mx0 (fun q => A 4 (3 * od q + i) + A 5 (3 * od q + i)) (-2000000) f mn = pt_mx (fun q => A 4 (3 * od q + i) + A 5 (3 * od q + i)) f (mn - 1) := by rw [em1]; exact pt_mx0_e (g := (fun q => A 4 (3 * od q + i) + A 5 (3 * od q + i))) (Int32.le_iff_toInt_le.mpr (by rw [show (-2000000 : Int32).toInt = -2000000 by decide +kernel]; exact hbs.1)) m1
      rw [hke, x5, x6, x7, x8] at hl
      refine lv_aload_n hx hb dX2_look_201 rfl (lv_at hl 8 rfl) ?_
      refine va_get (D := (dC, dI)) (ci := 2) (v := .ref (a 13)) (C := RX2) (T := TX2) (N := 27) hx hb hts iw_c_X2_look_wsX20 hown hK hP 0 rfl rfl 13 (by decide) (hts _ wd_c_X2_look_X2_look_7) (fun _ h9 => h9) rfl dX2_look_202 ?_
      refine lv_iconst (v := nI 3) hx hb dX2_look_205 (by decide) ?_
      refine lv_iload_n hx hb dX2_look_206 rfl (lv_at hl 9 rfl) ?_
      refine lv_imul hx hb dX2_look_207 ?_
      refine pt_top (y := nI (3 * b)) (pk_mul _ _) ?_
      refine lv_iload hx hb dX2_look_208 (lv_at hl 5 rfl) ?_
      refine lv_iadd hx hb dX2_look_210 ?_
      refine pt_top (y := nI ((3 * b) + i)) (nI_add _ _) ?_
      refine lv_iload hx hb dX2_look_211 (lv_at hl 4 rfl) ?_
      obtain ⟨A1, eA1⟩ : ∃ zz, zz = va_up Ai 13 (upd (Ai 13) ((3 * b) + i) (pt_mn (fun q => A 4 (3 * od q + i)) f (mn - 1))) := ⟨_, rfl⟩
      refine pt_iast hx hb hK hP hD hS 10 9 rfl rfl ((3 * b) + i) rfl (by omega) (by decide) (ws' := (pt_mw a c F A1)) (by rw [eA1]; rfl) dX2_look_213 (fun H locs hP hD hS => ?_)
      refine lv_aload_n hx hb dX2_look_214 rfl (lv_at hl 8 rfl) ?_
      refine va_get (D := (dC, dI)) (ci := 2) (v := .ref (a 14)) (C := RX2) (T := TX2) (N := 27) hx hb hts iw_c_X2_look_wsX20 hown hK hP 0 rfl rfl 14 (by decide) (hts _ wd_c_X2_look_X2_look_8) (fun _ h9 => h9) rfl dX2_look_215 ?_
      refine lv_iconst (v := nI 3) hx hb dX2_look_218 (by decide) ?_
      refine lv_iload_n hx hb dX2_look_219 rfl (lv_at hl 9 rfl) ?_
      refine lv_imul hx hb dX2_look_220 ?_
      refine pt_top (y := nI (3 * b)) (pk_mul _ _) ?_
      refine lv_iload hx hb dX2_look_221 (lv_at hl 5 rfl) ?_
      refine lv_iadd hx hb dX2_look_223 ?_
      refine pt_top (y := nI ((3 * b) + i)) (nI_add _ _) ?_
      refine lv_iload hx hb dX2_look_224 (lv_at hl 3 rfl) ?_
      obtain ⟨A2, eA2⟩ : ∃ zz, zz = va_up A1 14 (upd (A1 14) ((3 * b) + i) (pt_mx (fun q => A 5 (3 * od q + i)) f (mn - 1))) := ⟨_, rfl⟩
      refine pt_iast hx hb hK hP hD hS 11 10 rfl rfl ((3 * b) + i) rfl (by omega) (by decide) (ws' := (pt_mw a c F A2)) (by rw [eA2]; rfl) dX2_look_226 (fun H locs hP hD hS => ?_)
      refine pt_cut 242 (fun v => v = nI (pt_wa (fun x => pt_spr (fun q => A 4 (3 * od q + x) + A 5 (3 * od q + x)) f (f + mn)) (i + 1))) (rest := []) (fun v227 hv227 => ?_) (fun J227 => ?_)
      · subst hv227
        refine lv_istore_n (lv' := [(2, .int (nI (pt_wa (fun x => pt_spr (fun q => A 4 (3 * od q + x) + A 5 (3 * od q + x)) f (f + mn)) (i + 1)))), (9, .int (nI (f + mn))), (8, .int (pt_mx (fun q => A 4 (3 * od q + i) + A 5 (3 * od q + i)) f (mn - 1))), (7, .int (pt_mn (fun q => A 4 (3 * od q + i) + A 5 (3 * od q + i)) f (mn - 1))), (6, .int (pt_mx (fun q => A 5 (3 * od q + i)) f (mn - 1))), (5, .int (pt_mn (fun q => A 4 (3 * od q + i)) f (mn - 1))), (4, .int (nI i)), (3, .int (pt_wv (fun x => pt_spr (fun q => A 4 (3 * od q + x) + A 5 (3 * od q + x)) f (f + mn)) i)), (0, .ref (a 0)), (1, .int (nI b))]) hx hb dX2_look_242 rfl hl (by decide) rfl (fun ls hl => ?_)
        refine pt_cut 261 (fun v => v = pt_wv (fun x => pt_spr (fun q => A 4 (3 * od q + x) + A 5 (3 * od q + x)) f (f + mn)) (i + 1)) (rest := []) (fun v243 hv243 => ?_) (fun J243 => ?_)
        · subst hv243
          refine lv_istore_n (lv' := [(3, .int (pt_wv (fun x => pt_spr (fun q => A 4 (3 * od q + x) + A 5 (3 * od q + x)) f (f + mn)) (i + 1))), (2, .int (nI (pt_wa (fun x => pt_spr (fun q => A 4 (3 * od q + x) + A 5 (3 * od q + x)) f (f + mn)) (i + 1)))), (9, .int (nI (f + mn))), (8, .int (pt_mx (fun q => A 4 (3 * od q + i) + A 5 (3 * od q + i)) f (mn - 1))), (7, .int (pt_mn (fun q => A 4 (3 * od q + i) + A 5 (3 * od q + i)) f (mn - 1))), (6, .int (pt_mx (fun q => A 5 (3 * od q + i)) f (mn - 1))), (5, .int (pt_mn (fun q => A 4 (3 * od q + i)) f (mn - 1))), (4, .int (nI i)), (0, .ref (a 0)), (1, .int (nI b))]) hx hb dX2_look_261 rfl hl (by decide) rfl (fun ls hl => ?_)
          refine lv_iinc (v := nI (i + 1)) (lv' := [(4, .int (nI (i + 1))), (3, .int (pt_wv (fun x => pt_spr (fun q => A 4 (3 * od q + x) + A 5 (3 * od q + x)) f (f + mn)) (i + 1))), (2, .int (nI (pt_wa (fun x => pt_spr (fun q => A 4 (3 * od q + x) + A 5 (3 * od q + x)) f (f + mn)) (i + 1)))), (9, .int (nI (f + mn))), (8, .int (pt_mx (fun q => A 4 (3 * od q + i) + A 5 (3 * od q + i)) f (mn - 1))), (7, .int (pt_mn (fun q => A 4 (3 * od q + i) + A 5 (3 * od q + i)) f (mn - 1))), (6, .int (pt_mx (fun q => A 5 (3 * od q + i)) f (mn - 1))), (5, .int (pt_mn (fun q => A 4 (3 * od q + i)) f (mn - 1))), (0, .ref (a 0)), (1, .int (nI b))]) hx hb dX2_look_262 hl (k := 7) rfl (nI_1 _) (by decide) rfl (fun ls hl => ?_)
          refine lv_goto (tgt := 7) hx hb dX2_look_265 (by decide) ?_
          have e13 : A2 13 = upd (Ai 13) (3 * b + i) (pt_mn (fun q => A 4 (3 * od q + i)) f (mn - 1)) := by rw [eA2, pt_up_ne (by decide), eA1, pt_up]
          have e14 : A2 14 = upd (Ai 14) (3 * b + i) (pt_mx (fun q => A 5 (3 * od q + i)) f (mn - 1)) := by rw [eA2, pt_up, eA1, pt_up_ne (by decide)]
          exact ih (i + 1, A2) _ _ _ ⟨by show i + 1 ≤ ax; omega, ⟨fun z hz => by show A2 13 _ = _ ∧ A2 14 _ = _; rw [e13, e14]; exact pt_put_s (g := fun x => pt_mn (fun q => A 4 (3 * od q + x)) f (mn - 1)) (g2 := fun x => pt_mx (fun q => A 5 (3 * od q + x)) f (mn - 1)) hwi rfl rfl z hz, fun k hk => by show A2 13 k = _ ∧ A2 14 k = _; rw [e13, e14, pt_upd_ne (by omega), pt_upd_ne (by omega)]; exact hki k hk, fun j j1 j2 => by show A2 j = _; rw [eA2, pt_up_ne j2, eA1, pt_up_ne j1]; exact hsi j j1 j2⟩, hP, hD, hS, lv_sub hl [0, 1, 2, 8, 9] rfl⟩ (by show ax - (i + 1) < ax - i; omega)
        · refine lv_iload hx hb dX2_look_243 (lv_at hl 2 rfl) ?_
          refine lv_iload hx hb dX2_look_245 (lv_at hl 3 rfl) ?_
          refine lv_isub hx hb dX2_look_247 ?_
          refine pt_top (y := (fun x => pt_spr (fun q => A 4 (3 * od q + x) + A 5 (3 * od q + x)) f (f + mn)) i) (by show _ = pt_spr _ f (f + mn); unfold pt_spr; rw [show f + mn - f - 1 = mn - 1 by omega]) ?_
          refine lv_iload_n hx hb dX2_look_248 rfl (lv_at hl 7 rfl) ?_
          refine lv_icmp_le (tgt := 260) hx hb dX2_look_249 (by decide) (fun c249 => ?_) (fun c249 => ?_)
          · refine lv_iload_n hx hb dX2_look_260 rfl (lv_at hl 7 rfl) ?_
            exact J243 _ (by first | exact (pt_wa_take c249).2.symm | exact (pt_wa_keep hsp0 c249).2.symm)
          · refine lv_iload hx hb dX2_look_252 (lv_at hl 2 rfl) ?_
            refine lv_iload hx hb dX2_look_254 (lv_at hl 3 rfl) ?_
            refine lv_isub hx hb dX2_look_256 ?_
            refine pt_top (y := (fun x => pt_spr (fun q => A 4 (3 * od q + x) + A 5 (3 * od q + x)) f (f + mn)) i) (by show _ = pt_spr _ f (f + mn); unfold pt_spr; rw [show f + mn - f - 1 = mn - 1 by omega]) ?_
            refine lv_goto (tgt := 261) hx hb dX2_look_257 (by decide) ?_
            exact J243 _ (by first | exact (pt_wa_take c249).2.symm | exact (pt_wa_keep hsp0 c249).2.symm)
      · refine lv_iload hx hb dX2_look_227 (lv_at hl 1 rfl) ?_
        refine lv_iload hx hb dX2_look_229 (lv_at hl 2 rfl) ?_
        refine lv_isub hx hb dX2_look_231 ?_
        refine pt_top (y := (fun x => pt_spr (fun q => A 4 (3 * od q + x) + A 5 (3 * od q + x)) f (f + mn)) i) (by show _ = pt_spr _ f (f + mn); unfold pt_spr; rw [show f + mn - f - 1 = mn - 1 by omega]) ?_
        refine lv_iload_n hx hb dX2_look_232 rfl (lv_at hl 6 rfl) ?_
        refine lv_icmp_le (tgt := 241) hx hb dX2_look_233 (by decide) (fun c233 => ?_) (fun c233 => ?_)
        · refine lv_iload_n hx hb dX2_look_241 rfl (lv_at hl 7 rfl) ?_
          exact J227 _ (by first | exact congrArg nI (pt_wa_take c233).1.symm | exact congrArg nI (pt_wa_keep hsp0 c233).1.symm)
        · refine lv_iload hx hb dX2_look_236 (lv_at hl 5 rfl) ?_
          refine lv_goto (tgt := 242) hx hb dX2_look_238 (by decide) ?_
          exact J227 _ (by first | exact congrArg nI (pt_wa_take c233).1.symm | exact congrArg nI (pt_wa_keep hsp0 c233).1.symm)
    · have hkl : k < mn := by have : ¬ f + mn ≤ f + k := fun q => c55 ((nI_leI (by omega) (by omega)).mpr q); omega
      have hro := hrow (f + k) (by omega)
      have hro2 := hro.2
      refine lv_aload_n hx hb dX2_look_58 rfl (lv_at hl 8 rfl) ?_
      refine va_get (D := (dC, dI)) (ci := 2) (v := .ref (a 7)) (C := RX2) (T := TX2) (N := 27) hx hb hts iw_c_X2_look_wsX20 hown hK hP 0 rfl rfl 7 (by decide) (hts _ wd_c_X2_look_X2_look_9) (fun _ h9 => h9) rfl dX2_look_59 ?_
      refine lv_iload hx hb dX2_look_62 (lv_at hl 0 rfl) ?_
      refine pt_iald hx hb hK hP 5 4 rfl rfl (f + k) rfl (by omega) (by decide) dX2_look_64 ?_
      refine pt_top (y := nI (od (f + k))) (by rw [hsi 7 (by decide) (by decide)]; exact hro.1) ?_
      refine lv_istore (lv' := [(10, .int (nI (od (f + k)))), (9, .int (nI (f + k))), (8, .int (pt_mx0 (fun q => A 4 (3 * od q + i) + A 5 (3 * od q + i)) (-2000000) f k)), (7, .int (pt_mn0 (fun q => A 4 (3 * od q + i) + A 5 (3 * od q + i)) 2000000 f k)), (6, .int (pt_mx0 (fun q => A 5 (3 * od q + i)) (-1000000) f k)), (5, .int (pt_mn0 (fun q => A 4 (3 * od q + i)) 1000000 f k)), (4, .int (nI i)), (3, .int (pt_wv (fun x => pt_spr (fun q => A 4 (3 * od q + x) + A 5 (3 * od q + x)) f (f + mn)) i)), (2, .int (nI (pt_wa (fun x => pt_spr (fun q => A 4 (3 * od q + x) + A 5 (3 * od q + x)) f (f + mn)) i))), (0, .ref (a 0)), (1, .int (nI b))]) hx hb dX2_look_65 hl (by decide) rfl (fun ls hl => ?_)
      refine pt_cut 101 (fun v => v = pt_mn0 (fun q => A 4 (3 * od q + i)) 1000000 f (k + 1)) (rest := []) (fun v67 hv67 => ?_) (fun J67 => ?_)
      · subst hv67
        refine lv_istore (lv' := [(5, .int (pt_mn0 (fun q => A 4 (3 * od q + i)) 1000000 f (k + 1))), (10, .int (nI (od (f + k)))), (9, .int (nI (f + k))), (8, .int (pt_mx0 (fun q => A 4 (3 * od q + i) + A 5 (3 * od q + i)) (-2000000) f k)), (7, .int (pt_mn0 (fun q => A 4 (3 * od q + i) + A 5 (3 * od q + i)) 2000000 f k)), (6, .int (pt_mx0 (fun q => A 5 (3 * od q + i)) (-1000000) f k)), (4, .int (nI i)), (3, .int (pt_wv (fun x => pt_spr (fun q => A 4 (3 * od q + x) + A 5 (3 * od q + x)) f (f + mn)) i)), (2, .int (nI (pt_wa (fun x => pt_spr (fun q => A 4 (3 * od q + x) + A 5 (3 * od q + x)) f (f + mn)) i))), (0, .ref (a 0)), (1, .int (nI b))]) hx hb dX2_look_101 hl (by decide) rfl (fun ls hl => ?_)
        refine pt_cut 137 (fun v => v = pt_mx0 (fun q => A 5 (3 * od q + i)) (-1000000) f (k + 1)) (rest := []) (fun v103 hv103 => ?_) (fun J103 => ?_)
        · subst hv103
          refine lv_istore (lv' := [(6, .int (pt_mx0 (fun q => A 5 (3 * od q + i)) (-1000000) f (k + 1))), (5, .int (pt_mn0 (fun q => A 4 (3 * od q + i)) 1000000 f (k + 1))), (10, .int (nI (od (f + k)))), (9, .int (nI (f + k))), (8, .int (pt_mx0 (fun q => A 4 (3 * od q + i) + A 5 (3 * od q + i)) (-2000000) f k)), (7, .int (pt_mn0 (fun q => A 4 (3 * od q + i) + A 5 (3 * od q + i)) 2000000 f k)), (4, .int (nI i)), (3, .int (pt_wv (fun x => pt_spr (fun q => A 4 (3 * od q + x) + A 5 (3 * od q + x)) f (f + mn)) i)), (2, .int (nI (pt_wa (fun x => pt_spr (fun q => A 4 (3 * od q + x) + A 5 (3 * od q + x)) f (f + mn)) i))), (0, .ref (a 0)), (1, .int (nI b))]) hx hb dX2_look_137 hl (by decide) rfl (fun ls hl => ?_)
          refine pt_cut 165 (fun v => v = pt_mn0 (fun q => A 4 (3 * od q + i) + A 5 (3 * od q + i)) 2000000 f (k + 1)) (rest := []) (fun v139 hv139 => ?_) (fun J139 => ?_)
          · subst hv139
            refine lv_istore (lv' := [(7, .int (pt_mn0 (fun q => A 4 (3 * od q + i) + A 5 (3 * od q + i)) 2000000 f (k + 1))), (6, .int (pt_mx0 (fun q => A 5 (3 * od q + i)) (-1000000) f (k + 1))), (5, .int (pt_mn0 (fun q => A 4 (3 * od q + i)) 1000000 f (k + 1))), (10, .int (nI (od (f + k)))), (9, .int (nI (f + k))), (8, .int (pt_mx0 (fun q => A 4 (3 * od q + i) + A 5 (3 * od q + i)) (-2000000) f k)), (4, .int (nI i)), (3, .int (pt_wv (fun x => pt_spr (fun q => A 4 (3 * od q + x) + A 5 (3 * od q + x)) f (f + mn)) i)), (2, .int (nI (pt_wa (fun x => pt_spr (fun q => A 4 (3 * od q + x) + A 5 (3 * od q + x)) f (f + mn)) i))), (0, .ref (a 0)), (1, .int (nI b))]) hx hb dX2_look_165 hl (by decide) rfl (fun ls hl => ?_)
            refine pt_cut 193 (fun v => v = pt_mx0 (fun q => A 4 (3 * od q + i) + A 5 (3 * od q + i)) (-2000000) f (k + 1)) (rest := []) (fun v167 hv167 => ?_) (fun J167 => ?_)
            · subst hv167
              refine lv_istore (lv' := [(8, .int (pt_mx0 (fun q => A 4 (3 * od q + i) + A 5 (3 * od q + i)) (-2000000) f (k + 1))), (7, .int (pt_mn0 (fun q => A 4 (3 * od q + i) + A 5 (3 * od q + i)) 2000000 f (k + 1))), (6, .int (pt_mx0 (fun q => A 5 (3 * od q + i)) (-1000000) f (k + 1))), (5, .int (pt_mn0 (fun q => A 4 (3 * od q + i)) 1000000 f (k + 1))), (10, .int (nI (od (f + k)))), (9, .int (nI (f + k))), (4, .int (nI i)), (3, .int (pt_wv (fun x => pt_spr (fun q => A 4 (3 * od q + x) + A 5 (3 * od q + x)) f (f + mn)) i)), (2, .int (nI (pt_wa (fun x => pt_spr (fun q => A 4 (3 * od q + x) + A 5 (3 * od q + x)) f (f + mn)) i))), (0, .ref (a 0)), (1, .int (nI b))]) hx hb dX2_look_193 hl (by decide) rfl (fun ls hl => ?_)
              refine lv_iinc (v := nI ((f + k) + 1)) (lv' := [(9, .int (nI ((f + k) + 1))), (8, .int (pt_mx0 (fun q => A 4 (3 * od q + i) + A 5 (3 * od q + i)) (-2000000) f (k + 1))), (7, .int (pt_mn0 (fun q => A 4 (3 * od q + i) + A 5 (3 * od q + i)) 2000000 f (k + 1))), (6, .int (pt_mx0 (fun q => A 5 (3 * od q + i)) (-1000000) f (k + 1))), (5, .int (pt_mn0 (fun q => A 4 (3 * od q + i)) 1000000 f (k + 1))), (10, .int (nI (od (f + k)))), (4, .int (nI i)), (3, .int (pt_wv (fun x => pt_spr (fun q => A 4 (3 * od q + x) + A 5 (3 * od q + x)) f (f + mn)) i)), (2, .int (nI (pt_wa (fun x => pt_spr (fun q => A 4 (3 * od q + x) + A 5 (3 * od q + x)) f (f + mn)) i))), (0, .ref (a 0)), (1, .int (nI b))]) hx hb dX2_look_195 hl (k := 5) rfl (nI_1 _) (by decide) rfl (fun ls hl => ?_)
              refine lv_goto (tgt := 40) hx hb dX2_look_198 (by decide) ?_
              exact ihk (k + 1) _ ⟨by omega, lv_sub hl [0, 1, 2, 3, 4, 6, 7, 8, 9, 10] rfl⟩ (by omega)
            · refine lv_aload_n hx hb dX2_look_167 rfl (lv_at hl 9 rfl) ?_
              refine lv_iload hx hb dX2_look_168 (lv_at hl 3 rfl) ?_
              refine lv_iload hx hb dX2_look_170 (lv_at hl 6 rfl) ?_
              refine pt_rdi (va_runV (As := [.int (nI (od (f + k))), .int (nI i)]) (rest := []) ⟨hx, hb, hml, hown, hts⟩ (c_X2_sum l dC dI a c F Ai (od (f + k)) i (by omega)) (cwV 2 hts gX2_look_X2_sum rfl rfl rfl (by decide +kernel) ⟨Nat.le_of_ble_eq_true rfl, Nat.le_of_ble_eq_true rfl⟩) (pt_pv2 hP hK hN (q0 := 0) rfl) rfl rfl hl.1 rfl (lv_room (Nat.le_of_ble_eq_true rfl)) dX2_look_172 ⟨Nat.le_of_ble_eq_true rfl, Nat.le_of_ble_eq_true rfl⟩) (fun r172 hr172 => ?_)
              refine pt_top (y := (A 4 (3 * od (f + k) + i) + A 5 (3 * od (f + k) + i))) (hr172.trans (by rw [hsi 4 (by decide) (by decide), hsi 5 (by decide) (by decide)])) ?_
              refine lv_iload hx hb dX2_look_175 (lv_at hl 5 rfl) ?_
              refine lv_icmp_le (tgt := 191) hx hb dX2_look_177 (by decide) (fun c177 => ?_) (fun c177 => ?_)
              · refine lv_iload hx hb dX2_look_191 (lv_at hl 5 rfl) ?_
                exact J167 _ (by show _ = (if _ then _ else _); first | (rw [if_pos (Int32.not_le.mp c177)]; done) | (rw [if_neg (Int32.not_lt.mpr c177)]; done))
              · refine lv_aload_n hx hb dX2_look_180 rfl (lv_at hl 9 rfl) ?_
                refine lv_iload hx hb dX2_look_181 (lv_at hl 3 rfl) ?_
                refine lv_iload hx hb dX2_look_183 (lv_at hl 6 rfl) ?_
                refine pt_rdi (va_runV (As := [.int (nI (od (f + k))), .int (nI i)]) (rest := []) ⟨hx, hb, hml, hown, hts⟩ (c_X2_sum l dC dI a c F Ai (od (f + k)) i (by omega)) (cwV 2 hts gX2_look_X2_sum rfl rfl rfl (by decide +kernel) ⟨Nat.le_of_ble_eq_true rfl, Nat.le_of_ble_eq_true rfl⟩) (pt_pv2 hP hK hN (q0 := 0) rfl) rfl rfl hl.1 rfl (lv_room (Nat.le_of_ble_eq_true rfl)) dX2_look_185 ⟨Nat.le_of_ble_eq_true rfl, Nat.le_of_ble_eq_true rfl⟩) (fun r185 hr185 => ?_)
                refine pt_top (y := (A 4 (3 * od (f + k) + i) + A 5 (3 * od (f + k) + i))) (hr185.trans (by rw [hsi 4 (by decide) (by decide), hsi 5 (by decide) (by decide)])) ?_
                refine lv_goto (tgt := 193) hx hb dX2_look_188 (by decide) ?_
                exact J167 _ (by show _ = (if _ then _ else _); first | (rw [if_pos (Int32.not_le.mp c177)]; done) | (rw [if_neg (Int32.not_lt.mpr c177)]; done))
          · refine lv_aload_n hx hb dX2_look_139 rfl (lv_at hl 9 rfl) ?_
            refine lv_iload hx hb dX2_look_140 (lv_at hl 2 rfl) ?_
            refine lv_iload hx hb dX2_look_142 (lv_at hl 6 rfl) ?_
            refine pt_rdi (va_runV (As := [.int (nI (od (f + k))), .int (nI i)]) (rest := []) ⟨hx, hb, hml, hown, hts⟩ (c_X2_sum l dC dI a c F Ai (od (f + k)) i (by omega)) (cwV 2 hts gX2_look_X2_sum rfl rfl rfl (by decide +kernel) ⟨Nat.le_of_ble_eq_true rfl, Nat.le_of_ble_eq_true rfl⟩) (pt_pv2 hP hK hN (q0 := 0) rfl) rfl rfl hl.1 rfl (lv_room (Nat.le_of_ble_eq_true rfl)) dX2_look_144 ⟨Nat.le_of_ble_eq_true rfl, Nat.le_of_ble_eq_true rfl⟩) (fun r144 hr144 => ?_)
            refine pt_top (y := (A 4 (3 * od (f + k) + i) + A 5 (3 * od (f + k) + i))) (hr144.trans (by rw [hsi 4 (by decide) (by decide), hsi 5 (by decide) (by decide)])) ?_
            refine lv_iload hx hb dX2_look_147 (lv_at hl 5 rfl) ?_
            refine lv_icmp_ge (tgt := 163) hx hb dX2_look_149 (by decide) (fun c149 => ?_) (fun c149 => ?_)
            · refine lv_iload hx hb dX2_look_163 (lv_at hl 5 rfl) ?_
              exact J139 _ (by show _ = (if _ then _ else _); first | (rw [if_pos (Int32.not_le.mp c149)]; done) | (rw [if_neg (Int32.not_lt.mpr c149)]; done))
            · refine lv_aload_n hx hb dX2_look_152 rfl (lv_at hl 9 rfl) ?_
              refine lv_iload hx hb dX2_look_153 (lv_at hl 2 rfl) ?_
              refine lv_iload hx hb dX2_look_155 (lv_at hl 6 rfl) ?_
              refine pt_rdi (va_runV (As := [.int (nI (od (f + k))), .int (nI i)]) (rest := []) ⟨hx, hb, hml, hown, hts⟩ (c_X2_sum l dC dI a c F Ai (od (f + k)) i (by omega)) (cwV 2 hts gX2_look_X2_sum rfl rfl rfl (by decide +kernel) ⟨Nat.le_of_ble_eq_true rfl, Nat.le_of_ble_eq_true rfl⟩) (pt_pv2 hP hK hN (q0 := 0) rfl) rfl rfl hl.1 rfl (lv_room (Nat.le_of_ble_eq_true rfl)) dX2_look_157 ⟨Nat.le_of_ble_eq_true rfl, Nat.le_of_ble_eq_true rfl⟩) (fun r157 hr157 => ?_)
              refine pt_top (y := (A 4 (3 * od (f + k) + i) + A 5 (3 * od (f + k) + i))) (hr157.trans (by rw [hsi 4 (by decide) (by decide), hsi 5 (by decide) (by decide)])) ?_
              refine lv_goto (tgt := 165) hx hb dX2_look_160 (by decide) ?_
              exact J139 _ (by show _ = (if _ then _ else _); first | (rw [if_pos (Int32.not_le.mp c149)]; done) | (rw [if_neg (Int32.not_lt.mpr c149)]; done))
        · refine lv_aload_n hx hb dX2_look_103 rfl (lv_at hl 9 rfl) ?_
          refine va_get (D := (dC, dI)) (ci := 2) (v := .ref (a 5)) (C := RX2) (T := TX2) (N := 27) hx hb hts iw_c_X2_look_wsX20 hown hK hP 0 rfl rfl 5 (by decide) (hts _ wd_c_X2_look_X2_look_10) (fun _ h9 => h9) rfl dX2_look_104 ?_
          refine lv_iconst (v := nI 3) hx hb dX2_look_107 (by decide) ?_
          refine lv_iload hx hb dX2_look_108 (lv_at hl 1 rfl) ?_
          refine lv_imul hx hb dX2_look_110 ?_
          refine pt_top (y := nI (3 * (od (f + k)))) (pk_mul _ _) ?_
          refine lv_iload hx hb dX2_look_111 (lv_at hl 6 rfl) ?_
          refine lv_iadd hx hb dX2_look_113 ?_
          refine pt_top (y := nI ((3 * (od (f + k))) + i)) (nI_add _ _) ?_
          refine pt_iald hx hb hK hP 3 2 rfl rfl ((3 * (od (f + k))) + i) rfl (by omega) (by decide) dX2_look_114 ?_
          refine pt_top (y := A 5 (3 * od (f + k) + i)) (by rw [hsi 5 (by decide) (by decide)]) ?_
          refine lv_iload hx hb dX2_look_115 (lv_at hl 5 rfl) ?_
          refine lv_icmp_le (tgt := 135) hx hb dX2_look_117 (by decide) (fun c117 => ?_) (fun c117 => ?_)
          · refine lv_iload hx hb dX2_look_135 (lv_at hl 5 rfl) ?_
            exact J103 _ (by show _ = (if _ then _ else _); first | (rw [if_pos (Int32.not_le.mp c117)]; done) | (rw [if_neg (Int32.not_lt.mpr c117)]; done))
          · refine lv_aload_n hx hb dX2_look_120 rfl (lv_at hl 9 rfl) ?_
            refine va_get (D := (dC, dI)) (ci := 2) (v := .ref (a 5)) (C := RX2) (T := TX2) (N := 27) hx hb hts iw_c_X2_look_wsX20 hown hK hP 0 rfl rfl 5 (by decide) (hts _ wd_c_X2_look_X2_look_10) (fun _ h9 => h9) rfl dX2_look_121 ?_
            refine lv_iconst (v := nI 3) hx hb dX2_look_124 (by decide) ?_
            refine lv_iload hx hb dX2_look_125 (lv_at hl 1 rfl) ?_
            refine lv_imul hx hb dX2_look_127 ?_
            refine pt_top (y := nI (3 * (od (f + k)))) (pk_mul _ _) ?_
            refine lv_iload hx hb dX2_look_128 (lv_at hl 6 rfl) ?_
            refine lv_iadd hx hb dX2_look_130 ?_
            refine pt_top (y := nI ((3 * (od (f + k))) + i)) (nI_add _ _) ?_
            refine pt_iald hx hb hK hP 3 2 rfl rfl ((3 * (od (f + k))) + i) rfl (by omega) (by decide) dX2_look_131 ?_
            refine pt_top (y := A 5 (3 * od (f + k) + i)) (by rw [hsi 5 (by decide) (by decide)]) ?_
            refine lv_goto (tgt := 137) hx hb dX2_look_132 (by decide) ?_
            exact J103 _ (by show _ = (if _ then _ else _); first | (rw [if_pos (Int32.not_le.mp c117)]; done) | (rw [if_neg (Int32.not_lt.mpr c117)]; done))
      · refine lv_aload_n hx hb dX2_look_67 rfl (lv_at hl 9 rfl) ?_
        refine va_get (D := (dC, dI)) (ci := 2) (v := .ref (a 4)) (C := RX2) (T := TX2) (N := 27) hx hb hts iw_c_X2_look_wsX20 hown hK hP 0 rfl rfl 4 (by decide) (hts _ wd_c_X2_look_X2_look_11) (fun _ h9 => h9) rfl dX2_look_68 ?_
        refine lv_iconst (v := nI 3) hx hb dX2_look_71 (by decide) ?_
        refine lv_iload hx hb dX2_look_72 (lv_at hl 0 rfl) ?_
        refine lv_imul hx hb dX2_look_74 ?_
        refine pt_top (y := nI (3 * (od (f + k)))) (pk_mul _ _) ?_
        refine lv_iload hx hb dX2_look_75 (lv_at hl 6 rfl) ?_
        refine lv_iadd hx hb dX2_look_77 ?_
        refine pt_top (y := nI ((3 * (od (f + k))) + i)) (nI_add _ _) ?_
        refine pt_iald hx hb hK hP 2 1 rfl rfl ((3 * (od (f + k))) + i) rfl (by omega) (by decide) dX2_look_78 ?_
        refine pt_top (y := A 4 (3 * od (f + k) + i)) (by rw [hsi 4 (by decide) (by decide)]) ?_
        refine lv_iload hx hb dX2_look_79 (lv_at hl 5 rfl) ?_
        refine lv_icmp_ge (tgt := 99) hx hb dX2_look_81 (by decide) (fun c81 => ?_) (fun c81 => ?_)
        · refine lv_iload hx hb dX2_look_99 (lv_at hl 5 rfl) ?_
          exact J67 _ (by show _ = (if _ then _ else _); first | (rw [if_pos (Int32.not_le.mp c81)]; done) | (rw [if_neg (Int32.not_lt.mpr c81)]; done))
        · refine lv_aload_n hx hb dX2_look_84 rfl (lv_at hl 9 rfl) ?_
          refine va_get (D := (dC, dI)) (ci := 2) (v := .ref (a 4)) (C := RX2) (T := TX2) (N := 27) hx hb hts iw_c_X2_look_wsX20 hown hK hP 0 rfl rfl 4 (by decide) (hts _ wd_c_X2_look_X2_look_11) (fun _ h9 => h9) rfl dX2_look_85 ?_
          refine lv_iconst (v := nI 3) hx hb dX2_look_88 (by decide) ?_
          refine lv_iload hx hb dX2_look_89 (lv_at hl 0 rfl) ?_
          refine lv_imul hx hb dX2_look_91 ?_
          refine pt_top (y := nI (3 * (od (f + k)))) (pk_mul _ _) ?_
          refine lv_iload hx hb dX2_look_92 (lv_at hl 6 rfl) ?_
          refine lv_iadd hx hb dX2_look_94 ?_
          refine pt_top (y := nI ((3 * (od (f + k))) + i)) (nI_add _ _) ?_
          refine pt_iald hx hb hK hP 2 1 rfl rfl ((3 * (od (f + k))) + i) rfl (by omega) (by decide) dX2_look_95 ?_
          refine pt_top (y := A 4 (3 * od (f + k) + i)) (by rw [hsi 4 (by decide) (by decide)]) ?_
          refine lv_goto (tgt := 101) hx hb dX2_look_96 (by decide) ?_
          exact J67 _ (by show _ = (if _ then _ else _); first | (rw [if_pos (Int32.not_le.mp c81)]; done) | (rw [if_neg (Int32.not_lt.mpr c81)]; done))
