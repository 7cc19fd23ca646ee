theorem wd_c_X2_day_X2_day_0 : Cond.fieldLink RX2 69 "PointTreesModel" "thrown" "I" ∈ wsX2_day := by decide +kernel
theorem wd_c_X2_day_X2_day_1 : Cond.constantLong RX2 107 (-9223372036854775808) ∈ wsX2_day := by decide +kernel
theorem iw_c_X2_day_wsX20 : ∀ w ∈ wsX20, w ∈ wsX2_day := fun _ h => List.mem_cons_of_mem _ (List.mem_append_right _ h)
set_option maxHeartbeats 4000000 in
set_option maxRecDepth 100000 in
theorem c_X2_day (l : Launch) (dC : Nat → ClassId) (dI : Nat → Nat → Nat) (a : Nat → Nat) (c : Nat → ClassId) (F : Nat → Int32) (A : Nat → Nat → Int32) (sz : Nat) (t z : Int64) : Met l yX2_day wsX2_day (pt_rm 0) (pt_W (dC, dI) vwCl (pt_mt c) (pt_mw a c F A) pt_nw sz [.ref (a 0), .long t, .long z]) (va_Ql (fun (r : Int64) (u : pt_MS) => (z = 0 ∧ r = 0 ∧ u = (upd F 0 (nI 1), A)) ∨ (z < 0 ∧ r = -9223372036854775808 ∧ u = (upd F 0 (nI 0), A)) ∨ (0 < z ∧ (((t - t / z * z) < 0 ∧ r = t / z - 1) ∨ (¬ (t - t / z * z) < 0 ∧ r = t / z)) ∧ u = (upd F 0 (nI 0), A))) (fun u t => va_P (dC, dI) vwCl (pt_mw a c u.1 u.2) t.heap) (va_A (pt_mw a c F A) sz)) 0 0 (va_A (pt_mw a c F A) sz) := by
  refine Met.ofW (cc := cX2_day) (maxL := 7) (ret := (some .long)) (by decide) rfl ?_
  intro p e s m args below meth cd s₁ B hml hv
  obtain ⟨rfl, hsz, hP, hK, hN, hD0⟩ := hv
  have hx := B.exec
  have hb := B.bytes
  have hr := B.returns
  have hts := atoms_spec (ws := wsX2_day) B.pre
  have hown : s.vm.findClass RX2 = some m.cls := findClass_of_methodNamed B.named
  have hlocks := B.notSynchronized
  subst hsz
  have hD := hD0.self (sz := s.heap.size)
  generalize hAe : va_A (pt_mw a c F A) s.heap.size = AA at hD ⊢
  have hA : ∀ q : Nat, s.heap.size ≤ q → AA q := fun q h => by rw [← hAe]; exact Or.inr h
  have hS : va_S AA s.heap s.heap [] := va_S.rf
  have hl := lv_entry ([.ref (a 0), .long t, .long z]) (n := 7) (Nat.le_of_ble_eq_true rfl)
  rw [lg_entry_eq]
  generalize (lg_sl ([.ref (a 0), .long t, .long z]) ++ List.replicate (7 - (lg_sl ([.ref (a 0), .long t, .long z])).length) Slot.unset).toArray = ls at hl ⊢
  have hl : lv_has ls 7 [(0, .ref (a 0)), (1, .long t), (3, .long z)] := hl
  refine lv_aload_n hx hb dX2_day_0 rfl (lv_at hl 0 rfl) ?_
  refine lv_lload_n hx hb dX2_day_1 rfl (lv_at hl 2 rfl) ?_
  refine lv_lconst (v := 0) hx hb dX2_day_2 (by decide) ?_
  refine W.lcmp hx hb dX2_day_3 ?_
  refine lv_if_ne (tgt := 11) hx hb dX2_day_4 (by decide) (fun c4 => ?_) (fun c4 => ?_)
  · have d4 : ¬ z = 0 := fun q => c4 ((lg_cmp_eq _ _).mpr q)
    refine lv_iconst (v := nI 0) hx hb dX2_day_11 (by decide) ?_
    obtain ⟨F1, eF1⟩ : ∃ zz, zz = upd F 0 (nI 0) := ⟨_, rfl⟩
    refine va_put (D := (dC, dI)) (ci := 2) (v := .int (nI 0)) (ty := .int) (C := RX2) (T := TX2) (N := 27) hx hb hts iw_c_X2_day_wsX20 tyX2 tyX2_ok nmX2 hown hK hP hD hS 0 rfl rfl 0 (by decide) (hts _ wd_c_X2_day_X2_day_0) (fun _ h9 => h9) rfl (by decide +kernel) rfl rfl (Nat.le_of_ble_eq_true rfl) dX2_day_12 (fun H locs hP hD hS => ?_)
    have hP : va_P (dC, dI) vwCl (pt_mw a c F1 A) H := by rw [eF1]; exact hP
    have hD : va_D AA (pt_mw a c F1 A) := by rw [eF1]; exact hD
    have kF1_0 : F1 0 = nI 0 := by rw [eF1, pt_upd]
    refine lv_lload_n hx hb dX2_day_15 rfl (lv_at hl 2 rfl) ?_
    refine lv_lconst (v := 0) hx hb dX2_day_16 (by decide) ?_
    refine W.lcmp hx hb dX2_day_17 ?_
    refine lv_if_gt (tgt := 36) hx hb dX2_day_18 (by decide) (fun c18 => ?_) (fun c18 => ?_)
    · have d18 : 0 < z := (lg_cmp_gt _ _).mp c18
      refine lv_lload_n hx hb dX2_day_36 rfl (lv_at hl 1 rfl) ?_
      refine lv_lload_n hx hb dX2_day_37 rfl (lv_at hl 2 rfl) ?_
      refine lv_ldiv hx hb dX2_day_38 d4 ?_
      refine lv_lstore (lv' := [(5, .long (t / z)), (0, .ref (a 0)), (1, .long t), (3, .long z)]) hx hb dX2_day_39 hl (by decide) rfl (fun ls hl => ?_)
      refine lv_lload_n hx hb dX2_day_41 rfl (lv_at hl 2 rfl) ?_
      refine lv_lload_n hx hb dX2_day_42 rfl (lv_at hl 3 rfl) ?_
      refine lv_lrem hx hb dX2_day_43 d4 ?_
      refine lv_lconst (v := 0) hx hb dX2_day_44 (by decide) ?_
      refine W.lcmp hx hb dX2_day_45 ?_
      refine lv_if_ge (tgt := 56) hx hb dX2_day_46 (by decide) (fun c46 => ?_) (fun c46 => ?_)
      · have d46 : ¬ (t - t / z * z) < 0 := Int64.not_lt.mpr ((lg_cmp_ge _ _).mp c46)
        refine lv_lload hx hb dX2_day_56 (lv_at hl 0 rfl) ?_
        exact W.lret (v := (t / z)) hx hb hr (fun zt zh zW => ⟨⟨_, (F1, A), rfl, (Or.inr (Or.inr ⟨d18, Or.inr ⟨d46, rfl⟩, by rw [eF1]⟩)), by show va_P _ _ _ zt.heap; rw [zh]; exact hP⟩, hS.F zh⟩) hS.2.2 dX2_day_58
      · have d46 : (t - t / z * z) < 0 := Int64.not_le.mp (fun q => c46 ((lg_cmp_ge _ _).mpr q))
        refine lv_lload hx hb dX2_day_49 (lv_at hl 0 rfl) ?_
        refine lv_lconst (v := 1) hx hb dX2_day_51 (by decide) ?_
        refine lv_lsub hx hb dX2_day_52 ?_
        refine lv_goto (tgt := 58) hx hb dX2_day_53 (by decide) ?_
        exact W.lret (v := ((t / z) - (1 : Int64))) hx hb hr (fun zt zh zW => ⟨⟨_, (F1, A), rfl, (Or.inr (Or.inr ⟨d18, Or.inl ⟨d46, rfl⟩, by rw [eF1]⟩)), by show va_P _ _ _ zt.heap; rw [zh]; exact hP⟩, hS.F zh⟩) hS.2.2 dX2_day_58
    · have d18 : z < 0 := by have h1 : ¬ 0 < z := fun q => c18 ((lg_cmp_gt _ _).mpr q); exact Int64.lt_of_le_of_ne (Int64.not_lt.mp h1) d4
      refine lv_aload_n hx hb dX2_day_21 rfl (lv_at hl 0 rfl) ?_
      refine va_get (D := (dC, dI)) (ci := 2) (v := .int (F1 0)) (C := RX2) (T := TX2) (N := 27) hx hb hts iw_c_X2_day_wsX20 hown hK hP 0 rfl rfl 0 (by decide) (hts _ wd_c_X2_day_X2_day_0) (fun _ h9 => h9) rfl dX2_day_22 ?_
      refine pt_top (y := nI 0) kF1_0 ?_
      refine lv_if_le (tgt := 32) hx hb dX2_day_25 (by decide) (fun c25 => ?_) (fun c25 => absurd (by decide) c25)
      refine lv_ldc2 (v := -9223372036854775808) hx hb hown (hts _ wd_c_X2_day_X2_day_1) dX2_day_32 ?_
      exact W.lret (v := (-9223372036854775808 : Int64)) hx hb hr (fun zt zh zW => ⟨⟨_, (F1, A), rfl, (Or.inr (Or.inl ⟨d18, rfl, by rw [eF1]⟩)), by show va_P _ _ _ zt.heap; rw [zh]; exact hP⟩, hS.F zh⟩) hS.2.2 dX2_day_35
  · have d4 : z = 0 := (lg_cmp_eq _ _).mp c4
    refine lv_iconst (v := nI 1) hx hb dX2_day_7 (by decide) ?_
    refine lv_goto (tgt := 12) hx hb dX2_day_8 (by decide) ?_
    obtain ⟨F2, eF2⟩ : ∃ zz, zz = upd F 0 (nI 1) := ⟨_, rfl⟩
    refine va_put (D := (dC, dI)) (ci := 2) (v := .int (nI 1)) (ty := .int) (C := RX2) (T := TX2) (N := 27) hx hb hts iw_c_X2_day_wsX20 tyX2 tyX2_ok nmX2 hown hK hP hD hS 0 rfl rfl 0 (by decide) (hts _ wd_c_X2_day_X2_day_0) (fun _ h9 => h9) rfl (by decide +kernel) rfl rfl (Nat.le_of_ble_eq_true rfl) dX2_day_12 (fun H locs hP hD hS => ?_)
    have hP : va_P (dC, dI) vwCl (pt_mw a c F2 A) H := by rw [eF2]; exact hP
    have hD : va_D AA (pt_mw a c F2 A) := by rw [eF2]; exact hD
    have kF2_0 : F2 0 = nI 1 := by rw [eF2, pt_upd]
    refine lv_lload_n hx hb dX2_day_15 rfl (lv_at hl 2 rfl) ?_
    refine lv_lconst (v := 0) hx hb dX2_day_16 (by decide) ?_
    refine W.lcmp hx hb dX2_day_17 ?_
    refine lv_if_gt (tgt := 36) hx hb dX2_day_18 (by decide) (fun c18 => absurd c18 (fun q => by have q2 := (lg_cmp_gt _ _).mp q; rw [d4] at q2; exact absurd q2 (by decide))) (fun c18 => ?_)
    refine lv_aload_n hx hb dX2_day_21 rfl (lv_at hl 0 rfl) ?_
    refine va_get (D := (dC, dI)) (ci := 2) (v := .int (F2 0)) (C := RX2) (T := TX2) (N := 27) hx hb hts iw_c_X2_day_wsX20 hown hK hP 0 rfl rfl 0 (by decide) (hts _ wd_c_X2_day_X2_day_0) (fun _ h9 => h9) rfl dX2_day_22 ?_
    refine pt_top (y := nI 1) kF2_0 ?_
    refine lv_if_le (tgt := 32) hx hb dX2_day_25 (by decide) (fun c25 => absurd c25 (by decide)) (fun c25 => ?_)
    refine lv_lconst (v := 0) hx hb dX2_day_28 (by decide) ?_
    refine lv_goto (tgt := 35) hx hb dX2_day_29 (by decide) ?_
    exact W.lret (v := (0 : Int64)) hx hb hr (fun zt zh zW => ⟨⟨_, (F2, A), rfl, (Or.inl ⟨d4, rfl, by rw [eF2]⟩), by show va_P _ _ _ zt.heap; rw [zh]; exact hP⟩, hS.F zh⟩) hS.2.2 dX2_day_35

set_option maxHeartbeats 4000000 in
set_option maxRecDepth 100000 in
theorem c_J9_floorDiv (l : Launch)  (t z : Int64) (hz : ¬ z = 0) : Met l yJ9_floorDiv_f86c9 wsJ9_floorDiv_f86c9 (pt_rm 0) (va_Pc [.long t, .long z] (fun _ => True)) (vp_Sl (fun r => (t ^^^ z < 0 ∧ ¬ t / z * z = t ∧ r = t / z - 1) ∨ (¬ (t ^^^ z < 0 ∧ ¬ t / z * z = t) ∧ r = t / z))) 0 0 (fun _ => False) := by
  refine va_MetF (cc := cJ9_floorDiv_f86c9) (maxL := 6) (ret := (some .long)) (by decide +kernel) rfl ?_
  intro p e s m args below meth cd s₁ B hml hv
  obtain ⟨rfl, _⟩ := hv
  have hx := B.exec
  have hb := B.bytes
  have hr := B.returns
  have hts := atoms_spec (ws := wsJ9_floorDiv_f86c9) B.pre
  have hown : s.vm.findClass RJ9 = some m.cls := findClass_of_methodNamed B.named
  have hlocks := B.notSynchronized
  have hl := lv_entry ([.long t, .long z]) (n := 6) (Nat.le_of_ble_eq_true rfl)
  rw [lg_entry_eq]
  generalize (lg_sl ([.long t, .long z]) ++ List.replicate (6 - (lg_sl ([.long t, .long z])).length) Slot.unset).toArray = ls at hl ⊢
  have hl : lv_has ls 6 [(0, .long t), (2, .long z)] := hl
  refine lv_lload_n hx hb dJ9_floorDiv_f86c9_0 rfl (lv_at hl 0 rfl) ?_
  refine lv_lload_n hx hb dJ9_floorDiv_f86c9_1 rfl (lv_at hl 1 rfl) ?_
  refine lv_ldiv hx hb dJ9_floorDiv_f86c9_2 hz ?_
  refine lv_lstore (lv' := [(4, .long (t / z)), (0, .long t), (2, .long z)]) hx hb dJ9_floorDiv_f86c9_3 hl (by decide) rfl (fun ls hl => ?_)
  refine lv_lload_n hx hb dJ9_floorDiv_f86c9_5 rfl (lv_at hl 1 rfl) ?_
  refine lv_lload_n hx hb dJ9_floorDiv_f86c9_6 rfl (lv_at hl 2 rfl) ?_
  refine lv_lxor hx hb dJ9_floorDiv_f86c9_7 ?_
  refine lv_lconst (v := 0) hx hb dJ9_floorDiv_f86c9_8 (by decide) ?_
  refine W.lcmp hx hb dJ9_floorDiv_f86c9_9 ?_
  refine lv_if_ge (tgt := 27) hx hb dJ9_floorDiv_f86c9_10 (by decide) (fun c10 => ?_) (fun c10 => ?_)
  · have d10 : ¬ t ^^^ z < 0 := Int64.not_lt.mpr ((lg_cmp_ge _ _).mp c10)
    refine lv_lload hx hb dJ9_floorDiv_f86c9_27 (lv_at hl 0 rfl) ?_
    exact W.lret (v := (t / z)) hx hb hr (fun zt zh zW => ⟨_, rfl, (Or.inr ⟨fun q => by first | exact q.2 d19 | exact d10 q.1, rfl⟩), zh⟩) (fun q h => by cases h) dJ9_floorDiv_f86c9_29
  · have d10 : t ^^^ z < 0 := Int64.not_le.mp (fun q => c10 ((lg_cmp_ge _ _).mpr q))
    refine lv_lload hx hb dJ9_floorDiv_f86c9_13 (lv_at hl 0 rfl) ?_
    refine lv_lload_n hx hb dJ9_floorDiv_f86c9_15 rfl (lv_at hl 2 rfl) ?_
    refine lv_lmul hx hb dJ9_floorDiv_f86c9_16 ?_
    refine lv_lload_n hx hb dJ9_floorDiv_f86c9_17 rfl (lv_at hl 1 rfl) ?_
    refine W.lcmp hx hb dJ9_floorDiv_f86c9_18 ?_
    refine lv_if_eq (tgt := 27) hx hb dJ9_floorDiv_f86c9_19 (by decide) (fun c19 => ?_) (fun c19 => ?_)
    · have d19 : t / z * z = t := (lg_cmp_eq _ _).mp c19
      refine lv_lload hx hb dJ9_floorDiv_f86c9_27 (lv_at hl 0 rfl) ?_
      exact W.lret (v := (t / z)) hx hb hr (fun zt zh zW => ⟨_, rfl, (Or.inr ⟨fun q => by first | exact q.2 d19 | exact d10 q.1, rfl⟩), zh⟩) (fun q h => by cases h) dJ9_floorDiv_f86c9_29
    · have d19 : ¬ t / z * z = t := fun q => c19 ((lg_cmp_eq _ _).mpr q)
      refine lv_lload hx hb dJ9_floorDiv_f86c9_22 (lv_at hl 0 rfl) ?_
      refine lv_lconst (v := 1) hx hb dJ9_floorDiv_f86c9_24 (by decide) ?_
      refine lv_lsub hx hb dJ9_floorDiv_f86c9_25 ?_
      exact W.lret (v := ((t / z) - (1 : Int64))) hx hb hr (fun zt zh zW => ⟨_, rfl, (Or.inl ⟨d10, d19, rfl⟩), zh⟩) (fun q h => by cases h) dJ9_floorDiv_f86c9_26

/-! the floor of a quotient, by the one and by the other -/
theorem pt_neg_msb {x : Int64} : x < 0 ↔ x.toBitVec.msb = true := by
  rw [Int64.lt_iff_toInt_lt, BitVec.msb_eq_toInt, decide_eq_true_iff]
  exact Iff.rfl
theorem pt_xor_neg {t z : Int64} (hz : 0 < z) : t ^^^ z < 0 ↔ t < 0 := by
  have h1 : z.toBitVec.msb = false := by
    cases h : z.toBitVec.msb
    · rfl
    · exact absurd (pt_neg_msb.mpr h) (Int64.not_lt.mpr (Int64.le_of_lt hz))
  rw [pt_neg_msb, pt_neg_msb, Int64.toBitVec_xor, BitVec.msb_xor, h1, Bool.xor_false]
theorem pt_bmod64 {x : Int} (h1 : -9223372036854775808 ≤ x) (h2 : x ≤ 9223372036854775807) : x.bmod (2 ^ 64) = x := by
  rw [Int.bmod_def]
  split <;> omega
theorem pt_fl {t z : Int64} (hz : 0 < z) : (t ^^^ z < 0 ∧ ¬ t / z * z = t) ↔ t - t / z * z < 0 := by
  have z0 : (0 : Int64).toInt = 0 := by decide +kernel
  have hZ : 0 < z.toInt := by have := Int64.lt_iff_toInt_lt.mp hz; rw [z0] at this; exact this
  have b1 := Int64.le_toInt t
  have b2 := Int64.toInt_lt t
  have e0 : t.toInt.tdiv z.toInt * z.toInt + t.toInt.tmod z.toInt = t.toInt := Int.tdiv_mul_add_tmod _ _
  have hq : (0 ≤ t.toInt → 0 ≤ t.toInt.tdiv z.toInt ∧ 0 ≤ t.toInt.tmod z.toInt ∧ t.toInt.tdiv z.toInt ≤ t.toInt.tdiv z.toInt * z.toInt) ∧ (t.toInt < 0 → t.toInt.tdiv z.toInt ≤ 0 ∧ t.toInt.tmod z.toInt ≤ 0 ∧ t.toInt.tdiv z.toInt * z.toInt ≤ t.toInt.tdiv z.toInt) := by
    constructor
    · intro h
      have h1 := Int.tdiv_nonneg h (Int.le_of_lt hZ)
      refine ⟨h1, Int.tmod_nonneg _ h, ?_⟩
      have := Int.mul_le_mul_of_nonneg_left (show (1 : Int) ≤ z.toInt by omega) h1
      rw [Int.mul_one] at this
      exact this
    · intro h
      have h1 : t.toInt.tdiv z.toInt ≤ 0 := by
        have := Int.tdiv_nonneg (a := -t.toInt) (b := z.toInt) (by omega) (Int.le_of_lt hZ)
        rw [Int.neg_tdiv] at this
        omega
      have h2 : t.toInt.tmod z.toInt ≤ 0 := by
        have := Int.tmod_nonneg (a := -t.toInt) z.toInt (by omega)
        rw [Int.neg_tmod] at this
        omega
      refine ⟨h1, h2, ?_⟩
      have := Int.mul_le_mul_of_nonpos_left h1 (show (1 : Int) ≤ z.toInt by omega)
      rw [Int.mul_one] at this
      exact this
  have eq : (t / z).toInt = t.toInt.tdiv z.toInt := by
    rw [Int64.toInt_div]
    apply pt_bmod64
    · rcases Int.lt_or_le t.toInt 0 with h | h
      · have := hq.2 h; omega
      · have := hq.1 h; omega
    · rcases Int.lt_or_le t.toInt 0 with h | h
      · have := hq.2 h; omega
      · have := hq.1 h; omega
  have ep : (t / z * z).toInt = t.toInt.tdiv z.toInt * z.toInt := by
    rw [Int64.toInt_mul, eq]
    apply pt_bmod64
    · rcases Int.lt_or_le t.toInt 0 with h | h
      · have := hq.2 h; omega
      · have := hq.1 h; omega
    · rcases Int.lt_or_le t.toInt 0 with h | h
      · have := hq.2 h; omega
      · have := hq.1 h; omega
  have er : (t - t / z * z).toInt = t.toInt.tmod z.toInt := by
    rw [Int64.toInt_sub, ep]
    rw [show t.toInt - t.toInt.tdiv z.toInt * z.toInt = t.toInt.tmod z.toInt by omega]
    apply pt_bmod64
    · rcases Int.lt_or_le t.toInt 0 with h | h
      · have := hq.2 h; omega
      · have := hq.1 h; omega
    · rcases Int.lt_or_le t.toInt 0 with h | h
      · have := hq.2 h; omega
      · have := hq.1 h; omega
  rw [pt_xor_neg hz, Int64.lt_iff_toInt_lt, Int64.lt_iff_toInt_lt, er, z0, ← Int64.toInt_inj, ep]
  constructor
  · rintro ⟨h1, h2⟩
    have := hq.2 h1
    omega
  · intro h
    rcases Int.lt_or_le t.toInt 0 with h1 | h1
    · exact ⟨h1, by omega⟩
    · have := hq.1 h1; omega
noncomputable def pt_dX (t z : Int64) : Int64 := pt_if (z < 0) (-9223372036854775808) (pt_if (t ^^^ z < 0 ∧ ¬ t / z * z = t) (t / z - 1) (t / z))
