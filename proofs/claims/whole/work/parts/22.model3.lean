def pt_offm (lo hi v : Int64) : Int64 := if v < lo then lo - v else if hi < v then v - hi else 0
def pt_sqs (g : Nat → Int64) : Nat → Int64
  | 0 => 0
  | n + 1 => pt_sqs g n + g n
/-- the square as the reference reckons it -/
def pt_sqm (ax : Nat) (lo hi : Nat → Int32) (x y z : Int32) : Int64 := pt_sqs (fun q => pt_offm (lo q).toInt64 (hi q).toInt64 (pt_3 x y z q).toInt64 * pt_offm (lo q).toInt64 (hi q).toInt64 (pt_3 x y z q).toInt64) ax

theorem wd_c_X2_square_X2_square_0 : Cond.fieldLink RX2 7 "PointTreesModel" "axes" "I" ∈ wsX2_square := by decide +kernel
theorem wd_c_X2_square_X2_square_1 : Cond.fieldLink RX2 17 "PointTreesModel" "lows" "[I" ∈ wsX2_square := by decide +kernel
theorem wd_c_X2_square_X2_square_2 : Cond.fieldLink RX2 21 "PointTreesModel" "highs" "[I" ∈ wsX2_square := by decide +kernel
theorem iw_c_X2_square_wsX20 : ∀ w ∈ wsX20, w ∈ wsX2_square := fun _ h => List.mem_cons_of_mem _ (List.mem_append_right _ h)
set_option maxHeartbeats 4000000 in
set_option maxRecDepth 100000 in
theorem c_X2_square (l : Launch) (dC : Nat → ClassId) (dI : Nat → Nat → Nat) (a : Nat → Nat) (c : Nat → ClassId) (F : Nat → Int32) (A : Nat → Nat → Int32) (ax : Nat) (h1 : F 1 = nI ax) (hax : ax ≤ 3) (t : Nat) (ht : t < 64) (x y z : Int32) : Met l yX2_square wsX2_square (pt_rm 0) (pt_R (dC, dI) vwCl (pt_mt c) (pt_mw a c F A) pt_nw [.ref (a 0), .int (nI t), .int x, .int y, .int z]) (vp_Sl (fun r => r = (pt_sqm ax (fun q => A 4 (3 * t + q)) (fun q => A 5 (3 * t + q)) x y z))) 0 0 (fun _ => False) := by
  refine Met.ofW (cc := cX2_square) (maxL := 12) (ret := (some .long)) (by decide) rfl ?_
  intro p e s m args below meth cd s₁ B hml hv
  obtain ⟨rfl, hP, hK, hN⟩ := hv
  have hx := B.exec
  have hb := B.bytes
  have hr := B.returns
  have hts := atoms_spec (ws := wsX2_square) B.pre
  have hown : s.vm.findClass RX2 = some m.cls := findClass_of_methodNamed B.named
  have hlocks := B.notSynchronized
  have hl := lv_entry ([.ref (a 0), .int (nI t), .int x, .int y, .int z]) (n := 12) (Nat.le_of_ble_eq_true rfl)
  rw [lg_entry_eq]
  generalize (lg_sl ([.ref (a 0), .int (nI t), .int x, .int y, .int z]) ++ List.replicate (12 - (lg_sl ([.ref (a 0), .int (nI t), .int x, .int y, .int z])).length) Slot.unset).toArray = ls at hl ⊢
  have hl : lv_has ls 12 [(0, .ref (a 0)), (1, .int (nI t)), (2, .int x), (3, .int y), (4, .int z)] := hl
  refine lv_lconst (v := 0) hx hb dX2_square_0 (by decide) ?_
  refine lv_lstore (lv' := [(5, .long (0 : Int64)), (0, .ref (a 0)), (1, .int (nI t)), (2, .int x), (3, .int y), (4, .int z)]) hx hb dX2_square_1 hl (by decide) rfl (fun ls hl => ?_)
  refine lv_iconst (v := nI 0) hx hb dX2_square_3 (by decide) ?_
  refine lv_istore (lv' := [(7, .int (nI 0)), (5, .long (0 : Int64)), (0, .ref (a 0)), (1, .int (nI t)), (2, .int x), (3, .int y), (4, .int z)]) hx hb dX2_square_4 hl (by decide) rfl (fun ls hl => ?_)
  refine pt_loopR (fun i : Nat => ax - i) (fun i ls => i ≤ ax ∧ lv_has ls 12 [(7, .int (nI i)), (5, .long (pt_sqs (fun q => pt_offm (A 4 (3 * t + q)).toInt64 (A 5 (3 * t + q)).toInt64 (pt_3 x y z q).toInt64 * pt_offm (A 4 (3 * t + q)).toInt64 (A 5 (3 * t + q)).toInt64 (pt_3 x y z q).toInt64) i)), (0, .ref (a 0)), (1, .int (nI t)), (2, .int x), (3, .int y), (4, .int z)]) ?_ 0 _ ⟨Nat.zero_le _, hl⟩
  intro i ls ⟨hi, hl⟩ ih
  refine lv_iload hx hb dX2_square_6 (lv_at hl 0 rfl) ?_
  refine lv_aload_n hx hb dX2_square_8 rfl (lv_at hl 2 rfl) ?_
  refine va_get (D := (dC, dI)) (ci := 2) (v := .int (F 1)) (C := RX2) (T := TX2) (N := 27) hx hb hts iw_c_X2_square_wsX20 hown hK hP 0 rfl rfl 1 (by decide) (hts _ wd_c_X2_square_X2_square_0) (fun _ h9 => h9) rfl dX2_square_9 ?_
  refine pt_top (y := nI ax) h1 ?_
  refine lv_icmp_ge (tgt := 132) hx hb dX2_square_12 (by decide) (fun c12 => ?_) (fun c12 => ?_)
  · have hie : i = ax := by have := (nI_leI (by omega) (by omega)).mp c12; omega
    refine lv_lload hx hb dX2_square_132 (lv_at hl 1 rfl) ?_
    exact W.lret (v := pt_sqs (fun q => pt_offm (A 4 (3 * t + q)).toInt64 (A 5 (3 * t + q)).toInt64 (pt_3 x y z q).toInt64 * pt_offm (A 4 (3 * t + q)).toInt64 (A 5 (3 * t + q)).toInt64 (pt_3 x y z q).toInt64) i) hx hb hr (fun zt zh zW => ⟨_, rfl, (by unfold pt_sqm; rw [← hie]), zh⟩) (fun q h => by cases h) dX2_square_134
  · have hlt : i < ax := Nat.not_le.mp (fun q => c12 ((nI_leI (by omega) (by omega)).mpr q))
    refine pt_cutL 39 (fun v => v = (pt_3 x y z i).toInt64) (rest := []) (fun v15 hv15 => ?_) (fun J15 => ?_)
    · subst hv15
      refine lv_lstore (lv' := [(8, .long ((pt_3 x y z i).toInt64)), (7, .int (nI i)), (5, .long (pt_sqs (fun q => pt_offm (A 4 (3 * t + q)).toInt64 (A 5 (3 * t + q)).toInt64 (pt_3 x y z q).toInt64 * pt_offm (A 4 (3 * t + q)).toInt64 (A 5 (3 * t + q)).toInt64 (pt_3 x y z q).toInt64) i)), (0, .ref (a 0)), (1, .int (nI t)), (2, .int x), (3, .int y), (4, .int z)]) hx hb dX2_square_39 hl (by decide) rfl (fun ls hl => ?_)
      refine lv_lload hx hb dX2_square_41 (lv_at hl 0 rfl) ?_
      refine lv_aload_n hx hb dX2_square_43 rfl (lv_at hl 3 rfl) ?_
      refine va_get (D := (dC, dI)) (ci := 2) (v := .ref (a 4)) (C := RX2) (T := TX2) (N := 27) hx hb hts iw_c_X2_square_wsX20 hown hK hP 0 rfl rfl 4 (by decide) (hts _ wd_c_X2_square_X2_square_1) (fun _ h9 => h9) rfl dX2_square_44 ?_
      refine lv_iconst (v := nI 3) hx hb dX2_square_47 (by decide) ?_
      refine lv_iload_n hx hb dX2_square_48 rfl (lv_at hl 4 rfl) ?_
      refine lv_imul hx hb dX2_square_49 ?_
      refine pt_top (y := nI (3 * t)) (pk_mul _ _) ?_
      refine lv_iload hx hb dX2_square_50 (lv_at hl 1 rfl) ?_
      refine lv_iadd hx hb dX2_square_52 ?_
      refine pt_top (y := nI ((3 * t) + i)) (nI_add _ _) ?_
      refine pt_iald hx hb hK hP 2 1 rfl rfl ((3 * t) + i) rfl (by omega) (by decide) dX2_square_53 ?_
      refine lv_i2l (v := ((A 4 ((3 * t) + i))).toInt64) hx hb dX2_square_54 rfl ?_
      refine W.lcmp hx hb dX2_square_55 ?_
      refine lv_if_ge (tgt := 77) hx hb dX2_square_56 (by decide) (fun c56 => ?_) (fun c56 => ?_)
      · have d56 : (A 4 (3 * t + i)).toInt64 ≤ (pt_3 x y z i).toInt64 := (lg_cmp_ge _ _).mp c56
        refine lv_lload hx hb dX2_square_77 (lv_at hl 0 rfl) ?_
        refine lv_aload_n hx hb dX2_square_79 rfl (lv_at hl 3 rfl) ?_
        refine va_get (D := (dC, dI)) (ci := 2) (v := .ref (a 5)) (C := RX2) (T := TX2) (N := 27) hx hb hts iw_c_X2_square_wsX20 hown hK hP 0 rfl rfl 5 (by decide) (hts _ wd_c_X2_square_X2_square_2) (fun _ h9 => h9) rfl dX2_square_80 ?_
        refine lv_iconst (v := nI 3) hx hb dX2_square_83 (by decide) ?_
        refine lv_iload_n hx hb dX2_square_84 rfl (lv_at hl 4 rfl) ?_
        refine lv_imul hx hb dX2_square_85 ?_
        refine pt_top (y := nI (3 * t)) (pk_mul _ _) ?_
        refine lv_iload hx hb dX2_square_86 (lv_at hl 1 rfl) ?_
        refine lv_iadd hx hb dX2_square_88 ?_
        refine pt_top (y := nI ((3 * t) + i)) (nI_add _ _) ?_
        refine pt_iald hx hb hK hP 3 2 rfl rfl ((3 * t) + i) rfl (by omega) (by decide) dX2_square_89 ?_
        refine lv_i2l (v := ((A 5 ((3 * t) + i))).toInt64) hx hb dX2_square_90 rfl ?_
        refine W.lcmp hx hb dX2_square_91 ?_
        refine lv_if_le (tgt := 113) hx hb dX2_square_92 (by decide) (fun c92 => ?_) (fun c92 => ?_)
        · have d92 : (pt_3 x y z i).toInt64 ≤ (A 5 (3 * t + i)).toInt64 := (lg_cmp_le _ _).mp c92
          refine lv_lconst (v := 0) hx hb dX2_square_113 (by decide) ?_
          refine lv_lstore (lv' := [(10, .long (0 : Int64)), (8, .long ((pt_3 x y z i).toInt64)), (7, .int (nI i)), (5, .long (pt_sqs (fun q => pt_offm (A 4 (3 * t + q)).toInt64 (A 5 (3 * t + q)).toInt64 (pt_3 x y z q).toInt64 * pt_offm (A 4 (3 * t + q)).toInt64 (A 5 (3 * t + q)).toInt64 (pt_3 x y z q).toInt64) i)), (0, .ref (a 0)), (1, .int (nI t)), (2, .int x), (3, .int y), (4, .int z)]) hx hb dX2_square_114 hl (by decide) rfl (fun ls hl => ?_)
          refine lv_lload hx hb dX2_square_116 (lv_at hl 3 rfl) ?_
          refine lv_lload hx hb dX2_square_118 (lv_at hl 0 rfl) ?_
          refine lv_lload hx hb dX2_square_120 (lv_at hl 0 rfl) ?_
          refine lv_lmul hx hb dX2_square_122 ?_
          refine lv_ladd hx hb dX2_square_123 ?_
          refine lv_lstore (lv' := [(5, .long ((pt_sqs (fun q => pt_offm (A 4 (3 * t + q)).toInt64 (A 5 (3 * t + q)).toInt64 (pt_3 x y z q).toInt64 * pt_offm (A 4 (3 * t + q)).toInt64 (A 5 (3 * t + q)).toInt64 (pt_3 x y z q).toInt64) i) + ((0 : Int64) * (0 : Int64)))), (10, .long (0 : Int64)), (8, .long ((pt_3 x y z i).toInt64)), (7, .int (nI i)), (0, .ref (a 0)), (1, .int (nI t)), (2, .int x), (3, .int y), (4, .int z)]) hx hb dX2_square_124 hl (by decide) rfl (fun ls hl => ?_)
          refine lv_iinc (v := nI (i + 1)) (lv' := [(7, .int (nI (i + 1))), (5, .long ((pt_sqs (fun q => pt_offm (A 4 (3 * t + q)).toInt64 (A 5 (3 * t + q)).toInt64 (pt_3 x y z q).toInt64 * pt_offm (A 4 (3 * t + q)).toInt64 (A 5 (3 * t + q)).toInt64 (pt_3 x y z q).toInt64) i) + ((0 : Int64) * (0 : Int64)))), (10, .long (0 : Int64)), (8, .long ((pt_3 x y z i).toInt64)), (0, .ref (a 0)), (1, .int (nI t)), (2, .int x), (3, .int y), (4, .int z)]) hx hb dX2_square_126 hl (k := 3) rfl (nI_1 _) (by decide) rfl (fun ls hl => ?_)
          refine lv_goto (tgt := 6) hx hb dX2_square_129 (by decide) ?_
          have eo : pt_offm (A 4 (3 * t + i)).toInt64 (A 5 (3 * t + i)).toInt64 (pt_3 x y z i).toInt64 = (0 : Int64) := by unfold pt_offm; rw [if_neg (Int64.not_lt.mpr d56), if_neg (Int64.not_lt.mpr d92)]
          have es : pt_sqs (fun q => pt_offm (A 4 (3 * t + q)).toInt64 (A 5 (3 * t + q)).toInt64 (pt_3 x y z q).toInt64 * pt_offm (A 4 (3 * t + q)).toInt64 (A 5 (3 * t + q)).toInt64 (pt_3 x y z q).toInt64) (i + 1) = pt_sqs (fun q => pt_offm (A 4 (3 * t + q)).toInt64 (A 5 (3 * t + q)).toInt64 (pt_3 x y z q).toInt64 * pt_offm (A 4 (3 * t + q)).toInt64 (A 5 (3 * t + q)).toInt64 (pt_3 x y z q).toInt64) i + (0 : Int64) * (0 : Int64) := by show _ + (pt_offm (A 4 (3 * t + i)).toInt64 (A 5 (3 * t + i)).toInt64 (pt_3 x y z i).toInt64 * pt_offm (A 4 (3 * t + i)).toInt64 (A 5 (3 * t + i)).toInt64 (pt_3 x y z i).toInt64) = _; rw [eo]
          exact ih (i + 1) _ ⟨by omega, by rw [es]; exact lv_sub hl [0, 1, 4, 5, 6, 7, 8] rfl⟩ (by omega)
        · have d92 : ¬ (pt_3 x y z i).toInt64 ≤ (A 5 (3 * t + i)).toInt64 := fun q => c92 ((lg_cmp_le _ _).mpr q)
          refine lv_lload hx hb dX2_square_95 (lv_at hl 0 rfl) ?_
          refine lv_aload_n hx hb dX2_square_97 rfl (lv_at hl 3 rfl) ?_
          refine va_get (D := (dC, dI)) (ci := 2) (v := .ref (a 5)) (C := RX2) (T := TX2) (N := 27) hx hb hts iw_c_X2_square_wsX20 hown hK hP 0 rfl rfl 5 (by decide) (hts _ wd_c_X2_square_X2_square_2) (fun _ h9 => h9) rfl dX2_square_98 ?_
          refine lv_iconst (v := nI 3) hx hb dX2_square_101 (by decide) ?_
          refine lv_iload_n hx hb dX2_square_102 rfl (lv_at hl 4 rfl) ?_
          refine lv_imul hx hb dX2_square_103 ?_
          refine pt_top (y := nI (3 * t)) (pk_mul _ _) ?_
          refine lv_iload hx hb dX2_square_104 (lv_at hl 1 rfl) ?_
          refine lv_iadd hx hb dX2_square_106 ?_
          refine pt_top (y := nI ((3 * t) + i)) (nI_add _ _) ?_
          refine pt_iald hx hb hK hP 3 2 rfl rfl ((3 * t) + i) rfl (by omega) (by decide) dX2_square_107 ?_
          refine lv_i2l (v := ((A 5 ((3 * t) + i))).toInt64) hx hb dX2_square_108 rfl ?_
          refine lv_lsub hx hb dX2_square_109 ?_
          refine lv_goto (tgt := 114) hx hb dX2_square_110 (by decide) ?_
          refine lv_lstore (lv' := [(10, .long (((pt_3 x y z i).toInt64) - (((A 5 ((3 * t) + i))).toInt64))), (8, .long ((pt_3 x y z i).toInt64)), (7, .int (nI i)), (5, .long (pt_sqs (fun q => pt_offm (A 4 (3 * t + q)).toInt64 (A 5 (3 * t + q)).toInt64 (pt_3 x y z q).toInt64 * pt_offm (A 4 (3 * t + q)).toInt64 (A 5 (3 * t + q)).toInt64 (pt_3 x y z q).toInt64) i)), (0, .ref (a 0)), (1, .int (nI t)), (2, .int x), (3, .int y), (4, .int z)]) hx hb dX2_square_114 hl (by decide) rfl (fun ls hl => ?_)
          refine lv_lload hx hb dX2_square_116 (lv_at hl 3 rfl) ?_
          refine lv_lload hx hb dX2_square_118 (lv_at hl 0 rfl) ?_
          refine lv_lload hx hb dX2_square_120 (lv_at hl 0 rfl) ?_
          refine lv_lmul hx hb dX2_square_122 ?_
          refine lv_ladd hx hb dX2_square_123 ?_
          refine lv_lstore (lv' := [(5, .long ((pt_sqs (fun q => pt_offm (A 4 (3 * t + q)).toInt64 (A 5 (3 * t + q)).toInt64 (pt_3 x y z q).toInt64 * pt_offm (A 4 (3 * t + q)).toInt64 (A 5 (3 * t + q)).toInt64 (pt_3 x y z q).toInt64) i) + ((((pt_3 x y z i).toInt64) - (((A 5 ((3 * t) + i))).toInt64)) * (((pt_3 x y z i).toInt64) - (((A 5 ((3 * t) + i))).toInt64))))), (10, .long (((pt_3 x y z i).toInt64) - (((A 5 ((3 * t) + i))).toInt64))), (8, .long ((pt_3 x y z i).toInt64)), (7, .int (nI i)), (0, .ref (a 0)), (1, .int (nI t)), (2, .int x), (3, .int y), (4, .int z)]) hx hb dX2_square_124 hl (by decide) rfl (fun ls hl => ?_)
          refine lv_iinc (v := nI (i + 1)) (lv' := [(7, .int (nI (i + 1))), (5, .long ((pt_sqs (fun q => pt_offm (A 4 (3 * t + q)).toInt64 (A 5 (3 * t + q)).toInt64 (pt_3 x y z q).toInt64 * pt_offm (A 4 (3 * t + q)).toInt64 (A 5 (3 * t + q)).toInt64 (pt_3 x y z q).toInt64) i) + ((((pt_3 x y z i).toInt64) - (((A 5 ((3 * t) + i))).toInt64)) * (((pt_3 x y z i).toInt64) - (((A 5 ((3 * t) + i))).toInt64))))), (10, .long (((pt_3 x y z i).toInt64) - (((A 5 ((3 * t) + i))).toInt64))), (8, .long ((pt_3 x y z i).toInt64)), (0, .ref (a 0)), (1, .int (nI t)), (2, .int x), (3, .int y), (4, .int z)]) hx hb dX2_square_126 hl (k := 3) rfl (nI_1 _) (by decide) rfl (fun ls hl => ?_)
          refine lv_goto (tgt := 6) hx hb dX2_square_129 (by decide) ?_
          have eo : pt_offm (A 4 (3 * t + i)).toInt64 (A 5 (3 * t + i)).toInt64 (pt_3 x y z i).toInt64 = (((pt_3 x y z i).toInt64) - (((A 5 ((3 * t) + i))).toInt64)) := by unfold pt_offm; rw [if_neg (Int64.not_lt.mpr d56), if_pos (Int64.not_le.mp d92)]
          have es : pt_sqs (fun q => pt_offm (A 4 (3 * t + q)).toInt64 (A 5 (3 * t + q)).toInt64 (pt_3 x y z q).toInt64 * pt_offm (A 4 (3 * t + q)).toInt64 (A 5 (3 * t + q)).toInt64 (pt_3 x y z q).toInt64) (i + 1) = pt_sqs (fun q => pt_offm (A 4 (3 * t + q)).toInt64 (A 5 (3 * t + q)).toInt64 (pt_3 x y z q).toInt64 * pt_offm (A 4 (3 * t + q)).toInt64 (A 5 (3 * t + q)).toInt64 (pt_3 x y z q).toInt64) i + (((pt_3 x y z i).toInt64) - (((A 5 ((3 * t) + i))).toInt64)) * (((pt_3 x y z i).toInt64) - (((A 5 ((3 * t) + i))).toInt64)) := by show _ + (pt_offm (A 4 (3 * t + i)).toInt64 (A 5 (3 * t + i)).toInt64 (pt_3 x y z i).toInt64 * pt_offm (A 4 (3 * t + i)).toInt64 (A 5 (3 * t + i)).toInt64 (pt_3 x y z i).toInt64) = _; rw [eo]
          exact ih (i + 1) _ ⟨by omega, by rw [es]; exact lv_sub hl [0, 1, 4, 5, 6, 7, 8] rfl⟩ (by omega)
      · have d56 : ¬ (A 4 (3 * t + i)).toInt64 ≤ (pt_3 x y z i).toInt64 := fun q => c56 ((lg_cmp_ge _ _).mpr q)
        refine lv_aload_n hx hb dX2_square_59 rfl (lv_at hl 3 rfl) ?_
        refine va_get (D := (dC, dI)) (ci := 2) (v := .ref (a 4)) (C := RX2) (T := TX2) (N := 27) hx hb hts iw_c_X2_square_wsX20 hown hK hP 0 rfl rfl 4 (by decide) (hts _ wd_c_X2_square_X2_square_1) (fun _ h9 => h9) rfl dX2_square_60 ?_
        refine lv_iconst (v := nI 3) hx hb dX2_square_63 (by decide) ?_
        refine lv_iload_n hx hb dX2_square_64 rfl (lv_at hl 4 rfl) ?_
        refine lv_imul hx hb dX2_square_65 ?_
        refine pt_top (y := nI (3 * t)) (pk_mul _ _) ?_
        refine lv_iload hx hb dX2_square_66 (lv_at hl 1 rfl) ?_
        refine lv_iadd hx hb dX2_square_68 ?_
        refine pt_top (y := nI ((3 * t) + i)) (nI_add _ _) ?_
        refine pt_iald hx hb hK hP 2 1 rfl rfl ((3 * t) + i) rfl (by omega) (by decide) dX2_square_69 ?_
        refine lv_i2l (v := ((A 4 ((3 * t) + i))).toInt64) hx hb dX2_square_70 rfl ?_
        refine lv_lload hx hb dX2_square_71 (lv_at hl 0 rfl) ?_
        refine lv_lsub hx hb dX2_square_73 ?_
        refine lv_goto (tgt := 114) hx hb dX2_square_74 (by decide) ?_
        refine lv_lstore (lv' := [(10, .long ((((A 4 ((3 * t) + i))).toInt64) - ((pt_3 x y z i).toInt64))), (8, .long ((pt_3 x y z i).toInt64)), (7, .int (nI i)), (5, .long (pt_sqs (fun q => pt_offm (A 4 (3 * t + q)).toInt64 (A 5 (3 * t + q)).toInt64 (pt_3 x y z q).toInt64 * pt_offm (A 4 (3 * t + q)).toInt64 (A 5 (3 * t + q)).toInt64 (pt_3 x y z q).toInt64) i)), (0, .ref (a 0)), (1, .int (nI t)), (2, .int x), (3, .int y), (4, .int z)]) hx hb dX2_square_114 hl (by decide) rfl (fun ls hl => ?_)
        refine lv_lload hx hb dX2_square_116 (lv_at hl 3 rfl) ?_
        refine lv_lload hx hb dX2_square_118 (lv_at hl 0 rfl) ?_
        refine lv_lload hx hb dX2_square_120 (lv_at hl 0 rfl) ?_
        refine lv_lmul hx hb dX2_square_122 ?_
        refine lv_ladd hx hb dX2_square_123 ?_
        refine lv_lstore (lv' := [(5, .long ((pt_sqs (fun q => pt_offm (A 4 (3 * t + q)).toInt64 (A 5 (3 * t + q)).toInt64 (pt_3 x y z q).toInt64 * pt_offm (A 4 (3 * t + q)).toInt64 (A 5 (3 * t + q)).toInt64 (pt_3 x y z q).toInt64) i) + (((((A 4 ((3 * t) + i))).toInt64) - ((pt_3 x y z i).toInt64)) * ((((A 4 ((3 * t) + i))).toInt64) - ((pt_3 x y z i).toInt64))))), (10, .long ((((A 4 ((3 * t) + i))).toInt64) - ((pt_3 x y z i).toInt64))), (8, .long ((pt_3 x y z i).toInt64)), (7, .int (nI i)), (0, .ref (a 0)), (1, .int (nI t)), (2, .int x), (3, .int y), (4, .int z)]) hx hb dX2_square_124 hl (by decide) rfl (fun ls hl => ?_)
        refine lv_iinc (v := nI (i + 1)) (lv' := [(7, .int (nI (i + 1))), (5, .long ((pt_sqs (fun q => pt_offm (A 4 (3 * t + q)).toInt64 (A 5 (3 * t + q)).toInt64 (pt_3 x y z q).toInt64 * pt_offm (A 4 (3 * t + q)).toInt64 (A 5 (3 * t + q)).toInt64 (pt_3 x y z q).toInt64) i) + (((((A 4 ((3 * t) + i))).toInt64) - ((pt_3 x y z i).toInt64)) * ((((A 4 ((3 * t) + i))).toInt64) - ((pt_3 x y z i).toInt64))))), (10, .long ((((A 4 ((3 * t) + i))).toInt64) - ((pt_3 x y z i).toInt64))), (8, .long ((pt_3 x y z i).toInt64)), (0, .ref (a 0)), (1, .int (nI t)), (2, .int x), (3, .int y), (4, .int z)]) hx hb dX2_square_126 hl (k := 3) rfl (nI_1 _) (by decide) rfl (fun ls hl => ?_)
        refine lv_goto (tgt := 6) hx hb dX2_square_129 (by decide) ?_
        have eo : pt_offm (A 4 (3 * t + i)).toInt64 (A 5 (3 * t + i)).toInt64 (pt_3 x y z i).toInt64 = ((((A 4 ((3 * t) + i))).toInt64) - ((pt_3 x y z i).toInt64)) := by unfold pt_offm; rw [if_pos (Int64.not_le.mp d56)]
        have es : pt_sqs (fun q => pt_offm (A 4 (3 * t + q)).toInt64 (A 5 (3 * t + q)).toInt64 (pt_3 x y z q).toInt64 * pt_offm (A 4 (3 * t + q)).toInt64 (A 5 (3 * t + q)).toInt64 (pt_3 x y z q).toInt64) (i + 1) = pt_sqs (fun q => pt_offm (A 4 (3 * t + q)).toInt64 (A 5 (3 * t + q)).toInt64 (pt_3 x y z q).toInt64 * pt_offm (A 4 (3 * t + q)).toInt64 (A 5 (3 * t + q)).toInt64 (pt_3 x y z q).toInt64) i + ((((A 4 ((3 * t) + i))).toInt64) - ((pt_3 x y z i).toInt64)) * ((((A 4 ((3 * t) + i))).toInt64) - ((pt_3 x y z i).toInt64)) := by show _ + (pt_offm (A 4 (3 * t + i)).toInt64 (A 5 (3 * t + i)).toInt64 (pt_3 x y z i).toInt64 * pt_offm (A 4 (3 * t + i)).toInt64 (A 5 (3 * t + i)).toInt64 (pt_3 x y z i).toInt64) = _; rw [eo]
        exact ih (i + 1) _ ⟨by omega, by rw [es]; exact lv_sub hl [0, 1, 4, 5, 6, 7, 8] rfl⟩ (by omega)
    · refine lv_iload hx hb dX2_square_15 (lv_at hl 0 rfl) ?_
      refine lv_if_ne (tgt := 25) hx hb dX2_square_17 (by decide) (fun c17 => ?_) (fun c17 => ?_)
      · have d17 : ¬ i = 0 := fun q => c17 (by rw [q]; rfl)
        refine lv_iload hx hb dX2_square_25 (lv_at hl 0 rfl) ?_
        refine lv_iconst (v := nI 1) hx hb dX2_square_27 (by decide) ?_
        refine lv_icmp_ne (tgt := 36) hx hb dX2_square_28 (by decide) (fun c28 => ?_) (fun c28 => ?_)
        · have d28 : ¬ i = 1 := fun q => c28 (by rw [q])
          refine lv_iload hx hb dX2_square_36 (lv_at hl 6 rfl) ?_
          refine lv_i2l (v := (z).toInt64) hx hb dX2_square_38 rfl ?_
          exact J15 _ (by first | exact congrArg Int32.toInt64 (pt_3_0 d17) | exact congrArg Int32.toInt64 (pt_3_1 d17 d28) | exact congrArg Int32.toInt64 (pt_3_2 d17 d28))
        · have d28 : i = 1 := (nI_eq (by omega) (by omega)).mp c28
          refine lv_iload_n hx hb dX2_square_31 rfl (lv_at hl 5 rfl) ?_
          refine lv_i2l (v := (y).toInt64) hx hb dX2_square_32 rfl ?_
          refine lv_goto (tgt := 39) hx hb dX2_square_33 (by decide) ?_
          exact J15 _ (by first | exact congrArg Int32.toInt64 (pt_3_0 d17) | exact congrArg Int32.toInt64 (pt_3_1 d17 d28) | exact congrArg Int32.toInt64 (pt_3_2 d17 d28))
      · have d17 : i = 0 := (nI_eq (b := 0) (by omega) (by omega)).mp c17
        refine lv_iload_n hx hb dX2_square_20 rfl (lv_at hl 4 rfl) ?_
        refine lv_i2l (v := (x).toInt64) hx hb dX2_square_21 rfl ?_
        refine lv_goto (tgt := 39) hx hb dX2_square_22 (by decide) ?_
        exact J15 _ (by first | exact congrArg Int32.toInt64 (pt_3_0 d17) | exact congrArg Int32.toInt64 (pt_3_1 d17 d28) | exact congrArg Int32.toInt64 (pt_3_2 d17 d28))

theorem wd_c_X2_distance_X2_distance_0 : Cond.fieldLink RX2 69 "PointTreesModel" "thrown" "I" ∈ wsX2_distance := by decide +kernel
theorem wd_c_X2_distance_X2_distance_1 : Cond.constantLong RX2 107 (-9223372036854775808) ∈ wsX2_distance := by decide +kernel
theorem iw_c_X2_distance_wsX20 : ∀ w ∈ wsX20, w ∈ wsX2_distance := fun _ h => List.mem_cons_of_mem _ (List.mem_append_right _ h)
set_option maxHeartbeats 4000000 in
set_option maxRecDepth 100000 in
theorem c_X2_distance (l : Launch) (dC : Nat → ClassId) (dI : Nat → Nat → Nat) (a : Nat → Nat) (c : Nat → ClassId) (F : Nat → Int32) (A : Nat → Nat → Int32) (sz : Nat) (ax : Nat) (h1 : F 1 = nI ax) (hax : ax ≤ 3) (md : Nat) (h2 : F 2 = nI md) (hmd : md ≤ 64) (k x y z : Int32) : Met l yX2_distance wsX2_distance (pt_rm 2) (pt_W (dC, dI) vwCl (pt_mt c) (pt_mw a c F A) pt_nw sz [.ref (a 0), .int k, .int x, .int y, .int z]) (va_Ql (fun (r : Int64) (u : pt_MS) => ((∃ t, t < md ∧ k = nI t ∧ ¬ A 3 t = 0 ∧ pt_box ax x x y y z z ∧ r = (pt_sqm ax (fun q => A 4 (3 * t + q)) (fun q => A 5 (3 * t + q)) x y z)) ∨ (¬ (pt_in md (fun t => ¬ A 3 t = 0) k ∧ pt_box ax x x y y z z) ∧ r = -9223372036854775808)) ∧ u = ((upd F 0 (nI 0)), A)) (fun u t => va_P (dC, dI) vwCl (pt_mw a c u.1 u.2) t.heap) (va_A (pt_mw a c F A) sz)) 0 0 (va_A (pt_mw a c F A) sz) := by
  refine Met.ofW (cc := cX2_distance) (maxL := 5) (ret := (some .long)) (by decide) rfl ?_
  intro p e s m args below meth cd s₁ B hml hv
  obtain ⟨rfl, hsz, hP, hK, hN, hD0⟩ := hv
  have hx := B.exec
  have hb := B.bytes
  have hr := B.returns
  have hts := atoms_spec (ws := wsX2_distance) B.pre
  have hown : s.vm.findClass RX2 = some m.cls := findClass_of_methodNamed B.named
  have hlocks := B.notSynchronized
  subst hsz
  have hD := hD0.self (sz := s.heap.size)
  generalize hAe : va_A (pt_mw a c F A) s.heap.size = AA at hD ⊢
  have hA : ∀ q : Nat, s.heap.size ≤ q → AA q := fun q h => by rw [← hAe]; exact Or.inr h
  have hS : va_S AA s.heap s.heap [] := va_S.rf
  have hl := lv_entry ([.ref (a 0), .int k, .int x, .int y, .int z]) (n := 5) (Nat.le_of_ble_eq_true rfl)
  rw [lg_entry_eq]
  generalize (lg_sl ([.ref (a 0), .int k, .int x, .int y, .int z]) ++ List.replicate (5 - (lg_sl ([.ref (a 0), .int k, .int x, .int y, .int z])).length) Slot.unset).toArray = ls at hl ⊢
  have hl : lv_has ls 5 [(0, .ref (a 0)), (1, .int k), (2, .int x), (3, .int y), (4, .int z)] := hl
  refine lv_aload_n hx hb dX2_distance_0 rfl (lv_at hl 0 rfl) ?_
  refine lv_iconst (v := nI 0) hx hb dX2_distance_1 (by decide) ?_
  obtain ⟨F1, eF1⟩ : ∃ zz, zz = upd F 0 (nI 0) := ⟨_, rfl⟩
  refine va_put (D := (dC, dI)) (ci := 2) (v := .int (nI 0)) (ty := .int) (C := RX2) (T := TX2) (N := 27) hx hb hts iw_c_X2_distance_wsX20 tyX2 tyX2_ok nmX2 hown hK hP hD hS 0 rfl rfl 0 (by decide) (hts _ wd_c_X2_distance_X2_distance_0) (fun _ h9 => h9) rfl (by decide +kernel) rfl rfl (Nat.le_of_ble_eq_true rfl) dX2_distance_2 (fun H locs hP hD hS => ?_)
  have hP : va_P (dC, dI) vwCl (pt_mw a c F1 A) H := by rw [eF1]; exact hP
  have hD : va_D AA (pt_mw a c F1 A) := by rw [eF1]; exact hD
  have kF1_1 : F1 1 = nI ax := by rw [eF1, pt_upd_ne (by decide)]; exact h1
  have kF1_2 : F1 2 = nI md := by rw [eF1, pt_upd_ne (by decide)]; exact h2
  have kF1_0 : F1 0 = nI 0 := by rw [eF1, pt_upd]
  refine lv_aload_n hx hb dX2_distance_5 rfl (lv_at hl 0 rfl) ?_
  refine lv_iload_n hx hb dX2_distance_6 rfl (lv_at hl 1 rfl) ?_
  refine pt_rdi (va_runV (As := [.int k]) (rest := []) ⟨hx, hb, hml, hown, hts⟩ (c_X2_isThing l dC dI a c F1 A md kF1_2 hmd k) (cwV 1 hts gX2_distance_X2_isThing rfl rfl rfl (by decide +kernel) ⟨Nat.le_of_ble_eq_true rfl, Nat.le_of_ble_eq_true rfl⟩) (pt_pv2 hP hK hN (q0 := 0) rfl) rfl rfl hl.1 rfl (lv_room (Nat.le_of_ble_eq_true rfl)) dX2_distance_7 ⟨Nat.le_of_ble_eq_true rfl, Nat.le_of_ble_eq_true rfl⟩) (fun r7 hr7 => ?_)
  refine lv_if_eq (tgt := 36) hx hb dX2_distance_10 (by decide) (fun c10 => ?_) (fun c10 => ?_)
  · have d10 := hr7.f c10
    refine lv_ldc2 (v := -9223372036854775808) hx hb hown (hts _ wd_c_X2_distance_X2_distance_1) dX2_distance_36 ?_
    exact W.lret (v := (-9223372036854775808 : Int64)) hx hb hr (fun zt zh zW => ⟨⟨_, (F1, A), rfl, ⟨Or.inr ⟨fun q => by first | exact d21 q.2 | exact d10 q.1, rfl⟩, by rw [eF1]⟩, by show va_P _ _ _ zt.heap; rw [zh]; exact hP⟩, hS.F zh⟩) hS.2.2 dX2_distance_39
  · have d10 := hr7.t c10
    refine lv_aload_n hx hb dX2_distance_13 rfl (lv_at hl 0 rfl) ?_
    refine lv_iload_n hx hb dX2_distance_14 rfl (lv_at hl 2 rfl) ?_
    refine lv_iload_n hx hb dX2_distance_15 rfl (lv_at hl 3 rfl) ?_
    refine lv_iload hx hb dX2_distance_16 (lv_at hl 4 rfl) ?_
    refine pt_rdi (va_runV (As := [.int x, .int y, .int z]) (rest := []) ⟨hx, hb, hml, hown, hts⟩ (c_X2_isAt l dC dI a c F1 A ax kF1_1 hax x y z) (cwV 3 hts gX2_distance_X2_isAt rfl rfl rfl (by decide +kernel) ⟨Nat.le_of_ble_eq_true rfl, Nat.le_of_ble_eq_true rfl⟩) (pt_pv2 hP hK hN (q0 := 0) rfl) rfl rfl hl.1 rfl (lv_room (Nat.le_of_ble_eq_true rfl)) dX2_distance_18 ⟨Nat.le_of_ble_eq_true rfl, Nat.le_of_ble_eq_true rfl⟩) (fun r18 hr18 => ?_)
    refine lv_if_eq (tgt := 36) hx hb dX2_distance_21 (by decide) (fun c21 => ?_) (fun c21 => ?_)
    · have d21 := hr18.f c21
      refine lv_ldc2 (v := -9223372036854775808) hx hb hown (hts _ wd_c_X2_distance_X2_distance_1) dX2_distance_36 ?_
      exact W.lret (v := (-9223372036854775808 : Int64)) hx hb hr (fun zt zh zW => ⟨⟨_, (F1, A), rfl, ⟨Or.inr ⟨fun q => by first | exact d21 q.2 | exact d10 q.1, rfl⟩, by rw [eF1]⟩, by show va_P _ _ _ zt.heap; rw [zh]; exact hP⟩, hS.F zh⟩) hS.2.2 dX2_distance_39
    · have d21 := hr18.t c21
      obtain ⟨t, ht, ek, hT⟩ := d10
      subst ek
      refine lv_aload_n hx hb dX2_distance_24 rfl (lv_at hl 0 rfl) ?_
      refine lv_iload_n hx hb dX2_distance_25 rfl (lv_at hl 1 rfl) ?_
      refine lv_iload_n hx hb dX2_distance_26 rfl (lv_at hl 2 rfl) ?_
      refine lv_iload_n hx hb dX2_distance_27 rfl (lv_at hl 3 rfl) ?_
      refine lv_iload hx hb dX2_distance_28 (lv_at hl 4 rfl) ?_
      refine pt_rdl (va_runV (As := [.int (nI t), .int x, .int y, .int z]) (rest := []) ⟨hx, hb, hml, hown, hts⟩ (c_X2_square l dC dI a c F1 A ax kF1_1 hax t (by omega) x y z) (cwV 4 hts gX2_distance_X2_square rfl rfl rfl (by decide +kernel) ⟨Nat.le_of_ble_eq_true rfl, Nat.le_of_ble_eq_true rfl⟩) (pt_pv2 hP hK hN (q0 := 0) rfl) rfl rfl hl.1 rfl (lv_room (Nat.le_of_ble_eq_true rfl)) dX2_distance_30 ⟨Nat.le_of_ble_eq_true rfl, Nat.le_of_ble_eq_true rfl⟩) (fun r30 hr30 => ?_)
      refine pt_topl (y := (pt_sqm ax (fun q => A 4 (3 * t + q)) (fun q => A 5 (3 * t + q)) x y z)) hr30 ?_
      refine lv_goto (tgt := 39) hx hb dX2_distance_33 (by decide) ?_
      exact W.lret (v := (pt_sqm ax (fun q => A 4 (3 * t + q)) (fun q => A 5 (3 * t + q)) x y z)) hx hb hr (fun zt zh zW => ⟨⟨_, (F1, A), rfl, ⟨Or.inl ⟨t, ht, rfl, hT, d21, rfl⟩, by rw [eF1]⟩, by show va_P _ _ _ zt.heap; rw [zh]; exact hP⟩, hS.F zh⟩) hS.2.2 dX2_distance_39

theorem wd_c_X2_nearest_X2_nearest_0 : Cond.fieldLink RX2 69 "PointTreesModel" "thrown" "I" ∈ wsX2_nearest := by decide +kernel
theorem wd_c_X2_nearest_X2_nearest_1 : Cond.fieldLink RX2 72 "PointTreesModel" "made" "I" ∈ wsX2_nearest := by decide +kernel
theorem wd_c_X2_nearest_X2_nearest_2 : Cond.fieldLink RX2 13 "PointTreesModel" "there" "[Z" ∈ wsX2_nearest := by decide +kernel
theorem iw_c_X2_nearest_wsX20 : ∀ w ∈ wsX20, w ∈ wsX2_nearest := fun _ h => List.mem_cons_of_mem _ (List.mem_append_right _ h)
set_option maxHeartbeats 4000000 in
set_option maxRecDepth 100000 in
theorem c_X2_nearest (l : Launch) (dC : Nat → ClassId) (dI : Nat → Nat → Nat) (a : Nat → Nat) (c : Nat → ClassId) (F : Nat → Int32) (A : Nat → Nat → Int32) (sz : Nat) (ax : Nat) (h1 : F 1 = nI ax) (hax : ax ≤ 3) (md : Nat) (h2 : F 2 = nI md) (hmd : md ≤ 64) (x y z k : Int32) : Met l yX2_nearest wsX2_nearest (pt_rm 2) (pt_W (dC, dI) vwCl (pt_mt c) (pt_mw a c F A) pt_nw sz [.ref (a 0), .int x, .int y, .int z, .int k]) (va_Qi (fun (r : Int32) (u : pt_MS) => ((¬ pt_in (pt_cnt (fun t => ¬ A 3 t = 0) md) (fun _ => True) k ∧ r = -1) ∨ (pt_in (pt_cnt (fun t => ¬ A 3 t = 0) md) (fun _ => True) k ∧ ¬ pt_box ax x x y y z z ∧ r = -2) ∨ (pt_in (pt_cnt (fun t => ¬ A 3 t = 0) md) (fun _ => True) k ∧ pt_box ax x x y y z z ∧ pt_fst (pt_rk (fun t => ¬ A 3 t = 0) (fun t => pt_sqm ax (fun q => A 4 (3 * t + q)) (fun q => A 5 (3 * t + q)) x y z) md k) md r)) ∧ u = ((upd F 0 (nI 0)), A)) (fun u t => va_P (dC, dI) vwCl (pt_mw a c u.1 u.2) t.heap) (va_A (pt_mw a c F A) sz)) 0 0 (va_A (pt_mw a c F A) sz) := by
  refine Met.ofW (cc := cX2_nearest) (maxL := 9) (ret := (some .int)) (by decide) rfl ?_
  intro p e s m args below meth cd s₁ B hml hv
  obtain ⟨rfl, hsz, hP, hK, hN, hD0⟩ := hv
  have hx := B.exec
  have hb := B.bytes
  have hr := B.returns
  have hts := atoms_spec (ws := wsX2_nearest) B.pre
  have hown : s.vm.findClass RX2 = some m.cls := findClass_of_methodNamed B.named
  have hlocks := B.notSynchronized
  subst hsz
  have hD := hD0.self (sz := s.heap.size)
  generalize hAe : va_A (pt_mw a c F A) s.heap.size = AA at hD ⊢
  have hA : ∀ q : Nat, s.heap.size ≤ q → AA q := fun q h => by rw [← hAe]; exact Or.inr h
  have hS : va_S AA s.heap s.heap [] := va_S.rf
  have hl := lv_entry ([.ref (a 0), .int x, .int y, .int z, .int k]) (n := 9) (Nat.le_of_ble_eq_true rfl)
  rw [lg_entry_eq]
  generalize (lg_sl ([.ref (a 0), .int x, .int y, .int z, .int k]) ++ List.replicate (9 - (lg_sl ([.ref (a 0), .int x, .int y, .int z, .int k])).length) Slot.unset).toArray = ls at hl ⊢
  have hl : lv_has ls 9 [(0, .ref (a 0)), (1, .int x), (2, .int y), (3, .int z), (4, .int k)] := hl
  refine lv_aload_n hx hb dX2_nearest_0 rfl (lv_at hl 0 rfl) ?_
  refine lv_iconst (v := nI 0) hx hb dX2_nearest_1 (by decide) ?_
  obtain ⟨F1, eF1⟩ : ∃ zz, zz = upd F 0 (nI 0) := ⟨_, rfl⟩
  refine va_put (D := (dC, dI)) (ci := 2) (v := .int (nI 0)) (ty := .int) (C := RX2) (T := TX2) (N := 27) hx hb hts iw_c_X2_nearest_wsX20 tyX2 tyX2_ok nmX2 hown hK hP hD hS 0 rfl rfl 0 (by decide) (hts _ wd_c_X2_nearest_X2_nearest_0) (fun _ h9 => h9) rfl (by decide +kernel) rfl rfl (Nat.le_of_ble_eq_true rfl) dX2_nearest_2 (fun H locs hP hD hS => ?_)
  have hP : va_P (dC, dI) vwCl (pt_mw a c F1 A) H := by rw [eF1]; exact hP
  have hD : va_D AA (pt_mw a c F1 A) := by rw [eF1]; exact hD
  have kF1_1 : F1 1 = nI ax := by rw [eF1, pt_upd_ne (by decide)]; exact h1
  have kF1_2 : F1 2 = nI md := by rw [eF1, pt_upd_ne (by decide)]; exact h2
  have kF1_0 : F1 0 = nI 0 := by rw [eF1, pt_upd]
  refine lv_iload hx hb dX2_nearest_5 (lv_at hl 4 rfl) ?_
  refine lv_if_lt (tgt := 19) hx hb dX2_nearest_7 (by decide) (fun c7 => ?_) (fun c7 => ?_)
  · refine lv_iconst (v := (-1)) hx hb dX2_nearest_19 (by decide) ?_
    exact W.iret (v := (-1)) hx hb hr (fun zt zh zW => ⟨⟨_, (F1, A), rfl, ⟨Or.inl ⟨by first | exact pt_in_hi (Int32.not_lt.mp c16) (by omega) | exact pt_in_lo c7 (by have := pt_cnt_le (fun t => ¬ A 3 t = 0) md; omega), rfl⟩, by rw [eF1]⟩, by show va_P _ _ _ zt.heap; rw [zh]; exact hP⟩, hS.F zh⟩) hS.2.2 dX2_nearest_20
  · refine lv_iload hx hb dX2_nearest_10 (lv_at hl 4 rfl) ?_
    refine lv_aload_n hx hb dX2_nearest_12 rfl (lv_at hl 0 rfl) ?_
    refine pt_calli (wf := (fun u : pt_MS => pt_mw a c u.1 u.2)) (va_runV (As := []) (rest := [.int k]) ⟨hx, hb, hml, hown, hts⟩ (c_X2_count l dC dI a c F1 A _ md kF1_2 hmd) (cwV 0 hts gX2_nearest_X2_count rfl rfl rfl (by decide +kernel) ⟨Nat.le_of_ble_eq_true rfl, Nat.le_of_ble_eq_true rfl⟩) (pt_wv2 hP hK hN hD (q0 := 0) rfl) rfl rfl hl.1 rfl (lv_room (Nat.le_of_ble_eq_true rfl)) dX2_nearest_13 ⟨Nat.le_of_ble_eq_true rfl, Nat.le_of_ble_eq_true rfl⟩) hD hS hA (fun _ => rfl) (fun r13 u13 H locs hr13 hP hD hS => ?_)
    obtain ⟨hc2, hu2⟩ := hr13
    obtain ⟨F2, eF2⟩ : ∃ zz, zz = upd F1 0 (nI 0) := ⟨_, rfl⟩
    rw [← eF2] at hu2
    subst hu2
    dsimp only at hP hD
    have kc2_1 : F2 1 = nI ax := by rw [eF2, pt_upd_ne (by decide)]; exact kF1_1
    have kc2_2 : F2 2 = nI md := by rw [eF2, pt_upd_ne (by decide)]; exact kF1_2
    have eFF2 : F2 = (upd F 0 (nI 0)) := by rw [eF2, eF1]; funext j; unfold upd; split <;> rfl
    have hcm := pt_cnt_le (fun t => ¬ A 3 t = 0) md
    refine pt_top (y := nI (pt_cnt (fun t => ¬ A 3 t = 0) md)) hc2 ?_
    refine lv_icmp_lt (tgt := 21) hx hb dX2_nearest_16 (by decide) (fun c16 => ?_) (fun c16 => ?_)
    · obtain ⟨kk, hkk, ek⟩ := pt_ix c7 (Int32.not_le.mpr c16) (by omega)
      have hin : pt_in (pt_cnt (fun t => ¬ A 3 t = 0) md) (fun _ => True) k := ⟨kk, hkk, ek, trivial⟩
      refine lv_aload_n hx hb dX2_nearest_21 rfl (lv_at hl 0 rfl) ?_
      refine lv_iload_n hx hb dX2_nearest_22 rfl (lv_at hl 1 rfl) ?_
      refine lv_iload_n hx hb dX2_nearest_23 rfl (lv_at hl 2 rfl) ?_
      refine lv_iload_n hx hb dX2_nearest_24 rfl (lv_at hl 3 rfl) ?_
      refine pt_rdi (va_runV (As := [.int x, .int y, .int z]) (rest := []) ⟨hx, hb, hml, hown, hts⟩ (c_X2_isAt l dC dI a c F2 A ax kc2_1 hax x y z) (cwV 3 hts gX2_nearest_X2_isAt rfl rfl rfl (by decide +kernel) ⟨Nat.le_of_ble_eq_true rfl, Nat.le_of_ble_eq_true rfl⟩) (pt_pv2 hP hK hN (q0 := 0) rfl) rfl rfl hl.1 rfl (lv_room (Nat.le_of_ble_eq_true rfl)) dX2_nearest_25 ⟨Nat.le_of_ble_eq_true rfl, Nat.le_of_ble_eq_true rfl⟩) (fun r25 hr25 => ?_)
      refine lv_if_ne (tgt := 34) hx hb dX2_nearest_28 (by decide) (fun c28 => ?_) (fun c28 => ?_)
      · have d28 := hr25.t c28
        refine lv_iconst (v := nI 0) hx hb dX2_nearest_34 (by decide) ?_
        refine lv_istore (lv' := [(5, .int (nI 0)), (0, .ref (a 0)), (1, .int x), (2, .int y), (3, .int z), (4, .int k)]) hx hb dX2_nearest_35 hl (by decide) rfl (fun ls hl => ?_)
        refine pt_loopR (fun i : Nat => md - i) (fun i ls => i ≤ md ∧ (∀ v, v < i → ¬ pt_rk (fun t => ¬ A 3 t = 0) (fun t => pt_sqm ax (fun q => A 4 (3 * t + q)) (fun q => A 5 (3 * t + q)) x y z) md k v) ∧ lv_has ls 9 [(5, .int (nI i)), (0, .ref (a 0)), (1, .int x), (2, .int y), (3, .int z), (4, .int k)]) ?_ 0 _ ⟨Nat.zero_le _, fun v hv => absurd hv (Nat.not_lt_zero _), hl⟩
        intro i ls ⟨hi, hno, hl⟩ ih
        refine lv_iload hx hb dX2_nearest_37 (lv_at hl 0 rfl) ?_
        refine lv_aload_n hx hb dX2_nearest_39 rfl (lv_at hl 1 rfl) ?_
        refine va_get (D := (dC, dI)) (ci := 2) (v := .int (F2 2)) (C := RX2) (T := TX2) (N := 27) hx hb hts iw_c_X2_nearest_wsX20 hown hK hP 0 rfl rfl 2 (by decide) (hts _ wd_c_X2_nearest_X2_nearest_1) (fun _ h9 => h9) rfl dX2_nearest_40 ?_
        refine pt_top (y := nI md) kc2_2 ?_
        refine lv_icmp_ge (tgt := 186) hx hb dX2_nearest_43 (by decide) (fun c43 => ?_) (fun c43 => ?_)
        · have hie : i = md := by have := (nI_leI (by omega) (by omega)).mp c43; omega
          refine lv_iconst (v := (-1)) hx hb dX2_nearest_186 (by decide) ?_
          exact W.iret (v := (-1)) hx hb hr (fun zt zh zW => ⟨⟨_, (F2, A), rfl, ⟨Or.inr (Or.inr ⟨hin, d28, Or.inr ⟨fun t ht => hno t (by omega), rfl⟩⟩), by rw [eFF2]⟩, by show va_P _ _ _ zt.heap; rw [zh]; exact hP⟩, hS.F zh⟩) hS.2.2 dX2_nearest_187
        · have hlt : i < md := Nat.not_le.mp (fun q => c43 ((nI_leI (by omega) (by omega)).mpr q))
          refine lv_iconst (v := nI 0) hx hb dX2_nearest_46 (by decide) ?_
          refine lv_istore (lv' := [(6, .int (nI 0)), (5, .int (nI i)), (0, .ref (a 0)), (1, .int x), (2, .int y), (3, .int z), (4, .int k)]) hx hb dX2_nearest_47 hl (by decide) rfl (fun ls hl => ?_)
          refine lv_iconst (v := nI 0) hx hb dX2_nearest_49 (by decide) ?_
          refine lv_istore (lv' := [(7, .int (nI 0)), (6, .int (nI 0)), (5, .int (nI i)), (0, .ref (a 0)), (1, .int x), (2, .int y), (3, .int z), (4, .int k)]) hx hb dX2_nearest_50 hl (by decide) rfl (fun ls hl => ?_)
          refine pt_loopR (fun j : Nat => md - j) (fun j ls => j ≤ md ∧ lv_has ls 9 [(7, .int (nI j)), (6, .int (nI (pt_cnt (fun v => ¬ A 3 v = 0 ∧ ((fun t => pt_sqm ax (fun q => A 4 (3 * t + q)) (fun q => A 5 (3 * t + q)) x y z) v < (fun t => pt_sqm ax (fun q => A 4 (3 * t + q)) (fun q => A 5 (3 * t + q)) x y z) i ∨ ((fun t => pt_sqm ax (fun q => A 4 (3 * t + q)) (fun q => A 5 (3 * t + q)) x y z) v = (fun t => pt_sqm ax (fun q => A 4 (3 * t + q)) (fun q => A 5 (3 * t + q)) x y z) i ∧ v < i))) j))), (5, .int (nI i)), (0, .ref (a 0)), (1, .int x), (2, .int y), (3, .int z), (4, .int k)]) ?_ 0 _ ⟨Nat.zero_le _, hl⟩
          intro j ls ⟨hj, hl⟩ ihj
          refine lv_iload hx hb dX2_nearest_52 (lv_at hl 0 rfl) ?_
          refine lv_aload_n hx hb dX2_nearest_54 rfl (lv_at hl 3 rfl) ?_
          refine va_get (D := (dC, dI)) (ci := 2) (v := .int (F2 2)) (C := RX2) (T := TX2) (N := 27) hx hb hts iw_c_X2_nearest_wsX20 hown hK hP 0 rfl rfl 2 (by decide) (hts _ wd_c_X2_nearest_X2_nearest_1) (fun _ h9 => h9) rfl dX2_nearest_55 ?_
          refine pt_top (y := nI md) kc2_2 ?_
          refine lv_icmp_ge (tgt := 160) hx hb dX2_nearest_58 (by decide) (fun c58 => ?_) (fun c58 => ?_)
          · have hje : j = md := by have := (nI_leI (by omega) (by omega)).mp c58; omega
            have hfull : ¬ A 3 i = 0 → nI (pt_cnt (fun v => ¬ A 3 v = 0 ∧ ((fun t => pt_sqm ax (fun q => A 4 (3 * t + q)) (fun q => A 5 (3 * t + q)) x y z) v < (fun t => pt_sqm ax (fun q => A 4 (3 * t + q)) (fun q => A 5 (3 * t + q)) x y z) i ∨ ((fun t => pt_sqm ax (fun q => A 4 (3 * t + q)) (fun q => A 5 (3 * t + q)) x y z) v = (fun t => pt_sqm ax (fun q => A 4 (3 * t + q)) (fun q => A 5 (3 * t + q)) x y z) i ∧ v < i))) j) = nI (pt_cnt (fun v => ¬ A 3 v = 0 ∧ ((fun t => pt_sqm ax (fun q => A 4 (3 * t + q)) (fun q => A 5 (3 * t + q)) x y z) v < (fun t => pt_sqm ax (fun q => A 4 (3 * t + q)) (fun q => A 5 (3 * t + q)) x y z) i ∨ ((fun t => pt_sqm ax (fun q => A 4 (3 * t + q)) (fun q => A 5 (3 * t + q)) x y z) v = (fun t => pt_sqm ax (fun q => A 4 (3 * t + q)) (fun q => A 5 (3 * t + q)) x y z) i ∧ v < i))) md) := fun _ => by rw [hje]
            refine lv_aload_n hx hb dX2_nearest_160 rfl (lv_at hl 3 rfl) ?_
            refine va_get (D := (dC, dI)) (ci := 2) (v := .ref (a 3)) (C := RX2) (T := TX2) (N := 27) hx hb hts iw_c_X2_nearest_wsX20 hown hK hP 0 rfl rfl 3 (by decide) (hts _ wd_c_X2_nearest_X2_nearest_2) (fun _ h9 => h9) rfl dX2_nearest_161 ?_
            refine lv_iload hx hb dX2_nearest_164 (lv_at hl 2 rfl) ?_
            refine pt_zald hx hb hK hP 1 0 rfl rfl i rfl (by omega) (by decide) dX2_nearest_166 ?_
            refine lv_if_eq (tgt := 180) hx hb dX2_nearest_167 (by decide) (fun c167 => ?_) (fun c167 => ?_)
            · refine lv_iinc (v := nI (i + 1)) (lv' := [(5, .int (nI (i + 1))), (7, .int (nI j)), (6, .int (nI (pt_cnt (fun v => ¬ A 3 v = 0 ∧ ((fun t => pt_sqm ax (fun q => A 4 (3 * t + q)) (fun q => A 5 (3 * t + q)) x y z) v < (fun t => pt_sqm ax (fun q => A 4 (3 * t + q)) (fun q => A 5 (3 * t + q)) x y z) i ∨ ((fun t => pt_sqm ax (fun q => A 4 (3 * t + q)) (fun q => A 5 (3 * t + q)) x y z) v = (fun t => pt_sqm ax (fun q => A 4 (3 * t + q)) (fun q => A 5 (3 * t + q)) x y z) i ∧ v < i))) j))), (0, .ref (a 0)), (1, .int x), (2, .int y), (3, .int z), (4, .int k)]) hx hb dX2_nearest_180 hl (k := 2) rfl (nI_1 _) (by decide) rfl (fun ls hl => ?_)
              refine lv_goto (tgt := 37) hx hb dX2_nearest_183 (by decide) ?_
              exact ih (i + 1) _ ⟨by omega, fun v hv => (Nat.lt_succ_iff_lt_or_eq.mp hv).elim (hno v) (fun q => by subst q; intro h; first | exact c174 ((hfull h.1).trans h.2) | exact h.1 c167), lv_sub hl [0, 3, 4, 5, 6, 7] rfl⟩ (by omega)
            · refine lv_iload hx hb dX2_nearest_170 (lv_at hl 1 rfl) ?_
              refine lv_iload hx hb dX2_nearest_172 (lv_at hl 7 rfl) ?_
              refine lv_icmp_ne (tgt := 180) hx hb dX2_nearest_174 (by decide) (fun c174 => ?_) (fun c174 => ?_)
              · refine lv_iinc (v := nI (i + 1)) (lv' := [(5, .int (nI (i + 1))), (7, .int (nI j)), (6, .int (nI (pt_cnt (fun v => ¬ A 3 v = 0 ∧ ((fun t => pt_sqm ax (fun q => A 4 (3 * t + q)) (fun q => A 5 (3 * t + q)) x y z) v < (fun t => pt_sqm ax (fun q => A 4 (3 * t + q)) (fun q => A 5 (3 * t + q)) x y z) i ∨ ((fun t => pt_sqm ax (fun q => A 4 (3 * t + q)) (fun q => A 5 (3 * t + q)) x y z) v = (fun t => pt_sqm ax (fun q => A 4 (3 * t + q)) (fun q => A 5 (3 * t + q)) x y z) i ∧ v < i))) j))), (0, .ref (a 0)), (1, .int x), (2, .int y), (3, .int z), (4, .int k)]) hx hb dX2_nearest_180 hl (k := 2) rfl (nI_1 _) (by decide) rfl (fun ls hl => ?_)
                refine lv_goto (tgt := 37) hx hb dX2_nearest_183 (by decide) ?_
                exact ih (i + 1) _ ⟨by omega, fun v hv => (Nat.lt_succ_iff_lt_or_eq.mp hv).elim (hno v) (fun q => by subst q; intro h; first | exact c174 ((hfull h.1).trans h.2) | exact h.1 c167), lv_sub hl [0, 3, 4, 5, 6, 7] rfl⟩ (by omega)
              · refine lv_iload hx hb dX2_nearest_177 (lv_at hl 2 rfl) ?_
                exact W.iret (v := nI i) hx hb hr (fun zt zh zW => ⟨⟨_, (F2, A), rfl, ⟨Or.inr (Or.inr ⟨hin, d28, Or.inl ⟨i, hlt, ⟨c167, (hfull c167).symm.trans c174⟩, hno, rfl⟩⟩), by rw [eFF2]⟩, by show va_P _ _ _ zt.heap; rw [zh]; exact hP⟩, hS.F zh⟩) hS.2.2 dX2_nearest_179
          · have hjl : j < md := Nat.not_le.mp (fun q => c58 ((nI_leI (by omega) (by omega)).mpr q))
            refine lv_aload_n hx hb dX2_nearest_61 rfl (lv_at hl 3 rfl) ?_
            refine va_get (D := (dC, dI)) (ci := 2) (v := .ref (a 3)) (C := RX2) (T := TX2) (N := 27) hx hb hts iw_c_X2_nearest_wsX20 hown hK hP 0 rfl rfl 3 (by decide) (hts _ wd_c_X2_nearest_X2_nearest_2) (fun _ h9 => h9) rfl dX2_nearest_62 ?_
            refine lv_iload hx hb dX2_nearest_65 (lv_at hl 2 rfl) ?_
            refine pt_zald hx hb hK hP 1 0 rfl rfl i rfl (by omega) (by decide) dX2_nearest_67 ?_
            refine lv_if_eq (tgt := 160) hx hb dX2_nearest_68 (by decide) (fun c68 => ?_) (fun c68 => ?_)
            · have hfull : ¬ A 3 i = 0 → nI (pt_cnt (fun v => ¬ A 3 v = 0 ∧ ((fun t => pt_sqm ax (fun q => A 4 (3 * t + q)) (fun q => A 5 (3 * t + q)) x y z) v < (fun t => pt_sqm ax (fun q => A 4 (3 * t + q)) (fun q => A 5 (3 * t + q)) x y z) i ∨ ((fun t => pt_sqm ax (fun q => A 4 (3 * t + q)) (fun q => A 5 (3 * t + q)) x y z) v = (fun t => pt_sqm ax (fun q => A 4 (3 * t + q)) (fun q => A 5 (3 * t + q)) x y z) i ∧ v < i))) j) = nI (pt_cnt (fun v => ¬ A 3 v = 0 ∧ ((fun t => pt_sqm ax (fun q => A 4 (3 * t + q)) (fun q => A 5 (3 * t + q)) x y z) v < (fun t => pt_sqm ax (fun q => A 4 (3 * t + q)) (fun q => A 5 (3 * t + q)) x y z) i ∨ ((fun t => pt_sqm ax (fun q => A 4 (3 * t + q)) (fun q => A 5 (3 * t + q)) x y z) v = (fun t => pt_sqm ax (fun q => A 4 (3 * t + q)) (fun q => A 5 (3 * t + q)) x y z) i ∧ v < i))) md) := fun q => absurd c68 q
              refine lv_aload_n hx hb dX2_nearest_160 rfl (lv_at hl 3 rfl) ?_
              refine va_get (D := (dC, dI)) (ci := 2) (v := .ref (a 3)) (C := RX2) (T := TX2) (N := 27) hx hb hts iw_c_X2_nearest_wsX20 hown hK hP 0 rfl rfl 3 (by decide) (hts _ wd_c_X2_nearest_X2_nearest_2) (fun _ h9 => h9) rfl dX2_nearest_161 ?_
              refine lv_iload hx hb dX2_nearest_164 (lv_at hl 2 rfl) ?_
              refine pt_zald hx hb hK hP 1 0 rfl rfl i rfl (by omega) (by decide) dX2_nearest_166 ?_
              refine lv_if_eq (tgt := 180) hx hb dX2_nearest_167 (by decide) (fun c167 => ?_) (fun c167 => ?_)
              · refine lv_iinc (v := nI (i + 1)) (lv' := [(5, .int (nI (i + 1))), (7, .int (nI j)), (6, .int (nI (pt_cnt (fun v => ¬ A 3 v = 0 ∧ ((fun t => pt_sqm ax (fun q => A 4 (3 * t + q)) (fun q => A 5 (3 * t + q)) x y z) v < (fun t => pt_sqm ax (fun q => A 4 (3 * t + q)) (fun q => A 5 (3 * t + q)) x y z) i ∨ ((fun t => pt_sqm ax (fun q => A 4 (3 * t + q)) (fun q => A 5 (3 * t + q)) x y z) v = (fun t => pt_sqm ax (fun q => A 4 (3 * t + q)) (fun q => A 5 (3 * t + q)) x y z) i ∧ v < i))) j))), (0, .ref (a 0)), (1, .int x), (2, .int y), (3, .int z), (4, .int k)]) hx hb dX2_nearest_180 hl (k := 2) rfl (nI_1 _) (by decide) rfl (fun ls hl => ?_)
                refine lv_goto (tgt := 37) hx hb dX2_nearest_183 (by decide) ?_
                exact ih (i + 1) _ ⟨by omega, fun v hv => (Nat.lt_succ_iff_lt_or_eq.mp hv).elim (hno v) (fun q => by subst q; intro h; first | exact c174 ((hfull h.1).trans h.2) | exact h.1 c167), lv_sub hl [0, 3, 4, 5, 6, 7] rfl⟩ (by omega)
              · refine lv_iload hx hb dX2_nearest_170 (lv_at hl 1 rfl) ?_
                refine lv_iload hx hb dX2_nearest_172 (lv_at hl 7 rfl) ?_
                refine lv_icmp_ne (tgt := 180) hx hb dX2_nearest_174 (by decide) (fun c174 => ?_) (fun c174 => ?_)
                · refine lv_iinc (v := nI (i + 1)) (lv' := [(5, .int (nI (i + 1))), (7, .int (nI j)), (6, .int (nI (pt_cnt (fun v => ¬ A 3 v = 0 ∧ ((fun t => pt_sqm ax (fun q => A 4 (3 * t + q)) (fun q => A 5 (3 * t + q)) x y z) v < (fun t => pt_sqm ax (fun q => A 4 (3 * t + q)) (fun q => A 5 (3 * t + q)) x y z) i ∨ ((fun t => pt_sqm ax (fun q => A 4 (3 * t + q)) (fun q => A 5 (3 * t + q)) x y z) v = (fun t => pt_sqm ax (fun q => A 4 (3 * t + q)) (fun q => A 5 (3 * t + q)) x y z) i ∧ v < i))) j))), (0, .ref (a 0)), (1, .int x), (2, .int y), (3, .int z), (4, .int k)]) hx hb dX2_nearest_180 hl (k := 2) rfl (nI_1 _) (by decide) rfl (fun ls hl => ?_)
                  refine lv_goto (tgt := 37) hx hb dX2_nearest_183 (by decide) ?_
                  exact ih (i + 1) _ ⟨by omega, fun v hv => (Nat.lt_succ_iff_lt_or_eq.mp hv).elim (hno v) (fun q => by subst q; intro h; first | exact c174 ((hfull h.1).trans h.2) | exact h.1 c167), lv_sub hl [0, 3, 4, 5, 6, 7] rfl⟩ (by omega)
                · refine lv_iload hx hb dX2_nearest_177 (lv_at hl 2 rfl) ?_
                  exact W.iret (v := nI i) hx hb hr (fun zt zh zW => ⟨⟨_, (F2, A), rfl, ⟨Or.inr (Or.inr ⟨hin, d28, Or.inl ⟨i, hlt, ⟨c167, (hfull c167).symm.trans c174⟩, hno, rfl⟩⟩), by rw [eFF2]⟩, by show va_P _ _ _ zt.heap; rw [zh]; exact hP⟩, hS.F zh⟩) hS.2.2 dX2_nearest_179
            · refine pt_cut 137 (fun v => pt_B v ((fun v => ¬ A 3 v = 0 ∧ ((fun t => pt_sqm ax (fun q => A 4 (3 * t + q)) (fun q => A 5 (3 * t + q)) x y z) v < (fun t => pt_sqm ax (fun q => A 4 (3 * t + q)) (fun q => A 5 (3 * t + q)) x y z) i ∨ ((fun t => pt_sqm ax (fun q => A 4 (3 * t + q)) (fun q => A 5 (3 * t + q)) x y z) v = (fun t => pt_sqm ax (fun q => A 4 (3 * t + q)) (fun q => A 5 (3 * t + q)) x y z) i ∧ v < i))) j)) (rest := []) (fun v71 hv71 => ?_) (fun J71 => ?_)
              · refine lv_istore (lv' := [(8, .int v71), (7, .int (nI j)), (6, .int (nI (pt_cnt (fun v => ¬ A 3 v = 0 ∧ ((fun t => pt_sqm ax (fun q => A 4 (3 * t + q)) (fun q => A 5 (3 * t + q)) x y z) v < (fun t => pt_sqm ax (fun q => A 4 (3 * t + q)) (fun q => A 5 (3 * t + q)) x y z) i ∨ ((fun t => pt_sqm ax (fun q => A 4 (3 * t + q)) (fun q => A 5 (3 * t + q)) x y z) v = (fun t => pt_sqm ax (fun q => A 4 (3 * t + q)) (fun q => A 5 (3 * t + q)) x y z) i ∧ v < i))) j))), (5, .int (nI i)), (0, .ref (a 0)), (1, .int x), (2, .int y), (3, .int z), (4, .int k)]) hx hb dX2_nearest_137 hl (by decide) rfl (fun ls hl => ?_)
                refine lv_iload hx hb dX2_nearest_139 (lv_at hl 2 rfl) ?_
                refine lv_iload hx hb dX2_nearest_141 (lv_at hl 0 rfl) ?_
                refine lv_if_eq (tgt := 150) hx hb dX2_nearest_143 (by decide) (fun c143 => ?_) (fun c143 => ?_)
                · refine lv_iconst (v := nI 0) hx hb dX2_nearest_150 (by decide) ?_
                  refine lv_iadd hx hb dX2_nearest_151 ?_
                  refine pt_top (y := nI ((pt_cnt (fun v => ¬ A 3 v = 0 ∧ ((fun t => pt_sqm ax (fun q => A 4 (3 * t + q)) (fun q => A 5 (3 * t + q)) x y z) v < (fun t => pt_sqm ax (fun q => A 4 (3 * t + q)) (fun q => A 5 (3 * t + q)) x y z) i ∨ ((fun t => pt_sqm ax (fun q => A 4 (3 * t + q)) (fun q => A 5 (3 * t + q)) x y z) v = (fun t => pt_sqm ax (fun q => A 4 (3 * t + q)) (fun q => A 5 (3 * t + q)) x y z) i ∧ v < i))) j) + 0)) (nI_add _ _) ?_
                  refine lv_istore (lv' := [(6, .int (nI ((pt_cnt (fun v => ¬ A 3 v = 0 ∧ ((fun t => pt_sqm ax (fun q => A 4 (3 * t + q)) (fun q => A 5 (3 * t + q)) x y z) v < (fun t => pt_sqm ax (fun q => A 4 (3 * t + q)) (fun q => A 5 (3 * t + q)) x y z) i ∨ ((fun t => pt_sqm ax (fun q => A 4 (3 * t + q)) (fun q => A 5 (3 * t + q)) x y z) v = (fun t => pt_sqm ax (fun q => A 4 (3 * t + q)) (fun q => A 5 (3 * t + q)) x y z) i ∧ v < i))) j) + 0))), (8, .int v71), (7, .int (nI j)), (5, .int (nI i)), (0, .ref (a 0)), (1, .int x), (2, .int y), (3, .int z), (4, .int k)]) hx hb dX2_nearest_152 hl (by decide) rfl (fun ls hl => ?_)
                  refine lv_iinc (v := nI (j + 1)) (lv' := [(7, .int (nI (j + 1))), (6, .int (nI ((pt_cnt (fun v => ¬ A 3 v = 0 ∧ ((fun t => pt_sqm ax (fun q => A 4 (3 * t + q)) (fun q => A 5 (3 * t + q)) x y z) v < (fun t => pt_sqm ax (fun q => A 4 (3 * t + q)) (fun q => A 5 (3 * t + q)) x y z) i ∨ ((fun t => pt_sqm ax (fun q => A 4 (3 * t + q)) (fun q => A 5 (3 * t + q)) x y z) v = (fun t => pt_sqm ax (fun q => A 4 (3 * t + q)) (fun q => A 5 (3 * t + q)) x y z) i ∧ v < i))) j) + 0))), (8, .int v71), (5, .int (nI i)), (0, .ref (a 0)), (1, .int x), (2, .int y), (3, .int z), (4, .int k)]) hx hb dX2_nearest_154 hl (k := 2) rfl (nI_1 _) (by decide) rfl (fun ls hl => ?_)
                  refine lv_goto (tgt := 52) hx hb dX2_nearest_157 (by decide) ?_
                  have ec := pt_cnt_f (p := (fun v => ¬ A 3 v = 0 ∧ ((fun t => pt_sqm ax (fun q => A 4 (3 * t + q)) (fun q => A 5 (3 * t + q)) x y z) v < (fun t => pt_sqm ax (fun q => A 4 (3 * t + q)) (fun q => A 5 (3 * t + q)) x y z) i ∨ ((fun t => pt_sqm ax (fun q => A 4 (3 * t + q)) (fun q => A 5 (3 * t + q)) x y z) v = (fun t => pt_sqm ax (fun q => A 4 (3 * t + q)) (fun q => A 5 (3 * t + q)) x y z) i ∧ v < i)))) (n := j) (hv71.f c143)
                  exact ihj (j + 1) _ ⟨by omega, by rw [ec]; exact lv_sub hl [0, 1, 3, 4, 5, 6, 7, 8] rfl⟩ (by omega)
                · refine lv_iconst (v := nI 1) hx hb dX2_nearest_146 (by decide) ?_
                  refine lv_goto (tgt := 151) hx hb dX2_nearest_147 (by decide) ?_
                  refine lv_iadd hx hb dX2_nearest_151 ?_
                  refine pt_top (y := nI ((pt_cnt (fun v => ¬ A 3 v = 0 ∧ ((fun t => pt_sqm ax (fun q => A 4 (3 * t + q)) (fun q => A 5 (3 * t + q)) x y z) v < (fun t => pt_sqm ax (fun q => A 4 (3 * t + q)) (fun q => A 5 (3 * t + q)) x y z) i ∨ ((fun t => pt_sqm ax (fun q => A 4 (3 * t + q)) (fun q => A 5 (3 * t + q)) x y z) v = (fun t => pt_sqm ax (fun q => A 4 (3 * t + q)) (fun q => A 5 (3 * t + q)) x y z) i ∧ v < i))) j) + 1)) (nI_add _ _) ?_
                  refine lv_istore (lv' := [(6, .int (nI ((pt_cnt (fun v => ¬ A 3 v = 0 ∧ ((fun t => pt_sqm ax (fun q => A 4 (3 * t + q)) (fun q => A 5 (3 * t + q)) x y z) v < (fun t => pt_sqm ax (fun q => A 4 (3 * t + q)) (fun q => A 5 (3 * t + q)) x y z) i ∨ ((fun t => pt_sqm ax (fun q => A 4 (3 * t + q)) (fun q => A 5 (3 * t + q)) x y z) v = (fun t => pt_sqm ax (fun q => A 4 (3 * t + q)) (fun q => A 5 (3 * t + q)) x y z) i ∧ v < i))) j) + 1))), (8, .int v71), (7, .int (nI j)), (5, .int (nI i)), (0, .ref (a 0)), (1, .int x), (2, .int y), (3, .int z), (4, .int k)]) hx hb dX2_nearest_152 hl (by decide) rfl (fun ls hl => ?_)
                  refine lv_iinc (v := nI (j + 1)) (lv' := [(7, .int (nI (j + 1))), (6, .int (nI ((pt_cnt (fun v => ¬ A 3 v = 0 ∧ ((fun t => pt_sqm ax (fun q => A 4 (3 * t + q)) (fun q => A 5 (3 * t + q)) x y z) v < (fun t => pt_sqm ax (fun q => A 4 (3 * t + q)) (fun q => A 5 (3 * t + q)) x y z) i ∨ ((fun t => pt_sqm ax (fun q => A 4 (3 * t + q)) (fun q => A 5 (3 * t + q)) x y z) v = (fun t => pt_sqm ax (fun q => A 4 (3 * t + q)) (fun q => A 5 (3 * t + q)) x y z) i ∧ v < i))) j) + 1))), (8, .int v71), (5, .int (nI i)), (0, .ref (a 0)), (1, .int x), (2, .int y), (3, .int z), (4, .int k)]) hx hb dX2_nearest_154 hl (k := 2) rfl (nI_1 _) (by decide) rfl (fun ls hl => ?_)
                  refine lv_goto (tgt := 52) hx hb dX2_nearest_157 (by decide) ?_
                  have ec := pt_cnt_t (p := (fun v => ¬ A 3 v = 0 ∧ ((fun t => pt_sqm ax (fun q => A 4 (3 * t + q)) (fun q => A 5 (3 * t + q)) x y z) v < (fun t => pt_sqm ax (fun q => A 4 (3 * t + q)) (fun q => A 5 (3 * t + q)) x y z) i ∨ ((fun t => pt_sqm ax (fun q => A 4 (3 * t + q)) (fun q => A 5 (3 * t + q)) x y z) v = (fun t => pt_sqm ax (fun q => A 4 (3 * t + q)) (fun q => A 5 (3 * t + q)) x y z) i ∧ v < i)))) (n := j) (hv71.t c143)
                  exact ihj (j + 1) _ ⟨by omega, by rw [ec]; exact lv_sub hl [0, 1, 3, 4, 5, 6, 7, 8] rfl⟩ (by omega)
              · refine lv_aload_n hx hb dX2_nearest_71 rfl (lv_at hl 3 rfl) ?_
                refine va_get (D := (dC, dI)) (ci := 2) (v := .ref (a 3)) (C := RX2) (T := TX2) (N := 27) hx hb hts iw_c_X2_nearest_wsX20 hown hK hP 0 rfl rfl 3 (by decide) (hts _ wd_c_X2_nearest_X2_nearest_2) (fun _ h9 => h9) rfl dX2_nearest_72 ?_
                refine lv_iload hx hb dX2_nearest_75 (lv_at hl 0 rfl) ?_
                refine pt_zald hx hb hK hP 1 0 rfl rfl j rfl (by omega) (by decide) dX2_nearest_77 ?_
                refine lv_if_eq (tgt := 136) hx hb dX2_nearest_78 (by decide) (fun c78 => ?_) (fun c78 => ?_)
                · refine lv_iconst (v := 0) hx hb dX2_nearest_136 (by decide) ?_
                  exact J71 _ (pt_B.zero (fun q => by first | exact q.1 c78 | exact q.2.elim d100 (fun q => by first | exact d122 q.1 | exact d129 q.2)))
                · refine lv_aload_n hx hb dX2_nearest_81 rfl (lv_at hl 3 rfl) ?_
                  refine lv_iload hx hb dX2_nearest_82 (lv_at hl 0 rfl) ?_
                  refine lv_iload_n hx hb dX2_nearest_84 rfl (lv_at hl 4 rfl) ?_
                  refine lv_iload_n hx hb dX2_nearest_85 rfl (lv_at hl 5 rfl) ?_
                  refine lv_iload_n hx hb dX2_nearest_86 rfl (lv_at hl 6 rfl) ?_
                  refine pt_rdl (va_runV (As := [.int (nI j), .int x, .int y, .int z]) (rest := []) ⟨hx, hb, hml, hown, hts⟩ (c_X2_square l dC dI a c F2 A ax kc2_1 hax j (by omega) x y z) (cwV 4 hts gX2_nearest_X2_square rfl rfl rfl (by decide +kernel) ⟨Nat.le_of_ble_eq_true rfl, Nat.le_of_ble_eq_true rfl⟩) (pt_pv2 hP hK hN (q0 := 0) rfl) rfl rfl hl.1 rfl (lv_room (Nat.le_of_ble_eq_true rfl)) dX2_nearest_87 ⟨Nat.le_of_ble_eq_true rfl, Nat.le_of_ble_eq_true rfl⟩) (fun r87 hr87 => ?_)
                  refine pt_topl (y := (pt_sqm ax (fun q => A 4 (3 * j + q)) (fun q => A 5 (3 * j + q)) x y z)) hr87 ?_
                  refine lv_aload_n hx hb dX2_nearest_90 rfl (lv_at hl 3 rfl) ?_
                  refine lv_iload hx hb dX2_nearest_91 (lv_at hl 2 rfl) ?_
                  refine lv_iload_n hx hb dX2_nearest_93 rfl (lv_at hl 4 rfl) ?_
                  refine lv_iload_n hx hb dX2_nearest_94 rfl (lv_at hl 5 rfl) ?_
                  refine lv_iload_n hx hb dX2_nearest_95 rfl (lv_at hl 6 rfl) ?_
                  refine pt_rdl (va_runV (As := [.int (nI i), .int x, .int y, .int z]) (rest := [.long (pt_sqm ax (fun q => A 4 (3 * j + q)) (fun q => A 5 (3 * j + q)) x y z)]) ⟨hx, hb, hml, hown, hts⟩ (c_X2_square l dC dI a c F2 A ax kc2_1 hax i (by omega) x y z) (cwV 4 hts gX2_nearest_X2_square rfl rfl rfl (by decide +kernel) ⟨Nat.le_of_ble_eq_true rfl, Nat.le_of_ble_eq_true rfl⟩) (pt_pv2 hP hK hN (q0 := 0) rfl) rfl rfl hl.1 rfl (lv_room (Nat.le_of_ble_eq_true rfl)) dX2_nearest_96 ⟨Nat.le_of_ble_eq_true rfl, Nat.le_of_ble_eq_true rfl⟩) (fun r96 hr96 => ?_)
                  refine pt_topl (y := (pt_sqm ax (fun q => A 4 (3 * i + q)) (fun q => A 5 (3 * i + q)) x y z)) hr96 ?_
                  refine W.lcmp hx hb dX2_nearest_99 ?_
                  refine lv_if_lt (tgt := 132) hx hb dX2_nearest_100 (by decide) (fun c100 => ?_) (fun c100 => ?_)
                  · have d100 := (lg_cmp_lt _ _).mp c100
                    refine lv_iconst (v := 1) hx hb dX2_nearest_132 (by decide) ?_
                    refine lv_goto (tgt := 137) hx hb dX2_nearest_133 (by decide) ?_
                    exact J71 _ (pt_B.one ⟨c78, by first | exact Or.inl d100 | exact Or.inr ⟨d122, d129⟩⟩)
                  · have d100 := fun q => c100 ((lg_cmp_lt _ _).mpr q)
                    refine lv_aload_n hx hb dX2_nearest_103 rfl (lv_at hl 3 rfl) ?_
                    refine lv_iload hx hb dX2_nearest_104 (lv_at hl 0 rfl) ?_
                    refine lv_iload_n hx hb dX2_nearest_106 rfl (lv_at hl 4 rfl) ?_
                    refine lv_iload_n hx hb dX2_nearest_107 rfl (lv_at hl 5 rfl) ?_
                    refine lv_iload_n hx hb dX2_nearest_108 rfl (lv_at hl 6 rfl) ?_
                    refine pt_rdl (va_runV (As := [.int (nI j), .int x, .int y, .int z]) (rest := []) ⟨hx, hb, hml, hown, hts⟩ (c_X2_square l dC dI a c F2 A ax kc2_1 hax j (by omega) x y z) (cwV 4 hts gX2_nearest_X2_square rfl rfl rfl (by decide +kernel) ⟨Nat.le_of_ble_eq_true rfl, Nat.le_of_ble_eq_true rfl⟩) (pt_pv2 hP hK hN (q0 := 0) rfl) rfl rfl hl.1 rfl (lv_room (Nat.le_of_ble_eq_true rfl)) dX2_nearest_109 ⟨Nat.le_of_ble_eq_true rfl, Nat.le_of_ble_eq_true rfl⟩) (fun r109 hr109 => ?_)
                    refine pt_topl (y := (pt_sqm ax (fun q => A 4 (3 * j + q)) (fun q => A 5 (3 * j + q)) x y z)) hr109 ?_
                    refine lv_aload_n hx hb dX2_nearest_112 rfl (lv_at hl 3 rfl) ?_
                    refine lv_iload hx hb dX2_nearest_113 (lv_at hl 2 rfl) ?_
                    refine lv_iload_n hx hb dX2_nearest_115 rfl (lv_at hl 4 rfl) ?_
                    refine lv_iload_n hx hb dX2_nearest_116 rfl (lv_at hl 5 rfl) ?_
                    refine lv_iload_n hx hb dX2_nearest_117 rfl (lv_at hl 6 rfl) ?_
                    refine pt_rdl (va_runV (As := [.int (nI i), .int x, .int y, .int z]) (rest := [.long (pt_sqm ax (fun q => A 4 (3 * j + q)) (fun q => A 5 (3 * j + q)) x y z)]) ⟨hx, hb, hml, hown, hts⟩ (c_X2_square l dC dI a c F2 A ax kc2_1 hax i (by omega) x y z) (cwV 4 hts gX2_nearest_X2_square rfl rfl rfl (by decide +kernel) ⟨Nat.le_of_ble_eq_true rfl, Nat.le_of_ble_eq_true rfl⟩) (pt_pv2 hP hK hN (q0 := 0) rfl) rfl rfl hl.1 rfl (lv_room (Nat.le_of_ble_eq_true rfl)) dX2_nearest_118 ⟨Nat.le_of_ble_eq_true rfl, Nat.le_of_ble_eq_true rfl⟩) (fun r118 hr118 => ?_)
                    refine pt_topl (y := (pt_sqm ax (fun q => A 4 (3 * i + q)) (fun q => A 5 (3 * i + q)) x y z)) hr118 ?_
                    refine W.lcmp hx hb dX2_nearest_121 ?_
                    refine lv_if_ne (tgt := 136) hx hb dX2_nearest_122 (by decide) (fun c122 => ?_) (fun c122 => ?_)
                    · have d122 := fun q => c122 ((lg_cmp_eq _ _).mpr q)
                      refine lv_iconst (v := 0) hx hb dX2_nearest_136 (by decide) ?_
                      exact J71 _ (pt_B.zero (fun q => by first | exact q.1 c78 | exact q.2.elim d100 (fun q => by first | exact d122 q.1 | exact d129 q.2)))
                    · have d122 := (lg_cmp_eq _ _).mp c122
                      refine lv_iload hx hb dX2_nearest_125 (lv_at hl 0 rfl) ?_
                      refine lv_iload hx hb dX2_nearest_127 (lv_at hl 2 rfl) ?_
                      refine lv_icmp_ge (tgt := 136) hx hb dX2_nearest_129 (by decide) (fun c129 => ?_) (fun c129 => ?_)
                      · have d129 : ¬ j < i := fun q => nI_ge q (by omega) c129
                        refine lv_iconst (v := 0) hx hb dX2_nearest_136 (by decide) ?_
                        exact J71 _ (pt_B.zero (fun q => by first | exact q.1 c78 | exact q.2.elim d100 (fun q => by first | exact d122 q.1 | exact d129 q.2)))
                      · have d129 : j < i := Nat.not_le.mp (fun q => c129 (nI_le q (by omega)))
                        refine lv_iconst (v := 1) hx hb dX2_nearest_132 (by decide) ?_
                        refine lv_goto (tgt := 137) hx hb dX2_nearest_133 (by decide) ?_
                        exact J71 _ (pt_B.one ⟨c78, by first | exact Or.inl d100 | exact Or.inr ⟨d122, d129⟩⟩)
      · have d28 := hr25.f c28
        refine lv_bipush (v := (-2)) hx hb dX2_nearest_31 (by decide) ?_
        exact W.iret (v := (-2)) hx hb hr (fun zt zh zW => ⟨⟨_, (F2, A), rfl, ⟨Or.inr (Or.inl ⟨hin, d28, rfl⟩), by rw [eFF2]⟩, by show va_P _ _ _ zt.heap; rw [zh]; exact hP⟩, hS.F zh⟩) hS.2.2 dX2_nearest_33
    · refine lv_iconst (v := (-1)) hx hb dX2_nearest_19 (by decide) ?_
      exact W.iret (v := (-1)) hx hb hr (fun zt zh zW => ⟨⟨_, (F2, A), rfl, ⟨Or.inl ⟨by first | exact pt_in_hi (Int32.not_lt.mp c16) (by omega) | exact pt_in_lo c7 (by have := pt_cnt_le (fun t => ¬ A 3 t = 0) md; omega), rfl⟩, by rw [eFF2]⟩, by show va_P _ _ _ zt.heap; rw [zh]; exact hP⟩, hS.F zh⟩) hS.2.2 dX2_nearest_20

theorem wd_c_X2_pairs_X2_pairs_0 : Cond.fieldLink RX2 69 "PointTreesModel" "thrown" "I" ∈ wsX2_pairs := by decide +kernel
theorem wd_c_X2_pairs_X2_pairs_1 : Cond.fieldLink RX2 72 "PointTreesModel" "made" "I" ∈ wsX2_pairs := by decide +kernel
theorem wd_c_X2_pairs_X2_pairs_2 : Cond.fieldLink RX2 7 "PointTreesModel" "axes" "I" ∈ wsX2_pairs := by decide +kernel
theorem wd_c_X2_pairs_X2_pairs_3 : Cond.fieldLink RX2 17 "PointTreesModel" "lows" "[I" ∈ wsX2_pairs := by decide +kernel
theorem wd_c_X2_pairs_X2_pairs_4 : Cond.fieldLink RX2 21 "PointTreesModel" "highs" "[I" ∈ wsX2_pairs := by decide +kernel
theorem wd_c_X2_pairs_X2_pairs_5 : Cond.fieldLink RX2 13 "PointTreesModel" "there" "[Z" ∈ wsX2_pairs := by decide +kernel
theorem iw_c_X2_pairs_wsX20 : ∀ w ∈ wsX20, w ∈ wsX2_pairs := fun _ h => List.mem_cons_of_mem _ (List.mem_append_right _ h)
set_option maxHeartbeats 4000000 in
set_option maxRecDepth 100000 in
theorem c_X2_pairs (l : Launch) (dC : Nat → ClassId) (dI : Nat → Nat → Nat) (a : Nat → Nat) (c : Nat → ClassId) (F : Nat → Int32) (A : Nat → Nat → Int32) (sz : Nat) (ax : Nat) (h1 : F 1 = nI ax) (hax : ax ≤ 3) (md : Nat) (h2 : F 2 = nI md) (hmd : md ≤ 64) : Met l yX2_pairs wsX2_pairs (pt_rm 0) (pt_W (dC, dI) vwCl (pt_mt c) (pt_mw a c F A) pt_nw sz [.ref (a 0)]) (va_Qi (fun (r : Int32) (u : pt_MS) => r = nI (pt_sum (fun t => pt_cnt (fun v => ¬ A 3 t = 0 ∧ ¬ A 3 v = 0 ∧ (∀ q, q < ax → A 4 (3 * t + q) ≤ A 5 (3 * v + q) ∧ A 4 (3 * v + q) ≤ A 5 (3 * t + q))) t) md) ∧ u = ((upd F 0 (nI 0)), A)) (fun u t => va_P (dC, dI) vwCl (pt_mw a c u.1 u.2) t.heap) (va_A (pt_mw a c F A) sz)) 0 0 (va_A (pt_mw a c F A) sz) := by
  refine Met.ofW (cc := cX2_pairs) (maxL := 6) (ret := (some .int)) (by decide) rfl ?_
  intro p e s m args below meth cd s₁ B hml hv
  obtain ⟨rfl, hsz, hP, hK, hN, hD0⟩ := hv
  have hx := B.exec
  have hb := B.bytes
  have hr := B.returns
  have hts := atoms_spec (ws := wsX2_pairs) B.pre
  have hown : s.vm.findClass RX2 = some m.cls := findClass_of_methodNamed B.named
  have hlocks := B.notSynchronized
  subst hsz
  have hD := hD0.self (sz := s.heap.size)
  generalize hAe : va_A (pt_mw a c F A) s.heap.size = AA at hD ⊢
  have hA : ∀ q : Nat, s.heap.size ≤ q → AA q := fun q h => by rw [← hAe]; exact Or.inr h
  have hS : va_S AA s.heap s.heap [] := va_S.rf
  have hl := lv_entry ([.ref (a 0)]) (n := 6) (Nat.le_of_ble_eq_true rfl)
  rw [lg_entry_eq]
  generalize (lg_sl ([.ref (a 0)]) ++ List.replicate (6 - (lg_sl ([.ref (a 0)])).length) Slot.unset).toArray = ls at hl ⊢
  have hl : lv_has ls 6 [(0, .ref (a 0))] := hl
  refine lv_aload_n hx hb dX2_pairs_0 rfl (lv_at hl 0 rfl) ?_
  refine lv_iconst (v := nI 0) hx hb dX2_pairs_1 (by decide) ?_
  obtain ⟨F1, eF1⟩ : ∃ zz, zz = upd F 0 (nI 0) := ⟨_, rfl⟩
  refine va_put (D := (dC, dI)) (ci := 2) (v := .int (nI 0)) (ty := .int) (C := RX2) (T := TX2) (N := 27) hx hb hts iw_c_X2_pairs_wsX20 tyX2 tyX2_ok nmX2 hown hK hP hD hS 0 rfl rfl 0 (by decide) (hts _ wd_c_X2_pairs_X2_pairs_0) (fun _ h9 => h9) rfl (by decide +kernel) rfl rfl (Nat.le_of_ble_eq_true rfl) dX2_pairs_2 (fun H locs hP hD hS => ?_)
  have hP : va_P (dC, dI) vwCl (pt_mw a c F1 A) H := by rw [eF1]; exact hP
  have hD : va_D AA (pt_mw a c F1 A) := by rw [eF1]; exact hD
  have kF1_1 : F1 1 = nI ax := by rw [eF1, pt_upd_ne (by decide)]; exact h1
  have kF1_2 : F1 2 = nI md := by rw [eF1, pt_upd_ne (by decide)]; exact h2
  have kF1_0 : F1 0 = nI 0 := by rw [eF1, pt_upd]
  refine lv_iconst (v := nI 0) hx hb dX2_pairs_5 (by decide) ?_
  refine lv_istore_n (lv' := [(1, .int (nI 0)), (0, .ref (a 0))]) hx hb dX2_pairs_6 rfl hl (by decide) rfl (fun ls hl => ?_)
  refine lv_iconst (v := nI 0) hx hb dX2_pairs_7 (by decide) ?_
  refine lv_istore_n (lv' := [(2, .int (nI 0)), (1, .int (nI 0)), (0, .ref (a 0))]) hx hb dX2_pairs_8 rfl hl (by decide) rfl (fun ls hl => ?_)
  refine pt_loopR (fun i : Nat => md - i) (fun i ls => i ≤ md ∧ lv_has ls 6 [(2, .int (nI i)), (1, .int (nI (pt_sum (fun t => pt_cnt (fun v => ¬ A 3 t = 0 ∧ ¬ A 3 v = 0 ∧ (∀ q, q < ax → A 4 (3 * t + q) ≤ A 5 (3 * v + q) ∧ A 4 (3 * v + q) ≤ A 5 (3 * t + q))) t) i))), (0, .ref (a 0))]) ?_ 0 _ ⟨Nat.zero_le _, hl⟩
  intro i ls ⟨hi, hl⟩ ih
  refine lv_iload_n hx hb dX2_pairs_9 rfl (lv_at hl 0 rfl) ?_
  refine lv_aload_n hx hb dX2_pairs_10 rfl (lv_at hl 2 rfl) ?_
  refine va_get (D := (dC, dI)) (ci := 2) (v := .int (F1 2)) (C := RX2) (T := TX2) (N := 27) hx hb hts iw_c_X2_pairs_wsX20 hown hK hP 0 rfl rfl 2 (by decide) (hts _ wd_c_X2_pairs_X2_pairs_1) (fun _ h9 => h9) rfl dX2_pairs_11 ?_
  refine pt_top (y := nI md) kF1_2 ?_
  refine lv_icmp_ge (tgt := 154) hx hb dX2_pairs_14 (by decide) (fun c14 => ?_) (fun c14 => ?_)
  · have hie : i = md := by have := (nI_leI (by omega) (by omega)).mp c14; omega
    refine lv_iload_n hx hb dX2_pairs_154 rfl (lv_at hl 1 rfl) ?_
    exact W.iret (v := nI (pt_sum (fun t => pt_cnt (fun v => ¬ A 3 t = 0 ∧ ¬ A 3 v = 0 ∧ (∀ q, q < ax → A 4 (3 * t + q) ≤ A 5 (3 * v + q) ∧ A 4 (3 * v + q) ≤ A 5 (3 * t + q))) t) i)) hx hb hr (fun zt zh zW => ⟨⟨_, (F1, A), rfl, ⟨by rw [← hie], by rw [eF1]⟩, by show va_P _ _ _ zt.heap; rw [zh]; exact hP⟩, hS.F zh⟩) hS.2.2 dX2_pairs_155
  · have hlt : i < md := Nat.not_le.mp (fun q => c14 ((nI_leI (by omega) (by omega)).mpr q))
    refine lv_iconst (v := nI 0) hx hb dX2_pairs_17 (by decide) ?_
    refine lv_istore_n (lv' := [(3, .int (nI 0)), (2, .int (nI i)), (1, .int (nI (pt_sum (fun t => pt_cnt (fun v => ¬ A 3 t = 0 ∧ ¬ A 3 v = 0 ∧ (∀ q, q < ax → A 4 (3 * t + q) ≤ A 5 (3 * v + q) ∧ A 4 (3 * v + q) ≤ A 5 (3 * t + q))) t) i))), (0, .ref (a 0))]) hx hb dX2_pairs_18 rfl hl (by decide) rfl (fun ls hl => ?_)
    refine pt_loopR (fun j : Nat => i - j) (fun j ls => j ≤ i ∧ lv_has ls 6 [(3, .int (nI j)), (2, .int (nI i)), (1, .int (nI (pt_sum (fun t => pt_cnt (fun v => ¬ A 3 t = 0 ∧ ¬ A 3 v = 0 ∧ (∀ q, q < ax → A 4 (3 * t + q) ≤ A 5 (3 * v + q) ∧ A 4 (3 * v + q) ≤ A 5 (3 * t + q))) t) i + pt_cnt (fun v => ¬ A 3 i = 0 ∧ ¬ A 3 v = 0 ∧ (∀ q, q < ax → A 4 (3 * i + q) ≤ A 5 (3 * v + q) ∧ A 4 (3 * v + q) ≤ A 5 (3 * i + q))) j))), (0, .ref (a 0))]) ?_ 0 _ ⟨Nat.zero_le _, hl⟩
    intro j ls ⟨hj, hl⟩ ihj
    refine lv_iload_n hx hb dX2_pairs_19 rfl (lv_at hl 0 rfl) ?_
    refine lv_iload_n hx hb dX2_pairs_20 rfl (lv_at hl 1 rfl) ?_
    refine lv_icmp_ge (tgt := 148) hx hb dX2_pairs_21 (by decide) (fun c21 => ?_) (fun c21 => ?_)
    · have hje : j = i := by have := (nI_leI (by omega) (by omega)).mp c21; omega
      rw [hje] at hl
      have hl : lv_has ls 6 [(3, .int (nI i)), (2, .int (nI i)), (1, .int (nI (pt_sum (fun t => pt_cnt (fun v => ¬ A 3 t = 0 ∧ ¬ A 3 v = 0 ∧ (∀ q, q < ax → A 4 (3 * t + q) ≤ A 5 (3 * v + q) ∧ A 4 (3 * v + q) ≤ A 5 (3 * t + q))) t) (i + 1)))), (0, .ref (a 0))] := hl
      refine lv_iinc (v := nI (i + 1)) (lv' := [(2, .int (nI (i + 1))), (3, .int (nI i)), (1, .int (nI (pt_sum (fun t => pt_cnt (fun v => ¬ A 3 t = 0 ∧ ¬ A 3 v = 0 ∧ (∀ q, q < ax → A 4 (3 * t + q) ≤ A 5 (3 * v + q) ∧ A 4 (3 * v + q) ≤ A 5 (3 * t + q))) t) (i + 1)))), (0, .ref (a 0))]) hx hb dX2_pairs_148 hl (k := 1) rfl (nI_1 _) (by decide) rfl (fun ls hl => ?_)
      refine lv_goto (tgt := 9) hx hb dX2_pairs_151 (by decide) ?_
      exact ih (i + 1) _ ⟨by omega, lv_sub hl [0, 2, 3] rfl⟩ (by omega)
    · have hjl : j < i := Nat.not_le.mp (fun q => c21 ((nI_leI (by omega) (by omega)).mpr q))
      refine pt_cut 47 (fun v => pt_B v (¬ A 3 i = 0 ∧ ¬ A 3 j = 0)) (rest := []) (fun v24 hv24 => ?_) (fun J24 => ?_)
      · refine lv_istore (lv' := [(4, .int v24), (3, .int (nI j)), (2, .int (nI i)), (1, .int (nI (pt_sum (fun t => pt_cnt (fun v => ¬ A 3 t = 0 ∧ ¬ A 3 v = 0 ∧ (∀ q, q < ax → A 4 (3 * t + q) ≤ A 5 (3 * v + q) ∧ A 4 (3 * v + q) ≤ A 5 (3 * t + q))) t) i + pt_cnt (fun v => ¬ A 3 i = 0 ∧ ¬ A 3 v = 0 ∧ (∀ q, q < ax → A 4 (3 * i + q) ≤ A 5 (3 * v + q) ∧ A 4 (3 * v + q) ≤ A 5 (3 * i + q))) j))), (0, .ref (a 0))]) hx hb dX2_pairs_47 hl (by decide) rfl (fun ls hl => ?_)
        refine lv_iconst (v := nI 0) hx hb dX2_pairs_49 (by decide) ?_
        refine lv_istore (lv' := [(5, .int (nI 0)), (4, .int v24), (3, .int (nI j)), (2, .int (nI i)), (1, .int (nI (pt_sum (fun t => pt_cnt (fun v => ¬ A 3 t = 0 ∧ ¬ A 3 v = 0 ∧ (∀ q, q < ax → A 4 (3 * t + q) ≤ A 5 (3 * v + q) ∧ A 4 (3 * v + q) ≤ A 5 (3 * t + q))) t) i + pt_cnt (fun v => ¬ A 3 i = 0 ∧ ¬ A 3 v = 0 ∧ (∀ q, q < ax → A 4 (3 * i + q) ≤ A 5 (3 * v + q) ∧ A 4 (3 * v + q) ≤ A 5 (3 * i + q))) j))), (0, .ref (a 0))]) hx hb dX2_pairs_50 hl (by decide) rfl (fun ls hl => ?_)
        refine pt_loopR (fun q : Nat × Int32 => ax - q.1) (fun q ls => q.1 ≤ ax ∧ pt_B q.2 ((¬ A 3 i = 0 ∧ ¬ A 3 j = 0) ∧ (∀ y9, y9 < q.1 → A 4 (3 * i + y9) ≤ A 5 (3 * j + y9) ∧ A 4 (3 * j + y9) ≤ A 5 (3 * i + y9))) ∧ lv_has ls 6 [(5, .int (nI q.1)), (4, .int q.2), (3, .int (nI j)), (2, .int (nI i)), (1, .int (nI (pt_sum (fun t => pt_cnt (fun v => ¬ A 3 t = 0 ∧ ¬ A 3 v = 0 ∧ (∀ q, q < ax → A 4 (3 * t + q) ≤ A 5 (3 * v + q) ∧ A 4 (3 * v + q) ≤ A 5 (3 * t + q))) t) i + pt_cnt (fun v => ¬ A 3 i = 0 ∧ ¬ A 3 v = 0 ∧ (∀ q, q < ax → A 4 (3 * i + q) ≤ A 5 (3 * v + q) ∧ A 4 (3 * v + q) ≤ A 5 (3 * i + q))) j))), (0, .ref (a 0))]) ?_ (0, v24) _ ⟨Nat.zero_le _, hv24.c ⟨fun q => ⟨q, fun z hz => absurd hz (Nat.not_lt_zero _)⟩, fun q => q.1⟩, hl⟩
        intro ⟨k, b4⟩ ls ⟨hk, hb4, hl⟩ ihk
        dsimp only at hk hb4 hl ihk
        refine lv_iload hx hb dX2_pairs_52 (lv_at hl 0 rfl) ?_
        refine lv_aload_n hx hb dX2_pairs_54 rfl (lv_at hl 5 rfl) ?_
        refine va_get (D := (dC, dI)) (ci := 2) (v := .int (F1 1)) (C := RX2) (T := TX2) (N := 27) hx hb hts iw_c_X2_pairs_wsX20 hown hK hP 0 rfl rfl 1 (by decide) (hts _ wd_c_X2_pairs_X2_pairs_2) (fun _ h9 => h9) rfl dX2_pairs_55 ?_
        refine pt_top (y := nI ax) kF1_1 ?_
        refine lv_icmp_ge (tgt := 129) hx hb dX2_pairs_58 (by decide) (fun c58 => ?_) (fun c58 => ?_)
        · have hke : k = ax := by have := (nI_leI (by omega) (by omega)).mp c58; omega
          have hfin : pt_B b4 ((fun v => ¬ A 3 i = 0 ∧ ¬ A 3 v = 0 ∧ (∀ q, q < ax → A 4 (3 * i + q) ≤ A 5 (3 * v + q) ∧ A 4 (3 * v + q) ≤ A 5 (3 * i + q))) j) := hb4.c ⟨fun q => ⟨q.1.1, q.1.2, fun z hz => q.2 z (by omega)⟩, fun q => ⟨⟨q.1, q.2.1⟩, fun z hz => q.2.2 z (by omega)⟩⟩
          refine lv_iload_n hx hb dX2_pairs_129 rfl (lv_at hl 4 rfl) ?_
          refine lv_iload hx hb dX2_pairs_130 (lv_at hl 1 rfl) ?_
          refine lv_if_eq (tgt := 139) hx hb dX2_pairs_132 (by decide) (fun c132 => ?_) (fun c132 => ?_)
          · refine lv_iconst (v := nI 0) hx hb dX2_pairs_139 (by decide) ?_
            refine lv_iadd hx hb dX2_pairs_140 ?_
            refine pt_top (y := nI ((pt_sum (fun t => pt_cnt (fun v => ¬ A 3 t = 0 ∧ ¬ A 3 v = 0 ∧ (∀ q, q < ax → A 4 (3 * t + q) ≤ A 5 (3 * v + q) ∧ A 4 (3 * v + q) ≤ A 5 (3 * t + q))) t) i + pt_cnt (fun v => ¬ A 3 i = 0 ∧ ¬ A 3 v = 0 ∧ (∀ q, q < ax → A 4 (3 * i + q) ≤ A 5 (3 * v + q) ∧ A 4 (3 * v + q) ≤ A 5 (3 * i + q))) j) + 0)) (nI_add _ _) ?_
            refine lv_istore_n (lv' := [(1, .int (nI ((pt_sum (fun t => pt_cnt (fun v => ¬ A 3 t = 0 ∧ ¬ A 3 v = 0 ∧ (∀ q, q < ax → A 4 (3 * t + q) ≤ A 5 (3 * v + q) ∧ A 4 (3 * v + q) ≤ A 5 (3 * t + q))) t) i + pt_cnt (fun v => ¬ A 3 i = 0 ∧ ¬ A 3 v = 0 ∧ (∀ q, q < ax → A 4 (3 * i + q) ≤ A 5 (3 * v + q) ∧ A 4 (3 * v + q) ≤ A 5 (3 * i + q))) j) + 0))), (5, .int (nI k)), (4, .int b4), (3, .int (nI j)), (2, .int (nI i)), (0, .ref (a 0))]) hx hb dX2_pairs_141 rfl hl (by decide) rfl (fun ls hl => ?_)
            refine lv_iinc (v := nI (j + 1)) (lv' := [(3, .int (nI (j + 1))), (1, .int (nI ((pt_sum (fun t => pt_cnt (fun v => ¬ A 3 t = 0 ∧ ¬ A 3 v = 0 ∧ (∀ q, q < ax → A 4 (3 * t + q) ≤ A 5 (3 * v + q) ∧ A 4 (3 * v + q) ≤ A 5 (3 * t + q))) t) i + pt_cnt (fun v => ¬ A 3 i = 0 ∧ ¬ A 3 v = 0 ∧ (∀ q, q < ax → A 4 (3 * i + q) ≤ A 5 (3 * v + q) ∧ A 4 (3 * v + q) ≤ A 5 (3 * i + q))) j) + 0))), (5, .int (nI k)), (4, .int b4), (2, .int (nI i)), (0, .ref (a 0))]) hx hb dX2_pairs_142 hl (k := 3) rfl (nI_1 _) (by decide) rfl (fun ls hl => ?_)
            refine lv_goto (tgt := 19) hx hb dX2_pairs_145 (by decide) ?_
            have ec := pt_cnt_f (p := (fun v => ¬ A 3 i = 0 ∧ ¬ A 3 v = 0 ∧ (∀ q, q < ax → A 4 (3 * i + q) ≤ A 5 (3 * v + q) ∧ A 4 (3 * v + q) ≤ A 5 (3 * i + q)))) (n := j) (hfin.f c132)
            exact ihj (j + 1) _ ⟨by omega, by rw [ec]; exact lv_sub hl [0, 4, 1, 5] rfl⟩ (by omega)
          · refine lv_iconst (v := nI 1) hx hb dX2_pairs_135 (by decide) ?_
            refine lv_goto (tgt := 140) hx hb dX2_pairs_136 (by decide) ?_
            refine lv_iadd hx hb dX2_pairs_140 ?_
            refine pt_top (y := nI ((pt_sum (fun t => pt_cnt (fun v => ¬ A 3 t = 0 ∧ ¬ A 3 v = 0 ∧ (∀ q, q < ax → A 4 (3 * t + q) ≤ A 5 (3 * v + q) ∧ A 4 (3 * v + q) ≤ A 5 (3 * t + q))) t) i + pt_cnt (fun v => ¬ A 3 i = 0 ∧ ¬ A 3 v = 0 ∧ (∀ q, q < ax → A 4 (3 * i + q) ≤ A 5 (3 * v + q) ∧ A 4 (3 * v + q) ≤ A 5 (3 * i + q))) j) + 1)) (nI_add _ _) ?_
            refine lv_istore_n (lv' := [(1, .int (nI ((pt_sum (fun t => pt_cnt (fun v => ¬ A 3 t = 0 ∧ ¬ A 3 v = 0 ∧ (∀ q, q < ax → A 4 (3 * t + q) ≤ A 5 (3 * v + q) ∧ A 4 (3 * v + q) ≤ A 5 (3 * t + q))) t) i + pt_cnt (fun v => ¬ A 3 i = 0 ∧ ¬ A 3 v = 0 ∧ (∀ q, q < ax → A 4 (3 * i + q) ≤ A 5 (3 * v + q) ∧ A 4 (3 * v + q) ≤ A 5 (3 * i + q))) j) + 1))), (5, .int (nI k)), (4, .int b4), (3, .int (nI j)), (2, .int (nI i)), (0, .ref (a 0))]) hx hb dX2_pairs_141 rfl hl (by decide) rfl (fun ls hl => ?_)
            refine lv_iinc (v := nI (j + 1)) (lv' := [(3, .int (nI (j + 1))), (1, .int (nI ((pt_sum (fun t => pt_cnt (fun v => ¬ A 3 t = 0 ∧ ¬ A 3 v = 0 ∧ (∀ q, q < ax → A 4 (3 * t + q) ≤ A 5 (3 * v + q) ∧ A 4 (3 * v + q) ≤ A 5 (3 * t + q))) t) i + pt_cnt (fun v => ¬ A 3 i = 0 ∧ ¬ A 3 v = 0 ∧ (∀ q, q < ax → A 4 (3 * i + q) ≤ A 5 (3 * v + q) ∧ A 4 (3 * v + q) ≤ A 5 (3 * i + q))) j) + 1))), (5, .int (nI k)), (4, .int b4), (2, .int (nI i)), (0, .ref (a 0))]) hx hb dX2_pairs_142 hl (k := 3) rfl (nI_1 _) (by decide) rfl (fun ls hl => ?_)
            refine lv_goto (tgt := 19) hx hb dX2_pairs_145 (by decide) ?_
            have ec := pt_cnt_t (p := (fun v => ¬ A 3 i = 0 ∧ ¬ A 3 v = 0 ∧ (∀ q, q < ax → A 4 (3 * i + q) ≤ A 5 (3 * v + q) ∧ A 4 (3 * v + q) ≤ A 5 (3 * i + q)))) (n := j) (hfin.t c132)
            exact ihj (j + 1) _ ⟨by omega, by rw [ec]; exact lv_sub hl [0, 4, 1, 5] rfl⟩ (by omega)
        · have hkl : k < ax := Nat.not_le.mp (fun q => c58 ((nI_leI (by omega) (by omega)).mpr q))
          refine pt_cut 121 (fun v => pt_B v ((¬ A 3 i = 0 ∧ ¬ A 3 j = 0) ∧ (∀ q, q < (k + 1) → A 4 (3 * i + q) ≤ A 5 (3 * j + q) ∧ A 4 (3 * j + q) ≤ A 5 (3 * i + q)))) (rest := []) (fun v61 hv61 => ?_) (fun J61 => ?_)
          · refine lv_istore (lv' := [(4, .int v61), (5, .int (nI k)), (3, .int (nI j)), (2, .int (nI i)), (1, .int (nI (pt_sum (fun t => pt_cnt (fun v => ¬ A 3 t = 0 ∧ ¬ A 3 v = 0 ∧ (∀ q, q < ax → A 4 (3 * t + q) ≤ A 5 (3 * v + q) ∧ A 4 (3 * v + q) ≤ A 5 (3 * t + q))) t) i + pt_cnt (fun v => ¬ A 3 i = 0 ∧ ¬ A 3 v = 0 ∧ (∀ q, q < ax → A 4 (3 * i + q) ≤ A 5 (3 * v + q) ∧ A 4 (3 * v + q) ≤ A 5 (3 * i + q))) j))), (0, .ref (a 0))]) hx hb dX2_pairs_121 hl (by decide) rfl (fun ls hl => ?_)
            refine lv_iinc (v := nI (k + 1)) (lv' := [(5, .int (nI (k + 1))), (4, .int v61), (3, .int (nI j)), (2, .int (nI i)), (1, .int (nI (pt_sum (fun t => pt_cnt (fun v => ¬ A 3 t = 0 ∧ ¬ A 3 v = 0 ∧ (∀ q, q < ax → A 4 (3 * t + q) ≤ A 5 (3 * v + q) ∧ A 4 (3 * v + q) ≤ A 5 (3 * t + q))) t) i + pt_cnt (fun v => ¬ A 3 i = 0 ∧ ¬ A 3 v = 0 ∧ (∀ q, q < ax → A 4 (3 * i + q) ≤ A 5 (3 * v + q) ∧ A 4 (3 * v + q) ≤ A 5 (3 * i + q))) j))), (0, .ref (a 0))]) hx hb dX2_pairs_123 hl (k := 1) rfl (nI_1 _) (by decide) rfl (fun ls hl => ?_)
            refine lv_goto (tgt := 52) hx hb dX2_pairs_126 (by decide) ?_
            exact ihk (k + 1, v61) _ ⟨by show k + 1 ≤ ax; omega, hv61, lv_sub hl [0, 1, 2, 3, 4, 5] rfl⟩ (by show ax - (k + 1) < ax - k; omega)
          · refine lv_iload hx hb dX2_pairs_61 (lv_at hl 1 rfl) ?_
            refine lv_if_eq (tgt := 120) hx hb dX2_pairs_63 (by decide) (fun c63 => ?_) (fun c63 => ?_)
            · refine lv_iconst (v := 0) hx hb dX2_pairs_120 (by decide) ?_
              exact J61 _ (pt_B.zero (fun q => by first | exact Int32.not_le.mpr c113 (q.2 k (Nat.lt_succ_self k)).2 | exact Int32.not_le.mpr c88 (q.2 k (Nat.lt_succ_self k)).1 | exact hb4.f c63 ⟨q.1, fun z hz => q.2 z (Nat.lt_succ_of_lt hz)⟩))
            · refine lv_aload_n hx hb dX2_pairs_66 rfl (lv_at hl 5 rfl) ?_
              refine va_get (D := (dC, dI)) (ci := 2) (v := .ref (a 4)) (C := RX2) (T := TX2) (N := 27) hx hb hts iw_c_X2_pairs_wsX20 hown hK hP 0 rfl rfl 4 (by decide) (hts _ wd_c_X2_pairs_X2_pairs_3) (fun _ h9 => h9) rfl dX2_pairs_67 ?_
              refine lv_iconst (v := nI 3) hx hb dX2_pairs_70 (by decide) ?_
              refine lv_iload_n hx hb dX2_pairs_71 rfl (lv_at hl 3 rfl) ?_
              refine lv_imul hx hb dX2_pairs_72 ?_
              refine pt_top (y := nI (3 * i)) (pk_mul _ _) ?_
              refine lv_iload hx hb dX2_pairs_73 (lv_at hl 0 rfl) ?_
              refine lv_iadd hx hb dX2_pairs_75 ?_
              refine pt_top (y := nI ((3 * i) + k)) (nI_add _ _) ?_
              refine pt_iald hx hb hK hP 2 1 rfl rfl ((3 * i) + k) rfl (by omega) (by decide) dX2_pairs_76 ?_
              refine lv_aload_n hx hb dX2_pairs_77 rfl (lv_at hl 5 rfl) ?_
              refine va_get (D := (dC, dI)) (ci := 2) (v := .ref (a 5)) (C := RX2) (T := TX2) (N := 27) hx hb hts iw_c_X2_pairs_wsX20 hown hK hP 0 rfl rfl 5 (by decide) (hts _ wd_c_X2_pairs_X2_pairs_4) (fun _ h9 => h9) rfl dX2_pairs_78 ?_
              refine lv_iconst (v := nI 3) hx hb dX2_pairs_81 (by decide) ?_
              refine lv_iload_n hx hb dX2_pairs_82 rfl (lv_at hl 2 rfl) ?_
              refine lv_imul hx hb dX2_pairs_83 ?_
              refine pt_top (y := nI (3 * j)) (pk_mul _ _) ?_
              refine lv_iload hx hb dX2_pairs_84 (lv_at hl 0 rfl) ?_
              refine lv_iadd hx hb dX2_pairs_86 ?_
              refine pt_top (y := nI ((3 * j) + k)) (nI_add _ _) ?_
              refine pt_iald hx hb hK hP 3 2 rfl rfl ((3 * j) + k) rfl (by omega) (by decide) dX2_pairs_87 ?_
              refine lv_icmp_gt (tgt := 120) hx hb dX2_pairs_88 (by decide) (fun c88 => ?_) (fun c88 => ?_)
              · refine lv_iconst (v := 0) hx hb dX2_pairs_120 (by decide) ?_
                exact J61 _ (pt_B.zero (fun q => by first | exact Int32.not_le.mpr c113 (q.2 k (Nat.lt_succ_self k)).2 | exact Int32.not_le.mpr c88 (q.2 k (Nat.lt_succ_self k)).1 | exact hb4.f c63 ⟨q.1, fun z hz => q.2 z (Nat.lt_succ_of_lt hz)⟩))
              · refine lv_aload_n hx hb dX2_pairs_91 rfl (lv_at hl 5 rfl) ?_
                refine va_get (D := (dC, dI)) (ci := 2) (v := .ref (a 4)) (C := RX2) (T := TX2) (N := 27) hx hb hts iw_c_X2_pairs_wsX20 hown hK hP 0 rfl rfl 4 (by decide) (hts _ wd_c_X2_pairs_X2_pairs_3) (fun _ h9 => h9) rfl dX2_pairs_92 ?_
                refine lv_iconst (v := nI 3) hx hb dX2_pairs_95 (by decide) ?_
                refine lv_iload_n hx hb dX2_pairs_96 rfl (lv_at hl 2 rfl) ?_
                refine lv_imul hx hb dX2_pairs_97 ?_
                refine pt_top (y := nI (3 * j)) (pk_mul _ _) ?_
                refine lv_iload hx hb dX2_pairs_98 (lv_at hl 0 rfl) ?_
                refine lv_iadd hx hb dX2_pairs_100 ?_
                refine pt_top (y := nI ((3 * j) + k)) (nI_add _ _) ?_
                refine pt_iald hx hb hK hP 2 1 rfl rfl ((3 * j) + k) rfl (by omega) (by decide) dX2_pairs_101 ?_
                refine lv_aload_n hx hb dX2_pairs_102 rfl (lv_at hl 5 rfl) ?_
                refine va_get (D := (dC, dI)) (ci := 2) (v := .ref (a 5)) (C := RX2) (T := TX2) (N := 27) hx hb hts iw_c_X2_pairs_wsX20 hown hK hP 0 rfl rfl 5 (by decide) (hts _ wd_c_X2_pairs_X2_pairs_4) (fun _ h9 => h9) rfl dX2_pairs_103 ?_
                refine lv_iconst (v := nI 3) hx hb dX2_pairs_106 (by decide) ?_
                refine lv_iload_n hx hb dX2_pairs_107 rfl (lv_at hl 3 rfl) ?_
                refine lv_imul hx hb dX2_pairs_108 ?_
                refine pt_top (y := nI (3 * i)) (pk_mul _ _) ?_
                refine lv_iload hx hb dX2_pairs_109 (lv_at hl 0 rfl) ?_
                refine lv_iadd hx hb dX2_pairs_111 ?_
                refine pt_top (y := nI ((3 * i) + k)) (nI_add _ _) ?_
                refine pt_iald hx hb hK hP 3 2 rfl rfl ((3 * i) + k) rfl (by omega) (by decide) dX2_pairs_112 ?_
                refine lv_icmp_gt (tgt := 120) hx hb dX2_pairs_113 (by decide) (fun c113 => ?_) (fun c113 => ?_)
                · refine lv_iconst (v := 0) hx hb dX2_pairs_120 (by decide) ?_
                  exact J61 _ (pt_B.zero (fun q => by first | exact Int32.not_le.mpr c113 (q.2 k (Nat.lt_succ_self k)).2 | exact Int32.not_le.mpr c88 (q.2 k (Nat.lt_succ_self k)).1 | exact hb4.f c63 ⟨q.1, fun z hz => q.2 z (Nat.lt_succ_of_lt hz)⟩))
                · refine lv_iconst (v := 1) hx hb dX2_pairs_116 (by decide) ?_
                  refine lv_goto (tgt := 121) hx hb dX2_pairs_117 (by decide) ?_
                  exact J61 _ (pt_B.one ⟨(hb4.t c63).1, fun q hq => (Nat.lt_succ_iff_lt_or_eq.mp hq).elim ((hb4.t c63).2 q) (fun z => by subst z; exact ⟨Int32.not_lt.mp c88, Int32.not_lt.mp c113⟩)⟩)
      · refine lv_aload_n hx hb dX2_pairs_24 rfl (lv_at hl 3 rfl) ?_
        refine va_get (D := (dC, dI)) (ci := 2) (v := .ref (a 3)) (C := RX2) (T := TX2) (N := 27) hx hb hts iw_c_X2_pairs_wsX20 hown hK hP 0 rfl rfl 3 (by decide) (hts _ wd_c_X2_pairs_X2_pairs_5) (fun _ h9 => h9) rfl dX2_pairs_25 ?_
        refine lv_iload_n hx hb dX2_pairs_28 rfl (lv_at hl 1 rfl) ?_
        refine pt_zald hx hb hK hP 1 0 rfl rfl i rfl (by omega) (by decide) dX2_pairs_29 ?_
        refine lv_if_eq (tgt := 46) hx hb dX2_pairs_30 (by decide) (fun c30 => ?_) (fun c30 => ?_)
        · refine lv_iconst (v := 0) hx hb dX2_pairs_46 (by decide) ?_
          exact J24 _ (pt_B.zero (fun q => by first | exact q.2 c39 | exact q.1 c30))
        · refine lv_aload_n hx hb dX2_pairs_33 rfl (lv_at hl 3 rfl) ?_
          refine va_get (D := (dC, dI)) (ci := 2) (v := .ref (a 3)) (C := RX2) (T := TX2) (N := 27) hx hb hts iw_c_X2_pairs_wsX20 hown hK hP 0 rfl rfl 3 (by decide) (hts _ wd_c_X2_pairs_X2_pairs_5) (fun _ h9 => h9) rfl dX2_pairs_34 ?_
          refine lv_iload_n hx hb dX2_pairs_37 rfl (lv_at hl 0 rfl) ?_
          refine pt_zald hx hb hK hP 1 0 rfl rfl j rfl (by omega) (by decide) dX2_pairs_38 ?_
          refine lv_if_eq (tgt := 46) hx hb dX2_pairs_39 (by decide) (fun c39 => ?_) (fun c39 => ?_)
          · refine lv_iconst (v := 0) hx hb dX2_pairs_46 (by decide) ?_
            exact J24 _ (pt_B.zero (fun q => by first | exact q.2 c39 | exact q.1 c30))
          · refine lv_iconst (v := 1) hx hb dX2_pairs_42 (by decide) ?_
            refine lv_goto (tgt := 47) hx hb dX2_pairs_43 (by decide) ?_
            exact J24 _ (pt_B.one ⟨c30, c39⟩)
