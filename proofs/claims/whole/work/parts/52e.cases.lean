set_option maxHeartbeats 4000000 in
set_option maxRecDepth 100000 in
theorem lw_case_14 (l : Launch) (hfl : l.stackTraces = false) {p : Program} {e : Env} {s : State} {m : MethodId} {below : List Frame} {meth : Method} {c : Code} {b L : Nat} {xs : Nat → Int32} (hL : L ≤ 4096) (C0 : lw_At p s m meth c b L xs) {dC : Nat → ClassId} {dI : Nat → Nat → Nat} {a : Nat → Nat} {ca : Nat → ClassId} {d : Nat → Nat} {cd : Nat → ClassId} {o : Nat} {cO : ClassId} {sa : Nat} (hC : lw_C s dC dI a ca d cd o cO sa) (n : Nat) (hn : 8 * n + 8 ≤ L) {F : Nat → Int32} {A : Nat → Nat → Int32} {Q : Nat → Int64} {G : Nat → Int32} {B : Nat → Nat → Int32} {f : Nat → Int64} {H : Heap} {locs : List Loc} {cells slots : Nat} (hc : cells + 1 ≤ 601024) (hs : slots + 6 ≤ 7293034) (hI : lw_I s dC dI a ca d cd o cO F A Q G B f H locs) {ls : Array Slot} (hl : lv_has ls 8 [(4, .int (nI (8 * n))), (0, .ref b), (1, .ref (a 0)), (2, .ref (d 0)), (3, .ref o)]) (kk : ∀ (F : Nat → Int32) (A : Nat → Nat → Int32) (Q : Nat → Int64) (G : Nat → Int32) (B : Nat → Nat → Int32) (f : Nat → Int64) (H : Heap) (locs : List Loc) (ls : Array Slot), lw_I s dC dI a ca d cd o cO F A Q G B f H locs → lv_has ls 8 [(4, .int (nI (8 * n))), (0, .ref b), (1, .ref (a 0)), (2, .ref (d 0)), (3, .ref o)] → W p l e room_1 s m #[Value.ref b] below meth c H locs (cells + 1) (slots + 6) (lw_Z below #[Value.ref b] s) (F0 m 834 ls [])) : W p l e room_1 s m #[Value.ref b] below meth c H locs cells slots (lw_Z below #[Value.ref b] s) (F0 m 703 ls []) := by
  obtain ⟨hx, hb, hr, hml, hown, hts0, hX, hbl, hlocks, hgv⟩ := id C0
  have hts : ∀ w ∈ wsL_law, w.before #[Value.ref b] s = true := fun w h => hts0 w (wsL_law_in w h)
  have hbA : ¬ (fun q : Nat => s.heap.size ≤ q) b := Nat.not_le.mpr hbl
  have hA : ∀ q : Nat, s.heap.size ≤ q → (fun q : Nat => s.heap.size ≤ q) q := fun _ h => h
  obtain ⟨hKx, hKm, hKo, hN, ap12, ap13, ap23, hYs, hYb, hY1, hY2⟩ := hC
  obtain ⟨⟨ax, md, N, lz, ts, fd, fc, op, se, ft, hRe⟩, ⟨hPx, hPm, hPo⟩, ⟨hDx, hDm, hDo⟩, hS⟩ := hI
  obtain ⟨⟨hax1, hax, hmd, hlz, hfc⟩, ⟨hF0, hF1, hF2, hF6⟩, ⟨hG1, hG2⟩, hth, hXB, hbd, ⟨⟨gt1, gt2, gt3, gt4⟩, ⟨hF5, hXr, hXt⟩, ⟨hG8, hMr, hMt⟩, hin⟩, ⟨hF15, hask, hale⟩, haM, hA16, hG24, hG25, hG26⟩ := id hRe
  refine lv_aload_n hx hb dL_law_703 rfl (lv_at hl 2 rfl) ?_
  refine lv_aload_n hx hb dL_law_704 rfl (lv_at hl 1 rfl) ?_
  refine lv_iload hx hb dL_law_705 (lv_at hl 0 rfl) ?_
  refine lv_iconst (v := nI 1) hx hb dL_law_707 (by decide) ?_
  refine lv_iadd hx hb dL_law_708 ?_
  refine pt_top (y := nI ((8 * n) + 1)) (nI_add _ _) ?_
  refine pt_sld hx hb hX hbl hbA hS (k := ((8 * n) + 1)) (by omega) (by omega) dL_law_709 ?_
  refine lv_i2l (v := (xs ((8 * n) + 1)).toInt64) hx hb dL_law_710 rfl ?_
  refine lv_bipush (v := nI 32) hx hb dL_law_711 (by decide) ?_
  refine lv_lshl (v := (((xs ((8 * n) + 1)).toInt64) <<< ((nI 32).toInt64 &&& 63))) hx hb dL_law_713 rfl ?_
  refine lv_aload_n hx hb dL_law_714 rfl (lv_at hl 1 rfl) ?_
  refine lv_iload hx hb dL_law_715 (lv_at hl 0 rfl) ?_
  refine lv_iconst (v := nI 2) hx hb dL_law_717 (by decide) ?_
  refine lv_iadd hx hb dL_law_718 ?_
  refine pt_top (y := nI ((8 * n) + 2)) (nI_add _ _) ?_
  refine pt_sld hx hb hX hbl hbA hS (k := ((8 * n) + 2)) (by omega) (by omega) dL_law_719 ?_
  refine lv_i2l (v := (xs ((8 * n) + 2)).toInt64) hx hb dL_law_720 rfl ?_
  refine lv_ldc2 (v := 4294967295) hx hb hown (hts _ wd_L_0) dL_law_721 ?_
  refine lv_land hx hb dL_law_724 ?_
  refine lv_lor hx hb dL_law_725 ?_
  refine lv_aload_n hx hb dL_law_726 rfl (lv_at hl 1 rfl) ?_
  refine lv_iload hx hb dL_law_727 (lv_at hl 0 rfl) ?_
  refine lv_iconst (v := nI 3) hx hb dL_law_729 (by decide) ?_
  refine lv_iadd hx hb dL_law_730 ?_
  refine pt_top (y := nI ((8 * n) + 3)) (nI_add _ _) ?_
  refine pt_sld hx hb hX hbl hbA hS (k := ((8 * n) + 3)) (by omega) (by omega) dL_law_731 ?_
  refine lv_i2l (v := (xs ((8 * n) + 3)).toInt64) hx hb dL_law_732 rfl ?_
  refine lv_bipush (v := nI 32) hx hb dL_law_733 (by decide) ?_
  refine lv_lshl (v := (((xs ((8 * n) + 3)).toInt64) <<< ((nI 32).toInt64 &&& 63))) hx hb dL_law_735 rfl ?_
  refine lv_aload_n hx hb dL_law_736 rfl (lv_at hl 1 rfl) ?_
  refine lv_iload hx hb dL_law_737 (lv_at hl 0 rfl) ?_
  refine lv_iconst (v := nI 4) hx hb dL_law_739 (by decide) ?_
  refine lv_iadd hx hb dL_law_740 ?_
  refine pt_top (y := nI ((8 * n) + 4)) (nI_add _ _) ?_
  refine pt_sld hx hb hX hbl hbA hS (k := ((8 * n) + 4)) (by omega) (by omega) dL_law_741 ?_
  refine lv_i2l (v := (xs ((8 * n) + 4)).toInt64) hx hb dL_law_742 rfl ?_
  refine lv_ldc2 (v := 4294967295) hx hb hown (hts _ wd_L_0) dL_law_743 ?_
  refine lv_land hx hb dL_law_746 ?_
  refine lv_lor hx hb dL_law_747 ?_
  refine lv_aload_n hx hb dL_law_748 rfl (lv_at hl 4 rfl) ?_
  have hPh : va_P (dC, dI) vwCl [(a 0, .inr (1, [.int (F 0), .int (F 1), .int (F 2), .ref (a 3), .ref (a 4), .int (F 5), .int (F 6), .ref (a 7), .ref (a 8), .ref (a 9), .ref (a 10), .ref (a 11), .ref (a 12), .ref (a 13), .ref (a 14), .int (F 15), .ref (a 16), .ref (a 17)])), (o, .inl (cO, 1, .inr (.inl f)))] H := va_P.app (hPx.sub (ws' := [(a 0, .inr (1, [.int (F 0), .int (F 1), .int (F 2), .ref (a 3), .ref (a 4), .int (F 5), .int (F 6), .ref (a 7), .ref (a 8), .ref (a 9), .ref (a 10), .ref (a 11), .ref (a 12), .ref (a 13), .ref (a 14), .int (F 15), .ref (a 16), .ref (a 17)]))]) [0] rfl) hPo
  have hDY : pt_DY sa s H := ⟨hYs, hYb, (hY1.kept hS.2.1).narrow (fun q h => h.elim), (hY2.kept hS.2.1).narrow (fun q h => h.elim)⟩
  refine vx_calli (A0 := (fun q : Nat => s.heap.size ≤ q)) (H0 := s.heap) (vx_runSX (hh := [(0, 10, 13, 13)]) (As := [.ref (a 0), .long ((((xs ((8 * n) + 1)).toInt64) <<< ((nI 32).toInt64 &&& 63)) ||| (((xs ((8 * n) + 2)).toInt64) &&& (4294967295 : Int64))), .long ((((xs ((8 * n) + 3)).toInt64) <<< ((nI 32).toInt64 &&& 63)) ||| (((xs ((8 * n) + 4)).toInt64) &&& (4294967295 : Int64))), .ref o]) (rest := []) ⟨hx, hb, hml, hown, hts⟩ (c_L_day l hfl dC dI (a 0) o [.int (F 0), .int (F 1), .int (F 2), .ref (a 3), .ref (a 4), .int (F 5), .int (F 6), .ref (a 7), .ref (a 8), .ref (a 9), .ref (a 10), .ref (a 11), .ref (a 12), .ref (a 13), .ref (a 14), .int (F 15), .ref (a 16), .ref (a 17)] cO f H.size sa ((((xs ((8 * n) + 1)).toInt64) <<< ((nI 32).toInt64 &&& 63)) ||| (((xs ((8 * n) + 2)).toInt64) &&& (4294967295 : Int64))) ((((xs ((8 * n) + 3)).toInt64) <<< ((nI 32).toInt64 &&& 63)) ||| (((xs ((8 * n) + 4)).toInt64) &&& (4294967295 : Int64)))) (vx_cwSW 4 hts gL_law_L_day rfl rfl rfl (by decide +kernel) ⟨Nat.le_of_ble_eq_true rfl, Nat.le_of_ble_eq_true rfl⟩) ⟨fun a U g mk q => ⟨q.1, q.2.1, q.2.2.1, va_K.moved (u := U) (U := U.calling g mk a) (Vm.Alike.refl U.vm) q.2.2.2.1, q.2.2.2.2.calling⟩, fun U hU hW => ⟨rfl, by rw [hU], by rw [hU]; exact hPh, va_K.moved hW.alike hKo, by show pt_DY sa U U.heap; rw [hU]; exact hDY.warm hW⟩⟩ rfl rfl hl.1 rfl (lv_room (Nat.le_of_ble_eq_true rfl)) dL_law_749 ⟨by show cells + 1 ≤ 601024; omega, by show slots + 6 ≤ 7293034; omega⟩) hS (fun q _ h => pt_free hDo hS hA q h) (pt_free hDo hS hA) (fun q _ h => h.elim) (fun E ce q9 u t9 H1 locs1 ht9 hvm9 hpx => hpx.elim) (fun k9 f1 t9 H1 locs ht9 hvm9 hdy hB hz1 hk1 hS => ?_)
  have hPx := pt_keepA (ws := [(o, .inl (cO, 1, .inr (.inl f)))]) hPx (ap13.symm.same rfl rfl) hk1
  have hPm := pt_keepA (ws := [(o, .inl (cO, 1, .inr (.inl f)))]) hPm (ap23.symm.same rfl rfl) hk1
  have hPo : va_P (dC, dI) vwCl [(o, .inl (cO, 1, .inr (.inl f1)))] H1 := by rw [← ht9]; exact hB
  have hDo : va_D (fun q : Nat => s.heap.size ≤ q) [(o, .inl (cO, 1, .inr (.inl f1)))] := pt_Dsame hDo rfl
  clear hPh hDY
  generalize H1 = H at hPx hPm hPo hS ⊢
  refine lv_istore (lv' := [(5, .int k9), (4, .int (nI (8 * n))), (0, .ref b), (1, .ref (a 0)), (2, .ref (d 0)), (3, .ref o)]) hx hb dL_law_752 hl (by decide) rfl (fun ls hl => ?_)
  refine lv_aload_n hx hb dL_law_754 rfl (lv_at hl 4 rfl) ?_
  refine lv_aload_n hx hb dL_law_755 rfl (lv_at hl 2 rfl) ?_
  refine lv_iload hx hb dL_law_756 (lv_at hl 1 rfl) ?_
  refine lv_iconst (v := nI 1) hx hb dL_law_758 (by decide) ?_
  refine lv_iadd hx hb dL_law_759 ?_
  refine pt_top (y := nI ((8 * n) + 1)) (nI_add _ _) ?_
  refine pt_sld hx hb hX hbl hbA hS (k := ((8 * n) + 1)) (by omega) (by omega) dL_law_760 ?_
  refine lv_i2l (v := (xs ((8 * n) + 1)).toInt64) hx hb dL_law_761 rfl ?_
  refine lv_bipush (v := nI 32) hx hb dL_law_762 (by decide) ?_
  refine lv_lshl (v := (((xs ((8 * n) + 1)).toInt64) <<< ((nI 32).toInt64 &&& 63))) hx hb dL_law_764 rfl ?_
  refine lv_aload_n hx hb dL_law_765 rfl (lv_at hl 2 rfl) ?_
  refine lv_iload hx hb dL_law_766 (lv_at hl 1 rfl) ?_
  refine lv_iconst (v := nI 2) hx hb dL_law_768 (by decide) ?_
  refine lv_iadd hx hb dL_law_769 ?_
  refine pt_top (y := nI ((8 * n) + 2)) (nI_add _ _) ?_
  refine pt_sld hx hb hX hbl hbA hS (k := ((8 * n) + 2)) (by omega) (by omega) dL_law_770 ?_
  refine lv_i2l (v := (xs ((8 * n) + 2)).toInt64) hx hb dL_law_771 rfl ?_
  refine lv_ldc2 (v := 4294967295) hx hb hown (hts _ wd_L_0) dL_law_772 ?_
  refine lv_land hx hb dL_law_775 ?_
  refine lv_lor hx hb dL_law_776 ?_
  refine lv_aload_n hx hb dL_law_777 rfl (lv_at hl 2 rfl) ?_
  refine lv_iload hx hb dL_law_778 (lv_at hl 1 rfl) ?_
  refine lv_iconst (v := nI 3) hx hb dL_law_780 (by decide) ?_
  refine lv_iadd hx hb dL_law_781 ?_
  refine pt_top (y := nI ((8 * n) + 3)) (nI_add _ _) ?_
  refine pt_sld hx hb hX hbl hbA hS (k := ((8 * n) + 3)) (by omega) (by omega) dL_law_782 ?_
  refine lv_i2l (v := (xs ((8 * n) + 3)).toInt64) hx hb dL_law_783 rfl ?_
  refine lv_bipush (v := nI 32) hx hb dL_law_784 (by decide) ?_
  refine lv_lshl (v := (((xs ((8 * n) + 3)).toInt64) <<< ((nI 32).toInt64 &&& 63))) hx hb dL_law_786 rfl ?_
  refine lv_aload_n hx hb dL_law_787 rfl (lv_at hl 2 rfl) ?_
  refine lv_iload hx hb dL_law_788 (lv_at hl 1 rfl) ?_
  refine lv_iconst (v := nI 4) hx hb dL_law_790 (by decide) ?_
  refine lv_iadd hx hb dL_law_791 ?_
  refine pt_top (y := nI ((8 * n) + 4)) (nI_add _ _) ?_
  refine pt_sld hx hb hX hbl hbA hS (k := ((8 * n) + 4)) (by omega) (by omega) dL_law_792 ?_
  refine lv_i2l (v := (xs ((8 * n) + 4)).toInt64) hx hb dL_law_793 rfl ?_
  refine lv_ldc2 (v := 4294967295) hx hb hown (hts _ wd_L_0) dL_law_794 ?_
  refine lv_land hx hb dL_law_797 ?_
  refine lv_lor hx hb dL_law_798 ?_
  refine pt_callPl (wf := fun u : pt_MS => pt_mw d cd u.1 u.2) (va_runV (As := [.long ((((xs ((8 * n) + 1)).toInt64) <<< ((nI 32).toInt64 &&& 63)) ||| (((xs ((8 * n) + 2)).toInt64) &&& (4294967295 : Int64))), .long ((((xs ((8 * n) + 3)).toInt64) <<< ((nI 32).toInt64 &&& 63)) ||| (((xs ((8 * n) + 4)).toInt64) &&& (4294967295 : Int64)))]) (rest := []) ⟨hx, hb, hml, hown, hts⟩ (c_X2_day l dC dI d cd G B _  ((((xs ((8 * n) + 1)).toInt64) <<< ((nI 32).toInt64 &&& 63)) ||| (((xs ((8 * n) + 2)).toInt64) &&& (4294967295 : Int64))) ((((xs ((8 * n) + 3)).toInt64) <<< ((nI 32).toInt64 &&& 63)) ||| (((xs ((8 * n) + 4)).toInt64) &&& (4294967295 : Int64)))) (cwV 2 hts gL_law_X2_day rfl rfl rfl (by decide +kernel) ⟨Nat.le_of_ble_eq_true rfl, Nat.le_of_ble_eq_true rfl⟩) (pt_wv2 hPm hKm hN hDm (q0 := 0) rfl) rfl rfl hl.1 rfl (lv_room (Nat.le_of_ble_eq_true rfl)) dL_law_799 ⟨by show cells + 1 + 0 ≤ 601024; omega, by show slots + 6 + 0 ≤ 7293034; omega⟩) hDm hS hA (fun _ => rfl) hPx (ap12.symm.same rfl rfl) hPo (ap23.same rfl rfl) (fun r2 u2 H locs hr2 hPm hDm hS hPx hPo => ?_)
  have hrl := rl_day hRe hdy hr2
  refine lv_lstore (lv' := [(6, .long r2), (5, .int k9), (4, .int (nI (8 * n))), (0, .ref b), (1, .ref (a 0)), (2, .ref (d 0)), (3, .ref o)]) hx hb dL_law_802 hl (by decide) rfl (fun ls hl => ?_)
  refine lv_aload_n hx hb dL_law_804 rfl (lv_at hl 5 rfl) ?_
  refine pt_rdi (va_runV (As := []) (rest := []) ⟨hx, hb, hml, hown, hts⟩ (c_X2_thrown l dC dI d cd u2.1 u2.2) (cwV 0 hts gL_law_X2_thrown rfl rfl rfl (by decide +kernel) ⟨Nat.le_of_ble_eq_true rfl, Nat.le_of_ble_eq_true rfl⟩) (pt_pv2 hPm hKm hN (q0 := 0) rfl) rfl rfl hl.1 rfl (lv_room (Nat.le_of_ble_eq_true rfl)) dL_law_805 ⟨by show cells + 1 + 0 ≤ 601024; omega, by show slots + 6 + 0 ≤ 7293034; omega⟩) (fun r3 hr3 => ?_)
  refine lv_iload hx hb dL_law_808 (lv_at hl 1 rfl) ?_
  refine lv_icmp_eq (tgt := 815) hx hb dL_law_810 (by decide) (fun c810 => ?_) (fun c810 => absurd (hr3.trans hrl.1) c810)
  refine lv_iload hx hb dL_law_815 (lv_at hl 1 rfl) ?_
  refine lv_if_ne (tgt := 831) hx hb dL_law_817 (by decide) (fun c817 => ?_) (fun c817 => ?_)
  · refine lv_goto (tgt := 834) hx hb dL_law_831 (by decide) ?_
    refine W.widen (k := cells + 1) (n := slots + 6) (by omega) (by omega) ?_
    exact kk F A Q u2.1 u2.2 f1 _ _ ls ⟨hrl.2.2, ⟨hPx, hPm, hPo⟩, ⟨hDx, hDm, hDo⟩, hS⟩ (lv_sub hl [2, 3, 4, 5, 6] rfl)
  · refine lv_aload_n hx hb dL_law_820 rfl (lv_at hl 6 rfl) ?_
    refine lv_iconst (v := nI 0) hx hb dL_law_821 (by decide) ?_
    refine pt_lald hx hb hKo hPo 0 0 rfl rfl 0 rfl (by decide) (by decide) dL_law_822 ?_
    refine lv_lload hx hb dL_law_823 (lv_at hl 0 rfl) ?_
    refine W.lcmp hx hb dL_law_825 ?_
    refine lv_if_eq (tgt := 831) hx hb dL_law_826 (by decide) (fun c826 => ?_) (fun c826 => absurd ((lg_cmp_eq _ _).mpr (hrl.2.1 c817)) c826)
    refine lv_goto (tgt := 834) hx hb dL_law_831 (by decide) ?_
    refine W.widen (k := cells + 1) (n := slots + 6) (by omega) (by omega) ?_
    exact kk F A Q u2.1 u2.2 f1 _ _ ls ⟨hrl.2.2, ⟨hPx, hPm, hPo⟩, ⟨hDx, hDm, hDo⟩, hS⟩ (lv_sub hl [2, 3, 4, 5, 6] rfl)

