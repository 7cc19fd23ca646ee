set_option maxHeartbeats 4000000 in
set_option maxRecDepth 100000 in
theorem lw_case_8 (l : Launch) (hfl : l.stackTraces = false) {p : Program} {e : Env} {s : State} {m : MethodId} {below : List Frame} {meth : Method} {c : Code} {b L : Nat} {xs : Nat → Int32} (hL : L ≤ 4096) (C0 : lw_At p s m meth c b L xs) {dC : Nat → ClassId} {dI : Nat → Nat → Nat} {a : Nat → Nat} {ca : Nat → ClassId} {d : Nat → Nat} {cd : Nat → ClassId} {o : Nat} {cO : ClassId} {sa : Nat} (hC : lw_C s dC dI a ca d cd o cO sa) (n : Nat) (hn : 8 * n + 8 ≤ L) {F : Nat → Int32} {A : Nat → Nat → Int32} {Q : Nat → Int64} {G : Nat → Int32} {B : Nat → Nat → Int32} {f : Nat → Int64} {H : Heap} {locs : List Loc} {cells slots : Nat} (hc : cells + 1 ≤ 601024) (hs : slots + 6 ≤ 7293034) (hI : lw_I s dC dI a ca d cd o cO F A Q G B f H locs) {ls : Array Slot} (hl : lv_has ls 8 [(4, .int (nI (8 * n))), (0, .ref b), (1, .ref (a 0)), (2, .ref (d 0)), (3, .ref o)]) (kk : ∀ (F : Nat → Int32) (A : Nat → Nat → Int32) (Q : Nat → Int64) (G : Nat → Int32) (B : Nat → Nat → Int32) (f : Nat → Int64) (H : Heap) (locs : List Loc) (ls : Array Slot), lw_I s dC dI a ca d cd o cO F A Q G B f H locs → lv_has ls 8 [(4, .int (nI (8 * n))), (0, .ref b), (1, .ref (a 0)), (2, .ref (d 0)), (3, .ref o)] → W p l e room_1 s m #[Value.ref b] below meth c H locs (cells + 1) (slots + 6) (lw_Z below #[Value.ref b] s) (F0 m 834 ls [])) : W p l e room_1 s m #[Value.ref b] below meth c H locs cells slots (lw_Z below #[Value.ref b] s) (F0 m 416 ls []) := by
  obtain ⟨hx, hb, hr, hml, hown, hts0, hX, hbl, hlocks, hgv⟩ := id C0
  have hts : ∀ w ∈ wsL_law, w.before #[Value.ref b] s = true := fun w h => hts0 w (wsL_law_in w h)
  have hbA : ¬ (fun q : Nat => s.heap.size ≤ q) b := Nat.not_le.mpr hbl
  have hA : ∀ q : Nat, s.heap.size ≤ q → (fun q : Nat => s.heap.size ≤ q) q := fun _ h => h
  obtain ⟨hKx, hKm, hKo, hN, ap12, ap13, ap23, hYs, hYb, hY1, hY2⟩ := hC
  obtain ⟨⟨ax, md, N, lz, ts, fd, fc, op, se, ft, hRe⟩, ⟨hPx, hPm, hPo⟩, ⟨hDx, hDm, hDo⟩, hS⟩ := hI
  obtain ⟨⟨hax1, hax, hmd, hlz, hfc⟩, ⟨hF0, hF1, hF2, hF6⟩, ⟨hG1, hG2⟩, hth, hXB, hbd, ⟨⟨gt1, gt2, gt3, gt4⟩, ⟨hF5, hXr, hXt⟩, ⟨hG8, hMr, hMt⟩, hin⟩, ⟨hF15, hask, hale⟩, haM, hA16, hG24, hG25, hG26⟩ := id hRe
  refine lv_aload_n hx hb dL_law_416 rfl (lv_at hl 2 rfl) ?_
  refine lv_aload_n hx hb dL_law_417 rfl (lv_at hl 1 rfl) ?_
  refine lv_iload hx hb dL_law_418 (lv_at hl 0 rfl) ?_
  refine lv_iconst (v := nI 1) hx hb dL_law_420 (by decide) ?_
  refine lv_iadd hx hb dL_law_421 ?_
  refine pt_top (y := nI ((8 * n) + 1)) (nI_add _ _) ?_
  refine pt_sld hx hb hX hbl hbA hS (k := ((8 * n) + 1)) (by omega) (by omega) dL_law_422 ?_
  refine lv_aload_n hx hb dL_law_423 rfl (lv_at hl 1 rfl) ?_
  refine lv_iload hx hb dL_law_424 (lv_at hl 0 rfl) ?_
  refine lv_iconst (v := nI 2) hx hb dL_law_426 (by decide) ?_
  refine lv_iadd hx hb dL_law_427 ?_
  refine pt_top (y := nI ((8 * n) + 2)) (nI_add _ _) ?_
  refine pt_sld hx hb hX hbl hbA hS (k := ((8 * n) + 2)) (by omega) (by omega) dL_law_428 ?_
  refine lv_aload_n hx hb dL_law_429 rfl (lv_at hl 1 rfl) ?_
  refine lv_iload hx hb dL_law_430 (lv_at hl 0 rfl) ?_
  refine lv_iconst (v := nI 3) hx hb dL_law_432 (by decide) ?_
  refine lv_iadd hx hb dL_law_433 ?_
  refine pt_top (y := nI ((8 * n) + 3)) (nI_add _ _) ?_
  refine pt_sld hx hb hX hbl hbA hS (k := ((8 * n) + 3)) (by omega) (by omega) dL_law_434 ?_
  refine lv_aload_n hx hb dL_law_435 rfl (lv_at hl 1 rfl) ?_
  refine lv_iload hx hb dL_law_436 (lv_at hl 0 rfl) ?_
  refine lv_iconst (v := nI 4) hx hb dL_law_438 (by decide) ?_
  refine lv_iadd hx hb dL_law_439 ?_
  refine pt_top (y := nI ((8 * n) + 4)) (nI_add _ _) ?_
  refine pt_sld hx hb hX hbl hbA hS (k := ((8 * n) + 4)) (by omega) (by omega) dL_law_440 ?_
  refine lv_aload_n hx hb dL_law_441 rfl (lv_at hl 1 rfl) ?_
  refine lv_iload hx hb dL_law_442 (lv_at hl 0 rfl) ?_
  refine lv_iconst (v := nI 5) hx hb dL_law_444 (by decide) ?_
  refine lv_iadd hx hb dL_law_445 ?_
  refine pt_top (y := nI ((8 * n) + 5)) (nI_add _ _) ?_
  refine pt_sld hx hb hX hbl hbA hS (k := ((8 * n) + 5)) (by omega) (by omega) dL_law_446 ?_
  refine lv_aload_n hx hb dL_law_447 rfl (lv_at hl 1 rfl) ?_
  refine lv_iload hx hb dL_law_448 (lv_at hl 0 rfl) ?_
  refine lv_bipush (v := nI 6) hx hb dL_law_450 (by decide) ?_
  refine lv_iadd hx hb dL_law_452 ?_
  refine pt_top (y := nI ((8 * n) + 6)) (nI_add _ _) ?_
  refine pt_sld hx hb hX hbl hbA hS (k := ((8 * n) + 6)) (by omega) (by omega) dL_law_453 ?_
  refine lv_aload_n hx hb dL_law_454 rfl (lv_at hl 1 rfl) ?_
  refine lv_iload hx hb dL_law_455 (lv_at hl 0 rfl) ?_
  refine lv_bipush (v := nI 7) hx hb dL_law_457 (by decide) ?_
  refine lv_iadd hx hb dL_law_459 ?_
  refine pt_top (y := nI ((8 * n) + 7)) (nI_add _ _) ?_
  refine pt_sld hx hb hX hbl hbA hS (k := ((8 * n) + 7)) (by omega) (by omega) dL_law_460 ?_
  refine pt_callPi (wf := fun u : pt_XS => pt_xw a ca u.1 u.2.1 u.2.2) (va_runV (As := [.int (xs ((8 * n) + 1)), .int (xs ((8 * n) + 2)), .int (xs ((8 * n) + 3)), .int (xs ((8 * n) + 4)), .int (xs ((8 * n) + 5)), .int (xs ((8 * n) + 6)), .int (xs ((8 * n) + 7))]) (rest := []) ⟨hx, hb, hml, hown, hts⟩ (c_X1_range l dC dI a ca F A Q _ ax hF0 hax md hF1 hmd ts.1 hF5 gt1 lz hF6 hlz (ts.2.2.1 0) (ts.2.2.1 1) (ts.2.2.1 2) ts.2.1 N gt2 (fun b hb => ⟨(hXt b hb).1, (hXt b hb).2.1, (hXt b hb).2.2.1, Nat.le_of_lt (gt4 b hb).1, (gt4 b hb).2.1, (gt4 b hb).2.2.2.1⟩) (fun i hi => ⟨(hXr i hi).1, Nat.lt_of_lt_of_le (hXr i hi).2 hmd⟩) (xs ((8 * n) + 1)) (xs ((8 * n) + 2)) (xs ((8 * n) + 3)) (xs ((8 * n) + 4)) (xs ((8 * n) + 5)) (xs ((8 * n) + 6)) (xs ((8 * n) + 7))) (cwV 7 hts gL_law_X1_range rfl rfl rfl (by decide +kernel) ⟨Nat.le_of_ble_eq_true rfl, Nat.le_of_ble_eq_true rfl⟩) (pt_wv1 hPx hKx hN hDx (q0 := 0) rfl) rfl rfl hl.1 rfl (lv_room (Nat.le_of_ble_eq_true rfl)) dL_law_461 ⟨by show cells + 0 ≤ 601024; omega, by show slots + 0 ≤ 7293034; omega⟩) hDx hS hA (fun _ => rfl) hPm (ap12.same rfl rfl) hPo (ap13.same rfl rfl) (fun r1 u1 H locs hr1 hPx hDx hS hPm hPo => ?_)
  refine lv_aload_n hx hb dL_law_464 rfl (lv_at hl 3 rfl) ?_
  refine lv_aload_n hx hb dL_law_465 rfl (lv_at hl 1 rfl) ?_
  refine lv_iload hx hb dL_law_466 (lv_at hl 0 rfl) ?_
  refine lv_iconst (v := nI 1) hx hb dL_law_468 (by decide) ?_
  refine lv_iadd hx hb dL_law_469 ?_
  refine pt_top (y := nI ((8 * n) + 1)) (nI_add _ _) ?_
  refine pt_sld hx hb hX hbl hbA hS (k := ((8 * n) + 1)) (by omega) (by omega) dL_law_470 ?_
  refine lv_aload_n hx hb dL_law_471 rfl (lv_at hl 1 rfl) ?_
  refine lv_iload hx hb dL_law_472 (lv_at hl 0 rfl) ?_
  refine lv_iconst (v := nI 2) hx hb dL_law_474 (by decide) ?_
  refine lv_iadd hx hb dL_law_475 ?_
  refine pt_top (y := nI ((8 * n) + 2)) (nI_add _ _) ?_
  refine pt_sld hx hb hX hbl hbA hS (k := ((8 * n) + 2)) (by omega) (by omega) dL_law_476 ?_
  refine lv_aload_n hx hb dL_law_477 rfl (lv_at hl 1 rfl) ?_
  refine lv_iload hx hb dL_law_478 (lv_at hl 0 rfl) ?_
  refine lv_iconst (v := nI 3) hx hb dL_law_480 (by decide) ?_
  refine lv_iadd hx hb dL_law_481 ?_
  refine pt_top (y := nI ((8 * n) + 3)) (nI_add _ _) ?_
  refine pt_sld hx hb hX hbl hbA hS (k := ((8 * n) + 3)) (by omega) (by omega) dL_law_482 ?_
  refine lv_aload_n hx hb dL_law_483 rfl (lv_at hl 1 rfl) ?_
  refine lv_iload hx hb dL_law_484 (lv_at hl 0 rfl) ?_
  refine lv_iconst (v := nI 4) hx hb dL_law_486 (by decide) ?_
  refine lv_iadd hx hb dL_law_487 ?_
  refine pt_top (y := nI ((8 * n) + 4)) (nI_add _ _) ?_
  refine pt_sld hx hb hX hbl hbA hS (k := ((8 * n) + 4)) (by omega) (by omega) dL_law_488 ?_
  refine lv_aload_n hx hb dL_law_489 rfl (lv_at hl 1 rfl) ?_
  refine lv_iload hx hb dL_law_490 (lv_at hl 0 rfl) ?_
  refine lv_iconst (v := nI 5) hx hb dL_law_492 (by decide) ?_
  refine lv_iadd hx hb dL_law_493 ?_
  refine pt_top (y := nI ((8 * n) + 5)) (nI_add _ _) ?_
  refine pt_sld hx hb hX hbl hbA hS (k := ((8 * n) + 5)) (by omega) (by omega) dL_law_494 ?_
  refine lv_aload_n hx hb dL_law_495 rfl (lv_at hl 1 rfl) ?_
  refine lv_iload hx hb dL_law_496 (lv_at hl 0 rfl) ?_
  refine lv_bipush (v := nI 6) hx hb dL_law_498 (by decide) ?_
  refine lv_iadd hx hb dL_law_500 ?_
  refine pt_top (y := nI ((8 * n) + 6)) (nI_add _ _) ?_
  refine pt_sld hx hb hX hbl hbA hS (k := ((8 * n) + 6)) (by omega) (by omega) dL_law_501 ?_
  refine lv_aload_n hx hb dL_law_502 rfl (lv_at hl 1 rfl) ?_
  refine lv_iload hx hb dL_law_503 (lv_at hl 0 rfl) ?_
  refine lv_bipush (v := nI 7) hx hb dL_law_505 (by decide) ?_
  refine lv_iadd hx hb dL_law_507 ?_
  refine pt_top (y := nI ((8 * n) + 7)) (nI_add _ _) ?_
  refine pt_sld hx hb hX hbl hbA hS (k := ((8 * n) + 7)) (by omega) (by omega) dL_law_508 ?_
  refine pt_callPi (wf := fun u : pt_MS => pt_mw d cd u.1 u.2) (va_runV (As := [.int (xs ((8 * n) + 1)), .int (xs ((8 * n) + 2)), .int (xs ((8 * n) + 3)), .int (xs ((8 * n) + 4)), .int (xs ((8 * n) + 5)), .int (xs ((8 * n) + 6)), .int (xs ((8 * n) + 7))]) (rest := [.int r1]) ⟨hx, hb, hml, hown, hts⟩ (c_X2_range l dC dI d cd G B _ ax hG1 hax hax1 md hG2 hmd ts.1 hG8 gt1 (ts.2.2.1 0) (ts.2.2.1 1) (ts.2.2.1 2) ts.2.1 (fun b => ts.2.2.1 1 b - ts.2.2.1 0 b) (ts.2.2.1 3) N gt2 (fun b hb => ⟨(hMt b hb).1, (hMt b hb).2.1, (hMt b hb).2.2.2.1, by have := (gt4 b hb).1; omega, (gt4 b hb).2.1, (gt4 b hb).2.2.1, (gt4 b hb).2.2.2.2⟩) (fun i hi => ⟨(hMr i hi).1, Nat.lt_of_lt_of_le (hMr i hi).2 hmd⟩) gt3 (xs ((8 * n) + 1)) (xs ((8 * n) + 2)) (xs ((8 * n) + 3)) (xs ((8 * n) + 4)) (xs ((8 * n) + 5)) (xs ((8 * n) + 6)) (xs ((8 * n) + 7))) (cwV 7 hts gL_law_X2_range rfl rfl rfl (by decide +kernel) ⟨Nat.le_of_ble_eq_true rfl, Nat.le_of_ble_eq_true rfl⟩) (pt_wv2 hPm hKm hN hDm (q0 := 0) rfl) rfl rfl hl.1 rfl (lv_room (Nat.le_of_ble_eq_true rfl)) dL_law_509 ⟨by show cells + 0 ≤ 601024; omega, by show slots + 0 ≤ 7293034; omega⟩) hDm hS hA (fun _ => rfl) hPx (ap12.symm.same rfl rfl) hPo (ap23.same rfl rfl) (fun r2 u2 H locs hr2 hPm hDm hS hPx hPo => ?_)
  have hrl := rl_range hRe hr1 hr2
  refine lv_icmp_eq (tgt := 834) hx hb dL_law_512 (by decide) (fun c512 => ?_) (fun c512 => absurd hrl.1 c512)
  refine W.widen (k := cells + 1) (n := slots + 6) (by omega) (by omega) ?_
  exact kk u1.1 u1.2.1 u1.2.2 u2.1 u2.2 f _ _ ls ⟨hrl.2, ⟨hPx, hPm, hPo⟩, ⟨hDx, hDm, hDo⟩, hS⟩ (lv_sub hl [0, 1, 2, 3, 4] rfl)

