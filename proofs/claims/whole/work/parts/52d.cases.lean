set_option maxHeartbeats 4000000 in
set_option maxRecDepth 100000 in
theorem lw_case_9 (l : Launch) (hfl : l.stackTraces = false) {p : Program} {e : Env} {s : State} {m : MethodId} {below : List Frame} {meth : Method} {c : Code} {b L : Nat} {xs : Nat → Int32} (hL : L ≤ 4096) (C0 : lw_At p s m meth c b L xs) {dC : Nat → ClassId} {dI : Nat → Nat → Nat} {a : Nat → Nat} {ca : Nat → ClassId} {d : Nat → Nat} {cd : Nat → ClassId} {o : Nat} {cO : ClassId} {sa : Nat} (hC : lw_C s dC dI a ca d cd o cO sa) (n : Nat) (hn : 8 * n + 8 ≤ L) {F : Nat → Int32} {A : Nat → Nat → Int32} {Q : Nat → Int64} {G : Nat → Int32} {B : Nat → Nat → Int32} {f : Nat → Int64} {H : Heap} {locs : List Loc} {cells slots : Nat} (hc : cells + 1 ≤ 601024) (hs : slots + 6 ≤ 7293034) (hI : lw_I s dC dI a ca d cd o cO F A Q G B f H locs) {ls : Array Slot} (hl : lv_has ls 8 [(4, .int (nI (8 * n))), (0, .ref b), (1, .ref (a 0)), (2, .ref (d 0)), (3, .ref o)]) (kk : ∀ (F : Nat → Int32) (A : Nat → Nat → Int32) (Q : Nat → Int64) (G : Nat → Int32) (B : Nat → Nat → Int32) (f : Nat → Int64) (H : Heap) (locs : List Loc) (ls : Array Slot), lw_I s dC dI a ca d cd o cO F A Q G B f H locs → lv_has ls 8 [(4, .int (nI (8 * n))), (0, .ref b), (1, .ref (a 0)), (2, .ref (d 0)), (3, .ref o)] → W p l e room_1 s m #[Value.ref b] below meth c H locs (cells + 1) (slots + 6) (lw_Z below #[Value.ref b] s) (F0 m 834 ls [])) : W p l e room_1 s m #[Value.ref b] below meth c H locs cells slots (lw_Z below #[Value.ref b] s) (F0 m 517 ls []) := by
  obtain ⟨hx, hb, hr, hml, hown, hts0, hX, hbl, hlocks, hgv⟩ := id C0
  have hts : ∀ w ∈ wsL_law, w.before #[Value.ref b] s = true := fun w h => hts0 w (wsL_law_in w h)
  have hbA : ¬ (fun q : Nat => s.heap.size ≤ q) b := Nat.not_le.mpr hbl
  have hA : ∀ q : Nat, s.heap.size ≤ q → (fun q : Nat => s.heap.size ≤ q) q := fun _ h => h
  obtain ⟨hKx, hKm, hKo, hN, ap12, ap13, ap23, hYs, hYb, hY1, hY2⟩ := hC
  obtain ⟨⟨ax, md, N, lz, ts, fd, fc, op, se, ft, hRe⟩, ⟨hPx, hPm, hPo⟩, ⟨hDx, hDm, hDo⟩, hS⟩ := hI
  obtain ⟨⟨hax1, hax, hmd, hlz, hfc⟩, ⟨hF0, hF1, hF2, hF6⟩, ⟨hG1, hG2⟩, hth, hXB, hbd, ⟨⟨gt1, gt2, gt3, gt4⟩, ⟨hF5, hXr, hXt⟩, ⟨hG8, hMr, hMt⟩, hin⟩, ⟨hF15, hask, hale⟩, haM, hA16, hG24, hG25, hG26⟩ := id hRe
  refine lv_aload_n hx hb dL_law_517 rfl (lv_at hl 2 rfl) ?_
  refine lv_aload_n hx hb dL_law_518 rfl (lv_at hl 1 rfl) ?_
  refine lv_iload hx hb dL_law_519 (lv_at hl 0 rfl) ?_
  refine lv_iconst (v := nI 1) hx hb dL_law_521 (by decide) ?_
  refine lv_iadd hx hb dL_law_522 ?_
  refine pt_top (y := nI ((8 * n) + 1)) (nI_add _ _) ?_
  refine pt_sld hx hb hX hbl hbA hS (k := ((8 * n) + 1)) (by omega) (by omega) dL_law_523 ?_
  refine pt_rdi (va_runV (As := [.int (xs ((8 * n) + 1))]) (rest := []) ⟨hx, hb, hml, hown, hts⟩ (c_X1_found l dC dI a ca F A Q fc hF15 (by omega) (by rw [pt_cnt_c 64 (fun t ht => (hask t ht).iff)]; exact hale) (xs ((8 * n) + 1))) (cwV 1 hts gL_law_X1_found rfl rfl rfl (by decide +kernel) ⟨Nat.le_of_ble_eq_true rfl, Nat.le_of_ble_eq_true rfl⟩) (pt_pv1 hPx hKx hN (q0 := 0) rfl) rfl rfl hl.1 rfl (lv_room (Nat.le_of_ble_eq_true rfl)) dL_law_524 ⟨by show cells + 0 ≤ 601024; omega, by show slots + 0 ≤ 7293034; omega⟩) (fun r1 hr1 => ?_)
  refine lv_aload_n hx hb dL_law_527 rfl (lv_at hl 3 rfl) ?_
  refine lv_aload_n hx hb dL_law_528 rfl (lv_at hl 1 rfl) ?_
  refine lv_iload hx hb dL_law_529 (lv_at hl 0 rfl) ?_
  refine lv_iconst (v := nI 1) hx hb dL_law_531 (by decide) ?_
  refine lv_iadd hx hb dL_law_532 ?_
  refine pt_top (y := nI ((8 * n) + 1)) (nI_add _ _) ?_
  refine pt_sld hx hb hX hbl hbA hS (k := ((8 * n) + 1)) (by omega) (by omega) dL_law_533 ?_
  refine pt_callPi (wf := fun u : pt_MS => pt_mw d cd u.1 u.2) (va_runV (As := [.int (xs ((8 * n) + 1))]) (rest := [.int r1]) ⟨hx, hb, hml, hown, hts⟩ (c_X2_found l dC dI d cd G B _  (xs ((8 * n) + 1))) (cwV 1 hts gL_law_X2_found rfl rfl rfl (by decide +kernel) ⟨Nat.le_of_ble_eq_true rfl, Nat.le_of_ble_eq_true rfl⟩) (pt_wv2 hPm hKm hN hDm (q0 := 0) rfl) rfl rfl hl.1 rfl (lv_room (Nat.le_of_ble_eq_true rfl)) dL_law_534 ⟨by show cells + 0 ≤ 601024; omega, by show slots + 0 ≤ 7293034; omega⟩) hDm hS hA (fun _ => rfl) hPx (ap12.symm.same rfl rfl) hPo (ap23.same rfl rfl) (fun r2 u2 H locs hr2 hPm hDm hS hPx hPo => ?_)
  have hrl := rl_found hRe hr1 hr2
  refine lv_icmp_eq (tgt := 834) hx hb dL_law_537 (by decide) (fun c537 => ?_) (fun c537 => absurd hrl.1 c537)
  refine W.widen (k := cells + 1) (n := slots + 6) (by omega) (by omega) ?_
  exact kk F A Q u2.1 u2.2 f _ _ ls ⟨hrl.2, ⟨hPx, hPm, hPo⟩, ⟨hDx, hDm, hDo⟩, hS⟩ (lv_sub hl [0, 1, 2, 3, 4] rfl)

set_option maxHeartbeats 4000000 in
set_option maxRecDepth 100000 in
theorem lw_case_10 (l : Launch) (hfl : l.stackTraces = false) {p : Program} {e : Env} {s : State} {m : MethodId} {below : List Frame} {meth : Method} {c : Code} {b L : Nat} {xs : Nat → Int32} (hL : L ≤ 4096) (C0 : lw_At p s m meth c b L xs) {dC : Nat → ClassId} {dI : Nat → Nat → Nat} {a : Nat → Nat} {ca : Nat → ClassId} {d : Nat → Nat} {cd : Nat → ClassId} {o : Nat} {cO : ClassId} {sa : Nat} (hC : lw_C s dC dI a ca d cd o cO sa) (n : Nat) (hn : 8 * n + 8 ≤ L) {F : Nat → Int32} {A : Nat → Nat → Int32} {Q : Nat → Int64} {G : Nat → Int32} {B : Nat → Nat → Int32} {f : Nat → Int64} {H : Heap} {locs : List Loc} {cells slots : Nat} (hc : cells + 1 ≤ 601024) (hs : slots + 6 ≤ 7293034) (hI : lw_I s dC dI a ca d cd o cO F A Q G B f H locs) {ls : Array Slot} (hl : lv_has ls 8 [(4, .int (nI (8 * n))), (0, .ref b), (1, .ref (a 0)), (2, .ref (d 0)), (3, .ref o)]) (kk : ∀ (F : Nat → Int32) (A : Nat → Nat → Int32) (Q : Nat → Int64) (G : Nat → Int32) (B : Nat → Nat → Int32) (f : Nat → Int64) (H : Heap) (locs : List Loc) (ls : Array Slot), lw_I s dC dI a ca d cd o cO F A Q G B f H locs → lv_has ls 8 [(4, .int (nI (8 * n))), (0, .ref b), (1, .ref (a 0)), (2, .ref (d 0)), (3, .ref o)] → W p l e room_1 s m #[Value.ref b] below meth c H locs (cells + 1) (slots + 6) (lw_Z below #[Value.ref b] s) (F0 m 834 ls [])) : W p l e room_1 s m #[Value.ref b] below meth c H locs cells slots (lw_Z below #[Value.ref b] s) (F0 m 542 ls []) := by
  obtain ⟨hx, hb, hr, hml, hown, hts0, hX, hbl, hlocks, hgv⟩ := id C0
  have hts : ∀ w ∈ wsL_law, w.before #[Value.ref b] s = true := fun w h => hts0 w (wsL_law_in w h)
  have hbA : ¬ (fun q : Nat => s.heap.size ≤ q) b := Nat.not_le.mpr hbl
  have hA : ∀ q : Nat, s.heap.size ≤ q → (fun q : Nat => s.heap.size ≤ q) q := fun _ h => h
  obtain ⟨hKx, hKm, hKo, hN, ap12, ap13, ap23, hYs, hYb, hY1, hY2⟩ := hC
  obtain ⟨⟨ax, md, N, lz, ts, fd, fc, op, se, ft, hRe⟩, ⟨hPx, hPm, hPo⟩, ⟨hDx, hDm, hDo⟩, hS⟩ := hI
  obtain ⟨⟨hax1, hax, hmd, hlz, hfc⟩, ⟨hF0, hF1, hF2, hF6⟩, ⟨hG1, hG2⟩, hth, hXB, hbd, ⟨⟨gt1, gt2, gt3, gt4⟩, ⟨hF5, hXr, hXt⟩, ⟨hG8, hMr, hMt⟩, hin⟩, ⟨hF15, hask, hale⟩, haM, hA16, hG24, hG25, hG26⟩ := id hRe
  refine lv_aload_n hx hb dL_law_542 rfl (lv_at hl 2 rfl) ?_
  refine lv_aload_n hx hb dL_law_543 rfl (lv_at hl 1 rfl) ?_
  refine lv_iload hx hb dL_law_544 (lv_at hl 0 rfl) ?_
  refine lv_iconst (v := nI 1) hx hb dL_law_546 (by decide) ?_
  refine lv_iadd hx hb dL_law_547 ?_
  refine pt_top (y := nI ((8 * n) + 1)) (nI_add _ _) ?_
  refine pt_sld hx hb hX hbl hbA hS (k := ((8 * n) + 1)) (by omega) (by omega) dL_law_548 ?_
  refine pt_rdi (va_runV (As := [.int (xs ((8 * n) + 1))]) (rest := []) ⟨hx, hb, hml, hown, hts⟩ (c_X1_told l dC dI a ca F A Q  (xs ((8 * n) + 1))) (cwV 1 hts gL_law_X1_told rfl rfl rfl (by decide +kernel) ⟨Nat.le_of_ble_eq_true rfl, Nat.le_of_ble_eq_true rfl⟩) (pt_pv1 hPx hKx hN (q0 := 0) rfl) rfl rfl hl.1 rfl (lv_room (Nat.le_of_ble_eq_true rfl)) dL_law_549 ⟨by show cells + 0 ≤ 601024; omega, by show slots + 0 ≤ 7293034; omega⟩) (fun r1 hr1 => ?_)
  refine lv_aload_n hx hb dL_law_552 rfl (lv_at hl 3 rfl) ?_
  refine lv_aload_n hx hb dL_law_553 rfl (lv_at hl 1 rfl) ?_
  refine lv_iload hx hb dL_law_554 (lv_at hl 0 rfl) ?_
  refine lv_iconst (v := nI 1) hx hb dL_law_556 (by decide) ?_
  refine lv_iadd hx hb dL_law_557 ?_
  refine pt_top (y := nI ((8 * n) + 1)) (nI_add _ _) ?_
  refine pt_sld hx hb hX hbl hbA hS (k := ((8 * n) + 1)) (by omega) (by omega) dL_law_558 ?_
  refine pt_callPi (wf := fun u : pt_MS => pt_mw d cd u.1 u.2) (va_runV (As := [.int (xs ((8 * n) + 1))]) (rest := [.int r1]) ⟨hx, hb, hml, hown, hts⟩ (c_X2_told l dC dI d cd G B _ op se ft hG24 hG25 hG26 (xs ((8 * n) + 1))) (cwV 1 hts gL_law_X2_told rfl rfl rfl (by decide +kernel) ⟨Nat.le_of_ble_eq_true rfl, Nat.le_of_ble_eq_true rfl⟩) (pt_wv2 hPm hKm hN hDm (q0 := 0) rfl) rfl rfl hl.1 rfl (lv_room (Nat.le_of_ble_eq_true rfl)) dL_law_559 ⟨by show cells + 0 ≤ 601024; omega, by show slots + 0 ≤ 7293034; omega⟩) hDm hS hA (fun _ => rfl) hPx (ap12.symm.same rfl rfl) hPo (ap23.same rfl rfl) (fun r2 u2 H locs hr2 hPm hDm hS hPx hPo => ?_)
  have hrl := rl_told hRe hr1 hr2
  refine lv_icmp_eq (tgt := 834) hx hb dL_law_562 (by decide) (fun c562 => ?_) (fun c562 => absurd hrl.1 c562)
  refine W.widen (k := cells + 1) (n := slots + 6) (by omega) (by omega) ?_
  exact kk F A Q u2.1 u2.2 f _ _ ls ⟨hrl.2, ⟨hPx, hPm, hPo⟩, ⟨hDx, hDm, hDo⟩, hS⟩ (lv_sub hl [0, 1, 2, 3, 4] rfl)

set_option maxHeartbeats 4000000 in
set_option maxRecDepth 100000 in
theorem lw_case_11 (l : Launch) (hfl : l.stackTraces = false) {p : Program} {e : Env} {s : State} {m : MethodId} {below : List Frame} {meth : Method} {c : Code} {b L : Nat} {xs : Nat → Int32} (hL : L ≤ 4096) (C0 : lw_At p s m meth c b L xs) {dC : Nat → ClassId} {dI : Nat → Nat → Nat} {a : Nat → Nat} {ca : Nat → ClassId} {d : Nat → Nat} {cd : Nat → ClassId} {o : Nat} {cO : ClassId} {sa : Nat} (hC : lw_C s dC dI a ca d cd o cO sa) (n : Nat) (hn : 8 * n + 8 ≤ L) {F : Nat → Int32} {A : Nat → Nat → Int32} {Q : Nat → Int64} {G : Nat → Int32} {B : Nat → Nat → Int32} {f : Nat → Int64} {H : Heap} {locs : List Loc} {cells slots : Nat} (hc : cells + 1 ≤ 601024) (hs : slots + 6 ≤ 7293034) (hI : lw_I s dC dI a ca d cd o cO F A Q G B f H locs) {ls : Array Slot} (hl : lv_has ls 8 [(4, .int (nI (8 * n))), (0, .ref b), (1, .ref (a 0)), (2, .ref (d 0)), (3, .ref o)]) (kk : ∀ (F : Nat → Int32) (A : Nat → Nat → Int32) (Q : Nat → Int64) (G : Nat → Int32) (B : Nat → Nat → Int32) (f : Nat → Int64) (H : Heap) (locs : List Loc) (ls : Array Slot), lw_I s dC dI a ca d cd o cO F A Q G B f H locs → lv_has ls 8 [(4, .int (nI (8 * n))), (0, .ref b), (1, .ref (a 0)), (2, .ref (d 0)), (3, .ref o)] → W p l e room_1 s m #[Value.ref b] below meth c H locs (cells + 1) (slots + 6) (lw_Z below #[Value.ref b] s) (F0 m 834 ls [])) : W p l e room_1 s m #[Value.ref b] below meth c H locs cells slots (lw_Z below #[Value.ref b] s) (F0 m 567 ls []) := by
  obtain ⟨hx, hb, hr, hml, hown, hts0, hX, hbl, hlocks, hgv⟩ := id C0
  have hts : ∀ w ∈ wsL_law, w.before #[Value.ref b] s = true := fun w h => hts0 w (wsL_law_in w h)
  have hbA : ¬ (fun q : Nat => s.heap.size ≤ q) b := Nat.not_le.mpr hbl
  have hA : ∀ q : Nat, s.heap.size ≤ q → (fun q : Nat => s.heap.size ≤ q) q := fun _ h => h
  obtain ⟨hKx, hKm, hKo, hN, ap12, ap13, ap23, hYs, hYb, hY1, hY2⟩ := hC
  obtain ⟨⟨ax, md, N, lz, ts, fd, fc, op, se, ft, hRe⟩, ⟨hPx, hPm, hPo⟩, ⟨hDx, hDm, hDo⟩, hS⟩ := hI
  obtain ⟨⟨hax1, hax, hmd, hlz, hfc⟩, ⟨hF0, hF1, hF2, hF6⟩, ⟨hG1, hG2⟩, hth, hXB, hbd, ⟨⟨gt1, gt2, gt3, gt4⟩, ⟨hF5, hXr, hXt⟩, ⟨hG8, hMr, hMt⟩, hin⟩, ⟨hF15, hask, hale⟩, haM, hA16, hG24, hG25, hG26⟩ := id hRe
  refine lv_aload_n hx hb dL_law_567 rfl (lv_at hl 2 rfl) ?_
  refine lv_aload_n hx hb dL_law_568 rfl (lv_at hl 1 rfl) ?_
  refine lv_iload hx hb dL_law_569 (lv_at hl 0 rfl) ?_
  refine lv_iconst (v := nI 1) hx hb dL_law_571 (by decide) ?_
  refine lv_iadd hx hb dL_law_572 ?_
  refine pt_top (y := nI ((8 * n) + 1)) (nI_add _ _) ?_
  refine pt_sld hx hb hX hbl hbA hS (k := ((8 * n) + 1)) (by omega) (by omega) dL_law_573 ?_
  refine lv_aload_n hx hb dL_law_574 rfl (lv_at hl 1 rfl) ?_
  refine lv_iload hx hb dL_law_575 (lv_at hl 0 rfl) ?_
  refine lv_iconst (v := nI 2) hx hb dL_law_577 (by decide) ?_
  refine lv_iadd hx hb dL_law_578 ?_
  refine pt_top (y := nI ((8 * n) + 2)) (nI_add _ _) ?_
  refine pt_sld hx hb hX hbl hbA hS (k := ((8 * n) + 2)) (by omega) (by omega) dL_law_579 ?_
  refine lv_aload_n hx hb dL_law_580 rfl (lv_at hl 1 rfl) ?_
  refine lv_iload hx hb dL_law_581 (lv_at hl 0 rfl) ?_
  refine lv_iconst (v := nI 3) hx hb dL_law_583 (by decide) ?_
  refine lv_iadd hx hb dL_law_584 ?_
  refine pt_top (y := nI ((8 * n) + 3)) (nI_add _ _) ?_
  refine pt_sld hx hb hX hbl hbA hS (k := ((8 * n) + 3)) (by omega) (by omega) dL_law_585 ?_
  refine lv_aload_n hx hb dL_law_586 rfl (lv_at hl 1 rfl) ?_
  refine lv_iload hx hb dL_law_587 (lv_at hl 0 rfl) ?_
  refine lv_iconst (v := nI 4) hx hb dL_law_589 (by decide) ?_
  refine lv_iadd hx hb dL_law_590 ?_
  refine pt_top (y := nI ((8 * n) + 4)) (nI_add _ _) ?_
  refine pt_sld hx hb hX hbl hbA hS (k := ((8 * n) + 4)) (by omega) (by omega) dL_law_591 ?_
  refine pt_callPi (wf := fun u : pt_XS => pt_xw a ca u.1 u.2.1 u.2.2) (va_runV (As := [.int (xs ((8 * n) + 1)), .int (xs ((8 * n) + 2)), .int (xs ((8 * n) + 3)), .int (xs ((8 * n) + 4))]) (rest := []) ⟨hx, hb, hml, hown, hts⟩ (c_X1_nearest l dC dI a ca F A Q _ ax hF0 hax md hF1 hmd _ hF2 (Nat.le_trans (pt_cnt_le _ _) hmd) (xs ((8 * n) + 1)) (xs ((8 * n) + 2)) (xs ((8 * n) + 3)) (xs ((8 * n) + 4))) (cwV 4 hts gL_law_X1_nearest rfl rfl rfl (by decide +kernel) ⟨Nat.le_of_ble_eq_true rfl, Nat.le_of_ble_eq_true rfl⟩) (pt_wv1 hPx hKx hN hDx (q0 := 0) rfl) rfl rfl hl.1 rfl (lv_room (Nat.le_of_ble_eq_true rfl)) dL_law_592 ⟨by show cells + 0 ≤ 601024; omega, by show slots + 0 ≤ 7293034; omega⟩) hDx hS hA (fun _ => rfl) hPm (ap12.same rfl rfl) hPo (ap13.same rfl rfl) (fun r1 u1 H locs hr1 hPx hDx hS hPm hPo => ?_)
  refine lv_aload_n hx hb dL_law_595 rfl (lv_at hl 3 rfl) ?_
  refine lv_aload_n hx hb dL_law_596 rfl (lv_at hl 1 rfl) ?_
  refine lv_iload hx hb dL_law_597 (lv_at hl 0 rfl) ?_
  refine lv_iconst (v := nI 1) hx hb dL_law_599 (by decide) ?_
  refine lv_iadd hx hb dL_law_600 ?_
  refine pt_top (y := nI ((8 * n) + 1)) (nI_add _ _) ?_
  refine pt_sld hx hb hX hbl hbA hS (k := ((8 * n) + 1)) (by omega) (by omega) dL_law_601 ?_
  refine lv_aload_n hx hb dL_law_602 rfl (lv_at hl 1 rfl) ?_
  refine lv_iload hx hb dL_law_603 (lv_at hl 0 rfl) ?_
  refine lv_iconst (v := nI 2) hx hb dL_law_605 (by decide) ?_
  refine lv_iadd hx hb dL_law_606 ?_
  refine pt_top (y := nI ((8 * n) + 2)) (nI_add _ _) ?_
  refine pt_sld hx hb hX hbl hbA hS (k := ((8 * n) + 2)) (by omega) (by omega) dL_law_607 ?_
  refine lv_aload_n hx hb dL_law_608 rfl (lv_at hl 1 rfl) ?_
  refine lv_iload hx hb dL_law_609 (lv_at hl 0 rfl) ?_
  refine lv_iconst (v := nI 3) hx hb dL_law_611 (by decide) ?_
  refine lv_iadd hx hb dL_law_612 ?_
  refine pt_top (y := nI ((8 * n) + 3)) (nI_add _ _) ?_
  refine pt_sld hx hb hX hbl hbA hS (k := ((8 * n) + 3)) (by omega) (by omega) dL_law_613 ?_
  refine lv_aload_n hx hb dL_law_614 rfl (lv_at hl 1 rfl) ?_
  refine lv_iload hx hb dL_law_615 (lv_at hl 0 rfl) ?_
  refine lv_iconst (v := nI 4) hx hb dL_law_617 (by decide) ?_
  refine lv_iadd hx hb dL_law_618 ?_
  refine pt_top (y := nI ((8 * n) + 4)) (nI_add _ _) ?_
  refine pt_sld hx hb hX hbl hbA hS (k := ((8 * n) + 4)) (by omega) (by omega) dL_law_619 ?_
  refine pt_callPi (wf := fun u : pt_MS => pt_mw d cd u.1 u.2) (va_runV (As := [.int (xs ((8 * n) + 1)), .int (xs ((8 * n) + 2)), .int (xs ((8 * n) + 3)), .int (xs ((8 * n) + 4))]) (rest := [.int r1]) ⟨hx, hb, hml, hown, hts⟩ (c_X2_nearest l dC dI d cd G B _ ax hG1 hax md hG2 hmd (xs ((8 * n) + 1)) (xs ((8 * n) + 2)) (xs ((8 * n) + 3)) (xs ((8 * n) + 4))) (cwV 4 hts gL_law_X2_nearest rfl rfl rfl (by decide +kernel) ⟨Nat.le_of_ble_eq_true rfl, Nat.le_of_ble_eq_true rfl⟩) (pt_wv2 hPm hKm hN hDm (q0 := 0) rfl) rfl rfl hl.1 rfl (lv_room (Nat.le_of_ble_eq_true rfl)) dL_law_620 ⟨by show cells + 0 ≤ 601024; omega, by show slots + 0 ≤ 7293034; omega⟩) hDm hS hA (fun _ => rfl) hPx (ap12.symm.same rfl rfl) hPo (ap23.same rfl rfl) (fun r2 u2 H locs hr2 hPm hDm hS hPx hPo => ?_)
  have hrl := rl_nearest hRe hr1 hr2
  refine lv_icmp_eq (tgt := 834) hx hb dL_law_623 (by decide) (fun c623 => ?_) (fun c623 => absurd hrl.1 c623)
  refine W.widen (k := cells + 1) (n := slots + 6) (by omega) (by omega) ?_
  exact kk u1.1 u1.2.1 u1.2.2 u2.1 u2.2 f _ _ ls ⟨hrl.2, ⟨hPx, hPm, hPo⟩, ⟨hDx, hDm, hDo⟩, hS⟩ (lv_sub hl [0, 1, 2, 3, 4] rfl)

set_option maxHeartbeats 4000000 in
set_option maxRecDepth 100000 in
theorem lw_case_12 (l : Launch) (hfl : l.stackTraces = false) {p : Program} {e : Env} {s : State} {m : MethodId} {below : List Frame} {meth : Method} {c : Code} {b L : Nat} {xs : Nat → Int32} (hL : L ≤ 4096) (C0 : lw_At p s m meth c b L xs) {dC : Nat → ClassId} {dI : Nat → Nat → Nat} {a : Nat → Nat} {ca : Nat → ClassId} {d : Nat → Nat} {cd : Nat → ClassId} {o : Nat} {cO : ClassId} {sa : Nat} (hC : lw_C s dC dI a ca d cd o cO sa) (n : Nat) (hn : 8 * n + 8 ≤ L) {F : Nat → Int32} {A : Nat → Nat → Int32} {Q : Nat → Int64} {G : Nat → Int32} {B : Nat → Nat → Int32} {f : Nat → Int64} {H : Heap} {locs : List Loc} {cells slots : Nat} (hc : cells + 1 ≤ 601024) (hs : slots + 6 ≤ 7293034) (hI : lw_I s dC dI a ca d cd o cO F A Q G B f H locs) {ls : Array Slot} (hl : lv_has ls 8 [(4, .int (nI (8 * n))), (0, .ref b), (1, .ref (a 0)), (2, .ref (d 0)), (3, .ref o)]) (kk : ∀ (F : Nat → Int32) (A : Nat → Nat → Int32) (Q : Nat → Int64) (G : Nat → Int32) (B : Nat → Nat → Int32) (f : Nat → Int64) (H : Heap) (locs : List Loc) (ls : Array Slot), lw_I s dC dI a ca d cd o cO F A Q G B f H locs → lv_has ls 8 [(4, .int (nI (8 * n))), (0, .ref b), (1, .ref (a 0)), (2, .ref (d 0)), (3, .ref o)] → W p l e room_1 s m #[Value.ref b] below meth c H locs (cells + 1) (slots + 6) (lw_Z below #[Value.ref b] s) (F0 m 834 ls [])) : W p l e room_1 s m #[Value.ref b] below meth c H locs cells slots (lw_Z below #[Value.ref b] s) (F0 m 628 ls []) := by
  obtain ⟨hx, hb, hr, hml, hown, hts0, hX, hbl, hlocks, hgv⟩ := id C0
  have hts : ∀ w ∈ wsL_law, w.before #[Value.ref b] s = true := fun w h => hts0 w (wsL_law_in w h)
  have hbA : ¬ (fun q : Nat => s.heap.size ≤ q) b := Nat.not_le.mpr hbl
  have hA : ∀ q : Nat, s.heap.size ≤ q → (fun q : Nat => s.heap.size ≤ q) q := fun _ h => h
  obtain ⟨hKx, hKm, hKo, hN, ap12, ap13, ap23, hYs, hYb, hY1, hY2⟩ := hC
  obtain ⟨⟨ax, md, N, lz, ts, fd, fc, op, se, ft, hRe⟩, ⟨hPx, hPm, hPo⟩, ⟨hDx, hDm, hDo⟩, hS⟩ := hI
  obtain ⟨⟨hax1, hax, hmd, hlz, hfc⟩, ⟨hF0, hF1, hF2, hF6⟩, ⟨hG1, hG2⟩, hth, hXB, hbd, ⟨⟨gt1, gt2, gt3, gt4⟩, ⟨hF5, hXr, hXt⟩, ⟨hG8, hMr, hMt⟩, hin⟩, ⟨hF15, hask, hale⟩, haM, hA16, hG24, hG25, hG26⟩ := id hRe
  refine lv_aload_n hx hb dL_law_628 rfl (lv_at hl 2 rfl) ?_
  refine lv_aload_n hx hb dL_law_629 rfl (lv_at hl 1 rfl) ?_
  refine lv_iload hx hb dL_law_630 (lv_at hl 0 rfl) ?_
  refine lv_iconst (v := nI 1) hx hb dL_law_632 (by decide) ?_
  refine lv_iadd hx hb dL_law_633 ?_
  refine pt_top (y := nI ((8 * n) + 1)) (nI_add _ _) ?_
  refine pt_sld hx hb hX hbl hbA hS (k := ((8 * n) + 1)) (by omega) (by omega) dL_law_634 ?_
  refine lv_aload_n hx hb dL_law_635 rfl (lv_at hl 1 rfl) ?_
  refine lv_iload hx hb dL_law_636 (lv_at hl 0 rfl) ?_
  refine lv_iconst (v := nI 2) hx hb dL_law_638 (by decide) ?_
  refine lv_iadd hx hb dL_law_639 ?_
  refine pt_top (y := nI ((8 * n) + 2)) (nI_add _ _) ?_
  refine pt_sld hx hb hX hbl hbA hS (k := ((8 * n) + 2)) (by omega) (by omega) dL_law_640 ?_
  refine lv_aload_n hx hb dL_law_641 rfl (lv_at hl 1 rfl) ?_
  refine lv_iload hx hb dL_law_642 (lv_at hl 0 rfl) ?_
  refine lv_iconst (v := nI 3) hx hb dL_law_644 (by decide) ?_
  refine lv_iadd hx hb dL_law_645 ?_
  refine pt_top (y := nI ((8 * n) + 3)) (nI_add _ _) ?_
  refine pt_sld hx hb hX hbl hbA hS (k := ((8 * n) + 3)) (by omega) (by omega) dL_law_646 ?_
  refine lv_aload_n hx hb dL_law_647 rfl (lv_at hl 1 rfl) ?_
  refine lv_iload hx hb dL_law_648 (lv_at hl 0 rfl) ?_
  refine lv_iconst (v := nI 4) hx hb dL_law_650 (by decide) ?_
  refine lv_iadd hx hb dL_law_651 ?_
  refine pt_top (y := nI ((8 * n) + 4)) (nI_add _ _) ?_
  refine pt_sld hx hb hX hbl hbA hS (k := ((8 * n) + 4)) (by omega) (by omega) dL_law_652 ?_
  refine pt_rdl (va_runV (As := [.int (xs ((8 * n) + 1)), .int (xs ((8 * n) + 2)), .int (xs ((8 * n) + 3)), .int (xs ((8 * n) + 4))]) (rest := []) ⟨hx, hb, hml, hown, hts⟩ (c_X1_distance l dC dI a ca F A Q ax hF0 hax md hF1 hmd (xs ((8 * n) + 1)) (xs ((8 * n) + 2)) (xs ((8 * n) + 3)) (xs ((8 * n) + 4))) (cwV 4 hts gL_law_X1_distance rfl rfl rfl (by decide +kernel) ⟨Nat.le_of_ble_eq_true rfl, Nat.le_of_ble_eq_true rfl⟩) (pt_pv1 hPx hKx hN (q0 := 0) rfl) rfl rfl hl.1 rfl (lv_room (Nat.le_of_ble_eq_true rfl)) dL_law_653 ⟨by show cells + 0 ≤ 601024; omega, by show slots + 0 ≤ 7293034; omega⟩) (fun r1 hr1 => ?_)
  refine lv_aload_n hx hb dL_law_656 rfl (lv_at hl 3 rfl) ?_
  refine lv_aload_n hx hb dL_law_657 rfl (lv_at hl 1 rfl) ?_
  refine lv_iload hx hb dL_law_658 (lv_at hl 0 rfl) ?_
  refine lv_iconst (v := nI 1) hx hb dL_law_660 (by decide) ?_
  refine lv_iadd hx hb dL_law_661 ?_
  refine pt_top (y := nI ((8 * n) + 1)) (nI_add _ _) ?_
  refine pt_sld hx hb hX hbl hbA hS (k := ((8 * n) + 1)) (by omega) (by omega) dL_law_662 ?_
  refine lv_aload_n hx hb dL_law_663 rfl (lv_at hl 1 rfl) ?_
  refine lv_iload hx hb dL_law_664 (lv_at hl 0 rfl) ?_
  refine lv_iconst (v := nI 2) hx hb dL_law_666 (by decide) ?_
  refine lv_iadd hx hb dL_law_667 ?_
  refine pt_top (y := nI ((8 * n) + 2)) (nI_add _ _) ?_
  refine pt_sld hx hb hX hbl hbA hS (k := ((8 * n) + 2)) (by omega) (by omega) dL_law_668 ?_
  refine lv_aload_n hx hb dL_law_669 rfl (lv_at hl 1 rfl) ?_
  refine lv_iload hx hb dL_law_670 (lv_at hl 0 rfl) ?_
  refine lv_iconst (v := nI 3) hx hb dL_law_672 (by decide) ?_
  refine lv_iadd hx hb dL_law_673 ?_
  refine pt_top (y := nI ((8 * n) + 3)) (nI_add _ _) ?_
  refine pt_sld hx hb hX hbl hbA hS (k := ((8 * n) + 3)) (by omega) (by omega) dL_law_674 ?_
  refine lv_aload_n hx hb dL_law_675 rfl (lv_at hl 1 rfl) ?_
  refine lv_iload hx hb dL_law_676 (lv_at hl 0 rfl) ?_
  refine lv_iconst (v := nI 4) hx hb dL_law_678 (by decide) ?_
  refine lv_iadd hx hb dL_law_679 ?_
  refine pt_top (y := nI ((8 * n) + 4)) (nI_add _ _) ?_
  refine pt_sld hx hb hX hbl hbA hS (k := ((8 * n) + 4)) (by omega) (by omega) dL_law_680 ?_
  refine pt_callPl (wf := fun u : pt_MS => pt_mw d cd u.1 u.2) (va_runV (As := [.int (xs ((8 * n) + 1)), .int (xs ((8 * n) + 2)), .int (xs ((8 * n) + 3)), .int (xs ((8 * n) + 4))]) (rest := [.long r1]) ⟨hx, hb, hml, hown, hts⟩ (c_X2_distance l dC dI d cd G B _ ax hG1 hax md hG2 hmd (xs ((8 * n) + 1)) (xs ((8 * n) + 2)) (xs ((8 * n) + 3)) (xs ((8 * n) + 4))) (cwV 4 hts gL_law_X2_distance rfl rfl rfl (by decide +kernel) ⟨Nat.le_of_ble_eq_true rfl, Nat.le_of_ble_eq_true rfl⟩) (pt_wv2 hPm hKm hN hDm (q0 := 0) rfl) rfl rfl hl.1 rfl (lv_room (Nat.le_of_ble_eq_true rfl)) dL_law_681 ⟨by show cells + 0 ≤ 601024; omega, by show slots + 0 ≤ 7293034; omega⟩) hDm hS hA (fun _ => rfl) hPx (ap12.symm.same rfl rfl) hPo (ap23.same rfl rfl) (fun r2 u2 H locs hr2 hPm hDm hS hPx hPo => ?_)
  have hrl := rl_distance hRe hr1 hr2
  refine W.lcmp hx hb dL_law_684 ?_
  refine lv_if_eq (tgt := 834) hx hb dL_law_685 (by decide) (fun c685 => ?_) (fun c685 => absurd ((lg_cmp_eq _ _).mpr hrl.1) c685)
  refine W.widen (k := cells + 1) (n := slots + 6) (by omega) (by omega) ?_
  exact kk F A Q u2.1 u2.2 f _ _ ls ⟨hrl.2, ⟨hPx, hPm, hPo⟩, ⟨hDx, hDm, hDo⟩, hS⟩ (lv_sub hl [0, 1, 2, 3, 4] rfl)

set_option maxHeartbeats 4000000 in
set_option maxRecDepth 100000 in
theorem lw_case_13 (l : Launch) (hfl : l.stackTraces = false) {p : Program} {e : Env} {s : State} {m : MethodId} {below : List Frame} {meth : Method} {c : Code} {b L : Nat} {xs : Nat → Int32} (hL : L ≤ 4096) (C0 : lw_At p s m meth c b L xs) {dC : Nat → ClassId} {dI : Nat → Nat → Nat} {a : Nat → Nat} {ca : Nat → ClassId} {d : Nat → Nat} {cd : Nat → ClassId} {o : Nat} {cO : ClassId} {sa : Nat} (hC : lw_C s dC dI a ca d cd o cO sa) (n : Nat) (hn : 8 * n + 8 ≤ L) {F : Nat → Int32} {A : Nat → Nat → Int32} {Q : Nat → Int64} {G : Nat → Int32} {B : Nat → Nat → Int32} {f : Nat → Int64} {H : Heap} {locs : List Loc} {cells slots : Nat} (hc : cells + 1 ≤ 601024) (hs : slots + 6 ≤ 7293034) (hI : lw_I s dC dI a ca d cd o cO F A Q G B f H locs) {ls : Array Slot} (hl : lv_has ls 8 [(4, .int (nI (8 * n))), (0, .ref b), (1, .ref (a 0)), (2, .ref (d 0)), (3, .ref o)]) (kk : ∀ (F : Nat → Int32) (A : Nat → Nat → Int32) (Q : Nat → Int64) (G : Nat → Int32) (B : Nat → Nat → Int32) (f : Nat → Int64) (H : Heap) (locs : List Loc) (ls : Array Slot), lw_I s dC dI a ca d cd o cO F A Q G B f H locs → lv_has ls 8 [(4, .int (nI (8 * n))), (0, .ref b), (1, .ref (a 0)), (2, .ref (d 0)), (3, .ref o)] → W p l e room_1 s m #[Value.ref b] below meth c H locs (cells + 1) (slots + 6) (lw_Z below #[Value.ref b] s) (F0 m 834 ls [])) : W p l e room_1 s m #[Value.ref b] below meth c H locs cells slots (lw_Z below #[Value.ref b] s) (F0 m 690 ls []) := by
  obtain ⟨hx, hb, hr, hml, hown, hts0, hX, hbl, hlocks, hgv⟩ := id C0
  have hts : ∀ w ∈ wsL_law, w.before #[Value.ref b] s = true := fun w h => hts0 w (wsL_law_in w h)
  have hbA : ¬ (fun q : Nat => s.heap.size ≤ q) b := Nat.not_le.mpr hbl
  have hA : ∀ q : Nat, s.heap.size ≤ q → (fun q : Nat => s.heap.size ≤ q) q := fun _ h => h
  obtain ⟨hKx, hKm, hKo, hN, ap12, ap13, ap23, hYs, hYb, hY1, hY2⟩ := hC
  obtain ⟨⟨ax, md, N, lz, ts, fd, fc, op, se, ft, hRe⟩, ⟨hPx, hPm, hPo⟩, ⟨hDx, hDm, hDo⟩, hS⟩ := hI
  obtain ⟨⟨hax1, hax, hmd, hlz, hfc⟩, ⟨hF0, hF1, hF2, hF6⟩, ⟨hG1, hG2⟩, hth, hXB, hbd, ⟨⟨gt1, gt2, gt3, gt4⟩, ⟨hF5, hXr, hXt⟩, ⟨hG8, hMr, hMt⟩, hin⟩, ⟨hF15, hask, hale⟩, haM, hA16, hG24, hG25, hG26⟩ := id hRe
  refine lv_aload_n hx hb dL_law_690 rfl (lv_at hl 2 rfl) ?_
  refine pt_rdi (va_runV (As := []) (rest := []) ⟨hx, hb, hml, hown, hts⟩ (c_X1_pairs l dC dI a ca F A Q ax hF0 hax md hF1 hmd ) (cwV 0 hts gL_law_X1_pairs rfl rfl rfl (by decide +kernel) ⟨Nat.le_of_ble_eq_true rfl, Nat.le_of_ble_eq_true rfl⟩) (pt_pv1 hPx hKx hN (q0 := 0) rfl) rfl rfl hl.1 rfl (lv_room (Nat.le_of_ble_eq_true rfl)) dL_law_691 ⟨by show cells + 0 ≤ 601024; omega, by show slots + 0 ≤ 7293034; omega⟩) (fun r1 hr1 => ?_)
  refine lv_aload_n hx hb dL_law_694 rfl (lv_at hl 3 rfl) ?_
  refine pt_callPi (wf := fun u : pt_MS => pt_mw d cd u.1 u.2) (va_runV (As := []) (rest := [.int r1]) ⟨hx, hb, hml, hown, hts⟩ (c_X2_pairs l dC dI d cd G B _ ax hG1 hax md hG2 hmd ) (cwV 0 hts gL_law_X2_pairs rfl rfl rfl (by decide +kernel) ⟨Nat.le_of_ble_eq_true rfl, Nat.le_of_ble_eq_true rfl⟩) (pt_wv2 hPm hKm hN hDm (q0 := 0) rfl) rfl rfl hl.1 rfl (lv_room (Nat.le_of_ble_eq_true rfl)) dL_law_695 ⟨by show cells + 0 ≤ 601024; omega, by show slots + 0 ≤ 7293034; omega⟩) hDm hS hA (fun _ => rfl) hPx (ap12.symm.same rfl rfl) hPo (ap23.same rfl rfl) (fun r2 u2 H locs hr2 hPm hDm hS hPx hPo => ?_)
  have hrl := rl_pairs hRe hr1 hr2
  refine lv_icmp_eq (tgt := 834) hx hb dL_law_698 (by decide) (fun c698 => ?_) (fun c698 => absurd hrl.1 c698)
  refine W.widen (k := cells + 1) (n := slots + 6) (by omega) (by omega) ?_
  exact kk F A Q u2.1 u2.2 f _ _ ls ⟨hrl.2, ⟨hPx, hPm, hPo⟩, ⟨hDx, hDm, hDo⟩, hS⟩ (lv_sub hl [0, 1, 2, 3, 4] rfl)

