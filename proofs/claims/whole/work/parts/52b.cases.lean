set_option maxHeartbeats 4000000 in
set_option maxRecDepth 100000 in
theorem lw_case_5 (l : Launch) (hfl : l.stackTraces = false) {p : Program} {e : Env} {s : State} {m : MethodId} {below : List Frame} {meth : Method} {c : Code} {b L : Nat} {xs : Nat → Int32} (hL : L ≤ 4096) (C0 : lw_At p s m meth c b L xs) {dC : Nat → ClassId} {dI : Nat → Nat → Nat} {a : Nat → Nat} {ca : Nat → ClassId} {d : Nat → Nat} {cd : Nat → ClassId} {o : Nat} {cO : ClassId} {sa : Nat} (hC : lw_C s dC dI a ca d cd o cO sa) (n : Nat) (hn : 8 * n + 8 ≤ L) {F : Nat → Int32} {A : Nat → Nat → Int32} {Q : Nat → Int64} {G : Nat → Int32} {B : Nat → Nat → Int32} {f : Nat → Int64} {H : Heap} {locs : List Loc} {cells slots : Nat} (hc : cells + 1 ≤ 601024) (hs : slots + 6 ≤ 7293034) (hI : lw_I s dC dI a ca d cd o cO F A Q G B f H locs) {ls : Array Slot} (hl : lv_has ls 8 [(4, .int (nI (8 * n))), (0, .ref b), (1, .ref (a 0)), (2, .ref (d 0)), (3, .ref o)]) (kk : ∀ (F : Nat → Int32) (A : Nat → Nat → Int32) (Q : Nat → Int64) (G : Nat → Int32) (B : Nat → Nat → Int32) (f : Nat → Int64) (H : Heap) (locs : List Loc) (ls : Array Slot), lw_I s dC dI a ca d cd o cO F A Q G B f H locs → lv_has ls 8 [(4, .int (nI (8 * n))), (0, .ref b), (1, .ref (a 0)), (2, .ref (d 0)), (3, .ref o)] → W p l e room_1 s m #[Value.ref b] below meth c H locs (cells + 1) (slots + 6) (lw_Z below #[Value.ref b] s) (F0 m 834 ls [])) : W p l e room_1 s m #[Value.ref b] below meth c H locs cells slots (lw_Z below #[Value.ref b] s) (F0 m 316 ls []) := by
  obtain ⟨hx, hb, hr, hml, hown, hts0, hX, hbl, hlocks, hgv⟩ := id C0
  have hts : ∀ w ∈ wsL_law, w.before #[Value.ref b] s = true := fun w h => hts0 w (wsL_law_in w h)
  have hbA : ¬ (fun q : Nat => s.heap.size ≤ q) b := Nat.not_le.mpr hbl
  have hA : ∀ q : Nat, s.heap.size ≤ q → (fun q : Nat => s.heap.size ≤ q) q := fun _ h => h
  obtain ⟨hKx, hKm, hKo, hN, ap12, ap13, ap23, hYs, hYb, hY1, hY2⟩ := hC
  obtain ⟨⟨ax, md, N, lz, ts, fd, fc, op, se, ft, hRe⟩, ⟨hPx, hPm, hPo⟩, ⟨hDx, hDm, hDo⟩, hS⟩ := hI
  obtain ⟨⟨hax1, hax, hmd, hlz, hfc⟩, ⟨hF0, hF1, hF2, hF6⟩, ⟨hG1, hG2⟩, hth, hXB, hbd, ⟨⟨gt1, gt2, gt3, gt4⟩, ⟨hF5, hXr, hXt⟩, ⟨hG8, hMr, hMt⟩, hin⟩, ⟨hF15, hask, hale⟩, haM, hA16, hG24, hG25, hG26⟩ := id hRe
  refine lv_aload_n hx hb dL_law_316 rfl (lv_at hl 2 rfl) ?_
  refine pt_callPi (wf := fun u : pt_XS => pt_xw a ca u.1 u.2.1 u.2.2) (va_runV (As := []) (rest := []) ⟨hx, hb, hml, hown, hts⟩ (c_X1_build l dC dI a ca F A Q _ ax hF0 hax1 hax md hF1 hmd _ _ hXB ) (cwV 0 hts gL_law_X1_build rfl rfl rfl (by decide +kernel) ⟨Nat.le_of_ble_eq_true rfl, Nat.le_of_ble_eq_true rfl⟩) (pt_wv1 hPx hKx hN hDx (q0 := 0) rfl) rfl rfl hl.1 rfl (lv_room (Nat.le_of_ble_eq_true rfl)) dL_law_317 ⟨by show cells + 0 ≤ 601024; omega, by show slots + 0 ≤ 7293034; omega⟩) hDx hS hA (fun _ => rfl) hPm (ap12.same rfl rfl) hPo (ap13.same rfl rfl) (fun r1 u1 H locs hr1 hPx hDx hS hPm hPo => ?_)
  refine lv_aload_n hx hb dL_law_320 rfl (lv_at hl 3 rfl) ?_
  refine pt_callPi (wf := fun u : pt_MS => pt_mw d cd u.1 u.2) (va_runV (As := []) (rest := [.int r1]) ⟨hx, hb, hml, hown, hts⟩ (c_X2_build l dC dI d cd G B _ ax hG1 hax hax1 md hG2 hmd (fun t ht => (hth t ht).2) hbd ) (cwV 0 hts gL_law_X2_build rfl rfl rfl (by decide +kernel) ⟨Nat.le_of_ble_eq_true rfl, Nat.le_of_ble_eq_true rfl⟩) (pt_wv2 hPm hKm hN hDm (q0 := 0) rfl) rfl rfl hl.1 rfl (lv_room (Nat.le_of_ble_eq_true rfl)) dL_law_321 ⟨by show cells + 0 ≤ 601024; omega, by show slots + 0 ≤ 7293034; omega⟩) hDm hS hA (fun _ => rfl) hPx (ap12.symm.same rfl rfl) hPo (ap23.same rfl rfl) (fun r2 u2 H locs hr2 hPm hDm hS hPx hPo => ?_)
  have hrl := rl_build hRe hr1 hr2
  refine lv_icmp_eq (tgt := 834) hx hb dL_law_324 (by decide) (fun c324 => ?_) (fun c324 => absurd hrl.1 c324)
  refine W.widen (k := cells + 1) (n := slots + 6) (by omega) (by omega) ?_
  exact kk u1.1 u1.2.1 u1.2.2 u2.1 u2.2 f _ _ ls ⟨hrl.2, ⟨hPx, hPm, hPo⟩, ⟨hDx, hDm, hDo⟩, hS⟩ (lv_sub hl [0, 1, 2, 3, 4] rfl)

set_option maxHeartbeats 4000000 in
set_option maxRecDepth 100000 in
theorem lw_case_6 (l : Launch) (hfl : l.stackTraces = false) {p : Program} {e : Env} {s : State} {m : MethodId} {below : List Frame} {meth : Method} {c : Code} {b L : Nat} {xs : Nat → Int32} (hL : L ≤ 4096) (C0 : lw_At p s m meth c b L xs) {dC : Nat → ClassId} {dI : Nat → Nat → Nat} {a : Nat → Nat} {ca : Nat → ClassId} {d : Nat → Nat} {cd : Nat → ClassId} {o : Nat} {cO : ClassId} {sa : Nat} (hC : lw_C s dC dI a ca d cd o cO sa) (n : Nat) (hn : 8 * n + 8 ≤ L) {F : Nat → Int32} {A : Nat → Nat → Int32} {Q : Nat → Int64} {G : Nat → Int32} {B : Nat → Nat → Int32} {f : Nat → Int64} {H : Heap} {locs : List Loc} {cells slots : Nat} (hc : cells + 1 ≤ 601024) (hs : slots + 6 ≤ 7293034) (hI : lw_I s dC dI a ca d cd o cO F A Q G B f H locs) {ls : Array Slot} (hl : lv_has ls 8 [(4, .int (nI (8 * n))), (0, .ref b), (1, .ref (a 0)), (2, .ref (d 0)), (3, .ref o)]) (kk : ∀ (F : Nat → Int32) (A : Nat → Nat → Int32) (Q : Nat → Int64) (G : Nat → Int32) (B : Nat → Nat → Int32) (f : Nat → Int64) (H : Heap) (locs : List Loc) (ls : Array Slot), lw_I s dC dI a ca d cd o cO F A Q G B f H locs → lv_has ls 8 [(4, .int (nI (8 * n))), (0, .ref b), (1, .ref (a 0)), (2, .ref (d 0)), (3, .ref o)] → W p l e room_1 s m #[Value.ref b] below meth c H locs (cells + 1) (slots + 6) (lw_Z below #[Value.ref b] s) (F0 m 834 ls [])) : W p l e room_1 s m #[Value.ref b] below meth c H locs cells slots (lw_Z below #[Value.ref b] s) (F0 m 329 ls []) := by
  obtain ⟨hx, hb, hr, hml, hown, hts0, hX, hbl, hlocks, hgv⟩ := id C0
  have hts : ∀ w ∈ wsL_law, w.before #[Value.ref b] s = true := fun w h => hts0 w (wsL_law_in w h)
  have hbA : ¬ (fun q : Nat => s.heap.size ≤ q) b := Nat.not_le.mpr hbl
  have hA : ∀ q : Nat, s.heap.size ≤ q → (fun q : Nat => s.heap.size ≤ q) q := fun _ h => h
  obtain ⟨hKx, hKm, hKo, hN, ap12, ap13, ap23, hYs, hYb, hY1, hY2⟩ := hC
  obtain ⟨⟨ax, md, N, lz, ts, fd, fc, op, se, ft, hRe⟩, ⟨hPx, hPm, hPo⟩, ⟨hDx, hDm, hDo⟩, hS⟩ := hI
  obtain ⟨⟨hax1, hax, hmd, hlz, hfc⟩, ⟨hF0, hF1, hF2, hF6⟩, ⟨hG1, hG2⟩, hth, hXB, hbd, ⟨⟨gt1, gt2, gt3, gt4⟩, ⟨hF5, hXr, hXt⟩, ⟨hG8, hMr, hMt⟩, hin⟩, ⟨hF15, hask, hale⟩, haM, hA16, hG24, hG25, hG26⟩ := id hRe
  refine lv_aload_n hx hb dL_law_329 rfl (lv_at hl 2 rfl) ?_
  refine lv_aload_n hx hb dL_law_330 rfl (lv_at hl 1 rfl) ?_
  refine lv_iload hx hb dL_law_331 (lv_at hl 0 rfl) ?_
  refine lv_iconst (v := nI 1) hx hb dL_law_333 (by decide) ?_
  refine lv_iadd hx hb dL_law_334 ?_
  refine pt_top (y := nI ((8 * n) + 1)) (nI_add _ _) ?_
  refine pt_sld hx hb hX hbl hbA hS (k := ((8 * n) + 1)) (by omega) (by omega) dL_law_335 ?_
  refine lv_aload_n hx hb dL_law_336 rfl (lv_at hl 1 rfl) ?_
  refine lv_iload hx hb dL_law_337 (lv_at hl 0 rfl) ?_
  refine lv_iconst (v := nI 2) hx hb dL_law_339 (by decide) ?_
  refine lv_iadd hx hb dL_law_340 ?_
  refine pt_top (y := nI ((8 * n) + 2)) (nI_add _ _) ?_
  refine pt_sld hx hb hX hbl hbA hS (k := ((8 * n) + 2)) (by omega) (by omega) dL_law_341 ?_
  refine pt_rdi (va_runV (As := [.int (xs ((8 * n) + 1)), .int (xs ((8 * n) + 2))]) (rest := []) ⟨hx, hb, hml, hown, hts⟩ (c_X1_block l dC dI a ca F A Q ts.1 hF5 gt1 (xs ((8 * n) + 1)) (xs ((8 * n) + 2))) (cwV 2 hts gL_law_X1_block rfl rfl rfl (by decide +kernel) ⟨Nat.le_of_ble_eq_true rfl, Nat.le_of_ble_eq_true rfl⟩) (pt_pv1 hPx hKx hN (q0 := 0) rfl) rfl rfl hl.1 rfl (lv_room (Nat.le_of_ble_eq_true rfl)) dL_law_342 ⟨by show cells + 0 ≤ 601024; omega, by show slots + 0 ≤ 7293034; omega⟩) (fun r1 hr1 => ?_)
  refine lv_aload_n hx hb dL_law_345 rfl (lv_at hl 3 rfl) ?_
  refine lv_aload_n hx hb dL_law_346 rfl (lv_at hl 1 rfl) ?_
  refine lv_iload hx hb dL_law_347 (lv_at hl 0 rfl) ?_
  refine lv_iconst (v := nI 1) hx hb dL_law_349 (by decide) ?_
  refine lv_iadd hx hb dL_law_350 ?_
  refine pt_top (y := nI ((8 * n) + 1)) (nI_add _ _) ?_
  refine pt_sld hx hb hX hbl hbA hS (k := ((8 * n) + 1)) (by omega) (by omega) dL_law_351 ?_
  refine lv_aload_n hx hb dL_law_352 rfl (lv_at hl 1 rfl) ?_
  refine lv_iload hx hb dL_law_353 (lv_at hl 0 rfl) ?_
  refine lv_iconst (v := nI 2) hx hb dL_law_355 (by decide) ?_
  refine lv_iadd hx hb dL_law_356 ?_
  refine pt_top (y := nI ((8 * n) + 2)) (nI_add _ _) ?_
  refine pt_sld hx hb hX hbl hbA hS (k := ((8 * n) + 2)) (by omega) (by omega) dL_law_357 ?_
  refine pt_callPi (wf := fun u : pt_MS => pt_mw d cd u.1 u.2) (va_runV (As := [.int (xs ((8 * n) + 1)), .int (xs ((8 * n) + 2))]) (rest := [.int r1]) ⟨hx, hb, hml, hown, hts⟩ (c_X2_block l dC dI d cd G B _ ts.1 hG8 gt1 (fun b => ts.2.2.1 1 b - ts.2.2.1 0 b) (fun b hb => ⟨(hMt b hb).2.1, by have := (gt4 b hb).2.1; omega⟩) (xs ((8 * n) + 1)) (xs ((8 * n) + 2))) (cwV 2 hts gL_law_X2_block rfl rfl rfl (by decide +kernel) ⟨Nat.le_of_ble_eq_true rfl, Nat.le_of_ble_eq_true rfl⟩) (pt_wv2 hPm hKm hN hDm (q0 := 0) rfl) rfl rfl hl.1 rfl (lv_room (Nat.le_of_ble_eq_true rfl)) dL_law_358 ⟨by show cells + 0 ≤ 601024; omega, by show slots + 0 ≤ 7293034; omega⟩) hDm hS hA (fun _ => rfl) hPx (ap12.symm.same rfl rfl) hPo (ap23.same rfl rfl) (fun r2 u2 H locs hr2 hPm hDm hS hPx hPo => ?_)
  have hrl := rl_block hRe hr1 hr2
  refine lv_icmp_eq (tgt := 834) hx hb dL_law_361 (by decide) (fun c361 => ?_) (fun c361 => absurd hrl.1 c361)
  refine W.widen (k := cells + 1) (n := slots + 6) (by omega) (by omega) ?_
  exact kk F A Q u2.1 u2.2 f _ _ ls ⟨hrl.2, ⟨hPx, hPm, hPo⟩, ⟨hDx, hDm, hDo⟩, hS⟩ (lv_sub hl [0, 1, 2, 3, 4] rfl)

set_option maxHeartbeats 4000000 in
set_option maxRecDepth 100000 in
theorem lw_case_7 (l : Launch) (hfl : l.stackTraces = false) {p : Program} {e : Env} {s : State} {m : MethodId} {below : List Frame} {meth : Method} {c : Code} {b L : Nat} {xs : Nat → Int32} (hL : L ≤ 4096) (C0 : lw_At p s m meth c b L xs) {dC : Nat → ClassId} {dI : Nat → Nat → Nat} {a : Nat → Nat} {ca : Nat → ClassId} {d : Nat → Nat} {cd : Nat → ClassId} {o : Nat} {cO : ClassId} {sa : Nat} (hC : lw_C s dC dI a ca d cd o cO sa) (n : Nat) (hn : 8 * n + 8 ≤ L) {F : Nat → Int32} {A : Nat → Nat → Int32} {Q : Nat → Int64} {G : Nat → Int32} {B : Nat → Nat → Int32} {f : Nat → Int64} {H : Heap} {locs : List Loc} {cells slots : Nat} (hc : cells + 1 ≤ 601024) (hs : slots + 6 ≤ 7293034) (hI : lw_I s dC dI a ca d cd o cO F A Q G B f H locs) {ls : Array Slot} (hl : lv_has ls 8 [(4, .int (nI (8 * n))), (0, .ref b), (1, .ref (a 0)), (2, .ref (d 0)), (3, .ref o)]) (kk : ∀ (F : Nat → Int32) (A : Nat → Nat → Int32) (Q : Nat → Int64) (G : Nat → Int32) (B : Nat → Nat → Int32) (f : Nat → Int64) (H : Heap) (locs : List Loc) (ls : Array Slot), lw_I s dC dI a ca d cd o cO F A Q G B f H locs → lv_has ls 8 [(4, .int (nI (8 * n))), (0, .ref b), (1, .ref (a 0)), (2, .ref (d 0)), (3, .ref o)] → W p l e room_1 s m #[Value.ref b] below meth c H locs (cells + 1) (slots + 6) (lw_Z below #[Value.ref b] s) (F0 m 834 ls [])) : W p l e room_1 s m #[Value.ref b] below meth c H locs cells slots (lw_Z below #[Value.ref b] s) (F0 m 366 ls []) := by
  obtain ⟨hx, hb, hr, hml, hown, hts0, hX, hbl, hlocks, hgv⟩ := id C0
  have hts : ∀ w ∈ wsL_law, w.before #[Value.ref b] s = true := fun w h => hts0 w (wsL_law_in w h)
  have hbA : ¬ (fun q : Nat => s.heap.size ≤ q) b := Nat.not_le.mpr hbl
  have hA : ∀ q : Nat, s.heap.size ≤ q → (fun q : Nat => s.heap.size ≤ q) q := fun _ h => h
  obtain ⟨hKx, hKm, hKo, hN, ap12, ap13, ap23, hYs, hYb, hY1, hY2⟩ := hC
  obtain ⟨⟨ax, md, N, lz, ts, fd, fc, op, se, ft, hRe⟩, ⟨hPx, hPm, hPo⟩, ⟨hDx, hDm, hDo⟩, hS⟩ := hI
  obtain ⟨⟨hax1, hax, hmd, hlz, hfc⟩, ⟨hF0, hF1, hF2, hF6⟩, ⟨hG1, hG2⟩, hth, hXB, hbd, ⟨⟨gt1, gt2, gt3, gt4⟩, ⟨hF5, hXr, hXt⟩, ⟨hG8, hMr, hMt⟩, hin⟩, ⟨hF15, hask, hale⟩, haM, hA16, hG24, hG25, hG26⟩ := id hRe
  refine lv_aload_n hx hb dL_law_366 rfl (lv_at hl 2 rfl) ?_
  refine lv_aload_n hx hb dL_law_367 rfl (lv_at hl 1 rfl) ?_
  refine lv_iload hx hb dL_law_368 (lv_at hl 0 rfl) ?_
  refine lv_iconst (v := nI 1) hx hb dL_law_370 (by decide) ?_
  refine lv_iadd hx hb dL_law_371 ?_
  refine pt_top (y := nI ((8 * n) + 1)) (nI_add _ _) ?_
  refine pt_sld hx hb hX hbl hbA hS (k := ((8 * n) + 1)) (by omega) (by omega) dL_law_372 ?_
  refine lv_aload_n hx hb dL_law_373 rfl (lv_at hl 1 rfl) ?_
  refine lv_iload hx hb dL_law_374 (lv_at hl 0 rfl) ?_
  refine lv_iconst (v := nI 2) hx hb dL_law_376 (by decide) ?_
  refine lv_iadd hx hb dL_law_377 ?_
  refine pt_top (y := nI ((8 * n) + 2)) (nI_add _ _) ?_
  refine pt_sld hx hb hX hbl hbA hS (k := ((8 * n) + 2)) (by omega) (by omega) dL_law_378 ?_
  refine lv_aload_n hx hb dL_law_379 rfl (lv_at hl 1 rfl) ?_
  refine lv_iload hx hb dL_law_380 (lv_at hl 0 rfl) ?_
  refine lv_iconst (v := nI 3) hx hb dL_law_382 (by decide) ?_
  refine lv_iadd hx hb dL_law_383 ?_
  refine pt_top (y := nI ((8 * n) + 3)) (nI_add _ _) ?_
  refine pt_sld hx hb hX hbl hbA hS (k := ((8 * n) + 3)) (by omega) (by omega) dL_law_384 ?_
  refine pt_rdl (va_runV (As := [.int (xs ((8 * n) + 1)), .int (xs ((8 * n) + 2)), .int (xs ((8 * n) + 3))]) (rest := []) ⟨hx, hb, hml, hown, hts⟩ (c_X1_bound l dC dI a ca F A Q ax hF0 hax ts.1 hF5 gt1 (xs ((8 * n) + 1)) (xs ((8 * n) + 2)) (xs ((8 * n) + 3))) (cwV 3 hts gL_law_X1_bound rfl rfl rfl (by decide +kernel) ⟨Nat.le_of_ble_eq_true rfl, Nat.le_of_ble_eq_true rfl⟩) (pt_pv1 hPx hKx hN (q0 := 0) rfl) rfl rfl hl.1 rfl (lv_room (Nat.le_of_ble_eq_true rfl)) dL_law_385 ⟨by show cells + 0 ≤ 601024; omega, by show slots + 0 ≤ 7293034; omega⟩) (fun r1 hr1 => ?_)
  refine lv_aload_n hx hb dL_law_388 rfl (lv_at hl 3 rfl) ?_
  refine lv_aload_n hx hb dL_law_389 rfl (lv_at hl 1 rfl) ?_
  refine lv_iload hx hb dL_law_390 (lv_at hl 0 rfl) ?_
  refine lv_iconst (v := nI 1) hx hb dL_law_392 (by decide) ?_
  refine lv_iadd hx hb dL_law_393 ?_
  refine pt_top (y := nI ((8 * n) + 1)) (nI_add _ _) ?_
  refine pt_sld hx hb hX hbl hbA hS (k := ((8 * n) + 1)) (by omega) (by omega) dL_law_394 ?_
  refine lv_aload_n hx hb dL_law_395 rfl (lv_at hl 1 rfl) ?_
  refine lv_iload hx hb dL_law_396 (lv_at hl 0 rfl) ?_
  refine lv_iconst (v := nI 2) hx hb dL_law_398 (by decide) ?_
  refine lv_iadd hx hb dL_law_399 ?_
  refine pt_top (y := nI ((8 * n) + 2)) (nI_add _ _) ?_
  refine pt_sld hx hb hX hbl hbA hS (k := ((8 * n) + 2)) (by omega) (by omega) dL_law_400 ?_
  refine lv_aload_n hx hb dL_law_401 rfl (lv_at hl 1 rfl) ?_
  refine lv_iload hx hb dL_law_402 (lv_at hl 0 rfl) ?_
  refine lv_iconst (v := nI 3) hx hb dL_law_404 (by decide) ?_
  refine lv_iadd hx hb dL_law_405 ?_
  refine pt_top (y := nI ((8 * n) + 3)) (nI_add _ _) ?_
  refine pt_sld hx hb hX hbl hbA hS (k := ((8 * n) + 3)) (by omega) (by omega) dL_law_406 ?_
  refine pt_callPl (wf := fun u : pt_MS => pt_mw d cd u.1 u.2) (va_runV (As := [.int (xs ((8 * n) + 1)), .int (xs ((8 * n) + 2)), .int (xs ((8 * n) + 3))]) (rest := [.long r1]) ⟨hx, hb, hml, hown, hts⟩ (c_X2_bound l dC dI d cd G B _ ax hG1 hax ts.1 hG8 gt1 (xs ((8 * n) + 1)) (xs ((8 * n) + 2)) (xs ((8 * n) + 3))) (cwV 3 hts gL_law_X2_bound rfl rfl rfl (by decide +kernel) ⟨Nat.le_of_ble_eq_true rfl, Nat.le_of_ble_eq_true rfl⟩) (pt_wv2 hPm hKm hN hDm (q0 := 0) rfl) rfl rfl hl.1 rfl (lv_room (Nat.le_of_ble_eq_true rfl)) dL_law_407 ⟨by show cells + 0 ≤ 601024; omega, by show slots + 0 ≤ 7293034; omega⟩) hDm hS hA (fun _ => rfl) hPx (ap12.symm.same rfl rfl) hPo (ap23.same rfl rfl) (fun r2 u2 H locs hr2 hPm hDm hS hPx hPo => ?_)
  have hrl := rl_bound hRe hr1 hr2
  refine W.lcmp hx hb dL_law_410 ?_
  refine lv_if_eq (tgt := 834) hx hb dL_law_411 (by decide) (fun c411 => ?_) (fun c411 => absurd ((lg_cmp_eq _ _).mpr hrl.1) c411)
  refine W.widen (k := cells + 1) (n := slots + 6) (by omega) (by omega) ?_
  exact kk F A Q u2.1 u2.2 f _ _ ls ⟨hrl.2, ⟨hPx, hPm, hPo⟩, ⟨hDx, hDm, hDo⟩, hS⟩ (lv_sub hl [0, 1, 2, 3, 4] rfl)

