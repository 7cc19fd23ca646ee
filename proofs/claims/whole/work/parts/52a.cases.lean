set_option maxHeartbeats 4000000 in
set_option maxRecDepth 100000 in
theorem lw_case_0 (l : Launch) (hfl : l.stackTraces = false) {p : Program} {e : Env} {s : State} {m : MethodId} {below : List Frame} {meth : Method} {c : Code} {b L : Nat} {xs : Nat → Int32} (hL : L ≤ 4096) (C0 : lw_At p s m meth c b L xs) {dC : Nat → ClassId} {dI : Nat → Nat → Nat} {a : Nat → Nat} {ca : Nat → ClassId} {d : Nat → Nat} {cd : Nat → ClassId} {o : Nat} {cO : ClassId} {sa : Nat} (hC : lw_C s dC dI a ca d cd o cO sa) (n : Nat) (hn : 8 * n + 8 ≤ L) {F : Nat → Int32} {A : Nat → Nat → Int32} {Q : Nat → Int64} {G : Nat → Int32} {B : Nat → Nat → Int32} {f : Nat → Int64} {H : Heap} {locs : List Loc} {cells slots : Nat} (hc : cells + 1 ≤ 601024) (hs : slots + 6 ≤ 7293034) (hI : lw_I s dC dI a ca d cd o cO F A Q G B f H locs) {ls : Array Slot} (hl : lv_has ls 8 [(4, .int (nI (8 * n))), (0, .ref b), (1, .ref (a 0)), (2, .ref (d 0)), (3, .ref o)]) (kk : ∀ (F : Nat → Int32) (A : Nat → Nat → Int32) (Q : Nat → Int64) (G : Nat → Int32) (B : Nat → Nat → Int32) (f : Nat → Int64) (H : Heap) (locs : List Loc) (ls : Array Slot), lw_I s dC dI a ca d cd o cO F A Q G B f H locs → lv_has ls 8 [(4, .int (nI (8 * n))), (0, .ref b), (1, .ref (a 0)), (2, .ref (d 0)), (3, .ref o)] → W p l e room_1 s m #[Value.ref b] below meth c H locs (cells + 1) (slots + 6) (lw_Z below #[Value.ref b] s) (F0 m 834 ls [])) : W p l e room_1 s m #[Value.ref b] below meth c H locs cells slots (lw_Z below #[Value.ref b] s) (F0 m 116 ls []) := by
  obtain ⟨hx, hb, hr, hml, hown, hts0, hX, hbl, hlocks, hgv⟩ := id C0
  have hts : ∀ w ∈ wsL_law, w.before #[Value.ref b] s = true := fun w h => hts0 w (wsL_law_in w h)
  have hbA : ¬ (fun q : Nat => s.heap.size ≤ q) b := Nat.not_le.mpr hbl
  have hA : ∀ q : Nat, s.heap.size ≤ q → (fun q : Nat => s.heap.size ≤ q) q := fun _ h => h
  obtain ⟨hKx, hKm, hKo, hN, ap12, ap13, ap23, hYs, hYb, hY1, hY2⟩ := hC
  obtain ⟨⟨ax, md, N, lz, ts, fd, fc, op, se, ft, hRe⟩, ⟨hPx, hPm, hPo⟩, ⟨hDx, hDm, hDo⟩, hS⟩ := hI
  obtain ⟨⟨hax1, hax, hmd, hlz, hfc⟩, ⟨hF0, hF1, hF2, hF6⟩, ⟨hG1, hG2⟩, hth, hXB, hbd, ⟨⟨gt1, gt2, gt3, gt4⟩, ⟨hF5, hXr, hXt⟩, ⟨hG8, hMr, hMt⟩, hin⟩, ⟨hF15, hask, hale⟩, haM, hA16, hG24, hG25, hG26⟩ := id hRe
  refine lv_aload_n hx hb dL_law_116 rfl (lv_at hl 2 rfl) ?_
  refine lv_aload_n hx hb dL_law_117 rfl (lv_at hl 1 rfl) ?_
  refine lv_iload hx hb dL_law_118 (lv_at hl 0 rfl) ?_
  refine lv_iconst (v := nI 1) hx hb dL_law_120 (by decide) ?_
  refine lv_iadd hx hb dL_law_121 ?_
  refine pt_top (y := nI ((8 * n) + 1)) (nI_add _ _) ?_
  refine pt_sld hx hb hX hbl hbA hS (k := ((8 * n) + 1)) (by omega) (by omega) dL_law_122 ?_
  refine pt_callPi (wf := fun u : pt_XS => pt_xw a ca u.1 u.2.1 u.2.2) (va_runV (As := [.int (xs ((8 * n) + 1))]) (rest := []) ⟨hx, hb, hml, hown, hts⟩ (c_X1_dimensions l dC dI a ca F A Q _  (xs ((8 * n) + 1))) (cwV 1 hts gL_law_X1_dimensions rfl rfl rfl (by decide +kernel) ⟨Nat.le_of_ble_eq_true rfl, Nat.le_of_ble_eq_true rfl⟩) (pt_wv1 hPx hKx hN hDx (q0 := 0) rfl) rfl rfl hl.1 rfl (lv_room (Nat.le_of_ble_eq_true rfl)) dL_law_123 ⟨by show cells + 0 ≤ 601024; omega, by show slots + 0 ≤ 7293034; omega⟩) hDx hS hA (fun _ => rfl) hPm (ap12.same rfl rfl) hPo (ap13.same rfl rfl) (fun r1 u1 H locs hr1 hPx hDx hS hPm hPo => ?_)
  refine lv_aload_n hx hb dL_law_126 rfl (lv_at hl 3 rfl) ?_
  refine lv_aload_n hx hb dL_law_127 rfl (lv_at hl 1 rfl) ?_
  refine lv_iload hx hb dL_law_128 (lv_at hl 0 rfl) ?_
  refine lv_iconst (v := nI 1) hx hb dL_law_130 (by decide) ?_
  refine lv_iadd hx hb dL_law_131 ?_
  refine pt_top (y := nI ((8 * n) + 1)) (nI_add _ _) ?_
  refine pt_sld hx hb hX hbl hbA hS (k := ((8 * n) + 1)) (by omega) (by omega) dL_law_132 ?_
  refine pt_callPi (wf := fun u : pt_MS => pt_mw d cd u.1 u.2) (va_runV (As := [.int (xs ((8 * n) + 1))]) (rest := [.int r1]) ⟨hx, hb, hml, hown, hts⟩ (c_X2_dimensions l dC dI d cd G B _  (xs ((8 * n) + 1))) (cwV 1 hts gL_law_X2_dimensions rfl rfl rfl (by decide +kernel) ⟨Nat.le_of_ble_eq_true rfl, Nat.le_of_ble_eq_true rfl⟩) (pt_wv2 hPm hKm hN hDm (q0 := 0) rfl) rfl rfl hl.1 rfl (lv_room (Nat.le_of_ble_eq_true rfl)) dL_law_133 ⟨by show cells + 0 ≤ 601024; omega, by show slots + 0 ≤ 7293034; omega⟩) hDm hS hA (fun _ => rfl) hPx (ap12.symm.same rfl rfl) hPo (ap23.same rfl rfl) (fun r2 u2 H locs hr2 hPm hDm hS hPx hPo => ?_)
  have hrl := rl_dim hRe hr1 hr2
  refine lv_icmp_eq (tgt := 834) hx hb dL_law_136 (by decide) (fun c136 => ?_) (fun c136 => absurd hrl.1 c136)
  refine W.widen (k := cells + 1) (n := slots + 6) (by omega) (by omega) ?_
  exact kk u1.1 u1.2.1 u1.2.2 u2.1 u2.2 f _ _ ls ⟨hrl.2, ⟨hPx, hPm, hPo⟩, ⟨hDx, hDm, hDo⟩, hS⟩ (lv_sub hl [0, 1, 2, 3, 4] rfl)

set_option maxHeartbeats 4000000 in
set_option maxRecDepth 100000 in
theorem lw_case_1 (l : Launch) (hfl : l.stackTraces = false) {p : Program} {e : Env} {s : State} {m : MethodId} {below : List Frame} {meth : Method} {c : Code} {b L : Nat} {xs : Nat → Int32} (hL : L ≤ 4096) (C0 : lw_At p s m meth c b L xs) {dC : Nat → ClassId} {dI : Nat → Nat → Nat} {a : Nat → Nat} {ca : Nat → ClassId} {d : Nat → Nat} {cd : Nat → ClassId} {o : Nat} {cO : ClassId} {sa : Nat} (hC : lw_C s dC dI a ca d cd o cO sa) (n : Nat) (hn : 8 * n + 8 ≤ L) {F : Nat → Int32} {A : Nat → Nat → Int32} {Q : Nat → Int64} {G : Nat → Int32} {B : Nat → Nat → Int32} {f : Nat → Int64} {H : Heap} {locs : List Loc} {cells slots : Nat} (hc : cells + 1 ≤ 601024) (hs : slots + 6 ≤ 7293034) (hI : lw_I s dC dI a ca d cd o cO F A Q G B f H locs) {ls : Array Slot} (hl : lv_has ls 8 [(4, .int (nI (8 * n))), (0, .ref b), (1, .ref (a 0)), (2, .ref (d 0)), (3, .ref o)]) (kk : ∀ (F : Nat → Int32) (A : Nat → Nat → Int32) (Q : Nat → Int64) (G : Nat → Int32) (B : Nat → Nat → Int32) (f : Nat → Int64) (H : Heap) (locs : List Loc) (ls : Array Slot), lw_I s dC dI a ca d cd o cO F A Q G B f H locs → lv_has ls 8 [(4, .int (nI (8 * n))), (0, .ref b), (1, .ref (a 0)), (2, .ref (d 0)), (3, .ref o)] → W p l e room_1 s m #[Value.ref b] below meth c H locs (cells + 1) (slots + 6) (lw_Z below #[Value.ref b] s) (F0 m 834 ls [])) : W p l e room_1 s m #[Value.ref b] below meth c H locs cells slots (lw_Z below #[Value.ref b] s) (F0 m 141 ls []) := by
  obtain ⟨hx, hb, hr, hml, hown, hts0, hX, hbl, hlocks, hgv⟩ := id C0
  have hts : ∀ w ∈ wsL_law, w.before #[Value.ref b] s = true := fun w h => hts0 w (wsL_law_in w h)
  have hbA : ¬ (fun q : Nat => s.heap.size ≤ q) b := Nat.not_le.mpr hbl
  have hA : ∀ q : Nat, s.heap.size ≤ q → (fun q : Nat => s.heap.size ≤ q) q := fun _ h => h
  obtain ⟨hKx, hKm, hKo, hN, ap12, ap13, ap23, hYs, hYb, hY1, hY2⟩ := hC
  obtain ⟨⟨ax, md, N, lz, ts, fd, fc, op, se, ft, hRe⟩, ⟨hPx, hPm, hPo⟩, ⟨hDx, hDm, hDo⟩, hS⟩ := hI
  obtain ⟨⟨hax1, hax, hmd, hlz, hfc⟩, ⟨hF0, hF1, hF2, hF6⟩, ⟨hG1, hG2⟩, hth, hXB, hbd, ⟨⟨gt1, gt2, gt3, gt4⟩, ⟨hF5, hXr, hXt⟩, ⟨hG8, hMr, hMt⟩, hin⟩, ⟨hF15, hask, hale⟩, haM, hA16, hG24, hG25, hG26⟩ := id hRe
  refine lv_aload_n hx hb dL_law_141 rfl (lv_at hl 2 rfl) ?_
  refine lv_aload_n hx hb dL_law_142 rfl (lv_at hl 1 rfl) ?_
  refine lv_iload hx hb dL_law_143 (lv_at hl 0 rfl) ?_
  refine lv_iconst (v := nI 1) hx hb dL_law_145 (by decide) ?_
  refine lv_iadd hx hb dL_law_146 ?_
  refine pt_top (y := nI ((8 * n) + 1)) (nI_add _ _) ?_
  refine pt_sld hx hb hX hbl hbA hS (k := ((8 * n) + 1)) (by omega) (by omega) dL_law_147 ?_
  refine lv_aload_n hx hb dL_law_148 rfl (lv_at hl 1 rfl) ?_
  refine lv_iload hx hb dL_law_149 (lv_at hl 0 rfl) ?_
  refine lv_iconst (v := nI 2) hx hb dL_law_151 (by decide) ?_
  refine lv_iadd hx hb dL_law_152 ?_
  refine pt_top (y := nI ((8 * n) + 2)) (nI_add _ _) ?_
  refine pt_sld hx hb hX hbl hbA hS (k := ((8 * n) + 2)) (by omega) (by omega) dL_law_153 ?_
  refine lv_aload_n hx hb dL_law_154 rfl (lv_at hl 1 rfl) ?_
  refine lv_iload hx hb dL_law_155 (lv_at hl 0 rfl) ?_
  refine lv_iconst (v := nI 3) hx hb dL_law_157 (by decide) ?_
  refine lv_iadd hx hb dL_law_158 ?_
  refine pt_top (y := nI ((8 * n) + 3)) (nI_add _ _) ?_
  refine pt_sld hx hb hX hbl hbA hS (k := ((8 * n) + 3)) (by omega) (by omega) dL_law_159 ?_
  refine lv_aload_n hx hb dL_law_160 rfl (lv_at hl 1 rfl) ?_
  refine lv_iload hx hb dL_law_161 (lv_at hl 0 rfl) ?_
  refine lv_iconst (v := nI 4) hx hb dL_law_163 (by decide) ?_
  refine lv_iadd hx hb dL_law_164 ?_
  refine pt_top (y := nI ((8 * n) + 4)) (nI_add _ _) ?_
  refine pt_sld hx hb hX hbl hbA hS (k := ((8 * n) + 4)) (by omega) (by omega) dL_law_165 ?_
  refine lv_aload_n hx hb dL_law_166 rfl (lv_at hl 1 rfl) ?_
  refine lv_iload hx hb dL_law_167 (lv_at hl 0 rfl) ?_
  refine lv_iconst (v := nI 5) hx hb dL_law_169 (by decide) ?_
  refine lv_iadd hx hb dL_law_170 ?_
  refine pt_top (y := nI ((8 * n) + 5)) (nI_add _ _) ?_
  refine pt_sld hx hb hX hbl hbA hS (k := ((8 * n) + 5)) (by omega) (by omega) dL_law_171 ?_
  refine lv_aload_n hx hb dL_law_172 rfl (lv_at hl 1 rfl) ?_
  refine lv_iload hx hb dL_law_173 (lv_at hl 0 rfl) ?_
  refine lv_bipush (v := nI 6) hx hb dL_law_175 (by decide) ?_
  refine lv_iadd hx hb dL_law_177 ?_
  refine pt_top (y := nI ((8 * n) + 6)) (nI_add _ _) ?_
  refine pt_sld hx hb hX hbl hbA hS (k := ((8 * n) + 6)) (by omega) (by omega) dL_law_178 ?_
  refine pt_callPi (wf := fun u : pt_XS => pt_xw a ca u.1 u.2.1 u.2.2) (va_runV (As := [.int (xs ((8 * n) + 1)), .int (xs ((8 * n) + 2)), .int (xs ((8 * n) + 3)), .int (xs ((8 * n) + 4)), .int (xs ((8 * n) + 5)), .int (xs ((8 * n) + 6))]) (rest := []) ⟨hx, hb, hml, hown, hts⟩ (c_X1_thing l dC dI a ca F A Q _ ax hF0 hax md hF1 hmd _ hF2 (xs ((8 * n) + 1)) (xs ((8 * n) + 2)) (xs ((8 * n) + 3)) (xs ((8 * n) + 4)) (xs ((8 * n) + 5)) (xs ((8 * n) + 6))) (cwV 6 hts gL_law_X1_thing rfl rfl rfl (by decide +kernel) ⟨Nat.le_of_ble_eq_true rfl, Nat.le_of_ble_eq_true rfl⟩) (pt_wv1 hPx hKx hN hDx (q0 := 0) rfl) rfl rfl hl.1 rfl (lv_room (Nat.le_of_ble_eq_true rfl)) dL_law_179 ⟨by show cells + 0 ≤ 601024; omega, by show slots + 0 ≤ 7293034; omega⟩) hDx hS hA (fun _ => rfl) hPm (ap12.same rfl rfl) hPo (ap13.same rfl rfl) (fun r1 u1 H locs hr1 hPx hDx hS hPm hPo => ?_)
  refine lv_aload_n hx hb dL_law_182 rfl (lv_at hl 3 rfl) ?_
  refine lv_aload_n hx hb dL_law_183 rfl (lv_at hl 1 rfl) ?_
  refine lv_iload hx hb dL_law_184 (lv_at hl 0 rfl) ?_
  refine lv_iconst (v := nI 1) hx hb dL_law_186 (by decide) ?_
  refine lv_iadd hx hb dL_law_187 ?_
  refine pt_top (y := nI ((8 * n) + 1)) (nI_add _ _) ?_
  refine pt_sld hx hb hX hbl hbA hS (k := ((8 * n) + 1)) (by omega) (by omega) dL_law_188 ?_
  refine lv_aload_n hx hb dL_law_189 rfl (lv_at hl 1 rfl) ?_
  refine lv_iload hx hb dL_law_190 (lv_at hl 0 rfl) ?_
  refine lv_iconst (v := nI 2) hx hb dL_law_192 (by decide) ?_
  refine lv_iadd hx hb dL_law_193 ?_
  refine pt_top (y := nI ((8 * n) + 2)) (nI_add _ _) ?_
  refine pt_sld hx hb hX hbl hbA hS (k := ((8 * n) + 2)) (by omega) (by omega) dL_law_194 ?_
  refine lv_aload_n hx hb dL_law_195 rfl (lv_at hl 1 rfl) ?_
  refine lv_iload hx hb dL_law_196 (lv_at hl 0 rfl) ?_
  refine lv_iconst (v := nI 3) hx hb dL_law_198 (by decide) ?_
  refine lv_iadd hx hb dL_law_199 ?_
  refine pt_top (y := nI ((8 * n) + 3)) (nI_add _ _) ?_
  refine pt_sld hx hb hX hbl hbA hS (k := ((8 * n) + 3)) (by omega) (by omega) dL_law_200 ?_
  refine lv_aload_n hx hb dL_law_201 rfl (lv_at hl 1 rfl) ?_
  refine lv_iload hx hb dL_law_202 (lv_at hl 0 rfl) ?_
  refine lv_iconst (v := nI 4) hx hb dL_law_204 (by decide) ?_
  refine lv_iadd hx hb dL_law_205 ?_
  refine pt_top (y := nI ((8 * n) + 4)) (nI_add _ _) ?_
  refine pt_sld hx hb hX hbl hbA hS (k := ((8 * n) + 4)) (by omega) (by omega) dL_law_206 ?_
  refine lv_aload_n hx hb dL_law_207 rfl (lv_at hl 1 rfl) ?_
  refine lv_iload hx hb dL_law_208 (lv_at hl 0 rfl) ?_
  refine lv_iconst (v := nI 5) hx hb dL_law_210 (by decide) ?_
  refine lv_iadd hx hb dL_law_211 ?_
  refine pt_top (y := nI ((8 * n) + 5)) (nI_add _ _) ?_
  refine pt_sld hx hb hX hbl hbA hS (k := ((8 * n) + 5)) (by omega) (by omega) dL_law_212 ?_
  refine lv_aload_n hx hb dL_law_213 rfl (lv_at hl 1 rfl) ?_
  refine lv_iload hx hb dL_law_214 (lv_at hl 0 rfl) ?_
  refine lv_bipush (v := nI 6) hx hb dL_law_216 (by decide) ?_
  refine lv_iadd hx hb dL_law_218 ?_
  refine pt_top (y := nI ((8 * n) + 6)) (nI_add _ _) ?_
  refine pt_sld hx hb hX hbl hbA hS (k := ((8 * n) + 6)) (by omega) (by omega) dL_law_219 ?_
  refine pt_callPi (wf := fun u : pt_MS => pt_mw d cd u.1 u.2) (va_runV (As := [.int (xs ((8 * n) + 1)), .int (xs ((8 * n) + 2)), .int (xs ((8 * n) + 3)), .int (xs ((8 * n) + 4)), .int (xs ((8 * n) + 5)), .int (xs ((8 * n) + 6))]) (rest := [.int r1]) ⟨hx, hb, hml, hown, hts⟩ (c_X2_thing l dC dI d cd G B _ ax hG1 hax hax1 md hG2 hmd (xs ((8 * n) + 1)) (xs ((8 * n) + 2)) (xs ((8 * n) + 3)) (xs ((8 * n) + 4)) (xs ((8 * n) + 5)) (xs ((8 * n) + 6))) (cwV 6 hts gL_law_X2_thing rfl rfl rfl (by decide +kernel) ⟨Nat.le_of_ble_eq_true rfl, Nat.le_of_ble_eq_true rfl⟩) (pt_wv2 hPm hKm hN hDm (q0 := 0) rfl) rfl rfl hl.1 rfl (lv_room (Nat.le_of_ble_eq_true rfl)) dL_law_220 ⟨by show cells + 0 ≤ 601024; omega, by show slots + 0 ≤ 7293034; omega⟩) hDm hS hA (fun _ => rfl) hPx (ap12.symm.same rfl rfl) hPo (ap23.same rfl rfl) (fun r2 u2 H locs hr2 hPm hDm hS hPx hPo => ?_)
  have hrl := rl_thing hRe hr1 hr2
  refine lv_icmp_eq (tgt := 834) hx hb dL_law_223 (by decide) (fun c223 => ?_) (fun c223 => absurd hrl.1 c223)
  refine W.widen (k := cells + 1) (n := slots + 6) (by omega) (by omega) ?_
  exact kk u1.1 u1.2.1 u1.2.2 u2.1 u2.2 f _ _ ls ⟨hrl.2, ⟨hPx, hPm, hPo⟩, ⟨hDx, hDm, hDo⟩, hS⟩ (lv_sub hl [0, 1, 2, 3, 4] rfl)

set_option maxHeartbeats 4000000 in
set_option maxRecDepth 100000 in
theorem lw_case_2 (l : Launch) (hfl : l.stackTraces = false) {p : Program} {e : Env} {s : State} {m : MethodId} {below : List Frame} {meth : Method} {c : Code} {b L : Nat} {xs : Nat → Int32} (hL : L ≤ 4096) (C0 : lw_At p s m meth c b L xs) {dC : Nat → ClassId} {dI : Nat → Nat → Nat} {a : Nat → Nat} {ca : Nat → ClassId} {d : Nat → Nat} {cd : Nat → ClassId} {o : Nat} {cO : ClassId} {sa : Nat} (hC : lw_C s dC dI a ca d cd o cO sa) (n : Nat) (hn : 8 * n + 8 ≤ L) {F : Nat → Int32} {A : Nat → Nat → Int32} {Q : Nat → Int64} {G : Nat → Int32} {B : Nat → Nat → Int32} {f : Nat → Int64} {H : Heap} {locs : List Loc} {cells slots : Nat} (hc : cells + 1 ≤ 601024) (hs : slots + 6 ≤ 7293034) (hI : lw_I s dC dI a ca d cd o cO F A Q G B f H locs) {ls : Array Slot} (hl : lv_has ls 8 [(4, .int (nI (8 * n))), (0, .ref b), (1, .ref (a 0)), (2, .ref (d 0)), (3, .ref o)]) (kk : ∀ (F : Nat → Int32) (A : Nat → Nat → Int32) (Q : Nat → Int64) (G : Nat → Int32) (B : Nat → Nat → Int32) (f : Nat → Int64) (H : Heap) (locs : List Loc) (ls : Array Slot), lw_I s dC dI a ca d cd o cO F A Q G B f H locs → lv_has ls 8 [(4, .int (nI (8 * n))), (0, .ref b), (1, .ref (a 0)), (2, .ref (d 0)), (3, .ref o)] → W p l e room_1 s m #[Value.ref b] below meth c H locs (cells + 1) (slots + 6) (lw_Z below #[Value.ref b] s) (F0 m 834 ls [])) : W p l e room_1 s m #[Value.ref b] below meth c H locs cells slots (lw_Z below #[Value.ref b] s) (F0 m 228 ls []) := by
  obtain ⟨hx, hb, hr, hml, hown, hts0, hX, hbl, hlocks, hgv⟩ := id C0
  have hts : ∀ w ∈ wsL_law, w.before #[Value.ref b] s = true := fun w h => hts0 w (wsL_law_in w h)
  have hbA : ¬ (fun q : Nat => s.heap.size ≤ q) b := Nat.not_le.mpr hbl
  have hA : ∀ q : Nat, s.heap.size ≤ q → (fun q : Nat => s.heap.size ≤ q) q := fun _ h => h
  obtain ⟨hKx, hKm, hKo, hN, ap12, ap13, ap23, hYs, hYb, hY1, hY2⟩ := hC
  obtain ⟨⟨ax, md, N, lz, ts, fd, fc, op, se, ft, hRe⟩, ⟨hPx, hPm, hPo⟩, ⟨hDx, hDm, hDo⟩, hS⟩ := hI
  obtain ⟨⟨hax1, hax, hmd, hlz, hfc⟩, ⟨hF0, hF1, hF2, hF6⟩, ⟨hG1, hG2⟩, hth, hXB, hbd, ⟨⟨gt1, gt2, gt3, gt4⟩, ⟨hF5, hXr, hXt⟩, ⟨hG8, hMr, hMt⟩, hin⟩, ⟨hF15, hask, hale⟩, haM, hA16, hG24, hG25, hG26⟩ := id hRe
  refine lv_aload_n hx hb dL_law_228 rfl (lv_at hl 2 rfl) ?_
  refine lv_aload_n hx hb dL_law_229 rfl (lv_at hl 1 rfl) ?_
  refine lv_iload hx hb dL_law_230 (lv_at hl 0 rfl) ?_
  refine lv_iconst (v := nI 1) hx hb dL_law_232 (by decide) ?_
  refine lv_iadd hx hb dL_law_233 ?_
  refine pt_top (y := nI ((8 * n) + 1)) (nI_add _ _) ?_
  refine pt_sld hx hb hX hbl hbA hS (k := ((8 * n) + 1)) (by omega) (by omega) dL_law_234 ?_
  refine pt_callPi (wf := fun u : pt_XS => pt_xw a ca u.1 u.2.1 u.2.2) (va_runV (As := [.int (xs ((8 * n) + 1))]) (rest := []) ⟨hx, hb, hml, hown, hts⟩ (c_X1_drop l dC dI a ca F A Q _ md hF1 hmd _ hF2 (fun t ht hT => pt_cnt_pos hT ht) (xs ((8 * n) + 1))) (cwV 1 hts gL_law_X1_drop rfl rfl rfl (by decide +kernel) ⟨Nat.le_of_ble_eq_true rfl, Nat.le_of_ble_eq_true rfl⟩) (pt_wv1 hPx hKx hN hDx (q0 := 0) rfl) rfl rfl hl.1 rfl (lv_room (Nat.le_of_ble_eq_true rfl)) dL_law_235 ⟨by show cells + 0 ≤ 601024; omega, by show slots + 0 ≤ 7293034; omega⟩) hDx hS hA (fun _ => rfl) hPm (ap12.same rfl rfl) hPo (ap13.same rfl rfl) (fun r1 u1 H locs hr1 hPx hDx hS hPm hPo => ?_)
  refine lv_aload_n hx hb dL_law_238 rfl (lv_at hl 3 rfl) ?_
  refine lv_aload_n hx hb dL_law_239 rfl (lv_at hl 1 rfl) ?_
  refine lv_iload hx hb dL_law_240 (lv_at hl 0 rfl) ?_
  refine lv_iconst (v := nI 1) hx hb dL_law_242 (by decide) ?_
  refine lv_iadd hx hb dL_law_243 ?_
  refine pt_top (y := nI ((8 * n) + 1)) (nI_add _ _) ?_
  refine pt_sld hx hb hX hbl hbA hS (k := ((8 * n) + 1)) (by omega) (by omega) dL_law_244 ?_
  refine pt_callPi (wf := fun u : pt_MS => pt_mw d cd u.1 u.2) (va_runV (As := [.int (xs ((8 * n) + 1))]) (rest := [.int r1]) ⟨hx, hb, hml, hown, hts⟩ (c_X2_drop l dC dI d cd G B _ md hG2 hmd (xs ((8 * n) + 1))) (cwV 1 hts gL_law_X2_drop rfl rfl rfl (by decide +kernel) ⟨Nat.le_of_ble_eq_true rfl, Nat.le_of_ble_eq_true rfl⟩) (pt_wv2 hPm hKm hN hDm (q0 := 0) rfl) rfl rfl hl.1 rfl (lv_room (Nat.le_of_ble_eq_true rfl)) dL_law_245 ⟨by show cells + 0 ≤ 601024; omega, by show slots + 0 ≤ 7293034; omega⟩) hDm hS hA (fun _ => rfl) hPx (ap12.symm.same rfl rfl) hPo (ap23.same rfl rfl) (fun r2 u2 H locs hr2 hPm hDm hS hPx hPo => ?_)
  have hrl := rl_drop hRe hr1 hr2
  refine lv_icmp_eq (tgt := 834) hx hb dL_law_248 (by decide) (fun c248 => ?_) (fun c248 => absurd hrl.1 c248)
  refine W.widen (k := cells + 1) (n := slots + 6) (by omega) (by omega) ?_
  exact kk u1.1 u1.2.1 u1.2.2 u2.1 u2.2 f _ _ ls ⟨hrl.2, ⟨hPx, hPm, hPo⟩, ⟨hDx, hDm, hDo⟩, hS⟩ (lv_sub hl [0, 1, 2, 3, 4] rfl)

set_option maxHeartbeats 4000000 in
set_option maxRecDepth 100000 in
theorem lw_case_3 (l : Launch) (hfl : l.stackTraces = false) {p : Program} {e : Env} {s : State} {m : MethodId} {below : List Frame} {meth : Method} {c : Code} {b L : Nat} {xs : Nat → Int32} (hL : L ≤ 4096) (C0 : lw_At p s m meth c b L xs) {dC : Nat → ClassId} {dI : Nat → Nat → Nat} {a : Nat → Nat} {ca : Nat → ClassId} {d : Nat → Nat} {cd : Nat → ClassId} {o : Nat} {cO : ClassId} {sa : Nat} (hC : lw_C s dC dI a ca d cd o cO sa) (n : Nat) (hn : 8 * n + 8 ≤ L) {F : Nat → Int32} {A : Nat → Nat → Int32} {Q : Nat → Int64} {G : Nat → Int32} {B : Nat → Nat → Int32} {f : Nat → Int64} {H : Heap} {locs : List Loc} {cells slots : Nat} (hc : cells + 1 ≤ 601024) (hs : slots + 6 ≤ 7293034) (hI : lw_I s dC dI a ca d cd o cO F A Q G B f H locs) {ls : Array Slot} (hl : lv_has ls 8 [(4, .int (nI (8 * n))), (0, .ref b), (1, .ref (a 0)), (2, .ref (d 0)), (3, .ref o)]) (kk : ∀ (F : Nat → Int32) (A : Nat → Nat → Int32) (Q : Nat → Int64) (G : Nat → Int32) (B : Nat → Nat → Int32) (f : Nat → Int64) (H : Heap) (locs : List Loc) (ls : Array Slot), lw_I s dC dI a ca d cd o cO F A Q G B f H locs → lv_has ls 8 [(4, .int (nI (8 * n))), (0, .ref b), (1, .ref (a 0)), (2, .ref (d 0)), (3, .ref o)] → W p l e room_1 s m #[Value.ref b] below meth c H locs (cells + 1) (slots + 6) (lw_Z below #[Value.ref b] s) (F0 m 834 ls [])) : W p l e room_1 s m #[Value.ref b] below meth c H locs cells slots (lw_Z below #[Value.ref b] s) (F0 m 253 ls []) := by
  obtain ⟨hx, hb, hr, hml, hown, hts0, hX, hbl, hlocks, hgv⟩ := id C0
  have hts : ∀ w ∈ wsL_law, w.before #[Value.ref b] s = true := fun w h => hts0 w (wsL_law_in w h)
  have hbA : ¬ (fun q : Nat => s.heap.size ≤ q) b := Nat.not_le.mpr hbl
  have hA : ∀ q : Nat, s.heap.size ≤ q → (fun q : Nat => s.heap.size ≤ q) q := fun _ h => h
  obtain ⟨hKx, hKm, hKo, hN, ap12, ap13, ap23, hYs, hYb, hY1, hY2⟩ := hC
  obtain ⟨⟨ax, md, N, lz, ts, fd, fc, op, se, ft, hRe⟩, ⟨hPx, hPm, hPo⟩, ⟨hDx, hDm, hDo⟩, hS⟩ := hI
  obtain ⟨⟨hax1, hax, hmd, hlz, hfc⟩, ⟨hF0, hF1, hF2, hF6⟩, ⟨hG1, hG2⟩, hth, hXB, hbd, ⟨⟨gt1, gt2, gt3, gt4⟩, ⟨hF5, hXr, hXt⟩, ⟨hG8, hMr, hMt⟩, hin⟩, ⟨hF15, hask, hale⟩, haM, hA16, hG24, hG25, hG26⟩ := id hRe
  refine lv_aload_n hx hb dL_law_253 rfl (lv_at hl 2 rfl) ?_
  refine pt_rdi (va_runV (As := []) (rest := []) ⟨hx, hb, hml, hown, hts⟩ (c_X1_count l dC dI a ca F A Q  ) (cwV 0 hts gL_law_X1_count rfl rfl rfl (by decide +kernel) ⟨Nat.le_of_ble_eq_true rfl, Nat.le_of_ble_eq_true rfl⟩) (pt_pv1 hPx hKx hN (q0 := 0) rfl) rfl rfl hl.1 rfl (lv_room (Nat.le_of_ble_eq_true rfl)) dL_law_254 ⟨by show cells + 0 ≤ 601024; omega, by show slots + 0 ≤ 7293034; omega⟩) (fun r1 hr1 => ?_)
  refine lv_aload_n hx hb dL_law_257 rfl (lv_at hl 3 rfl) ?_
  refine pt_callPi (wf := fun u : pt_MS => pt_mw d cd u.1 u.2) (va_runV (As := []) (rest := [.int r1]) ⟨hx, hb, hml, hown, hts⟩ (c_X2_count l dC dI d cd G B _ md hG2 hmd ) (cwV 0 hts gL_law_X2_count rfl rfl rfl (by decide +kernel) ⟨Nat.le_of_ble_eq_true rfl, Nat.le_of_ble_eq_true rfl⟩) (pt_wv2 hPm hKm hN hDm (q0 := 0) rfl) rfl rfl hl.1 rfl (lv_room (Nat.le_of_ble_eq_true rfl)) dL_law_258 ⟨by show cells + 0 ≤ 601024; omega, by show slots + 0 ≤ 7293034; omega⟩) hDm hS hA (fun _ => rfl) hPx (ap12.symm.same rfl rfl) hPo (ap23.same rfl rfl) (fun r2 u2 H locs hr2 hPm hDm hS hPx hPo => ?_)
  have hrl := rl_count hRe hr1 hr2
  refine lv_icmp_eq (tgt := 834) hx hb dL_law_261 (by decide) (fun c261 => ?_) (fun c261 => absurd hrl.1 c261)
  refine W.widen (k := cells + 1) (n := slots + 6) (by omega) (by omega) ?_
  exact kk F A Q u2.1 u2.2 f _ _ ls ⟨hrl.2, ⟨hPx, hPm, hPo⟩, ⟨hDx, hDm, hDo⟩, hS⟩ (lv_sub hl [0, 1, 2, 3, 4] rfl)

set_option maxHeartbeats 4000000 in
set_option maxRecDepth 100000 in
theorem lw_case_4 (l : Launch) (hfl : l.stackTraces = false) {p : Program} {e : Env} {s : State} {m : MethodId} {below : List Frame} {meth : Method} {c : Code} {b L : Nat} {xs : Nat → Int32} (hL : L ≤ 4096) (C0 : lw_At p s m meth c b L xs) {dC : Nat → ClassId} {dI : Nat → Nat → Nat} {a : Nat → Nat} {ca : Nat → ClassId} {d : Nat → Nat} {cd : Nat → ClassId} {o : Nat} {cO : ClassId} {sa : Nat} (hC : lw_C s dC dI a ca d cd o cO sa) (n : Nat) (hn : 8 * n + 8 ≤ L) {F : Nat → Int32} {A : Nat → Nat → Int32} {Q : Nat → Int64} {G : Nat → Int32} {B : Nat → Nat → Int32} {f : Nat → Int64} {H : Heap} {locs : List Loc} {cells slots : Nat} (hc : cells + 1 ≤ 601024) (hs : slots + 6 ≤ 7293034) (hI : lw_I s dC dI a ca d cd o cO F A Q G B f H locs) {ls : Array Slot} (hl : lv_has ls 8 [(4, .int (nI (8 * n))), (0, .ref b), (1, .ref (a 0)), (2, .ref (d 0)), (3, .ref o)]) (kk : ∀ (F : Nat → Int32) (A : Nat → Nat → Int32) (Q : Nat → Int64) (G : Nat → Int32) (B : Nat → Nat → Int32) (f : Nat → Int64) (H : Heap) (locs : List Loc) (ls : Array Slot), lw_I s dC dI a ca d cd o cO F A Q G B f H locs → lv_has ls 8 [(4, .int (nI (8 * n))), (0, .ref b), (1, .ref (a 0)), (2, .ref (d 0)), (3, .ref o)] → W p l e room_1 s m #[Value.ref b] below meth c H locs (cells + 1) (slots + 6) (lw_Z below #[Value.ref b] s) (F0 m 834 ls [])) : W p l e room_1 s m #[Value.ref b] below meth c H locs cells slots (lw_Z below #[Value.ref b] s) (F0 m 266 ls []) := by
  obtain ⟨hx, hb, hr, hml, hown, hts0, hX, hbl, hlocks, hgv⟩ := id C0
  have hts : ∀ w ∈ wsL_law, w.before #[Value.ref b] s = true := fun w h => hts0 w (wsL_law_in w h)
  have hbA : ¬ (fun q : Nat => s.heap.size ≤ q) b := Nat.not_le.mpr hbl
  have hA : ∀ q : Nat, s.heap.size ≤ q → (fun q : Nat => s.heap.size ≤ q) q := fun _ h => h
  obtain ⟨hKx, hKm, hKo, hN, ap12, ap13, ap23, hYs, hYb, hY1, hY2⟩ := hC
  obtain ⟨⟨ax, md, N, lz, ts, fd, fc, op, se, ft, hRe⟩, ⟨hPx, hPm, hPo⟩, ⟨hDx, hDm, hDo⟩, hS⟩ := hI
  obtain ⟨⟨hax1, hax, hmd, hlz, hfc⟩, ⟨hF0, hF1, hF2, hF6⟩, ⟨hG1, hG2⟩, hth, hXB, hbd, ⟨⟨gt1, gt2, gt3, gt4⟩, ⟨hF5, hXr, hXt⟩, ⟨hG8, hMr, hMt⟩, hin⟩, ⟨hF15, hask, hale⟩, haM, hA16, hG24, hG25, hG26⟩ := id hRe
  refine lv_aload_n hx hb dL_law_266 rfl (lv_at hl 2 rfl) ?_
  refine lv_aload_n hx hb dL_law_267 rfl (lv_at hl 1 rfl) ?_
  refine lv_iload hx hb dL_law_268 (lv_at hl 0 rfl) ?_
  refine lv_iconst (v := nI 1) hx hb dL_law_270 (by decide) ?_
  refine lv_iadd hx hb dL_law_271 ?_
  refine pt_top (y := nI ((8 * n) + 1)) (nI_add _ _) ?_
  refine pt_sld hx hb hX hbl hbA hS (k := ((8 * n) + 1)) (by omega) (by omega) dL_law_272 ?_
  refine lv_aload_n hx hb dL_law_273 rfl (lv_at hl 1 rfl) ?_
  refine lv_iload hx hb dL_law_274 (lv_at hl 0 rfl) ?_
  refine lv_iconst (v := nI 2) hx hb dL_law_276 (by decide) ?_
  refine lv_iadd hx hb dL_law_277 ?_
  refine pt_top (y := nI ((8 * n) + 2)) (nI_add _ _) ?_
  refine pt_sld hx hb hX hbl hbA hS (k := ((8 * n) + 2)) (by omega) (by omega) dL_law_278 ?_
  refine lv_aload_n hx hb dL_law_279 rfl (lv_at hl 1 rfl) ?_
  refine lv_iload hx hb dL_law_280 (lv_at hl 0 rfl) ?_
  refine lv_iconst (v := nI 3) hx hb dL_law_282 (by decide) ?_
  refine lv_iadd hx hb dL_law_283 ?_
  refine pt_top (y := nI ((8 * n) + 3)) (nI_add _ _) ?_
  refine pt_sld hx hb hX hbl hbA hS (k := ((8 * n) + 3)) (by omega) (by omega) dL_law_284 ?_
  refine pt_rdl (va_runV (As := [.int (xs ((8 * n) + 1)), .int (xs ((8 * n) + 2)), .int (xs ((8 * n) + 3))]) (rest := []) ⟨hx, hb, hml, hown, hts⟩ (c_X1_end l dC dI a ca F A Q ax hF0 hax md hF1 hmd (xs ((8 * n) + 1)) (xs ((8 * n) + 2)) (xs ((8 * n) + 3))) (cwV 3 hts gL_law_X1_end rfl rfl rfl (by decide +kernel) ⟨Nat.le_of_ble_eq_true rfl, Nat.le_of_ble_eq_true rfl⟩) (pt_pv1 hPx hKx hN (q0 := 0) rfl) rfl rfl hl.1 rfl (lv_room (Nat.le_of_ble_eq_true rfl)) dL_law_285 ⟨by show cells + 0 ≤ 601024; omega, by show slots + 0 ≤ 7293034; omega⟩) (fun r1 hr1 => ?_)
  refine lv_aload_n hx hb dL_law_288 rfl (lv_at hl 3 rfl) ?_
  refine lv_aload_n hx hb dL_law_289 rfl (lv_at hl 1 rfl) ?_
  refine lv_iload hx hb dL_law_290 (lv_at hl 0 rfl) ?_
  refine lv_iconst (v := nI 1) hx hb dL_law_292 (by decide) ?_
  refine lv_iadd hx hb dL_law_293 ?_
  refine pt_top (y := nI ((8 * n) + 1)) (nI_add _ _) ?_
  refine pt_sld hx hb hX hbl hbA hS (k := ((8 * n) + 1)) (by omega) (by omega) dL_law_294 ?_
  refine lv_aload_n hx hb dL_law_295 rfl (lv_at hl 1 rfl) ?_
  refine lv_iload hx hb dL_law_296 (lv_at hl 0 rfl) ?_
  refine lv_iconst (v := nI 2) hx hb dL_law_298 (by decide) ?_
  refine lv_iadd hx hb dL_law_299 ?_
  refine pt_top (y := nI ((8 * n) + 2)) (nI_add _ _) ?_
  refine pt_sld hx hb hX hbl hbA hS (k := ((8 * n) + 2)) (by omega) (by omega) dL_law_300 ?_
  refine lv_aload_n hx hb dL_law_301 rfl (lv_at hl 1 rfl) ?_
  refine lv_iload hx hb dL_law_302 (lv_at hl 0 rfl) ?_
  refine lv_iconst (v := nI 3) hx hb dL_law_304 (by decide) ?_
  refine lv_iadd hx hb dL_law_305 ?_
  refine pt_top (y := nI ((8 * n) + 3)) (nI_add _ _) ?_
  refine pt_sld hx hb hX hbl hbA hS (k := ((8 * n) + 3)) (by omega) (by omega) dL_law_306 ?_
  refine pt_callPl (wf := fun u : pt_MS => pt_mw d cd u.1 u.2) (va_runV (As := [.int (xs ((8 * n) + 1)), .int (xs ((8 * n) + 2)), .int (xs ((8 * n) + 3))]) (rest := [.long r1]) ⟨hx, hb, hml, hown, hts⟩ (c_X2_end l dC dI d cd G B _ ax hG1 hax md hG2 hmd (xs ((8 * n) + 1)) (xs ((8 * n) + 2)) (xs ((8 * n) + 3))) (cwV 3 hts gL_law_X2_end rfl rfl rfl (by decide +kernel) ⟨Nat.le_of_ble_eq_true rfl, Nat.le_of_ble_eq_true rfl⟩) (pt_wv2 hPm hKm hN hDm (q0 := 0) rfl) rfl rfl hl.1 rfl (lv_room (Nat.le_of_ble_eq_true rfl)) dL_law_307 ⟨by show cells + 0 ≤ 601024; omega, by show slots + 0 ≤ 7293034; omega⟩) hDm hS hA (fun _ => rfl) hPx (ap12.symm.same rfl rfl) hPo (ap23.same rfl rfl) (fun r2 u2 H locs hr2 hPm hDm hS hPx hPo => ?_)
  have hrl := rl_end hRe hr1 hr2
  refine W.lcmp hx hb dL_law_310 ?_
  refine lv_if_eq (tgt := 834) hx hb dL_law_311 (by decide) (fun c311 => ?_) (fun c311 => absurd ((lg_cmp_eq _ _).mpr hrl.1) c311)
  refine W.widen (k := cells + 1) (n := slots + 6) (by omega) (by omega) ?_
  exact kk F A Q u2.1 u2.2 f _ _ ls ⟨hrl.2, ⟨hPx, hPm, hPo⟩, ⟨hDx, hDm, hDo⟩, hS⟩ (lv_sub hl [0, 1, 2, 3, 4] rfl)

