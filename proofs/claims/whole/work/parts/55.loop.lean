set_option maxHeartbeats 4000000 in
set_option maxRecDepth 100000 in
theorem lw_loop (l : Launch) (hfl : l.stackTraces = false) {p : Program} {e : Env} {s : State} {m : MethodId} {below : List Frame} {meth : Method} {c : Code} {b L : Nat} {xs : Nat → Int32} (hL : L ≤ 4096) (C0 : lw_At p s m meth c b L xs) {dC : Nat → ClassId} {dI : Nat → Nat → Nat} {a : Nat → Nat} {ca : Nat → ClassId} {d : Nat → Nat} {cd : Nat → ClassId} {o : Nat} {cO : ClassId} {sa : Nat} (hC : lw_C s dC dI a ca d cd o cO sa) : ∀ (k n : Nat), n + k = 512 → ∀ (F : Nat → Int32) (A : Nat → Nat → Int32) (Q : Nat → Int64) (G : Nat → Int32) (B : Nat → Nat → Int32) (f : Nat → Int64) (H : Heap) (locs : List Loc) (ls : Array Slot), lw_I s dC dI a ca d cd o cO F A Q G B f H locs → lv_has ls 8 [(4, .int (nI (8 * n))), (0, .ref b), (1, .ref (a 0)), (2, .ref (d 0)), (3, .ref o)] → W p l e room_1 s m #[Value.ref b] below meth c H locs (36 + n) (2550 + 6 * n) (lw_Z below #[Value.ref b] s) (F0 m 23 ls []) := by
  intro k
  induction k with
  | zero =>
    intro n hk F A Q G B f H locs ls hI hl
    obtain ⟨hx, hb, hr, hml, hown, hts0, hX, hbl, hlocks, hgv⟩ := id C0
    have hbA : ¬ (fun q : Nat => s.heap.size ≤ q) b := Nat.not_le.mpr hbl
    have hS := hI.2.2.2
    refine lv_iload hx hb dL_law_23 (lv_at hl 0 rfl) ?_
    refine lv_aload_n hx hb dL_law_25 rfl (lv_at hl 1 rfl) ?_
    refine va_slen hx hb hX hbl hbA hS dL_law_26 ?_
    refine lv_bipush (v := nI 8) hx hb dL_law_27 (by decide) ?_
    refine lv_isub hx hb dL_law_29 ?_
    refine lv_icmp_gt (tgt := 840) hx hb dL_law_30 (by decide) (fun c30 => ?_) (fun c30 => ?_)
    · refine lv_iconst (v := 1) hx hb dL_law_840 (by decide) ?_
      refine va_forget hS.2.2 ?_
      refine W.widen (k := 601024) (n := 7293034) (by omega) (by omega) ?_
      exact lw_ret hx hb hr hlocks dL_law_841
    · have hn : 8 * n + 8 ≤ L := Nat.not_lt.mp (fun q => c30 ((pt_lim hL (by omega)).mpr q))
      omega
  | succ k ih =>
    intro n hk F A Q G B f H locs ls hI hl
    obtain ⟨hx, hb, hr, hml, hown, hts0, hX, hbl, hlocks, hgv⟩ := id C0
    have hbA : ¬ (fun q : Nat => s.heap.size ≤ q) b := Nat.not_le.mpr hbl
    have hS := hI.2.2.2
    refine lv_iload hx hb dL_law_23 (lv_at hl 0 rfl) ?_
    refine lv_aload_n hx hb dL_law_25 rfl (lv_at hl 1 rfl) ?_
    refine va_slen hx hb hX hbl hbA hS dL_law_26 ?_
    refine lv_bipush (v := nI 8) hx hb dL_law_27 (by decide) ?_
    refine lv_isub hx hb dL_law_29 ?_
    refine lv_icmp_gt (tgt := 840) hx hb dL_law_30 (by decide) (fun c30 => ?_) (fun c30 => ?_)
    · refine lv_iconst (v := 1) hx hb dL_law_840 (by decide) ?_
      refine va_forget hS.2.2 ?_
      refine W.widen (k := 601024) (n := 7293034) (by omega) (by omega) ?_
      exact lw_ret hx hb hr hlocks dL_law_841
    · have hn : 8 * n + 8 ≤ L := Nat.not_lt.mp (fun q => c30 ((pt_lim hL (by omega)).mpr q))
      have kk : ∀ (F : Nat → Int32) (A : Nat → Nat → Int32) (Q : Nat → Int64) (G : Nat → Int32) (B : Nat → Nat → Int32) (f : Nat → Int64) (H : Heap) (locs : List Loc) (ls : Array Slot), lw_I s dC dI a ca d cd o cO F A Q G B f H locs → lv_has ls 8 [(4, .int (nI (8 * n))), (0, .ref b), (1, .ref (a 0)), (2, .ref (d 0)), (3, .ref o)] → W p l e room_1 s m #[Value.ref b] below meth c H locs (36 + n + 1) (2550 + 6 * n + 6) (lw_Z below #[Value.ref b] s) (F0 m 834 ls []) := by
        intro F A Q G B f H locs ls hI hl
        refine lv_iinc (v := nI (8 * (n + 1))) (lv' := [(4, .int (nI (8 * (n + 1)))), (0, .ref b), (1, .ref (a 0)), (2, .ref (d 0)), (3, .ref o)]) hx hb dL_law_834 hl (k := 0) rfl (by rw [show Int32.ofInt 8 = nI 8 by decide]; exact nI_add (8 * n) 8) (by decide) rfl (fun ls hl => ?_)
        refine lv_goto (tgt := 23) hx hb dL_law_837 (by decide) ?_
        exact ih (n + 1) (by omega) F A Q G B f H locs ls hI hl
      refine lv_aload_n hx hb dL_law_33 rfl (lv_at hl 1 rfl) ?_
      refine lv_iload hx hb dL_law_34 (lv_at hl 0 rfl) ?_
      refine pt_sld hx hb hX hbl hbA hS (k := 8 * n) (by omega) (by omega) dL_law_36 ?_
      refine lv_bipush (v := nI 15) hx hb dL_law_37 (by decide) ?_
      refine lv_iand hx hb dL_law_39 ?_
      obtain ⟨j, hj, ej⟩ := pt_and15 (xs (8 * n))
      refine pt_top (y := nI j) ej ?_
      clear ej
      rcases (show j = 0 ∨ j = 1 ∨ j = 2 ∨ j = 3 ∨ j = 4 ∨ j = 5 ∨ j = 6 ∨ j = 7 ∨ j = 8 ∨ j = 9 ∨ j = 10 ∨ j = 11 ∨ j = 12 ∨ j = 13 ∨ j = 14 ∨ j = 15 by omega) with rfl | rfl | rfl | rfl | rfl | rfl | rfl | rfl | rfl | rfl | rfl | rfl | rfl | rfl | rfl | rfl
      · refine lv_tableIn (tgt := 116) hx hb dL_law_40 (by decide) (by decide) rfl (by decide) ?_
        exact lw_case_0 l hfl hL C0 hC n hn (by omega) (by omega) hI hl kk
      · refine lv_tableIn (tgt := 141) hx hb dL_law_40 (by decide) (by decide) rfl (by decide) ?_
        exact lw_case_1 l hfl hL C0 hC n hn (by omega) (by omega) hI hl kk
      · refine lv_tableIn (tgt := 228) hx hb dL_law_40 (by decide) (by decide) rfl (by decide) ?_
        exact lw_case_2 l hfl hL C0 hC n hn (by omega) (by omega) hI hl kk
      · refine lv_tableIn (tgt := 253) hx hb dL_law_40 (by decide) (by decide) rfl (by decide) ?_
        exact lw_case_3 l hfl hL C0 hC n hn (by omega) (by omega) hI hl kk
      · refine lv_tableIn (tgt := 266) hx hb dL_law_40 (by decide) (by decide) rfl (by decide) ?_
        exact lw_case_4 l hfl hL C0 hC n hn (by omega) (by omega) hI hl kk
      · refine lv_tableIn (tgt := 316) hx hb dL_law_40 (by decide) (by decide) rfl (by decide) ?_
        exact lw_case_5 l hfl hL C0 hC n hn (by omega) (by omega) hI hl kk
      · refine lv_tableIn (tgt := 329) hx hb dL_law_40 (by decide) (by decide) rfl (by decide) ?_
        exact lw_case_6 l hfl hL C0 hC n hn (by omega) (by omega) hI hl kk
      · refine lv_tableIn (tgt := 366) hx hb dL_law_40 (by decide) (by decide) rfl (by decide) ?_
        exact lw_case_7 l hfl hL C0 hC n hn (by omega) (by omega) hI hl kk
      · refine lv_tableIn (tgt := 416) hx hb dL_law_40 (by decide) (by decide) rfl (by decide) ?_
        exact lw_case_8 l hfl hL C0 hC n hn (by omega) (by omega) hI hl kk
      · refine lv_tableIn (tgt := 517) hx hb dL_law_40 (by decide) (by decide) rfl (by decide) ?_
        exact lw_case_9 l hfl hL C0 hC n hn (by omega) (by omega) hI hl kk
      · refine lv_tableIn (tgt := 542) hx hb dL_law_40 (by decide) (by decide) rfl (by decide) ?_
        exact lw_case_10 l hfl hL C0 hC n hn (by omega) (by omega) hI hl kk
      · refine lv_tableIn (tgt := 567) hx hb dL_law_40 (by decide) (by decide) rfl (by decide) ?_
        exact lw_case_11 l hfl hL C0 hC n hn (by omega) (by omega) hI hl kk
      · refine lv_tableIn (tgt := 628) hx hb dL_law_40 (by decide) (by decide) rfl (by decide) ?_
        exact lw_case_12 l hfl hL C0 hC n hn (by omega) (by omega) hI hl kk
      · refine lv_tableIn (tgt := 690) hx hb dL_law_40 (by decide) (by decide) rfl (by decide) ?_
        exact lw_case_13 l hfl hL C0 hC n hn (by omega) (by omega) hI hl kk
      · refine lv_tableIn (tgt := 703) hx hb dL_law_40 (by decide) (by decide) rfl (by decide) ?_
        exact lw_case_14 l hfl hL C0 hC n hn (by omega) (by omega) hI hl kk
      · refine lv_tableOut (tgt := 834) hx hb dL_law_40 (Or.inr (by decide)) (by decide) ?_
        refine W.widen (k := 36 + n + 1) (n := 2550 + 6 * n + 6) (by omega) (by omega) ?_
        exact kk F A Q G B f H locs ls hI hl
