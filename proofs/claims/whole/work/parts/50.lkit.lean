def pt_ap (w1 w2 : va_W) : Prop := ∀ (i j : Nat) (p q : Nat × va_E), w1[i]? = some p → w2[j]? = some q → p.1 ≠ q.1
theorem pt_ap.same {w1 w2 w1' w2' : va_W} (h : pt_ap w1 w2) (e1 : w1'.map Prod.fst = w1.map Prod.fst) (e2 : w2'.map Prod.fst = w2.map Prod.fst) : pt_ap w1' w2' := by
  intro i j p q hp hq
  obtain ⟨p', hp', ep⟩ := pt_addr e1 hp
  obtain ⟨q', hq', eq⟩ := pt_addr e2 hq
  rw [← ep, ← eq]
  exact h i j p' q' hp' hq'
theorem pt_ap.symm {w1 w2 : va_W} (h : pt_ap w1 w2) : pt_ap w2 w1 := fun i j p q hp hq e => h j i q p hq hp e.symm
theorem pt_ap_of {A : Nat → Prop} {w1 w2 : va_W} (h : va_D A (w1 ++ w2)) : pt_ap w1 w2 := by
  intro i j p q hp hq e
  have h1 := (List.getElem?_eq_some_iff.mp hp).1
  have a1 : (w1 ++ w2)[i]? = some p := by rw [List.getElem?_append_left h1]; exact hp
  have a2 : (w1 ++ w2)[w1.length + j]? = some q := by rw [List.getElem?_append_right (Nat.le_add_right _ _), Nat.add_sub_cancel_left]; exact hq
  have := h.1 i (w1.length + j) p q a1 a2 e
  omega
theorem pt_keepA {D : va_G} {cl : List vw_C} {ws wr : va_W} {H H1 : Heap} (hP : va_P D cl wr H) (hap : pt_ap ws wr) (hk : ∀ q : Nat, q < H.size → ¬ va_A ws H.size q → H1[q]? = H[q]?) : va_P D cl wr H1 :=
  hP.kept (fun k q hq => hk q.1 (hP k q hq).lt (fun z => by
    rcases z with ⟨j, e, hj⟩ | z
    · exact hap j k (q.1, e) q hj hq rfl
    · exact absurd (hP k q hq).lt (Nat.not_lt.mpr z)))
section PTL
variable {p : Program} {l : Launch} {e : Env} {R : Room} {s : State} {m : MethodId} {args : Array Value} {below : List Frame} {meth : Method} {c : Code} {H : Heap} {locs : List Loc} {cells slots : Nat} {Q : State → Prop}
variable {pc : Nat} {ls : Array Slot} {rest st0 : List Value} {a : Array Value} {A0 : Nat → Prop} {H0 : Heap} {D : va_G} {cl : List vw_C} {ws wr1 wr2 : va_W}
theorem pt_callPi {S : Type} {post : Int32 → S → Prop} {wf : S → va_W} (hr : va_Run p l e R s m args below meth c H locs cells slots 0 0 (F0 m pc ls st0) rest (va_Qi post (fun u t => va_P D cl (wf u) t.heap) (va_A ws H.size) a) (va_A ws H.size)) (hD : va_D A0 ws) (hS : va_S A0 H0 H locs) (hA : ∀ q, H0.size ≤ q → A0 q) (he : ∀ u, (wf u).map Prod.fst = ws.map Prod.fst) (h1 : va_P D cl wr1 H) (a1 : pt_ap ws wr1) (h2 : va_P D cl wr2 H) (a2 : pt_ap ws wr2)
    (kk : ∀ (r : Int32) (u : S) (H1 : Heap) (locs1 : List Loc), post r u → va_P D cl (wf u) H1 → va_D A0 (wf u) → va_S A0 H0 H1 locs1 → va_P D cl wr1 H1 → va_P D cl wr2 H1 → W p l e R s m args below meth c H1 locs1 cells slots Q (F0 m (pc + 3) ls (.int r :: rest))) : W p l e R s m args below meth c H locs cells slots Q (F0 m pc ls st0) :=
  va_calli hr hS (fun q _ h => pt_free hD hS hA q h) (pt_free hD hS hA) (fun r u t H1 locs1 ht _ hp hB _ hk hS1 => kk r u H1 locs1 hp (by rw [← ht]; exact hB) (pt_Dsame hD (he u)) hS1 (pt_keepA h1 a1 hk) (pt_keepA h2 a2 hk))
theorem pt_callPl {S : Type} {post : Int64 → S → Prop} {wf : S → va_W} (hr : va_Run p l e R s m args below meth c H locs cells slots 0 0 (F0 m pc ls st0) rest (va_Ql post (fun u t => va_P D cl (wf u) t.heap) (va_A ws H.size) a) (va_A ws H.size)) (hD : va_D A0 ws) (hS : va_S A0 H0 H locs) (hA : ∀ q, H0.size ≤ q → A0 q) (he : ∀ u, (wf u).map Prod.fst = ws.map Prod.fst) (h1 : va_P D cl wr1 H) (a1 : pt_ap ws wr1) (h2 : va_P D cl wr2 H) (a2 : pt_ap ws wr2)
    (kk : ∀ (r : Int64) (u : S) (H1 : Heap) (locs1 : List Loc), post r u → va_P D cl (wf u) H1 → va_D A0 (wf u) → va_S A0 H0 H1 locs1 → va_P D cl wr1 H1 → va_P D cl wr2 H1 → W p l e R s m args below meth c H1 locs1 cells slots Q (F0 m (pc + 3) ls (.long r :: rest))) : W p l e R s m args below meth c H locs cells slots Q (F0 m pc ls st0) :=
  va_calll hr hS (fun q _ h => pt_free hD hS hA q h) (pt_free hD hS hA) (fun r u t H1 locs1 ht _ hp hB _ hk hS1 => kk r u H1 locs1 hp (by rw [← ht]; exact hB) (pt_Dsame hD (he u)) hS1 (pt_keepA h1 a1 hk) (pt_keepA h2 a2 hk))
theorem pt_sld {cc : ByteArray} (hexec : p.tables.exec = Jvm.exec) (hb : c.code = cc) {b L : Nat} {xs : Nat → Int32} (hX : va_X b L xs s H0) (hbl : b < H0.size) (hbA : ¬ A0 b) (hS : va_S A0 H0 H locs) {k : Nat} (hk : k < L) (hL : L < 2 ^ 31) (hdg : decode cc pc = .ok (.iaload, 1))
    (kk : W p l e R s m args below meth c H locs cells slots Q (F0 m (pc + 1) ls (.int (xs k) :: rest))) : W p l e R s m args below meth c H locs cells slots Q (F0 m pc ls (.int (nI k) :: .ref b :: rest)) := by
  refine va_sld hexec hb hX hbl hbA hS (vp_in_nI hk hL) hdg ?_
  rw [nI_clamp (by omega)]
  exact kk
end PTL
theorem pt_lim {L n : Nat} (hL : L ≤ 4096) (hn : n ≤ 512) : (Int32.ofNat L - nI 8 < nI (8 * n)) ↔ L < 8 * n + 8 := by
  rw [Int32.lt_iff_toInt_lt, Int32.toInt_sub, show (Int32.ofNat L).toInt = (L : Int) from nI_toInt (n := L) (by omega), nI_toInt (n := 8) (by omega), nI_toInt (n := 8 * n) (by omega)]
  have h : ((L : Int) - ((8 : Nat) : Int)).bmod (2 ^ 32) = (L : Int) - 8 := by
    rw [Int.bmod_def]
    split <;> omega
  rw [h]
  omega
theorem pt_and15 (x : Int32) : ∃ j, j < 16 ∧ x &&& nI 15 = nI j := by
  refine ⟨(x.toBitVec &&& 15#32).toNat, ?_, ?_⟩
  · rw [BitVec.toNat_and]
    exact Nat.lt_of_le_of_lt Nat.and_le_right (by decide)
  · apply Int32.toBitVec_inj.mp
    rw [Int32.toBitVec_and]
    show x.toBitVec &&& 15#32 = BitVec.ofNat 32 (x.toBitVec &&& 15#32).toNat
    rw [BitVec.ofNat_toNat, BitVec.setWidth_eq]
theorem pt_cnt_pos {q : Nat → Prop} {t n : Nat} (h : q t) (ht : t < n) : 1 ≤ pt_cnt q n := by
  have := pt_cnt_mono (p := q) (m := t + 1) n ht
  rw [pt_cnt_t h] at this
  omega
/-! day, side by side -/
theorem rl_day {ax md N lz : Nat} {ts : pt_TS} {fd : Nat → Prop} {fc op se ft : Nat} {F : Nat → Int32} {A : Nat → Nat → Int32} {G : Nat → Int32} {B : Nat → Nat → Int32} (h : pt_Re ax md N lz ts fd fc op se ft F A G B) {t z r' : Int64} {k : Int32} {f o1 : Nat → Int64} {u' : pt_MS} (hX : (¬ z = 0 ∧ k = nI 0 ∧ o1 = vp_updL f 0 (pt_dX t z)) ∨ (z = 0 ∧ k = nI 1 ∧ o1 = f))
    (hM : (z = 0 ∧ r' = 0 ∧ u' = (upd G 0 (nI 1), B)) ∨ (z < 0 ∧ r' = -9223372036854775808 ∧ u' = (upd G 0 (nI 0), B)) ∨ (0 < z ∧ (((t - t / z * z) < 0 ∧ r' = t / z - 1) ∨ (¬ (t - t / z * z) < 0 ∧ r' = t / z)) ∧ u' = (upd G 0 (nI 0), B))) : u'.1 0 = k ∧ (k = 0 → o1 0 = r') ∧ pt_Rel F A u'.1 u'.2 := by
  have hr : ∀ v : Int32, pt_Rel F A (upd G 0 v) B := fun v => (h.g (fun j j0 _ => pt_upd_ne j0) (fun _ _ _ _ _ _ _ => rfl)).rel
  have hu : ∀ v : Int64, vp_updL f 0 v 0 = v := fun v => by simp [vp_updL]
  rcases hX with ⟨x1, x2, x3⟩ | ⟨x1, x2, x3⟩
  · rcases hM with ⟨m1, _⟩ | ⟨m1, m2, m3⟩ | ⟨m1, m2, m3⟩
    · exact absurd m1 x1
    · subst m3
      refine ⟨by rw [x2]; show upd G 0 (nI 0) 0 = nI 0; exact pt_upd, fun _ => ?_, hr _⟩
      rw [x3, hu, m2]
      unfold pt_dX
      rw [pt_if_t m1]
    · subst m3
      refine ⟨by rw [x2]; show upd G 0 (nI 0) 0 = nI 0; exact pt_upd, fun _ => ?_, hr _⟩
      rw [x3, hu]
      unfold pt_dX
      rw [pt_if_f (Int64.not_lt.mpr (Int64.le_of_lt m1))]
      rcases m2 with ⟨n1, n2⟩ | ⟨n1, n2⟩
      · rw [pt_if_t ((pt_fl m1).mpr n1)]; exact n2.symm
      · rw [pt_if_f (fun q => n1 ((pt_fl m1).mp q))]; exact n2.symm
  · rcases hM with ⟨m1, m2, m3⟩ | ⟨m1, _⟩ | ⟨m1, _⟩
    · subst m3
      refine ⟨by rw [x2]; show upd G 0 (nI 1) 0 = nI 1; exact pt_upd, fun q => ?_, hr _⟩
      rw [x2] at q
      exact absurd q (by decide)
    · rw [x1] at m1; exact absurd m1 (by decide)
    · rw [x1] at m1; exact absurd m1 (by decide)
