/-- the class's cells F, A and the reference's G, B stand for one state -/
def pt_Re (ax md N lz : Nat) (ts : pt_TS) (fd : Nat → Prop) (fc op se ft : Nat) (F : Nat → Int32) (A : Nat → Nat → Int32) (G : Nat → Int32) (B : Nat → Nat → Int32) : Prop :=
  (1 ≤ ax ∧ ax ≤ 3 ∧ md ≤ 64 ∧ lz ≤ md ∧ fc ≤ 4096) ∧ (F 0 = nI ax ∧ F 1 = nI md ∧ F 2 = nI (pt_cnt (fun t => ¬ A 3 t = 0) md) ∧ F 6 = nI lz) ∧ (G 1 = nI ax ∧ G 2 = nI md) ∧ (∀ t, t < md → A 3 t = B 3 t ∧ (B 3 t = 0 ∨ B 3 t = 1)) ∧ pt_XB ax md (fun v x => B 4 (3 * v + x)) (fun v x => B 5 (3 * v + x)) (A 4) ∧ (∀ v x, v < md → x < ax → pt_bd (B 4 (3 * v + x)) (B 5 (3 * v + x))) ∧ (pt_GT N ts ∧ pt_XT ax N md ts F A ∧ pt_MT ax N md ts G B ∧ ∀ t, t < md → ¬ A 3 t = 0 → (B 6 t = 0 ↔ lz ≤ t)) ∧ (pt_ask fd fc F A ∧ pt_aM fd fc G B ∧ (A 16 0 = nI op ∧ A 16 1 = nI se ∧ A 16 2 = nI ft) ∧ G 24 = nI op ∧ G 25 = nI se ∧ G 26 = nI ft)
def pt_Rel (F : Nat → Int32) (A : Nat → Nat → Int32) (G : Nat → Int32) (B : Nat → Nat → Int32) : Prop := ∃ (ax md N lz : Nat) (ts : pt_TS) (fd : Nat → Prop) (fc op se ft : Nat), pt_Re ax md N lz ts fd fc op se ft F A G B
section PTREL
variable {ax md N lz : Nat} {ts : pt_TS} {fd : Nat → Prop} {fc op se ft : Nat} {F : Nat → Int32} {A : Nat → Nat → Int32} {Q : Nat → Int64} {G : Nat → Int32} {B : Nat → Nat → Int32}
theorem pt_Re.rel (h : pt_Re ax md N lz ts fd fc op se ft F A G B) : pt_Rel F A G B := ⟨_, _, _, _, _, _, _, _, _, _, h⟩
/-- what the reference's own numbers but these change doesn't matter -/
theorem pt_Re.g (h : pt_Re ax md N lz ts fd fc op se ft F A G B) {G' : Nat → Int32} {B' : Nat → Nat → Int32} (hG : ∀ j, j ≠ 0 → j ≠ 15 → G' j = G j) (hB : ∀ j, j ≠ 16 → j ≠ 17 → j ≠ 18 → j ≠ 19 → j ≠ 20 → j ≠ 21 → B' j = B j) : pt_Re ax md N lz ts fd fc op se ft F A G' B' := by
  obtain ⟨h1, h2, ⟨h3, h4⟩, h5, h6, h7, ⟨h8, h9, ⟨h10, h11, h12⟩, h13⟩, h14, ⟨h15, h16⟩, h17, h18, h19, h20⟩ := h
  unfold pt_Re pt_MT pt_aM
  rw [hG 1 (by decide) (by decide), hG 2 (by decide) (by decide), hG 8 (by decide) (by decide), hG 23 (by decide) (by decide), hG 24 (by decide) (by decide), hG 25 (by decide) (by decide), hG 26 (by decide) (by decide)]
  have b3 := hB 3 (by decide) (by decide) (by decide) (by decide) (by decide) (by decide)
  have b4 := hB 4 (by decide) (by decide) (by decide) (by decide) (by decide) (by decide)
  have b5 := hB 5 (by decide) (by decide) (by decide) (by decide) (by decide) (by decide)
  have b6 := hB 6 (by decide) (by decide) (by decide) (by decide) (by decide) (by decide)
  have b7 := hB 7 (by decide) (by decide) (by decide) (by decide) (by decide) (by decide)
  have b9 := hB 9 (by decide) (by decide) (by decide) (by decide) (by decide) (by decide)
  have b10 := hB 10 (by decide) (by decide) (by decide) (by decide) (by decide) (by decide)
  have b11 := hB 11 (by decide) (by decide) (by decide) (by decide) (by decide) (by decide)
  have b12 := hB 12 (by decide) (by decide) (by decide) (by decide) (by decide) (by decide)
  have b13 := hB 13 (by decide) (by decide) (by decide) (by decide) (by decide) (by decide)
  have b14 := hB 14 (by decide) (by decide) (by decide) (by decide) (by decide) (by decide)
  have b22 := hB 22 (by decide) (by decide) (by decide) (by decide) (by decide) (by decide)
  rw [b3, b4, b5, b6, b7, b9, b10, b11, b12, b13, b14, b22]
  exact ⟨h1, h2, ⟨h3, h4⟩, h5, h6, h7, ⟨h8, h9, ⟨h10, h11, h12⟩, h13⟩, h14, ⟨h15, h16⟩, h17, h18, h19, h20⟩
theorem pt_Re.g0 (h : pt_Re ax md N lz ts fd fc op se ft F A G B) : pt_Re ax md N lz ts fd fc op se ft F A (upd G 0 (nI 0)) B := h.g (fun j h0 _ => pt_upd_ne h0) (fun _ _ _ _ _ _ _ => rfl)
theorem pt_Re.th (h : pt_Re ax md N lz ts fd fc op se ft F A G B) : ∀ t, t < md → ((¬ A 3 t = 0) ↔ (¬ B 3 t = 0)) := fun t ht => by rw [(h.2.2.2.1 t ht).1]
theorem pt_Re.inth (h : pt_Re ax md N lz ts fd fc op se ft F A G B) {k : Int32} : pt_in md (fun t => ¬ A 3 t = 0) k ↔ pt_in md (fun t => ¬ B 3 t = 0) k := ⟨fun ⟨t, a, b, c⟩ => ⟨t, a, b, (h.th t a).mp c⟩, fun ⟨t, a, b, c⟩ => ⟨t, a, b, (h.th t a).mpr c⟩⟩
theorem pt_in_u {n : Nat} {t v : Nat} (ht : t < n) (hv : v < n) (hn : n < 2 ^ 31) (e : nI t = nI v) : t = v := (nI_eq (by omega) (by omega)).mp e
/-! dimensions -/
theorem rl_dim (h : pt_Re ax md N lz ts fd fc op se ft F A G B) {d r r' : Int32} {u : pt_XS} {u' : pt_MS} (hX : ((∀ k, 1 ≤ k → k ≤ 3 → ¬ d = nI k) ∧ r = -2 ∧ u = (F, A, Q)) ∨ ∃ k, 1 ≤ k ∧ k ≤ 3 ∧ d = nI k ∧ r = F 0 ∧ u.1 0 = nI k ∧ u.1 1 = nI 0 ∧ u.1 2 = nI 0 ∧ u.1 5 = nI 0 ∧ u.1 6 = nI 0 ∧ pt_ask (fun _ => False) 0 u.1 u.2.1 ∧ (∀ x, x < 3 → u.2.1 16 x = nI 0))
    (hM : ((∀ k, 1 ≤ k → k ≤ 3 → ¬ d = nI k) ∧ r' = -2 ∧ u' = ((upd G 0 (nI 0)), B)) ∨ ∃ k, 1 ≤ k ∧ k ≤ 3 ∧ d = nI k ∧ r' = G 1 ∧ u'.1 0 = nI 0 ∧ u'.1 1 = nI k ∧ u'.1 2 = nI 0 ∧ u'.1 8 = nI 0 ∧ u'.1 23 = nI 0 ∧ u'.1 24 = nI 0 ∧ u'.1 25 = nI 0 ∧ u'.1 26 = nI 0 ∧ (∀ t, t < 64 → u'.2 22 t = 0)) : r = r' ∧ pt_Rel u.1 u.2.1 u'.1 u'.2 := by
  rcases hX with ⟨x1, x2, x3⟩ | ⟨k, k1, k3, ek, x4, x5, x6, x7, x8, x9, x10, x11⟩ <;> rcases hM with ⟨m1, m2, m3⟩ | ⟨k', k1', k3', ek', m4, m5, m6, m7, m8, m9, m10, m11, m12, m13⟩
  · subst x3 m3
    exact ⟨x2.trans m2.symm, h.g0.rel⟩
  · exact absurd ek' (x1 k' k1' k3')
  · exact absurd ek (m1 k k1 k3)
  · have e : k = k' := (nI_eq (by omega) (by omega)).mp (ek.symm.trans ek')
    subst e
    refine ⟨x4.trans (h.2.1.1.trans (h.2.2.1.1.symm.trans m4.symm)), k, 0, 0, 0, (0, fun _ => 0, fun _ _ => 0, fun _ _ _ => 0), fun _ => False, 0, 0, 0, 0, ⟨k1, k3, by omega, by omega, by omega⟩, ⟨x5, x6, x7, x9⟩, ⟨m6, m7⟩, fun t ht => absurd ht (Nat.not_lt_zero _), fun v x hv => absurd hv (Nat.not_lt_zero _), fun v x hv => absurd hv (Nat.not_lt_zero _), ⟨?_, ⟨x8, fun q hq => absurd hq (Nat.not_lt_zero _), fun q hq => absurd hq (Nat.not_lt_zero _)⟩, ⟨m8, fun q hq => absurd hq (Nat.not_lt_zero _), fun q hq => absurd hq (Nat.not_lt_zero _)⟩, fun t ht => absurd ht (Nat.not_lt_zero _)⟩, x10, ⟨m9, fun x hx => by rw [m13 x hx]; exact pt_B.zero (fun q => q)⟩, ⟨x11 0 (by decide), x11 1 (by decide), x11 2 (by decide)⟩, m10, m11, m12⟩
    exact ⟨by show 0 ≤ 31; omega, by omega, ⟨fun b hb => absurd hb (Nat.not_lt_zero _), fun b c _ hc => absurd hc (Nat.not_lt_zero _), fun b c _ hc => absurd hc (Nat.not_lt_zero _), fun b hb => absurd hb (Nat.not_lt_zero _), fun b hb => absurd hb (Nat.not_lt_zero _)⟩, fun b hb => absurd hb (Nat.not_lt_zero _)⟩
/-! count, drop -/
theorem rl_count (h : pt_Re ax md N lz ts fd fc op se ft F A G B) {r r' : Int32} {u' : pt_MS} (hX : r = F 2) (hM : r' = nI (pt_cnt (fun t => ¬ B 3 t = 0) md) ∧ u' = ((upd G 0 (nI 0)), B)) : r = r' ∧ pt_Rel F A u'.1 u'.2 := by
  rw [hM.2, hX, hM.1, h.2.1.2.2.1, pt_cnt_c md h.th]
  exact ⟨rfl, h.g0.rel⟩
theorem pt_cnt_drop {p : Nat → Prop} {q : Nat → Prop} {t : Nat} (hp : p t) (hq : ¬ q t) (ho : ∀ v, v ≠ t → (q v ↔ p v)) : ∀ n, t < n → pt_cnt q n + 1 = pt_cnt p n
  | 0, h => absurd h (Nat.not_lt_zero _)
  | n + 1, h => by
    show pt_cnt q n + pt_cb (q n) + 1 = pt_cnt p n + pt_cb (p n)
    by_cases e : t = n
    · subst e
      rw [pt_cb_t hp, pt_cb_f hq, pt_cnt_c t (fun v hv => ho v (by omega))]
    · have := pt_cnt_drop hp hq ho n (by omega)
      rw [pt_cb_c (ho n (fun z => e z.symm))]
      omega
theorem rl_drop (h : pt_Re ax md N lz ts fd fc op se ft F A G B) {k r r' : Int32} {u : pt_XS} {u' : pt_MS} (hX : (¬ pt_in md (fun t => ¬ A 3 t = 0) k ∧ r = -1 ∧ u = (F, A, Q)) ∨ ∃ t, t < md ∧ k = nI t ∧ ¬ A 3 t = 0 ∧ r = nI (pt_cnt (fun t => ¬ A 3 t = 0) md - 1) ∧ u = (upd F 2 (nI (pt_cnt (fun t => ¬ A 3 t = 0) md - 1)), va_up A 3 (upd (A 3) t 0), Q))
    (hM : (¬ pt_in md (fun t => ¬ B 3 t = 0) k ∧ r' = -1 ∧ u' = ((upd G 0 (nI 0)), B)) ∨ ∃ t, t < md ∧ k = nI t ∧ ¬ B 3 t = 0 ∧ r' = nI (pt_cnt (fun v => ¬ upd (B 3) t 0 v = 0) md) ∧ u' = ((upd G 0 (nI 0)), va_up B 3 (upd (B 3) t 0))) : r = r' ∧ pt_Rel u.1 u.2.1 u'.1 u'.2 := by
  have hmd := h.1.2.2.1
  rcases hX with ⟨x1, x2, x3⟩ | ⟨t, t1, t2, t3, x4, x5⟩ <;> rcases hM with ⟨m1, m2, m3⟩ | ⟨t', t1', t2', t3', m4, m5⟩
  · subst x3 m3
    exact ⟨x2.trans m2.symm, h.g0.rel⟩
  · exact absurd (h.inth.mpr ⟨t', t1', t2', t3'⟩) x1
  · exact absurd (h.inth.mp ⟨t, t1, t2, t3⟩) m1
  · have e : t = t' := pt_in_u t1 t1' (by omega) (t2.symm.trans t2')
    subst e
    have hc : pt_cnt (fun v => ¬ upd (A 3) t 0 v = 0) md + 1 = pt_cnt (fun t => ¬ A 3 t = 0) md := pt_cnt_drop (p := (fun t => ¬ A 3 t = 0)) t3 (fun q => q pt_upd) (fun v hv => by rw [pt_upd_ne hv]) md t1
    have hc2 : pt_cnt (fun v => ¬ upd (B 3) t 0 v = 0) md = pt_cnt (fun v => ¬ upd (A 3) t 0 v = 0) md := pt_cnt_c md (fun v hv => by
      by_cases q : v = t
      · subst q; rw [pt_upd, pt_upd]
      · rw [pt_upd_ne q, pt_upd_ne q]; exact (h.th v hv).symm)
    subst x5 m5
    refine ⟨by rw [x4, m4, hc2, ← hc]; rfl, ?_⟩
    show pt_Rel (upd F 2 (nI (pt_cnt (fun t => ¬ A 3 t = 0) md - 1))) (va_up A 3 (upd (A 3) t 0)) (upd G 0 (nI 0)) (va_up B 3 (upd (B 3) t 0))
    have hg := h.g0
    generalize (upd G 0 (nI 0)) = G1 at hg ⊢
    obtain ⟨h1, ⟨h2a, h2b, h2c, h2d⟩, h3, h5, h6, h7, ⟨h8, ⟨h9a, h9b, h9c⟩, h10, h13⟩, ⟨h14a, h14b, h14c⟩, h15, ⟨h17a, h17b, h17c⟩, h18⟩ := hg
    have a3 : ∀ j, j ≠ 3 → va_up A 3 (upd (A 3) t 0) j = A j := fun j hj => pt_up_ne hj
    have a33 : va_up A 3 (upd (A 3) t 0) 3 = upd (A 3) t 0 := pt_up
    have f2 : ∀ j, j ≠ 2 → upd F 2 (nI (pt_cnt (fun t => ¬ A 3 t = 0) md - 1)) j = F j := fun j hj => pt_upd_ne hj
    have f22 : upd F 2 (nI (pt_cnt (fun t => ¬ A 3 t = 0) md - 1)) 2 = nI (pt_cnt (fun t => ¬ A 3 t = 0) md - 1) := pt_upd
    have b3 : ∀ j, j ≠ 3 → va_up B 3 (upd (B 3) t 0) j = B j := fun j hj => pt_up_ne hj
    have b33 : va_up B 3 (upd (B 3) t 0) 3 = upd (B 3) t 0 := pt_up
    generalize upd F 2 (nI (pt_cnt (fun t => ¬ A 3 t = 0) md - 1)) = F1 at f2 f22 ⊢
    generalize va_up A 3 (upd (A 3) t 0) = A1 at a3 a33 ⊢
    generalize va_up B 3 (upd (B 3) t 0) = B1 at b3 b33 ⊢
    refine ⟨ax, md, N, lz, ts, fd, fc, op, se, ft, h1, ⟨by rw [f2 0 (by decide)]; exact h2a, by rw [f2 1 (by decide)]; exact h2b, by rw [f22, a33, ← hc]; rfl, by rw [f2 6 (by decide)]; exact h2d⟩, h3, fun v hv => ?_, by rw [a3 4 (by decide), b3 4 (by decide), b3 5 (by decide)]; exact h6, by rw [b3 4 (by decide), b3 5 (by decide)]; exact h7, ⟨h8, ?_, ?_, fun v hv hv2 => ?_⟩, ?_, ?_, by rw [a3 16 (by decide)]; exact ⟨h17a, h17b, h17c⟩, h18⟩
    · rw [a33, b33]
      by_cases q : v = t
      · subst q; rw [pt_upd, pt_upd]; exact ⟨rfl, Or.inl rfl⟩
      · rw [pt_upd_ne q, pt_upd_ne q]; exact h5 v hv
    · unfold pt_XT; rw [f2 5 (by decide), a3 7 (by decide), a3 8 (by decide), a3 9 (by decide), a3 10 (by decide), a3 11 (by decide), a3 12 (by decide)]; exact ⟨h9a, h9b, h9c⟩
    · unfold pt_MT; rw [b3 7 (by decide), b3 9 (by decide), b3 10 (by decide), b3 11 (by decide), b3 12 (by decide), b3 13 (by decide), b3 14 (by decide)]; exact h10
    · rw [a33] at hv2
      have hv4 : ¬ A 3 v = 0 := by
        by_cases q : v = t
        · subst q; exact absurd pt_upd hv2
        · rw [pt_upd_ne q] at hv2; exact hv2
      rw [b3 6 (by decide)]; exact h13 v hv hv4
    · unfold pt_ask; rw [f2 15 (by decide), a3 14 (by decide)]; exact ⟨h14a, h14b, h14c⟩
    · unfold pt_aM; rw [b3 22 (by decide)]; exact h15
/-! thing -/
theorem pt_pt6_v {f : Nat → Int32} {v x : Nat} {x0 x1 y0 y1 z0 z1 : Int32} (hx : x < 3) : pt_pt6 f v x0 x1 y0 y1 z0 z1 (v * 6 + x * 2 + 0) = pt_3 x0 y0 z0 x ∧ pt_pt6 f v x0 x1 y0 y1 z0 z1 (v * 6 + x * 2 + 1) = pt_3 x1 y1 z1 x := by
  unfold pt_pt6
  rcases (show x = 0 ∨ x = 1 ∨ x = 2 by omega) with rfl | rfl | rfl
  · rw [pt_upd_ne (by omega), pt_upd_ne (by omega), pt_upd_ne (by omega), pt_upd_ne (by omega), pt_upd_ne (by omega), pt_upd, pt_upd_ne (by omega), pt_upd_ne (by omega), pt_upd_ne (by omega), pt_upd_ne (by omega), pt_upd]; exact ⟨rfl, rfl⟩
  · rw [pt_upd_ne (by omega), pt_upd_ne (by omega), pt_upd_ne (by omega), pt_upd, pt_upd_ne (by omega), pt_upd_ne (by omega), pt_upd]; exact ⟨rfl, rfl⟩
  · rw [pt_upd_ne (by omega), pt_upd, pt_upd]; exact ⟨rfl, rfl⟩
theorem pt_pt6_o {f : Nat → Int32} {v k : Nat} {x0 x1 y0 y1 z0 z1 : Int32} (hk : k < v * 6 ∨ v * 6 + 6 ≤ k) : pt_pt6 f v x0 x1 y0 y1 z0 z1 k = f k := by
  unfold pt_pt6
  rw [pt_upd_ne (by omega), pt_upd_ne (by omega), pt_upd_ne (by omega), pt_upd_ne (by omega), pt_upd_ne (by omega), pt_upd_ne (by omega)]
theorem pt_box_bd {ax x : Nat} {x0 x1 y0 y1 z0 z1 : Int32} (h1 : 1 ≤ ax) (h3 : ax ≤ 3) (h : pt_box ax x0 x1 y0 y1 z0 z1) (hx : x < ax) : pt_bd (pt_3 x0 y0 z0 x) (pt_3 x1 y1 z1 x) := by
  have := (pt_box_all h1 h3).mpr h x hx
  exact ⟨this.1, this.2.2, this.2.1⟩
theorem rl_thing (h : pt_Re ax md N lz ts fd fc op se ft F A G B) {x0 x1 y0 y1 z0 z1 r r' : Int32} {u : pt_XS} {u' : pt_MS} (hX : (¬ pt_box ax x0 x1 y0 y1 z0 z1 ∧ r = -2 ∧ u = (F, A, Q)) ∨ (pt_box ax x0 x1 y0 y1 z0 z1 ∧ md = 64 ∧ r = -4 ∧ u = (F, A, Q)) ∨ (pt_box ax x0 x1 y0 y1 z0 z1 ∧ md < 64 ∧ r = nI md ∧ u.1 1 = nI (md + 1) ∧ u.1 2 = nI (pt_cnt (fun t => ¬ A 3 t = 0) md + 1) ∧ (∀ j, j ≠ 1 → j ≠ 2 → u.1 j = F j) ∧ u.2.1 3 = upd (A 3) md 1 ∧ u.2.1 4 = pt_pt6 (A 4) md x0 x1 y0 y1 z0 z1 ∧ (∀ j, j ≠ 3 → j ≠ 4 → u.2.1 j = A j) ∧ u.2.2 = Q))
    (hM : ((¬ pt_box ax x0 x1 y0 y1 z0 z1 ∧ r' = -2) ∨ (pt_box ax x0 x1 y0 y1 z0 z1 ∧ md = 64 ∧ r' = -4)) ∧ u'.1 = (upd G 0 (nI 0)) ∧ (∀ j, j ≠ 20 → j ≠ 21 → u'.2 j = B j) ∨ (pt_box ax x0 x1 y0 y1 z0 z1 ∧ md < 64 ∧ r' = nI md ∧ u'.1 0 = nI 0 ∧ u'.1 2 = nI (md + 1) ∧ (∀ j, j ≠ 0 → j ≠ 2 → u'.1 j = G j) ∧ u'.2 3 = upd (B 3) md 1 ∧ u'.2 6 = upd (B 6) md 0 ∧ (∀ x, x < ax → u'.2 4 (3 * md + x) = pt_3 x0 y0 z0 x ∧ u'.2 5 (3 * md + x) = pt_3 x1 y1 z1 x) ∧ (∀ k, k < 3 * md → u'.2 4 k = B 4 k ∧ u'.2 5 k = B 5 k) ∧ ∀ j, j ≠ 3 → j ≠ 4 → j ≠ 5 → j ≠ 6 → j ≠ 20 → j ≠ 21 → u'.2 j = B j)) : r = r' ∧ pt_Rel u.1 u.2.1 u'.1 u'.2 := by
  obtain ⟨F1, A1, Q1⟩ := u
  obtain ⟨G1, B1⟩ := u'
  dsimp only at hX hM ⊢
  rcases hM with ⟨hr, hg, hb⟩ | ⟨m1, m2, m3, m4, m5, m6, m7, m8, m9, m10, m11⟩
  · have hs : r = r' ∧ F1 = F ∧ A1 = A := by
      rcases hX with ⟨x1, x2, x3⟩ | ⟨x1, x2, x3, x4⟩ | ⟨x1, x2, _⟩ <;> rcases hr with ⟨y1, y2⟩ | ⟨y1, y2, y3⟩
      · cases x3; exact ⟨x2.trans y2.symm, rfl, rfl⟩
      · exact absurd y1 x1
      · exact absurd x1 y1
      · cases x4; exact ⟨x3.trans y3.symm, rfl, rfl⟩
      · exact absurd x1 y1
      · omega
    rw [hs.2.1, hs.2.2]
    exact ⟨hs.1, (h.g (fun j h0 _ => by rw [hg]; exact pt_upd_ne h0) (fun j _ _ _ _ h20 h21 => hb j h20 h21)).rel⟩
  · rcases hX with ⟨x1, _⟩ | ⟨_, x2, _⟩ | ⟨x1, x2, x3, x4, x5, x6, x7, x8, x9, _⟩
    · exact absurd m1 x1
    · omega
    · refine ⟨x3.trans m3.symm, ?_⟩
      obtain ⟨⟨q1, q2, q3, q4, q5⟩, ⟨h2a, h2b, h2c, h2d⟩, ⟨h3a, h3b⟩, h5, h6, h7, ⟨h8, ⟨h9a, h9b, h9c⟩, ⟨h10a, h10b, h10c⟩, h13⟩, ⟨h14a, h14b, h14c⟩, ⟨h15a, h15b⟩, ⟨h17a, h17b, h17c⟩, h18a, h18b, h18c⟩ := h
      have d3 := m11
      refine ⟨ax, md + 1, N, lz, ts, fd, fc, op, se, ft, ⟨q1, q2, by omega, by omega, q5⟩, ⟨by rw [x6 0 (by decide) (by decide)]; exact h2a, x4, ?_, by rw [x6 6 (by decide) (by decide)]; exact h2d⟩, ⟨by rw [m6 1 (by decide) (by decide)]; exact h3a, m5⟩, fun t ht => ?_, fun v x hv hx => ?_, fun v x hv hx => ?_, ⟨h8, ?_, ?_, fun t ht ht2 => ?_⟩, ?_, ?_, by rw [x9 16 (by decide) (by decide)]; exact ⟨h17a, h17b, h17c⟩, by rw [m6 24 (by decide) (by decide)]; exact h18a, by rw [m6 25 (by decide) (by decide)]; exact h18b, by rw [m6 26 (by decide) (by decide)]; exact h18c⟩
      · rw [x5, x7, pt_cnt_t (p := fun t => ¬ upd (A 3) md 1 t = 0) (n := md) (by rw [pt_upd]; decide), pt_cnt_c (p := fun t => ¬ upd (A 3) md 1 t = 0) (q := fun t => ¬ A 3 t = 0) md (fun t ht => by rw [pt_upd_ne (by omega)])]
      · rw [x7, m7]
        by_cases q : t = md
        · subst q; rw [pt_upd, pt_upd]; exact ⟨rfl, Or.inr rfl⟩
        · rw [pt_upd_ne q, pt_upd_ne q]; exact h5 t (by omega)
      · show A1 4 _ = B1 4 _ ∧ A1 4 _ = B1 5 _
        rw [x8]
        by_cases q : v = md
        · subst q; rw [(m9 x hx).1, (m9 x hx).2]; exact pt_pt6_v (by omega)
        · rw [pt_pt6_o (by omega), pt_pt6_o (by omega), (m10 (3 * v + x) (by omega)).1, (m10 (3 * v + x) (by omega)).2]; exact h6 v x (by omega) hx
      · by_cases q : v = md
        · subst q; rw [(m9 x hx).1, (m9 x hx).2]; exact pt_box_bd q1 q2 m1 hx
        · rw [(m10 (3 * v + x) (by omega)).1, (m10 (3 * v + x) (by omega)).2]; exact h7 v x (by omega) hx
      · unfold pt_XT; rw [x6 5 (by decide) (by decide), x9 7 (by decide) (by decide), x9 8 (by decide) (by decide), x9 9 (by decide) (by decide), x9 10 (by decide) (by decide), x9 11 (by decide) (by decide), x9 12 (by decide) (by decide)]; exact ⟨h9a, fun k hk => ⟨(h9b k hk).1, by have := (h9b k hk).2; omega⟩, h9c⟩
      · unfold pt_MT; rw [m6 8 (by decide) (by decide), d3 7 (by decide) (by decide) (by decide) (by decide) (by decide) (by decide), d3 9 (by decide) (by decide) (by decide) (by decide) (by decide) (by decide), d3 10 (by decide) (by decide) (by decide) (by decide) (by decide) (by decide), d3 11 (by decide) (by decide) (by decide) (by decide) (by decide) (by decide), d3 12 (by decide) (by decide) (by decide) (by decide) (by decide) (by decide), d3 13 (by decide) (by decide) (by decide) (by decide) (by decide) (by decide), d3 14 (by decide) (by decide) (by decide) (by decide) (by decide) (by decide)]; exact ⟨h10a, fun k hk => ⟨(h10b k hk).1, by have := (h10b k hk).2; omega⟩, h10c⟩
      · rw [m8]
        by_cases q : t = md
        · subst q; rw [pt_upd]; exact ⟨fun _ => q4, fun _ => rfl⟩
        · rw [pt_upd_ne q]
          rw [x7, pt_upd_ne q] at ht2
          exact h13 t (by omega) ht2
      · unfold pt_ask; rw [x6 15 (by decide) (by decide), x9 14 (by decide) (by decide)]; exact ⟨h14a, h14b, h14c⟩
      · unfold pt_aM; rw [m6 23 (by decide) (by decide), d3 22 (by decide) (by decide) (by decide) (by decide) (by decide) (by decide)]; exact ⟨h15a, h15b⟩
end PTREL
