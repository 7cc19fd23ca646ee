section PTREL2
variable {ax md N lz : Nat} {ts : pt_TS} {fd : Nat → Prop} {fc op se ft : Nat} {F : Nat → Int32} {A : Nat → Nat → Int32} {Q : Nat → Int64} {G : Nat → Int32} {B : Nat → Nat → Int32}
theorem pt_Re.out (h : pt_Re ax md N lz ts fd fc op se ft F A G B) {u' : pt_MS} (e : u' = ((upd G 0 (nI 0)), B)) : pt_Rel F A u'.1 u'.2 := by rw [e]; exact h.g0.rel
theorem rl_end (h : pt_Re ax md N lz ts fd fc op se ft F A G B) {k x z : Int32} {r r' : Int64} {u' : pt_MS} (hX : (∃ t y d, t < md ∧ y < ax ∧ d < 2 ∧ k = nI t ∧ x = nI y ∧ z = nI d ∧ ¬ A 3 t = 0 ∧ r = (A 4 (t * 6 + y * 2 + d)).toInt64) ∨ (¬ (pt_in md (fun t => ¬ A 3 t = 0) k ∧ pt_in ax (fun _ => True) x ∧ pt_in 2 (fun _ => True) z) ∧ r = -9223372036854775808))
    (hM : ((∃ t y d, t < md ∧ y < ax ∧ d < 2 ∧ k = nI t ∧ x = nI y ∧ z = nI d ∧ ¬ B 3 t = 0 ∧ r' = (if d = 0 then B 4 (3 * t + y) else B 5 (3 * t + y)).toInt64) ∨ (¬ (pt_in md (fun t => ¬ B 3 t = 0) k ∧ pt_in ax (fun _ => True) x ∧ pt_in 2 (fun _ => True) z) ∧ r' = -9223372036854775808)) ∧ u' = ((upd G 0 (nI 0)), B)) : r = r' ∧ pt_Rel F A u'.1 u'.2 := by
  refine ⟨?_, h.out hM.2⟩
  have hmd := h.1.2.2.1
  have hax := h.1.2.1
  rcases hX with ⟨t, y, d, t1, y1, d1, et, ey, ed, hT, er⟩ | ⟨hn, er⟩ <;> rcases hM.1 with ⟨t', y', d', t1', y1', d1', et', ey', ed', hT', er'⟩ | ⟨hn', er'⟩
  · have a1 : t = t' := pt_in_u t1 t1' (by omega) (et.symm.trans et')
    have a2 : y = y' := pt_in_u y1 y1' (by omega) (ey.symm.trans ey')
    have a3 : d = d' := pt_in_u d1 d1' (by omega) (ed.symm.trans ed')
    subst a1 a2 a3
    have hb := h.2.2.2.2.1 t y t1 y1
    rw [er, er']
    rcases (show d = 0 ∨ d = 1 by omega) with q | q
    · subst q; rw [hb.1, if_pos rfl]
    · subst q; rw [hb.2, if_neg (by decide)]
  · exact absurd ⟨⟨t, t1, et, (h.th t t1).mp hT⟩, ⟨y, y1, ey, trivial⟩, ⟨d, d1, ed, trivial⟩⟩ hn'
  · exact absurd ⟨⟨t', t1', et', (h.th t' t1').mpr hT'⟩, ⟨y', y1', ey', trivial⟩, ⟨d', d1', ed', trivial⟩⟩ hn
  · rw [er, er']
theorem rl_bound (h : pt_Re ax md N lz ts fd fc op se ft F A G B) {k x z : Int32} {r r' : Int64} {u' : pt_MS} (hX : (∃ t y d, t < ts.1 ∧ y < ax ∧ d < 2 ∧ k = nI t ∧ x = nI y ∧ z = nI d ∧ True ∧ r = (A 12 (t * 6 + y * 2 + d)).toInt64) ∨ (¬ (pt_in ts.1 (fun t => True) k ∧ pt_in ax (fun _ => True) x ∧ pt_in 2 (fun _ => True) z) ∧ r = -9223372036854775808))
    (hM : ((∃ t y d, t < ts.1 ∧ y < ax ∧ d < 2 ∧ k = nI t ∧ x = nI y ∧ z = nI d ∧ True ∧ r' = (if d = 0 then B 13 (3 * t + y) else B 14 (3 * t + y)).toInt64) ∨ (¬ (pt_in ts.1 (fun t => True) k ∧ pt_in ax (fun _ => True) x ∧ pt_in 2 (fun _ => True) z) ∧ r' = -9223372036854775808)) ∧ u' = ((upd G 0 (nI 0)), B)) : r = r' ∧ pt_Rel F A u'.1 u'.2 := by
  refine ⟨?_, h.out hM.2⟩
  have hax := h.1.2.1
  have hnb := h.2.2.2.2.2.2.1.1.1
  rcases hX with ⟨t, y, d, t1, y1, d1, et, ey, ed, hT, er⟩ | ⟨hn, er⟩ <;> rcases hM.1 with ⟨t', y', d', t1', y1', d1', et', ey', ed', hT', er'⟩ | ⟨hn', er'⟩
  · have a1 : t = t' := pt_in_u t1 t1' (by omega) (et.symm.trans et')
    have a2 : y = y' := pt_in_u y1 y1' (by omega) (ey.symm.trans ey')
    have a3 : d = d' := pt_in_u d1 d1' (by omega) (ed.symm.trans ed')
    subst a1 a2 a3
    have hb := (h.2.2.2.2.2.2.1.2.1.2.2 t t1).2.2.2.2 y y1
    have hm := (h.2.2.2.2.2.2.1.2.2.1.2.2 t t1).2.2.2.2 y y1
    rw [er, er']
    rcases (show d = 0 ∨ d = 1 by omega) with q | q
    · subst q; rw [hb.1, hm.1, if_pos rfl]
    · subst q; rw [hb.2, hm.2, if_neg (by decide)]
  · exact absurd ⟨⟨t, t1, et, trivial⟩, ⟨y, y1, ey, trivial⟩, ⟨d, d1, ed, trivial⟩⟩ hn'
  · exact absurd ⟨⟨t', t1', et', trivial⟩, ⟨y', y1', ey', trivial⟩, ⟨d', d1', ed', trivial⟩⟩ hn
  · rw [er, er']
theorem rl_block (h : pt_Re ax md N lz ts fd fc op se ft F A G B) {k x r r' : Int32} {u' : pt_MS} (hX : (¬ pt_in ts.1 (fun _ => True) k ∧ r = -1) ∨ ∃ b, b < ts.1 ∧ k = nI b ∧ ((x = nI 0 ∧ pt_B r (¬ A 10 b = 0)) ∨ (x = nI 1 ∧ r = A 9 b - A 8 b) ∨ (x = nI 2 ∧ r = A 10 b) ∨ (x = nI 3 ∧ r = A 11 b) ∨ (¬ pt_in 4 (fun _ => True) x ∧ r = -2)))
    (hM : ((¬ pt_in ts.1 (fun _ => True) k ∧ r' = -1) ∨ ∃ b, b < ts.1 ∧ k = nI b ∧ ((x = nI 0 ∧ pt_B r' (4 < ts.2.2.1 1 b - ts.2.2.1 0 b)) ∨ (x = nI 1 ∧ r' = nI (ts.2.2.1 1 b - ts.2.2.1 0 b)) ∨ (x = nI 2 ∧ r' = B 11 b) ∨ (x = nI 3 ∧ r' = B 12 b) ∨ (¬ pt_in 4 (fun _ => True) x ∧ r' = -2))) ∧ u' = ((upd G 0 (nI 0)), B)) : r = r' ∧ pt_Rel F A u'.1 u'.2 := by
  refine ⟨?_, h.out hM.2⟩
  have hnb := h.2.2.2.2.2.2.1.1.1
  rcases hX with ⟨hn, er⟩ | ⟨b, b1, eb, hb⟩ <;> rcases hM.1 with ⟨hn', er'⟩ | ⟨b', b1', eb', hb'⟩
  · rw [er, er']
  · exact absurd ⟨b', b1', eb', trivial⟩ hn
  · exact absurd ⟨b, b1, eb, trivial⟩ hn'
  · have a1 : b = b' := pt_in_u b1 b1' (by omega) (eb.symm.trans eb')
    subst a1
    obtain ⟨g1, g2, g3, g4, g5⟩ := h.2.2.2.2.2.2.1.1.2.2.2 b b1
    obtain ⟨f8, f9, f10, f11, _⟩ := h.2.2.2.2.2.2.1.2.1.2.2 b b1
    obtain ⟨m9, m10, m11, m12, _⟩ := h.2.2.2.2.2.2.1.2.2.1.2.2 b b1
    have hno : ∀ j, j < 4 → x = nI j → ¬ pt_in 4 (fun _ => True) x → False := fun j hj e q => q ⟨j, hj, e, trivial⟩
    have hne : ∀ i j, i < 4 → j < 4 → i ≠ j → x = nI i → x = nI j → False := fun i j hi hj hij e1 e2 => hij (pt_in_u hi hj (by decide) (e1.symm.trans e2))
    rcases hb with ⟨x0, q⟩ | ⟨x0, q⟩ | ⟨x0, q⟩ | ⟨x0, q⟩ | ⟨x0, q⟩ <;> rcases hb' with ⟨y0, q'⟩ | ⟨y0, q'⟩ | ⟨y0, q'⟩ | ⟨y0, q'⟩ | ⟨y0, q'⟩ <;> first
      | (exact q.val q' ⟨fun z => by rw [f10] at z; have z2 : ¬ ts.2.2.1 2 b = 0 := fun y => z (by rw [y]; rfl); have z3 : ¬ ts.2.2.1 1 b - ts.2.2.1 0 b ≤ 4 := fun y => z2 (g3.mp y); omega, fun z => by rw [f10]; exact fun y => by have y2 : ts.2.2.1 2 b = 0 := (nI_eq (b := 0) (by omega) (by omega)).mp y; have := g3.mpr y2; omega⟩; done)
      | (rw [q, q', f9, f8, pk_sub (by omega)]; done)
      | (rw [q, q', f10, m11]; done)
      | (rw [q, q', f11, m12]; done)
      | (rw [q, q']; done)
      | exact (hno 0 (by decide) x0 y0).elim | exact (hno 1 (by decide) x0 y0).elim | exact (hno 2 (by decide) x0 y0).elim | exact (hno 3 (by decide) x0 y0).elim
      | exact (hno 0 (by decide) y0 x0).elim | exact (hno 1 (by decide) y0 x0).elim | exact (hno 2 (by decide) y0 x0).elim | exact (hno 3 (by decide) y0 x0).elim
      | exact (hne 0 1 (by decide) (by decide) (by decide) x0 y0).elim | exact (hne 0 2 (by decide) (by decide) (by decide) x0 y0).elim | exact (hne 0 3 (by decide) (by decide) (by decide) x0 y0).elim
      | exact (hne 1 0 (by decide) (by decide) (by decide) x0 y0).elim | exact (hne 1 2 (by decide) (by decide) (by decide) x0 y0).elim | exact (hne 1 3 (by decide) (by decide) (by decide) x0 y0).elim
      | exact (hne 2 0 (by decide) (by decide) (by decide) x0 y0).elim | exact (hne 2 1 (by decide) (by decide) (by decide) x0 y0).elim | exact (hne 2 3 (by decide) (by decide) (by decide) x0 y0).elim
      | exact (hne 3 0 (by decide) (by decide) (by decide) x0 y0).elim | exact (hne 3 1 (by decide) (by decide) (by decide) x0 y0).elim | exact (hne 3 2 (by decide) (by decide) (by decide) x0 y0).elim
theorem pt_kth_u {p q : Nat → Prop} {n : Nat} {k r r' : Int32} (e : ∀ t, t < n → (p t ↔ q t)) (h : pt_kth p n k r) (h' : pt_kth q n k r') : r = r' := by
  have ec : ∀ t, t ≤ n → pt_cnt p t = pt_cnt q t := fun t ht => pt_cnt_c t (fun i hi => e i (by omega))
  rcases h with ⟨j, t, ek, hj, ht, hp, hc, er⟩ | ⟨hn, er⟩ <;> rcases h' with ⟨j', t', ek', hj', ht', hp', hc', er'⟩ | ⟨hn', er'⟩
  · have a1 : j = j' := (nI_eq hj hj').mp (ek.symm.trans ek')
    subst a1
    have a2 : t = t' := by
      rcases Nat.lt_trichotomy t t' with q1 | q1 | q1
      · have := pt_cnt_mono (p := q) (m := t + 1) t' q1
        rw [pt_cnt_t ((e t ht).mp hp), ← ec t (by omega)] at this
        omega
      · exact q1
      · have := pt_cnt_mono (p := q) (m := t' + 1) t q1
        rw [pt_cnt_t hp', ← ec t (by omega)] at this
        omega
    rw [er, er', a2]
  · exact absurd (by rw [← ec t (by omega)]; exact hc) (hn' j t ek hj ht ((e t ht).mp hp))
  · exact absurd (by rw [ec t' (by omega)]; exact hc') (hn j' t' ek' hj' ht' ((e t' ht').mpr hp'))
  · rw [er, er']
theorem pt_fst_u {p q : Nat → Prop} {n : Nat} {r r' : Int32} (e : ∀ t, t < n → (p t ↔ q t)) (h : pt_fst p n r) (h' : pt_fst q n r') : r = r' := by
  rcases h with ⟨t, ht, hp, hm, er⟩ | ⟨hn, er⟩ <;> rcases h' with ⟨t', ht', hp', hm', er'⟩ | ⟨hn', er'⟩
  · have a2 : t = t' := by
      rcases Nat.lt_trichotomy t t' with q1 | q1 | q1
      · exact absurd ((e t ht).mp hp) (hm' t q1)
      · exact q1
      · exact absurd ((e t' ht').mpr hp') (hm t' q1)
    rw [er, er', a2]
  · exact absurd ((e t ht).mp hp) (hn' t ht)
  · exact absurd ((e t' ht').mpr hp') (hn t' ht')
  · rw [er, er']
theorem pt_B.iff {r : Int32} {P : Prop} (h : pt_B r P) : (¬ r = 0) ↔ P := ⟨h.t, fun q z => h.f z q⟩
theorem rl_found (h : pt_Re ax md N lz ts fd fc op se ft F A G B) {k r r' : Int32} {u' : pt_MS} (hX : pt_kth (fun t => ¬ A 14 t = 0) 64 k r) (hM : pt_kth (fun t => ¬ B 22 t = 0) 64 k r' ∧ u' = ((upd G 0 (nI 0)), B)) : r = r' ∧ pt_Rel F A u'.1 u'.2 :=
  ⟨pt_kth_u (fun t ht => (h.2.2.2.2.2.2.2.1.2.1 t ht).iff.trans (h.2.2.2.2.2.2.2.2.1.2 t ht).iff.symm) hX hM.1, h.out hM.2⟩
theorem rl_told (h : pt_Re ax md N lz ts fd fc op se ft F A G B) {k r r' : Int32} {u' : pt_MS} (hX : (∃ t, t < 3 ∧ k = nI t ∧ r = A 16 t) ∨ (¬ pt_in 3 (fun _ => True) k ∧ r = -2)) (hM : ((k = nI 0 ∧ r' = nI op) ∨ (k = nI 1 ∧ r' = nI se) ∨ (k = nI 2 ∧ r' = nI ft) ∨ (¬ pt_in 3 (fun _ => True) k ∧ r' = -2)) ∧ u' = ((upd G 0 (nI 0)), B)) : r = r' ∧ pt_Rel F A u'.1 u'.2 := by
  refine ⟨?_, h.out hM.2⟩
  obtain ⟨w0, w1, w2⟩ := h.2.2.2.2.2.2.2.2.2.1
  rcases hX with ⟨t, t1, et, er⟩ | ⟨hn, er⟩
  · have hx : ∀ j, j < 3 → k = nI j → t = j := fun j hj e => pt_in_u t1 hj (by decide) (et.symm.trans e)
    rcases hM.1 with ⟨q, q'⟩ | ⟨q, q'⟩ | ⟨q, q'⟩ | ⟨q, q'⟩
    · rw [er, q', hx 0 (by decide) q, w0]
    · rw [er, q', hx 1 (by decide) q, w1]
    · rw [er, q', hx 2 (by decide) q, w2]
    · exact absurd ⟨t, t1, et, trivial⟩ q
  · rcases hM.1 with ⟨q, q'⟩ | ⟨q, q'⟩ | ⟨q, q'⟩ | ⟨q, q'⟩
    · exact absurd ⟨0, by decide, q, trivial⟩ hn
    · exact absurd ⟨1, by decide, q, trivial⟩ hn
    · exact absurd ⟨2, by decide, q, trivial⟩ hn
    · rw [er, q']
/-! squares -/
theorem pt_sub64 {x y : Int32} : (x.toInt64 - y.toInt64).toInt = x.toInt - y.toInt := by
  rw [Int64.toInt_sub, Int32.toInt_toInt64, Int32.toInt_toInt64]
  have h1 := Int32.le_toInt x
  have h2 := Int32.toInt_lt x
  have h3 := Int32.le_toInt y
  have h4 := Int32.toInt_lt y
  rw [Int.bmod_def]
  split <;> omega
theorem pt_gap_off {lo hi p : Int32} (h : lo ≤ hi) : pt_gap lo hi p = pt_offm lo.toInt64 hi.toInt64 p.toInt64 := by
  have hl : lo.toInt ≤ hi.toInt := Int32.le_iff_toInt_le.mp h
  have e1 := pt_sub64 (x := p) (y := hi)
  have e2 := pt_sub64 (x := lo) (y := p)
  have z : (0 : Int64).toInt = 0 := by decide +kernel
  have c1 : (p.toInt64 - hi.toInt64 < lo.toInt64 - p.toInt64) ↔ p.toInt - hi.toInt < lo.toInt - p.toInt := by rw [Int64.lt_iff_toInt_lt, e1, e2]
  have c2 : (lo.toInt64 - p.toInt64 < 0) ↔ lo.toInt - p.toInt < 0 := by rw [Int64.lt_iff_toInt_lt, e2, z]
  have c3 : (p.toInt64 - hi.toInt64 < 0) ↔ p.toInt - hi.toInt < 0 := by rw [Int64.lt_iff_toInt_lt, e1, z]
  have c4 : (p.toInt64 < lo.toInt64) ↔ p.toInt < lo.toInt := by rw [Int64.lt_iff_toInt_lt, Int32.toInt_toInt64, Int32.toInt_toInt64]
  have c5 : (hi.toInt64 < p.toInt64) ↔ hi.toInt < p.toInt := by rw [Int64.lt_iff_toInt_lt, Int32.toInt_toInt64, Int32.toInt_toInt64]
  unfold pt_gap pt_offm
  rcases (show p.toInt < lo.toInt ∨ hi.toInt < p.toInt ∨ (lo.toInt ≤ p.toInt ∧ p.toInt ≤ hi.toInt) by omega) with q | q | q
  · rw [if_pos (c := p.toInt64 - hi.toInt64 < lo.toInt64 - p.toInt64) (c1.mpr (by omega)), if_neg (c := lo.toInt64 - p.toInt64 < 0) (fun w => by have := c2.mp w; omega), if_pos (c := p.toInt64 < lo.toInt64) (c4.mpr q)]
  · rw [if_neg (c := p.toInt64 - hi.toInt64 < lo.toInt64 - p.toInt64) (fun w => by have := c1.mp w; omega), if_neg (c := p.toInt64 - hi.toInt64 < 0) (fun w => by have := c3.mp w; omega), if_neg (c := p.toInt64 < lo.toInt64) (fun w => by have := c4.mp w; omega), if_pos (c := hi.toInt64 < p.toInt64) (c5.mpr q)]
  · rw [if_neg (c := p.toInt64 < lo.toInt64) (fun w => by have := c4.mp w; omega), if_neg (c := hi.toInt64 < p.toInt64) (fun w => by have := c5.mp w; omega)]
    by_cases w : p.toInt64 - hi.toInt64 < lo.toInt64 - p.toInt64
    · rw [if_pos w]
      by_cases w2 : lo.toInt64 - p.toInt64 < 0
      · rw [if_pos w2]
      · rw [if_neg w2]
        have : ¬ lo.toInt - p.toInt < 0 := fun y => w2 (c2.mpr y)
        exact Int64.toInt_inj.mp (by rw [e2, z]; omega)
    · rw [if_neg w]
      by_cases w2 : p.toInt64 - hi.toInt64 < 0
      · rw [if_pos w2]
      · rw [if_neg w2]
        have : ¬ p.toInt - hi.toInt < 0 := fun y => w2 (c3.mpr y)
        exact Int64.toInt_inj.mp (by rw [e1, z]; omega)
theorem pt_sq_eq {ax : Nat} {lo hi lo' hi' : Nat → Int32} {x y z : Int32} (h1 : 1 ≤ ax) (h3 : ax ≤ 3) (e : ∀ q, q < ax → lo q = lo' q ∧ hi q = hi' q) (hb : ∀ q, q < ax → lo' q ≤ hi' q) : pt_sqt ax lo hi x y z = pt_sqm ax lo' hi' x y z := by
  have g : ∀ q, q < ax → pt_sqa (lo q) (hi q) (pt_3 x y z q) = pt_offm (lo' q).toInt64 (hi' q).toInt64 (pt_3 x y z q).toInt64 * pt_offm (lo' q).toInt64 (hi' q).toInt64 (pt_3 x y z q).toInt64 := fun q hq => by
    unfold pt_sqa
    rw [(e q hq).1, (e q hq).2, pt_gap_off (hb q hq)]
  unfold pt_sqt pt_sqm
  rcases (show ax = 1 ∨ ax = 2 ∨ ax = 3 by omega) with q | q | q
  · subst q
    rw [if_pos (by omega)]
    show _ = 0 + _
    dsimp only
    rw [← g 0 (by omega), Int64.zero_add]; rfl
  · subst q
    rw [if_neg (by omega), if_pos (by omega)]
    show _ = 0 + _ + _
    dsimp only
    rw [← g 0 (by omega), ← g 1 (by omega), Int64.zero_add]; rfl
  · subst q
    rw [if_neg (by omega), if_neg (by omega)]
    show _ = 0 + _ + _ + _
    dsimp only
    rw [← g 0 (by omega), ← g 1 (by omega), ← g 2 (by omega), Int64.zero_add]; rfl
theorem pt_Re.sq (h : pt_Re ax md N lz ts fd fc op se ft F A G B) {x y z : Int32} {t : Nat} (ht : t < md) : pt_sqt ax (fun q => A 4 (t * 6 + q * 2 + 0)) (fun q => A 4 (t * 6 + q * 2 + 1)) x y z = pt_sqm ax (fun q => B 4 (3 * t + q)) (fun q => B 5 (3 * t + q)) x y z :=
  pt_sq_eq h.1.1 h.1.2.1 (fun q hq => h.2.2.2.2.1 t q ht hq) (fun q hq => (h.2.2.2.2.2.1 t q ht hq).2.1)
theorem rl_distance (h : pt_Re ax md N lz ts fd fc op se ft F A G B) {k x y z : Int32} {r r' : Int64} {u' : pt_MS} (hX : (∃ t, t < md ∧ k = nI t ∧ ¬ A 3 t = 0 ∧ pt_box ax x x y y z z ∧ r = pt_sqt ax (fun q => A 4 (t * 6 + q * 2 + 0)) (fun q => A 4 (t * 6 + q * 2 + 1)) x y z) ∨ (¬ (pt_in md (fun t => ¬ A 3 t = 0) k ∧ pt_box ax x x y y z z) ∧ r = -9223372036854775808))
    (hM : ((∃ t, t < md ∧ k = nI t ∧ ¬ B 3 t = 0 ∧ pt_box ax x x y y z z ∧ r' = (pt_sqm ax (fun q => B 4 (3 * t + q)) (fun q => B 5 (3 * t + q)) x y z)) ∨ (¬ (pt_in md (fun t => ¬ B 3 t = 0) k ∧ pt_box ax x x y y z z) ∧ r' = -9223372036854775808)) ∧ u' = ((upd G 0 (nI 0)), B)) : r = r' ∧ pt_Rel F A u'.1 u'.2 := by
  refine ⟨?_, h.out hM.2⟩
  have hmd := h.1.2.2.1
  rcases hX with ⟨t, t1, et, hT, hb, er⟩ | ⟨hn, er⟩ <;> rcases hM.1 with ⟨t', t1', et', hT', hb', er'⟩ | ⟨hn', er'⟩
  · have a1 : t = t' := pt_in_u t1 t1' (by omega) (et.symm.trans et')
    subst a1
    rw [er, er', h.sq t1]
  · exact absurd ⟨⟨t, t1, et, (h.th t t1).mp hT⟩, hb⟩ hn'
  · exact absurd ⟨⟨t', t1', et', (h.th t' t1').mpr hT'⟩, hb'⟩ hn
  · rw [er, er']
theorem rl_nearest (h : pt_Re ax md N lz ts fd fc op se ft F A G B) {x y z k r r' : Int32} {u : pt_XS} {u' : pt_MS} (hX : u.1 = F ∧ u.2.1 = A ∧ ((¬ pt_in (pt_cnt (fun t => ¬ A 3 t = 0) md) (fun _ => True) k ∧ r = -1) ∨ (pt_in (pt_cnt (fun t => ¬ A 3 t = 0) md) (fun _ => True) k ∧ ¬ pt_box ax x x y y z z ∧ r = -2) ∨ (pt_in (pt_cnt (fun t => ¬ A 3 t = 0) md) (fun _ => True) k ∧ pt_box ax x x y y z z ∧ pt_fst (pt_rk (fun t => ¬ A 3 t = 0) (fun t => pt_sqt ax (fun q => A 4 (t * 6 + q * 2 + 0)) (fun q => A 4 (t * 6 + q * 2 + 1)) x y z) md k) md r)))
    (hM : ((¬ pt_in (pt_cnt (fun t => ¬ B 3 t = 0) md) (fun _ => True) k ∧ r' = -1) ∨ (pt_in (pt_cnt (fun t => ¬ B 3 t = 0) md) (fun _ => True) k ∧ ¬ pt_box ax x x y y z z ∧ r' = -2) ∨ (pt_in (pt_cnt (fun t => ¬ B 3 t = 0) md) (fun _ => True) k ∧ pt_box ax x x y y z z ∧ pt_fst (pt_rk (fun t => ¬ B 3 t = 0) (fun t => pt_sqm ax (fun q => B 4 (3 * t + q)) (fun q => B 5 (3 * t + q)) x y z) md k) md r')) ∧ u' = ((upd G 0 (nI 0)), B)) : r = r' ∧ pt_Rel u.1 u.2.1 u'.1 u'.2 := by
  rw [hX.1, hX.2.1]
  refine ⟨?_, h.out hM.2⟩
  rw [← pt_cnt_c md h.th] at hM
  rcases hX.2.2 with ⟨a1, a2⟩ | ⟨a1, a2, a3⟩ | ⟨a1, a2, a3⟩ <;> rcases hM.1 with ⟨b1, b2⟩ | ⟨b1, b2, b3⟩ | ⟨b1, b2, b3⟩
  · rw [a2, b2]
  · exact absurd b1 a1
  · exact absurd b1 a1
  · exact absurd a1 b1
  · rw [a3, b3]
  · exact absurd b2 a2
  · exact absurd a1 b1
  · exact absurd a2 b2
  · refine pt_fst_u (fun t ht => ?_) a3 b3
    unfold pt_rk
    dsimp only
    rw [h.sq ht, pt_cnt_c md (q := fun v => ¬ B 3 v = 0 ∧ (pt_sqm ax (fun q => B 4 (3 * v + q)) (fun q => B 5 (3 * v + q)) x y z < pt_sqm ax (fun q => B 4 (3 * t + q)) (fun q => B 5 (3 * t + q)) x y z ∨ (pt_sqm ax (fun q => B 4 (3 * v + q)) (fun q => B 5 (3 * v + q)) x y z = pt_sqm ax (fun q => B 4 (3 * t + q)) (fun q => B 5 (3 * t + q)) x y z ∧ v < t))) (fun v hv => by rw [h.sq hv]; exact and_congr (h.th v hv) Iff.rfl)]
    exact and_congr (h.th t ht) Iff.rfl
/-! pairs -/
theorem pt_sum_add {f g : Nat → Nat} : ∀ n, pt_sum (fun t => f t + g t) n = pt_sum f n + pt_sum g n
  | 0 => rfl
  | n + 1 => by
    show pt_sum (fun t => f t + g t) n + (f n + g n) = pt_sum f n + f n + (pt_sum g n + g n)
    rw [pt_sum_add n]; omega
theorem pt_sum_cb {p : Nat → Prop} : ∀ n, pt_sum (fun t => pt_cb (p t)) n = pt_cnt p n
  | 0 => rfl
  | n + 1 => by
    show pt_sum (fun t => pt_cb (p t)) n + pt_cb (p n) = pt_cnt p n + pt_cb (p n)
    rw [pt_sum_cb n]
theorem pt_pairs {P P' : Nat → Nat → Prop} : ∀ n, (∀ t v, v < t → t < n → (P' t v ↔ P v t)) → pt_sum (fun t => pt_cnt (fun v => t + 1 ≤ v ∧ P t v) n) n = pt_sum (fun t => pt_cnt (fun v => P' t v) t) n
  | 0, _ => rfl
  | n + 1, h => by
    have ih := pt_pairs n (fun t v h1 h2 => h t v h1 (by omega))
    show pt_sum (fun t => pt_cnt (fun v => t + 1 ≤ v ∧ P t v) n + pt_cb (t + 1 ≤ n ∧ P t n)) n + pt_cnt (fun v => n + 1 ≤ v ∧ P n v) (n + 1) = pt_sum (fun t => pt_cnt (fun v => P' t v) t) n + pt_cnt (fun v => P' n v) n
    rw [pt_sum_add, ih, pt_sum_cb, pt_cnt_none (n + 1) (fun i hi q => by omega), pt_cnt_c n (q := fun v => P' n v) (fun i hi => by rw [h n i hi (by omega)]; exact ⟨fun q => q.2, fun q => ⟨by omega, q⟩⟩)]
    rfl
theorem rl_pairs (h : pt_Re ax md N lz ts fd fc op se ft F A G B) {r r' : Int32} {u' : pt_MS} (hX : r = nI (pt_sum (fun t => pt_cnt (fun v => t + 1 ≤ v ∧ (¬ A 3 t = 0 ∧ ¬ A 3 v = 0 ∧ pt_mee ax (A 4) (A 4) t v)) md) md))
    (hM : r' = nI (pt_sum (fun t => pt_cnt (fun v => ¬ B 3 t = 0 ∧ ¬ B 3 v = 0 ∧ (∀ q, q < ax → B 4 (3 * t + q) ≤ B 5 (3 * v + q) ∧ B 4 (3 * v + q) ≤ B 5 (3 * t + q))) t) md) ∧ u' = ((upd G 0 (nI 0)), B)) : r = r' ∧ pt_Rel F A u'.1 u'.2 := by
  refine ⟨?_, h.out hM.2⟩
  rw [hX, hM.1, pt_pairs (P := fun t v => ¬ A 3 t = 0 ∧ ¬ A 3 v = 0 ∧ pt_mee ax (A 4) (A 4) t v) (P' := fun t v => ¬ B 3 t = 0 ∧ ¬ B 3 v = 0 ∧ (∀ q, q < ax → B 4 (3 * t + q) ≤ B 5 (3 * v + q) ∧ B 4 (3 * v + q) ≤ B 5 (3 * t + q))) md (fun t v hv ht => ?_)]
  have hv2 : v < md := by omega
  constructor
  · rintro ⟨a1, a2, a3⟩
    refine ⟨(h.th v hv2).mpr a2, (h.th t ht).mpr a1, fun q hq => ?_⟩
    have e1 := h.2.2.2.2.1 v q hv2 hq
    have e2 := h.2.2.2.2.1 t q ht hq
    rw [e1.1, e1.2, e2.1, e2.2]
    exact ⟨(a3 q hq).2, (a3 q hq).1⟩
  · rintro ⟨a1, a2, a3⟩
    refine ⟨(h.th t ht).mp a2, (h.th v hv2).mp a1, fun q hq => ?_⟩
    have e1 := h.2.2.2.2.1 v q hv2 hq
    have e2 := h.2.2.2.2.1 t q ht hq
    have e3 := a3 q hq
    rw [e1.1, e1.2, e2.1, e2.2] at e3
    exact ⟨e3.2, e3.1⟩
/-! build -/
theorem pt_ord_c {p q : Nat → Prop} : ∀ n, (∀ i, i < n → (p i ↔ q i)) → pt_ord p n = pt_ord q n
  | 0, _ => rfl
  | n + 1, h => by
    have ih := pt_ord_c n (fun i hi => h i (by omega))
    show pt_if (p n) (va_up (pt_ord p n) (pt_cnt p n) n) (pt_ord p n) = pt_if (q n) (va_up (pt_ord q n) (pt_cnt q n) n) (pt_ord q n)
    rw [ih, pt_cnt_c n (fun i hi => h i (by omega))]
    by_cases e : p n
    · rw [pt_if_t e, pt_if_t ((h n (by omega)).mp e)]
    · rw [pt_if_f e, pt_if_f (fun z => e ((h n (by omega)).mpr z))]
theorem pt_tree_c {p q : Nat → Prop} {ax n : Nat} {lo hi : Nat → Nat → Int32} (h : ∀ i, i < n → (p i ↔ q i)) : pt_tree ax lo hi p n = pt_tree ax lo hi q n := by
  unfold pt_tree
  rw [pt_cnt_c n h, pt_ord_c n h]
theorem rl_build (h : pt_Re ax md N lz ts fd fc op se ft F A G B) {r r' : Int32} {u : pt_XS} {u' : pt_MS} (hX : r = nI (pt_tree ax (fun v x => B 4 (3 * v + x)) (fun v x => B 5 (3 * v + x)) (fun t => ¬ A 3 t = 0) md).1 ∧ pt_XT ax (pt_cnt (fun t => ¬ A 3 t = 0) md) md (pt_tree ax (fun v x => B 4 (3 * v + x)) (fun v x => B 5 (3 * v + x)) (fun t => ¬ A 3 t = 0) md) u.1 u.2.1 ∧ u.1 6 = nI md ∧ (∀ j, j ≠ 5 → j ≠ 6 → u.1 j = F j) ∧ (∀ j, j < 7 ∨ 12 < j → u.2.1 j = A j) ∧ u.2.2 = Q)
    (hM : r' = nI (pt_tree ax (fun v x => B 4 (3 * v + x)) (fun v x => B 5 (3 * v + x)) (fun t => ¬ B 3 t = 0) md).1 ∧ pt_MT ax (pt_cnt (fun t => ¬ B 3 t = 0) md) md (pt_tree ax (fun v x => B 4 (3 * v + x)) (fun v x => B 5 (3 * v + x)) (fun t => ¬ B 3 t = 0) md) u'.1 u'.2 ∧ u'.1 0 = nI 0 ∧ (∀ j, j ≠ 0 → j ≠ 8 → j ≠ 15 → u'.1 j = G j) ∧ (∀ t, t < md → u'.2 6 t = B 3 t) ∧ ∀ j, j < 6 ∨ 19 < j → u'.2 j = B j) : r = r' ∧ pt_Rel u.1 u.2.1 u'.1 u'.2 := by
  obtain ⟨F1, A1, Q1⟩ := u
  obtain ⟨G1, B1⟩ := u'
  dsimp only at hX hM ⊢
  obtain ⟨x1, x2, x3, x4, x5, _⟩ := hX
  obtain ⟨m1, m2, m3, m4, m5, m6⟩ := hM
  have et := pt_tree_c (ax := ax) (lo := (fun v x => B 4 (3 * v + x))) (hi := (fun v x => B 5 (3 * v + x))) h.th
  rw [← et] at m1 m2
  rw [← pt_cnt_c md h.th] at m2
  refine ⟨x1.trans m1.symm, ?_⟩
  have hgt : pt_GT (pt_cnt (fun t => ¬ A 3 t = 0) md) (pt_tree ax (fun v x => B 4 (3 * v + x)) (fun v x => B 5 (3 * v + x)) (fun t => ¬ A 3 t = 0) md) := pt_tree_ok h.1.2.2.1
  generalize pt_tree ax (fun v x => B 4 (3 * v + x)) (fun v x => B 5 (3 * v + x)) (fun t => ¬ A 3 t = 0) md = t1 at x2 m2 hgt
  obtain ⟨⟨q1, q2, q3, q4, q5⟩, ⟨h2a, h2b, h2c, h2d⟩, ⟨h3a, h3b⟩, h5, h6, h7, _, ⟨h14a, h14b, h14c⟩, ⟨h15a, h15b⟩, ⟨h17a, h17b, h17c⟩, h18a, h18b, h18c⟩ := h
  refine ⟨ax, md, _, md, t1, fd, fc, op, se, ft, ⟨q1, q2, q3, Nat.le_refl _, q5⟩, ⟨by rw [x4 0 (by decide) (by decide)]; exact h2a, by rw [x4 1 (by decide) (by decide)]; exact h2b, by rw [x4 2 (by decide) (by decide), x5 3 (by omega)]; exact h2c, x3⟩, ⟨by rw [m4 1 (by decide) (by decide) (by decide)]; exact h3a, by rw [m4 2 (by decide) (by decide) (by decide)]; exact h3b⟩, fun t ht => by rw [x5 3 (by omega), m6 3 (by omega)]; exact h5 t ht, by rw [x5 4 (by omega), m6 4 (by omega), m6 5 (by omega)]; exact h6, by rw [m6 4 (by omega), m6 5 (by omega)]; exact h7, ⟨hgt, x2, m2, fun t ht ht2 => ?_⟩, ?_, ?_, by rw [x5 16 (by omega)]; exact ⟨h17a, h17b, h17c⟩, by rw [m4 24 (by decide) (by decide) (by decide)]; exact h18a, by rw [m4 25 (by decide) (by decide) (by decide)]; exact h18b, by rw [m4 26 (by decide) (by decide) (by decide)]; exact h18c⟩
  · rw [x5 3 (by omega)] at ht2
    rw [m5 t ht, ← (h5 t ht).1]
    exact ⟨fun q => absurd q ht2, fun q => by omega⟩
  · unfold pt_ask; rw [x4 15 (by decide) (by decide), x5 14 (by omega)]; exact ⟨h14a, h14b, h14c⟩
  · unfold pt_aM; rw [m4 23 (by decide) (by decide) (by decide), m6 22 (by omega)]; exact ⟨h15a, h15b⟩
end PTREL2
