/-- how the blocks lie that were made for the run f .. t, from the number nb on -/
def pt_OK (k f t d nb : Nat) (n : Nat) (r : Nat → Nat → Nat) : Prop := (nb < n ∧ r 0 nb = f ∧ r 1 nb = t ∧ r 3 nb = d) ∧ (∀ b, nb ≤ b → b < n → (f ≤ r 0 b ∧ r 0 b < r 1 b ∧ r 1 b ≤ t) ∧ (d ≤ r 3 b ∧ (nb < b → d < r 3 b) ∧ r 3 b ≤ d + k) ∧ (r 1 b - r 0 b ≤ 4 ↔ r 2 b = 0) ∧ r 2 b < n) ∧ (∀ b c, nb ≤ b → b < c → c < n → (∀ e, b < e → e ≤ c → r 3 b < r 3 e) → r 1 c ≤ r 1 b) ∧ (∀ b c, nb ≤ b → b < c → c < n → (∀ e, b < e → e < c → r 3 b < r 3 e) → r 3 c ≤ r 3 b → r 0 c = r 1 b) ∧ (∀ b, nb ≤ b → b + 1 < n → ¬ r 2 b = 0 → r 0 (b + 1) = r 0 b) ∧ (∀ b, nb ≤ b → b + 1 < n → r 2 b = 0 → r 3 (b + 1) ≤ r 3 b) ∧ (∀ b, nb ≤ b → b < n → (∀ e, b < e → e < n → r 3 b < r 3 e) → r 1 b = t) ∧ r 2 (n - 1) = 0
theorem pt_OK_leaf {k f t d nb : Nat} {r : Nat → Nat → Nat} (hft : f < t) (h4 : t - f ≤ 4) (h0 : r 0 nb = f) (h1 : r 1 nb = t) (h2 : r 2 nb = 0) (h3 : r 3 nb = d) : pt_OK k f t d nb (nb + 1) r := by
  refine ⟨⟨by omega, h0, h1, h3⟩, fun b p q => ?_, fun b c p q x => by omega, fun b c p q x => by omega, fun b p q => by omega, fun b p q => by omega, fun b p q _ => ?_, by rw [show nb + 1 - 1 = nb by omega]; exact h2⟩
  · have : b = nb := by omega
    subst this
    rw [h0, h1, h2, h3]
    exact ⟨⟨Nat.le_refl _, hft, Nat.le_refl _⟩, ⟨Nat.le_refl _, fun z => by omega, by omega⟩, ⟨fun _ => rfl, fun _ => h4⟩, by omega⟩
  · have : b = nb := by omega
    subst this
    exact h1
theorem pt_OK_part {k f m t d nb n1 n2 : Nat} {r r3 : Nat → Nat → Nat} (hfm : f < m) (hmt : m < t) (h4 : ¬ t - f ≤ 4) (A : pt_OK k f m (d + 1) (nb + 1) n1 r3) (B : pt_OK k m t (d + 1) n1 n2 r) (e : ∀ q b, nb < b → b < n1 → r q b = r3 q b) (h0 : r 0 nb = f) (h1 : r 1 nb = t) (h2 : r 2 nb = n1) (h3 : r 3 nb = d) : pt_OK (k + 1) f t d nb n2 r := by
  obtain ⟨⟨a1, a2, a3, a4⟩, a5, a6, a7, a8, a9, a10, a11⟩ := A
  obtain ⟨⟨b1, b2, b3, b4⟩, b5, b6, b7, b8, b9, b10, b11⟩ := B
  refine ⟨⟨by omega, h0, h1, h3⟩, fun b p q => ?_, fun b c p q x g => ?_, fun b c p q x g u => ?_, fun b p q g => ?_, fun b p q g => ?_, fun b p q g => ?_, b11⟩
  · rcases (show b = nb ∨ (nb < b ∧ b < n1) ∨ n1 ≤ b by omega) with z | z | z
    · subst z
      rw [h0, h1, h2, h3]
      exact ⟨⟨Nat.le_refl _, by omega, Nat.le_refl _⟩, ⟨Nat.le_refl _, fun z => by omega, by omega⟩, ⟨fun y => absurd y h4, fun y => by omega⟩, b1⟩
    · obtain ⟨⟨y1, y2, y3⟩, ⟨y4, y5, y6⟩, y7, y8⟩ := a5 b (by omega) z.2
      rw [e 0 b z.1 z.2, e 1 b z.1 z.2, e 2 b z.1 z.2, e 3 b z.1 z.2]
      exact ⟨⟨y1, y2, by omega⟩, ⟨by omega, fun _ => by omega, by omega⟩, y7, by omega⟩
    · obtain ⟨⟨y1, y2, y3⟩, ⟨y4, y5, y6⟩, y7, y8⟩ := b5 b z q
      exact ⟨⟨by omega, y2, y3⟩, ⟨by omega, fun _ => by omega, by omega⟩, y7, y8⟩
  · rcases (show b = nb ∨ (nb < b ∧ b < n1) ∨ n1 ≤ b by omega) with z | z | z
    · subst z
      rw [h1]
      rcases (show c < n1 ∨ n1 ≤ c by omega) with y | y
      · rw [e 1 c q y]; have := (a5 c (by omega) y).1; omega
      · exact (b5 c y x).1.2.2
    · rcases (show c < n1 ∨ n1 ≤ c by omega) with y | y
      · rw [e 1 c (by omega) y, e 1 b z.1 z.2]
        exact a6 b c (by omega) q y (fun e9 p1 p2 => by have := g e9 p1 p2; rw [e 3 b z.1 z.2, e 3 e9 (by omega) (by omega)] at this; exact this)
      · have w1 := g n1 (by omega) y
        have w2 := (a5 b (by omega) z.2).2.1.1
        rw [e 3 b z.1 z.2, b4] at w1
        omega
    · exact b6 b c z q x g
  · rcases (show b = nb ∨ (nb < b ∧ b < n1) ∨ n1 ≤ b by omega) with z | z | z
    · subst z
      rw [h3] at u
      rcases (show c < n1 ∨ n1 ≤ c by omega) with y | y
      · rw [e 3 c q y] at u; have := (a5 c (by omega) y).2.1.1; omega
      · have := (b5 c y x).2.1.1; omega
    · rcases (show c < n1 ∨ c = n1 ∨ n1 < c by omega) with y | y | y
      · rw [e 0 c (by omega) y, e 1 b z.1 z.2]
        rw [e 3 c (by omega) y, e 3 b z.1 z.2] at u
        exact a7 b c (by omega) q y (fun e9 p1 p2 => by have := g e9 p1 p2; rw [e 3 b z.1 z.2, e 3 e9 (by omega) (by omega)] at this; exact this) u
      · subst y
        rw [b2, e 1 b z.1 z.2]
        exact (a10 b (by omega) z.2 (fun e9 p1 p2 => by have := g e9 p1 p2; rw [e 3 b z.1 z.2, e 3 e9 (by omega) (by omega)] at this; exact this)).symm
      · have w1 := g n1 (by omega) y
        have w2 := (a5 b (by omega) z.2).2.1.1
        rw [e 3 b z.1 z.2, b4] at w1
        omega
    · exact b7 b c z q x g u
  · rcases (show b = nb ∨ (nb < b ∧ b < n1) ∨ n1 ≤ b by omega) with z | z | z
    · subst z
      rw [e 0 (b + 1) (by omega) (by omega), a2, h0]
    · rcases (show b + 1 < n1 ∨ b + 1 = n1 by omega) with y | y
      · rw [e 0 (b + 1) (by omega) y, e 0 b z.1 z.2]
        rw [e 2 b z.1 z.2] at g
        exact a8 b (by omega) y g
      · rw [e 2 b z.1 z.2, show b = n1 - 1 by omega] at g
        exact absurd a11 g
    · exact b8 b z q g
  · rcases (show b = nb ∨ (nb < b ∧ b < n1) ∨ n1 ≤ b by omega) with z | z | z
    · subst z
      omega
    · rcases (show b + 1 < n1 ∨ b + 1 = n1 by omega) with y | y
      · rw [e 3 (b + 1) (by omega) y, e 3 b z.1 z.2]
        rw [e 2 b z.1 z.2] at g
        exact a9 b (by omega) y g
      · rw [y, b4, e 3 b z.1 z.2]
        exact (a5 b (by omega) z.2).2.1.1
    · exact b9 b z q g
  · rcases (show b = nb ∨ (nb < b ∧ b < n1) ∨ n1 ≤ b by omega) with z | z | z
    · subst z; exact h1
    · have w1 := g n1 (by omega) b1
      have w2 := (a5 b (by omega) z.2).2.1.1
      rw [e 3 b z.1 z.2, b4] at w1
      omega
    · exact b10 b z q g
theorem pt_mk_ok {ax : Nat} {lo hi : Nat → Nat → Int32} : ∀ (k f t d : Nat) (s : pt_TS), 1 ≤ k → f < t → t - f ≤ 2 ^ (k + 1) → pt_OK k f t d s.1 (pt_mk ax lo hi k f t d s).1 (pt_mk ax lo hi k f t d s).2.2.1 ∧ ∀ q b, b < s.1 → (pt_mk ax lo hi k f t d s).2.2.1 q b = s.2.2.1 q b
  | 0, _, _, _, _, h, _, _ => absurd h (by decide)
  | k + 1, f, t, d, s, _, hft, hsz => by
    by_cases h4 : t - f ≤ 4
    · rw [pt_mk_leaf h4]
      refine ⟨pt_OK_leaf hft h4 ?_ ?_ ?_ ?_, fun q b hb => pt_up_ne (by omega)⟩
      · show va_up _ _ _ _ = _; rw [pt_up]; rfl
      · show va_up _ _ _ _ = _; rw [pt_up]; rfl
      · show va_up _ _ _ _ = _; rw [pt_up]; rfl
      · show va_up _ _ _ _ = _; rw [pt_up]; rfl
    · have hk : 1 ≤ k := by
        rcases k with _ | k
        · exact absurd hsz (by show ¬ t - f ≤ 4; exact h4)
        · omega
      have hp2 : 2 ^ (k + 1 + 1) = 2 * 2 ^ (k + 1) := by rw [Nat.pow_succ]; omega
      rw [pt_mk_part h4]
      obtain ⟨m, em⟩ : ∃ zz, zz = f + (t - f + 1) / 2 := ⟨_, rfl⟩
      rw [← em]
      obtain ⟨s2, es2⟩ : ∃ zz, zz = pt_std ax lo hi f t (pt_new lo hi f t d s) := ⟨_, rfl⟩
      rw [← es2]
      have n2 : s2.1 = s.1 + 1 := by rw [es2]; rfl
      have r2 : s2.2.2.1 = (pt_new lo hi f t d s).2.2.1 := by rw [es2]; rfl
      obtain ⟨A, fA⟩ := pt_mk_ok (ax := ax) (lo := lo) (hi := hi) k f m (d + 1) s2 hk (by omega) (by omega)
      obtain ⟨s3, es3⟩ : ∃ zz, zz = pt_mk ax lo hi k f m (d + 1) s2 := ⟨_, rfl⟩
      rw [← es3] at A fA ⊢
      rw [n2] at A fA
      obtain ⟨B, fB⟩ := pt_mk_ok (ax := ax) (lo := lo) (hi := hi) k m t (d + 1) (pt_seto s.1 s3) hk (by omega) (by omega)
      have n4 : (pt_seto s.1 s3).1 = s3.1 := rfl
      rw [n4] at B fB
      obtain ⟨s5, es5⟩ : ∃ zz, zz = pt_mk ax lo hi k m t (d + 1) (pt_seto s.1 s3) := ⟨_, rfl⟩
      rw [← es5] at B fB ⊢
      have hA1 := A.1.1
      have hr4 : ∀ q b, ¬ (q = 2 ∧ b = s.1) → (pt_seto s.1 s3).2.2.1 q b = s3.2.2.1 q b := by
        intro q b hq
        show va_up s3.2.2.1 2 (va_up (s3.2.2.1 2) s.1 s3.1) q b = _
        by_cases q2 : q = 2
        · subst q2; rw [pt_up, pt_up_ne (fun z => hq ⟨rfl, z⟩)]
        · rw [pt_up_ne q2]
      have hroot : ∀ q, q ≠ 2 → s5.2.2.1 q s.1 = (pt_new lo hi f t d s).2.2.1 q s.1 := fun q hq => by
        rw [fB q s.1 (by omega), hr4 q s.1 (fun z => hq z.1), fA q s.1 (by omega), r2]
      refine ⟨pt_OK_part (m := m) (n1 := s3.1) (r3 := s3.2.2.1) (by omega) (by omega) h4 A B (fun q b p1 p2 => by rw [fB q b p2, hr4 q b (fun z => by omega)]) ?_ ?_ ?_ ?_, fun q b hb => ?_⟩
      · rw [hroot 0 (by decide)]; show va_up _ _ _ _ = _; rw [pt_up]; rfl
      · rw [hroot 1 (by decide)]; show va_up _ _ _ _ = _; rw [pt_up]; rfl
      · rw [fB 2 s.1 (by omega)]; show va_up s3.2.2.1 2 (va_up (s3.2.2.1 2) s.1 s3.1) 2 s.1 = _; rw [pt_up, pt_up]
      · rw [hroot 3 (by decide)]; show va_up _ _ _ _ = _; rw [pt_up]; rfl
      · rw [fB q b (by omega), hr4 q b (fun z => by omega), fA q b (by omega), r2]; exact pt_up_ne (by omega)
/-- all that the law needs of a tree of N things -/
def pt_GT (N : Nat) (s : pt_TS) : Prop := s.1 ≤ 31 ∧ N ≤ 64 ∧ pt_TF s.1 (s.2.2.1 0) (s.2.2.1 1) (s.2.2.1 2) (s.2.2.1 3) ∧ ∀ b, b < s.1 → s.2.2.1 0 b < s.2.2.1 1 b ∧ s.2.2.1 1 b ≤ N ∧ (s.2.2.1 1 b - s.2.2.1 0 b ≤ 4 ↔ s.2.2.1 2 b = 0) ∧ s.2.2.1 2 b ≤ 31 ∧ s.2.2.1 3 b ≤ 64
theorem pt_tree_ok {ax md : Nat} {lo hi : Nat → Nat → Int32} {th : Nat → Prop} (hmd : md ≤ 64) : pt_GT (pt_cnt th md) (pt_tree ax lo hi th md) := by
  have hc := pt_cnt_le th md
  by_cases h : pt_cnt th md = 0
  · have e : pt_tree ax lo hi th md = (0, pt_ord th md, fun _ _ => 0, fun _ _ _ => 0) := if_pos h
    rw [e]
    exact ⟨by show 0 ≤ 31; omega, by omega, ⟨fun b hb => absurd hb (Nat.not_lt_zero _), fun b c _ hc => absurd hc (Nat.not_lt_zero _), fun b c _ hc => absurd hc (Nat.not_lt_zero _), fun b hb => absurd hb (Nat.not_lt_zero _), fun b hb => absurd hb (Nat.not_lt_zero _)⟩, fun b hb => absurd hb (Nat.not_lt_zero _)⟩
  · have e : pt_tree ax lo hi th md = pt_mk ax lo hi 5 0 (pt_cnt th md) 0 (0, pt_ord th md, fun _ _ => 0, fun _ _ _ => 0) := if_neg h
    have hn := pt_mk_nb (ax := ax) (lo := lo) (hi := hi) 5 0 (pt_cnt th md) 0 (0, pt_ord th md, fun _ _ => 0, fun _ _ _ => 0)
    obtain ⟨⟨_, p2, p3, p4, p5, p6, _, _⟩, _⟩ := pt_mk_ok (ax := ax) (lo := lo) (hi := hi) 5 0 (pt_cnt th md) 0 (0, pt_ord th md, fun _ _ => 0, fun _ _ _ => 0) (by decide) (by omega) (by show _ ≤ 64; omega)
    rw [← e] at hn p2 p3 p4 p5 p6
    have hn2 : (pt_tree ax lo hi th md).1 + 1 ≤ 0 + 32 := hn
    refine ⟨by omega, by omega, ⟨fun b hb => (p2 b (Nat.zero_le _) hb).1.2.1, fun b c => p3 b c (Nat.zero_le _), fun b c => p4 b c (Nat.zero_le _), fun b => p5 b (Nat.zero_le _), fun b => p6 b (Nat.zero_le _)⟩, fun b hb => ?_⟩
    obtain ⟨⟨y1, y2, y3⟩, ⟨y4, y5, y6⟩, y7, y8⟩ := p2 b (Nat.zero_le _) hb
    exact ⟨y2, y3, y7, by omega, by omega⟩
