theorem pt_sum_le {f : Nat → Nat} {m : Nat} : ∀ n, (∀ t, t < n → f t ≤ m) → pt_sum f n ≤ n * m
  | 0, _ => by show 0 ≤ 0 * m; omega
  | n + 1, h => by
    have h1 := pt_sum_le n (fun t ht => h t (by omega))
    have h2 := h n (by omega)
    show pt_sum f n + f n ≤ (n + 1) * m
    rw [Nat.succ_mul]; omega
theorem pt_if_c {α : Type} {P Q : Prop} {x y u v : α} (e : P ↔ Q) (e1 : x = u) (e2 : y = v) : pt_if P x y = pt_if Q u v := by rw [propext e, e1, e2]
section PTCG
variable {fr tO ot od vd vd' : Nat → Nat} {th th' P P' : Nat → Prop} {nb N : Nat}
theorem pt_dn_cg (hv : ∀ b, b < nb → vd b = vd' b) : ∀ n, n ≤ nb → pt_dn tO ot vd n = pt_dn tO ot vd' n
  | 0, _ => rfl
  | n + 1, h => by
    show pt_if _ _ (pt_if _ _ _) = pt_if _ _ (pt_if _ _ _)
    rw [pt_dn_cg hv n (by omega), hv n (by omega)]
theorem pt_vis_cg (hv : ∀ b, b < nb → vd b = vd' b) {b : Nat} (h : b < nb) : pt_vis tO ot vd b ↔ pt_vis tO ot vd' b := by
  unfold pt_vis
  rw [pt_dn_cg hv b (by omega)]
theorem pt_OP_cg (hv : ∀ b, b < nb → vd b = vd' b) : pt_OP tO ot vd nb = pt_OP tO ot vd' nb := pt_cnt_c nb (fun b hb => by rw [propext (pt_vis_cg hv hb), hv b hb])
theorem pt_SE_cg (hv : ∀ b, b < nb → vd b = vd' b) : pt_SE tO ot vd nb = pt_SE tO ot vd' nb := pt_cnt_c nb (fun b hb => by rw [propext (pt_vis_cg hv hb), hv b hb])
theorem pt_nA_cg (ht : ∀ i, i < N → (th (od i) ↔ th' (od i))) {b : Nat} (hN : tO b ≤ N) : pt_nA fr tO od th b = pt_nA fr tO od th' b := pt_cnt_c _ (fun i hi => by rw [propext (ht i (by omega))])
theorem pt_FT_cg (hv : ∀ b, b < nb → vd b = vd' b) (hN : ∀ b, b < nb → tO b ≤ N) (ht : ∀ i, i < N → (th (od i) ↔ th' (od i))) : pt_FT fr tO ot od vd th P nb = pt_FT fr tO ot od vd' th' P' nb := pt_sum_c nb (fun b hb => pt_if_c (by rw [propext (pt_vis_cg hv hb), hv b hb]) (pt_nA_cg ht (hN b hb)) rfl)
theorem pt_FC_cg (hv : ∀ b, b < nb → vd b = vd' b) (hN : ∀ b, b < nb → tO b ≤ N) (ht : ∀ i, i < N → (th (od i) ↔ th' (od i))) (hp : ∀ i, i < N → (P (od i) ↔ P' (od i))) : pt_FC fr tO ot od vd th P nb = pt_FC fr tO ot od vd' th' P' nb := pt_sum_c nb (fun b hb => pt_if_c (by rw [propext (pt_vis_cg hv hb), hv b hb]) (pt_nA_cg ht (hN b hb)) (pt_if_c (by rw [propext (pt_vis_cg hv hb), hv b hb]) (pt_nA_cg hp (hN b hb)) rfl))
theorem pt_FD_cg1 (hv : ∀ b, b < nb → vd b = vd' b) (hN : ∀ b, b < nb → tO b ≤ N) (ht : ∀ i, i < N → (th (od i) ↔ th' (od i))) (hp : ∀ i, i < N → (P (od i) ↔ P' (od i))) {x : Nat} (h : pt_FD fr tO ot od vd th P nb x) : pt_FD fr tO ot od vd' th' P' nb x := by
  obtain ⟨b, hb, hvis, q⟩ := h
  have hb2 := hN b hb
  refine ⟨b, hb, (pt_vis_cg hv hb).mp hvis, ?_⟩
  rw [← hv b hb]
  rcases q with ⟨q1, k, k1, k2, k3, k4⟩ | ⟨q1, q2, k, k1, k2, k3, k4⟩
  · exact Or.inl ⟨q1, k, k1, k2, k3, (ht k (by omega)).mp k4⟩
  · exact Or.inr ⟨q1, q2, k, k1, k2, k3, (hp k (by omega)).mp k4⟩
theorem pt_FD_cg (hv : ∀ b, b < nb → vd b = vd' b) (hN : ∀ b, b < nb → tO b ≤ N) (ht : ∀ i, i < N → (th (od i) ↔ th' (od i))) (hp : ∀ i, i < N → (P (od i) ↔ P' (od i))) {x : Nat} : pt_FD fr tO ot od vd th P nb x ↔ pt_FD fr tO ot od vd' th' P' nb x :=
  ⟨pt_FD_cg1 hv hN ht hp, pt_FD_cg1 (fun b hb => (hv b hb).symm) hN (fun i hi => (ht i hi).symm) (fun i hi => (hp i hi).symm)⟩
theorem pt_FC_le (hN : ∀ b, b < nb → tO b ≤ 64) : pt_FC fr tO ot od vd th P nb ≤ nb * 64 := by
  refine pt_sum_le nb (fun b hb => ?_)
  have h1 := hN b hb
  have h2 : pt_nA fr tO od th b ≤ tO b := pt_cnt_le _ _
  have h3 : pt_nA fr tO od P b ≤ tO b := pt_cnt_le _ _
  unfold pt_if
  split
  · omega
  · split <;> omega
end PTCG
section PTREL3
variable {ax md N lz : Nat} {ts : pt_TS} {fd : Nat → Prop} {fc op se ft : Nat} {F : Nat → Int32} {A : Nat → Nat → Int32} {Q : Nat → Int64} {G : Nat → Int32} {B : Nat → Nat → Int32}
/-- a box that the class has in its row T and the reference in lo, hi -/
theorem pt_rg_eq {ax t v : Nat} {T U lo hi L G2 : Nat → Int32} (h : ∀ q, q < ax → T (t * 6 + q * 2 + 0) = lo (v + q) ∧ T (t * 6 + q * 2 + 1) = hi (v + q)) (hU : ∀ q, q < ax → U (0 * 6 + q * 2 + 0) = L q ∧ U (0 * 6 + q * 2 + 1) = G2 q) : pt_mee ax T U t 0 = pt_mM ax lo hi L G2 v ∧ pt_wn ax T U t 0 = pt_wM ax lo hi L G2 v ∧ pt_wn ax U T 0 t = pt_hM ax lo hi L G2 v := by
  refine ⟨propext ⟨fun z q hq => ?_, fun z q hq => ?_⟩, propext ⟨fun z q hq => ?_, fun z q hq => ?_⟩, propext ⟨fun z q hq => ?_, fun z q hq => ?_⟩⟩
  all_goals
    have y := z q hq
    have a := h q hq
    have b := hU q hq
    first
      | (rw [a.1, a.2, b.1, b.2] at y; exact y)
      | (rw [a.1, a.2, b.1, b.2]; exact y)
theorem rl_range (h : pt_Re ax md N lz ts fd fc op se ft F A G B) {rel x0 x1 y0 y1 z0 z1 r r' : Int32} {u : pt_XS} {u' : pt_MS} (hX : (¬ (pt_in 4 (fun _ => True) rel ∧ pt_box ax x0 x1 y0 y1 z0 z1) ∧ r = -2 ∧ u = (F, A, Q)) ∨ ∃ rl, rl < 4 ∧ rel = nI rl ∧ pt_box ax x0 x1 y0 y1 z0 z1 ∧ r = nI (pt_FC (ts.2.2.1 0) (ts.2.2.1 1) (ts.2.2.1 2) ts.2.1 (fun b => pt_vd rl (pt_mee ax (A 12) (pt_pt6 (A 13) 0 x0 x1 y0 y1 z0 z1) b 0) (pt_wn ax (A 12) (pt_pt6 (A 13) 0 x0 x1 y0 y1 z0 z1) b 0) (pt_wn ax (pt_pt6 (A 13) 0 x0 x1 y0 y1 z0 z1) (A 12) 0 b)) (fun t => ¬ A 3 t = 0) (pt_Px ax rl (A 3) (A 4) (pt_pt6 (A 13) 0 x0 x1 y0 y1 z0 z1)) ts.1 + pt_cnt (fun k => lz ≤ k ∧ (pt_Px ax rl (A 3) (A 4) (pt_pt6 (A 13) 0 x0 x1 y0 y1 z0 z1)) k) md) ∧ pt_ask (pt_run (pt_FD (ts.2.2.1 0) (ts.2.2.1 1) (ts.2.2.1 2) ts.2.1 (fun b => pt_vd rl (pt_mee ax (A 12) (pt_pt6 (A 13) 0 x0 x1 y0 y1 z0 z1) b 0) (pt_wn ax (A 12) (pt_pt6 (A 13) 0 x0 x1 y0 y1 z0 z1) b 0) (pt_wn ax (pt_pt6 (A 13) 0 x0 x1 y0 y1 z0 z1) (A 12) 0 b)) (fun t => ¬ A 3 t = 0) (pt_Px ax rl (A 3) (A 4) (pt_pt6 (A 13) 0 x0 x1 y0 y1 z0 z1)) ts.1) (fun k => k) (pt_Px ax rl (A 3) (A 4) (pt_pt6 (A 13) 0 x0 x1 y0 y1 z0 z1)) lz md) (pt_FC (ts.2.2.1 0) (ts.2.2.1 1) (ts.2.2.1 2) ts.2.1 (fun b => pt_vd rl (pt_mee ax (A 12) (pt_pt6 (A 13) 0 x0 x1 y0 y1 z0 z1) b 0) (pt_wn ax (A 12) (pt_pt6 (A 13) 0 x0 x1 y0 y1 z0 z1) b 0) (pt_wn ax (pt_pt6 (A 13) 0 x0 x1 y0 y1 z0 z1) (A 12) 0 b)) (fun t => ¬ A 3 t = 0) (pt_Px ax rl (A 3) (A 4) (pt_pt6 (A 13) 0 x0 x1 y0 y1 z0 z1)) ts.1 + pt_cnt (fun k => lz ≤ k ∧ (pt_Px ax rl (A 3) (A 4) (pt_pt6 (A 13) 0 x0 x1 y0 y1 z0 z1)) k) md) u.1 u.2.1 ∧ (u.2.1 16 0 = nI (pt_OP (ts.2.2.1 1) (ts.2.2.1 2) (fun b => pt_vd rl (pt_mee ax (A 12) (pt_pt6 (A 13) 0 x0 x1 y0 y1 z0 z1) b 0) (pt_wn ax (A 12) (pt_pt6 (A 13) 0 x0 x1 y0 y1 z0 z1) b 0) (pt_wn ax (pt_pt6 (A 13) 0 x0 x1 y0 y1 z0 z1) (A 12) 0 b)) ts.1) ∧ u.2.1 16 1 = nI (pt_SE (ts.2.2.1 1) (ts.2.2.1 2) (fun b => pt_vd rl (pt_mee ax (A 12) (pt_pt6 (A 13) 0 x0 x1 y0 y1 z0 z1) b 0) (pt_wn ax (A 12) (pt_pt6 (A 13) 0 x0 x1 y0 y1 z0 z1) b 0) (pt_wn ax (pt_pt6 (A 13) 0 x0 x1 y0 y1 z0 z1) (A 12) 0 b)) ts.1) ∧ u.2.1 16 2 = nI (pt_FT (ts.2.2.1 0) (ts.2.2.1 1) (ts.2.2.1 2) ts.2.1 (fun b => pt_vd rl (pt_mee ax (A 12) (pt_pt6 (A 13) 0 x0 x1 y0 y1 z0 z1) b 0) (pt_wn ax (A 12) (pt_pt6 (A 13) 0 x0 x1 y0 y1 z0 z1) b 0) (pt_wn ax (pt_pt6 (A 13) 0 x0 x1 y0 y1 z0 z1) (A 12) 0 b)) (fun t => ¬ A 3 t = 0) (pt_Px ax rl (A 3) (A 4) (pt_pt6 (A 13) 0 x0 x1 y0 y1 z0 z1)) ts.1)) ∧ (∀ j, j ≠ 15 → u.1 j = F j) ∧ (∀ j, j ≠ 13 → j ≠ 14 → j ≠ 16 → u.2.1 j = A j) ∧ u.2.2 = Q)
    (hM : (¬ (pt_in 4 (fun _ => True) rel ∧ pt_box ax x0 x1 y0 y1 z0 z1) ∧ r' = -2 ∧ u'.1 = (upd G 0 (nI 0)) ∧ ∀ j, j ≠ 20 → j ≠ 21 → u'.2 j = B j) ∨ ∃ (rl : Nat) (L G2 : Nat → Int32), rl < 4 ∧ rel = nI rl ∧ pt_box ax x0 x1 y0 y1 z0 z1 ∧ (∀ q, q < ax → L q = pt_3 x0 y0 z0 q ∧ G2 q = pt_3 x1 y1 z1 q) ∧ r' = nI (pt_FC (ts.2.2.1 0) (ts.2.2.1 1) (ts.2.2.1 2) ts.2.1 (fun b => pt_vd rl (pt_mM ax (B 13) (B 14) L G2 (3 * b)) (pt_wM ax (B 13) (B 14) L G2 (3 * b)) (pt_hM ax (B 13) (B 14) L G2 (3 * b))) (fun t => ¬ B 3 t = 0) (fun t => ¬ B 3 t = 0 ∧ pt_so rl (pt_mM ax (B 4) (B 5) L G2 (3 * t)) (pt_wM ax (B 4) (B 5) L G2 (3 * t)) (pt_hM ax (B 4) (B 5) L G2 (3 * t))) ts.1 + pt_cnt (fun k => 0 ≤ k ∧ (fun t => ¬ B 3 t = 0 ∧ B 6 t = 0 ∧ pt_so rl (pt_mM ax (B 4) (B 5) L G2 (3 * t)) (pt_wM ax (B 4) (B 5) L G2 (3 * t)) (pt_hM ax (B 4) (B 5) L G2 (3 * t))) k) md) ∧ pt_aM (pt_run (pt_FD (ts.2.2.1 0) (ts.2.2.1 1) (ts.2.2.1 2) ts.2.1 (fun b => pt_vd rl (pt_mM ax (B 13) (B 14) L G2 (3 * b)) (pt_wM ax (B 13) (B 14) L G2 (3 * b)) (pt_hM ax (B 13) (B 14) L G2 (3 * b))) (fun t => ¬ B 3 t = 0) (fun t => ¬ B 3 t = 0 ∧ pt_so rl (pt_mM ax (B 4) (B 5) L G2 (3 * t)) (pt_wM ax (B 4) (B 5) L G2 (3 * t)) (pt_hM ax (B 4) (B 5) L G2 (3 * t))) ts.1) (fun k => k) (fun t => ¬ B 3 t = 0 ∧ B 6 t = 0 ∧ pt_so rl (pt_mM ax (B 4) (B 5) L G2 (3 * t)) (pt_wM ax (B 4) (B 5) L G2 (3 * t)) (pt_hM ax (B 4) (B 5) L G2 (3 * t))) 0 md) (pt_FC (ts.2.2.1 0) (ts.2.2.1 1) (ts.2.2.1 2) ts.2.1 (fun b => pt_vd rl (pt_mM ax (B 13) (B 14) L G2 (3 * b)) (pt_wM ax (B 13) (B 14) L G2 (3 * b)) (pt_hM ax (B 13) (B 14) L G2 (3 * b))) (fun t => ¬ B 3 t = 0) (fun t => ¬ B 3 t = 0 ∧ pt_so rl (pt_mM ax (B 4) (B 5) L G2 (3 * t)) (pt_wM ax (B 4) (B 5) L G2 (3 * t)) (pt_hM ax (B 4) (B 5) L G2 (3 * t))) ts.1 + pt_cnt (fun k => 0 ≤ k ∧ (fun t => ¬ B 3 t = 0 ∧ B 6 t = 0 ∧ pt_so rl (pt_mM ax (B 4) (B 5) L G2 (3 * t)) (pt_wM ax (B 4) (B 5) L G2 (3 * t)) (pt_hM ax (B 4) (B 5) L G2 (3 * t))) k) md) u'.1 u'.2 ∧ (u'.1 24 = nI (pt_OP (ts.2.2.1 1) (ts.2.2.1 2) (fun b => pt_vd rl (pt_mM ax (B 13) (B 14) L G2 (3 * b)) (pt_wM ax (B 13) (B 14) L G2 (3 * b)) (pt_hM ax (B 13) (B 14) L G2 (3 * b))) ts.1) ∧ u'.1 25 = nI (pt_SE (ts.2.2.1 1) (ts.2.2.1 2) (fun b => pt_vd rl (pt_mM ax (B 13) (B 14) L G2 (3 * b)) (pt_wM ax (B 13) (B 14) L G2 (3 * b)) (pt_hM ax (B 13) (B 14) L G2 (3 * b))) ts.1) ∧ u'.1 26 = nI (pt_FT (ts.2.2.1 0) (ts.2.2.1 1) (ts.2.2.1 2) ts.2.1 (fun b => pt_vd rl (pt_mM ax (B 13) (B 14) L G2 (3 * b)) (pt_wM ax (B 13) (B 14) L G2 (3 * b)) (pt_hM ax (B 13) (B 14) L G2 (3 * b))) (fun t => ¬ B 3 t = 0) (fun t => ¬ B 3 t = 0 ∧ pt_so rl (pt_mM ax (B 4) (B 5) L G2 (3 * t)) (pt_wM ax (B 4) (B 5) L G2 (3 * t)) (pt_hM ax (B 4) (B 5) L G2 (3 * t))) ts.1)) ∧ u'.1 0 = nI 0 ∧ (∀ j, j ≠ 0 → j ≠ 23 → j ≠ 24 → j ≠ 25 → j ≠ 26 → u'.1 j = G j) ∧ (∀ j, j ≠ 20 → j ≠ 21 → j ≠ 22 → u'.2 j = B j)) : r = r' ∧ pt_Rel u.1 u.2.1 u'.1 u'.2 := by
  obtain ⟨F1, A1, Q1⟩ := u
  obtain ⟨G1, B1⟩ := u'
  dsimp only at hX hM ⊢
  rcases hX with ⟨x1', x2, x3⟩ | ⟨rl, hrl, er, hbx, ers, x5, ⟨x6, x7, x8⟩, x9, x10, x11⟩ <;> rcases hM with ⟨m1, m2, m3, m4⟩ | ⟨rl', L, G2, hrl', er', hbx', hLG, ers', m5, ⟨m6, m7, m8⟩, m9, m10, m11⟩
  · obtain ⟨e1, e2, e3⟩ : F1 = F ∧ A1 = A ∧ Q1 = Q := by
      refine ⟨congrArg (fun z : pt_XS => z.1) x3, congrArg (fun z : pt_XS => z.2.1) x3, congrArg (fun z : pt_XS => z.2.2) x3⟩
    rw [e1, e2, m3]
    exact ⟨x2.trans m2.symm, (h.g (fun j j0 _ => pt_upd_ne j0) (fun j _ _ _ _ j20 j21 => m4 j j20 j21)).rel⟩
  · exact absurd ⟨⟨rl', hrl', er', trivial⟩, hbx'⟩ x1'
  · exact absurd ⟨⟨rl, hrl, er, trivial⟩, hbx⟩ m1
  · have e : rl = rl' := (nI_eq (by omega) (by omega)).mp (er.symm.trans er')
    subst e
    obtain ⟨⟨q1, q2, q3, q4, q5⟩, ⟨h2a, h2b, h2c, h2d⟩, ⟨h3a, h3b⟩, h5, h6, h7, ⟨⟨g1, g2, g3, g4⟩, ⟨h9a, h9b, h9c⟩, ⟨h10a, h10b, h10c⟩, h13⟩, ⟨h14a, h14b, h14c⟩, ⟨h15a, h15b⟩, ⟨h17a, h17b, h17c⟩, h18a, h18b, h18c⟩ := h
    have hU : ∀ q, q < ax → (pt_pt6 (A 13) 0 x0 x1 y0 y1 z0 z1) (0 * 6 + q * 2 + 0) = L q ∧ (pt_pt6 (A 13) 0 x0 x1 y0 y1 z0 z1) (0 * 6 + q * 2 + 1) = G2 q := fun q hq => by
      have e := pt_pt6_v (f := A 13) (v := 0) (x := q) (x0 := x0) (x1 := x1) (y0 := y0) (y1 := y1) (z0 := z0) (z1 := z1) (by omega)
      rw [e.1, e.2, (hLG q hq).1, (hLG q hq).2]; exact ⟨rfl, rfl⟩
    have hT : ∀ t, t < md → ((¬ A 3 t = 0) ↔ (¬ B 3 t = 0)) := fun t ht => by rw [(h5 t ht).1]
    have hV : ∀ b, b < ts.1 → (fun b => pt_vd rl (pt_mee ax (A 12) (pt_pt6 (A 13) 0 x0 x1 y0 y1 z0 z1) b 0) (pt_wn ax (A 12) (pt_pt6 (A 13) 0 x0 x1 y0 y1 z0 z1) b 0) (pt_wn ax (pt_pt6 (A 13) 0 x0 x1 y0 y1 z0 z1) (A 12) 0 b)) b = (fun b => pt_vd rl (pt_mM ax (B 13) (B 14) L G2 (3 * b)) (pt_wM ax (B 13) (B 14) L G2 (3 * b)) (pt_hM ax (B 13) (B 14) L G2 (3 * b))) b := fun b hb => by
      have e := pt_rg_eq (ax := ax) (t := b) (v := 3 * b) (T := A 12) (lo := B 13) (hi := B 14) (fun q hq => by rw [((h9c b hb).2.2.2.2 q hq).1, ((h9c b hb).2.2.2.2 q hq).2, ((h10c b hb).2.2.2.2 q hq).1, ((h10c b hb).2.2.2.2 q hq).2]; exact ⟨rfl, rfl⟩) hU
      dsimp only
      rw [e.1, e.2.1, e.2.2]
    have hSO : ∀ t, t < md → ((pt_Px ax rl (A 3) (A 4) (pt_pt6 (A 13) 0 x0 x1 y0 y1 z0 z1)) t ↔ (fun t => ¬ B 3 t = 0 ∧ pt_so rl (pt_mM ax (B 4) (B 5) L G2 (3 * t)) (pt_wM ax (B 4) (B 5) L G2 (3 * t)) (pt_hM ax (B 4) (B 5) L G2 (3 * t))) t) := fun t ht => by
      have e := pt_rg_eq (ax := ax) (t := t) (v := 3 * t) (T := A 4) (lo := B 4) (hi := B 5) (fun q hq => h6 t q ht hq) hU
      unfold pt_Px
      rw [e.1, e.2.1, e.2.2, (h5 t ht).1]
    have hN : ∀ b, b < ts.1 → ts.2.2.1 1 b ≤ N := fun b hb => (g4 b hb).2.1
    have ht : ∀ i, i < N → ((fun t => ¬ A 3 t = 0) (ts.2.1 i) ↔ (fun t => ¬ B 3 t = 0) (ts.2.1 i)) := fun i hi => hT _ (h9b i hi).2
    have hp : ∀ i, i < N → ((pt_Px ax rl (A 3) (A 4) (pt_pt6 (A 13) 0 x0 x1 y0 y1 z0 z1)) (ts.2.1 i) ↔ (fun t => ¬ B 3 t = 0 ∧ pt_so rl (pt_mM ax (B 4) (B 5) L G2 (3 * t)) (pt_wM ax (B 4) (B 5) L G2 (3 * t)) (pt_hM ax (B 4) (B 5) L G2 (3 * t))) (ts.2.1 i)) := fun i hi => hSO _ (h9b i hi).2
    have hL : ∀ k, k < md → ((lz ≤ k ∧ (pt_Px ax rl (A 3) (A 4) (pt_pt6 (A 13) 0 x0 x1 y0 y1 z0 z1)) k) ↔ (0 ≤ k ∧ (fun t => ¬ B 3 t = 0 ∧ B 6 t = 0 ∧ pt_so rl (pt_mM ax (B 4) (B 5) L G2 (3 * t)) (pt_wM ax (B 4) (B 5) L G2 (3 * t)) (pt_hM ax (B 4) (B 5) L G2 (3 * t))) k)) := fun k hk => by
      rw [propext (hSO k hk)]
      constructor
      · rintro ⟨a, b, c⟩
        exact ⟨Nat.zero_le _, b, (h13 k hk ((hT k hk).mpr b)).mpr a, c⟩
      · rintro ⟨_, b, a, c⟩
        exact ⟨(h13 k hk ((hT k hk).mpr b)).mp a, b, c⟩
    have hFC : (pt_FC (ts.2.2.1 0) (ts.2.2.1 1) (ts.2.2.1 2) ts.2.1 (fun b => pt_vd rl (pt_mee ax (A 12) (pt_pt6 (A 13) 0 x0 x1 y0 y1 z0 z1) b 0) (pt_wn ax (A 12) (pt_pt6 (A 13) 0 x0 x1 y0 y1 z0 z1) b 0) (pt_wn ax (pt_pt6 (A 13) 0 x0 x1 y0 y1 z0 z1) (A 12) 0 b)) (fun t => ¬ A 3 t = 0) (pt_Px ax rl (A 3) (A 4) (pt_pt6 (A 13) 0 x0 x1 y0 y1 z0 z1)) ts.1 + pt_cnt (fun k => lz ≤ k ∧ (pt_Px ax rl (A 3) (A 4) (pt_pt6 (A 13) 0 x0 x1 y0 y1 z0 z1)) k) md) = (pt_FC (ts.2.2.1 0) (ts.2.2.1 1) (ts.2.2.1 2) ts.2.1 (fun b => pt_vd rl (pt_mM ax (B 13) (B 14) L G2 (3 * b)) (pt_wM ax (B 13) (B 14) L G2 (3 * b)) (pt_hM ax (B 13) (B 14) L G2 (3 * b))) (fun t => ¬ B 3 t = 0) (fun t => ¬ B 3 t = 0 ∧ pt_so rl (pt_mM ax (B 4) (B 5) L G2 (3 * t)) (pt_wM ax (B 4) (B 5) L G2 (3 * t)) (pt_hM ax (B 4) (B 5) L G2 (3 * t))) ts.1 + pt_cnt (fun k => 0 ≤ k ∧ (fun t => ¬ B 3 t = 0 ∧ B 6 t = 0 ∧ pt_so rl (pt_mM ax (B 4) (B 5) L G2 (3 * t)) (pt_wM ax (B 4) (B 5) L G2 (3 * t)) (pt_hM ax (B 4) (B 5) L G2 (3 * t))) k) md) := by
      rw [pt_FC_cg (th := (fun t => ¬ A 3 t = 0)) (th' := (fun t => ¬ B 3 t = 0)) (P := (pt_Px ax rl (A 3) (A 4) (pt_pt6 (A 13) 0 x0 x1 y0 y1 z0 z1))) (P' := (fun t => ¬ B 3 t = 0 ∧ pt_so rl (pt_mM ax (B 4) (B 5) L G2 (3 * t)) (pt_wM ax (B 4) (B 5) L G2 (3 * t)) (pt_hM ax (B 4) (B 5) L G2 (3 * t)))) hV hN ht hp, pt_cnt_c md hL]
    have hFD : ∀ x, (pt_run (pt_FD (ts.2.2.1 0) (ts.2.2.1 1) (ts.2.2.1 2) ts.2.1 (fun b => pt_vd rl (pt_mee ax (A 12) (pt_pt6 (A 13) 0 x0 x1 y0 y1 z0 z1) b 0) (pt_wn ax (A 12) (pt_pt6 (A 13) 0 x0 x1 y0 y1 z0 z1) b 0) (pt_wn ax (pt_pt6 (A 13) 0 x0 x1 y0 y1 z0 z1) (A 12) 0 b)) (fun t => ¬ A 3 t = 0) (pt_Px ax rl (A 3) (A 4) (pt_pt6 (A 13) 0 x0 x1 y0 y1 z0 z1)) ts.1) (fun k => k) (pt_Px ax rl (A 3) (A 4) (pt_pt6 (A 13) 0 x0 x1 y0 y1 z0 z1)) lz md) x ↔ (pt_run (pt_FD (ts.2.2.1 0) (ts.2.2.1 1) (ts.2.2.1 2) ts.2.1 (fun b => pt_vd rl (pt_mM ax (B 13) (B 14) L G2 (3 * b)) (pt_wM ax (B 13) (B 14) L G2 (3 * b)) (pt_hM ax (B 13) (B 14) L G2 (3 * b))) (fun t => ¬ B 3 t = 0) (fun t => ¬ B 3 t = 0 ∧ pt_so rl (pt_mM ax (B 4) (B 5) L G2 (3 * t)) (pt_wM ax (B 4) (B 5) L G2 (3 * t)) (pt_hM ax (B 4) (B 5) L G2 (3 * t))) ts.1) (fun k => k) (fun t => ¬ B 3 t = 0 ∧ B 6 t = 0 ∧ pt_so rl (pt_mM ax (B 4) (B 5) L G2 (3 * t)) (pt_wM ax (B 4) (B 5) L G2 (3 * t)) (pt_hM ax (B 4) (B 5) L G2 (3 * t))) 0 md) x := fun x => by
      constructor
      · rintro (q | ⟨k, k1, k2, k3, k4⟩)
        · exact Or.inl ((pt_FD_cg (th := (fun t => ¬ A 3 t = 0)) (th' := (fun t => ¬ B 3 t = 0)) (P := (pt_Px ax rl (A 3) (A 4) (pt_pt6 (A 13) 0 x0 x1 y0 y1 z0 z1))) (P' := (fun t => ¬ B 3 t = 0 ∧ pt_so rl (pt_mM ax (B 4) (B 5) L G2 (3 * t)) (pt_wM ax (B 4) (B 5) L G2 (3 * t)) (pt_hM ax (B 4) (B 5) L G2 (3 * t)))) hV hN ht hp).mp q)
        · have := (hL k k2).mp ⟨k1, k4⟩
          exact Or.inr ⟨k, this.1, k2, k3, this.2⟩
      · rintro (q | ⟨k, k1, k2, k3, k4⟩)
        · exact Or.inl ((pt_FD_cg (th := (fun t => ¬ A 3 t = 0)) (th' := (fun t => ¬ B 3 t = 0)) (P := (pt_Px ax rl (A 3) (A 4) (pt_pt6 (A 13) 0 x0 x1 y0 y1 z0 z1))) (P' := (fun t => ¬ B 3 t = 0 ∧ pt_so rl (pt_mM ax (B 4) (B 5) L G2 (3 * t)) (pt_wM ax (B 4) (B 5) L G2 (3 * t)) (pt_hM ax (B 4) (B 5) L G2 (3 * t)))) hV hN ht hp).mpr q)
        · have := (hL k k2).mpr ⟨k1, k4⟩
          exact Or.inr ⟨k, this.1, k2, k3, this.2⟩
    have hle : (pt_FC (ts.2.2.1 0) (ts.2.2.1 1) (ts.2.2.1 2) ts.2.1 (fun b => pt_vd rl (pt_mee ax (A 12) (pt_pt6 (A 13) 0 x0 x1 y0 y1 z0 z1) b 0) (pt_wn ax (A 12) (pt_pt6 (A 13) 0 x0 x1 y0 y1 z0 z1) b 0) (pt_wn ax (pt_pt6 (A 13) 0 x0 x1 y0 y1 z0 z1) (A 12) 0 b)) (fun t => ¬ A 3 t = 0) (pt_Px ax rl (A 3) (A 4) (pt_pt6 (A 13) 0 x0 x1 y0 y1 z0 z1)) ts.1 + pt_cnt (fun k => lz ≤ k ∧ (pt_Px ax rl (A 3) (A 4) (pt_pt6 (A 13) 0 x0 x1 y0 y1 z0 z1)) k) md) ≤ 4096 := by
      have a1 := pt_FC_le (fr := ts.2.2.1 0) (tO := ts.2.2.1 1) (ot := ts.2.2.1 2) (od := ts.2.1) (vd := (fun b => pt_vd rl (pt_mee ax (A 12) (pt_pt6 (A 13) 0 x0 x1 y0 y1 z0 z1) b 0) (pt_wn ax (A 12) (pt_pt6 (A 13) 0 x0 x1 y0 y1 z0 z1) b 0) (pt_wn ax (pt_pt6 (A 13) 0 x0 x1 y0 y1 z0 z1) (A 12) 0 b))) (th := (fun t => ¬ A 3 t = 0)) (P := (pt_Px ax rl (A 3) (A 4) (pt_pt6 (A 13) 0 x0 x1 y0 y1 z0 z1))) (nb := ts.1) (fun b hb => by have := hN b hb; omega)
      have a2 := pt_cnt_le (fun k => lz ≤ k ∧ (pt_Px ax rl (A 3) (A 4) (pt_pt6 (A 13) 0 x0 x1 y0 y1 z0 z1)) k) md
      omega
    have m5' := m5.c (fun x => (hFD x).symm) hFC.symm
    rw [← pt_OP_cg hV] at m6
    rw [← pt_SE_cg hV] at m7
    rw [← pt_FT_cg (th := (fun t => ¬ A 3 t = 0)) (th' := (fun t => ¬ B 3 t = 0)) (P := (pt_Px ax rl (A 3) (A 4) (pt_pt6 (A 13) 0 x0 x1 y0 y1 z0 z1))) (P' := (fun t => ¬ B 3 t = 0 ∧ pt_so rl (pt_mM ax (B 4) (B 5) L G2 (3 * t)) (pt_wM ax (B 4) (B 5) L G2 (3 * t)) (pt_hM ax (B 4) (B 5) L G2 (3 * t)))) hV hN ht] at m8
    refine ⟨by rw [ers, ers', hFC], ?_⟩
    refine ⟨ax, md, N, lz, ts, _, _, _, _, _, ⟨q1, q2, q3, q4, hle⟩, ⟨(x9 0 (by decide)).trans h2a, (x9 1 (by decide)).trans h2b, ?_, (x9 6 (by decide)).trans h2d⟩, ⟨(m10 1 (by decide) (by decide) (by decide) (by decide) (by decide)).trans h3a, (m10 2 (by decide) (by decide) (by decide) (by decide) (by decide)).trans h3b⟩, ?_, ?_, ?_, ⟨⟨g1, g2, g3, g4⟩, ?_, ?_, ?_⟩, x5, m5', ⟨x6, x7, x8⟩, m6, m7, m8⟩
    · rw [x9 2 (by decide), x10 3 (by decide) (by decide) (by decide)]; exact h2c
    · rw [x10 3 (by decide) (by decide) (by decide), m11 3 (by decide) (by decide) (by decide)]; exact h5
    · rw [x10 4 (by decide) (by decide) (by decide), m11 4 (by decide) (by decide) (by decide), m11 5 (by decide) (by decide) (by decide)]; exact h6
    · rw [m11 4 (by decide) (by decide) (by decide), m11 5 (by decide) (by decide) (by decide)]; exact h7
    · unfold pt_XT
      rw [x9 5 (by decide), x10 7 (by decide) (by decide) (by decide), x10 8 (by decide) (by decide) (by decide), x10 9 (by decide) (by decide) (by decide), x10 10 (by decide) (by decide) (by decide), x10 11 (by decide) (by decide) (by decide), x10 12 (by decide) (by decide) (by decide)]
      exact ⟨h9a, h9b, h9c⟩
    · unfold pt_MT
      rw [m10 8 (by decide) (by decide) (by decide) (by decide) (by decide), m11 7 (by decide) (by decide) (by decide), m11 9 (by decide) (by decide) (by decide), m11 10 (by decide) (by decide) (by decide), m11 11 (by decide) (by decide) (by decide), m11 12 (by decide) (by decide) (by decide), m11 13 (by decide) (by decide) (by decide), m11 14 (by decide) (by decide) (by decide)]
      exact ⟨h10a, h10b, h10c⟩
    · rw [x10 3 (by decide) (by decide) (by decide), m11 6 (by decide) (by decide) (by decide)]; exact h13
end PTREL3
