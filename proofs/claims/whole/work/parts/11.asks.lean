/-! range() in words: dn n: up to where the row of things is done behind the first n blocks; vis: a block is looked at -/
noncomputable def pt_dn (tO _ot vd : Nat → Nat) : Nat → Nat
  | 0 => 0
  | b + 1 => pt_if (tO b ≤ pt_dn tO _ot vd b) (pt_dn tO _ot vd b) (pt_if (vd b = 2) (pt_dn tO _ot vd b) (tO b))
def pt_vis (tO ot vd : Nat → Nat) (b : Nat) : Prop := ¬ tO b ≤ pt_dn tO ot vd b
def pt_FB (fr tO ot od vd : Nat → Nat) (th P : Nat → Prop) (b x : Nat) : Prop := pt_vis tO ot vd b ∧ ((vd b = 1 ∧ ∃ k, fr b ≤ k ∧ k < tO b ∧ x = od k ∧ th (od k)) ∨ (vd b = 2 ∧ ot b = 0 ∧ ∃ k, fr b ≤ k ∧ k < tO b ∧ x = od k ∧ P (od k)))
def pt_FD (fr tO ot od vd : Nat → Nat) (th P : Nat → Prop) (n x : Nat) : Prop := ∃ b, b < n ∧ pt_FB fr tO ot od vd th P b x
noncomputable def pt_nA (fr tO od : Nat → Nat) (th : Nat → Prop) (b : Nat) : Nat := pt_cnt (fun k => fr b ≤ k ∧ th (od k)) (tO b)
noncomputable def pt_FC (fr tO ot od vd : Nat → Nat) (th P : Nat → Prop) (n : Nat) : Nat := pt_sum (fun b => pt_if (pt_vis tO ot vd b ∧ vd b = 1) (pt_nA fr tO od th b) (pt_if (pt_vis tO ot vd b ∧ vd b = 2 ∧ ot b = 0) (pt_nA fr tO od P b) 0)) n
noncomputable def pt_FT (fr tO ot od vd : Nat → Nat) (th P : Nat → Prop) (n : Nat) : Nat := pt_sum (fun b => pt_if (pt_vis tO ot vd b ∧ vd b = 1) (pt_nA fr tO od th b) 0) n
noncomputable def pt_OP (tO ot vd : Nat → Nat) (n : Nat) : Nat := pt_cnt (fun b => pt_vis tO ot vd b ∧ vd b = 2) n
noncomputable def pt_SE (tO ot vd : Nat → Nat) (n : Nat) : Nat := pt_cnt (fun b => pt_vis tO ot vd b ∧ ¬ vd b = 2) n
theorem pt_FD_s {fr tO ot od vd : Nat → Nat} {th P : Nat → Prop} {n x : Nat} : pt_FD fr tO ot od vd th P (n + 1) x ↔ pt_FD fr tO ot od vd th P n x ∨ pt_FB fr tO ot od vd th P n x := by
  constructor
  · rintro ⟨b, hb, h⟩
    rcases Nat.lt_or_ge b n with q | q
    · exact Or.inl ⟨b, q, h⟩
    · have : b = n := by omega
      subst this; exact Or.inr h
  · rintro (⟨b, hb, h⟩ | h)
    · exact ⟨b, by omega, h⟩
    · exact ⟨n, by omega, h⟩
theorem pt_FC_s {fr tO ot od vd : Nat → Nat} {th P : Nat → Prop} {n : Nat} : pt_FC fr tO ot od vd th P (n + 1) = pt_FC fr tO ot od vd th P n + pt_if (pt_vis tO ot vd n ∧ vd n = 1) (pt_nA fr tO od th n) (pt_if (pt_vis tO ot vd n ∧ vd n = 2 ∧ ot n = 0) (pt_nA fr tO od P n) 0) := rfl
theorem pt_FT_s {fr tO ot od vd : Nat → Nat} {th P : Nat → Prop} {n : Nat} : pt_FT fr tO ot od vd th P (n + 1) = pt_FT fr tO ot od vd th P n + pt_if (pt_vis tO ot vd n ∧ vd n = 1) (pt_nA fr tO od th n) 0 := rfl
/-- the class's cells behind the first n blocks -/
def pt_AB (fr tO ot od vd : Nat → Nat) (th P : Nat → Prop) (n : Nat) (F : Nat → Int32) (A : Nat → Nat → Int32) : Prop := pt_ask (pt_FD fr tO ot od vd th P n) (pt_FC fr tO ot od vd th P n) F A ∧ A 16 0 = nI (pt_OP tO ot vd n) ∧ A 16 1 = nI (pt_SE tO ot vd n) ∧ A 16 2 = nI (pt_FT fr tO ot od vd th P n)
section PTAB
variable {fr tO ot od vd : Nat → Nat} {th P : Nat → Prop} {n : Nat} {F F' : Nat → Int32} {A A' : Nat → Nat → Int32}
theorem pt_AB_0 (h : pt_ask (fun _ => False) 0 F A) (h3 : ∀ x, x < 3 → A 16 x = nI 0) : pt_AB fr tO ot od vd th P 0 F A :=
  ⟨h.c (fun x => ⟨fun q => q.elim, fun ⟨b, hb, _⟩ => absurd hb (Nat.not_lt_zero _)⟩) rfl, h3 0 (by decide), h3 1 (by decide), h3 2 (by decide)⟩
theorem pt_AB.skip (h : pt_AB fr tO ot od vd th P n F A) (hv : ¬ pt_vis tO ot vd n) : pt_AB fr tO ot od vd th P (n + 1) F A := by
  obtain ⟨ha, h0, h1, h2⟩ := h
  refine ⟨ha.c (fun x => ⟨fun q => pt_FD_s.mpr (Or.inl q), fun q => (pt_FD_s.mp q).elim id (fun q => absurd q.1 hv)⟩) ?_, ?_, ?_, ?_⟩
  · rw [pt_FC_s, pt_if_f (fun q => hv q.1), pt_if_f (fun q => hv q.1)]; rfl
  · rw [h0]; unfold pt_OP; rw [pt_cnt_f (fun q => hv q.1)]
  · rw [h1]; unfold pt_SE; rw [pt_cnt_f (fun q => hv q.1)]
  · rw [h2, pt_FT_s, pt_if_f (fun q => hv q.1)]; rfl
theorem pt_AB.none (h : pt_AB fr tO ot od vd th P n F A) (hv : pt_vis tO ot vd n) (g1 : ¬ vd n = 1) (g2 : ¬ vd n = 2) (e14 : A' 14 = A 14) (e16 : A' 16 = upd (A 16) 1 (nI (pt_SE tO ot vd n + 1))) : pt_AB fr tO ot od vd th P (n + 1) F A' := by
  obtain ⟨ha, h0, h1, h2⟩ := h
  refine ⟨(ha.m rfl e14).c (fun x => ⟨fun q => pt_FD_s.mpr (Or.inl q), fun q => (pt_FD_s.mp q).elim id (fun q => q.2.elim (fun q => absurd q.1 g1) (fun q => absurd q.1 g2))⟩) ?_, ?_, ?_, ?_⟩
  · rw [pt_FC_s, pt_if_f (fun q => g1 q.2), pt_if_f (fun q => g2 q.2.1)]; rfl
  · rw [e16, pt_upd_ne (by decide), h0]; unfold pt_OP; rw [pt_cnt_f (fun q => g2 q.2)]
  · rw [e16, pt_upd]; unfold pt_SE; rw [pt_cnt_t ⟨hv, g2⟩]
  · rw [e16, pt_upd_ne (by decide), h2, pt_FT_s, pt_if_f (fun q => g1 q.2)]; rfl
theorem pt_AB.all (h : pt_AB fr tO ot od vd th P n F A) (hv : pt_vis tO ot vd n) (g1 : vd n = 1) (ha : pt_ask (pt_run (pt_FD fr tO ot od vd th P n) od th (fr n) (tO n)) (pt_FC fr tO ot od vd th P n + pt_cnt (fun k => fr n ≤ k ∧ th (od k)) (tO n)) F' A') (e16 : A' 16 = upd (upd (A 16) 1 (nI (pt_SE tO ot vd n + 1))) 2 (nI (pt_FT fr tO ot od vd th P n + pt_cnt (fun k => fr n ≤ k ∧ th (od k)) (tO n)))) : pt_AB fr tO ot od vd th P (n + 1) F' A' := by
  obtain ⟨_, h0, h1, h2⟩ := h
  have g2 : ¬ vd n = 2 := by omega
  refine ⟨ha.c (fun x => ?_) ?_, ?_, ?_, ?_⟩
  · rw [pt_FD_s]
    constructor
    · rintro (q | ⟨k, k1, k2, k3, k4⟩)
      · exact Or.inl q
      · exact Or.inr ⟨hv, Or.inl ⟨g1, k, k1, k2, k3, k4⟩⟩
    · rintro (q | ⟨_, ⟨_, q⟩ | ⟨q, _⟩⟩)
      · exact Or.inl q
      · exact Or.inr q
      · exact absurd q g2
  · rw [pt_FC_s, pt_if_t ⟨hv, g1⟩]; rfl
  · rw [e16, pt_upd_ne (by decide), pt_upd_ne (by decide), h0]; unfold pt_OP; rw [pt_cnt_f (fun q => g2 q.2)]
  · rw [e16, pt_upd_ne (by decide), pt_upd]; unfold pt_SE; rw [pt_cnt_t ⟨hv, g2⟩]
  · rw [e16, pt_upd, pt_FT_s, pt_if_t ⟨hv, g1⟩]; rfl
theorem pt_AB.part (h : pt_AB fr tO ot od vd th P n F A) (hv : pt_vis tO ot vd n) (g2 : vd n = 2) (go : ¬ ot n = 0) (e14 : A' 14 = A 14) (e16 : A' 16 = upd (A 16) 0 (nI (pt_OP tO ot vd n + 1))) : pt_AB fr tO ot od vd th P (n + 1) F A' := by
  obtain ⟨ha, h0, h1, h2⟩ := h
  have g1 : ¬ vd n = 1 := by omega
  refine ⟨(ha.m rfl e14).c (fun x => ⟨fun q => pt_FD_s.mpr (Or.inl q), fun q => (pt_FD_s.mp q).elim id (fun q => q.2.elim (fun q => absurd q.1 g1) (fun q => absurd q.2.1 go))⟩) ?_, ?_, ?_, ?_⟩
  · rw [pt_FC_s, pt_if_f (fun q => g1 q.2), pt_if_f (fun q => go q.2.2)]; rfl
  · rw [e16, pt_upd]; unfold pt_OP; rw [pt_cnt_t ⟨hv, g2⟩]
  · rw [e16, pt_upd_ne (by decide), h1]; unfold pt_SE; rw [pt_cnt_f (fun q => q.2 g2)]
  · rw [e16, pt_upd_ne (by decide), h2, pt_FT_s, pt_if_f (fun q => g1 q.2)]; rfl
theorem pt_AB.leaf (h : pt_AB fr tO ot od vd th P n F A) (hv : pt_vis tO ot vd n) (g2 : vd n = 2) (go : ot n = 0) (ha : pt_ask (pt_run (pt_FD fr tO ot od vd th P n) od P (fr n) (tO n)) (pt_FC fr tO ot od vd th P n + pt_cnt (fun k => fr n ≤ k ∧ P (od k)) (tO n)) F' A') (e16 : A' 16 = upd (A 16) 0 (nI (pt_OP tO ot vd n + 1))) : pt_AB fr tO ot od vd th P (n + 1) F' A' := by
  obtain ⟨_, h0, h1, h2⟩ := h
  have g1 : ¬ vd n = 1 := by omega
  refine ⟨ha.c (fun x => ?_) ?_, ?_, ?_, ?_⟩
  · rw [pt_FD_s]
    constructor
    · rintro (q | ⟨k, k1, k2, k3, k4⟩)
      · exact Or.inl q
      · exact Or.inr ⟨hv, Or.inr ⟨g2, go, k, k1, k2, k3, k4⟩⟩
    · rintro (q | ⟨_, ⟨q, _⟩ | ⟨_, _, q⟩⟩)
      · exact Or.inl q
      · exact absurd q g1
      · exact Or.inr q
  · rw [pt_FC_s, pt_if_f (fun q => g1 q.2), pt_if_t ⟨hv, g2, go⟩]; rfl
  · rw [e16, pt_upd]; unfold pt_OP; rw [pt_cnt_t ⟨hv, g2⟩]
  · rw [e16, pt_upd_ne (by decide), h1]; unfold pt_SE; rw [pt_cnt_f (fun q => q.2 g2)]
  · rw [e16, pt_upd_ne (by decide), h2, pt_FT_s, pt_if_f (fun q => g1 q.2)]; rfl
theorem pt_dn_skip (hv : ¬ pt_vis tO ot vd n) : pt_dn tO ot vd (n + 1) = pt_dn tO ot vd n := by
  show pt_if _ _ _ = _
  rw [pt_if_t (Classical.not_not.mp hv)]
theorem pt_dn_part (hv : pt_vis tO ot vd n) (g2 : vd n = 2) : pt_dn tO ot vd (n + 1) = pt_dn tO ot vd n := by
  show pt_if _ _ _ = _
  rw [pt_if_f hv, pt_if_t g2]
theorem pt_dn_to (hv : pt_vis tO ot vd n) (g : ¬ vd n = 2) : pt_dn tO ot vd (n + 1) = tO n := by
  show pt_if _ _ _ = _
  rw [pt_if_f hv, pt_if_f g]
end PTAB
theorem pt_dn_le {tO ot vd : Nat → Nat} {m : Nat} : ∀ n, (∀ b, b < n → tO b ≤ m) → pt_dn tO ot vd n ≤ m
  | 0, _ => Nat.zero_le _
  | n + 1, h => by
    have h1 := pt_dn_le (ot := ot) (vd := vd) n (fun b hb => h b (by omega))
    by_cases hv : pt_vis tO ot vd n
    · by_cases g : vd n = 2
      · rw [pt_dn_part hv g]; exact h1
      · rw [pt_dn_to hv g]; exact h n (by omega)
    · rw [pt_dn_skip hv]; exact h1
theorem pt_vd_le (rel : Nat) (mt wi ho : Prop) : pt_vd rel mt wi ho ≤ 2 := by
  unfold pt_vd pt_if
  split
  · split <;> decide
  · split
    · split
      · split <;> decide
      · decide
    · split <;> decide

theorem wd_c_X1_askBlocks_X1_askBlocks_0 : Cond.fieldLink RX1 66 "PointTrees" "blocks" "I" ∈ wsX1_askBlocks := by decide +kernel
theorem wd_c_X1_askBlocks_X1_askBlocks_1 : Cond.fieldLink RX1 35 "PointTrees" "blockTo" "[I" ∈ wsX1_askBlocks := by decide +kernel
theorem wd_c_X1_askBlocks_X1_askBlocks_2 : Cond.fieldLink RX1 53 "PointTrees" "toldCounts" "[I" ∈ wsX1_askBlocks := by decide +kernel
theorem iw_c_X1_askBlocks_wsX10 : ∀ w ∈ wsX10, w ∈ wsX1_askBlocks := fun _ h => List.mem_cons_of_mem _ (List.mem_append_left _ (List.mem_append_right _ h))
theorem iw_c_X1_askBlocks_wsX00 : ∀ w ∈ wsX00, w ∈ wsX1_askBlocks := fun _ h => List.mem_cons_of_mem _ (List.mem_append_right _ h)
set_option maxHeartbeats 4000000 in
set_option maxRecDepth 100000 in
theorem c_X1_askBlocks (l : Launch) (dC : Nat → ClassId) (dI : Nat → Nat → Nat) (a : Nat → Nat) (c : Nat → ClassId) (F : Nat → Int32) (A : Nat → Nat → Int32) (Q : Nat → Int64) (sz : Nat) (ax : Nat) (h0 : F 0 = nI ax) (hax : ax ≤ 3) (nb : Nat) (h5 : F 5 = nI nb) (hnb : nb ≤ 31) (fr tO ot od : Nat → Nat) (N : Nat) (hN64 : N ≤ 64) (htr : ∀ b, b < nb → A 8 b = nI (fr b) ∧ A 9 b = nI (tO b) ∧ A 10 b = nI (ot b) ∧ fr b ≤ tO b ∧ tO b ≤ N ∧ ot b ≤ 31) (hod : ∀ i, i < N → A 7 i = nI (od i) ∧ od i < 64) (rel : Nat) (hrel : rel ≤ 3) (hk : pt_AB fr tO ot od (fun b => pt_vd rel (pt_mee ax (A 12) (A 13) b 0) (pt_wn ax (A 12) (A 13) b 0) (pt_wn ax (A 13) (A 12) 0 b)) (fun t => ¬ A 3 t = 0) (pt_Px ax rel (A 3) (A 4) (A 13)) 0 F A) : Met l yX1_askBlocks wsX1_askBlocks (pt_rm 5) (pt_W (dC, dI) vwCl (pt_xt c) (pt_xw a c F A Q) pt_nw sz [.ref (a 0), .int (nI rel)]) (va_Qv (fun (u : pt_XS) => pt_AB fr tO ot od (fun b => pt_vd rel (pt_mee ax (A 12) (A 13) b 0) (pt_wn ax (A 12) (A 13) b 0) (pt_wn ax (A 13) (A 12) 0 b)) (fun t => ¬ A 3 t = 0) (pt_Px ax rel (A 3) (A 4) (A 13)) nb u.1 u.2.1 ∧ pt_oth F u.1 A u.2.1 ∧ u.2.2 = Q) (fun u t => va_P (dC, dI) vwCl (pt_xw a c u.1 u.2.1 u.2.2) t.heap) (va_A (pt_xw a c F A Q) sz)) 0 0 (va_A (pt_xw a c F A Q) sz) := by
  refine Met.ofW (cc := cX1_askBlocks) (maxL := 5) (ret := none) (by decide) rfl ?_
  intro p e s m args below meth cd s₁ B hml hv
  obtain ⟨rfl, hsz, hP, hK, hN, hD0⟩ := hv
  have hx := B.exec
  have hb := B.bytes
  have hr := B.returns
  have hts := atoms_spec (ws := wsX1_askBlocks) B.pre
  have hown : s.vm.findClass RX1 = some m.cls := findClass_of_methodNamed B.named
  have hlocks := B.notSynchronized
  subst hsz
  have hD := hD0.self (sz := s.heap.size)
  generalize hAe : va_A (pt_xw a c F A Q) s.heap.size = AA at hD ⊢
  have hA : ∀ q : Nat, s.heap.size ≤ q → AA q := fun q h => by rw [← hAe]; exact Or.inr h
  have hS : va_S AA s.heap s.heap [] := va_S.rf
  have hl := lv_entry ([.ref (a 0), .int (nI rel)]) (n := 5) (Nat.le_of_ble_eq_true rfl)
  rw [lg_entry_eq]
  generalize (lg_sl ([.ref (a 0), .int (nI rel)]) ++ List.replicate (5 - (lg_sl ([.ref (a 0), .int (nI rel)])).length) Slot.unset).toArray = ls at hl ⊢
  have hl : lv_has ls 5 [(0, .ref (a 0)), (1, .int (nI rel))] := hl
  refine lv_iconst (v := nI 0) hx hb dX1_askBlocks_0 (by decide) ?_
  refine lv_istore_n (lv' := [(2, .int (nI 0)), (0, .ref (a 0)), (1, .int (nI rel))]) hx hb dX1_askBlocks_1 rfl hl (by decide) rfl (fun ls hl => ?_)
  refine lv_iconst (v := nI 0) hx hb dX1_askBlocks_2 (by decide) ?_
  refine lv_istore_n (lv' := [(3, .int (nI 0)), (2, .int (nI 0)), (0, .ref (a 0)), (1, .int (nI rel))]) hx hb dX1_askBlocks_3 rfl hl (by decide) rfl (fun ls hl => ?_)
  have hdl : ∀ n, n ≤ nb → pt_dn tO ot (fun b => pt_vd rel (pt_mee ax (A 12) (A 13) b 0) (pt_wn ax (A 12) (A 13) b 0) (pt_wn ax (A 13) (A 12) 0 b)) n ≤ 64 := fun n hn => pt_dn_le n (fun b hb => by have := htr b (by omega); omega)
  have hvl : ∀ b, (fun b => pt_vd rel (pt_mee ax (A 12) (A 13) b 0) (pt_wn ax (A 12) (A 13) b 0) (pt_wn ax (A 13) (A 12) 0 b)) b ≤ 2 := fun b => pt_vd_le _ _ _ _
  refine pt_loopW (fun q : Nat × pt_XS => nb - q.1) (fun q ls H locs => q.1 ≤ nb ∧ (pt_AB fr tO ot od (fun b => pt_vd rel (pt_mee ax (A 12) (A 13) b 0) (pt_wn ax (A 12) (A 13) b 0) (pt_wn ax (A 13) (A 12) 0 b)) (fun t => ¬ A 3 t = 0) (pt_Px ax rel (A 3) (A 4) (A 13)) q.1 q.2.1 q.2.2.1 ∧ pt_oth F q.2.1 A q.2.2.1 ∧ q.2.2.2 = Q) ∧ va_P (dC, dI) vwCl (pt_xw a c q.2.1 q.2.2.1 q.2.2.2) H ∧ va_D AA (pt_xw a c q.2.1 q.2.2.1 q.2.2.2) ∧ va_S AA s.heap H locs ∧ lv_has ls 5 [(3, .int (nI q.1)), (2, .int (nI (pt_dn tO ot (fun b => pt_vd rel (pt_mee ax (A 12) (A 13) b 0) (pt_wn ax (A 12) (A 13) b 0) (pt_wn ax (A 13) (A 12) 0 b)) q.1))), (0, .ref (a 0)), (1, .int (nI rel))]) ?_ (0, F, A, Q) _ _ _ ⟨Nat.zero_le _, ⟨hk, pt_oth.rf, rfl⟩, hP, hD, hS, hl⟩
  intro ⟨i, Fi, Ai, Qi⟩ ls H locs ⟨hi, ⟨hki, hoi, hqi⟩, hP, hD, hS, hl⟩ ih
  dsimp only at hi hki hoi hqi hP hD hl ih
  have ki0 : Fi 0 = nI ax := (hoi.1 0 (by decide)).trans h0
  have ki5 : Fi 5 = nI nb := (hoi.1 5 (by decide)).trans h5
  have hdi := hdl i hi
  have hvi := hvl i
  refine lv_iload_n hx hb dX1_askBlocks_4 rfl (lv_at hl 0 rfl) ?_
  refine lv_aload_n hx hb dX1_askBlocks_5 rfl (lv_at hl 2 rfl) ?_
  refine va_get (D := (dC, dI)) (ci := 1) (v := .int (Fi 5)) (C := RX1) (T := TX1) (N := 18) hx hb hts iw_c_X1_askBlocks_wsX10 hown hK hP 0 rfl rfl 5 (by decide) (hts _ wd_c_X1_askBlocks_X1_askBlocks_0) (fun _ h9 => h9) rfl dX1_askBlocks_6 ?_
  refine pt_top (y := nI nb) ki5 ?_
  refine lv_icmp_ge (tgt := 100) hx hb dX1_askBlocks_9 (by decide) (fun c9 => ?_) (fun c9 => ?_)
  · have hie : i = nb := by have := (nI_leI (by omega) (by omega)).mp c9; omega
    subst hie
    exact W.vret hx hb hr (fun zt zh zW => ⟨⟨(Fi, Ai, Qi), rfl, ⟨hki, hoi, hqi⟩, by show va_P _ _ _ zt.heap; rw [zh]; exact hP⟩, hS.F zh⟩) hS.2.2 dX1_askBlocks_100
  · have hlt : i < nb := Nat.not_le.mp (fun q => c9 ((nI_leI (by omega) (by omega)).mpr q))
    obtain ⟨t8, t9, t10, tft, ttN, tot⟩ := htr i hlt
    refine lv_aload_n hx hb dX1_askBlocks_12 rfl (lv_at hl 2 rfl) ?_
    refine va_get (D := (dC, dI)) (ci := 1) (v := .ref (a 9)) (C := RX1) (T := TX1) (N := 18) hx hb hts iw_c_X1_askBlocks_wsX10 hown hK hP 0 rfl rfl 9 (by decide) (hts _ wd_c_X1_askBlocks_X1_askBlocks_1) (fun _ h9 => h9) rfl dX1_askBlocks_13 ?_
    refine lv_iload_n hx hb dX1_askBlocks_16 rfl (lv_at hl 0 rfl) ?_
    refine pt_iald hx hb hK hP 6 4 rfl rfl i rfl (by omega) (by decide) dX1_askBlocks_17 ?_
    refine pt_top (y := nI (tO i)) ((congrFun (hoi.2 9 (by decide) (by decide)) i).trans t9) ?_
    refine lv_iload_n hx hb dX1_askBlocks_18 rfl (lv_at hl 1 rfl) ?_
    refine lv_icmp_gt (tgt := 25) hx hb dX1_askBlocks_19 (by decide) (fun c19 => ?_) (fun c19 => ?_)
    · have hv : pt_vis tO ot (fun b => pt_vd rel (pt_mee ax (A 12) (A 13) b 0) (pt_wn ax (A 12) (A 13) b 0) (pt_wn ax (A 13) (A 12) 0 b)) i := Nat.not_le.mpr ((nI_ltI (by omega) (by omega)).mp c19)
      refine lv_aload_n hx hb dX1_askBlocks_25 rfl (lv_at hl 2 rfl) ?_
      refine lv_iload_n hx hb dX1_askBlocks_26 rfl (lv_at hl 0 rfl) ?_
      refine lv_iload_n hx hb dX1_askBlocks_27 rfl (lv_at hl 3 rfl) ?_
      refine pt_rdi (va_runV (As := [.int (nI i), .int (nI rel)]) (rest := []) ⟨hx, hb, hml, hown, hts⟩ (c_X1_verdictOn l dC dI a c Fi Ai Qi ax ki0 hax i rel (by omega) hrel) (cwV 2 hts gX1_askBlocks_X1_verdictOn rfl rfl rfl (by decide +kernel) ⟨Nat.le_of_ble_eq_true rfl, Nat.le_of_ble_eq_true rfl⟩) (pt_pv1 hP hK hN (q0 := 0) rfl) rfl rfl hl.1 rfl (lv_room (Nat.le_of_ble_eq_true rfl)) dX1_askBlocks_28 ⟨Nat.le_of_ble_eq_true rfl, Nat.le_of_ble_eq_true rfl⟩) (fun r28 hr28 => ?_)
      have hvd : r28 = nI ((fun b => pt_vd rel (pt_mee ax (A 12) (A 13) b 0) (pt_wn ax (A 12) (A 13) b 0) (pt_wn ax (A 13) (A 12) 0 b)) i) := hr28.trans (by rw [hoi.2 12 (by decide) (by decide), hoi.2 13 (by decide) (by decide)])
      refine pt_top (y := nI ((fun b => pt_vd rel (pt_mee ax (A 12) (A 13) b 0) (pt_wn ax (A 12) (A 13) b 0) (pt_wn ax (A 13) (A 12) 0 b)) i)) hvd ?_
      refine lv_istore (lv' := [(4, .int (nI ((fun b => pt_vd rel (pt_mee ax (A 12) (A 13) b 0) (pt_wn ax (A 12) (A 13) b 0) (pt_wn ax (A 13) (A 12) 0 b)) i))), (3, .int (nI i)), (2, .int (nI (pt_dn tO ot (fun b => pt_vd rel (pt_mee ax (A 12) (A 13) b 0) (pt_wn ax (A 12) (A 13) b 0) (pt_wn ax (A 13) (A 12) 0 b)) i))), (0, .ref (a 0)), (1, .int (nI rel))]) hx hb dX1_askBlocks_31 hl (by decide) rfl (fun ls hl => ?_)
      refine lv_iload hx hb dX1_askBlocks_33 (lv_at hl 0 rfl) ?_
      refine lv_iconst (v := nI 2) hx hb dX1_askBlocks_35 (by decide) ?_
      refine lv_icmp_eq (tgt := 70) hx hb dX1_askBlocks_36 (by decide) (fun c36 => ?_) (fun c36 => ?_)
      · have d36 : (fun b => pt_vd rel (pt_mee ax (A 12) (A 13) b 0) (pt_wn ax (A 12) (A 13) b 0) (pt_wn ax (A 13) (A 12) 0 b)) i = 2 := (nI_eq (by omega) (by omega)).mp c36
        refine lv_aload_n hx hb dX1_askBlocks_70 rfl (lv_at hl 3 rfl) ?_
        refine va_get (D := (dC, dI)) (ci := 1) (v := .ref (a 16)) (C := RX1) (T := TX1) (N := 18) hx hb hts iw_c_X1_askBlocks_wsX10 hown hK hP 0 rfl rfl 16 (by decide) (hts _ wd_c_X1_askBlocks_X1_askBlocks_2) (fun _ h9 => h9) rfl dX1_askBlocks_71 ?_
        refine lv_iconst (v := nI 0) hx hb dX1_askBlocks_74 (by decide) ?_
        refine lv_dup2_11 hx hb dX1_askBlocks_75 rfl rfl ?_
        refine pt_iald hx hb hK hP 14 10 rfl rfl 0 rfl (by decide) (by decide) dX1_askBlocks_76 ?_
        refine pt_top (y := nI (pt_OP tO ot (fun b => pt_vd rel (pt_mee ax (A 12) (A 13) b 0) (pt_wn ax (A 12) (A 13) b 0) (pt_wn ax (A 13) (A 12) 0 b)) i)) hki.2.1 ?_
        refine lv_iconst (v := nI 1) hx hb dX1_askBlocks_77 (by decide) ?_
        refine lv_iadd hx hb dX1_askBlocks_78 ?_
        refine pt_top (y := nI ((pt_OP tO ot (fun b => pt_vd rel (pt_mee ax (A 12) (A 13) b 0) (pt_wn ax (A 12) (A 13) b 0) (pt_wn ax (A 13) (A 12) 0 b)) i) + 1)) (nI_add _ _) ?_
        obtain ⟨A1, eA1⟩ : ∃ zz, zz = va_up Ai 16 (upd (Ai 16) 0 (nI ((pt_OP tO ot (fun b => pt_vd rel (pt_mee ax (A 12) (A 13) b 0) (pt_wn ax (A 12) (A 13) b 0) (pt_wn ax (A 13) (A 12) 0 b)) i) + 1))) := ⟨_, rfl⟩
        refine pt_iast hx hb hK hP hD hS 14 10 rfl rfl 0 rfl (by decide) (by decide) (ws' := (pt_xw a c Fi A1 Qi)) (by rw [eA1]; rfl) dX1_askBlocks_79 (fun H locs hP hD hS => ?_)
        have q7 : ∀ j, j ≠ 14 → j ≠ 16 → A1 j = A j := fun j h1 h2 => by rw [eA1, pt_up_ne h2]; exact hoi.2 j h1 h2
        refine lv_aload_n hx hb dX1_askBlocks_80 rfl (lv_at hl 3 rfl) ?_
        refine lv_iload_n hx hb dX1_askBlocks_81 rfl (lv_at hl 1 rfl) ?_
        refine pt_rdi (va_runV (As := [.int (nI i)]) (rest := []) ⟨hx, hb, hml, hown, hts⟩ (c_X1_isParted l dC dI a c Fi A1 Qi i (by omega)) (cwV 1 hts gX1_askBlocks_X1_isParted rfl rfl rfl (by decide +kernel) ⟨Nat.le_of_ble_eq_true rfl, Nat.le_of_ble_eq_true rfl⟩) (pt_pv1 hP hK hN (q0 := 0) rfl) rfl rfl hl.1 rfl (lv_room (Nat.le_of_ble_eq_true rfl)) dX1_askBlocks_82 ⟨Nat.le_of_ble_eq_true rfl, Nat.le_of_ble_eq_true rfl⟩) (fun r82 hr82 => ?_)
        refine lv_if_ne (tgt := 94) hx hb dX1_askBlocks_85 (by decide) (fun c85 => ?_) (fun c85 => ?_)
        · have d85 : ¬ ot i = 0 := fun q => (hr82.t c85) (by rw [q7 10 (by decide) (by decide), t10, q]; rfl)
          refine lv_iinc (v := nI (i + 1)) (lv' := [(3, .int (nI (i + 1))), (4, .int (nI ((fun b => pt_vd rel (pt_mee ax (A 12) (A 13) b 0) (pt_wn ax (A 12) (A 13) b 0) (pt_wn ax (A 13) (A 12) 0 b)) i))), (2, .int (nI (pt_dn tO ot (fun b => pt_vd rel (pt_mee ax (A 12) (A 13) b 0) (pt_wn ax (A 12) (A 13) b 0) (pt_wn ax (A 13) (A 12) 0 b)) i))), (0, .ref (a 0)), (1, .int (nI rel))]) hx hb dX1_askBlocks_94 hl (k := 1) rfl (nI_1 _) (by decide) rfl (fun ls hl => ?_)
          refine lv_goto (tgt := 4) hx hb dX1_askBlocks_97 (by decide) ?_
          have hab := hki.part (A' := A1) hv d36 d85 (by rw [eA1]; exact pt_up_ne (by decide)) (by rw [eA1]; exact pt_up)
          have hdn := pt_dn_part hv d36
          exact ih (i + 1, Fi, A1, Qi) _ _ _ ⟨by show i + 1 ≤ nb; omega, ⟨hab, (hoi.tr ⟨fun _ _ => rfl, fun j _ h2 => by show A1 j = Ai j; rw [eA1]; exact pt_up_ne h2⟩), hqi⟩, hP, hD, hS, by rw [hdn]; exact lv_sub hl [0, 2, 3, 4] rfl⟩ (by show nb - (i + 1) < nb - i; omega)
        · have d85 : ot i = 0 := Classical.byContradiction (fun q => hr82.f c85 (by rw [q7 10 (by decide) (by decide), t10]; exact fun z => q ((nI_eq (b := 0) (by omega) (by omega)).mp z)))
          refine lv_aload_n hx hb dX1_askBlocks_88 rfl (lv_at hl 3 rfl) ?_
          refine lv_iload_n hx hb dX1_askBlocks_89 rfl (lv_at hl 1 rfl) ?_
          refine lv_iload_n hx hb dX1_askBlocks_90 rfl (lv_at hl 4 rfl) ?_
          refine pt_callv (wf := (fun u : pt_XS => pt_xw a c u.1 u.2.1 u.2.2)) (va_runV (As := [.int (nI i), .int (nI rel)]) (rest := []) ⟨hx, hb, hml, hown, hts⟩ (c_X1_askThingsOf l dC dI a c Fi A1 Qi _ ax ki0 hax i (fr i) (tO i) od (by omega) (by rw [q7 8 (by decide) (by decide)]; exact t8) (by rw [q7 9 (by decide) (by decide)]; exact t9) (by omega) tft (fun k _ k2 => by rw [q7 7 (by decide) (by decide)]; exact hod k (by omega)) rel hrel _ _ (hki.1.m rfl (by rw [eA1]; exact pt_up_ne (by decide)))) (cwV 2 hts gX1_askBlocks_X1_askThingsOf rfl rfl rfl (by decide +kernel) ⟨Nat.le_of_ble_eq_true rfl, Nat.le_of_ble_eq_true rfl⟩) (pt_wv1 hP hK hN hD (q0 := 0) rfl) rfl rfl hl.1 rfl (lv_room (Nat.le_of_ble_eq_true rfl)) dX1_askBlocks_91 ⟨Nat.le_of_ble_eq_true rfl, Nat.le_of_ble_eq_true rfl⟩) hD hS hA (fun _ => rfl) (fun u91 H locs hr91 hP hD hS => ?_)
          obtain ⟨F2, A2, Q2⟩ := u91
          obtain ⟨hm2, ho2, he2, hq2⟩ := hr91
          dsimp only at hm2 ho2 he2 hq2 hP hD
          have kF2_0 : F2 0 = nI ax := (ho2.1 0 (by decide)).trans ki0
          have kF2_5 : F2 5 = nI nb := (ho2.1 5 (by decide)).trans ki5
          rw [q7 3 (by decide) (by decide), q7 4 (by decide) (by decide), q7 13 (by decide) (by decide)] at hm2
          refine lv_iinc (v := nI (i + 1)) (lv' := [(3, .int (nI (i + 1))), (4, .int (nI ((fun b => pt_vd rel (pt_mee ax (A 12) (A 13) b 0) (pt_wn ax (A 12) (A 13) b 0) (pt_wn ax (A 13) (A 12) 0 b)) i))), (2, .int (nI (pt_dn tO ot (fun b => pt_vd rel (pt_mee ax (A 12) (A 13) b 0) (pt_wn ax (A 12) (A 13) b 0) (pt_wn ax (A 13) (A 12) 0 b)) i))), (0, .ref (a 0)), (1, .int (nI rel))]) hx hb dX1_askBlocks_94 hl (k := 1) rfl (nI_1 _) (by decide) rfl (fun ls hl => ?_)
          refine lv_goto (tgt := 4) hx hb dX1_askBlocks_97 (by decide) ?_
          have hab := hki.leaf hv d36 d85 hm2 (by rw [he2, eA1, pt_up])
          have hdn := pt_dn_part hv d36
          exact ih (i + 1, F2, A2, Q2) _ _ _ ⟨by show i + 1 ≤ nb; omega, ⟨hab, ((hoi.tr ⟨fun _ _ => rfl, fun j _ h2 => by show A1 j = Ai j; rw [eA1]; exact pt_up_ne h2⟩).tr ho2), (hq2.trans hqi)⟩, hP, hD, hS, by rw [hdn]; exact lv_sub hl [0, 2, 3, 4] rfl⟩ (by show nb - (i + 1) < nb - i; omega)
      · have d36 : ¬ (fun b => pt_vd rel (pt_mee ax (A 12) (A 13) b 0) (pt_wn ax (A 12) (A 13) b 0) (pt_wn ax (A 13) (A 12) 0 b)) i = 2 := fun q => c36 (by rw [q])
        refine lv_aload_n hx hb dX1_askBlocks_39 rfl (lv_at hl 3 rfl) ?_
        refine va_get (D := (dC, dI)) (ci := 1) (v := .ref (a 16)) (C := RX1) (T := TX1) (N := 18) hx hb hts iw_c_X1_askBlocks_wsX10 hown hK hP 0 rfl rfl 16 (by decide) (hts _ wd_c_X1_askBlocks_X1_askBlocks_2) (fun _ h9 => h9) rfl dX1_askBlocks_40 ?_
        refine lv_iconst (v := nI 1) hx hb dX1_askBlocks_43 (by decide) ?_
        refine lv_dup2_11 hx hb dX1_askBlocks_44 rfl rfl ?_
        refine pt_iald hx hb hK hP 14 10 rfl rfl 1 rfl (by decide) (by decide) dX1_askBlocks_45 ?_
        refine pt_top (y := nI (pt_SE tO ot (fun b => pt_vd rel (pt_mee ax (A 12) (A 13) b 0) (pt_wn ax (A 12) (A 13) b 0) (pt_wn ax (A 13) (A 12) 0 b)) i)) hki.2.2.1 ?_
        refine lv_iconst (v := nI 1) hx hb dX1_askBlocks_46 (by decide) ?_
        refine lv_iadd hx hb dX1_askBlocks_47 ?_
        refine pt_top (y := nI ((pt_SE tO ot (fun b => pt_vd rel (pt_mee ax (A 12) (A 13) b 0) (pt_wn ax (A 12) (A 13) b 0) (pt_wn ax (A 13) (A 12) 0 b)) i) + 1)) (nI_add _ _) ?_
        obtain ⟨A3, eA3⟩ : ∃ zz, zz = va_up Ai 16 (upd (Ai 16) 1 (nI ((pt_SE tO ot (fun b => pt_vd rel (pt_mee ax (A 12) (A 13) b 0) (pt_wn ax (A 12) (A 13) b 0) (pt_wn ax (A 13) (A 12) 0 b)) i) + 1))) := ⟨_, rfl⟩
        refine pt_iast hx hb hK hP hD hS 14 10 rfl rfl 1 rfl (by decide) (by decide) (ws' := (pt_xw a c Fi A3 Qi)) (by rw [eA3]; rfl) dX1_askBlocks_48 (fun H locs hP hD hS => ?_)
        refine lv_iload hx hb dX1_askBlocks_49 (lv_at hl 0 rfl) ?_
        refine lv_iconst (v := nI 1) hx hb dX1_askBlocks_51 (by decide) ?_
        refine lv_icmp_ne (tgt := 60) hx hb dX1_askBlocks_52 (by decide) (fun c52 => ?_) (fun c52 => ?_)
        · have d52 : ¬ (fun b => pt_vd rel (pt_mee ax (A 12) (A 13) b 0) (pt_wn ax (A 12) (A 13) b 0) (pt_wn ax (A 13) (A 12) 0 b)) i = 1 := fun q => c52 (by rw [q])
          refine lv_aload_n hx hb dX1_askBlocks_60 rfl (lv_at hl 3 rfl) ?_
          refine va_get (D := (dC, dI)) (ci := 1) (v := .ref (a 9)) (C := RX1) (T := TX1) (N := 18) hx hb hts iw_c_X1_askBlocks_wsX10 hown hK hP 0 rfl rfl 9 (by decide) (hts _ wd_c_X1_askBlocks_X1_askBlocks_1) (fun _ h9 => h9) rfl dX1_askBlocks_61 ?_
          refine lv_iload_n hx hb dX1_askBlocks_64 rfl (lv_at hl 1 rfl) ?_
          refine pt_iald hx hb hK hP 6 4 rfl rfl i rfl (by omega) (by decide) dX1_askBlocks_65 ?_
          refine pt_top (y := nI (tO i)) (by rw [eA3, pt_up_ne (by decide), hoi.2 9 (by decide) (by decide)]; exact t9) ?_
          refine lv_istore_n (lv' := [(2, .int (nI (tO i))), (4, .int (nI ((fun b => pt_vd rel (pt_mee ax (A 12) (A 13) b 0) (pt_wn ax (A 12) (A 13) b 0) (pt_wn ax (A 13) (A 12) 0 b)) i))), (3, .int (nI i)), (0, .ref (a 0)), (1, .int (nI rel))]) hx hb dX1_askBlocks_66 rfl hl (by decide) rfl (fun ls hl => ?_)
          refine lv_goto (tgt := 94) hx hb dX1_askBlocks_67 (by decide) ?_
          refine lv_iinc (v := nI (i + 1)) (lv' := [(3, .int (nI (i + 1))), (2, .int (nI (tO i))), (4, .int (nI ((fun b => pt_vd rel (pt_mee ax (A 12) (A 13) b 0) (pt_wn ax (A 12) (A 13) b 0) (pt_wn ax (A 13) (A 12) 0 b)) i))), (0, .ref (a 0)), (1, .int (nI rel))]) hx hb dX1_askBlocks_94 hl (k := 2) rfl (nI_1 _) (by decide) rfl (fun ls hl => ?_)
          refine lv_goto (tgt := 4) hx hb dX1_askBlocks_97 (by decide) ?_
          have hab := hki.none (A' := A3) hv d52 d36 (by rw [eA3]; exact pt_up_ne (by decide)) (by rw [eA3]; exact pt_up)
          have hdn := pt_dn_to hv d36
          exact ih (i + 1, Fi, A3, Qi) _ _ _ ⟨by show i + 1 ≤ nb; omega, ⟨hab, (hoi.tr ⟨fun _ _ => rfl, fun j _ h2 => by show A3 j = Ai j; rw [eA3]; exact pt_up_ne h2⟩), hqi⟩, hP, hD, hS, by rw [hdn]; exact lv_sub hl [0, 1, 3, 4] rfl⟩ (by show nb - (i + 1) < nb - i; omega)
        · have d52 : (fun b => pt_vd rel (pt_mee ax (A 12) (A 13) b 0) (pt_wn ax (A 12) (A 13) b 0) (pt_wn ax (A 13) (A 12) 0 b)) i = 1 := (nI_eq (by omega) (by omega)).mp c52
          have q7 : ∀ j, j ≠ 14 → j ≠ 16 → A3 j = A j := fun j h1 h2 => by rw [eA3, pt_up_ne h2]; exact hoi.2 j h1 h2
          refine lv_aload_n hx hb dX1_askBlocks_55 rfl (lv_at hl 3 rfl) ?_
          refine lv_iload_n hx hb dX1_askBlocks_56 rfl (lv_at hl 1 rfl) ?_
          refine pt_callv (wf := (fun u : pt_XS => pt_xw a c u.1 u.2.1 u.2.2)) (va_runV (As := [.int (nI i)]) (rest := []) ⟨hx, hb, hml, hown, hts⟩ (c_X1_findAllOf l dC dI a c Fi A3 Qi _ i (fr i) (tO i) od (by omega) (by rw [q7 8 (by decide) (by decide)]; exact t8) (by rw [q7 9 (by decide) (by decide)]; exact t9) (by omega) tft (fun k _ k2 => by rw [q7 7 (by decide) (by decide)]; exact hod k (by omega)) (pt_FT fr tO ot od (fun b => pt_vd rel (pt_mee ax (A 12) (A 13) b 0) (pt_wn ax (A 12) (A 13) b 0) (pt_wn ax (A 13) (A 12) 0 b)) (fun t => ¬ A 3 t = 0) (pt_Px ax rel (A 3) (A 4) (A 13)) i) (by rw [eA3, pt_up, pt_upd_ne (by decide)]; exact hki.2.2.2) _ _ (hki.1.m rfl (by rw [eA3]; exact pt_up_ne (by decide)))) (cwV 1 hts gX1_askBlocks_X1_findAllOf rfl rfl rfl (by decide +kernel) ⟨Nat.le_of_ble_eq_true rfl, Nat.le_of_ble_eq_true rfl⟩) (pt_wv1 hP hK hN hD (q0 := 0) rfl) rfl rfl hl.1 rfl (lv_room (Nat.le_of_ble_eq_true rfl)) dX1_askBlocks_57 ⟨Nat.le_of_ble_eq_true rfl, Nat.le_of_ble_eq_true rfl⟩) hD hS hA (fun _ => rfl) (fun u57 H locs hr57 hP hD hS => ?_)
          obtain ⟨F4, A4, Q4⟩ := u57
          obtain ⟨hm4, ho4, he4, hq4⟩ := hr57
          dsimp only at hm4 ho4 he4 hq4 hP hD
          have kF4_0 : F4 0 = nI ax := (ho4.1 0 (by decide)).trans ki0
          have kF4_5 : F4 5 = nI nb := (ho4.1 5 (by decide)).trans ki5
          rw [q7 3 (by decide) (by decide)] at hm4 he4
          refine lv_aload_n hx hb dX1_askBlocks_60 rfl (lv_at hl 3 rfl) ?_
          refine va_get (D := (dC, dI)) (ci := 1) (v := .ref (a 9)) (C := RX1) (T := TX1) (N := 18) hx hb hts iw_c_X1_askBlocks_wsX10 hown hK hP 0 rfl rfl 9 (by decide) (hts _ wd_c_X1_askBlocks_X1_askBlocks_1) (fun _ h9 => h9) rfl dX1_askBlocks_61 ?_
          refine lv_iload_n hx hb dX1_askBlocks_64 rfl (lv_at hl 1 rfl) ?_
          refine pt_iald hx hb hK hP 6 4 rfl rfl i rfl (by omega) (by decide) dX1_askBlocks_65 ?_
          refine pt_top (y := nI (tO i)) ((congrFun (ho4.2 9 (by decide) (by decide)) i).trans (by rw [q7 9 (by decide) (by decide)]; exact t9)) ?_
          refine lv_istore_n (lv' := [(2, .int (nI (tO i))), (4, .int (nI ((fun b => pt_vd rel (pt_mee ax (A 12) (A 13) b 0) (pt_wn ax (A 12) (A 13) b 0) (pt_wn ax (A 13) (A 12) 0 b)) i))), (3, .int (nI i)), (0, .ref (a 0)), (1, .int (nI rel))]) hx hb dX1_askBlocks_66 rfl hl (by decide) rfl (fun ls hl => ?_)
          refine lv_goto (tgt := 94) hx hb dX1_askBlocks_67 (by decide) ?_
          refine lv_iinc (v := nI (i + 1)) (lv' := [(3, .int (nI (i + 1))), (2, .int (nI (tO i))), (4, .int (nI ((fun b => pt_vd rel (pt_mee ax (A 12) (A 13) b 0) (pt_wn ax (A 12) (A 13) b 0) (pt_wn ax (A 13) (A 12) 0 b)) i))), (0, .ref (a 0)), (1, .int (nI rel))]) hx hb dX1_askBlocks_94 hl (k := 2) rfl (nI_1 _) (by decide) rfl (fun ls hl => ?_)
          refine lv_goto (tgt := 4) hx hb dX1_askBlocks_97 (by decide) ?_
          have hab := hki.all hv d52 hm4 (by rw [he4, eA3, pt_up])
          have hdn := pt_dn_to hv (fun q => absurd (d52.symm.trans q) (by decide))
          exact ih (i + 1, F4, A4, Q4) _ _ _ ⟨by show i + 1 ≤ nb; omega, ⟨hab, ((hoi.tr ⟨fun _ _ => rfl, fun j _ h2 => by show A3 j = Ai j; rw [eA3]; exact pt_up_ne h2⟩).tr ho4), (hq4.trans hqi)⟩, hP, hD, hS, by rw [hdn]; exact lv_sub hl [0, 1, 3, 4] rfl⟩ (by show nb - (i + 1) < nb - i; omega)
    · have hnv : ¬ pt_vis tO ot (fun b => pt_vd rel (pt_mee ax (A 12) (A 13) b 0) (pt_wn ax (A 12) (A 13) b 0) (pt_wn ax (A 13) (A 12) 0 b)) i := fun q => c19 ((nI_ltI (by omega) (by omega)).mpr (Nat.not_le.mp q))
      refine lv_goto (tgt := 94) hx hb dX1_askBlocks_22 (by decide) ?_
      refine lv_iinc (v := nI (i + 1)) (lv' := [(3, .int (nI (i + 1))), (2, .int (nI (pt_dn tO ot (fun b => pt_vd rel (pt_mee ax (A 12) (A 13) b 0) (pt_wn ax (A 12) (A 13) b 0) (pt_wn ax (A 13) (A 12) 0 b)) i))), (0, .ref (a 0)), (1, .int (nI rel))]) hx hb dX1_askBlocks_94 hl (k := 0) rfl (nI_1 _) (by decide) rfl (fun ls hl => ?_)
      refine lv_goto (tgt := 4) hx hb dX1_askBlocks_97 (by decide) ?_
      have hab := hki.skip hnv
      have hdn := pt_dn_skip hnv
      exact ih (i + 1, Fi, Ai, Qi) _ _ _ ⟨by show i + 1 ≤ nb; omega, ⟨hab, hoi, hqi⟩, hP, hD, hS, by rw [hdn]; exact lv_sub hl [0, 1, 2, 3] rfl⟩ (by show nb - (i + 1) < nb - i; omega)

def pt_pt6 (f : Nat → Int32) (x : Nat) (x0 x1 y0 y1 z0 z1 : Int32) : Nat → Int32 := upd (upd (upd (upd (upd (upd f (x * 6 + 0 * 2 + 0) x0) (x * 6 + 0 * 2 + 1) x1) (x * 6 + 1 * 2 + 0) y0) (x * 6 + 1 * 2 + 1) y1) (x * 6 + 2 * 2 + 0) z0) (x * 6 + 2 * 2 + 1) z1
theorem pt_ix3 {k : Int32} (h0 : ¬ k < 0) (h1 : ¬ nI 3 < k) : ∃ t, t < 4 ∧ k = nI t := by
  rcases pk_ix k (n := 4) (by decide) with h | h | h
  · exact absurd h h0
  · exact absurd (Int32.lt_of_lt_of_le (show nI 3 < nI 4 by decide) h) h1
  · exact h

theorem wd_c_X1_range_X1_range_0 : Cond.fieldLink RX1 47 "PointTrees" "asked" "LPointTrees$Boxes;" ∈ wsX1_range := by decide +kernel
theorem wd_c_X1_range_X1_range_1 : Cond.initialized RX0 ∈ wsX1_range := by decide +kernel
theorem wd_c_X1_range_X1_range_2 : Cond.instanceMethod yX0_put ∈ wsX1_range := by decide +kernel
theorem wd_c_X1_range_X1_range_3 : Cond.selects RX0 yX0_put yX0_put ∈ wsX1_range := by decide +kernel
theorem wd_c_X1_range_X1_range_4 : Cond.fieldLink RX1 69 "PointTrees" "firstLoose" "I" ∈ wsX1_range := by decide +kernel
theorem wd_c_X1_range_X1_range_5 : Cond.fieldLink RX1 60 "PointTrees" "made" "I" ∈ wsX1_range := by decide +kernel
theorem wd_c_X1_range_X1_range_6 : Cond.fieldLink RX1 114 "PointTrees" "foundCount" "I" ∈ wsX1_range := by decide +kernel
theorem iw_c_X1_range_wsX10 : ∀ w ∈ wsX10, w ∈ wsX1_range := fun _ h => List.mem_cons_of_mem _ (List.mem_append_left _ (List.mem_append_right _ h))
theorem iw_c_X1_range_wsX00 : ∀ w ∈ wsX00, w ∈ wsX1_range := fun _ h => List.mem_cons_of_mem _ (List.mem_append_right _ h)
set_option maxHeartbeats 4000000 in
set_option maxRecDepth 100000 in
theorem c_X1_range (l : Launch) (dC : Nat → ClassId) (dI : Nat → Nat → Nat) (a : Nat → Nat) (c : Nat → ClassId) (F : Nat → Int32) (A : Nat → Nat → Int32) (Q : Nat → Int64) (sz : Nat) (ax : Nat) (h0 : F 0 = nI ax) (hax : ax ≤ 3) (md : Nat) (h1 : F 1 = nI md) (hmd : md ≤ 64) (nb : Nat) (h5 : F 5 = nI nb) (hnb : nb ≤ 31) (lz : Nat) (h6 : F 6 = nI lz) (hlz : lz ≤ md) (fr tO ot od : Nat → Nat) (N : Nat) (hN64 : N ≤ 64) (htr : ∀ b, b < nb → A 8 b = nI (fr b) ∧ A 9 b = nI (tO b) ∧ A 10 b = nI (ot b) ∧ fr b ≤ tO b ∧ tO b ≤ N ∧ ot b ≤ 31) (hod : ∀ i, i < N → A 7 i = nI (od i) ∧ od i < 64) (rel : Int32) (x0 x1 y0 y1 z0 z1 : Int32) : Met l yX1_range wsX1_range (pt_rm 6) (pt_W (dC, dI) vwCl (pt_xt c) (pt_xw a c F A Q) pt_nw sz [.ref (a 0), .int rel, .int x0, .int x1, .int y0, .int y1, .int z0, .int z1]) (va_Qi (fun (r : Int32) (u : pt_XS) => (¬ (pt_in 4 (fun _ => True) rel ∧ pt_box ax x0 x1 y0 y1 z0 z1) ∧ r = -2 ∧ u = (F, A, Q)) ∨ ∃ rl, rl < 4 ∧ rel = nI rl ∧ pt_box ax x0 x1 y0 y1 z0 z1 ∧ r = nI (pt_FC fr tO ot od (fun b => pt_vd rl (pt_mee ax (A 12) (pt_pt6 (A 13) 0 x0 x1 y0 y1 z0 z1) b 0) (pt_wn ax (A 12) (pt_pt6 (A 13) 0 x0 x1 y0 y1 z0 z1) b 0) (pt_wn ax (pt_pt6 (A 13) 0 x0 x1 y0 y1 z0 z1) (A 12) 0 b)) (fun t => ¬ A 3 t = 0) (pt_Px ax rl (A 3) (A 4) (pt_pt6 (A 13) 0 x0 x1 y0 y1 z0 z1)) nb + pt_cnt (fun k => lz ≤ k ∧ (pt_Px ax rl (A 3) (A 4) (pt_pt6 (A 13) 0 x0 x1 y0 y1 z0 z1)) k) md) ∧ pt_ask (pt_run (pt_FD fr tO ot od (fun b => pt_vd rl (pt_mee ax (A 12) (pt_pt6 (A 13) 0 x0 x1 y0 y1 z0 z1) b 0) (pt_wn ax (A 12) (pt_pt6 (A 13) 0 x0 x1 y0 y1 z0 z1) b 0) (pt_wn ax (pt_pt6 (A 13) 0 x0 x1 y0 y1 z0 z1) (A 12) 0 b)) (fun t => ¬ A 3 t = 0) (pt_Px ax rl (A 3) (A 4) (pt_pt6 (A 13) 0 x0 x1 y0 y1 z0 z1)) nb) (fun k => k) (pt_Px ax rl (A 3) (A 4) (pt_pt6 (A 13) 0 x0 x1 y0 y1 z0 z1)) lz md) (pt_FC fr tO ot od (fun b => pt_vd rl (pt_mee ax (A 12) (pt_pt6 (A 13) 0 x0 x1 y0 y1 z0 z1) b 0) (pt_wn ax (A 12) (pt_pt6 (A 13) 0 x0 x1 y0 y1 z0 z1) b 0) (pt_wn ax (pt_pt6 (A 13) 0 x0 x1 y0 y1 z0 z1) (A 12) 0 b)) (fun t => ¬ A 3 t = 0) (pt_Px ax rl (A 3) (A 4) (pt_pt6 (A 13) 0 x0 x1 y0 y1 z0 z1)) nb + pt_cnt (fun k => lz ≤ k ∧ (pt_Px ax rl (A 3) (A 4) (pt_pt6 (A 13) 0 x0 x1 y0 y1 z0 z1)) k) md) u.1 u.2.1 ∧ (u.2.1 16 0 = nI (pt_OP tO ot (fun b => pt_vd rl (pt_mee ax (A 12) (pt_pt6 (A 13) 0 x0 x1 y0 y1 z0 z1) b 0) (pt_wn ax (A 12) (pt_pt6 (A 13) 0 x0 x1 y0 y1 z0 z1) b 0) (pt_wn ax (pt_pt6 (A 13) 0 x0 x1 y0 y1 z0 z1) (A 12) 0 b)) nb) ∧ u.2.1 16 1 = nI (pt_SE tO ot (fun b => pt_vd rl (pt_mee ax (A 12) (pt_pt6 (A 13) 0 x0 x1 y0 y1 z0 z1) b 0) (pt_wn ax (A 12) (pt_pt6 (A 13) 0 x0 x1 y0 y1 z0 z1) b 0) (pt_wn ax (pt_pt6 (A 13) 0 x0 x1 y0 y1 z0 z1) (A 12) 0 b)) nb) ∧ u.2.1 16 2 = nI (pt_FT fr tO ot od (fun b => pt_vd rl (pt_mee ax (A 12) (pt_pt6 (A 13) 0 x0 x1 y0 y1 z0 z1) b 0) (pt_wn ax (A 12) (pt_pt6 (A 13) 0 x0 x1 y0 y1 z0 z1) b 0) (pt_wn ax (pt_pt6 (A 13) 0 x0 x1 y0 y1 z0 z1) (A 12) 0 b)) (fun t => ¬ A 3 t = 0) (pt_Px ax rl (A 3) (A 4) (pt_pt6 (A 13) 0 x0 x1 y0 y1 z0 z1)) nb)) ∧ (∀ j, j ≠ 15 → u.1 j = F j) ∧ (∀ j, j ≠ 13 → j ≠ 14 → j ≠ 16 → u.2.1 j = A j) ∧ u.2.2 = Q) (fun u t => va_P (dC, dI) vwCl (pt_xw a c u.1 u.2.1 u.2.2) t.heap) (va_A (pt_xw a c F A Q) sz)) 0 0 (va_A (pt_xw a c F A Q) sz) := by
  refine Met.ofW (cc := cX1_range) (maxL := 9) (ret := (some .int)) (by decide) rfl ?_
  intro p e s m args below meth cd s₁ B hml hv
  obtain ⟨rfl, hsz, hP, hK, hN, hD0⟩ := hv
  have hx := B.exec
  have hb := B.bytes
  have hr := B.returns
  have hts := atoms_spec (ws := wsX1_range) B.pre
  have hown : s.vm.findClass RX1 = some m.cls := findClass_of_methodNamed B.named
  have hlocks := B.notSynchronized
  subst hsz
  have hD := hD0.self (sz := s.heap.size)
  generalize hAe : va_A (pt_xw a c F A Q) s.heap.size = AA at hD ⊢
  have hA : ∀ q : Nat, s.heap.size ≤ q → AA q := fun q h => by rw [← hAe]; exact Or.inr h
  have hS : va_S AA s.heap s.heap [] := va_S.rf
  have hl := lv_entry ([.ref (a 0), .int rel, .int x0, .int x1, .int y0, .int y1, .int z0, .int z1]) (n := 9) (Nat.le_of_ble_eq_true rfl)
  rw [lg_entry_eq]
  generalize (lg_sl ([.ref (a 0), .int rel, .int x0, .int x1, .int y0, .int y1, .int z0, .int z1]) ++ List.replicate (9 - (lg_sl ([.ref (a 0), .int rel, .int x0, .int x1, .int y0, .int y1, .int z0, .int z1])).length) Slot.unset).toArray = ls at hl ⊢
  have hl : lv_has ls 9 [(0, .ref (a 0)), (1, .int rel), (2, .int x0), (3, .int x1), (4, .int y0), (5, .int y1), (6, .int z0), (7, .int z1)] := hl
  refine lv_iload_n hx hb dX1_range_0 rfl (lv_at hl 1 rfl) ?_
  refine lv_if_lt (tgt := 26) hx hb dX1_range_1 (by decide) (fun c1 => ?_) (fun c1 => ?_)
  · refine lv_bipush (v := (-2)) hx hb dX1_range_26 (by decide) ?_
    exact W.iret (v := (-2)) hx hb hr (fun zt zh zW => ⟨⟨_, (F, A, Q), rfl, (Or.inl ⟨fun q => by first | exact d23 q.2 | (obtain ⟨t, ht, et, _⟩ := q.1; subst et; first | exact nI_pos (by omega) c1 | exact Int32.not_lt.mpr (nI_le (show t ≤ 3 by omega) (by decide)) c6), rfl, rfl⟩), by show va_P _ _ _ zt.heap; rw [zh]; exact hP⟩, hS.F zh⟩) hS.2.2 dX1_range_28
  · refine lv_iload_n hx hb dX1_range_4 rfl (lv_at hl 1 rfl) ?_
    refine lv_iconst (v := nI 3) hx hb dX1_range_5 (by decide) ?_
    refine lv_icmp_gt (tgt := 26) hx hb dX1_range_6 (by decide) (fun c6 => ?_) (fun c6 => ?_)
    · refine lv_bipush (v := (-2)) hx hb dX1_range_26 (by decide) ?_
      exact W.iret (v := (-2)) hx hb hr (fun zt zh zW => ⟨⟨_, (F, A, Q), rfl, (Or.inl ⟨fun q => by first | exact d23 q.2 | (obtain ⟨t, ht, et, _⟩ := q.1; subst et; first | exact nI_pos (by omega) c1 | exact Int32.not_lt.mpr (nI_le (show t ≤ 3 by omega) (by decide)) c6), rfl, rfl⟩), by show va_P _ _ _ zt.heap; rw [zh]; exact hP⟩, hS.F zh⟩) hS.2.2 dX1_range_28
    · refine lv_aload_n hx hb dX1_range_9 rfl (lv_at hl 0 rfl) ?_
      refine lv_iload_n hx hb dX1_range_10 rfl (lv_at hl 2 rfl) ?_
      refine lv_iload_n hx hb dX1_range_11 rfl (lv_at hl 3 rfl) ?_
      refine lv_iload hx hb dX1_range_12 (lv_at hl 4 rfl) ?_
      refine lv_iload hx hb dX1_range_14 (lv_at hl 5 rfl) ?_
      refine lv_iload hx hb dX1_range_16 (lv_at hl 6 rfl) ?_
      refine lv_iload hx hb dX1_range_18 (lv_at hl 7 rfl) ?_
      refine pt_rdi (va_runV (As := [.int x0, .int x1, .int y0, .int y1, .int z0, .int z1]) (rest := []) ⟨hx, hb, hml, hown, hts⟩ (c_X1_isBox l dC dI a c F A Q ax h0 hax x0 x1 y0 y1 z0 z1) (cwV 6 hts gX1_range_X1_isBox rfl rfl rfl (by decide +kernel) ⟨Nat.le_of_ble_eq_true rfl, Nat.le_of_ble_eq_true rfl⟩) (pt_pv1 hP hK hN (q0 := 0) rfl) rfl rfl hl.1 rfl (lv_room (Nat.le_of_ble_eq_true rfl)) dX1_range_20 ⟨Nat.le_of_ble_eq_true rfl, Nat.le_of_ble_eq_true rfl⟩) (fun r20 hr20 => ?_)
      refine lv_if_ne (tgt := 29) hx hb dX1_range_23 (by decide) (fun c23 => ?_) (fun c23 => ?_)
      · have d23 := hr20.t c23
        obtain ⟨rl, hrl, er⟩ := pt_ix3 c1 c6
        subst er
        refine lv_aload_n hx hb dX1_range_29 rfl (lv_at hl 0 rfl) ?_
        refine va_get (D := (dC, dI)) (ci := 1) (v := .ref (a 13)) (C := RX1) (T := TX1) (N := 18) hx hb hts iw_c_X1_range_wsX10 hown hK hP 0 rfl rfl 13 (by decide) (hts _ wd_c_X1_range_X1_range_0) (fun _ h9 => h9) rfl dX1_range_30 ?_
        refine lv_iconst (v := nI 0) hx hb dX1_range_33 (by decide) ?_
        refine lv_iload_n hx hb dX1_range_34 rfl (lv_at hl 2 rfl) ?_
        refine lv_iload_n hx hb dX1_range_35 rfl (lv_at hl 3 rfl) ?_
        refine lv_iload hx hb dX1_range_36 (lv_at hl 4 rfl) ?_
        refine lv_iload hx hb dX1_range_38 (lv_at hl 5 rfl) ?_
        refine lv_iload hx hb dX1_range_40 (lv_at hl 6 rfl) ?_
        refine lv_iload hx hb dX1_range_42 (lv_at hl 7 rfl) ?_
        refine pt_callv (wf := (fun u => (pt_xw a c F A Q).set 12 (a 33, .inl (c 13, 6, .inl u)))) (va_runVN (As := [.int (nI 0), .int x0, .int x1, .int y0, .int y1, .int z0, .int z1]) (rest := []) ⟨hx, hb, hml, hown, hts⟩ (c_X0_put l dC dI (pt_xt c) (pt_xw a c F A Q) 11 12 8 (a 13) (a 33) (c 13) 6 (A 13) rfl rfl rfl (by decide) _ 0 x0 x1 y0 y1 z0 z1 (by omega)) ⟨va_cnB 7 hts gX1_range_X0_put_n79 rfl rfl rfl (pt_nest hN 1 rfl) (hts _ wd_c_X1_range_X1_range_1) (by decide +kernel) ⟨Nat.le_of_ble_eq_true rfl, Nat.le_of_ble_eq_true rfl⟩, (hts _ wd_c_X1_range_X1_range_2), (hts _ wd_c_X1_range_X1_range_3)⟩ (pt_wv0 hP hK hN hD (q0 := 11) rfl) rfl rfl hl.1 rfl (lv_room (Nat.le_of_ble_eq_true rfl)) dX1_range_44 ⟨Nat.le_of_ble_eq_true rfl, Nat.le_of_ble_eq_true rfl⟩) hD hS hA (fun _ => rfl) (fun u44 H locs hr44 hP hD hS => ?_)
        obtain ⟨A1, eA1⟩ : ∃ zz, zz = va_up A 13 u44 := ⟨_, rfl⟩
        have hP : va_P (dC, dI) vwCl (pt_xw a c F A1 Q) H := by rw [eA1]; exact hP
        have hD : va_D AA (pt_xw a c F A1 Q) := by rw [eA1]; exact hD
        refine lv_aload_n hx hb dX1_range_47 rfl (lv_at hl 0 rfl) ?_
        refine pt_callv (wf := (fun u : pt_XS => pt_xw a c u.1 u.2.1 u.2.2)) (va_runV (As := []) (rest := []) ⟨hx, hb, hml, hown, hts⟩ (c_X1_forgetAsked l dC dI a c F A1 Q _) (cwV 0 hts gX1_range_X1_forgetAsked rfl rfl rfl (by decide +kernel) ⟨Nat.le_of_ble_eq_true rfl, Nat.le_of_ble_eq_true rfl⟩) (pt_wv1 hP hK hN hD (q0 := 0) rfl) rfl rfl hl.1 rfl (lv_room (Nat.le_of_ble_eq_true rfl)) dX1_range_48 ⟨Nat.le_of_ble_eq_true rfl, Nat.le_of_ble_eq_true rfl⟩) hD hS hA (fun _ => rfl) (fun u48 H locs hr48 hP hD hS => ?_)
        obtain ⟨F2, A2, Q2⟩ := u48
        obtain ⟨hm2, hz2, ho2, hq2⟩ := hr48
        dsimp only at hm2 hz2 ho2 hq2 hP hD
        have kF2_0 : F2 0 = nI ax := (ho2.1 0 (by decide)).trans h0
        have kF2_1 : F2 1 = nI md := (ho2.1 1 (by decide)).trans h1
        have kF2_5 : F2 5 = nI nb := (ho2.1 5 (by decide)).trans h5
        have kF2_6 : F2 6 = nI lz := (ho2.1 6 (by decide)).trans h6
        have x13 : A2 13 = (pt_pt6 (A 13) 0 x0 x1 y0 y1 z0 z1) := (ho2.2 13 (by decide) (by decide)).trans (by rw [eA1, pt_up]; exact hr44)
        have xj : ∀ j, j ≠ 13 → j ≠ 14 → j ≠ 16 → A2 j = A j := fun j j1 j2 j3 => (ho2.2 j j2 j3).trans (by rw [eA1]; exact pt_up_ne j1)
        refine lv_aload_n hx hb dX1_range_51 rfl (lv_at hl 0 rfl) ?_
        refine lv_iload_n hx hb dX1_range_52 rfl (lv_at hl 1 rfl) ?_
        refine pt_callv (wf := (fun u : pt_XS => pt_xw a c u.1 u.2.1 u.2.2)) (va_runV (As := [.int (nI rl)]) (rest := []) ⟨hx, hb, hml, hown, hts⟩ (c_X1_askBlocks l dC dI a c F2 A2 Q2 _ ax kF2_0 hax nb kF2_5 hnb fr tO ot od N hN64 (fun b hb9 => by rw [xj 8 (by decide) (by decide) (by decide), xj 9 (by decide) (by decide) (by decide), xj 10 (by decide) (by decide) (by decide)]; exact htr b hb9) (fun i hi => by rw [xj 7 (by decide) (by decide) (by decide)]; exact hod i hi) rl (by omega) (pt_AB_0 hm2 hz2)) (cwV 1 hts gX1_range_X1_askBlocks rfl rfl rfl (by decide +kernel) ⟨Nat.le_of_ble_eq_true rfl, Nat.le_of_ble_eq_true rfl⟩) (pt_wv1 hP hK hN hD (q0 := 0) rfl) rfl rfl hl.1 rfl (lv_room (Nat.le_of_ble_eq_true rfl)) dX1_range_53 ⟨Nat.le_of_ble_eq_true rfl, Nat.le_of_ble_eq_true rfl⟩) hD hS hA (fun _ => rfl) (fun u53 H locs hr53 hP hD hS => ?_)
        obtain ⟨F3, A3, Q3⟩ := u53
        obtain ⟨hm3, ho3, hq3⟩ := hr53
        dsimp only at hm3 ho3 hq3 hP hD
        have kF3_0 : F3 0 = nI ax := (ho3.1 0 (by decide)).trans kF2_0
        have kF3_1 : F3 1 = nI md := (ho3.1 1 (by decide)).trans kF2_1
        have kF3_5 : F3 5 = nI nb := (ho3.1 5 (by decide)).trans kF2_5
        have kF3_6 : F3 6 = nI lz := (ho3.1 6 (by decide)).trans kF2_6
        rw [x13, xj 12 (by decide) (by decide) (by decide), xj 3 (by decide) (by decide) (by decide), xj 4 (by decide) (by decide) (by decide)] at hm3
        refine lv_aload_n hx hb dX1_range_56 rfl (lv_at hl 0 rfl) ?_
        refine va_get (D := (dC, dI)) (ci := 1) (v := .int (F3 6)) (C := RX1) (T := TX1) (N := 18) hx hb hts iw_c_X1_range_wsX10 hown hK hP 0 rfl rfl 6 (by decide) (hts _ wd_c_X1_range_X1_range_4) (fun _ h9 => h9) rfl dX1_range_57 ?_
        refine pt_top (y := nI lz) kF3_6 ?_
        refine lv_istore (lv' := [(8, .int (nI lz)), (0, .ref (a 0)), (1, .int (nI rl)), (2, .int x0), (3, .int x1), (4, .int y0), (5, .int y1), (6, .int z0), (7, .int z1)]) hx hb dX1_range_60 hl (by decide) rfl (fun ls hl => ?_)
        refine pt_loopW (fun q : Nat × pt_XS => md - q.1) (fun q ls H locs => (lz ≤ q.1 ∧ q.1 ≤ md) ∧ (pt_ask (pt_run (pt_FD fr tO ot od (fun b => pt_vd rl (pt_mee ax (A 12) (pt_pt6 (A 13) 0 x0 x1 y0 y1 z0 z1) b 0) (pt_wn ax (A 12) (pt_pt6 (A 13) 0 x0 x1 y0 y1 z0 z1) b 0) (pt_wn ax (pt_pt6 (A 13) 0 x0 x1 y0 y1 z0 z1) (A 12) 0 b)) (fun t => ¬ A 3 t = 0) (pt_Px ax rl (A 3) (A 4) (pt_pt6 (A 13) 0 x0 x1 y0 y1 z0 z1)) nb) (fun k => k) (pt_Px ax rl (A 3) (A 4) (pt_pt6 (A 13) 0 x0 x1 y0 y1 z0 z1)) lz q.1) (pt_FC fr tO ot od (fun b => pt_vd rl (pt_mee ax (A 12) (pt_pt6 (A 13) 0 x0 x1 y0 y1 z0 z1) b 0) (pt_wn ax (A 12) (pt_pt6 (A 13) 0 x0 x1 y0 y1 z0 z1) b 0) (pt_wn ax (pt_pt6 (A 13) 0 x0 x1 y0 y1 z0 z1) (A 12) 0 b)) (fun t => ¬ A 3 t = 0) (pt_Px ax rl (A 3) (A 4) (pt_pt6 (A 13) 0 x0 x1 y0 y1 z0 z1)) nb + pt_cnt (fun k => lz ≤ k ∧ (pt_Px ax rl (A 3) (A 4) (pt_pt6 (A 13) 0 x0 x1 y0 y1 z0 z1)) k) q.1) q.2.1 q.2.2.1 ∧ pt_oth F3 q.2.1 A3 q.2.2.1 ∧ q.2.2.1 16 = A3 16 ∧ q.2.2.2 = Q3) ∧ va_P (dC, dI) vwCl (pt_xw a c q.2.1 q.2.2.1 q.2.2.2) H ∧ va_D AA (pt_xw a c q.2.1 q.2.2.1 q.2.2.2) ∧ va_S AA s.heap H locs ∧ lv_has ls 9 [(8, .int (nI q.1)), (0, .ref (a 0)), (1, .int (nI rl)), (2, .int x0), (3, .int x1), (4, .int y0), (5, .int y1), (6, .int z0), (7, .int z1)]) ?_ (lz, F3, A3, Q3) _ _ _ ⟨⟨Nat.le_refl _, hlz⟩, ⟨hm3.1.c (fun x => pt_run_0) (by show _ = _ + pt_cnt _ lz; rw [pt_cntr_0]; rfl), pt_oth.rf, rfl, rfl⟩, hP, hD, hS, hl⟩
        intro ⟨i, Fi, Ai, Qi⟩ ls H locs ⟨⟨hfi, hit⟩, ⟨hki, hoi, hei, hqi⟩, hP, hD, hS, hl⟩ ih
        dsimp only at hfi hit hki hoi hei hqi hP hD hl ih
        have ki0 : Fi 0 = nI ax := (hoi.1 0 (by decide)).trans kF3_0
        have ki1 : Fi 1 = nI md := (hoi.1 1 (by decide)).trans kF3_1
        have xi : ∀ j, j ≠ 13 → j ≠ 14 → j ≠ 16 → Ai j = A j := fun j j1 j2 j3 => ((hoi.2 j j2 j3).trans (ho3.2 j j2 j3)).trans (xj j j1 j2 j3)
        have xi13 : Ai 13 = (pt_pt6 (A 13) 0 x0 x1 y0 y1 z0 z1) := ((hoi.2 13 (by decide) (by decide)).trans (ho3.2 13 (by decide) (by decide))).trans x13
        refine lv_iload hx hb dX1_range_62 (lv_at hl 0 rfl) ?_
        refine lv_aload_n hx hb dX1_range_64 rfl (lv_at hl 1 rfl) ?_
        refine va_get (D := (dC, dI)) (ci := 1) (v := .int (Fi 1)) (C := RX1) (T := TX1) (N := 18) hx hb hts iw_c_X1_range_wsX10 hown hK hP 0 rfl rfl 1 (by decide) (hts _ wd_c_X1_range_X1_range_5) (fun _ h9 => h9) rfl dX1_range_65 ?_
        refine pt_top (y := nI md) ki1 ?_
        refine lv_icmp_ge (tgt := 84) hx hb dX1_range_68 (by decide) (fun c68 => ?_) (fun c68 => ?_)
        · have hie : i = md := by have := (nI_leI (by omega) (by omega)).mp c68; omega
          rw [hie] at hki
          refine lv_aload_n hx hb dX1_range_84 rfl (lv_at hl 1 rfl) ?_
          refine va_get (D := (dC, dI)) (ci := 1) (v := .int (Fi 15)) (C := RX1) (T := TX1) (N := 18) hx hb hts iw_c_X1_range_wsX10 hown hK hP 0 rfl rfl 15 (by decide) (hts _ wd_c_X1_range_X1_range_6) (fun _ h9 => h9) rfl dX1_range_85 ?_
          exact W.iret (v := (Fi 15)) hx hb hr (fun zt zh zW => ⟨⟨_, (Fi, Ai, Qi), rfl, (Or.inr ⟨rl, hrl, rfl, d23, hki.1, hki, ⟨by show Ai 16 0 = _; rw [hei]; exact hm3.2.1, by show Ai 16 1 = _; rw [hei]; exact hm3.2.2.1, by show Ai 16 2 = _; rw [hei]; exact hm3.2.2.2⟩, fun j hj => ((hoi.1 j hj).trans (ho3.1 j hj)).trans (ho2.1 j hj), xi, hqi.trans (hq3.trans hq2)⟩), by show va_P _ _ _ zt.heap; rw [zh]; exact hP⟩, hS.F zh⟩) hS.2.2 dX1_range_88
        · have hlt : i < md := Nat.not_le.mp (fun q => c68 ((nI_leI (by omega) (by omega)).mpr q))
          refine lv_aload_n hx hb dX1_range_71 rfl (lv_at hl 1 rfl) ?_
          refine lv_iload hx hb dX1_range_72 (lv_at hl 0 rfl) ?_
          refine lv_iload_n hx hb dX1_range_74 rfl (lv_at hl 2 rfl) ?_
          refine pt_callv (wf := (fun u : pt_XS => pt_xw a c u.1 u.2.1 u.2.2)) (va_runV (As := [.int (nI i), .int (nI rl)]) (rest := []) ⟨hx, hb, hml, hown, hts⟩ (c_X1_askThing l dC dI a c Fi Ai Qi _ ax ki0 hax i rl (by omega) (by omega) _ _ hki) (cwV 2 hts gX1_range_X1_askThing rfl rfl rfl (by decide +kernel) ⟨Nat.le_of_ble_eq_true rfl, Nat.le_of_ble_eq_true rfl⟩) (pt_wv1 hP hK hN hD (q0 := 0) rfl) rfl rfl hl.1 rfl (lv_room (Nat.le_of_ble_eq_true rfl)) dX1_range_75 ⟨Nat.le_of_ble_eq_true rfl, Nat.le_of_ble_eq_true rfl⟩) hD hS hA (fun _ => rfl) (fun u75 H locs hr75 hP hD hS => ?_)
          obtain ⟨F4, A4, Q4⟩ := u75
          obtain ⟨hm4, ho4, he4, hq4⟩ := hr75
          dsimp only at hm4 ho4 he4 hq4 hP hD
          have kF4_0 : F4 0 = nI ax := (ho4.1 0 (by decide)).trans ki0
          have kF4_1 : F4 1 = nI md := (ho4.1 1 (by decide)).trans ki1
          refine lv_iinc (v := nI (i + 1)) (lv' := [(8, .int (nI (i + 1))), (0, .ref (a 0)), (1, .int (nI rl)), (2, .int x0), (3, .int x1), (4, .int y0), (5, .int y1), (6, .int z0), (7, .int z1)]) hx hb dX1_range_78 hl (k := 0) rfl (nI_1 _) (by decide) rfl (fun ls hl => ?_)
          refine lv_goto (tgt := 62) hx hb dX1_range_81 (by decide) ?_
          rw [xi13, xi 3 (by decide) (by decide) (by decide), xi 4 (by decide) (by decide) (by decide)] at hm4
          exact ih (i + 1, F4, A4, Q4) _ _ _ ⟨⟨by show lz ≤ i + 1; omega, by show i + 1 ≤ md; omega⟩, ⟨hm4.c (fun x => pt_run_s (od := fun k => k) hfi) (by show _ = _ + pt_cnt _ (i + 1); rw [pt_cntr_s hfi, Nat.add_assoc]), hoi.tr ho4, he4.trans hei, hq4.trans hqi⟩, hP, hD, hS, lv_sub hl [0, 1, 2, 3, 4, 5, 6, 7, 8] rfl⟩ (by show md - (i + 1) < md - i; omega)
      · have d23 := hr20.f c23
        refine lv_bipush (v := (-2)) hx hb dX1_range_26 (by decide) ?_
        exact W.iret (v := (-2)) hx hb hr (fun zt zh zW => ⟨⟨_, (F, A, Q), rfl, (Or.inl ⟨fun q => by first | exact d23 q.2 | (obtain ⟨t, ht, et, _⟩ := q.1; subst et; first | exact nI_pos (by omega) c1 | exact Int32.not_lt.mpr (nI_le (show t ≤ 3 by omega) (by decide)) c6), rfl, rfl⟩), by show va_P _ _ _ zt.heap; rw [zh]; exact hP⟩, hS.F zh⟩) hS.2.2 dX1_range_28
