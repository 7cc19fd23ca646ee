/-- how a tree's blocks lie: nonempty runs; what lies in a block ends in it; the next one that doesn't begins where it ends -/
def pt_TF (nb : Nat) (fr tO ot dp : Nat → Nat) : Prop := (∀ b, b < nb → fr b < tO b) ∧ (∀ b c, b < c → c < nb → (∀ e, b < e → e ≤ c → dp b < dp e) → tO c ≤ tO b) ∧ (∀ b c, b < c → c < nb → (∀ e, b < e → e < c → dp b < dp e) → dp c ≤ dp b → fr c = tO b) ∧ (∀ b, b + 1 < nb → ¬ ot b = 0 → fr (b + 1) = fr b) ∧ ∀ b, b + 1 < nb → ot b = 0 → dp (b + 1) ≤ dp b
section PTST
variable {fr tO ot od vd : Nat → Nat} {th P : Nat → Prop} {n : Nat}
theorem pt_st_none (hv : pt_vis tO ot vd n) (g1 : ¬ vd n = 1) (g2 : ¬ vd n = 2) : (∀ x, pt_FD fr tO ot od vd th P n x ↔ pt_FD fr tO ot od vd th P (n + 1) x) ∧ pt_FC fr tO ot od vd th P n = pt_FC fr tO ot od vd th P (n + 1) ∧ pt_OP tO ot vd n = pt_OP tO ot vd (n + 1) ∧ pt_SE tO ot vd n + 1 = pt_SE tO ot vd (n + 1) ∧ pt_FT fr tO ot od vd th P n = pt_FT fr tO ot od vd th P (n + 1) := by
  refine ⟨fun x => ⟨fun q => pt_FD_s.mpr (Or.inl q), fun q => (pt_FD_s.mp q).elim id (fun q => q.2.elim (fun q => absurd q.1 g1) (fun q => absurd q.1 g2))⟩, ?_, ?_, ?_, ?_⟩
  · rw [pt_FC_s, pt_if_f (fun q => g1 q.2), pt_if_f (fun q => g2 q.2.1)]; rfl
  · unfold pt_OP; rw [pt_cnt_f (fun q => g2 q.2)]
  · unfold pt_SE; rw [pt_cnt_t ⟨hv, g2⟩]
  · rw [pt_FT_s, pt_if_f (fun q => g1 q.2)]; rfl
theorem pt_st_all (hv : pt_vis tO ot vd n) (g1 : vd n = 1) : (∀ x, pt_run (pt_FD fr tO ot od vd th P n) od th (fr n) (tO n) x ↔ pt_FD fr tO ot od vd th P (n + 1) x) ∧ pt_FC fr tO ot od vd th P n + pt_cnt (fun k => fr n ≤ k ∧ th (od k)) (tO n) = pt_FC fr tO ot od vd th P (n + 1) ∧ pt_OP tO ot vd n = pt_OP tO ot vd (n + 1) ∧ pt_SE tO ot vd n + 1 = pt_SE tO ot vd (n + 1) ∧ pt_FT fr tO ot od vd th P n + pt_cnt (fun k => fr n ≤ k ∧ th (od k)) (tO n) = pt_FT fr tO ot od vd th P (n + 1) := by
  have g2 : ¬ vd n = 2 := by omega
  refine ⟨fun x => ?_, ?_, ?_, ?_, ?_⟩
  · rw [pt_FD_s]
    constructor
    · rintro (q | ⟨k, k1, k2, k3, k4⟩)
      · exact Or.inl q
      · exact Or.inr ⟨hv, Or.inl ⟨g1, k, k1, k2, k3, k4⟩⟩
    · rintro (q | ⟨_, ⟨_, q⟩ | ⟨q, _⟩⟩)
      · exact Or.inl q
      · exact Or.inr q
      · exact absurd q g2
  · rw [pt_FC_s, pt_if_t ⟨hv, g1⟩]; rfl
  · unfold pt_OP; rw [pt_cnt_f (fun q => g2 q.2)]
  · unfold pt_SE; rw [pt_cnt_t ⟨hv, g2⟩]
  · rw [pt_FT_s, pt_if_t ⟨hv, g1⟩]; rfl
theorem pt_st_open (hv : pt_vis tO ot vd n) (g2 : vd n = 2) : (∀ x, pt_run (pt_FD fr tO ot od vd th P n) od (fun t => ot n = 0 ∧ P t) (fr n) (tO n) x ↔ pt_FD fr tO ot od vd th P (n + 1) x) ∧ pt_FC fr tO ot od vd th P n + pt_cnt (fun k => fr n ≤ k ∧ (ot n = 0 ∧ P (od k))) (tO n) = pt_FC fr tO ot od vd th P (n + 1) ∧ pt_OP tO ot vd n + 1 = pt_OP tO ot vd (n + 1) ∧ pt_SE tO ot vd n = pt_SE tO ot vd (n + 1) ∧ pt_FT fr tO ot od vd th P n = pt_FT fr tO ot od vd th P (n + 1) := by
  have g1 : ¬ vd n = 1 := by omega
  refine ⟨fun x => ?_, ?_, ?_, ?_, ?_⟩
  · rw [pt_FD_s]
    constructor
    · rintro (q | ⟨k, k1, k2, k3, k4, k5⟩)
      · exact Or.inl q
      · exact Or.inr ⟨hv, Or.inr ⟨g2, k4, k, k1, k2, k3, k5⟩⟩
    · rintro (q | ⟨_, ⟨q, _⟩ | ⟨_, go, k, k1, k2, k3, k5⟩⟩)
      · exact Or.inl q
      · exact absurd q g1
      · exact Or.inr ⟨k, k1, k2, k3, go, k5⟩
  · rw [pt_FC_s, pt_if_f (fun q => g1 q.2)]
    by_cases go : ot n = 0
    · rw [pt_if_t ⟨hv, g2, go⟩]
      unfold pt_nA
      rw [pt_cnt_c (q := fun k => fr n ≤ k ∧ P (od k)) _ (fun i _ => ⟨fun q => ⟨q.1, q.2.2⟩, fun q => ⟨q.1, go, q.2⟩⟩)]
    · rw [pt_if_f (fun q => go q.2.2), pt_cnt_none _ (fun i _ q => go q.2.1)]
  · unfold pt_OP; rw [pt_cnt_t ⟨hv, g2⟩]
  · unfold pt_SE; rw [pt_cnt_f (fun q => q.2 g2)]
  · rw [pt_FT_s, pt_if_f (fun q => g1 q.2)]; rfl
theorem pt_st_skip : ∀ m, (∀ c, n ≤ c → c < n + m → ¬ pt_vis tO ot vd c) → (∀ x, pt_FD fr tO ot od vd th P n x ↔ pt_FD fr tO ot od vd th P (n + m) x) ∧ pt_FC fr tO ot od vd th P n = pt_FC fr tO ot od vd th P (n + m) ∧ pt_OP tO ot vd n = pt_OP tO ot vd (n + m) ∧ pt_SE tO ot vd n = pt_SE tO ot vd (n + m) ∧ pt_FT fr tO ot od vd th P n = pt_FT fr tO ot od vd th P (n + m)
  | 0, _ => ⟨fun _ => Iff.rfl, rfl, rfl, rfl, rfl⟩
  | m + 1, h => by
    obtain ⟨i1, i2, i3, i4, i5⟩ := pt_st_skip m (fun c h1 h2 => h c h1 (by omega))
    have hv := h (n + m) (by omega) (by omega)
    refine ⟨fun x => (i1 x).trans ⟨fun q => pt_FD_s.mpr (Or.inl q), fun q => (pt_FD_s.mp q).elim id (fun q => absurd q.1 hv)⟩, ?_, ?_, ?_, ?_⟩
    · rw [i2, ← Nat.add_assoc, pt_FC_s, pt_if_f (fun q => hv q.1), pt_if_f (fun q => hv q.1)]; rfl
    · rw [i3, ← Nat.add_assoc]; unfold pt_OP; rw [pt_cnt_f (fun q => hv q.1)]
    · rw [i4, ← Nat.add_assoc]; unfold pt_SE; rw [pt_cnt_f (fun q => hv q.1)]
    · rw [i5, ← Nat.add_assoc, pt_FT_s, pt_if_f (fun q => hv q.1)]; rfl
/-- behind a settled block: what lies in it is passed over -/
theorem pt_dn_run (h1 : pt_dn tO ot vd (n + 1) = tO n) : ∀ m, (∀ c, n < c → c < n + 1 + m → tO c ≤ tO n) → pt_dn tO ot vd (n + 1 + m) = tO n ∧ ∀ c, n + 1 ≤ c → c < n + 1 + m → ¬ pt_vis tO ot vd c
  | 0, _ => ⟨h1, fun c a b => by omega⟩
  | m + 1, h => by
    obtain ⟨i1, i2⟩ := pt_dn_run h1 m (fun c a b => h c a (by omega))
    have hv : ¬ pt_vis tO ot vd (n + 1 + m) := fun q => q (by rw [i1]; exact h (n + 1 + m) (by omega) (by omega))
    refine ⟨by rw [← Nat.add_assoc, pt_dn_skip hv]; exact i1, fun c a b => ?_⟩
    rcases Nat.lt_or_ge c (n + 1 + m) with q | q
    · exact i2 c a q
    · rw [show c = n + 1 + m by omega]; exact hv
theorem pt_dn_next {nb b : Nat} {dp : Nat → Nat} (hTF : pt_TF nb fr tO ot dp) (hd : pt_dn tO ot vd n = tO b) (hbn : b < n) (hnx : n = nb ∨ (n < nb ∧ dp n ≤ dp b)) (hdeep : ∀ e, b < e → e < n → dp b < dp e) (hn : n < nb) : pt_dn tO ot vd n ≤ fr n := by
  rcases hnx with q | q
  · omega
  · rw [hd, hTF.2.2.1 b n hbn hn hdeep q.2]; exact Nat.le_refl _
theorem pt_dn_open {nb b : Nat} {dp : Nat → Nat} (hTF : pt_TF nb fr tO ot dp) (hv : pt_vis tO ot vd b) (g2 : vd b = 2) (hd : pt_dn tO ot vd b ≤ fr b) (hb : b + 1 < nb) : pt_dn tO ot vd (b + 1) ≤ fr (b + 1) := by
  by_cases go : ot b = 0
  · rw [pt_dn_part hv g2, hTF.2.2.1 b (b + 1) (by omega) hb (fun e h1 h2 => by omega) (hTF.2.2.2.2 b hb go)]; exact Nat.le_trans hd (Nat.le_of_lt (hTF.1 b (by omega)))
  · rw [pt_dn_part hv g2, hTF.2.2.2.1 b hb go]; exact hd
end PTST

theorem wd_c_X2_range_X2_range_0 : Cond.fieldLink RX2 69 "PointTreesModel" "thrown" "I" ∈ wsX2_range := by decide +kernel
theorem wd_c_X2_range_X2_range_1 : Cond.fieldLink RX2 80 "PointTreesModel" "foundMany" "I" ∈ wsX2_range := by decide +kernel
theorem wd_c_X2_range_X2_range_2 : Cond.fieldLink RX2 83 "PointTreesModel" "opened" "I" ∈ wsX2_range := by decide +kernel
theorem wd_c_X2_range_X2_range_3 : Cond.fieldLink RX2 86 "PointTreesModel" "settled" "I" ∈ wsX2_range := by decide +kernel
theorem wd_c_X2_range_X2_range_4 : Cond.fieldLink RX2 89 "PointTreesModel" "foundThere" "I" ∈ wsX2_range := by decide +kernel
theorem wd_c_X2_range_X2_range_5 : Cond.fieldLink RX2 77 "PointTreesModel" "blocks" "I" ∈ wsX2_range := by decide +kernel
theorem wd_c_X2_range_X2_range_6 : Cond.fieldLink RX2 72 "PointTreesModel" "made" "I" ∈ wsX2_range := by decide +kernel
theorem wd_c_X2_range_X2_range_7 : Cond.fieldLink RX2 13 "PointTreesModel" "there" "[Z" ∈ wsX2_range := by decide +kernel
theorem wd_c_X2_range_X2_range_8 : Cond.fieldLink RX2 24 "PointTreesModel" "inTree" "[Z" ∈ wsX2_range := by decide +kernel
theorem wd_c_X2_range_X2_range_9 : Cond.fieldLink RX2 17 "PointTreesModel" "lows" "[I" ∈ wsX2_range := by decide +kernel
theorem wd_c_X2_range_X2_range_10 : Cond.fieldLink RX2 21 "PointTreesModel" "highs" "[I" ∈ wsX2_range := by decide +kernel
theorem wd_c_X2_range_X2_range_11 : Cond.fieldLink RX2 30 "PointTreesModel" "froms" "[I" ∈ wsX2_range := by decide +kernel
theorem wd_c_X2_range_X2_range_12 : Cond.fieldLink RX2 33 "PointTreesModel" "manys" "[I" ∈ wsX2_range := by decide +kernel
theorem wd_c_X2_range_X2_range_13 : Cond.fieldLink RX2 27 "PointTreesModel" "row" "[I" ∈ wsX2_range := by decide +kernel
theorem wd_c_X2_range_X2_range_14 : Cond.fieldLink RX2 39 "PointTreesModel" "depths" "[I" ∈ wsX2_range := by decide +kernel
theorem wd_c_X2_range_X2_range_15 : Cond.fieldLink RX2 66 "PointTreesModel" "isFound" "[Z" ∈ wsX2_range := by decide +kernel
theorem iw_c_X2_range_wsX20 : ∀ w ∈ wsX20, w ∈ wsX2_range := fun _ h => List.mem_cons_of_mem _ (List.mem_append_right _ h)
set_option maxHeartbeats 4000000 in
set_option maxRecDepth 100000 in
theorem c_X2_range (l : Launch) (dC : Nat → ClassId) (dI : Nat → Nat → Nat) (a : Nat → Nat) (c : Nat → ClassId) (F : Nat → Int32) (A : Nat → Nat → Int32) (sz : Nat) (ax : Nat) (h1 : F 1 = nI ax) (hax : ax ≤ 3) (hax1 : 1 ≤ ax) (md : Nat) (h2 : F 2 = nI md) (hmd : md ≤ 64) (nb : Nat) (h8 : F 8 = nI nb) (hnb : nb ≤ 31) (fr tO ot od mn dp : Nat → Nat) (N : Nat) (hN64 : N ≤ 64) (htr : ∀ b, b < nb → A 9 b = nI (fr b) ∧ A 10 b = nI (mn b) ∧ A 12 b = nI (dp b) ∧ tO b = fr b + mn b ∧ tO b ≤ N ∧ (mn b ≤ 4 ↔ ot b = 0) ∧ dp b ≤ 64) (hod : ∀ i, i < N → A 7 i = nI (od i) ∧ od i < 64) (hTF : pt_TF nb fr tO ot dp) (rel : Int32) (x0 x1 y0 y1 z0 z1 : Int32) : Met l yX2_range wsX2_range (pt_rm 2) (pt_W (dC, dI) vwCl (pt_mt c) (pt_mw a c F A) pt_nw sz [.ref (a 0), .int rel, .int x0, .int x1, .int y0, .int y1, .int z0, .int z1]) (va_Qi (fun (r : Int32) (u : pt_MS) => (¬ (pt_in 4 (fun _ => True) rel ∧ pt_box ax x0 x1 y0 y1 z0 z1) ∧ r = -2 ∧ u.1 = (upd F 0 (nI 0)) ∧ ∀ j, j ≠ 20 → j ≠ 21 → u.2 j = A j) ∨ ∃ (rl : Nat) (L G : Nat → Int32), rl < 4 ∧ rel = nI rl ∧ pt_box ax x0 x1 y0 y1 z0 z1 ∧ (∀ q, q < ax → L q = pt_3 x0 y0 z0 q ∧ G q = pt_3 x1 y1 z1 q) ∧ r = nI (pt_FC fr tO ot od (fun b => pt_vd rl (pt_mM ax (A 13) (A 14) L G (3 * b)) (pt_wM ax (A 13) (A 14) L G (3 * b)) (pt_hM ax (A 13) (A 14) L G (3 * b))) (fun t => ¬ A 3 t = 0) (fun t => ¬ A 3 t = 0 ∧ pt_so rl (pt_mM ax (A 4) (A 5) L G (3 * t)) (pt_wM ax (A 4) (A 5) L G (3 * t)) (pt_hM ax (A 4) (A 5) L G (3 * t))) nb + pt_cnt (fun k => 0 ≤ k ∧ (fun t => ¬ A 3 t = 0 ∧ A 6 t = 0 ∧ pt_so rl (pt_mM ax (A 4) (A 5) L G (3 * t)) (pt_wM ax (A 4) (A 5) L G (3 * t)) (pt_hM ax (A 4) (A 5) L G (3 * t))) k) md) ∧ pt_aM (pt_run (pt_FD fr tO ot od (fun b => pt_vd rl (pt_mM ax (A 13) (A 14) L G (3 * b)) (pt_wM ax (A 13) (A 14) L G (3 * b)) (pt_hM ax (A 13) (A 14) L G (3 * b))) (fun t => ¬ A 3 t = 0) (fun t => ¬ A 3 t = 0 ∧ pt_so rl (pt_mM ax (A 4) (A 5) L G (3 * t)) (pt_wM ax (A 4) (A 5) L G (3 * t)) (pt_hM ax (A 4) (A 5) L G (3 * t))) nb) (fun k => k) (fun t => ¬ A 3 t = 0 ∧ A 6 t = 0 ∧ pt_so rl (pt_mM ax (A 4) (A 5) L G (3 * t)) (pt_wM ax (A 4) (A 5) L G (3 * t)) (pt_hM ax (A 4) (A 5) L G (3 * t))) 0 md) (pt_FC fr tO ot od (fun b => pt_vd rl (pt_mM ax (A 13) (A 14) L G (3 * b)) (pt_wM ax (A 13) (A 14) L G (3 * b)) (pt_hM ax (A 13) (A 14) L G (3 * b))) (fun t => ¬ A 3 t = 0) (fun t => ¬ A 3 t = 0 ∧ pt_so rl (pt_mM ax (A 4) (A 5) L G (3 * t)) (pt_wM ax (A 4) (A 5) L G (3 * t)) (pt_hM ax (A 4) (A 5) L G (3 * t))) nb + pt_cnt (fun k => 0 ≤ k ∧ (fun t => ¬ A 3 t = 0 ∧ A 6 t = 0 ∧ pt_so rl (pt_mM ax (A 4) (A 5) L G (3 * t)) (pt_wM ax (A 4) (A 5) L G (3 * t)) (pt_hM ax (A 4) (A 5) L G (3 * t))) k) md) u.1 u.2 ∧ (u.1 24 = nI (pt_OP tO ot (fun b => pt_vd rl (pt_mM ax (A 13) (A 14) L G (3 * b)) (pt_wM ax (A 13) (A 14) L G (3 * b)) (pt_hM ax (A 13) (A 14) L G (3 * b))) nb) ∧ u.1 25 = nI (pt_SE tO ot (fun b => pt_vd rl (pt_mM ax (A 13) (A 14) L G (3 * b)) (pt_wM ax (A 13) (A 14) L G (3 * b)) (pt_hM ax (A 13) (A 14) L G (3 * b))) nb) ∧ u.1 26 = nI (pt_FT fr tO ot od (fun b => pt_vd rl (pt_mM ax (A 13) (A 14) L G (3 * b)) (pt_wM ax (A 13) (A 14) L G (3 * b)) (pt_hM ax (A 13) (A 14) L G (3 * b))) (fun t => ¬ A 3 t = 0) (fun t => ¬ A 3 t = 0 ∧ pt_so rl (pt_mM ax (A 4) (A 5) L G (3 * t)) (pt_wM ax (A 4) (A 5) L G (3 * t)) (pt_hM ax (A 4) (A 5) L G (3 * t))) nb)) ∧ u.1 0 = nI 0 ∧ (∀ j, j ≠ 0 → j ≠ 23 → j ≠ 24 → j ≠ 25 → j ≠ 26 → u.1 j = F j) ∧ (∀ j, j ≠ 20 → j ≠ 21 → j ≠ 22 → u.2 j = A j)) (fun u t => va_P (dC, dI) vwCl (pt_mw a c u.1 u.2) t.heap) (va_A (pt_mw a c F A) sz)) 0 0 (va_A (pt_mw a c F A) sz) := by
  refine Met.ofW (cc := cX2_range) (maxL := 13) (ret := (some .int)) (by decide) rfl ?_
  intro p e s m args below meth cd s₁ B hml hv
  obtain ⟨rfl, hsz, hP, hK, hN, hD0⟩ := hv
  have hx := B.exec
  have hb := B.bytes
  have hr := B.returns
  have hts := atoms_spec (ws := wsX2_range) B.pre
  have hown : s.vm.findClass RX2 = some m.cls := findClass_of_methodNamed B.named
  have hlocks := B.notSynchronized
  subst hsz
  have hD := hD0.self (sz := s.heap.size)
  generalize hAe : va_A (pt_mw a c F A) s.heap.size = AA at hD ⊢
  have hA : ∀ q : Nat, s.heap.size ≤ q → AA q := fun q h => by rw [← hAe]; exact Or.inr h
  have hS : va_S AA s.heap s.heap [] := va_S.rf
  have hl := lv_entry ([.ref (a 0), .int rel, .int x0, .int x1, .int y0, .int y1, .int z0, .int z1]) (n := 13) (Nat.le_of_ble_eq_true rfl)
  rw [lg_entry_eq]
  generalize (lg_sl ([.ref (a 0), .int rel, .int x0, .int x1, .int y0, .int y1, .int z0, .int z1]) ++ List.replicate (13 - (lg_sl ([.ref (a 0), .int rel, .int x0, .int x1, .int y0, .int y1, .int z0, .int z1])).length) Slot.unset).toArray = ls at hl ⊢
  have hl : lv_has ls 13 [(0, .ref (a 0)), (1, .int rel), (2, .int x0), (3, .int x1), (4, .int y0), (5, .int y1), (6, .int z0), (7, .int z1)] := hl
  refine lv_aload_n hx hb dX2_range_0 rfl (lv_at hl 0 rfl) ?_
  refine lv_iconst (v := nI 0) hx hb dX2_range_1 (by decide) ?_
  obtain ⟨F1, eF1⟩ : ∃ zz, zz = upd F 0 (nI 0) := ⟨_, rfl⟩
  refine va_put (D := (dC, dI)) (ci := 2) (v := .int (nI 0)) (ty := .int) (C := RX2) (T := TX2) (N := 27) hx hb hts iw_c_X2_range_wsX20 tyX2 tyX2_ok nmX2 hown hK hP hD hS 0 rfl rfl 0 (by decide) (hts _ wd_c_X2_range_X2_range_0) (fun _ h9 => h9) rfl (by decide +kernel) rfl rfl (Nat.le_of_ble_eq_true rfl) dX2_range_2 (fun H locs hP hD hS => ?_)
  have hP : va_P (dC, dI) vwCl (pt_mw a c F1 A) H := by rw [eF1]; exact hP
  have hD : va_D AA (pt_mw a c F1 A) := by rw [eF1]; exact hD
  have kF1_1 : F1 1 = nI ax := by rw [eF1, pt_upd_ne (by decide)]; exact h1
  have kF1_2 : F1 2 = nI md := by rw [eF1, pt_upd_ne (by decide)]; exact h2
  have kF1_8 : F1 8 = nI nb := by rw [eF1, pt_upd_ne (by decide)]; exact h8
  have kF1_0 : F1 0 = nI 0 := by rw [eF1, pt_upd]
  refine lv_iload_n hx hb dX2_range_5 rfl (lv_at hl 1 rfl) ?_
  refine lv_if_lt (tgt := 31) hx hb dX2_range_6 (by decide) (fun c6 => ?_) (fun c6 => ?_)
  · refine lv_bipush (v := (-2)) hx hb dX2_range_31 (by decide) ?_
    exact W.iret (v := (-2)) hx hb hr (fun zt zh zW => ⟨⟨_, (F1, A), rfl, (Or.inl ⟨fun q => by first | exact d28 q.2 | (obtain ⟨t, ht, et, _⟩ := q.1; subst et; first | exact nI_pos (by omega) c6 | exact Int32.not_lt.mpr (nI_le (show t ≤ 3 by omega) (by decide)) c11), rfl, by show F1 = _; rw [eF1], fun _ _ _ => rfl⟩), by show va_P _ _ _ zt.heap; rw [zh]; exact hP⟩, hS.F zh⟩) hS.2.2 dX2_range_33
  · refine lv_iload_n hx hb dX2_range_9 rfl (lv_at hl 1 rfl) ?_
    refine lv_iconst (v := nI 3) hx hb dX2_range_10 (by decide) ?_
    refine lv_icmp_gt (tgt := 31) hx hb dX2_range_11 (by decide) (fun c11 => ?_) (fun c11 => ?_)
    · refine lv_bipush (v := (-2)) hx hb dX2_range_31 (by decide) ?_
      exact W.iret (v := (-2)) hx hb hr (fun zt zh zW => ⟨⟨_, (F1, A), rfl, (Or.inl ⟨fun q => by first | exact d28 q.2 | (obtain ⟨t, ht, et, _⟩ := q.1; subst et; first | exact nI_pos (by omega) c6 | exact Int32.not_lt.mpr (nI_le (show t ≤ 3 by omega) (by decide)) c11), rfl, by show F1 = _; rw [eF1], fun _ _ _ => rfl⟩), by show va_P _ _ _ zt.heap; rw [zh]; exact hP⟩, hS.F zh⟩) hS.2.2 dX2_range_33
    · refine lv_aload_n hx hb dX2_range_14 rfl (lv_at hl 0 rfl) ?_
      refine lv_iload_n hx hb dX2_range_15 rfl (lv_at hl 2 rfl) ?_
      refine lv_iload_n hx hb dX2_range_16 rfl (lv_at hl 3 rfl) ?_
      refine lv_iload hx hb dX2_range_17 (lv_at hl 4 rfl) ?_
      refine lv_iload hx hb dX2_range_19 (lv_at hl 5 rfl) ?_
      refine lv_iload hx hb dX2_range_21 (lv_at hl 6 rfl) ?_
      refine lv_iload hx hb dX2_range_23 (lv_at hl 7 rfl) ?_
      refine pt_calli (wf := (fun u : pt_MS => pt_mw a c u.1 u.2)) (va_runV (As := [.int x0, .int x1, .int y0, .int y1, .int z0, .int z1]) (rest := []) ⟨hx, hb, hml, hown, hts⟩ (c_X2_tells l dC dI a c F1 A _ ax kF1_1 hax x0 x1 y0 y1 z0 z1) (cwV 6 hts gX2_range_X2_tells rfl rfl rfl (by decide +kernel) ⟨Nat.le_of_ble_eq_true rfl, Nat.le_of_ble_eq_true rfl⟩) (pt_wv2 hP hK hN hD (q0 := 0) rfl) rfl rfl hl.1 rfl (lv_room (Nat.le_of_ble_eq_true rfl)) dX2_range_25 ⟨Nat.le_of_ble_eq_true rfl, Nat.le_of_ble_eq_true rfl⟩) hD hS hA (fun _ => rfl) (fun r25 u25 H locs hr25 hP hD hS => ?_)
      obtain ⟨F2, A2⟩ := u25
      obtain ⟨hb2, hw2, hf2, ho2⟩ := hr25
      dsimp only at hb2 hw2 hf2 ho2 hP hD
      rw [pt_box_all hax1 hax] at hb2
      have kF2_1 : F2 1 = nI ax := by rw [hf2]; exact kF1_1
      have kF2_2 : F2 2 = nI md := by rw [hf2]; exact kF1_2
      have kF2_8 : F2 8 = nI nb := by rw [hf2]; exact kF1_8
      have kF2_0 : F2 0 = nI 0 := by rw [hf2]; exact kF1_0
      refine lv_if_ne (tgt := 34) hx hb dX2_range_28 (by decide) (fun c28 => ?_) (fun c28 => ?_)
      · have d28 := hb2.t c28
        obtain ⟨rl, hrl, er⟩ := pt_ix3 c6 c11
        subst er
        obtain ⟨L, eL⟩ : ∃ zz, zz = A2 20 := ⟨_, rfl⟩
        obtain ⟨G, eG⟩ : ∃ zz, zz = A2 21 := ⟨_, rfl⟩
        have hLG : ∀ q, q < ax → L q = pt_3 x0 y0 z0 q ∧ G q = pt_3 x1 y1 z1 q := by rw [eL, eG]; exact hw2 ((pt_box_all hax1 hax).mpr d28)
        clear hw2
        refine lv_aload_n hx hb dX2_range_34 rfl (lv_at hl 0 rfl) ?_
        refine lv_iconst (v := nI 0) hx hb dX2_range_35 (by decide) ?_
        obtain ⟨F3, eF3⟩ : ∃ zz, zz = upd F2 23 (nI 0) := ⟨_, rfl⟩
        refine va_put (D := (dC, dI)) (ci := 2) (v := .int (nI 0)) (ty := .int) (C := RX2) (T := TX2) (N := 27) hx hb hts iw_c_X2_range_wsX20 tyX2 tyX2_ok nmX2 hown hK hP hD hS 0 rfl rfl 23 (by decide) (hts _ wd_c_X2_range_X2_range_1) (fun _ h9 => h9) rfl (by decide +kernel) rfl rfl (Nat.le_of_ble_eq_true rfl) dX2_range_36 (fun H locs hP hD hS => ?_)
        have hP : va_P (dC, dI) vwCl (pt_mw a c F3 A2) H := by rw [eF3]; exact hP
        have hD : va_D AA (pt_mw a c F3 A2) := by rw [eF3]; exact hD
        have kF3_1 : F3 1 = nI ax := by rw [eF3, pt_upd_ne (by decide)]; exact kF2_1
        have kF3_2 : F3 2 = nI md := by rw [eF3, pt_upd_ne (by decide)]; exact kF2_2
        have kF3_8 : F3 8 = nI nb := by rw [eF3, pt_upd_ne (by decide)]; exact kF2_8
        have kF3_0 : F3 0 = nI 0 := by rw [eF3, pt_upd_ne (by decide)]; exact kF2_0
        have kF3_23 : F3 23 = nI 0 := by rw [eF3, pt_upd]
        refine lv_aload_n hx hb dX2_range_39 rfl (lv_at hl 0 rfl) ?_
        refine lv_iconst (v := nI 0) hx hb dX2_range_40 (by decide) ?_
        obtain ⟨F4, eF4⟩ : ∃ zz, zz = upd F3 24 (nI 0) := ⟨_, rfl⟩
        refine va_put (D := (dC, dI)) (ci := 2) (v := .int (nI 0)) (ty := .int) (C := RX2) (T := TX2) (N := 27) hx hb hts iw_c_X2_range_wsX20 tyX2 tyX2_ok nmX2 hown hK hP hD hS 0 rfl rfl 24 (by decide) (hts _ wd_c_X2_range_X2_range_2) (fun _ h9 => h9) rfl (by decide +kernel) rfl rfl (Nat.le_of_ble_eq_true rfl) dX2_range_41 (fun H locs hP hD hS => ?_)
        have hP : va_P (dC, dI) vwCl (pt_mw a c F4 A2) H := by rw [eF4]; exact hP
        have hD : va_D AA (pt_mw a c F4 A2) := by rw [eF4]; exact hD
        have kF4_1 : F4 1 = nI ax := by rw [eF4, pt_upd_ne (by decide)]; exact kF3_1
        have kF4_2 : F4 2 = nI md := by rw [eF4, pt_upd_ne (by decide)]; exact kF3_2
        have kF4_8 : F4 8 = nI nb := by rw [eF4, pt_upd_ne (by decide)]; exact kF3_8
        have kF4_0 : F4 0 = nI 0 := by rw [eF4, pt_upd_ne (by decide)]; exact kF3_0
        have kF4_23 : F4 23 = nI 0 := by rw [eF4, pt_upd_ne (by decide)]; exact kF3_23
        have kF4_24 : F4 24 = nI 0 := by rw [eF4, pt_upd]
        refine lv_aload_n hx hb dX2_range_44 rfl (lv_at hl 0 rfl) ?_
        refine lv_iconst (v := nI 0) hx hb dX2_range_45 (by decide) ?_
        obtain ⟨F5, eF5⟩ : ∃ zz, zz = upd F4 25 (nI 0) := ⟨_, rfl⟩
        refine va_put (D := (dC, dI)) (ci := 2) (v := .int (nI 0)) (ty := .int) (C := RX2) (T := TX2) (N := 27) hx hb hts iw_c_X2_range_wsX20 tyX2 tyX2_ok nmX2 hown hK hP hD hS 0 rfl rfl 25 (by decide) (hts _ wd_c_X2_range_X2_range_3) (fun _ h9 => h9) rfl (by decide +kernel) rfl rfl (Nat.le_of_ble_eq_true rfl) dX2_range_46 (fun H locs hP hD hS => ?_)
        have hP : va_P (dC, dI) vwCl (pt_mw a c F5 A2) H := by rw [eF5]; exact hP
        have hD : va_D AA (pt_mw a c F5 A2) := by rw [eF5]; exact hD
        have kF5_1 : F5 1 = nI ax := by rw [eF5, pt_upd_ne (by decide)]; exact kF4_1
        have kF5_2 : F5 2 = nI md := by rw [eF5, pt_upd_ne (by decide)]; exact kF4_2
        have kF5_8 : F5 8 = nI nb := by rw [eF5, pt_upd_ne (by decide)]; exact kF4_8
        have kF5_0 : F5 0 = nI 0 := by rw [eF5, pt_upd_ne (by decide)]; exact kF4_0
        have kF5_23 : F5 23 = nI 0 := by rw [eF5, pt_upd_ne (by decide)]; exact kF4_23
        have kF5_24 : F5 24 = nI 0 := by rw [eF5, pt_upd_ne (by decide)]; exact kF4_24
        have kF5_25 : F5 25 = nI 0 := by rw [eF5, pt_upd]
        refine lv_aload_n hx hb dX2_range_49 rfl (lv_at hl 0 rfl) ?_
        refine lv_iconst (v := nI 0) hx hb dX2_range_50 (by decide) ?_
        obtain ⟨F6, eF6⟩ : ∃ zz, zz = upd F5 26 (nI 0) := ⟨_, rfl⟩
        refine va_put (D := (dC, dI)) (ci := 2) (v := .int (nI 0)) (ty := .int) (C := RX2) (T := TX2) (N := 27) hx hb hts iw_c_X2_range_wsX20 tyX2 tyX2_ok nmX2 hown hK hP hD hS 0 rfl rfl 26 (by decide) (hts _ wd_c_X2_range_X2_range_4) (fun _ h9 => h9) rfl (by decide +kernel) rfl rfl (Nat.le_of_ble_eq_true rfl) dX2_range_51 (fun H locs hP hD hS => ?_)
        have hP : va_P (dC, dI) vwCl (pt_mw a c F6 A2) H := by rw [eF6]; exact hP
        have hD : va_D AA (pt_mw a c F6 A2) := by rw [eF6]; exact hD
        have kF6_1 : F6 1 = nI ax := by rw [eF6, pt_upd_ne (by decide)]; exact kF5_1
        have kF6_2 : F6 2 = nI md := by rw [eF6, pt_upd_ne (by decide)]; exact kF5_2
        have kF6_8 : F6 8 = nI nb := by rw [eF6, pt_upd_ne (by decide)]; exact kF5_8
        have kF6_0 : F6 0 = nI 0 := by rw [eF6, pt_upd_ne (by decide)]; exact kF5_0
        have kF6_23 : F6 23 = nI 0 := by rw [eF6, pt_upd_ne (by decide)]; exact kF5_23
        have kF6_24 : F6 24 = nI 0 := by rw [eF6, pt_upd_ne (by decide)]; exact kF5_24
        have kF6_25 : F6 25 = nI 0 := by rw [eF6, pt_upd_ne (by decide)]; exact kF5_25
        have kF6_26 : F6 26 = nI 0 := by rw [eF6, pt_upd]
        refine lv_iconst (v := nI 0) hx hb dX2_range_54 (by decide) ?_
        refine lv_istore (lv' := [(8, .int (nI 0)), (0, .ref (a 0)), (1, .int (nI rl)), (2, .int x0), (3, .int x1), (4, .int y0), (5, .int y1), (6, .int z0), (7, .int z1)]) hx hb dX2_range_55 hl (by decide) rfl (fun ls hl => ?_)
        refine pt_loopW (fun q : Nat × (Nat → Nat → Int32) => 64 - q.1) (fun q ls H locs => q.1 ≤ 64 ∧ ((∀ x, x < q.1 → q.2 22 x = 0) ∧ ∀ j, j ≠ 22 → q.2 j = A2 j) ∧ va_P (dC, dI) vwCl (pt_mw a c F6 q.2) H ∧ va_D AA (pt_mw a c F6 q.2) ∧ va_S AA s.heap H locs ∧ lv_has ls 13 [(8, .int (nI q.1)), (0, .ref (a 0)), (1, .int (nI rl)), (2, .int x0), (3, .int x1), (4, .int y0), (5, .int y1), (6, .int z0), (7, .int z1)]) ?_ (0, A2) _ _ _ ⟨Nat.zero_le _, ⟨fun x hx => absurd hx (Nat.not_lt_zero _), fun _ _ => rfl⟩, hP, hD, hS, hl⟩
        intro ⟨i, Ai⟩ ls H locs ⟨hi, ⟨hz, hsz⟩, hP, hD, hS, hl⟩ ih
        dsimp only at hi hz hsz hP hD hl ih
        refine lv_iload hx hb dX2_range_57 (lv_at hl 0 rfl) ?_
        refine lv_bipush (v := nI 64) hx hb dX2_range_59 (by decide) ?_
        refine lv_icmp_ge (tgt := 78) hx hb dX2_range_61 (by decide) (fun c61 => ?_) (fun c61 => ?_)
        · have hie : i = 64 := by have := (nI_leI (by omega) (by omega)).mp c61; omega
          subst hie
          refine lv_iconst (v := nI 0) hx hb dX2_range_78 (by decide) ?_
          refine lv_istore (lv' := [(8, .int (nI 0)), (0, .ref (a 0)), (1, .int (nI rl)), (2, .int x0), (3, .int x1), (4, .int y0), (5, .int y1), (6, .int z0), (7, .int z1)]) hx hb dX2_range_79 hl (by decide) rfl (fun ls hl => ?_)
          have hz22 : pt_aM (pt_FD fr tO ot od (fun b => pt_vd rl (pt_mM ax (A 13) (A 14) L G (3 * b)) (pt_wM ax (A 13) (A 14) L G (3 * b)) (pt_hM ax (A 13) (A 14) L G (3 * b))) (fun t => ¬ A 3 t = 0) (fun t => ¬ A 3 t = 0 ∧ pt_so rl (pt_mM ax (A 4) (A 5) L G (3 * t)) (pt_wM ax (A 4) (A 5) L G (3 * t)) (pt_hM ax (A 4) (A 5) L G (3 * t))) 0) (pt_FC fr tO ot od (fun b => pt_vd rl (pt_mM ax (A 13) (A 14) L G (3 * b)) (pt_wM ax (A 13) (A 14) L G (3 * b)) (pt_hM ax (A 13) (A 14) L G (3 * b))) (fun t => ¬ A 3 t = 0) (fun t => ¬ A 3 t = 0 ∧ pt_so rl (pt_mM ax (A 4) (A 5) L G (3 * t)) (pt_wM ax (A 4) (A 5) L G (3 * t)) (pt_hM ax (A 4) (A 5) L G (3 * t))) 0) F6 Ai := ⟨kF6_23, fun x hx => by rw [hz x hx]; exact pt_B.zero (fun ⟨b, hb9, _⟩ => absurd hb9 (Nat.not_lt_zero _))⟩
          have hFz : ∀ j, j ≠ 0 → j ≠ 23 → j ≠ 24 → j ≠ 25 → j ≠ 26 → F6 j = F j := fun j j0 j23 j24 j25 j26 => by rw [eF6, pt_upd_ne j26, eF5, pt_upd_ne j25, eF4, pt_upd_ne j24, eF3, pt_upd_ne j23, hf2, eF1, pt_upd_ne j0]
          have hAz : ∀ j, j ≠ 20 → j ≠ 21 → j ≠ 22 → Ai j = A j := fun j j20 j21 j22 => (hsz j j22).trans (ho2 j j20 j21)
          have hvl : ∀ b, (fun b => pt_vd rl (pt_mM ax (A 13) (A 14) L G (3 * b)) (pt_wM ax (A 13) (A 14) L G (3 * b)) (pt_hM ax (A 13) (A 14) L G (3 * b))) b ≤ 2 := fun b => pt_vd_le _ _ _ _
          refine pt_loopW (fun q : Nat × pt_MS => nb - q.1) (fun q ls H locs => q.1 ≤ nb ∧ ((pt_aM (pt_FD fr tO ot od (fun b => pt_vd rl (pt_mM ax (A 13) (A 14) L G (3 * b)) (pt_wM ax (A 13) (A 14) L G (3 * b)) (pt_hM ax (A 13) (A 14) L G (3 * b))) (fun t => ¬ A 3 t = 0) (fun t => ¬ A 3 t = 0 ∧ pt_so rl (pt_mM ax (A 4) (A 5) L G (3 * t)) (pt_wM ax (A 4) (A 5) L G (3 * t)) (pt_hM ax (A 4) (A 5) L G (3 * t))) q.1) (pt_FC fr tO ot od (fun b => pt_vd rl (pt_mM ax (A 13) (A 14) L G (3 * b)) (pt_wM ax (A 13) (A 14) L G (3 * b)) (pt_hM ax (A 13) (A 14) L G (3 * b))) (fun t => ¬ A 3 t = 0) (fun t => ¬ A 3 t = 0 ∧ pt_so rl (pt_mM ax (A 4) (A 5) L G (3 * t)) (pt_wM ax (A 4) (A 5) L G (3 * t)) (pt_hM ax (A 4) (A 5) L G (3 * t))) q.1) q.2.1 q.2.2 ∧ q.2.1 24 = nI (pt_OP tO ot (fun b => pt_vd rl (pt_mM ax (A 13) (A 14) L G (3 * b)) (pt_wM ax (A 13) (A 14) L G (3 * b)) (pt_hM ax (A 13) (A 14) L G (3 * b))) q.1) ∧ q.2.1 25 = nI (pt_SE tO ot (fun b => pt_vd rl (pt_mM ax (A 13) (A 14) L G (3 * b)) (pt_wM ax (A 13) (A 14) L G (3 * b)) (pt_hM ax (A 13) (A 14) L G (3 * b))) q.1) ∧ q.2.1 26 = nI (pt_FT fr tO ot od (fun b => pt_vd rl (pt_mM ax (A 13) (A 14) L G (3 * b)) (pt_wM ax (A 13) (A 14) L G (3 * b)) (pt_hM ax (A 13) (A 14) L G (3 * b))) (fun t => ¬ A 3 t = 0) (fun t => ¬ A 3 t = 0 ∧ pt_so rl (pt_mM ax (A 4) (A 5) L G (3 * t)) (pt_wM ax (A 4) (A 5) L G (3 * t)) (pt_hM ax (A 4) (A 5) L G (3 * t))) q.1)) ∧ ((q.2.1 0 = nI 0 ∧ (∀ j, j ≠ 0 → j ≠ 23 → j ≠ 24 → j ≠ 25 → j ≠ 26 → q.2.1 j = F j)) ∧ (q.2.2 20 = L ∧ q.2.2 21 = G ∧ ∀ j, j ≠ 20 → j ≠ 21 → j ≠ 22 → q.2.2 j = A j)) ∧ (q.1 < nb → pt_dn tO ot (fun b => pt_vd rl (pt_mM ax (A 13) (A 14) L G (3 * b)) (pt_wM ax (A 13) (A 14) L G (3 * b)) (pt_hM ax (A 13) (A 14) L G (3 * b))) q.1 ≤ fr q.1)) ∧ va_P (dC, dI) vwCl (pt_mw a c q.2.1 q.2.2) H ∧ va_D AA (pt_mw a c q.2.1 q.2.2) ∧ va_S AA s.heap H locs ∧ lv_has ls 13 [(8, .int (nI q.1)), (0, .ref (a 0)), (1, .int (nI rl)), (2, .int x0), (3, .int x1), (4, .int y0), (5, .int y1), (6, .int z0), (7, .int z1)]) ?_ (0, F6, Ai) _ _ _ ⟨Nat.zero_le _, ⟨⟨hz22, kF6_24, kF6_25, kF6_26⟩, ⟨⟨kF6_0, hFz⟩, (hsz 20 (by decide)).trans eL.symm, (hsz 21 (by decide)).trans eG.symm, hAz⟩, fun _ => Nat.zero_le _⟩, hP, hD, hS, hl⟩
          intro ⟨b, Fb, Ab⟩ ls H locs ⟨hbn, ⟨⟨haB, hoB, hsB, htB⟩, ⟨⟨hF0, hFB⟩, hL20, hG21, hAB⟩, hdB⟩, hP, hD, hS, hl⟩ ihb
          dsimp only at hbn haB hoB hsB htB hF0 hFB hL20 hG21 hAB hdB hP hD hl ihb
          have kb1 : Fb 1 = nI ax := (hFB 1 (by decide) (by decide) (by decide) (by decide) (by decide)).trans h1
          have kb2 : Fb 2 = nI md := (hFB 2 (by decide) (by decide) (by decide) (by decide) (by decide)).trans h2
          have kb8 : Fb 8 = nI nb := (hFB 8 (by decide) (by decide) (by decide) (by decide) (by decide)).trans h8
          refine lv_iload hx hb dX2_range_81 (lv_at hl 0 rfl) ?_
          refine lv_aload_n hx hb dX2_range_83 rfl (lv_at hl 1 rfl) ?_
          refine va_get (D := (dC, dI)) (ci := 2) (v := .int (Fb 8)) (C := RX2) (T := TX2) (N := 27) hx hb hts iw_c_X2_range_wsX20 hown hK hP 0 rfl rfl 8 (by decide) (hts _ wd_c_X2_range_X2_range_5) (fun _ h9 => h9) rfl dX2_range_84 ?_
          refine pt_top (y := nI nb) kb8 ?_
          refine lv_icmp_ge (tgt := 297) hx hb dX2_range_87 (by decide) (fun c87 => ?_) (fun c87 => ?_)
          · have hbe : b = nb := by have := (nI_leI (by omega) (by omega)).mp c87; omega
            refine lv_iconst (v := nI 0) hx hb dX2_range_297 (by decide) ?_
            refine lv_istore (lv' := [(9, .int (nI 0)), (8, .int (nI b)), (0, .ref (a 0)), (1, .int (nI rl)), (2, .int x0), (3, .int x1), (4, .int y0), (5, .int y1), (6, .int z0), (7, .int z1)]) hx hb dX2_range_298 hl (by decide) rfl (fun ls hl => ?_)
            rw [hbe] at haB hoB hsB htB
            refine pt_loopW (fun q : Nat × pt_MS => md - q.1) (fun q ls H locs => q.1 ≤ md ∧ ((pt_aM (pt_run (pt_FD fr tO ot od (fun b => pt_vd rl (pt_mM ax (A 13) (A 14) L G (3 * b)) (pt_wM ax (A 13) (A 14) L G (3 * b)) (pt_hM ax (A 13) (A 14) L G (3 * b))) (fun t => ¬ A 3 t = 0) (fun t => ¬ A 3 t = 0 ∧ pt_so rl (pt_mM ax (A 4) (A 5) L G (3 * t)) (pt_wM ax (A 4) (A 5) L G (3 * t)) (pt_hM ax (A 4) (A 5) L G (3 * t))) nb) (fun k => k) (fun t => ¬ A 3 t = 0 ∧ A 6 t = 0 ∧ pt_so rl (pt_mM ax (A 4) (A 5) L G (3 * t)) (pt_wM ax (A 4) (A 5) L G (3 * t)) (pt_hM ax (A 4) (A 5) L G (3 * t))) 0 q.1) (pt_FC fr tO ot od (fun b => pt_vd rl (pt_mM ax (A 13) (A 14) L G (3 * b)) (pt_wM ax (A 13) (A 14) L G (3 * b)) (pt_hM ax (A 13) (A 14) L G (3 * b))) (fun t => ¬ A 3 t = 0) (fun t => ¬ A 3 t = 0 ∧ pt_so rl (pt_mM ax (A 4) (A 5) L G (3 * t)) (pt_wM ax (A 4) (A 5) L G (3 * t)) (pt_hM ax (A 4) (A 5) L G (3 * t))) nb + pt_cnt (fun z => 0 ≤ z ∧ (fun t => ¬ A 3 t = 0 ∧ A 6 t = 0 ∧ pt_so rl (pt_mM ax (A 4) (A 5) L G (3 * t)) (pt_wM ax (A 4) (A 5) L G (3 * t)) (pt_hM ax (A 4) (A 5) L G (3 * t))) z) q.1) q.2.1 q.2.2 ∧ q.2.1 24 = nI (pt_OP tO ot (fun b => pt_vd rl (pt_mM ax (A 13) (A 14) L G (3 * b)) (pt_wM ax (A 13) (A 14) L G (3 * b)) (pt_hM ax (A 13) (A 14) L G (3 * b))) nb) ∧ q.2.1 25 = nI (pt_SE tO ot (fun b => pt_vd rl (pt_mM ax (A 13) (A 14) L G (3 * b)) (pt_wM ax (A 13) (A 14) L G (3 * b)) (pt_hM ax (A 13) (A 14) L G (3 * b))) nb) ∧ q.2.1 26 = nI (pt_FT fr tO ot od (fun b => pt_vd rl (pt_mM ax (A 13) (A 14) L G (3 * b)) (pt_wM ax (A 13) (A 14) L G (3 * b)) (pt_hM ax (A 13) (A 14) L G (3 * b))) (fun t => ¬ A 3 t = 0) (fun t => ¬ A 3 t = 0 ∧ pt_so rl (pt_mM ax (A 4) (A 5) L G (3 * t)) (pt_wM ax (A 4) (A 5) L G (3 * t)) (pt_hM ax (A 4) (A 5) L G (3 * t))) nb)) ∧ ((q.2.1 0 = nI 0 ∧ (∀ j, j ≠ 0 → j ≠ 23 → j ≠ 24 → j ≠ 25 → j ≠ 26 → q.2.1 j = F j)) ∧ (q.2.2 20 = L ∧ q.2.2 21 = G ∧ ∀ j, j ≠ 20 → j ≠ 21 → j ≠ 22 → q.2.2 j = A j))) ∧ va_P (dC, dI) vwCl (pt_mw a c q.2.1 q.2.2) H ∧ va_D AA (pt_mw a c q.2.1 q.2.2) ∧ va_S AA s.heap H locs ∧ lv_has ls 13 [(9, .int (nI q.1)), (0, .ref (a 0)), (1, .int (nI rl)), (2, .int x0), (3, .int x1), (4, .int y0), (5, .int y1), (6, .int z0), (7, .int z1)]) ?_ (0, Fb, Ab) _ _ _ ⟨Nat.zero_le _, ⟨⟨haB.c (fun x => pt_run_0) rfl, hoB, hsB, htB⟩, ⟨⟨hF0, hFB⟩, hL20, hG21, hAB⟩⟩, hP, hD, hS, lv_sub hl [0, 2, 3, 4, 5, 6, 7, 8, 9] rfl⟩
            intro ⟨i, Fk, Ak⟩ ls H locs ⟨hi, ⟨⟨haK, hoK, hsK, htK⟩, ⟨⟨hF0k, hFK⟩, hL20k, hG21k, hAK⟩⟩, hP, hD, hS, hl⟩ ihk
            dsimp only at hi haK hoK hsK htK hF0k hFK hL20k hG21k hAK hP hD hl ihk
            have kk1 : Fk 1 = nI ax := (hFK 1 (by decide) (by decide) (by decide) (by decide) (by decide)).trans h1
            have kk2 : Fk 2 = nI md := (hFK 2 (by decide) (by decide) (by decide) (by decide) (by decide)).trans h2
            refine lv_iload hx hb dX2_range_300 (lv_at hl 0 rfl) ?_
            refine lv_aload_n hx hb dX2_range_302 rfl (lv_at hl 1 rfl) ?_
            refine va_get (D := (dC, dI)) (ci := 2) (v := .int (Fk 2)) (C := RX2) (T := TX2) (N := 27) hx hb hts iw_c_X2_range_wsX20 hown hK hP 0 rfl rfl 2 (by decide) (hts _ wd_c_X2_range_X2_range_6) (fun _ h9 => h9) rfl dX2_range_303 ?_
            refine pt_top (y := nI md) kk2 ?_
            refine lv_icmp_ge (tgt := 361) hx hb dX2_range_306 (by decide) (fun c306 => ?_) (fun c306 => ?_)
            · have hie : i = md := by have := (nI_leI (by omega) (by omega)).mp c306; omega
              refine lv_aload_n hx hb dX2_range_361 rfl (lv_at hl 1 rfl) ?_
              refine va_get (D := (dC, dI)) (ci := 2) (v := .int (Fk 23)) (C := RX2) (T := TX2) (N := 27) hx hb hts iw_c_X2_range_wsX20 hown hK hP 0 rfl rfl 23 (by decide) (hts _ wd_c_X2_range_X2_range_1) (fun _ h9 => h9) rfl dX2_range_362 ?_
              refine pt_top (y := nI (pt_FC fr tO ot od (fun b => pt_vd rl (pt_mM ax (A 13) (A 14) L G (3 * b)) (pt_wM ax (A 13) (A 14) L G (3 * b)) (pt_hM ax (A 13) (A 14) L G (3 * b))) (fun t => ¬ A 3 t = 0) (fun t => ¬ A 3 t = 0 ∧ pt_so rl (pt_mM ax (A 4) (A 5) L G (3 * t)) (pt_wM ax (A 4) (A 5) L G (3 * t)) (pt_hM ax (A 4) (A 5) L G (3 * t))) nb + pt_cnt (fun z => 0 ≤ z ∧ (fun t => ¬ A 3 t = 0 ∧ A 6 t = 0 ∧ pt_so rl (pt_mM ax (A 4) (A 5) L G (3 * t)) (pt_wM ax (A 4) (A 5) L G (3 * t)) (pt_hM ax (A 4) (A 5) L G (3 * t))) z) i)) haK.1 ?_
              exact W.iret (v := nI (pt_FC fr tO ot od (fun b => pt_vd rl (pt_mM ax (A 13) (A 14) L G (3 * b)) (pt_wM ax (A 13) (A 14) L G (3 * b)) (pt_hM ax (A 13) (A 14) L G (3 * b))) (fun t => ¬ A 3 t = 0) (fun t => ¬ A 3 t = 0 ∧ pt_so rl (pt_mM ax (A 4) (A 5) L G (3 * t)) (pt_wM ax (A 4) (A 5) L G (3 * t)) (pt_hM ax (A 4) (A 5) L G (3 * t))) nb + pt_cnt (fun z => 0 ≤ z ∧ (fun t => ¬ A 3 t = 0 ∧ A 6 t = 0 ∧ pt_so rl (pt_mM ax (A 4) (A 5) L G (3 * t)) (pt_wM ax (A 4) (A 5) L G (3 * t)) (pt_hM ax (A 4) (A 5) L G (3 * t))) z) i)) hx hb hr (fun zt zh zW => ⟨⟨_, (Fk, Ak), rfl, (Or.inr ⟨rl, L, G, hrl, rfl, d28, hLG, by rw [hie], by rw [hie] at haK; exact haK, ⟨hoK, hsK, htK⟩, hF0k, hFK, hAK⟩), by show va_P _ _ _ zt.heap; rw [zh]; exact hP⟩, hS.F zh⟩) hS.2.2 dX2_range_365
            · have hlt : i < md := Nat.not_le.mp (fun q => c306 ((nI_leI (by omega) (by omega)).mpr q))
              refine lv_aload_n hx hb dX2_range_309 rfl (lv_at hl 1 rfl) ?_
              refine va_get (D := (dC, dI)) (ci := 2) (v := .ref (a 3)) (C := RX2) (T := TX2) (N := 27) hx hb hts iw_c_X2_range_wsX20 hown hK hP 0 rfl rfl 3 (by decide) (hts _ wd_c_X2_range_X2_range_7) (fun _ h9 => h9) rfl dX2_range_310 ?_
              refine lv_iload hx hb dX2_range_313 (lv_at hl 0 rfl) ?_
              refine pt_zald hx hb hK hP 1 0 rfl rfl i rfl (by omega) (by decide) dX2_range_315 ?_
              refine pt_top (y := A 3 i) (by rw [(hAK 3 (by decide) (by decide) (by decide))]) ?_
              refine lv_if_eq (tgt := 355) hx hb dX2_range_316 (by decide) (fun c316 => ?_) (fun c316 => ?_)
              · refine lv_iinc (v := nI (i + 1)) (lv' := [(9, .int (nI (i + 1))), (0, .ref (a 0)), (1, .int (nI rl)), (2, .int x0), (3, .int x1), (4, .int y0), (5, .int y1), (6, .int z0), (7, .int z1)]) hx hb dX2_range_355 hl (k := 0) rfl (nI_1 _) (by decide) rfl (fun ls hl => ?_)
                refine lv_goto (tgt := 300) hx hb dX2_range_358 (by decide) ?_
                have hno : ¬ (fun t => ¬ A 3 t = 0 ∧ A 6 t = 0 ∧ pt_so rl (pt_mM ax (A 4) (A 5) L G (3 * t)) (pt_wM ax (A 4) (A 5) L G (3 * t)) (pt_hM ax (A 4) (A 5) L G (3 * t))) i := (fun q => q.1 c316)
                exact ihk (i + 1, Fk, Ak) _ _ _ ⟨by show i + 1 ≤ md; omega, ⟨⟨(haK.no (t := i) hno).c (fun x => pt_run_s (od := fun k => k) (P := (fun t => ¬ A 3 t = 0 ∧ A 6 t = 0 ∧ pt_so rl (pt_mM ax (A 4) (A 5) L G (3 * t)) (pt_wM ax (A 4) (A 5) L G (3 * t)) (pt_hM ax (A 4) (A 5) L G (3 * t)))) (Nat.zero_le i)) (by show _ = _ + pt_cnt _ (i + 1); rw [pt_cntr_s (P := (fun t => ¬ A 3 t = 0 ∧ A 6 t = 0 ∧ pt_so rl (pt_mM ax (A 4) (A 5) L G (3 * t)) (pt_wM ax (A 4) (A 5) L G (3 * t)) (pt_hM ax (A 4) (A 5) L G (3 * t)))) (Nat.zero_le i), Nat.add_assoc]), hoK, hsK, htK⟩, ⟨⟨hF0k, hFK⟩, hL20k, hG21k, hAK⟩⟩, hP, hD, hS, lv_sub hl [0, 1, 2, 3, 4, 5, 6, 7, 8] rfl⟩ (by show md - (i + 1) < md - i; omega)
              · refine lv_aload_n hx hb dX2_range_319 rfl (lv_at hl 1 rfl) ?_
                refine va_get (D := (dC, dI)) (ci := 2) (v := .ref (a 6)) (C := RX2) (T := TX2) (N := 27) hx hb hts iw_c_X2_range_wsX20 hown hK hP 0 rfl rfl 6 (by decide) (hts _ wd_c_X2_range_X2_range_8) (fun _ h9 => h9) rfl dX2_range_320 ?_
                refine lv_iload hx hb dX2_range_323 (lv_at hl 0 rfl) ?_
                refine pt_zald hx hb hK hP 4 3 rfl rfl i rfl (by omega) (by decide) dX2_range_325 ?_
                refine pt_top (y := A 6 i) (by rw [(hAK 6 (by decide) (by decide) (by decide))]) ?_
                refine lv_if_ne (tgt := 355) hx hb dX2_range_326 (by decide) (fun c326 => ?_) (fun c326 => ?_)
                · refine lv_iinc (v := nI (i + 1)) (lv' := [(9, .int (nI (i + 1))), (0, .ref (a 0)), (1, .int (nI rl)), (2, .int x0), (3, .int x1), (4, .int y0), (5, .int y1), (6, .int z0), (7, .int z1)]) hx hb dX2_range_355 hl (k := 0) rfl (nI_1 _) (by decide) rfl (fun ls hl => ?_)
                  refine lv_goto (tgt := 300) hx hb dX2_range_358 (by decide) ?_
                  have hno : ¬ (fun t => ¬ A 3 t = 0 ∧ A 6 t = 0 ∧ pt_so rl (pt_mM ax (A 4) (A 5) L G (3 * t)) (pt_wM ax (A 4) (A 5) L G (3 * t)) (pt_hM ax (A 4) (A 5) L G (3 * t))) i := (fun q => c326 q.2.1)
                  exact ihk (i + 1, Fk, Ak) _ _ _ ⟨by show i + 1 ≤ md; omega, ⟨⟨(haK.no (t := i) hno).c (fun x => pt_run_s (od := fun k => k) (P := (fun t => ¬ A 3 t = 0 ∧ A 6 t = 0 ∧ pt_so rl (pt_mM ax (A 4) (A 5) L G (3 * t)) (pt_wM ax (A 4) (A 5) L G (3 * t)) (pt_hM ax (A 4) (A 5) L G (3 * t)))) (Nat.zero_le i)) (by show _ = _ + pt_cnt _ (i + 1); rw [pt_cntr_s (P := (fun t => ¬ A 3 t = 0 ∧ A 6 t = 0 ∧ pt_so rl (pt_mM ax (A 4) (A 5) L G (3 * t)) (pt_wM ax (A 4) (A 5) L G (3 * t)) (pt_hM ax (A 4) (A 5) L G (3 * t)))) (Nat.zero_le i), Nat.add_assoc]), hoK, hsK, htK⟩, ⟨⟨hF0k, hFK⟩, hL20k, hG21k, hAK⟩⟩, hP, hD, hS, lv_sub hl [0, 1, 2, 3, 4, 5, 6, 7, 8] rfl⟩ (by show md - (i + 1) < md - i; omega)
                · refine lv_aload_n hx hb dX2_range_329 rfl (lv_at hl 1 rfl) ?_
                  refine lv_iload_n hx hb dX2_range_330 rfl (lv_at hl 2 rfl) ?_
                  refine lv_aload_n hx hb dX2_range_331 rfl (lv_at hl 1 rfl) ?_
                  refine va_get (D := (dC, dI)) (ci := 2) (v := .ref (a 4)) (C := RX2) (T := TX2) (N := 27) hx hb hts iw_c_X2_range_wsX20 hown hK hP 0 rfl rfl 4 (by decide) (hts _ wd_c_X2_range_X2_range_9) (fun _ h9 => h9) rfl dX2_range_332 ?_
                  refine lv_aload_n hx hb dX2_range_335 rfl (lv_at hl 1 rfl) ?_
                  refine va_get (D := (dC, dI)) (ci := 2) (v := .ref (a 5)) (C := RX2) (T := TX2) (N := 27) hx hb hts iw_c_X2_range_wsX20 hown hK hP 0 rfl rfl 5 (by decide) (hts _ wd_c_X2_range_X2_range_10) (fun _ h9 => h9) rfl dX2_range_336 ?_
                  refine lv_iconst (v := nI 3) hx hb dX2_range_339 (by decide) ?_
                  refine lv_iload hx hb dX2_range_340 (lv_at hl 0 rfl) ?_
                  refine lv_imul hx hb dX2_range_342 ?_
                  refine pt_top (y := nI (3 * i)) (pk_mul _ _) ?_
                  refine pt_rdi (va_runV (As := [.int (nI rl), .ref (a 4), .ref (a 5), .int (nI (3 * i))]) (rest := []) ⟨hx, hb, hml, hown, hts⟩ (c_X2_isSoT l dC dI a c Fk Ak ax kk1 hax rl (3 * i) (by omega) (by omega)) (cwV 4 hts gX2_range_X2_isSo rfl rfl rfl (by decide +kernel) ⟨Nat.le_of_ble_eq_true rfl, Nat.le_of_ble_eq_true rfl⟩) (pt_pv2 hP hK hN (q0 := 0) rfl) rfl rfl hl.1 rfl (lv_room (Nat.le_of_ble_eq_true rfl)) dX2_range_343 ⟨Nat.le_of_ble_eq_true rfl, Nat.le_of_ble_eq_true rfl⟩) (fun r343 hr343 => ?_)
                  refine lv_if_eq (tgt := 355) hx hb dX2_range_346 (by decide) (fun c346 => ?_) (fun c346 => ?_)
                  · have d346 : ¬ pt_so rl (pt_mM ax (A 4) (A 5) L G (3 * i)) (pt_wM ax (A 4) (A 5) L G (3 * i)) (pt_hM ax (A 4) (A 5) L G (3 * i)) := by have := hr343.f c346; rw [hL20k, hG21k, (hAK 4 (by decide) (by decide) (by decide)), (hAK 5 (by decide) (by decide) (by decide))] at this; exact this
                    refine lv_iinc (v := nI (i + 1)) (lv' := [(9, .int (nI (i + 1))), (0, .ref (a 0)), (1, .int (nI rl)), (2, .int x0), (3, .int x1), (4, .int y0), (5, .int y1), (6, .int z0), (7, .int z1)]) hx hb dX2_range_355 hl (k := 0) rfl (nI_1 _) (by decide) rfl (fun ls hl => ?_)
                    refine lv_goto (tgt := 300) hx hb dX2_range_358 (by decide) ?_
                    have hno : ¬ (fun t => ¬ A 3 t = 0 ∧ A 6 t = 0 ∧ pt_so rl (pt_mM ax (A 4) (A 5) L G (3 * t)) (pt_wM ax (A 4) (A 5) L G (3 * t)) (pt_hM ax (A 4) (A 5) L G (3 * t))) i := (fun q => d346 q.2.2)
                    exact ihk (i + 1, Fk, Ak) _ _ _ ⟨by show i + 1 ≤ md; omega, ⟨⟨(haK.no (t := i) hno).c (fun x => pt_run_s (od := fun k => k) (P := (fun t => ¬ A 3 t = 0 ∧ A 6 t = 0 ∧ pt_so rl (pt_mM ax (A 4) (A 5) L G (3 * t)) (pt_wM ax (A 4) (A 5) L G (3 * t)) (pt_hM ax (A 4) (A 5) L G (3 * t)))) (Nat.zero_le i)) (by show _ = _ + pt_cnt _ (i + 1); rw [pt_cntr_s (P := (fun t => ¬ A 3 t = 0 ∧ A 6 t = 0 ∧ pt_so rl (pt_mM ax (A 4) (A 5) L G (3 * t)) (pt_wM ax (A 4) (A 5) L G (3 * t)) (pt_hM ax (A 4) (A 5) L G (3 * t)))) (Nat.zero_le i), Nat.add_assoc]), hoK, hsK, htK⟩, ⟨⟨hF0k, hFK⟩, hL20k, hG21k, hAK⟩⟩, hP, hD, hS, lv_sub hl [0, 1, 2, 3, 4, 5, 6, 7, 8] rfl⟩ (by show md - (i + 1) < md - i; omega)
                  · have d346 : pt_so rl (pt_mM ax (A 4) (A 5) L G (3 * i)) (pt_wM ax (A 4) (A 5) L G (3 * i)) (pt_hM ax (A 4) (A 5) L G (3 * i)) := by have := hr343.t c346; rw [hL20k, hG21k, (hAK 4 (by decide) (by decide) (by decide)), (hAK 5 (by decide) (by decide) (by decide))] at this; exact this
                    refine lv_aload_n hx hb dX2_range_349 rfl (lv_at hl 1 rfl) ?_
                    refine lv_iload hx hb dX2_range_350 (lv_at hl 0 rfl) ?_
                    refine pt_callv (wf := (fun u : pt_MS => pt_mw a c u.1 u.2)) (va_runV (As := [.int (nI i)]) (rest := []) ⟨hx, hb, hml, hown, hts⟩ (c_X2_find l dC dI a c Fk Ak _ i (by omega) _ _ haK) (cwV 1 hts gX2_range_X2_find rfl rfl rfl (by decide +kernel) ⟨Nat.le_of_ble_eq_true rfl, Nat.le_of_ble_eq_true rfl⟩) (pt_wv2 hP hK hN hD (q0 := 0) rfl) rfl rfl hl.1 rfl (lv_room (Nat.le_of_ble_eq_true rfl)) dX2_range_352 ⟨Nat.le_of_ble_eq_true rfl, Nat.le_of_ble_eq_true rfl⟩) hD hS hA (fun _ => rfl) (fun u352 H locs hr352 hP hD hS => ?_)
                    obtain ⟨F7, A7⟩ := u352
                    obtain ⟨hm7, hfM7, haM7⟩ := hr352
                    dsimp only at hm7 hfM7 haM7 hP hD
                    have kF7_0 : F7 0 = nI 0 := (hfM7 0 (by decide)).trans hF0k
                    have kF7_1 : F7 1 = nI ax := (hfM7 1 (by decide)).trans kk1
                    have kF7_2 : F7 2 = nI md := (hfM7 2 (by decide)).trans kk2
                    refine lv_iinc (v := nI (i + 1)) (lv' := [(9, .int (nI (i + 1))), (0, .ref (a 0)), (1, .int (nI rl)), (2, .int x0), (3, .int x1), (4, .int y0), (5, .int y1), (6, .int z0), (7, .int z1)]) hx hb dX2_range_355 hl (k := 0) rfl (nI_1 _) (by decide) rfl (fun ls hl => ?_)
                    refine lv_goto (tgt := 300) hx hb dX2_range_358 (by decide) ?_
                    have hyes : (fun t => ¬ A 3 t = 0 ∧ A 6 t = 0 ∧ pt_so rl (pt_mM ax (A 4) (A 5) L G (3 * t)) (pt_wM ax (A 4) (A 5) L G (3 * t)) (pt_hM ax (A 4) (A 5) L G (3 * t))) i := ⟨c316, c326, d346⟩
                    exact ihk (i + 1, F7, A7) _ _ _ ⟨by show i + 1 ≤ md; omega, ⟨⟨(hm7.yes (t := i) hyes).c (fun x => pt_run_s (od := fun k => k) (P := (fun t => ¬ A 3 t = 0 ∧ A 6 t = 0 ∧ pt_so rl (pt_mM ax (A 4) (A 5) L G (3 * t)) (pt_wM ax (A 4) (A 5) L G (3 * t)) (pt_hM ax (A 4) (A 5) L G (3 * t)))) (Nat.zero_le i)) (by show _ = _ + pt_cnt _ (i + 1); rw [pt_cntr_s (P := (fun t => ¬ A 3 t = 0 ∧ A 6 t = 0 ∧ pt_so rl (pt_mM ax (A 4) (A 5) L G (3 * t)) (pt_wM ax (A 4) (A 5) L G (3 * t)) (pt_hM ax (A 4) (A 5) L G (3 * t)))) (Nat.zero_le i), Nat.add_assoc]), by show F7 24 = _; rw [hfM7 24 (by decide)]; exact hoK, by show F7 25 = _; rw [hfM7 25 (by decide)]; exact hsK, by show F7 26 = _; rw [hfM7 26 (by decide)]; exact htK⟩, ⟨⟨by show F7 0 = _; rw [hfM7 0 (by decide)]; exact hF0k, fun j j0 j23 j24 j25 j26 => by show F7 j = F j; rw [hfM7 j j23]; exact hFK j j0 j23 j24 j25 j26⟩, by show A7 20 = L; rw [haM7 20 (by decide)]; exact hL20k, by show A7 21 = G; rw [haM7 21 (by decide)]; exact hG21k, fun j j20 j21 j22 => by show A7 j = A j; rw [haM7 j j22]; exact hAK j j20 j21 j22⟩⟩, hP, hD, hS, lv_sub hl [0, 1, 2, 3, 4, 5, 6, 7, 8] rfl⟩ (by show md - (i + 1) < md - i; omega)
          · have hbl : b < nb := Nat.not_le.mp (fun q => c87 ((nI_leI (by omega) (by omega)).mpr q))
            obtain ⟨t9, t10, t12, tto, ttN, tmn, tdp⟩ := htr b hbl
            have hfl := hTF.1 b hbl
            have hvis : pt_vis tO ot (fun b => pt_vd rl (pt_mM ax (A 13) (A 14) L G (3 * b)) (pt_wM ax (A 13) (A 14) L G (3 * b)) (pt_hM ax (A 13) (A 14) L G (3 * b))) b := Nat.not_le.mpr (Nat.lt_of_le_of_lt (hdB hbl) hfl)
            refine lv_aload_n hx hb dX2_range_90 rfl (lv_at hl 1 rfl) ?_
            refine lv_iload_n hx hb dX2_range_91 rfl (lv_at hl 2 rfl) ?_
            refine lv_iload hx hb dX2_range_92 (lv_at hl 0 rfl) ?_
            refine pt_rdi (va_runV (As := [.int (nI rl), .int (nI b)]) (rest := []) ⟨hx, hb, hml, hown, hts⟩ (c_X2_tellsOf l dC dI a c Fb Ab ax kb1 hax rl b (by omega) (by omega)) (cwV 2 hts gX2_range_X2_tellsOf rfl rfl rfl (by decide +kernel) ⟨Nat.le_of_ble_eq_true rfl, Nat.le_of_ble_eq_true rfl⟩) (pt_pv2 hP hK hN (q0 := 0) rfl) rfl rfl hl.1 rfl (lv_room (Nat.le_of_ble_eq_true rfl)) dX2_range_94 ⟨Nat.le_of_ble_eq_true rfl, Nat.le_of_ble_eq_true rfl⟩) (fun r94 hr94 => ?_)
            have hvd : r94 = pt_vI ((fun b => pt_vd rl (pt_mM ax (A 13) (A 14) L G (3 * b)) (pt_wM ax (A 13) (A 14) L G (3 * b)) (pt_hM ax (A 13) (A 14) L G (3 * b))) b) := hr94.trans (by rw [hL20, hG21, (hAB 13 (by decide) (by decide) (by decide)), (hAB 14 (by decide) (by decide) (by decide))])
            refine pt_top (y := pt_vI ((fun b => pt_vd rl (pt_mM ax (A 13) (A 14) L G (3 * b)) (pt_wM ax (A 13) (A 14) L G (3 * b)) (pt_hM ax (A 13) (A 14) L G (3 * b))) b)) hvd ?_
            rcases (show (fun b => pt_vd rl (pt_mM ax (A 13) (A 14) L G (3 * b)) (pt_wM ax (A 13) (A 14) L G (3 * b)) (pt_hM ax (A 13) (A 14) L G (3 * b))) b = 0 ∨ (fun b => pt_vd rl (pt_mM ax (A 13) (A 14) L G (3 * b)) (pt_wM ax (A 13) (A 14) L G (3 * b)) (pt_hM ax (A 13) (A 14) L G (3 * b))) b = 1 ∨ (fun b => pt_vd rl (pt_mM ax (A 13) (A 14) L G (3 * b)) (pt_wM ax (A 13) (A 14) L G (3 * b)) (pt_hM ax (A 13) (A 14) L G (3 * b))) b = 2 by have := hvl b; omega) with hv0 | hv0 | hv0
            · refine pt_top (y := nI 0) (by rw [hv0]; rfl) ?_
              refine lv_istore (lv' := [(9, .int (nI 0)), (8, .int (nI b)), (0, .ref (a 0)), (1, .int (nI rl)), (2, .int x0), (3, .int x1), (4, .int y0), (5, .int y1), (6, .int z0), (7, .int z1)]) hx hb dX2_range_97 hl (by decide) rfl (fun ls hl => ?_)
              refine lv_iload hx hb dX2_range_99 (lv_at hl 1 rfl) ?_
              refine lv_iconst (v := nI 1) hx hb dX2_range_101 (by decide) ?_
              refine lv_iadd hx hb dX2_range_102 ?_
              refine pt_top (y := nI (b + 1)) (nI_add _ _) ?_
              refine lv_istore (lv' := [(10, .int (nI (b + 1))), (9, .int (nI 0)), (8, .int (nI b)), (0, .ref (a 0)), (1, .int (nI rl)), (2, .int x0), (3, .int x1), (4, .int y0), (5, .int y1), (6, .int z0), (7, .int z1)]) hx hb dX2_range_103 hl (by decide) rfl (fun ls hl => ?_)
              refine lv_iload hx hb dX2_range_105 (lv_at hl 1 rfl) ?_
              refine lv_if_lt (tgt := 152) hx hb dX2_range_107 (by decide) (fun c107 => absurd c107 (by decide)) (fun c107 => ?_)
              refine lv_aload_n hx hb dX2_range_110 rfl (lv_at hl 3 rfl) ?_
              refine lv_dup hx hb dX2_range_111 rfl ?_
              refine va_get (D := (dC, dI)) (ci := 2) (v := .int (Fb 25)) (C := RX2) (T := TX2) (N := 27) hx hb hts iw_c_X2_range_wsX20 hown hK hP 0 rfl rfl 25 (by decide) (hts _ wd_c_X2_range_X2_range_3) (fun _ h9 => h9) rfl dX2_range_112 ?_
              refine pt_top (y := nI (pt_SE tO ot (fun b => pt_vd rl (pt_mM ax (A 13) (A 14) L G (3 * b)) (pt_wM ax (A 13) (A 14) L G (3 * b)) (pt_hM ax (A 13) (A 14) L G (3 * b))) b)) hsB ?_
              refine lv_iconst (v := nI 1) hx hb dX2_range_115 (by decide) ?_
              refine lv_iadd hx hb dX2_range_116 ?_
              refine pt_top (y := nI ((pt_SE tO ot (fun b => pt_vd rl (pt_mM ax (A 13) (A 14) L G (3 * b)) (pt_wM ax (A 13) (A 14) L G (3 * b)) (pt_hM ax (A 13) (A 14) L G (3 * b))) b) + 1)) (nI_add _ _) ?_
              obtain ⟨F8, eF8⟩ : ∃ zz, zz = upd Fb 25 (nI ((pt_SE tO ot (fun b => pt_vd rl (pt_mM ax (A 13) (A 14) L G (3 * b)) (pt_wM ax (A 13) (A 14) L G (3 * b)) (pt_hM ax (A 13) (A 14) L G (3 * b))) b) + 1)) := ⟨_, rfl⟩
              refine va_put (D := (dC, dI)) (ci := 2) (v := .int (nI ((pt_SE tO ot (fun b => pt_vd rl (pt_mM ax (A 13) (A 14) L G (3 * b)) (pt_wM ax (A 13) (A 14) L G (3 * b)) (pt_hM ax (A 13) (A 14) L G (3 * b))) b) + 1))) (ty := .int) (C := RX2) (T := TX2) (N := 27) hx hb hts iw_c_X2_range_wsX20 tyX2 tyX2_ok nmX2 hown hK hP hD hS 0 rfl rfl 25 (by decide) (hts _ wd_c_X2_range_X2_range_3) (fun _ h9 => h9) rfl (by decide +kernel) rfl rfl (Nat.le_of_ble_eq_true rfl) dX2_range_117 (fun H locs hP hD hS => ?_)
              have hP : va_P (dC, dI) vwCl (pt_mw a c F8 Ab) H := by rw [eF8]; exact hP
              have hD : va_D AA (pt_mw a c F8 Ab) := by rw [eF8]; exact hD
              have kF8_0 : F8 0 = nI 0 := by rw [eF8, pt_upd_ne (by decide)]; exact hF0
              have kF8_1 : F8 1 = nI ax := by rw [eF8, pt_upd_ne (by decide)]; exact kb1
              have kF8_2 : F8 2 = nI md := by rw [eF8, pt_upd_ne (by decide)]; exact kb2
              have kF8_8 : F8 8 = nI nb := by rw [eF8, pt_upd_ne (by decide)]; exact kb8
              have kF8_24 : F8 24 = nI (pt_OP tO ot (fun b => pt_vd rl (pt_mM ax (A 13) (A 14) L G (3 * b)) (pt_wM ax (A 13) (A 14) L G (3 * b)) (pt_hM ax (A 13) (A 14) L G (3 * b))) b) := by rw [eF8, pt_upd_ne (by decide)]; exact hoB
              have kF8_26 : F8 26 = nI (pt_FT fr tO ot od (fun b => pt_vd rl (pt_mM ax (A 13) (A 14) L G (3 * b)) (pt_wM ax (A 13) (A 14) L G (3 * b)) (pt_hM ax (A 13) (A 14) L G (3 * b))) (fun t => ¬ A 3 t = 0) (fun t => ¬ A 3 t = 0 ∧ pt_so rl (pt_mM ax (A 4) (A 5) L G (3 * t)) (pt_wM ax (A 4) (A 5) L G (3 * t)) (pt_hM ax (A 4) (A 5) L G (3 * t))) b) := by rw [eF8, pt_upd_ne (by decide)]; exact htB
              have kF8_25 : F8 25 = nI ((pt_SE tO ot (fun b => pt_vd rl (pt_mM ax (A 13) (A 14) L G (3 * b)) (pt_wM ax (A 13) (A 14) L G (3 * b)) (pt_hM ax (A 13) (A 14) L G (3 * b))) b) + 1) := by rw [eF8, pt_upd]
              refine pt_loopR (fun n : Nat => nb - n) (fun n ls => (b < n ∧ n ≤ nb ∧ ∀ e, b < e → e < n → dp b < dp e) ∧ lv_has ls 13 [(10, .int (nI n)), (9, .int (nI 0)), (8, .int (nI b)), (0, .ref (a 0)), (1, .int (nI rl)), (2, .int x0), (3, .int x1), (4, .int y0), (5, .int y1), (6, .int z0), (7, .int z1)]) ?_ (b + 1) _ ⟨⟨by omega, by omega, fun e h1 h2 => by omega⟩, hl⟩
              intro n ls ⟨⟨hbn2, hnn, hdeep⟩, hl⟩ ihn
              refine lv_iload hx hb dX2_range_120 (lv_at hl 0 rfl) ?_
              refine lv_aload_n hx hb dX2_range_122 rfl (lv_at hl 3 rfl) ?_
              refine va_get (D := (dC, dI)) (ci := 2) (v := .int (F8 8)) (C := RX2) (T := TX2) (N := 27) hx hb hts iw_c_X2_range_wsX20 hown hK hP 0 rfl rfl 8 (by decide) (hts _ wd_c_X2_range_X2_range_5) (fun _ h9 => h9) rfl dX2_range_123 ?_
              refine pt_top (y := nI nb) kF8_8 ?_
              refine lv_icmp_ge (tgt := 162) hx hb dX2_range_126 (by decide) (fun c126 => ?_) (fun c126 => ?_)
              · have hnx : n = nb ∨ (n < nb ∧ dp n ≤ dp b) := Or.inl (by have := (nI_leI (by omega) (by omega)).mp c126; omega)
                refine lv_aload_n hx hb dX2_range_162 rfl (lv_at hl 3 rfl) ?_
                refine va_get (D := (dC, dI)) (ci := 2) (v := .ref (a 9)) (C := RX2) (T := TX2) (N := 27) hx hb hts iw_c_X2_range_wsX20 hown hK hP 0 rfl rfl 9 (by decide) (hts _ wd_c_X2_range_X2_range_11) (fun _ h9 => h9) rfl dX2_range_163 ?_
                refine lv_iload hx hb dX2_range_166 (lv_at hl 2 rfl) ?_
                refine pt_iald hx hb hK hP 6 5 rfl rfl b rfl (by omega) (by decide) dX2_range_168 ?_
                refine pt_top (y := nI (fr b)) (by rw [(hAB 9 (by decide) (by decide) (by decide))]; exact t9) ?_
                refine lv_istore (lv' := [(11, .int (nI (fr b))), (10, .int (nI n)), (9, .int (nI 0)), (8, .int (nI b)), (0, .ref (a 0)), (1, .int (nI rl)), (2, .int x0), (3, .int x1), (4, .int y0), (5, .int y1), (6, .int z0), (7, .int z1)]) hx hb dX2_range_169 hl (by decide) rfl (fun ls hl => ?_)
                refine pt_loopW (fun q : Nat × pt_MS => tO b - q.1) (fun q ls H locs => (fr b ≤ q.1 ∧ q.1 ≤ tO b) ∧ ((pt_aM (pt_run (pt_FD fr tO ot od (fun b => pt_vd rl (pt_mM ax (A 13) (A 14) L G (3 * b)) (pt_wM ax (A 13) (A 14) L G (3 * b)) (pt_hM ax (A 13) (A 14) L G (3 * b))) (fun t => ¬ A 3 t = 0) (fun t => ¬ A 3 t = 0 ∧ pt_so rl (pt_mM ax (A 4) (A 5) L G (3 * t)) (pt_wM ax (A 4) (A 5) L G (3 * t)) (pt_hM ax (A 4) (A 5) L G (3 * t))) b) od (fun _ => False) (fr b) q.1) (pt_FC fr tO ot od (fun b => pt_vd rl (pt_mM ax (A 13) (A 14) L G (3 * b)) (pt_wM ax (A 13) (A 14) L G (3 * b)) (pt_hM ax (A 13) (A 14) L G (3 * b))) (fun t => ¬ A 3 t = 0) (fun t => ¬ A 3 t = 0 ∧ pt_so rl (pt_mM ax (A 4) (A 5) L G (3 * t)) (pt_wM ax (A 4) (A 5) L G (3 * t)) (pt_hM ax (A 4) (A 5) L G (3 * t))) b + pt_cnt (fun z => fr b ≤ z ∧ (fun _ => False) (od z)) q.1) q.2.1 q.2.2 ∧ q.2.1 24 = nI (pt_OP tO ot (fun b => pt_vd rl (pt_mM ax (A 13) (A 14) L G (3 * b)) (pt_wM ax (A 13) (A 14) L G (3 * b)) (pt_hM ax (A 13) (A 14) L G (3 * b))) b) ∧ q.2.1 25 = nI ((pt_SE tO ot (fun b => pt_vd rl (pt_mM ax (A 13) (A 14) L G (3 * b)) (pt_wM ax (A 13) (A 14) L G (3 * b)) (pt_hM ax (A 13) (A 14) L G (3 * b))) b) + 1) ∧ q.2.1 26 = nI (pt_FT fr tO ot od (fun b => pt_vd rl (pt_mM ax (A 13) (A 14) L G (3 * b)) (pt_wM ax (A 13) (A 14) L G (3 * b)) (pt_hM ax (A 13) (A 14) L G (3 * b))) (fun t => ¬ A 3 t = 0) (fun t => ¬ A 3 t = 0 ∧ pt_so rl (pt_mM ax (A 4) (A 5) L G (3 * t)) (pt_wM ax (A 4) (A 5) L G (3 * t)) (pt_hM ax (A 4) (A 5) L G (3 * t))) b)) ∧ ((q.2.1 0 = nI 0 ∧ (∀ j, j ≠ 0 → j ≠ 23 → j ≠ 24 → j ≠ 25 → j ≠ 26 → q.2.1 j = F j)) ∧ (q.2.2 20 = L ∧ q.2.2 21 = G ∧ ∀ j, j ≠ 20 → j ≠ 21 → j ≠ 22 → q.2.2 j = A j))) ∧ va_P (dC, dI) vwCl (pt_mw a c q.2.1 q.2.2) H ∧ va_D AA (pt_mw a c q.2.1 q.2.2) ∧ va_S AA s.heap H locs ∧ lv_has ls 13 [(11, .int (nI q.1)), (10, .int (nI n)), (9, .int (nI 0)), (8, .int (nI b)), (0, .ref (a 0)), (1, .int (nI rl)), (2, .int x0), (3, .int x1), (4, .int y0), (5, .int y1), (6, .int z0), (7, .int z1)]) ?_ (fr b, F8, Ab) _ _ _ ⟨⟨Nat.le_refl _, by omega⟩, ⟨⟨(haB.m (by show F8 23 = Fb 23; rw [eF8, pt_upd_ne (by decide)]) rfl).c (fun x => pt_run_0) (by show _ = _ + pt_cnt _ (fr b); rw [pt_cntr_0]; rfl), kF8_24, kF8_25, kF8_26⟩, ⟨⟨kF8_0, fun j j0 j23 j24 j25 j26 => by show F8 j = F j; rw [eF8, pt_upd_ne j25]; exact hFB j j0 j23 j24 j25 j26⟩, hL20, hG21, hAB⟩⟩, hP, hD, hS, hl⟩
                intro ⟨k, Fk, Ak⟩ ls H locs ⟨⟨hfk, hkt⟩, ⟨⟨haK, hoK, hsK, htK⟩, ⟨⟨hF0k, hFK⟩, hL20k, hG21k, hAK⟩⟩, hP, hD, hS, hl⟩ ihk
                dsimp only at hfk hkt haK hoK hsK htK hF0k hFK hL20k hG21k hAK hP hD hl ihk
                have kk1 : Fk 1 = nI ax := (hFK 1 (by decide) (by decide) (by decide) (by decide) (by decide)).trans h1
                refine lv_iload hx hb dX2_range_171 (lv_at hl 0 rfl) ?_
                refine lv_aload_n hx hb dX2_range_173 rfl (lv_at hl 4 rfl) ?_
                refine va_get (D := (dC, dI)) (ci := 2) (v := .ref (a 9)) (C := RX2) (T := TX2) (N := 27) hx hb hts iw_c_X2_range_wsX20 hown hK hP 0 rfl rfl 9 (by decide) (hts _ wd_c_X2_range_X2_range_11) (fun _ h9 => h9) rfl dX2_range_174 ?_
                refine lv_iload hx hb dX2_range_177 (lv_at hl 3 rfl) ?_
                refine pt_iald hx hb hK hP 6 5 rfl rfl b rfl (by omega) (by decide) dX2_range_179 ?_
                refine pt_top (y := nI (fr b)) (by rw [(hAK 9 (by decide) (by decide) (by decide))]; exact t9) ?_
                refine lv_aload_n hx hb dX2_range_180 rfl (lv_at hl 4 rfl) ?_
                refine va_get (D := (dC, dI)) (ci := 2) (v := .ref (a 10)) (C := RX2) (T := TX2) (N := 27) hx hb hts iw_c_X2_range_wsX20 hown hK hP 0 rfl rfl 10 (by decide) (hts _ wd_c_X2_range_X2_range_12) (fun _ h9 => h9) rfl dX2_range_181 ?_
                refine lv_iload hx hb dX2_range_184 (lv_at hl 3 rfl) ?_
                refine pt_iald hx hb hK hP 7 6 rfl rfl b rfl (by omega) (by decide) dX2_range_186 ?_
                refine pt_top (y := nI (mn b)) (by rw [(hAK 10 (by decide) (by decide) (by decide))]; exact t10) ?_
                refine lv_iadd hx hb dX2_range_187 ?_
                refine pt_top (y := nI ((fr b) + (mn b))) (nI_add _ _) ?_
                refine lv_icmp_ge (tgt := 290) hx hb dX2_range_188 (by decide) (fun c188 => ?_) (fun c188 => ?_)
                · have hke : k = tO b := by have := (nI_leI (by omega) (by omega)).mp c188; omega
                  refine lv_iload hx hb dX2_range_290 (lv_at hl 1 rfl) ?_
                  refine lv_istore (lv' := [(8, .int (nI n)), (11, .int (nI k)), (10, .int (nI n)), (9, .int (nI 0)), (0, .ref (a 0)), (1, .int (nI rl)), (2, .int x0), (3, .int x1), (4, .int y0), (5, .int y1), (6, .int z0), (7, .int z1)]) hx hb dX2_range_292 hl (by decide) rfl (fun ls hl => ?_)
                  refine lv_goto (tgt := 81) hx hb dX2_range_294 (by decide) ?_
                  have hst := pt_st_none (fr := fr) (od := od) (th := (fun t => ¬ A 3 t = 0)) (P := (fun t => ¬ A 3 t = 0 ∧ pt_so rl (pt_mM ax (A 4) (A 5) L G (3 * t)) (pt_wM ax (A 4) (A 5) L G (3 * t)) (pt_hM ax (A 4) (A 5) L G (3 * t)))) hvis (fun q => absurd (hv0.symm.trans q) (by decide)) (fun q => absurd (hv0.symm.trans q) (by decide))
                  rw [hke] at haK
                  have hdr := pt_dn_run (n := b) (tO := tO) (ot := ot) (vd := (fun b => pt_vd rl (pt_mM ax (A 13) (A 14) L G (3 * b)) (pt_wM ax (A 13) (A 14) L G (3 * b)) (pt_hM ax (A 13) (A 14) L G (3 * b)))) (pt_dn_to hvis (fun q => absurd (hv0.symm.trans q) (by decide))) (n - (b + 1)) (fun c h1 h2 => hTF.2.1 b c h1 (by omega) (fun e h3 h4 => hdeep e h3 (by omega)))
                  rw [show b + 1 + (n - (b + 1)) = n by omega] at hdr
                  have hsk := pt_st_skip (fr := fr) (od := od) (th := (fun t => ¬ A 3 t = 0)) (P := (fun t => ¬ A 3 t = 0 ∧ pt_so rl (pt_mM ax (A 4) (A 5) L G (3 * t)) (pt_wM ax (A 4) (A 5) L G (3 * t)) (pt_hM ax (A 4) (A 5) L G (3 * t)))) (n := b + 1) (n - (b + 1)) (fun c h1 h2 => hdr.2 c h1 (by omega))
                  rw [show b + 1 + (n - (b + 1)) = n by omega] at hsk
                  have hdn2 : n < nb → pt_dn tO ot (fun b => pt_vd rl (pt_mM ax (A 13) (A 14) L G (3 * b)) (pt_wM ax (A 13) (A 14) L G (3 * b)) (pt_hM ax (A 13) (A 14) L G (3 * b))) n ≤ fr n := pt_dn_next hTF hdr.1 hbn2 hnx hdeep
                  exact ihb (n, Fk, Ak) _ _ _ ⟨hnn, ⟨⟨((haK.c (fun x => ⟨fun q => q.elim id (fun ⟨_, _, _, _, q⟩ => q.elim), Or.inl⟩) (by rw [pt_cnt_none _ (fun _ _ q => q.2)]; rfl)).c hst.1 hst.2.1).c hsk.1 hsk.2.1, by show Fk 24 = _; rw [hoK, hst.2.2.1, hsk.2.2.1], by show Fk 25 = _; rw [hsK, hst.2.2.2.1, hsk.2.2.2.1], by show Fk 26 = _; rw [htK, hst.2.2.2.2, hsk.2.2.2.2]⟩, ⟨⟨hF0k, hFK⟩, hL20k, hG21k, hAK⟩, hdn2⟩, hP, hD, hS, lv_sub hl [0, 4, 5, 6, 7, 8, 9, 10, 11] rfl⟩ (by show nb - n < nb - b; omega)
                · have hkl : k < tO b := Nat.not_le.mp (fun q => c188 ((nI_leI (by omega) (by omega)).mpr (by omega)))
                  have hodk := hod k (by omega)
                  have ho64 := hodk.2
                  refine lv_aload_n hx hb dX2_range_191 rfl (lv_at hl 4 rfl) ?_
                  refine va_get (D := (dC, dI)) (ci := 2) (v := .ref (a 7)) (C := RX2) (T := TX2) (N := 27) hx hb hts iw_c_X2_range_wsX20 hown hK hP 0 rfl rfl 7 (by decide) (hts _ wd_c_X2_range_X2_range_13) (fun _ h9 => h9) rfl dX2_range_192 ?_
                  refine lv_iload hx hb dX2_range_195 (lv_at hl 0 rfl) ?_
                  refine pt_iald hx hb hK hP 5 4 rfl rfl k rfl (by omega) (by decide) dX2_range_197 ?_
                  refine pt_top (y := nI (od k)) (by rw [(hAK 7 (by decide) (by decide) (by decide))]; exact hodk.1) ?_
                  refine lv_istore (lv' := [(12, .int (nI (od k))), (11, .int (nI k)), (10, .int (nI n)), (9, .int (nI 0)), (8, .int (nI b)), (0, .ref (a 0)), (1, .int (nI rl)), (2, .int x0), (3, .int x1), (4, .int y0), (5, .int y1), (6, .int z0), (7, .int z1)]) hx hb dX2_range_198 hl (by decide) rfl (fun ls hl => ?_)
                  refine lv_aload_n hx hb dX2_range_200 rfl (lv_at hl 5 rfl) ?_
                  refine va_get (D := (dC, dI)) (ci := 2) (v := .ref (a 3)) (C := RX2) (T := TX2) (N := 27) hx hb hts iw_c_X2_range_wsX20 hown hK hP 0 rfl rfl 3 (by decide) (hts _ wd_c_X2_range_X2_range_7) (fun _ h9 => h9) rfl dX2_range_201 ?_
                  refine lv_iload hx hb dX2_range_204 (lv_at hl 0 rfl) ?_
                  refine pt_zald hx hb hK hP 1 0 rfl rfl (od k) rfl (by omega) (by decide) dX2_range_206 ?_
                  refine pt_top (y := A 3 (od k)) (by rw [(hAK 3 (by decide) (by decide) (by decide))]) ?_
                  refine lv_if_eq (tgt := 232) hx hb dX2_range_207 (by decide) (fun c207 => ?_) (fun c207 => ?_)
                  · refine lv_aload_n hx hb dX2_range_232 rfl (lv_at hl 5 rfl) ?_
                    refine va_get (D := (dC, dI)) (ci := 2) (v := .ref (a 3)) (C := RX2) (T := TX2) (N := 27) hx hb hts iw_c_X2_range_wsX20 hown hK hP 0 rfl rfl 3 (by decide) (hts _ wd_c_X2_range_X2_range_7) (fun _ h9 => h9) rfl dX2_range_233 ?_
                    refine lv_iload hx hb dX2_range_236 (lv_at hl 0 rfl) ?_
                    refine pt_zald hx hb hK hP 1 0 rfl rfl (od k) rfl (by omega) (by decide) dX2_range_238 ?_
                    refine pt_top (y := A 3 (od k)) (by rw [(hAK 3 (by decide) (by decide) (by decide))]) ?_
                    refine lv_if_eq (tgt := 284) hx hb dX2_range_239 (by decide) (fun c239 => ?_) (fun c239 => absurd c207 c239)
                    refine lv_iinc (v := nI (k + 1)) (lv' := [(11, .int (nI (k + 1))), (12, .int (nI (od k))), (10, .int (nI n)), (9, .int (nI 0)), (8, .int (nI b)), (0, .ref (a 0)), (1, .int (nI rl)), (2, .int x0), (3, .int x1), (4, .int y0), (5, .int y1), (6, .int z0), (7, .int z1)]) hx hb dX2_range_284 hl (k := 1) rfl (nI_1 _) (by decide) rfl (fun ls hl => ?_)
                    refine lv_goto (tgt := 171) hx hb dX2_range_287 (by decide) ?_
                    have hno : ¬ (fun _ => False) (od k) := (fun q => q)
                    exact ihk (k + 1, Fk, Ak) _ _ _ ⟨⟨by show fr b ≤ k + 1; omega, by show k + 1 ≤ tO b; omega⟩, ⟨⟨(haK.no (t := od k) hno).c (fun x => pt_run_s (P := (fun _ => False)) hfk) (by show _ = _ + pt_cnt _ (k + 1); rw [pt_cntr_s (P := fun z => (fun _ => False) (od z)) hfk, Nat.add_assoc]), hoK, hsK, htK⟩, ⟨⟨hF0k, hFK⟩, hL20k, hG21k, hAK⟩⟩, hP, hD, hS, lv_sub hl [0, 2, 3, 4, 5, 6, 7, 8, 9, 10, 11, 12] rfl⟩ (by show tO b - (k + 1) < tO b - k; omega)
                  · refine lv_iload hx hb dX2_range_210 (lv_at hl 3 rfl) ?_
                    refine lv_iconst (v := nI 1) hx hb dX2_range_212 (by decide) ?_
                    refine lv_icmp_ne (tgt := 232) hx hb dX2_range_213 (by decide) (fun c213 => ?_) (fun c213 => absurd c213 (by decide))
                    refine lv_aload_n hx hb dX2_range_232 rfl (lv_at hl 5 rfl) ?_
                    refine va_get (D := (dC, dI)) (ci := 2) (v := .ref (a 3)) (C := RX2) (T := TX2) (N := 27) hx hb hts iw_c_X2_range_wsX20 hown hK hP 0 rfl rfl 3 (by decide) (hts _ wd_c_X2_range_X2_range_7) (fun _ h9 => h9) rfl dX2_range_233 ?_
                    refine lv_iload hx hb dX2_range_236 (lv_at hl 0 rfl) ?_
                    refine pt_zald hx hb hK hP 1 0 rfl rfl (od k) rfl (by omega) (by decide) dX2_range_238 ?_
                    refine pt_top (y := A 3 (od k)) (by rw [(hAK 3 (by decide) (by decide) (by decide))]) ?_
                    refine lv_if_eq (tgt := 284) hx hb dX2_range_239 (by decide) (fun c239 => absurd c239 c207) (fun c239 => ?_)
                    refine lv_iload hx hb dX2_range_242 (lv_at hl 3 rfl) ?_
                    refine lv_if_ge (tgt := 284) hx hb dX2_range_244 (by decide) (fun c244 => ?_) (fun c244 => absurd (by decide) c244)
                    refine lv_iinc (v := nI (k + 1)) (lv' := [(11, .int (nI (k + 1))), (12, .int (nI (od k))), (10, .int (nI n)), (9, .int (nI 0)), (8, .int (nI b)), (0, .ref (a 0)), (1, .int (nI rl)), (2, .int x0), (3, .int x1), (4, .int y0), (5, .int y1), (6, .int z0), (7, .int z1)]) hx hb dX2_range_284 hl (k := 1) rfl (nI_1 _) (by decide) rfl (fun ls hl => ?_)
                    refine lv_goto (tgt := 171) hx hb dX2_range_287 (by decide) ?_
                    have hno : ¬ (fun _ => False) (od k) := (fun q => q)
                    exact ihk (k + 1, Fk, Ak) _ _ _ ⟨⟨by show fr b ≤ k + 1; omega, by show k + 1 ≤ tO b; omega⟩, ⟨⟨(haK.no (t := od k) hno).c (fun x => pt_run_s (P := (fun _ => False)) hfk) (by show _ = _ + pt_cnt _ (k + 1); rw [pt_cntr_s (P := fun z => (fun _ => False) (od z)) hfk, Nat.add_assoc]), hoK, hsK, htK⟩, ⟨⟨hF0k, hFK⟩, hL20k, hG21k, hAK⟩⟩, hP, hD, hS, lv_sub hl [0, 2, 3, 4, 5, 6, 7, 8, 9, 10, 11, 12] rfl⟩ (by show tO b - (k + 1) < tO b - k; omega)
              · have hnl : n < nb := Nat.not_le.mp (fun q => c126 ((nI_leI (by omega) (by omega)).mpr q))
                obtain ⟨_, _, u12, _, _, _, udp⟩ := htr n hnl
                refine lv_aload_n hx hb dX2_range_129 rfl (lv_at hl 3 rfl) ?_
                refine va_get (D := (dC, dI)) (ci := 2) (v := .ref (a 12)) (C := RX2) (T := TX2) (N := 27) hx hb hts iw_c_X2_range_wsX20 hown hK hP 0 rfl rfl 12 (by decide) (hts _ wd_c_X2_range_X2_range_14) (fun _ h9 => h9) rfl dX2_range_130 ?_
                refine lv_iload hx hb dX2_range_133 (lv_at hl 0 rfl) ?_
                refine pt_iald hx hb hK hP 9 8 rfl rfl n rfl (by omega) (by decide) dX2_range_135 ?_
                refine pt_top (y := nI (dp n)) (by rw [(hAB 12 (by decide) (by decide) (by decide))]; exact u12) ?_
                refine lv_aload_n hx hb dX2_range_136 rfl (lv_at hl 3 rfl) ?_
                refine va_get (D := (dC, dI)) (ci := 2) (v := .ref (a 12)) (C := RX2) (T := TX2) (N := 27) hx hb hts iw_c_X2_range_wsX20 hown hK hP 0 rfl rfl 12 (by decide) (hts _ wd_c_X2_range_X2_range_14) (fun _ h9 => h9) rfl dX2_range_137 ?_
                refine lv_iload hx hb dX2_range_140 (lv_at hl 2 rfl) ?_
                refine pt_iald hx hb hK hP 9 8 rfl rfl b rfl (by omega) (by decide) dX2_range_142 ?_
                refine pt_top (y := nI (dp b)) (by rw [(hAB 12 (by decide) (by decide) (by decide))]; exact t12) ?_
                refine lv_icmp_le (tgt := 162) hx hb dX2_range_143 (by decide) (fun c143 => ?_) (fun c143 => ?_)
                · have hnx : n = nb ∨ (n < nb ∧ dp n ≤ dp b) := Or.inr ⟨hnl, (nI_leI (by omega) (by omega)).mp c143⟩
                  refine lv_aload_n hx hb dX2_range_162 rfl (lv_at hl 3 rfl) ?_
                  refine va_get (D := (dC, dI)) (ci := 2) (v := .ref (a 9)) (C := RX2) (T := TX2) (N := 27) hx hb hts iw_c_X2_range_wsX20 hown hK hP 0 rfl rfl 9 (by decide) (hts _ wd_c_X2_range_X2_range_11) (fun _ h9 => h9) rfl dX2_range_163 ?_
                  refine lv_iload hx hb dX2_range_166 (lv_at hl 2 rfl) ?_
                  refine pt_iald hx hb hK hP 6 5 rfl rfl b rfl (by omega) (by decide) dX2_range_168 ?_
                  refine pt_top (y := nI (fr b)) (by rw [(hAB 9 (by decide) (by decide) (by decide))]; exact t9) ?_
                  refine lv_istore (lv' := [(11, .int (nI (fr b))), (10, .int (nI n)), (9, .int (nI 0)), (8, .int (nI b)), (0, .ref (a 0)), (1, .int (nI rl)), (2, .int x0), (3, .int x1), (4, .int y0), (5, .int y1), (6, .int z0), (7, .int z1)]) hx hb dX2_range_169 hl (by decide) rfl (fun ls hl => ?_)
                  refine pt_loopW (fun q : Nat × pt_MS => tO b - q.1) (fun q ls H locs => (fr b ≤ q.1 ∧ q.1 ≤ tO b) ∧ ((pt_aM (pt_run (pt_FD fr tO ot od (fun b => pt_vd rl (pt_mM ax (A 13) (A 14) L G (3 * b)) (pt_wM ax (A 13) (A 14) L G (3 * b)) (pt_hM ax (A 13) (A 14) L G (3 * b))) (fun t => ¬ A 3 t = 0) (fun t => ¬ A 3 t = 0 ∧ pt_so rl (pt_mM ax (A 4) (A 5) L G (3 * t)) (pt_wM ax (A 4) (A 5) L G (3 * t)) (pt_hM ax (A 4) (A 5) L G (3 * t))) b) od (fun _ => False) (fr b) q.1) (pt_FC fr tO ot od (fun b => pt_vd rl (pt_mM ax (A 13) (A 14) L G (3 * b)) (pt_wM ax (A 13) (A 14) L G (3 * b)) (pt_hM ax (A 13) (A 14) L G (3 * b))) (fun t => ¬ A 3 t = 0) (fun t => ¬ A 3 t = 0 ∧ pt_so rl (pt_mM ax (A 4) (A 5) L G (3 * t)) (pt_wM ax (A 4) (A 5) L G (3 * t)) (pt_hM ax (A 4) (A 5) L G (3 * t))) b + pt_cnt (fun z => fr b ≤ z ∧ (fun _ => False) (od z)) q.1) q.2.1 q.2.2 ∧ q.2.1 24 = nI (pt_OP tO ot (fun b => pt_vd rl (pt_mM ax (A 13) (A 14) L G (3 * b)) (pt_wM ax (A 13) (A 14) L G (3 * b)) (pt_hM ax (A 13) (A 14) L G (3 * b))) b) ∧ q.2.1 25 = nI ((pt_SE tO ot (fun b => pt_vd rl (pt_mM ax (A 13) (A 14) L G (3 * b)) (pt_wM ax (A 13) (A 14) L G (3 * b)) (pt_hM ax (A 13) (A 14) L G (3 * b))) b) + 1) ∧ q.2.1 26 = nI (pt_FT fr tO ot od (fun b => pt_vd rl (pt_mM ax (A 13) (A 14) L G (3 * b)) (pt_wM ax (A 13) (A 14) L G (3 * b)) (pt_hM ax (A 13) (A 14) L G (3 * b))) (fun t => ¬ A 3 t = 0) (fun t => ¬ A 3 t = 0 ∧ pt_so rl (pt_mM ax (A 4) (A 5) L G (3 * t)) (pt_wM ax (A 4) (A 5) L G (3 * t)) (pt_hM ax (A 4) (A 5) L G (3 * t))) b)) ∧ ((q.2.1 0 = nI 0 ∧ (∀ j, j ≠ 0 → j ≠ 23 → j ≠ 24 → j ≠ 25 → j ≠ 26 → q.2.1 j = F j)) ∧ (q.2.2 20 = L ∧ q.2.2 21 = G ∧ ∀ j, j ≠ 20 → j ≠ 21 → j ≠ 22 → q.2.2 j = A j))) ∧ va_P (dC, dI) vwCl (pt_mw a c q.2.1 q.2.2) H ∧ va_D AA (pt_mw a c q.2.1 q.2.2) ∧ va_S AA s.heap H locs ∧ lv_has ls 13 [(11, .int (nI q.1)), (10, .int (nI n)), (9, .int (nI 0)), (8, .int (nI b)), (0, .ref (a 0)), (1, .int (nI rl)), (2, .int x0), (3, .int x1), (4, .int y0), (5, .int y1), (6, .int z0), (7, .int z1)]) ?_ (fr b, F8, Ab) _ _ _ ⟨⟨Nat.le_refl _, by omega⟩, ⟨⟨(haB.m (by show F8 23 = Fb 23; rw [eF8, pt_upd_ne (by decide)]) rfl).c (fun x => pt_run_0) (by show _ = _ + pt_cnt _ (fr b); rw [pt_cntr_0]; rfl), kF8_24, kF8_25, kF8_26⟩, ⟨⟨kF8_0, fun j j0 j23 j24 j25 j26 => by show F8 j = F j; rw [eF8, pt_upd_ne j25]; exact hFB j j0 j23 j24 j25 j26⟩, hL20, hG21, hAB⟩⟩, hP, hD, hS, hl⟩
                  intro ⟨k, Fk, Ak⟩ ls H locs ⟨⟨hfk, hkt⟩, ⟨⟨haK, hoK, hsK, htK⟩, ⟨⟨hF0k, hFK⟩, hL20k, hG21k, hAK⟩⟩, hP, hD, hS, hl⟩ ihk
                  dsimp only at hfk hkt haK hoK hsK htK hF0k hFK hL20k hG21k hAK hP hD hl ihk
                  have kk1 : Fk 1 = nI ax := (hFK 1 (by decide) (by decide) (by decide) (by decide) (by decide)).trans h1
                  refine lv_iload hx hb dX2_range_171 (lv_at hl 0 rfl) ?_
                  refine lv_aload_n hx hb dX2_range_173 rfl (lv_at hl 4 rfl) ?_
                  refine va_get (D := (dC, dI)) (ci := 2) (v := .ref (a 9)) (C := RX2) (T := TX2) (N := 27) hx hb hts iw_c_X2_range_wsX20 hown hK hP 0 rfl rfl 9 (by decide) (hts _ wd_c_X2_range_X2_range_11) (fun _ h9 => h9) rfl dX2_range_174 ?_
                  refine lv_iload hx hb dX2_range_177 (lv_at hl 3 rfl) ?_
                  refine pt_iald hx hb hK hP 6 5 rfl rfl b rfl (by omega) (by decide) dX2_range_179 ?_
                  refine pt_top (y := nI (fr b)) (by rw [(hAK 9 (by decide) (by decide) (by decide))]; exact t9) ?_
                  refine lv_aload_n hx hb dX2_range_180 rfl (lv_at hl 4 rfl) ?_
                  refine va_get (D := (dC, dI)) (ci := 2) (v := .ref (a 10)) (C := RX2) (T := TX2) (N := 27) hx hb hts iw_c_X2_range_wsX20 hown hK hP 0 rfl rfl 10 (by decide) (hts _ wd_c_X2_range_X2_range_12) (fun _ h9 => h9) rfl dX2_range_181 ?_
                  refine lv_iload hx hb dX2_range_184 (lv_at hl 3 rfl) ?_
                  refine pt_iald hx hb hK hP 7 6 rfl rfl b rfl (by omega) (by decide) dX2_range_186 ?_
                  refine pt_top (y := nI (mn b)) (by rw [(hAK 10 (by decide) (by decide) (by decide))]; exact t10) ?_
                  refine lv_iadd hx hb dX2_range_187 ?_
                  refine pt_top (y := nI ((fr b) + (mn b))) (nI_add _ _) ?_
                  refine lv_icmp_ge (tgt := 290) hx hb dX2_range_188 (by decide) (fun c188 => ?_) (fun c188 => ?_)
                  · have hke : k = tO b := by have := (nI_leI (by omega) (by omega)).mp c188; omega
                    refine lv_iload hx hb dX2_range_290 (lv_at hl 1 rfl) ?_
                    refine lv_istore (lv' := [(8, .int (nI n)), (11, .int (nI k)), (10, .int (nI n)), (9, .int (nI 0)), (0, .ref (a 0)), (1, .int (nI rl)), (2, .int x0), (3, .int x1), (4, .int y0), (5, .int y1), (6, .int z0), (7, .int z1)]) hx hb dX2_range_292 hl (by decide) rfl (fun ls hl => ?_)
                    refine lv_goto (tgt := 81) hx hb dX2_range_294 (by decide) ?_
                    have hst := pt_st_none (fr := fr) (od := od) (th := (fun t => ¬ A 3 t = 0)) (P := (fun t => ¬ A 3 t = 0 ∧ pt_so rl (pt_mM ax (A 4) (A 5) L G (3 * t)) (pt_wM ax (A 4) (A 5) L G (3 * t)) (pt_hM ax (A 4) (A 5) L G (3 * t)))) hvis (fun q => absurd (hv0.symm.trans q) (by decide)) (fun q => absurd (hv0.symm.trans q) (by decide))
                    rw [hke] at haK
                    have hdr := pt_dn_run (n := b) (tO := tO) (ot := ot) (vd := (fun b => pt_vd rl (pt_mM ax (A 13) (A 14) L G (3 * b)) (pt_wM ax (A 13) (A 14) L G (3 * b)) (pt_hM ax (A 13) (A 14) L G (3 * b)))) (pt_dn_to hvis (fun q => absurd (hv0.symm.trans q) (by decide))) (n - (b + 1)) (fun c h1 h2 => hTF.2.1 b c h1 (by omega) (fun e h3 h4 => hdeep e h3 (by omega)))
                    rw [show b + 1 + (n - (b + 1)) = n by omega] at hdr
                    have hsk := pt_st_skip (fr := fr) (od := od) (th := (fun t => ¬ A 3 t = 0)) (P := (fun t => ¬ A 3 t = 0 ∧ pt_so rl (pt_mM ax (A 4) (A 5) L G (3 * t)) (pt_wM ax (A 4) (A 5) L G (3 * t)) (pt_hM ax (A 4) (A 5) L G (3 * t)))) (n := b + 1) (n - (b + 1)) (fun c h1 h2 => hdr.2 c h1 (by omega))
                    rw [show b + 1 + (n - (b + 1)) = n by omega] at hsk
                    have hdn2 : n < nb → pt_dn tO ot (fun b => pt_vd rl (pt_mM ax (A 13) (A 14) L G (3 * b)) (pt_wM ax (A 13) (A 14) L G (3 * b)) (pt_hM ax (A 13) (A 14) L G (3 * b))) n ≤ fr n := pt_dn_next hTF hdr.1 hbn2 hnx hdeep
                    exact ihb (n, Fk, Ak) _ _ _ ⟨hnn, ⟨⟨((haK.c (fun x => ⟨fun q => q.elim id (fun ⟨_, _, _, _, q⟩ => q.elim), Or.inl⟩) (by rw [pt_cnt_none _ (fun _ _ q => q.2)]; rfl)).c hst.1 hst.2.1).c hsk.1 hsk.2.1, by show Fk 24 = _; rw [hoK, hst.2.2.1, hsk.2.2.1], by show Fk 25 = _; rw [hsK, hst.2.2.2.1, hsk.2.2.2.1], by show Fk 26 = _; rw [htK, hst.2.2.2.2, hsk.2.2.2.2]⟩, ⟨⟨hF0k, hFK⟩, hL20k, hG21k, hAK⟩, hdn2⟩, hP, hD, hS, lv_sub hl [0, 4, 5, 6, 7, 8, 9, 10, 11] rfl⟩ (by show nb - n < nb - b; omega)
                  · have hkl : k < tO b := Nat.not_le.mp (fun q => c188 ((nI_leI (by omega) (by omega)).mpr (by omega)))
                    have hodk := hod k (by omega)
                    have ho64 := hodk.2
                    refine lv_aload_n hx hb dX2_range_191 rfl (lv_at hl 4 rfl) ?_
                    refine va_get (D := (dC, dI)) (ci := 2) (v := .ref (a 7)) (C := RX2) (T := TX2) (N := 27) hx hb hts iw_c_X2_range_wsX20 hown hK hP 0 rfl rfl 7 (by decide) (hts _ wd_c_X2_range_X2_range_13) (fun _ h9 => h9) rfl dX2_range_192 ?_
                    refine lv_iload hx hb dX2_range_195 (lv_at hl 0 rfl) ?_
                    refine pt_iald hx hb hK hP 5 4 rfl rfl k rfl (by omega) (by decide) dX2_range_197 ?_
                    refine pt_top (y := nI (od k)) (by rw [(hAK 7 (by decide) (by decide) (by decide))]; exact hodk.1) ?_
                    refine lv_istore (lv' := [(12, .int (nI (od k))), (11, .int (nI k)), (10, .int (nI n)), (9, .int (nI 0)), (8, .int (nI b)), (0, .ref (a 0)), (1, .int (nI rl)), (2, .int x0), (3, .int x1), (4, .int y0), (5, .int y1), (6, .int z0), (7, .int z1)]) hx hb dX2_range_198 hl (by decide) rfl (fun ls hl => ?_)
                    refine lv_aload_n hx hb dX2_range_200 rfl (lv_at hl 5 rfl) ?_
                    refine va_get (D := (dC, dI)) (ci := 2) (v := .ref (a 3)) (C := RX2) (T := TX2) (N := 27) hx hb hts iw_c_X2_range_wsX20 hown hK hP 0 rfl rfl 3 (by decide) (hts _ wd_c_X2_range_X2_range_7) (fun _ h9 => h9) rfl dX2_range_201 ?_
                    refine lv_iload hx hb dX2_range_204 (lv_at hl 0 rfl) ?_
                    refine pt_zald hx hb hK hP 1 0 rfl rfl (od k) rfl (by omega) (by decide) dX2_range_206 ?_
                    refine pt_top (y := A 3 (od k)) (by rw [(hAK 3 (by decide) (by decide) (by decide))]) ?_
                    refine lv_if_eq (tgt := 232) hx hb dX2_range_207 (by decide) (fun c207 => ?_) (fun c207 => ?_)
                    · refine lv_aload_n hx hb dX2_range_232 rfl (lv_at hl 5 rfl) ?_
                      refine va_get (D := (dC, dI)) (ci := 2) (v := .ref (a 3)) (C := RX2) (T := TX2) (N := 27) hx hb hts iw_c_X2_range_wsX20 hown hK hP 0 rfl rfl 3 (by decide) (hts _ wd_c_X2_range_X2_range_7) (fun _ h9 => h9) rfl dX2_range_233 ?_
                      refine lv_iload hx hb dX2_range_236 (lv_at hl 0 rfl) ?_
                      refine pt_zald hx hb hK hP 1 0 rfl rfl (od k) rfl (by omega) (by decide) dX2_range_238 ?_
                      refine pt_top (y := A 3 (od k)) (by rw [(hAK 3 (by decide) (by decide) (by decide))]) ?_
                      refine lv_if_eq (tgt := 284) hx hb dX2_range_239 (by decide) (fun c239 => ?_) (fun c239 => absurd c207 c239)
                      refine lv_iinc (v := nI (k + 1)) (lv' := [(11, .int (nI (k + 1))), (12, .int (nI (od k))), (10, .int (nI n)), (9, .int (nI 0)), (8, .int (nI b)), (0, .ref (a 0)), (1, .int (nI rl)), (2, .int x0), (3, .int x1), (4, .int y0), (5, .int y1), (6, .int z0), (7, .int z1)]) hx hb dX2_range_284 hl (k := 1) rfl (nI_1 _) (by decide) rfl (fun ls hl => ?_)
                      refine lv_goto (tgt := 171) hx hb dX2_range_287 (by decide) ?_
                      have hno : ¬ (fun _ => False) (od k) := (fun q => q)
                      exact ihk (k + 1, Fk, Ak) _ _ _ ⟨⟨by show fr b ≤ k + 1; omega, by show k + 1 ≤ tO b; omega⟩, ⟨⟨(haK.no (t := od k) hno).c (fun x => pt_run_s (P := (fun _ => False)) hfk) (by show _ = _ + pt_cnt _ (k + 1); rw [pt_cntr_s (P := fun z => (fun _ => False) (od z)) hfk, Nat.add_assoc]), hoK, hsK, htK⟩, ⟨⟨hF0k, hFK⟩, hL20k, hG21k, hAK⟩⟩, hP, hD, hS, lv_sub hl [0, 2, 3, 4, 5, 6, 7, 8, 9, 10, 11, 12] rfl⟩ (by show tO b - (k + 1) < tO b - k; omega)
                    · refine lv_iload hx hb dX2_range_210 (lv_at hl 3 rfl) ?_
                      refine lv_iconst (v := nI 1) hx hb dX2_range_212 (by decide) ?_
                      refine lv_icmp_ne (tgt := 232) hx hb dX2_range_213 (by decide) (fun c213 => ?_) (fun c213 => absurd c213 (by decide))
                      refine lv_aload_n hx hb dX2_range_232 rfl (lv_at hl 5 rfl) ?_
                      refine va_get (D := (dC, dI)) (ci := 2) (v := .ref (a 3)) (C := RX2) (T := TX2) (N := 27) hx hb hts iw_c_X2_range_wsX20 hown hK hP 0 rfl rfl 3 (by decide) (hts _ wd_c_X2_range_X2_range_7) (fun _ h9 => h9) rfl dX2_range_233 ?_
                      refine lv_iload hx hb dX2_range_236 (lv_at hl 0 rfl) ?_
                      refine pt_zald hx hb hK hP 1 0 rfl rfl (od k) rfl (by omega) (by decide) dX2_range_238 ?_
                      refine pt_top (y := A 3 (od k)) (by rw [(hAK 3 (by decide) (by decide) (by decide))]) ?_
                      refine lv_if_eq (tgt := 284) hx hb dX2_range_239 (by decide) (fun c239 => absurd c239 c207) (fun c239 => ?_)
                      refine lv_iload hx hb dX2_range_242 (lv_at hl 3 rfl) ?_
                      refine lv_if_ge (tgt := 284) hx hb dX2_range_244 (by decide) (fun c244 => ?_) (fun c244 => absurd (by decide) c244)
                      refine lv_iinc (v := nI (k + 1)) (lv' := [(11, .int (nI (k + 1))), (12, .int (nI (od k))), (10, .int (nI n)), (9, .int (nI 0)), (8, .int (nI b)), (0, .ref (a 0)), (1, .int (nI rl)), (2, .int x0), (3, .int x1), (4, .int y0), (5, .int y1), (6, .int z0), (7, .int z1)]) hx hb dX2_range_284 hl (k := 1) rfl (nI_1 _) (by decide) rfl (fun ls hl => ?_)
                      refine lv_goto (tgt := 171) hx hb dX2_range_287 (by decide) ?_
                      have hno : ¬ (fun _ => False) (od k) := (fun q => q)
                      exact ihk (k + 1, Fk, Ak) _ _ _ ⟨⟨by show fr b ≤ k + 1; omega, by show k + 1 ≤ tO b; omega⟩, ⟨⟨(haK.no (t := od k) hno).c (fun x => pt_run_s (P := (fun _ => False)) hfk) (by show _ = _ + pt_cnt _ (k + 1); rw [pt_cntr_s (P := fun z => (fun _ => False) (od z)) hfk, Nat.add_assoc]), hoK, hsK, htK⟩, ⟨⟨hF0k, hFK⟩, hL20k, hG21k, hAK⟩⟩, hP, hD, hS, lv_sub hl [0, 2, 3, 4, 5, 6, 7, 8, 9, 10, 11, 12] rfl⟩ (by show tO b - (k + 1) < tO b - k; omega)
                · have d143 : dp b < dp n := Nat.not_le.mp (fun q => c143 ((nI_leI (by omega) (by omega)).mpr q))
                  refine lv_iinc (v := nI (n + 1)) (lv' := [(10, .int (nI (n + 1))), (9, .int (nI 0)), (8, .int (nI b)), (0, .ref (a 0)), (1, .int (nI rl)), (2, .int x0), (3, .int x1), (4, .int y0), (5, .int y1), (6, .int z0), (7, .int z1)]) hx hb dX2_range_146 hl (k := 0) rfl (nI_1 _) (by decide) rfl (fun ls hl => ?_)
                  refine lv_goto (tgt := 120) hx hb dX2_range_149 (by decide) ?_
                  exact ihn (n + 1) _ ⟨⟨by omega, by omega, fun e h1 h2 => (Nat.lt_succ_iff_lt_or_eq.mp h2).elim (hdeep e h1) (fun z => by subst z; exact d143)⟩, lv_sub hl [0, 1, 2, 3, 4, 5, 6, 7, 8, 9, 10] rfl⟩ (by omega)
            · refine pt_top (y := nI 1) (by rw [hv0]; rfl) ?_
              refine lv_istore (lv' := [(9, .int (nI 1)), (8, .int (nI b)), (0, .ref (a 0)), (1, .int (nI rl)), (2, .int x0), (3, .int x1), (4, .int y0), (5, .int y1), (6, .int z0), (7, .int z1)]) hx hb dX2_range_97 hl (by decide) rfl (fun ls hl => ?_)
              refine lv_iload hx hb dX2_range_99 (lv_at hl 1 rfl) ?_
              refine lv_iconst (v := nI 1) hx hb dX2_range_101 (by decide) ?_
              refine lv_iadd hx hb dX2_range_102 ?_
              refine pt_top (y := nI (b + 1)) (nI_add _ _) ?_
              refine lv_istore (lv' := [(10, .int (nI (b + 1))), (9, .int (nI 1)), (8, .int (nI b)), (0, .ref (a 0)), (1, .int (nI rl)), (2, .int x0), (3, .int x1), (4, .int y0), (5, .int y1), (6, .int z0), (7, .int z1)]) hx hb dX2_range_103 hl (by decide) rfl (fun ls hl => ?_)
              refine lv_iload hx hb dX2_range_105 (lv_at hl 1 rfl) ?_
              refine lv_if_lt (tgt := 152) hx hb dX2_range_107 (by decide) (fun c107 => absurd c107 (by decide)) (fun c107 => ?_)
              refine lv_aload_n hx hb dX2_range_110 rfl (lv_at hl 3 rfl) ?_
              refine lv_dup hx hb dX2_range_111 rfl ?_
              refine va_get (D := (dC, dI)) (ci := 2) (v := .int (Fb 25)) (C := RX2) (T := TX2) (N := 27) hx hb hts iw_c_X2_range_wsX20 hown hK hP 0 rfl rfl 25 (by decide) (hts _ wd_c_X2_range_X2_range_3) (fun _ h9 => h9) rfl dX2_range_112 ?_
              refine pt_top (y := nI (pt_SE tO ot (fun b => pt_vd rl (pt_mM ax (A 13) (A 14) L G (3 * b)) (pt_wM ax (A 13) (A 14) L G (3 * b)) (pt_hM ax (A 13) (A 14) L G (3 * b))) b)) hsB ?_
              refine lv_iconst (v := nI 1) hx hb dX2_range_115 (by decide) ?_
              refine lv_iadd hx hb dX2_range_116 ?_
              refine pt_top (y := nI ((pt_SE tO ot (fun b => pt_vd rl (pt_mM ax (A 13) (A 14) L G (3 * b)) (pt_wM ax (A 13) (A 14) L G (3 * b)) (pt_hM ax (A 13) (A 14) L G (3 * b))) b) + 1)) (nI_add _ _) ?_
              obtain ⟨F9, eF9⟩ : ∃ zz, zz = upd Fb 25 (nI ((pt_SE tO ot (fun b => pt_vd rl (pt_mM ax (A 13) (A 14) L G (3 * b)) (pt_wM ax (A 13) (A 14) L G (3 * b)) (pt_hM ax (A 13) (A 14) L G (3 * b))) b) + 1)) := ⟨_, rfl⟩
              refine va_put (D := (dC, dI)) (ci := 2) (v := .int (nI ((pt_SE tO ot (fun b => pt_vd rl (pt_mM ax (A 13) (A 14) L G (3 * b)) (pt_wM ax (A 13) (A 14) L G (3 * b)) (pt_hM ax (A 13) (A 14) L G (3 * b))) b) + 1))) (ty := .int) (C := RX2) (T := TX2) (N := 27) hx hb hts iw_c_X2_range_wsX20 tyX2 tyX2_ok nmX2 hown hK hP hD hS 0 rfl rfl 25 (by decide) (hts _ wd_c_X2_range_X2_range_3) (fun _ h9 => h9) rfl (by decide +kernel) rfl rfl (Nat.le_of_ble_eq_true rfl) dX2_range_117 (fun H locs hP hD hS => ?_)
              have hP : va_P (dC, dI) vwCl (pt_mw a c F9 Ab) H := by rw [eF9]; exact hP
              have hD : va_D AA (pt_mw a c F9 Ab) := by rw [eF9]; exact hD
              have kF9_0 : F9 0 = nI 0 := by rw [eF9, pt_upd_ne (by decide)]; exact hF0
              have kF9_1 : F9 1 = nI ax := by rw [eF9, pt_upd_ne (by decide)]; exact kb1
              have kF9_2 : F9 2 = nI md := by rw [eF9, pt_upd_ne (by decide)]; exact kb2
              have kF9_8 : F9 8 = nI nb := by rw [eF9, pt_upd_ne (by decide)]; exact kb8
              have kF9_24 : F9 24 = nI (pt_OP tO ot (fun b => pt_vd rl (pt_mM ax (A 13) (A 14) L G (3 * b)) (pt_wM ax (A 13) (A 14) L G (3 * b)) (pt_hM ax (A 13) (A 14) L G (3 * b))) b) := by rw [eF9, pt_upd_ne (by decide)]; exact hoB
              have kF9_26 : F9 26 = nI (pt_FT fr tO ot od (fun b => pt_vd rl (pt_mM ax (A 13) (A 14) L G (3 * b)) (pt_wM ax (A 13) (A 14) L G (3 * b)) (pt_hM ax (A 13) (A 14) L G (3 * b))) (fun t => ¬ A 3 t = 0) (fun t => ¬ A 3 t = 0 ∧ pt_so rl (pt_mM ax (A 4) (A 5) L G (3 * t)) (pt_wM ax (A 4) (A 5) L G (3 * t)) (pt_hM ax (A 4) (A 5) L G (3 * t))) b) := by rw [eF9, pt_upd_ne (by decide)]; exact htB
              have kF9_25 : F9 25 = nI ((pt_SE tO ot (fun b => pt_vd rl (pt_mM ax (A 13) (A 14) L G (3 * b)) (pt_wM ax (A 13) (A 14) L G (3 * b)) (pt_hM ax (A 13) (A 14) L G (3 * b))) b) + 1) := by rw [eF9, pt_upd]
              refine pt_loopR (fun n : Nat => nb - n) (fun n ls => (b < n ∧ n ≤ nb ∧ ∀ e, b < e → e < n → dp b < dp e) ∧ lv_has ls 13 [(10, .int (nI n)), (9, .int (nI 1)), (8, .int (nI b)), (0, .ref (a 0)), (1, .int (nI rl)), (2, .int x0), (3, .int x1), (4, .int y0), (5, .int y1), (6, .int z0), (7, .int z1)]) ?_ (b + 1) _ ⟨⟨by omega, by omega, fun e h1 h2 => by omega⟩, hl⟩
              intro n ls ⟨⟨hbn2, hnn, hdeep⟩, hl⟩ ihn
              refine lv_iload hx hb dX2_range_120 (lv_at hl 0 rfl) ?_
              refine lv_aload_n hx hb dX2_range_122 rfl (lv_at hl 3 rfl) ?_
              refine va_get (D := (dC, dI)) (ci := 2) (v := .int (F9 8)) (C := RX2) (T := TX2) (N := 27) hx hb hts iw_c_X2_range_wsX20 hown hK hP 0 rfl rfl 8 (by decide) (hts _ wd_c_X2_range_X2_range_5) (fun _ h9 => h9) rfl dX2_range_123 ?_
              refine pt_top (y := nI nb) kF9_8 ?_
              refine lv_icmp_ge (tgt := 162) hx hb dX2_range_126 (by decide) (fun c126 => ?_) (fun c126 => ?_)
              · have hnx : n = nb ∨ (n < nb ∧ dp n ≤ dp b) := Or.inl (by have := (nI_leI (by omega) (by omega)).mp c126; omega)
                refine lv_aload_n hx hb dX2_range_162 rfl (lv_at hl 3 rfl) ?_
                refine va_get (D := (dC, dI)) (ci := 2) (v := .ref (a 9)) (C := RX2) (T := TX2) (N := 27) hx hb hts iw_c_X2_range_wsX20 hown hK hP 0 rfl rfl 9 (by decide) (hts _ wd_c_X2_range_X2_range_11) (fun _ h9 => h9) rfl dX2_range_163 ?_
                refine lv_iload hx hb dX2_range_166 (lv_at hl 2 rfl) ?_
                refine pt_iald hx hb hK hP 6 5 rfl rfl b rfl (by omega) (by decide) dX2_range_168 ?_
                refine pt_top (y := nI (fr b)) (by rw [(hAB 9 (by decide) (by decide) (by decide))]; exact t9) ?_
                refine lv_istore (lv' := [(11, .int (nI (fr b))), (10, .int (nI n)), (9, .int (nI 1)), (8, .int (nI b)), (0, .ref (a 0)), (1, .int (nI rl)), (2, .int x0), (3, .int x1), (4, .int y0), (5, .int y1), (6, .int z0), (7, .int z1)]) hx hb dX2_range_169 hl (by decide) rfl (fun ls hl => ?_)
                refine pt_loopW (fun q : Nat × pt_MS => tO b - q.1) (fun q ls H locs => (fr b ≤ q.1 ∧ q.1 ≤ tO b) ∧ ((pt_aM (pt_run (pt_FD fr tO ot od (fun b => pt_vd rl (pt_mM ax (A 13) (A 14) L G (3 * b)) (pt_wM ax (A 13) (A 14) L G (3 * b)) (pt_hM ax (A 13) (A 14) L G (3 * b))) (fun t => ¬ A 3 t = 0) (fun t => ¬ A 3 t = 0 ∧ pt_so rl (pt_mM ax (A 4) (A 5) L G (3 * t)) (pt_wM ax (A 4) (A 5) L G (3 * t)) (pt_hM ax (A 4) (A 5) L G (3 * t))) b) od (fun t => ¬ A 3 t = 0) (fr b) q.1) (pt_FC fr tO ot od (fun b => pt_vd rl (pt_mM ax (A 13) (A 14) L G (3 * b)) (pt_wM ax (A 13) (A 14) L G (3 * b)) (pt_hM ax (A 13) (A 14) L G (3 * b))) (fun t => ¬ A 3 t = 0) (fun t => ¬ A 3 t = 0 ∧ pt_so rl (pt_mM ax (A 4) (A 5) L G (3 * t)) (pt_wM ax (A 4) (A 5) L G (3 * t)) (pt_hM ax (A 4) (A 5) L G (3 * t))) b + pt_cnt (fun z => fr b ≤ z ∧ (fun t => ¬ A 3 t = 0) (od z)) q.1) q.2.1 q.2.2 ∧ q.2.1 24 = nI (pt_OP tO ot (fun b => pt_vd rl (pt_mM ax (A 13) (A 14) L G (3 * b)) (pt_wM ax (A 13) (A 14) L G (3 * b)) (pt_hM ax (A 13) (A 14) L G (3 * b))) b) ∧ q.2.1 25 = nI ((pt_SE tO ot (fun b => pt_vd rl (pt_mM ax (A 13) (A 14) L G (3 * b)) (pt_wM ax (A 13) (A 14) L G (3 * b)) (pt_hM ax (A 13) (A 14) L G (3 * b))) b) + 1) ∧ q.2.1 26 = nI ((pt_FT fr tO ot od (fun b => pt_vd rl (pt_mM ax (A 13) (A 14) L G (3 * b)) (pt_wM ax (A 13) (A 14) L G (3 * b)) (pt_hM ax (A 13) (A 14) L G (3 * b))) (fun t => ¬ A 3 t = 0) (fun t => ¬ A 3 t = 0 ∧ pt_so rl (pt_mM ax (A 4) (A 5) L G (3 * t)) (pt_wM ax (A 4) (A 5) L G (3 * t)) (pt_hM ax (A 4) (A 5) L G (3 * t))) b) + pt_cnt (fun z => fr b ≤ z ∧ (fun t => ¬ A 3 t = 0) (od z)) q.1)) ∧ ((q.2.1 0 = nI 0 ∧ (∀ j, j ≠ 0 → j ≠ 23 → j ≠ 24 → j ≠ 25 → j ≠ 26 → q.2.1 j = F j)) ∧ (q.2.2 20 = L ∧ q.2.2 21 = G ∧ ∀ j, j ≠ 20 → j ≠ 21 → j ≠ 22 → q.2.2 j = A j))) ∧ va_P (dC, dI) vwCl (pt_mw a c q.2.1 q.2.2) H ∧ va_D AA (pt_mw a c q.2.1 q.2.2) ∧ va_S AA s.heap H locs ∧ lv_has ls 13 [(11, .int (nI q.1)), (10, .int (nI n)), (9, .int (nI 1)), (8, .int (nI b)), (0, .ref (a 0)), (1, .int (nI rl)), (2, .int x0), (3, .int x1), (4, .int y0), (5, .int y1), (6, .int z0), (7, .int z1)]) ?_ (fr b, F9, Ab) _ _ _ ⟨⟨Nat.le_refl _, by omega⟩, ⟨⟨(haB.m (by show F9 23 = Fb 23; rw [eF9, pt_upd_ne (by decide)]) rfl).c (fun x => pt_run_0) (by show _ = _ + pt_cnt _ (fr b); rw [pt_cntr_0]; rfl), kF9_24, kF9_25, by show _ = nI (_ + pt_cnt _ (fr b)); rw [pt_cntr_0]; exact kF9_26⟩, ⟨⟨kF9_0, fun j j0 j23 j24 j25 j26 => by show F9 j = F j; rw [eF9, pt_upd_ne j25]; exact hFB j j0 j23 j24 j25 j26⟩, hL20, hG21, hAB⟩⟩, hP, hD, hS, hl⟩
                intro ⟨k, Fk, Ak⟩ ls H locs ⟨⟨hfk, hkt⟩, ⟨⟨haK, hoK, hsK, htK⟩, ⟨⟨hF0k, hFK⟩, hL20k, hG21k, hAK⟩⟩, hP, hD, hS, hl⟩ ihk
                dsimp only at hfk hkt haK hoK hsK htK hF0k hFK hL20k hG21k hAK hP hD hl ihk
                have kk1 : Fk 1 = nI ax := (hFK 1 (by decide) (by decide) (by decide) (by decide) (by decide)).trans h1
                refine lv_iload hx hb dX2_range_171 (lv_at hl 0 rfl) ?_
                refine lv_aload_n hx hb dX2_range_173 rfl (lv_at hl 4 rfl) ?_
                refine va_get (D := (dC, dI)) (ci := 2) (v := .ref (a 9)) (C := RX2) (T := TX2) (N := 27) hx hb hts iw_c_X2_range_wsX20 hown hK hP 0 rfl rfl 9 (by decide) (hts _ wd_c_X2_range_X2_range_11) (fun _ h9 => h9) rfl dX2_range_174 ?_
                refine lv_iload hx hb dX2_range_177 (lv_at hl 3 rfl) ?_
                refine pt_iald hx hb hK hP 6 5 rfl rfl b rfl (by omega) (by decide) dX2_range_179 ?_
                refine pt_top (y := nI (fr b)) (by rw [(hAK 9 (by decide) (by decide) (by decide))]; exact t9) ?_
                refine lv_aload_n hx hb dX2_range_180 rfl (lv_at hl 4 rfl) ?_
                refine va_get (D := (dC, dI)) (ci := 2) (v := .ref (a 10)) (C := RX2) (T := TX2) (N := 27) hx hb hts iw_c_X2_range_wsX20 hown hK hP 0 rfl rfl 10 (by decide) (hts _ wd_c_X2_range_X2_range_12) (fun _ h9 => h9) rfl dX2_range_181 ?_
                refine lv_iload hx hb dX2_range_184 (lv_at hl 3 rfl) ?_
                refine pt_iald hx hb hK hP 7 6 rfl rfl b rfl (by omega) (by decide) dX2_range_186 ?_
                refine pt_top (y := nI (mn b)) (by rw [(hAK 10 (by decide) (by decide) (by decide))]; exact t10) ?_
                refine lv_iadd hx hb dX2_range_187 ?_
                refine pt_top (y := nI ((fr b) + (mn b))) (nI_add _ _) ?_
                refine lv_icmp_ge (tgt := 290) hx hb dX2_range_188 (by decide) (fun c188 => ?_) (fun c188 => ?_)
                · have hke : k = tO b := by have := (nI_leI (by omega) (by omega)).mp c188; omega
                  refine lv_iload hx hb dX2_range_290 (lv_at hl 1 rfl) ?_
                  refine lv_istore (lv' := [(8, .int (nI n)), (11, .int (nI k)), (10, .int (nI n)), (9, .int (nI 1)), (0, .ref (a 0)), (1, .int (nI rl)), (2, .int x0), (3, .int x1), (4, .int y0), (5, .int y1), (6, .int z0), (7, .int z1)]) hx hb dX2_range_292 hl (by decide) rfl (fun ls hl => ?_)
                  refine lv_goto (tgt := 81) hx hb dX2_range_294 (by decide) ?_
                  have hst := pt_st_all (fr := fr) (od := od) (th := (fun t => ¬ A 3 t = 0)) (P := (fun t => ¬ A 3 t = 0 ∧ pt_so rl (pt_mM ax (A 4) (A 5) L G (3 * t)) (pt_wM ax (A 4) (A 5) L G (3 * t)) (pt_hM ax (A 4) (A 5) L G (3 * t)))) hvis hv0
                  rw [hke] at haK htK
                  have hdr := pt_dn_run (n := b) (tO := tO) (ot := ot) (vd := (fun b => pt_vd rl (pt_mM ax (A 13) (A 14) L G (3 * b)) (pt_wM ax (A 13) (A 14) L G (3 * b)) (pt_hM ax (A 13) (A 14) L G (3 * b)))) (pt_dn_to hvis (fun q => absurd (hv0.symm.trans q) (by decide))) (n - (b + 1)) (fun c h1 h2 => hTF.2.1 b c h1 (by omega) (fun e h3 h4 => hdeep e h3 (by omega)))
                  rw [show b + 1 + (n - (b + 1)) = n by omega] at hdr
                  have hsk := pt_st_skip (fr := fr) (od := od) (th := (fun t => ¬ A 3 t = 0)) (P := (fun t => ¬ A 3 t = 0 ∧ pt_so rl (pt_mM ax (A 4) (A 5) L G (3 * t)) (pt_wM ax (A 4) (A 5) L G (3 * t)) (pt_hM ax (A 4) (A 5) L G (3 * t)))) (n := b + 1) (n - (b + 1)) (fun c h1 h2 => hdr.2 c h1 (by omega))
                  rw [show b + 1 + (n - (b + 1)) = n by omega] at hsk
                  have hdn2 : n < nb → pt_dn tO ot (fun b => pt_vd rl (pt_mM ax (A 13) (A 14) L G (3 * b)) (pt_wM ax (A 13) (A 14) L G (3 * b)) (pt_hM ax (A 13) (A 14) L G (3 * b))) n ≤ fr n := pt_dn_next hTF hdr.1 hbn2 hnx hdeep
                  exact ihb (n, Fk, Ak) _ _ _ ⟨hnn, ⟨⟨(haK.c hst.1 hst.2.1).c hsk.1 hsk.2.1, by show Fk 24 = _; rw [hoK, hst.2.2.1, hsk.2.2.1], by show Fk 25 = _; rw [hsK, hst.2.2.2.1, hsk.2.2.2.1], by show Fk 26 = _; rw [htK, hst.2.2.2.2, hsk.2.2.2.2]⟩, ⟨⟨hF0k, hFK⟩, hL20k, hG21k, hAK⟩, hdn2⟩, hP, hD, hS, lv_sub hl [0, 4, 5, 6, 7, 8, 9, 10, 11] rfl⟩ (by show nb - n < nb - b; omega)
                · have hkl : k < tO b := Nat.not_le.mp (fun q => c188 ((nI_leI (by omega) (by omega)).mpr (by omega)))
                  have hodk := hod k (by omega)
                  have ho64 := hodk.2
                  refine lv_aload_n hx hb dX2_range_191 rfl (lv_at hl 4 rfl) ?_
                  refine va_get (D := (dC, dI)) (ci := 2) (v := .ref (a 7)) (C := RX2) (T := TX2) (N := 27) hx hb hts iw_c_X2_range_wsX20 hown hK hP 0 rfl rfl 7 (by decide) (hts _ wd_c_X2_range_X2_range_13) (fun _ h9 => h9) rfl dX2_range_192 ?_
                  refine lv_iload hx hb dX2_range_195 (lv_at hl 0 rfl) ?_
                  refine pt_iald hx hb hK hP 5 4 rfl rfl k rfl (by omega) (by decide) dX2_range_197 ?_
                  refine pt_top (y := nI (od k)) (by rw [(hAK 7 (by decide) (by decide) (by decide))]; exact hodk.1) ?_
                  refine lv_istore (lv' := [(12, .int (nI (od k))), (11, .int (nI k)), (10, .int (nI n)), (9, .int (nI 1)), (8, .int (nI b)), (0, .ref (a 0)), (1, .int (nI rl)), (2, .int x0), (3, .int x1), (4, .int y0), (5, .int y1), (6, .int z0), (7, .int z1)]) hx hb dX2_range_198 hl (by decide) rfl (fun ls hl => ?_)
                  refine lv_aload_n hx hb dX2_range_200 rfl (lv_at hl 5 rfl) ?_
                  refine va_get (D := (dC, dI)) (ci := 2) (v := .ref (a 3)) (C := RX2) (T := TX2) (N := 27) hx hb hts iw_c_X2_range_wsX20 hown hK hP 0 rfl rfl 3 (by decide) (hts _ wd_c_X2_range_X2_range_7) (fun _ h9 => h9) rfl dX2_range_201 ?_
                  refine lv_iload hx hb dX2_range_204 (lv_at hl 0 rfl) ?_
                  refine pt_zald hx hb hK hP 1 0 rfl rfl (od k) rfl (by omega) (by decide) dX2_range_206 ?_
                  refine pt_top (y := A 3 (od k)) (by rw [(hAK 3 (by decide) (by decide) (by decide))]) ?_
                  refine lv_if_eq (tgt := 232) hx hb dX2_range_207 (by decide) (fun c207 => ?_) (fun c207 => ?_)
                  · refine lv_aload_n hx hb dX2_range_232 rfl (lv_at hl 5 rfl) ?_
                    refine va_get (D := (dC, dI)) (ci := 2) (v := .ref (a 3)) (C := RX2) (T := TX2) (N := 27) hx hb hts iw_c_X2_range_wsX20 hown hK hP 0 rfl rfl 3 (by decide) (hts _ wd_c_X2_range_X2_range_7) (fun _ h9 => h9) rfl dX2_range_233 ?_
                    refine lv_iload hx hb dX2_range_236 (lv_at hl 0 rfl) ?_
                    refine pt_zald hx hb hK hP 1 0 rfl rfl (od k) rfl (by omega) (by decide) dX2_range_238 ?_
                    refine pt_top (y := A 3 (od k)) (by rw [(hAK 3 (by decide) (by decide) (by decide))]) ?_
                    refine lv_if_eq (tgt := 284) hx hb dX2_range_239 (by decide) (fun c239 => ?_) (fun c239 => absurd c207 c239)
                    refine lv_iinc (v := nI (k + 1)) (lv' := [(11, .int (nI (k + 1))), (12, .int (nI (od k))), (10, .int (nI n)), (9, .int (nI 1)), (8, .int (nI b)), (0, .ref (a 0)), (1, .int (nI rl)), (2, .int x0), (3, .int x1), (4, .int y0), (5, .int y1), (6, .int z0), (7, .int z1)]) hx hb dX2_range_284 hl (k := 1) rfl (nI_1 _) (by decide) rfl (fun ls hl => ?_)
                    refine lv_goto (tgt := 171) hx hb dX2_range_287 (by decide) ?_
                    have hno : ¬ (fun t => ¬ A 3 t = 0) (od k) := (fun q => q c207)
                    exact ihk (k + 1, Fk, Ak) _ _ _ ⟨⟨by show fr b ≤ k + 1; omega, by show k + 1 ≤ tO b; omega⟩, ⟨⟨(haK.no (t := od k) hno).c (fun x => pt_run_s (P := (fun t => ¬ A 3 t = 0)) hfk) (by show _ = _ + pt_cnt _ (k + 1); rw [pt_cntr_s (P := fun z => (fun t => ¬ A 3 t = 0) (od z)) hfk, Nat.add_assoc]), hoK, hsK, by show Fk 26 = nI (_ + pt_cnt _ (k + 1)); rw [pt_cntr_s (P := fun z => (fun t => ¬ A 3 t = 0) (od z)) hfk, pt_cb_f (P := (fun t => ¬ A 3 t = 0) (od k)) (fun q => q c207)]; exact htK⟩, ⟨⟨hF0k, hFK⟩, hL20k, hG21k, hAK⟩⟩, hP, hD, hS, lv_sub hl [0, 2, 3, 4, 5, 6, 7, 8, 9, 10, 11, 12] rfl⟩ (by show tO b - (k + 1) < tO b - k; omega)
                  · refine lv_iload hx hb dX2_range_210 (lv_at hl 3 rfl) ?_
                    refine lv_iconst (v := nI 1) hx hb dX2_range_212 (by decide) ?_
                    refine lv_icmp_ne (tgt := 232) hx hb dX2_range_213 (by decide) (fun c213 => absurd c213 (fun z => z rfl)) (fun c213 => ?_)
                    refine lv_aload_n hx hb dX2_range_216 rfl (lv_at hl 5 rfl) ?_
                    refine lv_iload hx hb dX2_range_217 (lv_at hl 0 rfl) ?_
                    refine pt_callv (wf := (fun u : pt_MS => pt_mw a c u.1 u.2)) (va_runV (As := [.int (nI (od k))]) (rest := []) ⟨hx, hb, hml, hown, hts⟩ (c_X2_find l dC dI a c Fk Ak _ (od k) (by omega) _ _ haK) (cwV 1 hts gX2_range_X2_find rfl rfl rfl (by decide +kernel) ⟨Nat.le_of_ble_eq_true rfl, Nat.le_of_ble_eq_true rfl⟩) (pt_wv2 hP hK hN hD (q0 := 0) rfl) rfl rfl hl.1 rfl (lv_room (Nat.le_of_ble_eq_true rfl)) dX2_range_219 ⟨Nat.le_of_ble_eq_true rfl, Nat.le_of_ble_eq_true rfl⟩) hD hS hA (fun _ => rfl) (fun u219 H locs hr219 hP hD hS => ?_)
                    obtain ⟨F10, A10⟩ := u219
                    obtain ⟨hm10, hfM10, haM10⟩ := hr219
                    dsimp only at hm10 hfM10 haM10 hP hD
                    have kF10_0 : F10 0 = nI 0 := (hfM10 0 (by decide)).trans hF0k
                    have kF10_1 : F10 1 = nI ax := (hfM10 1 (by decide)).trans kk1
                    have kF10_24 : F10 24 = nI (pt_OP tO ot (fun b => pt_vd rl (pt_mM ax (A 13) (A 14) L G (3 * b)) (pt_wM ax (A 13) (A 14) L G (3 * b)) (pt_hM ax (A 13) (A 14) L G (3 * b))) b) := (hfM10 24 (by decide)).trans hoK
                    have kF10_25 : F10 25 = nI ((pt_SE tO ot (fun b => pt_vd rl (pt_mM ax (A 13) (A 14) L G (3 * b)) (pt_wM ax (A 13) (A 14) L G (3 * b)) (pt_hM ax (A 13) (A 14) L G (3 * b))) b) + 1) := (hfM10 25 (by decide)).trans hsK
                    have kF10_26 : F10 26 = nI ((pt_FT fr tO ot od (fun b => pt_vd rl (pt_mM ax (A 13) (A 14) L G (3 * b)) (pt_wM ax (A 13) (A 14) L G (3 * b)) (pt_hM ax (A 13) (A 14) L G (3 * b))) (fun t => ¬ A 3 t = 0) (fun t => ¬ A 3 t = 0 ∧ pt_so rl (pt_mM ax (A 4) (A 5) L G (3 * t)) (pt_wM ax (A 4) (A 5) L G (3 * t)) (pt_hM ax (A 4) (A 5) L G (3 * t))) b) + pt_cnt (fun z => fr b ≤ z ∧ (fun t => ¬ A 3 t = 0) (od z)) k) := (hfM10 26 (by decide)).trans htK
                    refine lv_aload_n hx hb dX2_range_222 rfl (lv_at hl 5 rfl) ?_
                    refine lv_dup hx hb dX2_range_223 rfl ?_
                    refine va_get (D := (dC, dI)) (ci := 2) (v := .int (F10 26)) (C := RX2) (T := TX2) (N := 27) hx hb hts iw_c_X2_range_wsX20 hown hK hP 0 rfl rfl 26 (by decide) (hts _ wd_c_X2_range_X2_range_4) (fun _ h9 => h9) rfl dX2_range_224 ?_
                    refine pt_top (y := nI ((pt_FT fr tO ot od (fun b => pt_vd rl (pt_mM ax (A 13) (A 14) L G (3 * b)) (pt_wM ax (A 13) (A 14) L G (3 * b)) (pt_hM ax (A 13) (A 14) L G (3 * b))) (fun t => ¬ A 3 t = 0) (fun t => ¬ A 3 t = 0 ∧ pt_so rl (pt_mM ax (A 4) (A 5) L G (3 * t)) (pt_wM ax (A 4) (A 5) L G (3 * t)) (pt_hM ax (A 4) (A 5) L G (3 * t))) b) + pt_cnt (fun z => fr b ≤ z ∧ (fun t => ¬ A 3 t = 0) (od z)) k)) kF10_26 ?_
                    refine lv_iconst (v := nI 1) hx hb dX2_range_227 (by decide) ?_
                    refine lv_iadd hx hb dX2_range_228 ?_
                    refine pt_top (y := nI (((pt_FT fr tO ot od (fun b => pt_vd rl (pt_mM ax (A 13) (A 14) L G (3 * b)) (pt_wM ax (A 13) (A 14) L G (3 * b)) (pt_hM ax (A 13) (A 14) L G (3 * b))) (fun t => ¬ A 3 t = 0) (fun t => ¬ A 3 t = 0 ∧ pt_so rl (pt_mM ax (A 4) (A 5) L G (3 * t)) (pt_wM ax (A 4) (A 5) L G (3 * t)) (pt_hM ax (A 4) (A 5) L G (3 * t))) b) + pt_cnt (fun z => fr b ≤ z ∧ (fun t => ¬ A 3 t = 0) (od z)) k) + 1)) (nI_add _ _) ?_
                    obtain ⟨F11, eF11⟩ : ∃ zz, zz = upd F10 26 (nI (((pt_FT fr tO ot od (fun b => pt_vd rl (pt_mM ax (A 13) (A 14) L G (3 * b)) (pt_wM ax (A 13) (A 14) L G (3 * b)) (pt_hM ax (A 13) (A 14) L G (3 * b))) (fun t => ¬ A 3 t = 0) (fun t => ¬ A 3 t = 0 ∧ pt_so rl (pt_mM ax (A 4) (A 5) L G (3 * t)) (pt_wM ax (A 4) (A 5) L G (3 * t)) (pt_hM ax (A 4) (A 5) L G (3 * t))) b) + pt_cnt (fun z => fr b ≤ z ∧ (fun t => ¬ A 3 t = 0) (od z)) k) + 1)) := ⟨_, rfl⟩
                    refine va_put (D := (dC, dI)) (ci := 2) (v := .int (nI (((pt_FT fr tO ot od (fun b => pt_vd rl (pt_mM ax (A 13) (A 14) L G (3 * b)) (pt_wM ax (A 13) (A 14) L G (3 * b)) (pt_hM ax (A 13) (A 14) L G (3 * b))) (fun t => ¬ A 3 t = 0) (fun t => ¬ A 3 t = 0 ∧ pt_so rl (pt_mM ax (A 4) (A 5) L G (3 * t)) (pt_wM ax (A 4) (A 5) L G (3 * t)) (pt_hM ax (A 4) (A 5) L G (3 * t))) b) + pt_cnt (fun z => fr b ≤ z ∧ (fun t => ¬ A 3 t = 0) (od z)) k) + 1))) (ty := .int) (C := RX2) (T := TX2) (N := 27) hx hb hts iw_c_X2_range_wsX20 tyX2 tyX2_ok nmX2 hown hK hP hD hS 0 rfl rfl 26 (by decide) (hts _ wd_c_X2_range_X2_range_4) (fun _ h9 => h9) rfl (by decide +kernel) rfl rfl (Nat.le_of_ble_eq_true rfl) dX2_range_229 (fun H locs hP hD hS => ?_)
                    have hP : va_P (dC, dI) vwCl (pt_mw a c F11 A10) H := by rw [eF11]; exact hP
                    have hD : va_D AA (pt_mw a c F11 A10) := by rw [eF11]; exact hD
                    have kF11_0 : F11 0 = nI 0 := by rw [eF11, pt_upd_ne (by decide)]; exact kF10_0
                    have kF11_1 : F11 1 = nI ax := by rw [eF11, pt_upd_ne (by decide)]; exact kF10_1
                    have kF11_24 : F11 24 = nI (pt_OP tO ot (fun b => pt_vd rl (pt_mM ax (A 13) (A 14) L G (3 * b)) (pt_wM ax (A 13) (A 14) L G (3 * b)) (pt_hM ax (A 13) (A 14) L G (3 * b))) b) := by rw [eF11, pt_upd_ne (by decide)]; exact kF10_24
                    have kF11_25 : F11 25 = nI ((pt_SE tO ot (fun b => pt_vd rl (pt_mM ax (A 13) (A 14) L G (3 * b)) (pt_wM ax (A 13) (A 14) L G (3 * b)) (pt_hM ax (A 13) (A 14) L G (3 * b))) b) + 1) := by rw [eF11, pt_upd_ne (by decide)]; exact kF10_25
                    have kF11_26 : F11 26 = nI (((pt_FT fr tO ot od (fun b => pt_vd rl (pt_mM ax (A 13) (A 14) L G (3 * b)) (pt_wM ax (A 13) (A 14) L G (3 * b)) (pt_hM ax (A 13) (A 14) L G (3 * b))) (fun t => ¬ A 3 t = 0) (fun t => ¬ A 3 t = 0 ∧ pt_so rl (pt_mM ax (A 4) (A 5) L G (3 * t)) (pt_wM ax (A 4) (A 5) L G (3 * t)) (pt_hM ax (A 4) (A 5) L G (3 * t))) b) + pt_cnt (fun z => fr b ≤ z ∧ (fun t => ¬ A 3 t = 0) (od z)) k) + 1) := by rw [eF11, pt_upd]
                    refine lv_aload_n hx hb dX2_range_232 rfl (lv_at hl 5 rfl) ?_
                    refine va_get (D := (dC, dI)) (ci := 2) (v := .ref (a 3)) (C := RX2) (T := TX2) (N := 27) hx hb hts iw_c_X2_range_wsX20 hown hK hP 0 rfl rfl 3 (by decide) (hts _ wd_c_X2_range_X2_range_7) (fun _ h9 => h9) rfl dX2_range_233 ?_
                    refine lv_iload hx hb dX2_range_236 (lv_at hl 0 rfl) ?_
                    refine pt_zald hx hb hK hP 1 0 rfl rfl (od k) rfl (by omega) (by decide) dX2_range_238 ?_
                    refine pt_top (y := A 3 (od k)) (by rw [haM10 3 (by decide), (hAK 3 (by decide) (by decide) (by decide))]) ?_
                    refine lv_if_eq (tgt := 284) hx hb dX2_range_239 (by decide) (fun c239 => absurd c239 c207) (fun c239 => ?_)
                    refine lv_iload hx hb dX2_range_242 (lv_at hl 3 rfl) ?_
                    refine lv_if_ge (tgt := 284) hx hb dX2_range_244 (by decide) (fun c244 => ?_) (fun c244 => absurd (by decide) c244)
                    refine lv_iinc (v := nI (k + 1)) (lv' := [(11, .int (nI (k + 1))), (12, .int (nI (od k))), (10, .int (nI n)), (9, .int (nI 1)), (8, .int (nI b)), (0, .ref (a 0)), (1, .int (nI rl)), (2, .int x0), (3, .int x1), (4, .int y0), (5, .int y1), (6, .int z0), (7, .int z1)]) hx hb dX2_range_284 hl (k := 1) rfl (nI_1 _) (by decide) rfl (fun ls hl => ?_)
                    refine lv_goto (tgt := 171) hx hb dX2_range_287 (by decide) ?_
                    have hyes : (fun t => ¬ A 3 t = 0) (od k) := c207
                    exact ihk (k + 1, F11, A10) _ _ _ ⟨⟨by show fr b ≤ k + 1; omega, by show k + 1 ≤ tO b; omega⟩, ⟨⟨((hm10.m (by show F11 23 = F10 23; rw [eF11, pt_upd_ne (by decide)]) rfl).yes (t := od k) hyes).c (fun x => pt_run_s (P := (fun t => ¬ A 3 t = 0)) hfk) (by show _ = _ + pt_cnt _ (k + 1); rw [pt_cntr_s (P := fun z => (fun t => ¬ A 3 t = 0) (od z)) hfk, Nat.add_assoc]), by show F11 24 = _; rw [eF11, pt_upd_ne (by decide), hfM10 24 (by decide)]; exact hoK, by show F11 25 = _; rw [eF11, pt_upd_ne (by decide), hfM10 25 (by decide)]; exact hsK, by show F11 26 = nI (_ + pt_cnt _ (k + 1)); rw [pt_cntr_s (P := fun z => (fun t => ¬ A 3 t = 0) (od z)) hfk, pt_cb_t (P := (fun t => ¬ A 3 t = 0) (od k)) hyes, eF11, pt_upd]; rfl⟩, ⟨⟨by show F11 0 = _; rw [eF11, pt_upd_ne (by decide), hfM10 0 (by decide)]; exact hF0k, fun j j0 j23 j24 j25 j26 => by show F11 j = F j; rw [eF11, pt_upd_ne j26, hfM10 j j23]; exact hFK j j0 j23 j24 j25 j26⟩, by show A10 20 = L; rw [haM10 20 (by decide)]; exact hL20k, by show A10 21 = G; rw [haM10 21 (by decide)]; exact hG21k, fun j j20 j21 j22 => by show A10 j = A j; rw [haM10 j j22]; exact hAK j j20 j21 j22⟩⟩, hP, hD, hS, lv_sub hl [0, 2, 3, 4, 5, 6, 7, 8, 9, 10, 11, 12] rfl⟩ (by show tO b - (k + 1) < tO b - k; omega)
              · have hnl : n < nb := Nat.not_le.mp (fun q => c126 ((nI_leI (by omega) (by omega)).mpr q))
                obtain ⟨_, _, u12, _, _, _, udp⟩ := htr n hnl
                refine lv_aload_n hx hb dX2_range_129 rfl (lv_at hl 3 rfl) ?_
                refine va_get (D := (dC, dI)) (ci := 2) (v := .ref (a 12)) (C := RX2) (T := TX2) (N := 27) hx hb hts iw_c_X2_range_wsX20 hown hK hP 0 rfl rfl 12 (by decide) (hts _ wd_c_X2_range_X2_range_14) (fun _ h9 => h9) rfl dX2_range_130 ?_
                refine lv_iload hx hb dX2_range_133 (lv_at hl 0 rfl) ?_
                refine pt_iald hx hb hK hP 9 8 rfl rfl n rfl (by omega) (by decide) dX2_range_135 ?_
                refine pt_top (y := nI (dp n)) (by rw [(hAB 12 (by decide) (by decide) (by decide))]; exact u12) ?_
                refine lv_aload_n hx hb dX2_range_136 rfl (lv_at hl 3 rfl) ?_
                refine va_get (D := (dC, dI)) (ci := 2) (v := .ref (a 12)) (C := RX2) (T := TX2) (N := 27) hx hb hts iw_c_X2_range_wsX20 hown hK hP 0 rfl rfl 12 (by decide) (hts _ wd_c_X2_range_X2_range_14) (fun _ h9 => h9) rfl dX2_range_137 ?_
                refine lv_iload hx hb dX2_range_140 (lv_at hl 2 rfl) ?_
                refine pt_iald hx hb hK hP 9 8 rfl rfl b rfl (by omega) (by decide) dX2_range_142 ?_
                refine pt_top (y := nI (dp b)) (by rw [(hAB 12 (by decide) (by decide) (by decide))]; exact t12) ?_
                refine lv_icmp_le (tgt := 162) hx hb dX2_range_143 (by decide) (fun c143 => ?_) (fun c143 => ?_)
                · have hnx : n = nb ∨ (n < nb ∧ dp n ≤ dp b) := Or.inr ⟨hnl, (nI_leI (by omega) (by omega)).mp c143⟩
                  refine lv_aload_n hx hb dX2_range_162 rfl (lv_at hl 3 rfl) ?_
                  refine va_get (D := (dC, dI)) (ci := 2) (v := .ref (a 9)) (C := RX2) (T := TX2) (N := 27) hx hb hts iw_c_X2_range_wsX20 hown hK hP 0 rfl rfl 9 (by decide) (hts _ wd_c_X2_range_X2_range_11) (fun _ h9 => h9) rfl dX2_range_163 ?_
                  refine lv_iload hx hb dX2_range_166 (lv_at hl 2 rfl) ?_
                  refine pt_iald hx hb hK hP 6 5 rfl rfl b rfl (by omega) (by decide) dX2_range_168 ?_
                  refine pt_top (y := nI (fr b)) (by rw [(hAB 9 (by decide) (by decide) (by decide))]; exact t9) ?_
                  refine lv_istore (lv' := [(11, .int (nI (fr b))), (10, .int (nI n)), (9, .int (nI 1)), (8, .int (nI b)), (0, .ref (a 0)), (1, .int (nI rl)), (2, .int x0), (3, .int x1), (4, .int y0), (5, .int y1), (6, .int z0), (7, .int z1)]) hx hb dX2_range_169 hl (by decide) rfl (fun ls hl => ?_)
                  refine pt_loopW (fun q : Nat × pt_MS => tO b - q.1) (fun q ls H locs => (fr b ≤ q.1 ∧ q.1 ≤ tO b) ∧ ((pt_aM (pt_run (pt_FD fr tO ot od (fun b => pt_vd rl (pt_mM ax (A 13) (A 14) L G (3 * b)) (pt_wM ax (A 13) (A 14) L G (3 * b)) (pt_hM ax (A 13) (A 14) L G (3 * b))) (fun t => ¬ A 3 t = 0) (fun t => ¬ A 3 t = 0 ∧ pt_so rl (pt_mM ax (A 4) (A 5) L G (3 * t)) (pt_wM ax (A 4) (A 5) L G (3 * t)) (pt_hM ax (A 4) (A 5) L G (3 * t))) b) od (fun t => ¬ A 3 t = 0) (fr b) q.1) (pt_FC fr tO ot od (fun b => pt_vd rl (pt_mM ax (A 13) (A 14) L G (3 * b)) (pt_wM ax (A 13) (A 14) L G (3 * b)) (pt_hM ax (A 13) (A 14) L G (3 * b))) (fun t => ¬ A 3 t = 0) (fun t => ¬ A 3 t = 0 ∧ pt_so rl (pt_mM ax (A 4) (A 5) L G (3 * t)) (pt_wM ax (A 4) (A 5) L G (3 * t)) (pt_hM ax (A 4) (A 5) L G (3 * t))) b + pt_cnt (fun z => fr b ≤ z ∧ (fun t => ¬ A 3 t = 0) (od z)) q.1) q.2.1 q.2.2 ∧ q.2.1 24 = nI (pt_OP tO ot (fun b => pt_vd rl (pt_mM ax (A 13) (A 14) L G (3 * b)) (pt_wM ax (A 13) (A 14) L G (3 * b)) (pt_hM ax (A 13) (A 14) L G (3 * b))) b) ∧ q.2.1 25 = nI ((pt_SE tO ot (fun b => pt_vd rl (pt_mM ax (A 13) (A 14) L G (3 * b)) (pt_wM ax (A 13) (A 14) L G (3 * b)) (pt_hM ax (A 13) (A 14) L G (3 * b))) b) + 1) ∧ q.2.1 26 = nI ((pt_FT fr tO ot od (fun b => pt_vd rl (pt_mM ax (A 13) (A 14) L G (3 * b)) (pt_wM ax (A 13) (A 14) L G (3 * b)) (pt_hM ax (A 13) (A 14) L G (3 * b))) (fun t => ¬ A 3 t = 0) (fun t => ¬ A 3 t = 0 ∧ pt_so rl (pt_mM ax (A 4) (A 5) L G (3 * t)) (pt_wM ax (A 4) (A 5) L G (3 * t)) (pt_hM ax (A 4) (A 5) L G (3 * t))) b) + pt_cnt (fun z => fr b ≤ z ∧ (fun t => ¬ A 3 t = 0) (od z)) q.1)) ∧ ((q.2.1 0 = nI 0 ∧ (∀ j, j ≠ 0 → j ≠ 23 → j ≠ 24 → j ≠ 25 → j ≠ 26 → q.2.1 j = F j)) ∧ (q.2.2 20 = L ∧ q.2.2 21 = G ∧ ∀ j, j ≠ 20 → j ≠ 21 → j ≠ 22 → q.2.2 j = A j))) ∧ va_P (dC, dI) vwCl (pt_mw a c q.2.1 q.2.2) H ∧ va_D AA (pt_mw a c q.2.1 q.2.2) ∧ va_S AA s.heap H locs ∧ lv_has ls 13 [(11, .int (nI q.1)), (10, .int (nI n)), (9, .int (nI 1)), (8, .int (nI b)), (0, .ref (a 0)), (1, .int (nI rl)), (2, .int x0), (3, .int x1), (4, .int y0), (5, .int y1), (6, .int z0), (7, .int z1)]) ?_ (fr b, F9, Ab) _ _ _ ⟨⟨Nat.le_refl _, by omega⟩, ⟨⟨(haB.m (by show F9 23 = Fb 23; rw [eF9, pt_upd_ne (by decide)]) rfl).c (fun x => pt_run_0) (by show _ = _ + pt_cnt _ (fr b); rw [pt_cntr_0]; rfl), kF9_24, kF9_25, by show _ = nI (_ + pt_cnt _ (fr b)); rw [pt_cntr_0]; exact kF9_26⟩, ⟨⟨kF9_0, fun j j0 j23 j24 j25 j26 => by show F9 j = F j; rw [eF9, pt_upd_ne j25]; exact hFB j j0 j23 j24 j25 j26⟩, hL20, hG21, hAB⟩⟩, hP, hD, hS, hl⟩
                  intro ⟨k, Fk, Ak⟩ ls H locs ⟨⟨hfk, hkt⟩, ⟨⟨haK, hoK, hsK, htK⟩, ⟨⟨hF0k, hFK⟩, hL20k, hG21k, hAK⟩⟩, hP, hD, hS, hl⟩ ihk
                  dsimp only at hfk hkt haK hoK hsK htK hF0k hFK hL20k hG21k hAK hP hD hl ihk
                  have kk1 : Fk 1 = nI ax := (hFK 1 (by decide) (by decide) (by decide) (by decide) (by decide)).trans h1
                  refine lv_iload hx hb dX2_range_171 (lv_at hl 0 rfl) ?_
                  refine lv_aload_n hx hb dX2_range_173 rfl (lv_at hl 4 rfl) ?_
                  refine va_get (D := (dC, dI)) (ci := 2) (v := .ref (a 9)) (C := RX2) (T := TX2) (N := 27) hx hb hts iw_c_X2_range_wsX20 hown hK hP 0 rfl rfl 9 (by decide) (hts _ wd_c_X2_range_X2_range_11) (fun _ h9 => h9) rfl dX2_range_174 ?_
                  refine lv_iload hx hb dX2_range_177 (lv_at hl 3 rfl) ?_
                  refine pt_iald hx hb hK hP 6 5 rfl rfl b rfl (by omega) (by decide) dX2_range_179 ?_
                  refine pt_top (y := nI (fr b)) (by rw [(hAK 9 (by decide) (by decide) (by decide))]; exact t9) ?_
                  refine lv_aload_n hx hb dX2_range_180 rfl (lv_at hl 4 rfl) ?_
                  refine va_get (D := (dC, dI)) (ci := 2) (v := .ref (a 10)) (C := RX2) (T := TX2) (N := 27) hx hb hts iw_c_X2_range_wsX20 hown hK hP 0 rfl rfl 10 (by decide) (hts _ wd_c_X2_range_X2_range_12) (fun _ h9 => h9) rfl dX2_range_181 ?_
                  refine lv_iload hx hb dX2_range_184 (lv_at hl 3 rfl) ?_
                  refine pt_iald hx hb hK hP 7 6 rfl rfl b rfl (by omega) (by decide) dX2_range_186 ?_
                  refine pt_top (y := nI (mn b)) (by rw [(hAK 10 (by decide) (by decide) (by decide))]; exact t10) ?_
                  refine lv_iadd hx hb dX2_range_187 ?_
                  refine pt_top (y := nI ((fr b) + (mn b))) (nI_add _ _) ?_
                  refine lv_icmp_ge (tgt := 290) hx hb dX2_range_188 (by decide) (fun c188 => ?_) (fun c188 => ?_)
                  · have hke : k = tO b := by have := (nI_leI (by omega) (by omega)).mp c188; omega
                    refine lv_iload hx hb dX2_range_290 (lv_at hl 1 rfl) ?_
                    refine lv_istore (lv' := [(8, .int (nI n)), (11, .int (nI k)), (10, .int (nI n)), (9, .int (nI 1)), (0, .ref (a 0)), (1, .int (nI rl)), (2, .int x0), (3, .int x1), (4, .int y0), (5, .int y1), (6, .int z0), (7, .int z1)]) hx hb dX2_range_292 hl (by decide) rfl (fun ls hl => ?_)
                    refine lv_goto (tgt := 81) hx hb dX2_range_294 (by decide) ?_
                    have hst := pt_st_all (fr := fr) (od := od) (th := (fun t => ¬ A 3 t = 0)) (P := (fun t => ¬ A 3 t = 0 ∧ pt_so rl (pt_mM ax (A 4) (A 5) L G (3 * t)) (pt_wM ax (A 4) (A 5) L G (3 * t)) (pt_hM ax (A 4) (A 5) L G (3 * t)))) hvis hv0
                    rw [hke] at haK htK
                    have hdr := pt_dn_run (n := b) (tO := tO) (ot := ot) (vd := (fun b => pt_vd rl (pt_mM ax (A 13) (A 14) L G (3 * b)) (pt_wM ax (A 13) (A 14) L G (3 * b)) (pt_hM ax (A 13) (A 14) L G (3 * b)))) (pt_dn_to hvis (fun q => absurd (hv0.symm.trans q) (by decide))) (n - (b + 1)) (fun c h1 h2 => hTF.2.1 b c h1 (by omega) (fun e h3 h4 => hdeep e h3 (by omega)))
                    rw [show b + 1 + (n - (b + 1)) = n by omega] at hdr
                    have hsk := pt_st_skip (fr := fr) (od := od) (th := (fun t => ¬ A 3 t = 0)) (P := (fun t => ¬ A 3 t = 0 ∧ pt_so rl (pt_mM ax (A 4) (A 5) L G (3 * t)) (pt_wM ax (A 4) (A 5) L G (3 * t)) (pt_hM ax (A 4) (A 5) L G (3 * t)))) (n := b + 1) (n - (b + 1)) (fun c h1 h2 => hdr.2 c h1 (by omega))
                    rw [show b + 1 + (n - (b + 1)) = n by omega] at hsk
                    have hdn2 : n < nb → pt_dn tO ot (fun b => pt_vd rl (pt_mM ax (A 13) (A 14) L G (3 * b)) (pt_wM ax (A 13) (A 14) L G (3 * b)) (pt_hM ax (A 13) (A 14) L G (3 * b))) n ≤ fr n := pt_dn_next hTF hdr.1 hbn2 hnx hdeep
                    exact ihb (n, Fk, Ak) _ _ _ ⟨hnn, ⟨⟨(haK.c hst.1 hst.2.1).c hsk.1 hsk.2.1, by show Fk 24 = _; rw [hoK, hst.2.2.1, hsk.2.2.1], by show Fk 25 = _; rw [hsK, hst.2.2.2.1, hsk.2.2.2.1], by show Fk 26 = _; rw [htK, hst.2.2.2.2, hsk.2.2.2.2]⟩, ⟨⟨hF0k, hFK⟩, hL20k, hG21k, hAK⟩, hdn2⟩, hP, hD, hS, lv_sub hl [0, 4, 5, 6, 7, 8, 9, 10, 11] rfl⟩ (by show nb - n < nb - b; omega)
                  · have hkl : k < tO b := Nat.not_le.mp (fun q => c188 ((nI_leI (by omega) (by omega)).mpr (by omega)))
                    have hodk := hod k (by omega)
                    have ho64 := hodk.2
                    refine lv_aload_n hx hb dX2_range_191 rfl (lv_at hl 4 rfl) ?_
                    refine va_get (D := (dC, dI)) (ci := 2) (v := .ref (a 7)) (C := RX2) (T := TX2) (N := 27) hx hb hts iw_c_X2_range_wsX20 hown hK hP 0 rfl rfl 7 (by decide) (hts _ wd_c_X2_range_X2_range_13) (fun _ h9 => h9) rfl dX2_range_192 ?_
                    refine lv_iload hx hb dX2_range_195 (lv_at hl 0 rfl) ?_
                    refine pt_iald hx hb hK hP 5 4 rfl rfl k rfl (by omega) (by decide) dX2_range_197 ?_
                    refine pt_top (y := nI (od k)) (by rw [(hAK 7 (by decide) (by decide) (by decide))]; exact hodk.1) ?_
                    refine lv_istore (lv' := [(12, .int (nI (od k))), (11, .int (nI k)), (10, .int (nI n)), (9, .int (nI 1)), (8, .int (nI b)), (0, .ref (a 0)), (1, .int (nI rl)), (2, .int x0), (3, .int x1), (4, .int y0), (5, .int y1), (6, .int z0), (7, .int z1)]) hx hb dX2_range_198 hl (by decide) rfl (fun ls hl => ?_)
                    refine lv_aload_n hx hb dX2_range_200 rfl (lv_at hl 5 rfl) ?_
                    refine va_get (D := (dC, dI)) (ci := 2) (v := .ref (a 3)) (C := RX2) (T := TX2) (N := 27) hx hb hts iw_c_X2_range_wsX20 hown hK hP 0 rfl rfl 3 (by decide) (hts _ wd_c_X2_range_X2_range_7) (fun _ h9 => h9) rfl dX2_range_201 ?_
                    refine lv_iload hx hb dX2_range_204 (lv_at hl 0 rfl) ?_
                    refine pt_zald hx hb hK hP 1 0 rfl rfl (od k) rfl (by omega) (by decide) dX2_range_206 ?_
                    refine pt_top (y := A 3 (od k)) (by rw [(hAK 3 (by decide) (by decide) (by decide))]) ?_
                    refine lv_if_eq (tgt := 232) hx hb dX2_range_207 (by decide) (fun c207 => ?_) (fun c207 => ?_)
                    · refine lv_aload_n hx hb dX2_range_232 rfl (lv_at hl 5 rfl) ?_
                      refine va_get (D := (dC, dI)) (ci := 2) (v := .ref (a 3)) (C := RX2) (T := TX2) (N := 27) hx hb hts iw_c_X2_range_wsX20 hown hK hP 0 rfl rfl 3 (by decide) (hts _ wd_c_X2_range_X2_range_7) (fun _ h9 => h9) rfl dX2_range_233 ?_
                      refine lv_iload hx hb dX2_range_236 (lv_at hl 0 rfl) ?_
                      refine pt_zald hx hb hK hP 1 0 rfl rfl (od k) rfl (by omega) (by decide) dX2_range_238 ?_
                      refine pt_top (y := A 3 (od k)) (by rw [(hAK 3 (by decide) (by decide) (by decide))]) ?_
                      refine lv_if_eq (tgt := 284) hx hb dX2_range_239 (by decide) (fun c239 => ?_) (fun c239 => absurd c207 c239)
                      refine lv_iinc (v := nI (k + 1)) (lv' := [(11, .int (nI (k + 1))), (12, .int (nI (od k))), (10, .int (nI n)), (9, .int (nI 1)), (8, .int (nI b)), (0, .ref (a 0)), (1, .int (nI rl)), (2, .int x0), (3, .int x1), (4, .int y0), (5, .int y1), (6, .int z0), (7, .int z1)]) hx hb dX2_range_284 hl (k := 1) rfl (nI_1 _) (by decide) rfl (fun ls hl => ?_)
                      refine lv_goto (tgt := 171) hx hb dX2_range_287 (by decide) ?_
                      have hno : ¬ (fun t => ¬ A 3 t = 0) (od k) := (fun q => q c207)
                      exact ihk (k + 1, Fk, Ak) _ _ _ ⟨⟨by show fr b ≤ k + 1; omega, by show k + 1 ≤ tO b; omega⟩, ⟨⟨(haK.no (t := od k) hno).c (fun x => pt_run_s (P := (fun t => ¬ A 3 t = 0)) hfk) (by show _ = _ + pt_cnt _ (k + 1); rw [pt_cntr_s (P := fun z => (fun t => ¬ A 3 t = 0) (od z)) hfk, Nat.add_assoc]), hoK, hsK, by show Fk 26 = nI (_ + pt_cnt _ (k + 1)); rw [pt_cntr_s (P := fun z => (fun t => ¬ A 3 t = 0) (od z)) hfk, pt_cb_f (P := (fun t => ¬ A 3 t = 0) (od k)) (fun q => q c207)]; exact htK⟩, ⟨⟨hF0k, hFK⟩, hL20k, hG21k, hAK⟩⟩, hP, hD, hS, lv_sub hl [0, 2, 3, 4, 5, 6, 7, 8, 9, 10, 11, 12] rfl⟩ (by show tO b - (k + 1) < tO b - k; omega)
                    · refine lv_iload hx hb dX2_range_210 (lv_at hl 3 rfl) ?_
                      refine lv_iconst (v := nI 1) hx hb dX2_range_212 (by decide) ?_
                      refine lv_icmp_ne (tgt := 232) hx hb dX2_range_213 (by decide) (fun c213 => absurd c213 (fun z => z rfl)) (fun c213 => ?_)
                      refine lv_aload_n hx hb dX2_range_216 rfl (lv_at hl 5 rfl) ?_
                      refine lv_iload hx hb dX2_range_217 (lv_at hl 0 rfl) ?_
                      refine pt_callv (wf := (fun u : pt_MS => pt_mw a c u.1 u.2)) (va_runV (As := [.int (nI (od k))]) (rest := []) ⟨hx, hb, hml, hown, hts⟩ (c_X2_find l dC dI a c Fk Ak _ (od k) (by omega) _ _ haK) (cwV 1 hts gX2_range_X2_find rfl rfl rfl (by decide +kernel) ⟨Nat.le_of_ble_eq_true rfl, Nat.le_of_ble_eq_true rfl⟩) (pt_wv2 hP hK hN hD (q0 := 0) rfl) rfl rfl hl.1 rfl (lv_room (Nat.le_of_ble_eq_true rfl)) dX2_range_219 ⟨Nat.le_of_ble_eq_true rfl, Nat.le_of_ble_eq_true rfl⟩) hD hS hA (fun _ => rfl) (fun u219 H locs hr219 hP hD hS => ?_)
                      obtain ⟨F12, A12⟩ := u219
                      obtain ⟨hm12, hfM12, haM12⟩ := hr219
                      dsimp only at hm12 hfM12 haM12 hP hD
                      have kF12_0 : F12 0 = nI 0 := (hfM12 0 (by decide)).trans hF0k
                      have kF12_1 : F12 1 = nI ax := (hfM12 1 (by decide)).trans kk1
                      have kF12_24 : F12 24 = nI (pt_OP tO ot (fun b => pt_vd rl (pt_mM ax (A 13) (A 14) L G (3 * b)) (pt_wM ax (A 13) (A 14) L G (3 * b)) (pt_hM ax (A 13) (A 14) L G (3 * b))) b) := (hfM12 24 (by decide)).trans hoK
                      have kF12_25 : F12 25 = nI ((pt_SE tO ot (fun b => pt_vd rl (pt_mM ax (A 13) (A 14) L G (3 * b)) (pt_wM ax (A 13) (A 14) L G (3 * b)) (pt_hM ax (A 13) (A 14) L G (3 * b))) b) + 1) := (hfM12 25 (by decide)).trans hsK
                      have kF12_26 : F12 26 = nI ((pt_FT fr tO ot od (fun b => pt_vd rl (pt_mM ax (A 13) (A 14) L G (3 * b)) (pt_wM ax (A 13) (A 14) L G (3 * b)) (pt_hM ax (A 13) (A 14) L G (3 * b))) (fun t => ¬ A 3 t = 0) (fun t => ¬ A 3 t = 0 ∧ pt_so rl (pt_mM ax (A 4) (A 5) L G (3 * t)) (pt_wM ax (A 4) (A 5) L G (3 * t)) (pt_hM ax (A 4) (A 5) L G (3 * t))) b) + pt_cnt (fun z => fr b ≤ z ∧ (fun t => ¬ A 3 t = 0) (od z)) k) := (hfM12 26 (by decide)).trans htK
                      refine lv_aload_n hx hb dX2_range_222 rfl (lv_at hl 5 rfl) ?_
                      refine lv_dup hx hb dX2_range_223 rfl ?_
                      refine va_get (D := (dC, dI)) (ci := 2) (v := .int (F12 26)) (C := RX2) (T := TX2) (N := 27) hx hb hts iw_c_X2_range_wsX20 hown hK hP 0 rfl rfl 26 (by decide) (hts _ wd_c_X2_range_X2_range_4) (fun _ h9 => h9) rfl dX2_range_224 ?_
                      refine pt_top (y := nI ((pt_FT fr tO ot od (fun b => pt_vd rl (pt_mM ax (A 13) (A 14) L G (3 * b)) (pt_wM ax (A 13) (A 14) L G (3 * b)) (pt_hM ax (A 13) (A 14) L G (3 * b))) (fun t => ¬ A 3 t = 0) (fun t => ¬ A 3 t = 0 ∧ pt_so rl (pt_mM ax (A 4) (A 5) L G (3 * t)) (pt_wM ax (A 4) (A 5) L G (3 * t)) (pt_hM ax (A 4) (A 5) L G (3 * t))) b) + pt_cnt (fun z => fr b ≤ z ∧ (fun t => ¬ A 3 t = 0) (od z)) k)) kF12_26 ?_
                      refine lv_iconst (v := nI 1) hx hb dX2_range_227 (by decide) ?_
                      refine lv_iadd hx hb dX2_range_228 ?_
                      refine pt_top (y := nI (((pt_FT fr tO ot od (fun b => pt_vd rl (pt_mM ax (A 13) (A 14) L G (3 * b)) (pt_wM ax (A 13) (A 14) L G (3 * b)) (pt_hM ax (A 13) (A 14) L G (3 * b))) (fun t => ¬ A 3 t = 0) (fun t => ¬ A 3 t = 0 ∧ pt_so rl (pt_mM ax (A 4) (A 5) L G (3 * t)) (pt_wM ax (A 4) (A 5) L G (3 * t)) (pt_hM ax (A 4) (A 5) L G (3 * t))) b) + pt_cnt (fun z => fr b ≤ z ∧ (fun t => ¬ A 3 t = 0) (od z)) k) + 1)) (nI_add _ _) ?_
                      obtain ⟨F13, eF13⟩ : ∃ zz, zz = upd F12 26 (nI (((pt_FT fr tO ot od (fun b => pt_vd rl (pt_mM ax (A 13) (A 14) L G (3 * b)) (pt_wM ax (A 13) (A 14) L G (3 * b)) (pt_hM ax (A 13) (A 14) L G (3 * b))) (fun t => ¬ A 3 t = 0) (fun t => ¬ A 3 t = 0 ∧ pt_so rl (pt_mM ax (A 4) (A 5) L G (3 * t)) (pt_wM ax (A 4) (A 5) L G (3 * t)) (pt_hM ax (A 4) (A 5) L G (3 * t))) b) + pt_cnt (fun z => fr b ≤ z ∧ (fun t => ¬ A 3 t = 0) (od z)) k) + 1)) := ⟨_, rfl⟩
                      refine va_put (D := (dC, dI)) (ci := 2) (v := .int (nI (((pt_FT fr tO ot od (fun b => pt_vd rl (pt_mM ax (A 13) (A 14) L G (3 * b)) (pt_wM ax (A 13) (A 14) L G (3 * b)) (pt_hM ax (A 13) (A 14) L G (3 * b))) (fun t => ¬ A 3 t = 0) (fun t => ¬ A 3 t = 0 ∧ pt_so rl (pt_mM ax (A 4) (A 5) L G (3 * t)) (pt_wM ax (A 4) (A 5) L G (3 * t)) (pt_hM ax (A 4) (A 5) L G (3 * t))) b) + pt_cnt (fun z => fr b ≤ z ∧ (fun t => ¬ A 3 t = 0) (od z)) k) + 1))) (ty := .int) (C := RX2) (T := TX2) (N := 27) hx hb hts iw_c_X2_range_wsX20 tyX2 tyX2_ok nmX2 hown hK hP hD hS 0 rfl rfl 26 (by decide) (hts _ wd_c_X2_range_X2_range_4) (fun _ h9 => h9) rfl (by decide +kernel) rfl rfl (Nat.le_of_ble_eq_true rfl) dX2_range_229 (fun H locs hP hD hS => ?_)
                      have hP : va_P (dC, dI) vwCl (pt_mw a c F13 A12) H := by rw [eF13]; exact hP
                      have hD : va_D AA (pt_mw a c F13 A12) := by rw [eF13]; exact hD
                      have kF13_0 : F13 0 = nI 0 := by rw [eF13, pt_upd_ne (by decide)]; exact kF12_0
                      have kF13_1 : F13 1 = nI ax := by rw [eF13, pt_upd_ne (by decide)]; exact kF12_1
                      have kF13_24 : F13 24 = nI (pt_OP tO ot (fun b => pt_vd rl (pt_mM ax (A 13) (A 14) L G (3 * b)) (pt_wM ax (A 13) (A 14) L G (3 * b)) (pt_hM ax (A 13) (A 14) L G (3 * b))) b) := by rw [eF13, pt_upd_ne (by decide)]; exact kF12_24
                      have kF13_25 : F13 25 = nI ((pt_SE tO ot (fun b => pt_vd rl (pt_mM ax (A 13) (A 14) L G (3 * b)) (pt_wM ax (A 13) (A 14) L G (3 * b)) (pt_hM ax (A 13) (A 14) L G (3 * b))) b) + 1) := by rw [eF13, pt_upd_ne (by decide)]; exact kF12_25
                      have kF13_26 : F13 26 = nI (((pt_FT fr tO ot od (fun b => pt_vd rl (pt_mM ax (A 13) (A 14) L G (3 * b)) (pt_wM ax (A 13) (A 14) L G (3 * b)) (pt_hM ax (A 13) (A 14) L G (3 * b))) (fun t => ¬ A 3 t = 0) (fun t => ¬ A 3 t = 0 ∧ pt_so rl (pt_mM ax (A 4) (A 5) L G (3 * t)) (pt_wM ax (A 4) (A 5) L G (3 * t)) (pt_hM ax (A 4) (A 5) L G (3 * t))) b) + pt_cnt (fun z => fr b ≤ z ∧ (fun t => ¬ A 3 t = 0) (od z)) k) + 1) := by rw [eF13, pt_upd]
                      refine lv_aload_n hx hb dX2_range_232 rfl (lv_at hl 5 rfl) ?_
                      refine va_get (D := (dC, dI)) (ci := 2) (v := .ref (a 3)) (C := RX2) (T := TX2) (N := 27) hx hb hts iw_c_X2_range_wsX20 hown hK hP 0 rfl rfl 3 (by decide) (hts _ wd_c_X2_range_X2_range_7) (fun _ h9 => h9) rfl dX2_range_233 ?_
                      refine lv_iload hx hb dX2_range_236 (lv_at hl 0 rfl) ?_
                      refine pt_zald hx hb hK hP 1 0 rfl rfl (od k) rfl (by omega) (by decide) dX2_range_238 ?_
                      refine pt_top (y := A 3 (od k)) (by rw [haM12 3 (by decide), (hAK 3 (by decide) (by decide) (by decide))]) ?_
                      refine lv_if_eq (tgt := 284) hx hb dX2_range_239 (by decide) (fun c239 => absurd c239 c207) (fun c239 => ?_)
                      refine lv_iload hx hb dX2_range_242 (lv_at hl 3 rfl) ?_
                      refine lv_if_ge (tgt := 284) hx hb dX2_range_244 (by decide) (fun c244 => ?_) (fun c244 => absurd (by decide) c244)
                      refine lv_iinc (v := nI (k + 1)) (lv' := [(11, .int (nI (k + 1))), (12, .int (nI (od k))), (10, .int (nI n)), (9, .int (nI 1)), (8, .int (nI b)), (0, .ref (a 0)), (1, .int (nI rl)), (2, .int x0), (3, .int x1), (4, .int y0), (5, .int y1), (6, .int z0), (7, .int z1)]) hx hb dX2_range_284 hl (k := 1) rfl (nI_1 _) (by decide) rfl (fun ls hl => ?_)
                      refine lv_goto (tgt := 171) hx hb dX2_range_287 (by decide) ?_
                      have hyes : (fun t => ¬ A 3 t = 0) (od k) := c207
                      exact ihk (k + 1, F13, A12) _ _ _ ⟨⟨by show fr b ≤ k + 1; omega, by show k + 1 ≤ tO b; omega⟩, ⟨⟨((hm12.m (by show F13 23 = F12 23; rw [eF13, pt_upd_ne (by decide)]) rfl).yes (t := od k) hyes).c (fun x => pt_run_s (P := (fun t => ¬ A 3 t = 0)) hfk) (by show _ = _ + pt_cnt _ (k + 1); rw [pt_cntr_s (P := fun z => (fun t => ¬ A 3 t = 0) (od z)) hfk, Nat.add_assoc]), by show F13 24 = _; rw [eF13, pt_upd_ne (by decide), hfM12 24 (by decide)]; exact hoK, by show F13 25 = _; rw [eF13, pt_upd_ne (by decide), hfM12 25 (by decide)]; exact hsK, by show F13 26 = nI (_ + pt_cnt _ (k + 1)); rw [pt_cntr_s (P := fun z => (fun t => ¬ A 3 t = 0) (od z)) hfk, pt_cb_t (P := (fun t => ¬ A 3 t = 0) (od k)) hyes, eF13, pt_upd]; rfl⟩, ⟨⟨by show F13 0 = _; rw [eF13, pt_upd_ne (by decide), hfM12 0 (by decide)]; exact hF0k, fun j j0 j23 j24 j25 j26 => by show F13 j = F j; rw [eF13, pt_upd_ne j26, hfM12 j j23]; exact hFK j j0 j23 j24 j25 j26⟩, by show A12 20 = L; rw [haM12 20 (by decide)]; exact hL20k, by show A12 21 = G; rw [haM12 21 (by decide)]; exact hG21k, fun j j20 j21 j22 => by show A12 j = A j; rw [haM12 j j22]; exact hAK j j20 j21 j22⟩⟩, hP, hD, hS, lv_sub hl [0, 2, 3, 4, 5, 6, 7, 8, 9, 10, 11, 12] rfl⟩ (by show tO b - (k + 1) < tO b - k; omega)
                · have d143 : dp b < dp n := Nat.not_le.mp (fun q => c143 ((nI_leI (by omega) (by omega)).mpr q))
                  refine lv_iinc (v := nI (n + 1)) (lv' := [(10, .int (nI (n + 1))), (9, .int (nI 1)), (8, .int (nI b)), (0, .ref (a 0)), (1, .int (nI rl)), (2, .int x0), (3, .int x1), (4, .int y0), (5, .int y1), (6, .int z0), (7, .int z1)]) hx hb dX2_range_146 hl (k := 0) rfl (nI_1 _) (by decide) rfl (fun ls hl => ?_)
                  refine lv_goto (tgt := 120) hx hb dX2_range_149 (by decide) ?_
                  exact ihn (n + 1) _ ⟨⟨by omega, by omega, fun e h1 h2 => (Nat.lt_succ_iff_lt_or_eq.mp h2).elim (hdeep e h1) (fun z => by subst z; exact d143)⟩, lv_sub hl [0, 1, 2, 3, 4, 5, 6, 7, 8, 9, 10] rfl⟩ (by omega)
            · refine pt_top (y := (-1)) (by rw [hv0]; rfl) ?_
              refine lv_istore (lv' := [(9, .int (-1)), (8, .int (nI b)), (0, .ref (a 0)), (1, .int (nI rl)), (2, .int x0), (3, .int x1), (4, .int y0), (5, .int y1), (6, .int z0), (7, .int z1)]) hx hb dX2_range_97 hl (by decide) rfl (fun ls hl => ?_)
              refine lv_iload hx hb dX2_range_99 (lv_at hl 1 rfl) ?_
              refine lv_iconst (v := nI 1) hx hb dX2_range_101 (by decide) ?_
              refine lv_iadd hx hb dX2_range_102 ?_
              refine pt_top (y := nI (b + 1)) (nI_add _ _) ?_
              refine lv_istore (lv' := [(10, .int (nI (b + 1))), (9, .int (-1)), (8, .int (nI b)), (0, .ref (a 0)), (1, .int (nI rl)), (2, .int x0), (3, .int x1), (4, .int y0), (5, .int y1), (6, .int z0), (7, .int z1)]) hx hb dX2_range_103 hl (by decide) rfl (fun ls hl => ?_)
              refine lv_iload hx hb dX2_range_105 (lv_at hl 1 rfl) ?_
              refine lv_if_lt (tgt := 152) hx hb dX2_range_107 (by decide) (fun c107 => ?_) (fun c107 => absurd (by decide) c107)
              refine lv_aload_n hx hb dX2_range_152 rfl (lv_at hl 3 rfl) ?_
              refine lv_dup hx hb dX2_range_153 rfl ?_
              refine va_get (D := (dC, dI)) (ci := 2) (v := .int (Fb 24)) (C := RX2) (T := TX2) (N := 27) hx hb hts iw_c_X2_range_wsX20 hown hK hP 0 rfl rfl 24 (by decide) (hts _ wd_c_X2_range_X2_range_2) (fun _ h9 => h9) rfl dX2_range_154 ?_
              refine pt_top (y := nI (pt_OP tO ot (fun b => pt_vd rl (pt_mM ax (A 13) (A 14) L G (3 * b)) (pt_wM ax (A 13) (A 14) L G (3 * b)) (pt_hM ax (A 13) (A 14) L G (3 * b))) b)) hoB ?_
              refine lv_iconst (v := nI 1) hx hb dX2_range_157 (by decide) ?_
              refine lv_iadd hx hb dX2_range_158 ?_
              refine pt_top (y := nI ((pt_OP tO ot (fun b => pt_vd rl (pt_mM ax (A 13) (A 14) L G (3 * b)) (pt_wM ax (A 13) (A 14) L G (3 * b)) (pt_hM ax (A 13) (A 14) L G (3 * b))) b) + 1)) (nI_add _ _) ?_
              obtain ⟨F14, eF14⟩ : ∃ zz, zz = upd Fb 24 (nI ((pt_OP tO ot (fun b => pt_vd rl (pt_mM ax (A 13) (A 14) L G (3 * b)) (pt_wM ax (A 13) (A 14) L G (3 * b)) (pt_hM ax (A 13) (A 14) L G (3 * b))) b) + 1)) := ⟨_, rfl⟩
              refine va_put (D := (dC, dI)) (ci := 2) (v := .int (nI ((pt_OP tO ot (fun b => pt_vd rl (pt_mM ax (A 13) (A 14) L G (3 * b)) (pt_wM ax (A 13) (A 14) L G (3 * b)) (pt_hM ax (A 13) (A 14) L G (3 * b))) b) + 1))) (ty := .int) (C := RX2) (T := TX2) (N := 27) hx hb hts iw_c_X2_range_wsX20 tyX2 tyX2_ok nmX2 hown hK hP hD hS 0 rfl rfl 24 (by decide) (hts _ wd_c_X2_range_X2_range_2) (fun _ h9 => h9) rfl (by decide +kernel) rfl rfl (Nat.le_of_ble_eq_true rfl) dX2_range_159 (fun H locs hP hD hS => ?_)
              have hP : va_P (dC, dI) vwCl (pt_mw a c F14 Ab) H := by rw [eF14]; exact hP
              have hD : va_D AA (pt_mw a c F14 Ab) := by rw [eF14]; exact hD
              have kF14_0 : F14 0 = nI 0 := by rw [eF14, pt_upd_ne (by decide)]; exact hF0
              have kF14_1 : F14 1 = nI ax := by rw [eF14, pt_upd_ne (by decide)]; exact kb1
              have kF14_2 : F14 2 = nI md := by rw [eF14, pt_upd_ne (by decide)]; exact kb2
              have kF14_8 : F14 8 = nI nb := by rw [eF14, pt_upd_ne (by decide)]; exact kb8
              have kF14_25 : F14 25 = nI (pt_SE tO ot (fun b => pt_vd rl (pt_mM ax (A 13) (A 14) L G (3 * b)) (pt_wM ax (A 13) (A 14) L G (3 * b)) (pt_hM ax (A 13) (A 14) L G (3 * b))) b) := by rw [eF14, pt_upd_ne (by decide)]; exact hsB
              have kF14_26 : F14 26 = nI (pt_FT fr tO ot od (fun b => pt_vd rl (pt_mM ax (A 13) (A 14) L G (3 * b)) (pt_wM ax (A 13) (A 14) L G (3 * b)) (pt_hM ax (A 13) (A 14) L G (3 * b))) (fun t => ¬ A 3 t = 0) (fun t => ¬ A 3 t = 0 ∧ pt_so rl (pt_mM ax (A 4) (A 5) L G (3 * t)) (pt_wM ax (A 4) (A 5) L G (3 * t)) (pt_hM ax (A 4) (A 5) L G (3 * t))) b) := by rw [eF14, pt_upd_ne (by decide)]; exact htB
              have kF14_24 : F14 24 = nI ((pt_OP tO ot (fun b => pt_vd rl (pt_mM ax (A 13) (A 14) L G (3 * b)) (pt_wM ax (A 13) (A 14) L G (3 * b)) (pt_hM ax (A 13) (A 14) L G (3 * b))) b) + 1) := by rw [eF14, pt_upd]
              refine lv_aload_n hx hb dX2_range_162 rfl (lv_at hl 3 rfl) ?_
              refine va_get (D := (dC, dI)) (ci := 2) (v := .ref (a 9)) (C := RX2) (T := TX2) (N := 27) hx hb hts iw_c_X2_range_wsX20 hown hK hP 0 rfl rfl 9 (by decide) (hts _ wd_c_X2_range_X2_range_11) (fun _ h9 => h9) rfl dX2_range_163 ?_
              refine lv_iload hx hb dX2_range_166 (lv_at hl 2 rfl) ?_
              refine pt_iald hx hb hK hP 6 5 rfl rfl b rfl (by omega) (by decide) dX2_range_168 ?_
              refine pt_top (y := nI (fr b)) (by rw [(hAB 9 (by decide) (by decide) (by decide))]; exact t9) ?_
              refine lv_istore (lv' := [(11, .int (nI (fr b))), (10, .int (nI (b + 1))), (9, .int (-1)), (8, .int (nI b)), (0, .ref (a 0)), (1, .int (nI rl)), (2, .int x0), (3, .int x1), (4, .int y0), (5, .int y1), (6, .int z0), (7, .int z1)]) hx hb dX2_range_169 hl (by decide) rfl (fun ls hl => ?_)
              refine pt_loopW (fun q : Nat × pt_MS => tO b - q.1) (fun q ls H locs => (fr b ≤ q.1 ∧ q.1 ≤ tO b) ∧ ((pt_aM (pt_run (pt_FD fr tO ot od (fun b => pt_vd rl (pt_mM ax (A 13) (A 14) L G (3 * b)) (pt_wM ax (A 13) (A 14) L G (3 * b)) (pt_hM ax (A 13) (A 14) L G (3 * b))) (fun t => ¬ A 3 t = 0) (fun t => ¬ A 3 t = 0 ∧ pt_so rl (pt_mM ax (A 4) (A 5) L G (3 * t)) (pt_wM ax (A 4) (A 5) L G (3 * t)) (pt_hM ax (A 4) (A 5) L G (3 * t))) b) od (fun t => ot b = 0 ∧ (fun t => ¬ A 3 t = 0 ∧ pt_so rl (pt_mM ax (A 4) (A 5) L G (3 * t)) (pt_wM ax (A 4) (A 5) L G (3 * t)) (pt_hM ax (A 4) (A 5) L G (3 * t))) t) (fr b) q.1) (pt_FC fr tO ot od (fun b => pt_vd rl (pt_mM ax (A 13) (A 14) L G (3 * b)) (pt_wM ax (A 13) (A 14) L G (3 * b)) (pt_hM ax (A 13) (A 14) L G (3 * b))) (fun t => ¬ A 3 t = 0) (fun t => ¬ A 3 t = 0 ∧ pt_so rl (pt_mM ax (A 4) (A 5) L G (3 * t)) (pt_wM ax (A 4) (A 5) L G (3 * t)) (pt_hM ax (A 4) (A 5) L G (3 * t))) b + pt_cnt (fun z => fr b ≤ z ∧ (fun t => ot b = 0 ∧ (fun t => ¬ A 3 t = 0 ∧ pt_so rl (pt_mM ax (A 4) (A 5) L G (3 * t)) (pt_wM ax (A 4) (A 5) L G (3 * t)) (pt_hM ax (A 4) (A 5) L G (3 * t))) t) (od z)) q.1) q.2.1 q.2.2 ∧ q.2.1 24 = nI ((pt_OP tO ot (fun b => pt_vd rl (pt_mM ax (A 13) (A 14) L G (3 * b)) (pt_wM ax (A 13) (A 14) L G (3 * b)) (pt_hM ax (A 13) (A 14) L G (3 * b))) b) + 1) ∧ q.2.1 25 = nI (pt_SE tO ot (fun b => pt_vd rl (pt_mM ax (A 13) (A 14) L G (3 * b)) (pt_wM ax (A 13) (A 14) L G (3 * b)) (pt_hM ax (A 13) (A 14) L G (3 * b))) b) ∧ q.2.1 26 = nI (pt_FT fr tO ot od (fun b => pt_vd rl (pt_mM ax (A 13) (A 14) L G (3 * b)) (pt_wM ax (A 13) (A 14) L G (3 * b)) (pt_hM ax (A 13) (A 14) L G (3 * b))) (fun t => ¬ A 3 t = 0) (fun t => ¬ A 3 t = 0 ∧ pt_so rl (pt_mM ax (A 4) (A 5) L G (3 * t)) (pt_wM ax (A 4) (A 5) L G (3 * t)) (pt_hM ax (A 4) (A 5) L G (3 * t))) b)) ∧ ((q.2.1 0 = nI 0 ∧ (∀ j, j ≠ 0 → j ≠ 23 → j ≠ 24 → j ≠ 25 → j ≠ 26 → q.2.1 j = F j)) ∧ (q.2.2 20 = L ∧ q.2.2 21 = G ∧ ∀ j, j ≠ 20 → j ≠ 21 → j ≠ 22 → q.2.2 j = A j))) ∧ va_P (dC, dI) vwCl (pt_mw a c q.2.1 q.2.2) H ∧ va_D AA (pt_mw a c q.2.1 q.2.2) ∧ va_S AA s.heap H locs ∧ lv_has ls 13 [(11, .int (nI q.1)), (10, .int (nI (b + 1))), (9, .int (-1)), (8, .int (nI b)), (0, .ref (a 0)), (1, .int (nI rl)), (2, .int x0), (3, .int x1), (4, .int y0), (5, .int y1), (6, .int z0), (7, .int z1)]) ?_ (fr b, F14, Ab) _ _ _ ⟨⟨Nat.le_refl _, by omega⟩, ⟨⟨(haB.m (by show F14 23 = Fb 23; rw [eF14, pt_upd_ne (by decide)]) rfl).c (fun x => pt_run_0) (by show _ = _ + pt_cnt _ (fr b); rw [pt_cntr_0]; rfl), kF14_24, kF14_25, kF14_26⟩, ⟨⟨kF14_0, fun j j0 j23 j24 j25 j26 => by show F14 j = F j; rw [eF14, pt_upd_ne j24]; exact hFB j j0 j23 j24 j25 j26⟩, hL20, hG21, hAB⟩⟩, hP, hD, hS, hl⟩
              intro ⟨k, Fk, Ak⟩ ls H locs ⟨⟨hfk, hkt⟩, ⟨⟨haK, hoK, hsK, htK⟩, ⟨⟨hF0k, hFK⟩, hL20k, hG21k, hAK⟩⟩, hP, hD, hS, hl⟩ ihk
              dsimp only at hfk hkt haK hoK hsK htK hF0k hFK hL20k hG21k hAK hP hD hl ihk
              have kk1 : Fk 1 = nI ax := (hFK 1 (by decide) (by decide) (by decide) (by decide) (by decide)).trans h1
              refine lv_iload hx hb dX2_range_171 (lv_at hl 0 rfl) ?_
              refine lv_aload_n hx hb dX2_range_173 rfl (lv_at hl 4 rfl) ?_
              refine va_get (D := (dC, dI)) (ci := 2) (v := .ref (a 9)) (C := RX2) (T := TX2) (N := 27) hx hb hts iw_c_X2_range_wsX20 hown hK hP 0 rfl rfl 9 (by decide) (hts _ wd_c_X2_range_X2_range_11) (fun _ h9 => h9) rfl dX2_range_174 ?_
              refine lv_iload hx hb dX2_range_177 (lv_at hl 3 rfl) ?_
              refine pt_iald hx hb hK hP 6 5 rfl rfl b rfl (by omega) (by decide) dX2_range_179 ?_
              refine pt_top (y := nI (fr b)) (by rw [(hAK 9 (by decide) (by decide) (by decide))]; exact t9) ?_
              refine lv_aload_n hx hb dX2_range_180 rfl (lv_at hl 4 rfl) ?_
              refine va_get (D := (dC, dI)) (ci := 2) (v := .ref (a 10)) (C := RX2) (T := TX2) (N := 27) hx hb hts iw_c_X2_range_wsX20 hown hK hP 0 rfl rfl 10 (by decide) (hts _ wd_c_X2_range_X2_range_12) (fun _ h9 => h9) rfl dX2_range_181 ?_
              refine lv_iload hx hb dX2_range_184 (lv_at hl 3 rfl) ?_
              refine pt_iald hx hb hK hP 7 6 rfl rfl b rfl (by omega) (by decide) dX2_range_186 ?_
              refine pt_top (y := nI (mn b)) (by rw [(hAK 10 (by decide) (by decide) (by decide))]; exact t10) ?_
              refine lv_iadd hx hb dX2_range_187 ?_
              refine pt_top (y := nI ((fr b) + (mn b))) (nI_add _ _) ?_
              refine lv_icmp_ge (tgt := 290) hx hb dX2_range_188 (by decide) (fun c188 => ?_) (fun c188 => ?_)
              · have hke : k = tO b := by have := (nI_leI (by omega) (by omega)).mp c188; omega
                refine lv_iload hx hb dX2_range_290 (lv_at hl 1 rfl) ?_
                refine lv_istore (lv' := [(8, .int (nI (b + 1))), (11, .int (nI k)), (10, .int (nI (b + 1))), (9, .int (-1)), (0, .ref (a 0)), (1, .int (nI rl)), (2, .int x0), (3, .int x1), (4, .int y0), (5, .int y1), (6, .int z0), (7, .int z1)]) hx hb dX2_range_292 hl (by decide) rfl (fun ls hl => ?_)
                refine lv_goto (tgt := 81) hx hb dX2_range_294 (by decide) ?_
                have hst := pt_st_open (fr := fr) (od := od) (th := (fun t => ¬ A 3 t = 0)) (P := (fun t => ¬ A 3 t = 0 ∧ pt_so rl (pt_mM ax (A 4) (A 5) L G (3 * t)) (pt_wM ax (A 4) (A 5) L G (3 * t)) (pt_hM ax (A 4) (A 5) L G (3 * t)))) hvis hv0
                rw [hke] at haK
                have hdn2 : b + 1 < nb → pt_dn tO ot (fun b => pt_vd rl (pt_mM ax (A 13) (A 14) L G (3 * b)) (pt_wM ax (A 13) (A 14) L G (3 * b)) (pt_hM ax (A 13) (A 14) L G (3 * b))) (b + 1) ≤ fr (b + 1) := pt_dn_open hTF hvis hv0 (hdB hbl)
                exact ihb (b + 1, Fk, Ak) _ _ _ ⟨by show b + 1 ≤ nb; omega, ⟨⟨haK.c hst.1 hst.2.1, by show Fk 24 = _; rw [hoK, hst.2.2.1], by show Fk 25 = _; rw [hsK, hst.2.2.2.1], by show Fk 26 = _; rw [htK, hst.2.2.2.2]⟩, ⟨⟨hF0k, hFK⟩, hL20k, hG21k, hAK⟩, hdn2⟩, hP, hD, hS, lv_sub hl [0, 4, 5, 6, 7, 8, 9, 10, 11] rfl⟩ (by show nb - (b + 1) < nb - b; omega)
              · have hkl : k < tO b := Nat.not_le.mp (fun q => c188 ((nI_leI (by omega) (by omega)).mpr (by omega)))
                have hodk := hod k (by omega)
                have ho64 := hodk.2
                refine lv_aload_n hx hb dX2_range_191 rfl (lv_at hl 4 rfl) ?_
                refine va_get (D := (dC, dI)) (ci := 2) (v := .ref (a 7)) (C := RX2) (T := TX2) (N := 27) hx hb hts iw_c_X2_range_wsX20 hown hK hP 0 rfl rfl 7 (by decide) (hts _ wd_c_X2_range_X2_range_13) (fun _ h9 => h9) rfl dX2_range_192 ?_
                refine lv_iload hx hb dX2_range_195 (lv_at hl 0 rfl) ?_
                refine pt_iald hx hb hK hP 5 4 rfl rfl k rfl (by omega) (by decide) dX2_range_197 ?_
                refine pt_top (y := nI (od k)) (by rw [(hAK 7 (by decide) (by decide) (by decide))]; exact hodk.1) ?_
                refine lv_istore (lv' := [(12, .int (nI (od k))), (11, .int (nI k)), (10, .int (nI (b + 1))), (9, .int (-1)), (8, .int (nI b)), (0, .ref (a 0)), (1, .int (nI rl)), (2, .int x0), (3, .int x1), (4, .int y0), (5, .int y1), (6, .int z0), (7, .int z1)]) hx hb dX2_range_198 hl (by decide) rfl (fun ls hl => ?_)
                refine lv_aload_n hx hb dX2_range_200 rfl (lv_at hl 5 rfl) ?_
                refine va_get (D := (dC, dI)) (ci := 2) (v := .ref (a 3)) (C := RX2) (T := TX2) (N := 27) hx hb hts iw_c_X2_range_wsX20 hown hK hP 0 rfl rfl 3 (by decide) (hts _ wd_c_X2_range_X2_range_7) (fun _ h9 => h9) rfl dX2_range_201 ?_
                refine lv_iload hx hb dX2_range_204 (lv_at hl 0 rfl) ?_
                refine pt_zald hx hb hK hP 1 0 rfl rfl (od k) rfl (by omega) (by decide) dX2_range_206 ?_
                refine pt_top (y := A 3 (od k)) (by rw [(hAK 3 (by decide) (by decide) (by decide))]) ?_
                refine lv_if_eq (tgt := 232) hx hb dX2_range_207 (by decide) (fun c207 => ?_) (fun c207 => ?_)
                · refine lv_aload_n hx hb dX2_range_232 rfl (lv_at hl 5 rfl) ?_
                  refine va_get (D := (dC, dI)) (ci := 2) (v := .ref (a 3)) (C := RX2) (T := TX2) (N := 27) hx hb hts iw_c_X2_range_wsX20 hown hK hP 0 rfl rfl 3 (by decide) (hts _ wd_c_X2_range_X2_range_7) (fun _ h9 => h9) rfl dX2_range_233 ?_
                  refine lv_iload hx hb dX2_range_236 (lv_at hl 0 rfl) ?_
                  refine pt_zald hx hb hK hP 1 0 rfl rfl (od k) rfl (by omega) (by decide) dX2_range_238 ?_
                  refine pt_top (y := A 3 (od k)) (by rw [(hAK 3 (by decide) (by decide) (by decide))]) ?_
                  refine lv_if_eq (tgt := 284) hx hb dX2_range_239 (by decide) (fun c239 => ?_) (fun c239 => absurd c207 c239)
                  refine lv_iinc (v := nI (k + 1)) (lv' := [(11, .int (nI (k + 1))), (12, .int (nI (od k))), (10, .int (nI (b + 1))), (9, .int (-1)), (8, .int (nI b)), (0, .ref (a 0)), (1, .int (nI rl)), (2, .int x0), (3, .int x1), (4, .int y0), (5, .int y1), (6, .int z0), (7, .int z1)]) hx hb dX2_range_284 hl (k := 1) rfl (nI_1 _) (by decide) rfl (fun ls hl => ?_)
                  refine lv_goto (tgt := 171) hx hb dX2_range_287 (by decide) ?_
                  have hno : ¬ (fun t => ot b = 0 ∧ (fun t => ¬ A 3 t = 0 ∧ pt_so rl (pt_mM ax (A 4) (A 5) L G (3 * t)) (pt_wM ax (A 4) (A 5) L G (3 * t)) (pt_hM ax (A 4) (A 5) L G (3 * t))) t) (od k) := (fun q => q.2.1 c207)
                  exact ihk (k + 1, Fk, Ak) _ _ _ ⟨⟨by show fr b ≤ k + 1; omega, by show k + 1 ≤ tO b; omega⟩, ⟨⟨(haK.no (t := od k) hno).c (fun x => pt_run_s (P := (fun t => ot b = 0 ∧ (fun t => ¬ A 3 t = 0 ∧ pt_so rl (pt_mM ax (A 4) (A 5) L G (3 * t)) (pt_wM ax (A 4) (A 5) L G (3 * t)) (pt_hM ax (A 4) (A 5) L G (3 * t))) t)) hfk) (by show _ = _ + pt_cnt _ (k + 1); rw [pt_cntr_s (P := fun z => (fun t => ot b = 0 ∧ (fun t => ¬ A 3 t = 0 ∧ pt_so rl (pt_mM ax (A 4) (A 5) L G (3 * t)) (pt_wM ax (A 4) (A 5) L G (3 * t)) (pt_hM ax (A 4) (A 5) L G (3 * t))) t) (od z)) hfk, Nat.add_assoc]), hoK, hsK, htK⟩, ⟨⟨hF0k, hFK⟩, hL20k, hG21k, hAK⟩⟩, hP, hD, hS, lv_sub hl [0, 2, 3, 4, 5, 6, 7, 8, 9, 10, 11, 12] rfl⟩ (by show tO b - (k + 1) < tO b - k; omega)
                · refine lv_iload hx hb dX2_range_210 (lv_at hl 3 rfl) ?_
                  refine lv_iconst (v := nI 1) hx hb dX2_range_212 (by decide) ?_
                  refine lv_icmp_ne (tgt := 232) hx hb dX2_range_213 (by decide) (fun c213 => ?_) (fun c213 => absurd c213 (by decide))
                  refine lv_aload_n hx hb dX2_range_232 rfl (lv_at hl 5 rfl) ?_
                  refine va_get (D := (dC, dI)) (ci := 2) (v := .ref (a 3)) (C := RX2) (T := TX2) (N := 27) hx hb hts iw_c_X2_range_wsX20 hown hK hP 0 rfl rfl 3 (by decide) (hts _ wd_c_X2_range_X2_range_7) (fun _ h9 => h9) rfl dX2_range_233 ?_
                  refine lv_iload hx hb dX2_range_236 (lv_at hl 0 rfl) ?_
                  refine pt_zald hx hb hK hP 1 0 rfl rfl (od k) rfl (by omega) (by decide) dX2_range_238 ?_
                  refine pt_top (y := A 3 (od k)) (by rw [(hAK 3 (by decide) (by decide) (by decide))]) ?_
                  refine lv_if_eq (tgt := 284) hx hb dX2_range_239 (by decide) (fun c239 => absurd c239 c207) (fun c239 => ?_)
                  refine lv_iload hx hb dX2_range_242 (lv_at hl 3 rfl) ?_
                  refine lv_if_ge (tgt := 284) hx hb dX2_range_244 (by decide) (fun c244 => absurd c244 (by decide)) (fun c244 => ?_)
                  refine lv_aload_n hx hb dX2_range_247 rfl (lv_at hl 5 rfl) ?_
                  refine va_get (D := (dC, dI)) (ci := 2) (v := .ref (a 10)) (C := RX2) (T := TX2) (N := 27) hx hb hts iw_c_X2_range_wsX20 hown hK hP 0 rfl rfl 10 (by decide) (hts _ wd_c_X2_range_X2_range_12) (fun _ h9 => h9) rfl dX2_range_248 ?_
                  refine lv_iload hx hb dX2_range_251 (lv_at hl 4 rfl) ?_
                  refine pt_iald hx hb hK hP 7 6 rfl rfl b rfl (by omega) (by decide) dX2_range_253 ?_
                  refine pt_top (y := nI (mn b)) (by rw [(hAK 10 (by decide) (by decide) (by decide))]; exact t10) ?_
                  refine lv_iconst (v := nI 5) hx hb dX2_range_254 (by decide) ?_
                  refine lv_icmp_ge (tgt := 284) hx hb dX2_range_255 (by decide) (fun c255 => ?_) (fun c255 => ?_)
                  · have d255 : ¬ ot b = 0 := fun q => by have h5 : 5 ≤ mn b := (nI_leI (by omega) (by omega)).mp c255; have := tmn.mpr q; omega
                    refine lv_iinc (v := nI (k + 1)) (lv' := [(11, .int (nI (k + 1))), (12, .int (nI (od k))), (10, .int (nI (b + 1))), (9, .int (-1)), (8, .int (nI b)), (0, .ref (a 0)), (1, .int (nI rl)), (2, .int x0), (3, .int x1), (4, .int y0), (5, .int y1), (6, .int z0), (7, .int z1)]) hx hb dX2_range_284 hl (k := 1) rfl (nI_1 _) (by decide) rfl (fun ls hl => ?_)
                    refine lv_goto (tgt := 171) hx hb dX2_range_287 (by decide) ?_
                    have hno : ¬ (fun t => ot b = 0 ∧ (fun t => ¬ A 3 t = 0 ∧ pt_so rl (pt_mM ax (A 4) (A 5) L G (3 * t)) (pt_wM ax (A 4) (A 5) L G (3 * t)) (pt_hM ax (A 4) (A 5) L G (3 * t))) t) (od k) := (fun q => d255 q.1)
                    exact ihk (k + 1, Fk, Ak) _ _ _ ⟨⟨by show fr b ≤ k + 1; omega, by show k + 1 ≤ tO b; omega⟩, ⟨⟨(haK.no (t := od k) hno).c (fun x => pt_run_s (P := (fun t => ot b = 0 ∧ (fun t => ¬ A 3 t = 0 ∧ pt_so rl (pt_mM ax (A 4) (A 5) L G (3 * t)) (pt_wM ax (A 4) (A 5) L G (3 * t)) (pt_hM ax (A 4) (A 5) L G (3 * t))) t)) hfk) (by show _ = _ + pt_cnt _ (k + 1); rw [pt_cntr_s (P := fun z => (fun t => ot b = 0 ∧ (fun t => ¬ A 3 t = 0 ∧ pt_so rl (pt_mM ax (A 4) (A 5) L G (3 * t)) (pt_wM ax (A 4) (A 5) L G (3 * t)) (pt_hM ax (A 4) (A 5) L G (3 * t))) t) (od z)) hfk, Nat.add_assoc]), hoK, hsK, htK⟩, ⟨⟨hF0k, hFK⟩, hL20k, hG21k, hAK⟩⟩, hP, hD, hS, lv_sub hl [0, 2, 3, 4, 5, 6, 7, 8, 9, 10, 11, 12] rfl⟩ (by show tO b - (k + 1) < tO b - k; omega)
                  · have d255 : ot b = 0 := tmn.mp (by have : ¬ 5 ≤ mn b := fun q => c255 ((nI_leI (by omega) (by omega)).mpr q); omega)
                    refine lv_aload_n hx hb dX2_range_258 rfl (lv_at hl 5 rfl) ?_
                    refine lv_iload_n hx hb dX2_range_259 rfl (lv_at hl 6 rfl) ?_
                    refine lv_aload_n hx hb dX2_range_260 rfl (lv_at hl 5 rfl) ?_
                    refine va_get (D := (dC, dI)) (ci := 2) (v := .ref (a 4)) (C := RX2) (T := TX2) (N := 27) hx hb hts iw_c_X2_range_wsX20 hown hK hP 0 rfl rfl 4 (by decide) (hts _ wd_c_X2_range_X2_range_9) (fun _ h9 => h9) rfl dX2_range_261 ?_
                    refine lv_aload_n hx hb dX2_range_264 rfl (lv_at hl 5 rfl) ?_
                    refine va_get (D := (dC, dI)) (ci := 2) (v := .ref (a 5)) (C := RX2) (T := TX2) (N := 27) hx hb hts iw_c_X2_range_wsX20 hown hK hP 0 rfl rfl 5 (by decide) (hts _ wd_c_X2_range_X2_range_10) (fun _ h9 => h9) rfl dX2_range_265 ?_
                    refine lv_iconst (v := nI 3) hx hb dX2_range_268 (by decide) ?_
                    refine lv_iload hx hb dX2_range_269 (lv_at hl 0 rfl) ?_
                    refine lv_imul hx hb dX2_range_271 ?_
                    refine pt_top (y := nI (3 * (od k))) (pk_mul _ _) ?_
                    refine pt_rdi (va_runV (As := [.int (nI rl), .ref (a 4), .ref (a 5), .int (nI (3 * (od k)))]) (rest := []) ⟨hx, hb, hml, hown, hts⟩ (c_X2_isSoT l dC dI a c Fk Ak ax kk1 hax rl (3 * od k) (by omega) (by omega)) (cwV 4 hts gX2_range_X2_isSo rfl rfl rfl (by decide +kernel) ⟨Nat.le_of_ble_eq_true rfl, Nat.le_of_ble_eq_true rfl⟩) (pt_pv2 hP hK hN (q0 := 0) rfl) rfl rfl hl.1 rfl (lv_room (Nat.le_of_ble_eq_true rfl)) dX2_range_272 ⟨Nat.le_of_ble_eq_true rfl, Nat.le_of_ble_eq_true rfl⟩) (fun r272 hr272 => ?_)
                    refine lv_if_eq (tgt := 284) hx hb dX2_range_275 (by decide) (fun c275 => ?_) (fun c275 => ?_)
                    · have d275 : ¬ pt_so rl (pt_mM ax (A 4) (A 5) L G (3 * od k)) (pt_wM ax (A 4) (A 5) L G (3 * od k)) (pt_hM ax (A 4) (A 5) L G (3 * od k)) := by have := hr272.f c275; rw [hL20k, hG21k, (hAK 4 (by decide) (by decide) (by decide)), (hAK 5 (by decide) (by decide) (by decide))] at this; exact this
                      refine lv_iinc (v := nI (k + 1)) (lv' := [(11, .int (nI (k + 1))), (12, .int (nI (od k))), (10, .int (nI (b + 1))), (9, .int (-1)), (8, .int (nI b)), (0, .ref (a 0)), (1, .int (nI rl)), (2, .int x0), (3, .int x1), (4, .int y0), (5, .int y1), (6, .int z0), (7, .int z1)]) hx hb dX2_range_284 hl (k := 1) rfl (nI_1 _) (by decide) rfl (fun ls hl => ?_)
                      refine lv_goto (tgt := 171) hx hb dX2_range_287 (by decide) ?_
                      have hno : ¬ (fun t => ot b = 0 ∧ (fun t => ¬ A 3 t = 0 ∧ pt_so rl (pt_mM ax (A 4) (A 5) L G (3 * t)) (pt_wM ax (A 4) (A 5) L G (3 * t)) (pt_hM ax (A 4) (A 5) L G (3 * t))) t) (od k) := (fun q => d275 q.2.2)
                      exact ihk (k + 1, Fk, Ak) _ _ _ ⟨⟨by show fr b ≤ k + 1; omega, by show k + 1 ≤ tO b; omega⟩, ⟨⟨(haK.no (t := od k) hno).c (fun x => pt_run_s (P := (fun t => ot b = 0 ∧ (fun t => ¬ A 3 t = 0 ∧ pt_so rl (pt_mM ax (A 4) (A 5) L G (3 * t)) (pt_wM ax (A 4) (A 5) L G (3 * t)) (pt_hM ax (A 4) (A 5) L G (3 * t))) t)) hfk) (by show _ = _ + pt_cnt _ (k + 1); rw [pt_cntr_s (P := fun z => (fun t => ot b = 0 ∧ (fun t => ¬ A 3 t = 0 ∧ pt_so rl (pt_mM ax (A 4) (A 5) L G (3 * t)) (pt_wM ax (A 4) (A 5) L G (3 * t)) (pt_hM ax (A 4) (A 5) L G (3 * t))) t) (od z)) hfk, Nat.add_assoc]), hoK, hsK, htK⟩, ⟨⟨hF0k, hFK⟩, hL20k, hG21k, hAK⟩⟩, hP, hD, hS, lv_sub hl [0, 2, 3, 4, 5, 6, 7, 8, 9, 10, 11, 12] rfl⟩ (by show tO b - (k + 1) < tO b - k; omega)
                    · have d275 : pt_so rl (pt_mM ax (A 4) (A 5) L G (3 * od k)) (pt_wM ax (A 4) (A 5) L G (3 * od k)) (pt_hM ax (A 4) (A 5) L G (3 * od k)) := by have := hr272.t c275; rw [hL20k, hG21k, (hAK 4 (by decide) (by decide) (by decide)), (hAK 5 (by decide) (by decide) (by decide))] at this; exact this
                      refine lv_aload_n hx hb dX2_range_278 rfl (lv_at hl 5 rfl) ?_
                      refine lv_iload hx hb dX2_range_279 (lv_at hl 0 rfl) ?_
                      refine pt_callv (wf := (fun u : pt_MS => pt_mw a c u.1 u.2)) (va_runV (As := [.int (nI (od k))]) (rest := []) ⟨hx, hb, hml, hown, hts⟩ (c_X2_find l dC dI a c Fk Ak _ (od k) (by omega) _ _ haK) (cwV 1 hts gX2_range_X2_find rfl rfl rfl (by decide +kernel) ⟨Nat.le_of_ble_eq_true rfl, Nat.le_of_ble_eq_true rfl⟩) (pt_wv2 hP hK hN hD (q0 := 0) rfl) rfl rfl hl.1 rfl (lv_room (Nat.le_of_ble_eq_true rfl)) dX2_range_281 ⟨Nat.le_of_ble_eq_true rfl, Nat.le_of_ble_eq_true rfl⟩) hD hS hA (fun _ => rfl) (fun u281 H locs hr281 hP hD hS => ?_)
                      obtain ⟨F15, A15⟩ := u281
                      obtain ⟨hm15, hfM15, haM15⟩ := hr281
                      dsimp only at hm15 hfM15 haM15 hP hD
                      have kF15_0 : F15 0 = nI 0 := (hfM15 0 (by decide)).trans hF0k
                      have kF15_1 : F15 1 = nI ax := (hfM15 1 (by decide)).trans kk1
                      have kF15_24 : F15 24 = nI ((pt_OP tO ot (fun b => pt_vd rl (pt_mM ax (A 13) (A 14) L G (3 * b)) (pt_wM ax (A 13) (A 14) L G (3 * b)) (pt_hM ax (A 13) (A 14) L G (3 * b))) b) + 1) := (hfM15 24 (by decide)).trans hoK
                      have kF15_25 : F15 25 = nI (pt_SE tO ot (fun b => pt_vd rl (pt_mM ax (A 13) (A 14) L G (3 * b)) (pt_wM ax (A 13) (A 14) L G (3 * b)) (pt_hM ax (A 13) (A 14) L G (3 * b))) b) := (hfM15 25 (by decide)).trans hsK
                      have kF15_26 : F15 26 = nI (pt_FT fr tO ot od (fun b => pt_vd rl (pt_mM ax (A 13) (A 14) L G (3 * b)) (pt_wM ax (A 13) (A 14) L G (3 * b)) (pt_hM ax (A 13) (A 14) L G (3 * b))) (fun t => ¬ A 3 t = 0) (fun t => ¬ A 3 t = 0 ∧ pt_so rl (pt_mM ax (A 4) (A 5) L G (3 * t)) (pt_wM ax (A 4) (A 5) L G (3 * t)) (pt_hM ax (A 4) (A 5) L G (3 * t))) b) := (hfM15 26 (by decide)).trans htK
                      refine lv_iinc (v := nI (k + 1)) (lv' := [(11, .int (nI (k + 1))), (12, .int (nI (od k))), (10, .int (nI (b + 1))), (9, .int (-1)), (8, .int (nI b)), (0, .ref (a 0)), (1, .int (nI rl)), (2, .int x0), (3, .int x1), (4, .int y0), (5, .int y1), (6, .int z0), (7, .int z1)]) hx hb dX2_range_284 hl (k := 1) rfl (nI_1 _) (by decide) rfl (fun ls hl => ?_)
                      refine lv_goto (tgt := 171) hx hb dX2_range_287 (by decide) ?_
                      have hyes : (fun t => ot b = 0 ∧ (fun t => ¬ A 3 t = 0 ∧ pt_so rl (pt_mM ax (A 4) (A 5) L G (3 * t)) (pt_wM ax (A 4) (A 5) L G (3 * t)) (pt_hM ax (A 4) (A 5) L G (3 * t))) t) (od k) := ⟨d255, c207, d275⟩
                      exact ihk (k + 1, F15, A15) _ _ _ ⟨⟨by show fr b ≤ k + 1; omega, by show k + 1 ≤ tO b; omega⟩, ⟨⟨((hm15).yes (t := od k) hyes).c (fun x => pt_run_s (P := (fun t => ot b = 0 ∧ (fun t => ¬ A 3 t = 0 ∧ pt_so rl (pt_mM ax (A 4) (A 5) L G (3 * t)) (pt_wM ax (A 4) (A 5) L G (3 * t)) (pt_hM ax (A 4) (A 5) L G (3 * t))) t)) hfk) (by show _ = _ + pt_cnt _ (k + 1); rw [pt_cntr_s (P := fun z => (fun t => ot b = 0 ∧ (fun t => ¬ A 3 t = 0 ∧ pt_so rl (pt_mM ax (A 4) (A 5) L G (3 * t)) (pt_wM ax (A 4) (A 5) L G (3 * t)) (pt_hM ax (A 4) (A 5) L G (3 * t))) t) (od z)) hfk, Nat.add_assoc]), by show F15 24 = _; rw [hfM15 24 (by decide)]; exact hoK, by show F15 25 = _; rw [hfM15 25 (by decide)]; exact hsK, by show F15 26 = _; rw [hfM15 26 (by decide)]; exact htK⟩, ⟨⟨by show F15 0 = _; rw [hfM15 0 (by decide)]; exact hF0k, fun j j0 j23 j24 j25 j26 => by show F15 j = F j; rw [hfM15 j j23]; exact hFK j j0 j23 j24 j25 j26⟩, by show A15 20 = L; rw [haM15 20 (by decide)]; exact hL20k, by show A15 21 = G; rw [haM15 21 (by decide)]; exact hG21k, fun j j20 j21 j22 => by show A15 j = A j; rw [haM15 j j22]; exact hAK j j20 j21 j22⟩⟩, hP, hD, hS, lv_sub hl [0, 2, 3, 4, 5, 6, 7, 8, 9, 10, 11, 12] rfl⟩ (by show tO b - (k + 1) < tO b - k; omega)
        · have hlt : i < 64 := Nat.not_le.mp (fun q => c61 ((nI_leI (by omega) (by omega)).mpr q))
          refine lv_aload_n hx hb dX2_range_64 rfl (lv_at hl 1 rfl) ?_
          refine va_get (D := (dC, dI)) (ci := 2) (v := .ref (a 22)) (C := RX2) (T := TX2) (N := 27) hx hb hts iw_c_X2_range_wsX20 hown hK hP 0 rfl rfl 22 (by decide) (hts _ wd_c_X2_range_X2_range_15) (fun _ h9 => h9) rfl dX2_range_65 ?_
          refine lv_iload hx hb dX2_range_68 (lv_at hl 0 rfl) ?_
          refine lv_iconst (v := 0) hx hb dX2_range_70 (by decide) ?_
          obtain ⟨A16, eA16⟩ : ∃ zz, zz = va_up Ai 22 (upd (Ai 22) i 0) := ⟨_, rfl⟩
          refine pt_zast hx hb hK hP hD hS 18 17 rfl rfl i rfl (by omega) (by decide) rfl (ws' := (pt_mw a c F6 A16)) (by rw [eA16]; rfl) dX2_range_71 (fun H locs hP hD hS => ?_)
          refine lv_iinc (v := nI (i + 1)) (lv' := [(8, .int (nI (i + 1))), (0, .ref (a 0)), (1, .int (nI rl)), (2, .int x0), (3, .int x1), (4, .int y0), (5, .int y1), (6, .int z0), (7, .int z1)]) hx hb dX2_range_72 hl (k := 0) rfl (nI_1 _) (by decide) rfl (fun ls hl => ?_)
          refine lv_goto (tgt := 57) hx hb dX2_range_75 (by decide) ?_
          exact ih (i + 1, A16) _ _ _ ⟨by show i + 1 ≤ 64; omega, ⟨fun x hx => by show A16 22 x = 0; rw [eA16, pt_up]; exact pt_upd_s (g := fun _ => 0) hz rfl x hx, fun j hj => by show A16 j = _; rw [eA16, pt_up_ne hj]; exact hsz j hj⟩, hP, hD, hS, lv_sub hl [0, 1, 2, 3, 4, 5, 6, 7, 8] rfl⟩ (by show 64 - (i + 1) < 64 - i; omega)
      · have d28 := hb2.f c28
        refine lv_bipush (v := (-2)) hx hb dX2_range_31 (by decide) ?_
        exact W.iret (v := (-2)) hx hb hr (fun zt zh zW => ⟨⟨_, (F2, A2), rfl, (Or.inl ⟨fun q => by first | exact d28 q.2 | (obtain ⟨t, ht, et, _⟩ := q.1; subst et; first | exact nI_pos (by omega) c6 | exact Int32.not_lt.mpr (nI_le (show t ≤ 3 by omega) (by decide)) c11), rfl, by show F2 = _; rw [hf2, eF1], ho2⟩), by show va_P _ _ _ zt.heap; rw [zh]; exact hP⟩, hS.F zh⟩) hS.2.2 dX2_range_33
