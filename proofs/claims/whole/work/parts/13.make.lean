/-! the tree in words: how many blocks, the row of things, of each block from (0), to (1), other half (2), depth (3); bounds: least (0), greatest (1) by block and axis -/
abbrev pt_TS : Type := Nat × (Nat → Nat) × (Nat → Nat → Nat) × (Nat → Nat → Nat → Int32)
def pt_new (lo hi : Nat → Nat → Int32) (f t d : Nat) (s : pt_TS) : pt_TS := (s.1 + 1, s.2.1, fun q => va_up (s.2.2.1 q) s.1 (if q = 0 then f else if q = 1 then t else if q = 2 then 0 else d), fun q => va_up (s.2.2.2 q) s.1 (fun x => if q = 0 then pt_mn (fun i => lo (s.2.1 i) x) f (t - f - 1) else pt_mx (fun i => hi (s.2.1 i) x) f (t - f - 1)))
def pt_wx (ax : Nat) (lo hi : Nat → Nat → Int32) (f t : Nat) (od : Nat → Nat) : Nat := pt_wa (fun x => pt_spr (fun i => lo (od i) x + hi (od i) x) f t) ax
noncomputable def pt_std (ax : Nat) (lo hi : Nat → Nat → Int32) (f t : Nat) (s : pt_TS) : pt_TS := (s.1, pt_srt (pt_bf (fun v => lo v (pt_wx ax lo hi f t s.2.1) + hi v (pt_wx ax lo hi f t s.2.1))) f (t - f - 1) s.2.1, s.2.2.1, s.2.2.2)
def pt_seto (b : Nat) (s : pt_TS) : pt_TS := (s.1, s.2.1, va_up s.2.2.1 2 (va_up (s.2.2.1 2) b s.1), s.2.2.2)
noncomputable def pt_mk (ax : Nat) (lo hi : Nat → Nat → Int32) : Nat → Nat → Nat → Nat → pt_TS → pt_TS
  | 0, _, _, _, s => s
  | k + 1, f, t, d, s => if t - f ≤ 4 then pt_new lo hi f t d s else pt_mk ax lo hi k (f + (t - f + 1) / 2) t (d + 1) (pt_seto s.1 (pt_mk ax lo hi k f (f + (t - f + 1) / 2) (d + 1) (pt_std ax lo hi f t (pt_new lo hi f t d s))))
theorem pt_mk_leaf {ax : Nat} {lo hi : Nat → Nat → Int32} {k f t d : Nat} {s : pt_TS} (h : t - f ≤ 4) : pt_mk ax lo hi (k + 1) f t d s = pt_new lo hi f t d s := if_pos h
theorem pt_mk_part {ax : Nat} {lo hi : Nat → Nat → Int32} {k f t d : Nat} {s : pt_TS} (h : ¬ t - f ≤ 4) : pt_mk ax lo hi (k + 1) f t d s = pt_mk ax lo hi k (f + (t - f + 1) / 2) t (d + 1) (pt_seto s.1 (pt_mk ax lo hi k f (f + (t - f + 1) / 2) (d + 1) (pt_std ax lo hi f t (pt_new lo hi f t d s)))) := if_neg h
theorem pt_mk_nb {ax : Nat} {lo hi : Nat → Nat → Int32} : ∀ (k f t d : Nat) (s : pt_TS), (pt_mk ax lo hi k f t d s).1 + 1 ≤ s.1 + 2 ^ k
  | 0, _, _, _, s => Nat.le_refl _
  | k + 1, f, t, d, s => by
    have hp : 2 ^ (k + 1) = 2 * 2 ^ k := by rw [Nat.pow_succ]; omega
    have hq : 1 ≤ 2 ^ k := Nat.one_le_two_pow
    by_cases h : t - f ≤ 4
    · rw [pt_mk_leaf h]
      show s.1 + 1 + 1 ≤ _
      omega
    · rw [pt_mk_part h]
      have h1 := pt_mk_nb (ax := ax) (lo := lo) (hi := hi) k f (f + (t - f + 1) / 2) (d + 1) (pt_std ax lo hi f t (pt_new lo hi f t d s))
      have h2 := pt_mk_nb (ax := ax) (lo := lo) (hi := hi) k (f + (t - f + 1) / 2) t (d + 1) (pt_seto s.1 (pt_mk ax lo hi k f (f + (t - f + 1) / 2) (d + 1) (pt_std ax lo hi f t (pt_new lo hi f t d s))))
      have e1 : (pt_std ax lo hi f t (pt_new lo hi f t d s)).1 = s.1 + 1 := rfl
      have e2 : (pt_seto s.1 (pt_mk ax lo hi k f (f + (t - f + 1) / 2) (d + 1) (pt_std ax lo hi f t (pt_new lo hi f t d s)))).1 = (pt_mk ax lo hi k f (f + (t - f + 1) / 2) (d + 1) (pt_std ax lo hi f t (pt_new lo hi f t d s))).1 := rfl
      rw [e1] at h1
      rw [e2] at h2
      omega
theorem pt_mk_mono {ax : Nat} {lo hi : Nat → Nat → Int32} : ∀ (k f t d : Nat) (s : pt_TS), s.1 ≤ (pt_mk ax lo hi k f t d s).1
  | 0, _, _, _, s => Nat.le_refl _
  | k + 1, f, t, d, s => by
    by_cases h : t - f ≤ 4
    · rw [pt_mk_leaf h]; exact Nat.le_succ _
    · rw [pt_mk_part h]
      have h1 := pt_mk_mono (ax := ax) (lo := lo) (hi := hi) k f (f + (t - f + 1) / 2) (d + 1) (pt_std ax lo hi f t (pt_new lo hi f t d s))
      have h2 := pt_mk_mono (ax := ax) (lo := lo) (hi := hi) k (f + (t - f + 1) / 2) t (d + 1) (pt_seto s.1 (pt_mk ax lo hi k f (f + (t - f + 1) / 2) (d + 1) (pt_std ax lo hi f t (pt_new lo hi f t d s))))
      exact Nat.le_trans (Nat.le_trans (Nat.le_succ _) h1) h2
/-! the same sums, the same order -/
theorem pt_mn_c {g h : Nat → Int32} {f : Nat} : ∀ n, (∀ i, f ≤ i → i < f + 1 + n → g i = h i) → pt_mn g f n = pt_mn h f n
  | 0, e => e f (Nat.le_refl _) (by omega)
  | n + 1, e => by
    show (if _ then _ else _) = (if _ then _ else _)
    rw [pt_mn_c n (fun i h1 h2 => e i h1 (by omega)), e (f + 1 + n) (by omega) (by omega)]
theorem pt_mx_c {g h : Nat → Int32} {f : Nat} : ∀ n, (∀ i, f ≤ i → i < f + 1 + n → g i = h i) → pt_mx g f n = pt_mx h f n
  | 0, e => e f (Nat.le_refl _) (by omega)
  | n + 1, e => by
    show (if _ then _ else _) = (if _ then _ else _)
    rw [pt_mx_c n (fun i h1 h2 => e i h1 (by omega)), e (f + 1 + n) (by omega) (by omega)]
theorem pt_spr_c {g h : Nat → Int32} {f t : Nat} (hft : f < t) (e : ∀ i, f ≤ i → i < t → g i = h i) : pt_spr g f t = pt_spr h f t := by
  unfold pt_spr
  rw [pt_mn_c _ (fun i h1 h2 => e i h1 (by omega)), pt_mx_c _ (fun i h1 h2 => e i h1 (by omega))]
theorem pt_wa_c {p q : Nat → Int32} : ∀ n, (∀ x, x < n → p x = q x) → pt_wa p n = pt_wa q n
  | 0, _ => rfl
  | 1, e => by
    show (if _ then 0 else 0) = (if _ then 0 else 0)
    split <;> split <;> rfl
  | n + 2, e => by
    have h1 := pt_wa_c (n + 1) (fun x hx => e x (by omega))
    have h2 := pt_wa_le q n
    show (if p (pt_wa p (n + 1)) < p (n + 1) then n + 1 else pt_wa p (n + 1)) = (if q (pt_wa q (n + 1)) < q (n + 1) then n + 1 else pt_wa q (n + 1))
    rw [h1, e _ (by omega), e (n + 1) (by omega)]
theorem pt_sink_c {bf bg : Nat → Nat → Prop} {f N md : Nat} (e : ∀ t v, t < md → v < md → (bf t v ↔ bg t v)) : ∀ n od, f + n < N → (∀ k, k < N → od k < md) → pt_sink bf f n od = pt_sink bg f n od ∧ ∀ k, k < N → pt_sink bf f n od k < md
  | 0, od, _, h => ⟨rfl, h⟩
  | n + 1, od, hn, h => by
    have hb := e (od (f + (n + 1))) (od (f + n)) (h _ hn) (h _ (by omega))
    by_cases q : bf (od (f + (n + 1))) (od (f + n))
    · have h2 : ∀ k, k < N → pt_swp od (f + n) k < md := by
        intro k hk
        unfold pt_swp
        by_cases q1 : k = f + n + 1
        · subst q1; rw [pt_up]; exact h _ (by omega)
        · rw [pt_up_ne q1]
          by_cases q2 : k = f + n
          · subst q2; rw [pt_up]; exact h _ hn
          · rw [pt_up_ne q2]; exact h k hk
      have ih := pt_sink_c (f := f) e n (pt_swp od (f + n)) (by omega) h2
      constructor
      · show pt_if _ _ _ = pt_if _ _ _
        rw [pt_if_t q, pt_if_t (hb.mp q)]; exact ih.1
      · show ∀ k, k < N → (pt_if (α := Nat → Nat) _ _ _) k < md
        rw [pt_if_t q]; exact ih.2
    · constructor
      · show pt_if _ _ _ = pt_if _ _ _
        rw [pt_if_f q, pt_if_f (fun z => q (hb.mpr z))]
      · show ∀ k, k < N → (pt_if (α := Nat → Nat) _ _ _) k < md
        rw [pt_if_f q]; exact h
theorem pt_srt_c {bf bg : Nat → Nat → Prop} {f N md : Nat} (e : ∀ t v, t < md → v < md → (bf t v ↔ bg t v)) : ∀ n od, f + n < N → (∀ k, k < N → od k < md) → pt_srt bf f n od = pt_srt bg f n od ∧ ∀ k, k < N → pt_srt bf f n od k < md
  | 0, od, _, h => ⟨rfl, h⟩
  | n + 1, od, hn, h => by
    have ih := pt_srt_c (f := f) e n od (by omega) h
    have ih2 := pt_sink_c (f := f) e (n + 1) (pt_srt bf f n od) hn ih.2
    constructor
    · show pt_sink _ _ _ _ = pt_sink _ _ _ _
      rw [ih2.1, ih.1]
    · exact ih2.2
/-! bounds by axes -/
theorem pt_bds_out {T : Nat → Int32} {od : Nat → Nat} {b f k : Nat} {base : Nat → Int32} (h : ¬ (b * 6 ≤ k ∧ k < b * 6 + 6)) : ∀ n, pt_bds T od b f base n k = base k
  | 0 => pk_cpy_out (by omega)
  | n + 1 => by
    show pt_wd _ _ _ _ _ k = _
    rw [pt_wd_out (by omega)]; exact pt_bds_out h n
theorem pt_bds_lo {T : Nat → Int32} {od : Nat → Nat} {b f x : Nat} {base : Nat → Int32} (hx : x < 3) : ∀ n, pt_bds T od b f base n (b * 6 + x * 2 + 0) = pt_mn (fun i => T (od i * 6 + x * 2 + 0)) f n
  | 0 => by
    show va_cpy _ _ _ _ _ _ = _
    rw [pk_cpy_in (by omega) (by omega), show b * 6 + x * 2 + 0 - b * 6 = x * 2 + 0 by omega]; rfl
  | n + 1 => by
    have ih := pt_bds_lo (T := T) (od := od) (b := b) (f := f) (base := base) hx n
    show pt_wd _ _ _ _ _ _ = (if _ then _ else _)
    unfold pt_wd
    rw [if_pos (show b * 6 ≤ b * 6 + x * 2 + 0 ∧ b * 6 + x * 2 + 0 < b * 6 + 3 * 2 from ⟨by omega, by omega⟩), show b * 6 + x * 2 + 0 - b * 6 = x * 2 + 0 by omega, if_pos (show (x * 2 + 0) % 2 = 0 by omega), ih, ← Nat.add_assoc]
theorem pt_bds_hi {T : Nat → Int32} {od : Nat → Nat} {b f x : Nat} {base : Nat → Int32} (hx : x < 3) : ∀ n, pt_bds T od b f base n (b * 6 + x * 2 + 1) = pt_mx (fun i => T (od i * 6 + x * 2 + 1)) f n
  | 0 => by
    show va_cpy _ _ _ _ _ _ = _
    rw [pk_cpy_in (by omega) (by omega), show b * 6 + x * 2 + 1 - b * 6 = x * 2 + 1 by omega]; rfl
  | n + 1 => by
    have ih := pt_bds_hi (T := T) (od := od) (b := b) (f := f) (base := base) hx n
    show pt_wd _ _ _ _ _ _ = (if _ then _ else _)
    unfold pt_wd
    rw [if_pos (show b * 6 ≤ b * 6 + x * 2 + 1 ∧ b * 6 + x * 2 + 1 < b * 6 + 3 * 2 from ⟨by omega, by omega⟩), show b * 6 + x * 2 + 1 - b * 6 = x * 2 + 1 by omega, if_neg (show ¬ (x * 2 + 1) % 2 = 0 by omega), ih, ← Nat.add_assoc]
/-- the class's cells hold the tree s -/
def pt_XT (ax N md : Nat) (s : pt_TS) (F : Nat → Int32) (A : Nat → Nat → Int32) : Prop := F 5 = nI s.1 ∧ pt_row N md s.2.1 (A 7) ∧ ∀ b, b < s.1 → A 8 b = nI (s.2.2.1 0 b) ∧ A 9 b = nI (s.2.2.1 1 b) ∧ A 10 b = nI (s.2.2.1 2 b) ∧ A 11 b = nI (s.2.2.1 3 b) ∧ ∀ x, x < ax → A 12 (b * 6 + x * 2 + 0) = s.2.2.2 0 b x ∧ A 12 (b * 6 + x * 2 + 1) = s.2.2.2 1 b x
/-- the things' boxes -/
def pt_XB (ax md : Nat) (lo hi : Nat → Nat → Int32) (T : Nat → Int32) : Prop := ∀ v x, v < md → x < ax → T (v * 6 + x * 2 + 0) = lo v x ∧ T (v * 6 + x * 2 + 1) = hi v x
theorem pt_XT_new {ax N md f t d : Nat} {lo hi : Nat → Nat → Int32} {s : pt_TS} {F F' : Nat → Int32} {A A' : Nat → Nat → Int32} (hax : ax ≤ 3) (hft : f < t) (htN : t ≤ N) (h : pt_XT ax N md s F A) (hB : pt_XB ax md lo hi (A 4)) (h5 : F' 5 = nI (s.1 + 1)) (e7 : A' 7 = A 7) (e8 : A' 8 = upd (A 8) s.1 (nI f)) (e9 : A' 9 = upd (A 9) s.1 (nI t)) (e10 : A' 10 = upd (A 10) s.1 (nI 0)) (e11 : A' 11 = upd (A 11) s.1 (nI d)) (e12 : A' 12 = pt_bds (A 4) s.2.1 s.1 f (A 12) (t - f - 1)) : pt_XT ax N md (pt_new lo hi f t d s) F' A' := by
  obtain ⟨_, hr, hb⟩ := h
  refine ⟨h5, by rw [e7]; exact hr, fun b hb2 => ?_⟩
  have hb3 : b < s.1 + 1 := hb2
  by_cases q : b = s.1
  · subst q
    rw [e8, e9, e10, e11, e12]
    refine ⟨?_, ?_, ?_, ?_, fun x hx => ⟨?_, ?_⟩⟩
    · rw [pt_upd]; show _ = nI (va_up _ _ _ _); rw [pt_up]; rfl
    · rw [pt_upd]; show _ = nI (va_up _ _ _ _); rw [pt_up]; rfl
    · rw [pt_upd]; show _ = nI (va_up _ _ _ _); rw [pt_up]; rfl
    · rw [pt_upd]; show _ = nI (va_up _ _ _ _); rw [pt_up]; rfl
    · rw [pt_bds_lo (by omega)]; show _ = (va_up (α := Nat → Int32) _ _ _ _) x; rw [pt_up]
      exact pt_mn_c _ (fun i h1 h2 => (hB _ x (hr i (by omega)).2 hx).1)
    · rw [pt_bds_hi (by omega)]; show _ = (va_up (α := Nat → Int32) _ _ _ _) x; rw [pt_up]
      exact pt_mx_c _ (fun i h1 h2 => (hB _ x (hr i (by omega)).2 hx).2)
  · have hb4 : b < s.1 := by omega
    obtain ⟨g8, g9, g10, g11, g12⟩ := hb b hb4
    rw [e8, e9, e10, e11, e12, pt_upd_ne q, pt_upd_ne q, pt_upd_ne q, pt_upd_ne q]
    refine ⟨?_, ?_, ?_, ?_, fun x hx => ⟨?_, ?_⟩⟩
    · show _ = nI (va_up _ _ _ _); rw [pt_up_ne q]; exact g8
    · show _ = nI (va_up _ _ _ _); rw [pt_up_ne q]; exact g9
    · show _ = nI (va_up _ _ _ _); rw [pt_up_ne q]; exact g10
    · show _ = nI (va_up _ _ _ _); rw [pt_up_ne q]; exact g11
    · rw [pt_bds_out (by omega)]; show _ = (va_up (α := Nat → Int32) _ _ _ _) x; rw [pt_up_ne q]; exact (g12 x hx).1
    · rw [pt_bds_out (by omega)]; show _ = (va_up (α := Nat → Int32) _ _ _ _) x; rw [pt_up_ne q]; exact (g12 x hx).2
theorem pt_XT_row {ax N md : Nat} {s : pt_TS} {od : Nat → Nat} {F F' : Nat → Int32} {A A' : Nat → Nat → Int32} (h : pt_XT ax N md s F A) (h5 : F' 5 = F 5) (hr : pt_row N md od (A' 7)) (ho : ∀ j, j ≠ 7 → A' j = A j) : pt_XT ax N md (s.1, od, s.2.2.1, s.2.2.2) F' A' := by
  obtain ⟨h0, _, hb⟩ := h
  refine ⟨by rw [h5]; exact h0, hr, fun b hb2 => ?_⟩
  rw [ho 8 (by decide), ho 9 (by decide), ho 10 (by decide), ho 11 (by decide), ho 12 (by decide)]
  exact hb b hb2
theorem pt_XT_seto {ax N md b0 : Nat} {s : pt_TS} {F : Nat → Int32} {A A' : Nat → Nat → Int32} (h : pt_XT ax N md s F A) (e10 : A' 10 = upd (A 10) b0 (nI s.1)) (ho : ∀ j, j ≠ 10 → A' j = A j) : pt_XT ax N md (pt_seto b0 s) F A' := by
  obtain ⟨h0, hr, hb⟩ := h
  refine ⟨h0, by rw [ho 7 (by decide)]; exact hr, fun b hb2 => ?_⟩
  obtain ⟨g8, g9, g10, g11, g12⟩ := hb b hb2
  rw [ho 8 (by decide), ho 9 (by decide), ho 11 (by decide), ho 12 (by decide), e10]
  refine ⟨g8, g9, ?_, g11, g12⟩
  show _ = nI (va_up s.2.2.1 2 (va_up (s.2.2.1 2) b0 s.1) 2 b)
  rw [pt_up]
  by_cases q : b = b0
  · subst q; rw [pt_upd, pt_up]
  · rw [pt_upd_ne q, pt_up_ne q]; exact g10

def pt_MB (l : Launch) (dC : Nat → ClassId) (dI : Nat → Nat → Nat) (a : Nat → Nat) (c : Nat → ClassId) (ax N md : Nat) (lo hi : Nat → Nat → Int32) (k : Nat) : Prop := ∀ (F : Nat → Int32) (A : Nat → Nat → Int32) (Q : Nat → Int64) (sz f t d : Nat) (ts : pt_TS), F 0 = nI ax → f < t → t ≤ N → N ≤ 64 → md ≤ 64 → 1 ≤ ax → ax ≤ 3 → d + k = 5 → t - f ≤ 2 ^ (k + 1) → ts.1 + 2 ^ k ≤ 32 → pt_XT ax N md ts F A → pt_XB ax md lo hi (A 4) → Met l yX1_makeBlock wsX1_makeBlock (pt_rm (4 + k)) (pt_W (dC, dI) vwCl (pt_xt c) (pt_xw a c F A Q) pt_nw sz [.ref (a 0), .int (nI f), .int (nI t), .int (nI d)]) (va_Qv (fun (u : pt_XS) => pt_XT ax N md (pt_mk ax lo hi k f t d ts) u.1 u.2.1 ∧ (∀ j, j ≠ 5 → u.1 j = F j) ∧ (∀ j, j < 7 ∨ 12 < j → u.2.1 j = A j) ∧ u.2.2 = Q) (fun u t => va_P (dC, dI) vwCl (pt_xw a c u.1 u.2.1 u.2.2) t.heap) (va_A (pt_xw a c F A Q) sz)) 0 0 (va_A (pt_xw a c F A Q) sz)

theorem wd_c_X1_makeBlock_s_X1_makeBlock_0 : Cond.fieldLink RX1 66 "PointTrees" "blocks" "I" ∈ wsX1_makeBlock := by decide +kernel
theorem wd_c_X1_makeBlock_s_X1_makeBlock_1 : Cond.fieldLink RX1 32 "PointTrees" "blockFrom" "[I" ∈ wsX1_makeBlock := by decide +kernel
theorem wd_c_X1_makeBlock_s_X1_makeBlock_2 : Cond.fieldLink RX1 35 "PointTrees" "blockTo" "[I" ∈ wsX1_makeBlock := by decide +kernel
theorem wd_c_X1_makeBlock_s_X1_makeBlock_3 : Cond.fieldLink RX1 38 "PointTrees" "otherHalf" "[I" ∈ wsX1_makeBlock := by decide +kernel
theorem wd_c_X1_makeBlock_s_X1_makeBlock_4 : Cond.fieldLink RX1 41 "PointTrees" "blockDepth" "[I" ∈ wsX1_makeBlock := by decide +kernel
theorem iw_c_X1_makeBlock_s_wsX10 : ∀ w ∈ wsX10, w ∈ wsX1_makeBlock := fun _ h => List.mem_cons_of_mem _ (List.mem_append_left _ (List.mem_append_right _ h))
theorem iw_c_X1_makeBlock_s_wsX00 : ∀ w ∈ wsX00, w ∈ wsX1_makeBlock := fun _ h => List.mem_cons_of_mem _ (List.mem_append_right _ h)
set_option maxHeartbeats 4000000 in
set_option maxRecDepth 100000 in
theorem c_X1_makeBlock_s (l : Launch) (dC : Nat → ClassId) (dI : Nat → Nat → Nat) (a : Nat → Nat) (c : Nat → ClassId) (F : Nat → Int32) (A : Nat → Nat → Int32) (Q : Nat → Int64) (sz : Nat) (ax N md : Nat) (lo hi : Nat → Nat → Int32) (k : Nat) (ih : 1 ≤ k → pt_MB l dC dI a c ax N md lo hi k) (f t d : Nat) (ts : pt_TS) (h0 : F 0 = nI ax) (hft : f < t) (htN : t ≤ N) (hN64 : N ≤ 64) (hmd : md ≤ 64) (hax1 : 1 ≤ ax) (hax : ax ≤ 3) (hdk : d + (k + 1) = 5) (hsz2 : t - f ≤ 2 ^ ((k + 1) + 1)) (hnb : ts.1 + 2 ^ (k + 1) ≤ 32) (hT : pt_XT ax N md ts F A) (hB : pt_XB ax md lo hi (A 4)) : Met l yX1_makeBlock wsX1_makeBlock (pt_rm (4 + (k + 1))) (pt_W (dC, dI) vwCl (pt_xt c) (pt_xw a c F A Q) pt_nw sz [.ref (a 0), .int (nI f), .int (nI t), .int (nI d)]) (va_Qv (fun (u : pt_XS) => pt_XT ax N md (pt_mk ax lo hi (k + 1) f t d ts) u.1 u.2.1 ∧ (∀ j, j ≠ 5 → u.1 j = F j) ∧ (∀ j, j < 7 ∨ 12 < j → u.2.1 j = A j) ∧ u.2.2 = Q) (fun u t => va_P (dC, dI) vwCl (pt_xw a c u.1 u.2.1 u.2.2) t.heap) (va_A (pt_xw a c F A Q) sz)) 0 0 (va_A (pt_xw a c F A Q) sz) := by
  have hp1 : 2 ^ (k + 1) = 2 * 2 ^ k := by rw [Nat.pow_succ]; omega
  have hp2 : 2 ^ (k + 1 + 1) = 2 * 2 ^ (k + 1) := by rw [Nat.pow_succ]; omega
  have hq : 1 ≤ 2 ^ k := Nat.one_le_two_pow
  refine Met.ofW (cc := cX1_makeBlock) (maxL := 6) (ret := none) (by decide) rfl ?_
  intro p e s m args below meth cd s₁ B hml hv
  obtain ⟨rfl, hsz, hP, hK, hN, hD0⟩ := hv
  have hx := B.exec
  have hb := B.bytes
  have hr := B.returns
  have hts := atoms_spec (ws := wsX1_makeBlock) B.pre
  have hown : s.vm.findClass RX1 = some m.cls := findClass_of_methodNamed B.named
  have hlocks := B.notSynchronized
  subst hsz
  have hD := hD0.self (sz := s.heap.size)
  generalize hAe : va_A (pt_xw a c F A Q) s.heap.size = AA at hD ⊢
  have hA : ∀ q : Nat, s.heap.size ≤ q → AA q := fun q h => by rw [← hAe]; exact Or.inr h
  have hS : va_S AA s.heap s.heap [] := va_S.rf
  have hl := lv_entry ([.ref (a 0), .int (nI f), .int (nI t), .int (nI d)]) (n := 6) (Nat.le_of_ble_eq_true rfl)
  rw [lg_entry_eq]
  generalize (lg_sl ([.ref (a 0), .int (nI f), .int (nI t), .int (nI d)]) ++ List.replicate (6 - (lg_sl ([.ref (a 0), .int (nI f), .int (nI t), .int (nI d)])).length) Slot.unset).toArray = ls at hl ⊢
  have hl : lv_has ls 6 [(0, .ref (a 0)), (1, .int (nI f)), (2, .int (nI t)), (3, .int (nI d))] := hl
  refine lv_iload_n hx hb dX1_makeBlock_0 rfl (lv_at hl 1 rfl) ?_
  refine lv_iload_n hx hb dX1_makeBlock_1 rfl (lv_at hl 2 rfl) ?_
  refine lv_icmp_ge (tgt := 19) hx hb dX1_makeBlock_2 (by decide) (fun c2 => absurd c2 (nI_ge hft (by omega))) (fun c2 => ?_)
  refine lv_iload_n hx hb dX1_makeBlock_5 rfl (lv_at hl 3 rfl) ?_
  refine lv_iconst (v := nI 4) hx hb dX1_makeBlock_6 (by decide) ?_
  refine lv_icmp_gt (tgt := 19) hx hb dX1_makeBlock_7 (by decide) (fun c7 => absurd c7 (nI_nlt (by omega) (by omega))) (fun c7 => ?_)
  refine lv_aload_n hx hb dX1_makeBlock_10 rfl (lv_at hl 0 rfl) ?_
  refine va_get (D := (dC, dI)) (ci := 1) (v := .int (F 5)) (C := RX1) (T := TX1) (N := 18) hx hb hts iw_c_X1_makeBlock_s_wsX10 hown hK hP 0 rfl rfl 5 (by decide) (hts _ wd_c_X1_makeBlock_s_X1_makeBlock_0) (fun _ h9 => h9) rfl dX1_makeBlock_11 ?_
  refine pt_top (y := nI ts.1) hT.1 ?_
  refine lv_bipush (v := nI 31) hx hb dX1_makeBlock_14 (by decide) ?_
  refine lv_icmp_lt (tgt := 20) hx hb dX1_makeBlock_16 (by decide) (fun c16 => ?_) (fun c16 => absurd (nI_lt (by omega) (by decide)) c16)
  refine lv_aload_n hx hb dX1_makeBlock_20 rfl (lv_at hl 0 rfl) ?_
  refine va_get (D := (dC, dI)) (ci := 1) (v := .int (F 5)) (C := RX1) (T := TX1) (N := 18) hx hb hts iw_c_X1_makeBlock_s_wsX10 hown hK hP 0 rfl rfl 5 (by decide) (hts _ wd_c_X1_makeBlock_s_X1_makeBlock_0) (fun _ h9 => h9) rfl dX1_makeBlock_21 ?_
  refine pt_top (y := nI ts.1) hT.1 ?_
  refine lv_istore (lv' := [(4, .int (nI ts.1)), (0, .ref (a 0)), (1, .int (nI f)), (2, .int (nI t)), (3, .int (nI d))]) hx hb dX1_makeBlock_24 hl (by decide) rfl (fun ls hl => ?_)
  refine lv_aload_n hx hb dX1_makeBlock_26 rfl (lv_at hl 1 rfl) ?_
  refine lv_dup hx hb dX1_makeBlock_27 rfl ?_
  refine va_get (D := (dC, dI)) (ci := 1) (v := .int (F 5)) (C := RX1) (T := TX1) (N := 18) hx hb hts iw_c_X1_makeBlock_s_wsX10 hown hK hP 0 rfl rfl 5 (by decide) (hts _ wd_c_X1_makeBlock_s_X1_makeBlock_0) (fun _ h9 => h9) rfl dX1_makeBlock_28 ?_
  refine pt_top (y := nI ts.1) hT.1 ?_
  refine lv_iconst (v := nI 1) hx hb dX1_makeBlock_31 (by decide) ?_
  refine lv_iadd hx hb dX1_makeBlock_32 ?_
  refine pt_top (y := nI (ts.1 + 1)) (nI_add _ _) ?_
  obtain ⟨F1, eF1⟩ : ∃ zz, zz = upd F 5 (nI (ts.1 + 1)) := ⟨_, rfl⟩
  refine va_put (D := (dC, dI)) (ci := 1) (v := .int (nI (ts.1 + 1))) (ty := .int) (C := RX1) (T := TX1) (N := 18) hx hb hts iw_c_X1_makeBlock_s_wsX10 tyX1 tyX1_ok nmX1 hown hK hP hD hS 0 rfl rfl 5 (by decide) (hts _ wd_c_X1_makeBlock_s_X1_makeBlock_0) (fun _ h9 => h9) rfl (by decide +kernel) rfl rfl (Nat.le_of_ble_eq_true rfl) dX1_makeBlock_33 (fun H locs hP hD hS => ?_)
  have hP : va_P (dC, dI) vwCl (pt_xw a c F1 A Q) H := by rw [eF1]; exact hP
  have hD : va_D AA (pt_xw a c F1 A Q) := by rw [eF1]; exact hD
  have kF1_0 : F1 0 = nI ax := by rw [eF1, pt_upd_ne (by decide)]; exact h0
  have kF1_5 : F1 5 = nI (ts.1 + 1) := by rw [eF1, pt_upd]
  refine lv_aload_n hx hb dX1_makeBlock_36 rfl (lv_at hl 1 rfl) ?_
  refine va_get (D := (dC, dI)) (ci := 1) (v := .ref (a 8)) (C := RX1) (T := TX1) (N := 18) hx hb hts iw_c_X1_makeBlock_s_wsX10 hown hK hP 0 rfl rfl 8 (by decide) (hts _ wd_c_X1_makeBlock_s_X1_makeBlock_1) (fun _ h9 => h9) rfl dX1_makeBlock_37 ?_
  refine lv_iload hx hb dX1_makeBlock_40 (lv_at hl 0 rfl) ?_
  refine lv_iload_n hx hb dX1_makeBlock_42 rfl (lv_at hl 2 rfl) ?_
  obtain ⟨A2, eA2⟩ : ∃ zz, zz = va_up A 8 (upd (A 8) ts.1 (nI f)) := ⟨_, rfl⟩
  refine pt_iast hx hb hK hP hD hS 5 3 rfl rfl ts.1 rfl (by omega) (by decide) (ws' := (pt_xw a c F1 A2 Q)) (by rw [eA2]; rfl) dX1_makeBlock_43 (fun H locs hP hD hS => ?_)
  refine lv_aload_n hx hb dX1_makeBlock_44 rfl (lv_at hl 1 rfl) ?_
  refine va_get (D := (dC, dI)) (ci := 1) (v := .ref (a 9)) (C := RX1) (T := TX1) (N := 18) hx hb hts iw_c_X1_makeBlock_s_wsX10 hown hK hP 0 rfl rfl 9 (by decide) (hts _ wd_c_X1_makeBlock_s_X1_makeBlock_2) (fun _ h9 => h9) rfl dX1_makeBlock_45 ?_
  refine lv_iload hx hb dX1_makeBlock_48 (lv_at hl 0 rfl) ?_
  refine lv_iload_n hx hb dX1_makeBlock_50 rfl (lv_at hl 3 rfl) ?_
  obtain ⟨A3, eA3⟩ : ∃ zz, zz = va_up A2 9 (upd (A2 9) ts.1 (nI t)) := ⟨_, rfl⟩
  refine pt_iast hx hb hK hP hD hS 6 4 rfl rfl ts.1 rfl (by omega) (by decide) (ws' := (pt_xw a c F1 A3 Q)) (by rw [eA3]; rfl) dX1_makeBlock_51 (fun H locs hP hD hS => ?_)
  refine lv_aload_n hx hb dX1_makeBlock_52 rfl (lv_at hl 1 rfl) ?_
  refine va_get (D := (dC, dI)) (ci := 1) (v := .ref (a 10)) (C := RX1) (T := TX1) (N := 18) hx hb hts iw_c_X1_makeBlock_s_wsX10 hown hK hP 0 rfl rfl 10 (by decide) (hts _ wd_c_X1_makeBlock_s_X1_makeBlock_3) (fun _ h9 => h9) rfl dX1_makeBlock_53 ?_
  refine lv_iload hx hb dX1_makeBlock_56 (lv_at hl 0 rfl) ?_
  refine lv_iconst (v := nI 0) hx hb dX1_makeBlock_58 (by decide) ?_
  obtain ⟨A4, eA4⟩ : ∃ zz, zz = va_up A3 10 (upd (A3 10) ts.1 (nI 0)) := ⟨_, rfl⟩
  refine pt_iast hx hb hK hP hD hS 7 5 rfl rfl ts.1 rfl (by omega) (by decide) (ws' := (pt_xw a c F1 A4 Q)) (by rw [eA4]; rfl) dX1_makeBlock_59 (fun H locs hP hD hS => ?_)
  refine lv_aload_n hx hb dX1_makeBlock_60 rfl (lv_at hl 1 rfl) ?_
  refine va_get (D := (dC, dI)) (ci := 1) (v := .ref (a 11)) (C := RX1) (T := TX1) (N := 18) hx hb hts iw_c_X1_makeBlock_s_wsX10 hown hK hP 0 rfl rfl 11 (by decide) (hts _ wd_c_X1_makeBlock_s_X1_makeBlock_4) (fun _ h9 => h9) rfl dX1_makeBlock_61 ?_
  refine lv_iload hx hb dX1_makeBlock_64 (lv_at hl 0 rfl) ?_
  refine lv_iload_n hx hb dX1_makeBlock_66 rfl (lv_at hl 4 rfl) ?_
  obtain ⟨A5, eA5⟩ : ∃ zz, zz = va_up A4 11 (upd (A4 11) ts.1 (nI d)) := ⟨_, rfl⟩
  refine pt_iast hx hb hK hP hD hS 8 6 rfl rfl ts.1 rfl (by omega) (by decide) (ws' := (pt_xw a c F1 A5 Q)) (by rw [eA5]; rfl) dX1_makeBlock_67 (fun H locs hP hD hS => ?_)
  have y8 : A5 8 = upd (A 8) ts.1 (nI f) := by rw [eA5, pt_up_ne (by decide), eA4, pt_up_ne (by decide), eA3, pt_up_ne (by decide), eA2, pt_up]
  have y9 : A5 9 = upd (A 9) ts.1 (nI t) := by rw [eA5, pt_up_ne (by decide), eA4, pt_up_ne (by decide), eA3, pt_up, eA2, pt_up_ne (by decide)]
  have y10 : A5 10 = upd (A 10) ts.1 (nI 0) := by rw [eA5, pt_up_ne (by decide), eA4, pt_up, eA3, pt_up_ne (by decide), eA2, pt_up_ne (by decide)]
  have y11 : A5 11 = upd (A 11) ts.1 (nI d) := by rw [eA5, pt_up, eA4, pt_up_ne (by decide), eA3, pt_up_ne (by decide), eA2, pt_up_ne (by decide)]
  have yo : ∀ j, j ≠ 8 → j ≠ 9 → j ≠ 10 → j ≠ 11 → A5 j = A j := fun j j1 j2 j3 j4 => by rw [eA5, pt_up_ne j4, eA4, pt_up_ne j3, eA3, pt_up_ne j2, eA2, pt_up_ne j1]
  refine lv_aload_n hx hb dX1_makeBlock_68 rfl (lv_at hl 1 rfl) ?_
  refine lv_iload hx hb dX1_makeBlock_69 (lv_at hl 0 rfl) ?_
  refine pt_callv (wf := (fun u : pt_XS => pt_xw a c u.1 u.2.1 u.2.2)) (va_runV (As := [.int (nI ts.1)]) (rest := []) ⟨hx, hb, hml, hown, hts⟩ (c_X1_setBounds l dC dI a c F1 A5 Q _ ts.1 f t N md ts.2.1 (by omega) hft htN hN64 hmd (by rw [y8, pt_upd]) (by rw [y9, pt_upd]) (by rw [yo 7 (by decide) (by decide) (by decide) (by decide)]; exact hT.2.1)) (cwV 1 hts gX1_makeBlock_X1_setBounds rfl rfl rfl (by decide +kernel) ⟨by show 2 + 1 ≤ 4 + (k + 1); omega, by show 8 + (3 + 11) + 40 * (2) ≤ 40 * (4 + (k + 1)); omega⟩) (pt_wv1 hP hK hN hD (q0 := 0) rfl) rfl rfl hl.1 rfl (lv_room (Nat.le_of_ble_eq_true rfl)) dX1_makeBlock_71 ⟨Nat.le_of_ble_eq_true rfl, Nat.le_of_ble_eq_true rfl⟩) hD hS hA (fun _ => rfl) (fun u71 H locs hr71 hP hD hS => ?_)
  obtain ⟨F6, A6, Q6⟩ := u71
  obtain ⟨hbd, hfB, hoB, hqB⟩ := hr71
  dsimp only at hbd hfB hoB hqB hP hD
  have kF6_0 : F6 0 = nI ax := by rw [hfB]; exact kF1_0
  have kF6_5 : F6 5 = nI (ts.1 + 1) := by rw [hfB]; exact kF1_5
  have hT1 : pt_XT ax N md (pt_new lo hi f t d ts) F6 A6 := pt_XT_new hax hft htN hT hB kF6_5 ((hoB 7 (by decide)).trans (yo 7 (by decide) (by decide) (by decide) (by decide))) ((hoB 8 (by decide)).trans y8) ((hoB 9 (by decide)).trans y9) ((hoB 10 (by decide)).trans y10) ((hoB 11 (by decide)).trans y11) (by rw [hbd, yo 4 (by decide) (by decide) (by decide) (by decide), yo 12 (by decide) (by decide) (by decide) (by decide)])
  have hF1 : ∀ j, j ≠ 5 → F6 j = F j := fun j hj => by rw [hfB, eF1]; exact pt_upd_ne hj
  have hA1 : ∀ j, j < 7 ∨ 12 < j → A6 j = A j := fun j hj => by rw [hoB j (by omega)]; exact yo j (by omega) (by omega) (by omega) (by omega)
  refine lv_iload_n hx hb dX1_makeBlock_74 rfl (lv_at hl 3 rfl) ?_
  refine lv_iload_n hx hb dX1_makeBlock_75 rfl (lv_at hl 2 rfl) ?_
  refine lv_isub hx hb dX1_makeBlock_76 ?_
  refine pt_top (y := nI (t - f)) (pk_sub (by omega)) ?_
  refine lv_iconst (v := nI 4) hx hb dX1_makeBlock_77 (by decide) ?_
  refine lv_icmp_gt (tgt := 82) hx hb dX1_makeBlock_78 (by decide) (fun c78 => ?_) (fun c78 => ?_)
  · have d78 : ¬ t - f ≤ 4 := Nat.not_le.mpr ((nI_ltI (by omega) (by omega)).mp c78)
    have hk1 : 1 ≤ k := by
      rcases k with _ | k
      · exact absurd hsz2 (by show ¬ t - f ≤ 4; exact d78)
      · omega
    refine lv_aload_n hx hb dX1_makeBlock_82 rfl (lv_at hl 1 rfl) ?_
    refine lv_iload_n hx hb dX1_makeBlock_83 rfl (lv_at hl 2 rfl) ?_
    refine lv_iload_n hx hb dX1_makeBlock_84 rfl (lv_at hl 3 rfl) ?_
    refine lv_aload_n hx hb dX1_makeBlock_85 rfl (lv_at hl 1 rfl) ?_
    refine lv_iload_n hx hb dX1_makeBlock_86 rfl (lv_at hl 2 rfl) ?_
    refine lv_iload_n hx hb dX1_makeBlock_87 rfl (lv_at hl 3 rfl) ?_
    refine pt_rdi (va_runV (As := [.int (nI f), .int (nI t)]) (rest := [.int (nI t), .int (nI f), .ref (a 0)]) ⟨hx, hb, hml, hown, hts⟩ (c_X1_widestAxis l dC dI a c F6 A6 Q6 ax kF6_0 hax hax1 ts.2.1 f t hft (by omega) (fun i h1 h2 => by have := hT1.2.1 i (by omega); exact ⟨this.1, Nat.lt_of_lt_of_le this.2 hmd⟩)) (cwV 2 hts gX1_makeBlock_X1_widestAxis rfl rfl rfl (by decide +kernel) ⟨by show 3 + 1 ≤ 4 + (k + 1); omega, by show 8 + (5 + 11) + 40 * (3) ≤ 40 * (4 + (k + 1)); omega⟩) (pt_pv1 hP hK hN (q0 := 0) rfl) rfl rfl hl.1 rfl (lv_room (Nat.le_of_ble_eq_true rfl)) dX1_makeBlock_88 ⟨Nat.le_of_ble_eq_true rfl, Nat.le_of_ble_eq_true rfl⟩) (fun r88 hr88 => ?_)
    have hB1 : pt_XB ax md lo hi (A6 4) := by rw [hA1 4 (by omega)]; exact hB
    have ewx : r88 = nI (pt_wx ax lo hi f t ts.2.1) := hr88.trans (congrArg nI (pt_wa_c ax (fun x hx9 => pt_spr_c hft (fun i h1 h2 => by have h3 := hB1 (ts.2.1 i) x (hT1.2.1 i (by omega)).2 hx9; show pt_sm _ _ _ = _; unfold pt_sm; rw [h3.1, h3.2]))))
    have hwx : (pt_wx ax lo hi f t ts.2.1) < ax := by have := pt_wa_le (fun x => pt_spr (fun i => lo (ts.2.1 i) x + hi (ts.2.1 i) x) f t) (ax - 1); rw [show ax - 1 + 1 = ax by omega] at this; exact Nat.lt_of_le_of_lt this (by omega)
    refine pt_top (y := nI (pt_wx ax lo hi f t ts.2.1)) ewx ?_
    refine pt_callv (wf := (fun u : pt_XS => pt_xw a c u.1 u.2.1 u.2.2)) (va_runV (As := [.int (nI f), .int (nI t), .int (nI (pt_wx ax lo hi f t ts.2.1))]) (rest := []) ⟨hx, hb, hml, hown, hts⟩ (c_X1_sortRun l dC dI a c F6 A6 Q6 _ f t (pt_wx ax lo hi f t ts.2.1) N md ts.2.1 hft htN hN64 hmd (by omega) hT1.2.1) (cwV 3 hts gX1_makeBlock_X1_sortRun rfl rfl rfl (by decide +kernel) ⟨by show 3 + 1 ≤ 4 + (k + 1); omega, by show 8 + (7 + 11) + 40 * (3) ≤ 40 * (4 + (k + 1)); omega⟩) (pt_wv1 hP hK hN hD (q0 := 0) rfl) rfl rfl hl.1 rfl (lv_room (Nat.le_of_ble_eq_true rfl)) dX1_makeBlock_91 ⟨Nat.le_of_ble_eq_true rfl, Nat.le_of_ble_eq_true rfl⟩) hD hS hA (fun _ => rfl) (fun u91 H locs hr91 hP hD hS => ?_)
    obtain ⟨F7, A7, Q7⟩ := u91
    obtain ⟨hrS, hfS, hoS, hqS⟩ := hr91
    dsimp only at hrS hfS hoS hqS hP hD
    have kF7_0 : F7 0 = nI ax := by rw [hfS]; exact kF6_0
    have kF7_5 : F7 5 = nI (ts.1 + 1) := by rw [hfS]; exact kF6_5
    have hsr := pt_srt_c (f := f) (N := N) (md := md) (bf := pt_bf (pt_sm (A6 4) (pt_wx ax lo hi f t ts.2.1))) (bg := pt_bf (fun v => lo v (pt_wx ax lo hi f t ts.2.1) + hi v (pt_wx ax lo hi f t ts.2.1))) (fun v y hv hy => by have h1 := hB1 v _ hv hwx; have h2 := hB1 y _ hy hwx; unfold pt_bf pt_sm; rw [h1.1, h1.2, h2.1, h2.2]) (t - f - 1) ts.2.1 (by omega) (fun i hi => (hT1.2.1 i hi).2)
    rw [hsr.1] at hrS
    have hT2 : pt_XT ax N md (pt_std ax lo hi f t (pt_new lo hi f t d ts)) F7 A7 := pt_XT_row hT1 (by rw [hfS]) hrS hoS
    have hF2 : ∀ j, j ≠ 5 → F7 j = F j := fun j hj => by rw [hfS]; exact hF1 j hj
    have hA2 : ∀ j, j < 7 ∨ 12 < j → A7 j = A j := fun j hj => by rw [hoS j (by omega)]; exact hA1 j hj
    have hB2 : pt_XB ax md lo hi (A7 4) := by rw [hA2 4 (by omega)]; exact hB
    refine lv_iload_n hx hb dX1_makeBlock_94 rfl (lv_at hl 2 rfl) ?_
    refine lv_iload_n hx hb dX1_makeBlock_95 rfl (lv_at hl 3 rfl) ?_
    refine lv_iload_n hx hb dX1_makeBlock_96 rfl (lv_at hl 2 rfl) ?_
    refine lv_isub hx hb dX1_makeBlock_97 ?_
    refine pt_top (y := nI (t - f)) (pk_sub (by omega)) ?_
    refine lv_iconst (v := nI 1) hx hb dX1_makeBlock_98 (by decide) ?_
    refine lv_iadd hx hb dX1_makeBlock_99 ?_
    refine pt_top (y := nI ((t - f) + 1)) (nI_add _ _) ?_
    refine lv_iconst (v := nI 2) hx hb dX1_makeBlock_100 (by decide) ?_
    refine lv_idiv hx hb dX1_makeBlock_101 (by decide) ?_
    refine pt_top (y := nI ((t - f + 1) / 2)) (pk_div (by omega) (by decide) (by decide)) ?_
    refine lv_iadd hx hb dX1_makeBlock_102 ?_
    refine pt_top (y := nI (f + ((t - f + 1) / 2))) (nI_add _ _) ?_
    refine lv_istore (lv' := [(5, .int (nI (f + ((t - f + 1) / 2)))), (4, .int (nI ts.1)), (0, .ref (a 0)), (1, .int (nI f)), (2, .int (nI t)), (3, .int (nI d))]) hx hb dX1_makeBlock_103 hl (by decide) rfl (fun ls hl => ?_)
    refine lv_aload_n hx hb dX1_makeBlock_105 rfl (lv_at hl 2 rfl) ?_
    refine lv_iload_n hx hb dX1_makeBlock_106 rfl (lv_at hl 3 rfl) ?_
    refine lv_iload hx hb dX1_makeBlock_107 (lv_at hl 0 rfl) ?_
    refine lv_iload_n hx hb dX1_makeBlock_109 rfl (lv_at hl 5 rfl) ?_
    refine lv_iconst (v := nI 1) hx hb dX1_makeBlock_110 (by decide) ?_
    refine lv_iadd hx hb dX1_makeBlock_111 ?_
    refine pt_top (y := nI (d + 1)) (nI_add _ _) ?_
    refine pt_callv (wf := (fun u : pt_XS => pt_xw a c u.1 u.2.1 u.2.2)) (va_runV (As := [.int (nI f), .int (nI (f + ((t - f + 1) / 2))), .int (nI (d + 1))]) (rest := []) ⟨hx, hb, hml, hown, hts⟩ (ih hk1 F7 A7 Q7 _ f (f + (t - f + 1) / 2) (d + 1) (pt_std ax lo hi f t (pt_new lo hi f t d ts)) kF7_0 (by omega) (by omega) hN64 hmd hax1 hax (by omega) (by omega) (by show ts.1 + 1 + 2 ^ k ≤ 32; omega) hT2 hB2) (cwV 3 hts gX1_makeBlock_X1_makeBlock rfl rfl rfl (by decide +kernel) ⟨by show 4 + k + 1 ≤ 4 + (k + 1); omega, by show 8 + (6 + 11) + 40 * (4 + k) ≤ 40 * (4 + (k + 1)); omega⟩) (pt_wv1 hP hK hN hD (q0 := 0) rfl) rfl rfl hl.1 rfl (lv_room (Nat.le_of_ble_eq_true rfl)) dX1_makeBlock_112 ⟨Nat.le_of_ble_eq_true rfl, Nat.le_of_ble_eq_true rfl⟩) hD hS hA (fun _ => rfl) (fun u112 H locs hr112 hP hD hS => ?_)
    obtain ⟨F8, A8, Q8⟩ := u112
    obtain ⟨hT3, hfM3, haM3, hqM3⟩ := hr112
    dsimp only at hT3 hfM3 haM3 hqM3 hP hD
    have hF3 : ∀ j, j ≠ 5 → F8 j = F j := fun j hj => (hfM3 j hj).trans (hF2 j hj)
    have hA3 : ∀ j, j < 7 ∨ 12 < j → A8 j = A j := fun j hj => (haM3 j hj).trans (hA2 j hj)
    have kF8_0 : F8 0 = nI ax := (hF3 0 (by decide)).trans h0
    have hm3 := pt_mk_nb (ax := ax) (lo := lo) (hi := hi) k f (f + (t - f + 1) / 2) (d + 1) (pt_std ax lo hi f t (pt_new lo hi f t d ts))
    have hm4 : ((pt_std ax lo hi f t (pt_new lo hi f t d ts))).1 = ts.1 + 1 := rfl
    rw [hm4] at hm3
    refine lv_aload_n hx hb dX1_makeBlock_115 rfl (lv_at hl 2 rfl) ?_
    refine va_get (D := (dC, dI)) (ci := 1) (v := .ref (a 10)) (C := RX1) (T := TX1) (N := 18) hx hb hts iw_c_X1_makeBlock_s_wsX10 hown hK hP 0 rfl rfl 10 (by decide) (hts _ wd_c_X1_makeBlock_s_X1_makeBlock_3) (fun _ h9 => h9) rfl dX1_makeBlock_116 ?_
    refine lv_iload hx hb dX1_makeBlock_119 (lv_at hl 1 rfl) ?_
    refine lv_aload_n hx hb dX1_makeBlock_121 rfl (lv_at hl 2 rfl) ?_
    refine va_get (D := (dC, dI)) (ci := 1) (v := .int (F8 5)) (C := RX1) (T := TX1) (N := 18) hx hb hts iw_c_X1_makeBlock_s_wsX10 hown hK hP 0 rfl rfl 5 (by decide) (hts _ wd_c_X1_makeBlock_s_X1_makeBlock_0) (fun _ h9 => h9) rfl dX1_makeBlock_122 ?_
    refine pt_top (y := nI ((pt_mk ax lo hi k f (f + (t - f + 1) / 2) (d + 1) (pt_std ax lo hi f t (pt_new lo hi f t d ts))).1)) hT3.1 ?_
    obtain ⟨A9, eA9⟩ : ∃ zz, zz = va_up A8 10 (upd (A8 10) ts.1 (nI ((pt_mk ax lo hi k f (f + (t - f + 1) / 2) (d + 1) (pt_std ax lo hi f t (pt_new lo hi f t d ts))).1))) := ⟨_, rfl⟩
    refine pt_iast hx hb hK hP hD hS 7 5 rfl rfl ts.1 rfl (by omega) (by decide) (ws' := (pt_xw a c F8 A9 Q8)) (by rw [eA9]; rfl) dX1_makeBlock_125 (fun H locs hP hD hS => ?_)
    have hT4 : pt_XT ax N md (pt_seto ts.1 (pt_mk ax lo hi k f (f + (t - f + 1) / 2) (d + 1) (pt_std ax lo hi f t (pt_new lo hi f t d ts)))) F8 A9 := pt_XT_seto hT3 (by rw [eA9]; exact pt_up) (fun j hj => by rw [eA9]; exact pt_up_ne hj)
    have hA4 : ∀ j, j < 7 ∨ 12 < j → A9 j = A j := fun j hj => by rw [eA9, pt_up_ne (by omega)]; exact hA3 j hj
    refine lv_aload_n hx hb dX1_makeBlock_126 rfl (lv_at hl 2 rfl) ?_
    refine lv_iload hx hb dX1_makeBlock_127 (lv_at hl 0 rfl) ?_
    refine lv_iload_n hx hb dX1_makeBlock_129 rfl (lv_at hl 4 rfl) ?_
    refine lv_iload_n hx hb dX1_makeBlock_130 rfl (lv_at hl 5 rfl) ?_
    refine lv_iconst (v := nI 1) hx hb dX1_makeBlock_131 (by decide) ?_
    refine lv_iadd hx hb dX1_makeBlock_132 ?_
    refine pt_top (y := nI (d + 1)) (nI_add _ _) ?_
    refine pt_callv (wf := (fun u : pt_XS => pt_xw a c u.1 u.2.1 u.2.2)) (va_runV (As := [.int (nI (f + ((t - f + 1) / 2))), .int (nI t), .int (nI (d + 1))]) (rest := []) ⟨hx, hb, hml, hown, hts⟩ (ih hk1 F8 A9 Q8 _ (f + (t - f + 1) / 2) t (d + 1) (pt_seto ts.1 (pt_mk ax lo hi k f (f + (t - f + 1) / 2) (d + 1) (pt_std ax lo hi f t (pt_new lo hi f t d ts)))) kF8_0 (by omega) htN hN64 hmd hax1 hax (by omega) (by omega) (by show (pt_mk ax lo hi k f (f + (t - f + 1) / 2) (d + 1) (pt_std ax lo hi f t (pt_new lo hi f t d ts))).1 + 2 ^ k ≤ 32; omega) hT4 (by rw [hA4 4 (by omega)]; exact hB)) (cwV 3 hts gX1_makeBlock_X1_makeBlock rfl rfl rfl (by decide +kernel) ⟨by show 4 + k + 1 ≤ 4 + (k + 1); omega, by show 8 + (6 + 11) + 40 * (4 + k) ≤ 40 * (4 + (k + 1)); omega⟩) (pt_wv1 hP hK hN hD (q0 := 0) rfl) rfl rfl hl.1 rfl (lv_room (Nat.le_of_ble_eq_true rfl)) dX1_makeBlock_133 ⟨Nat.le_of_ble_eq_true rfl, Nat.le_of_ble_eq_true rfl⟩) hD hS hA (fun _ => rfl) (fun u133 H locs hr133 hP hD hS => ?_)
    obtain ⟨F10, A10, Q10⟩ := u133
    obtain ⟨hT5, hfM5, haM5, hqM5⟩ := hr133
    dsimp only at hT5 hfM5 haM5 hqM5 hP hD
    have hF5 : ∀ j, j ≠ 5 → F10 j = F j := fun j hj => (hfM5 j hj).trans (hF3 j hj)
    have hA5 : ∀ j, j < 7 ∨ 12 < j → A10 j = A j := fun j hj => (haM5 j hj).trans (hA4 j hj)
    have kF10_0 : F10 0 = nI ax := (hF5 0 (by decide)).trans h0
    exact W.vret hx hb hr (fun zt zh zW => ⟨⟨(F10, A10, Q10), rfl, ⟨by rw [pt_mk_part d78]; exact hT5, hF5, hA5, hqM5.trans (hqM3.trans (hqS.trans hqB))⟩, by show va_P _ _ _ zt.heap; rw [zh]; exact hP⟩, hS.F zh⟩) hS.2.2 dX1_makeBlock_136
  · have d78 : t - f ≤ 4 := Nat.not_lt.mp (fun q => c78 ((nI_ltI (by omega) (by omega)).mpr q))
    exact W.vret hx hb hr (fun zt zh zW => ⟨⟨(F6, A6, Q6), rfl, ⟨by rw [pt_mk_leaf d78]; exact hT1, hF1, hA1, hqB⟩, by show va_P _ _ _ zt.heap; rw [zh]; exact hP⟩, hS.F zh⟩) hS.2.2 dX1_makeBlock_81

theorem c_X1_makeBlock (l : Launch) (dC : Nat → ClassId) (dI : Nat → Nat → Nat) (a : Nat → Nat) (c : Nat → ClassId) (ax N md : Nat) (lo hi : Nat → Nat → Int32) : ∀ k, 1 ≤ k → pt_MB l dC dI a c ax N md lo hi k
  | 0, h => absurd h (by decide)
  | k + 1, _ => fun F A Q sz f t d ts h0 hft htN hN64 hmd hax1 hax hdk hsz2 hnb hT hB => c_X1_makeBlock_s l dC dI a c F A Q sz ax N md lo hi k (c_X1_makeBlock l dC dI a c ax N md lo hi k) f t d ts h0 hft htN hN64 hmd hax1 hax hdk hsz2 hnb hT hB
