/-- the reference: what was found so far -/
def pt_aM (fd : Nat → Prop) (fc : Nat) (F : Nat → Int32) (A : Nat → Nat → Int32) : Prop := F 23 = nI fc ∧ ∀ x, x < 64 → pt_B (A 22 x) (fd x)
theorem pt_aM.c {fd fd' : Nat → Prop} {fc fc' : Nat} {F : Nat → Int32} {A : Nat → Nat → Int32} (h : pt_aM fd fc F A) (e : ∀ x, fd x ↔ fd' x) (ef : fc = fc') : pt_aM fd' fc' F A := by
  subst ef
  exact ⟨h.1, fun x hx => (h.2 x hx).c (e x)⟩
theorem pt_aM.m {fd : Nat → Prop} {fc : Nat} {F F' : Nat → Int32} {A A' : Nat → Nat → Int32} (h : pt_aM fd fc F A) (e : F' 23 = F 23) (ea : A' 22 = A 22) : pt_aM fd fc F' A' := ⟨by rw [e]; exact h.1, fun x hx => by rw [ea]; exact h.2 x hx⟩
theorem pt_aM_mark {fd : Nat → Prop} {fc t : Nat} {F : Nat → Int32} {A : Nat → Nat → Int32} (h : pt_aM fd fc F A) : pt_aM (fun x => fd x ∨ x = t) (fc + 1) (upd F 23 (nI (fc + 1))) (va_up A 22 (upd (A 22) t 1)) := by
  refine ⟨pt_upd, fun x hx => ?_⟩
  rw [pt_up]
  by_cases q : x = t
  · subst q; rw [pt_upd]; exact pt_B.one (Or.inr rfl)
  · rw [pt_upd_ne q]; exact (h.2 x hx).c ⟨Or.inl, fun z => z.elim id (fun z => absurd z q)⟩
theorem pt_aM.no {fd : Nat → Prop} {fc t : Nat} {P : Prop} {F : Nat → Int32} {A : Nat → Nat → Int32} (h : pt_aM fd fc F A) (hP : ¬ P) : pt_aM (fun x => fd x ∨ (x = t ∧ P)) (fc + pt_cb P) F A := h.c (fun _ => ⟨Or.inl, fun q => q.elim id (fun q => absurd q.2 hP)⟩) (by rw [pt_cb_f hP]; rfl)
theorem pt_aM.yes {fd : Nat → Prop} {fc t : Nat} {P : Prop} {F : Nat → Int32} {A : Nat → Nat → Int32} (h : pt_aM (fun x => fd x ∨ x = t) (fc + 1) F A) (hP : P) : pt_aM (fun x => fd x ∨ (x = t ∧ P)) (fc + pt_cb P) F A := h.c (fun _ => ⟨fun q => q.imp id (fun q => ⟨q, hP⟩), fun q => q.imp id (fun q => q.1)⟩) (by rw [pt_cb_t hP])
def pt_mM (ax : Nat) (L G lo hi : Nat → Int32) (f : Nat) : Prop := ∀ q, q < ax → L (f + q) ≤ hi q ∧ lo q ≤ G (f + q)
def pt_wM (ax : Nat) (L G lo hi : Nat → Int32) (f : Nat) : Prop := ∀ q, q < ax → lo q ≤ L (f + q) ∧ G (f + q) ≤ hi q
def pt_hM (ax : Nat) (L G lo hi : Nat → Int32) (f : Nat) : Prop := ∀ q, q < ax → L (f + q) ≤ lo q ∧ hi q ≤ G (f + q)
theorem pt_all_s {p : Nat → Prop} {i : Nat} (h : ∀ q, q < i → p q) (hi : p i) : ∀ q, q < i + 1 → p q := fun q hq => (Nat.lt_succ_iff_lt_or_eq.mp hq).elim (h q) (fun z => by subst z; exact hi)
theorem pt_all_w {p : Nat → Prop} {i : Nat} (h : ∀ q, q < i + 1 → p q) : ∀ q, q < i → p q := fun q hq => h q (Nat.lt_succ_of_lt hq)

theorem wd_c_X2_find_X2_find_0 : Cond.fieldLink RX2 66 "PointTreesModel" "isFound" "[Z" ∈ wsX2_find := by decide +kernel
theorem wd_c_X2_find_X2_find_1 : Cond.fieldLink RX2 80 "PointTreesModel" "foundMany" "I" ∈ wsX2_find := by decide +kernel
theorem iw_c_X2_find_wsX20 : ∀ w ∈ wsX20, w ∈ wsX2_find := fun _ h => List.mem_cons_of_mem _ (List.mem_append_right _ h)
set_option maxHeartbeats 4000000 in
set_option maxRecDepth 100000 in
theorem c_X2_find (l : Launch) (dC : Nat → ClassId) (dI : Nat → Nat → Nat) (a : Nat → Nat) (c : Nat → ClassId) (F : Nat → Int32) (A : Nat → Nat → Int32) (sz : Nat) (t : Nat) (ht : t < 64) (fd : Nat → Prop) (fc : Nat) (hk : pt_aM fd fc F A) : Met l yX2_find wsX2_find (pt_rm 0) (pt_W (dC, dI) vwCl (pt_mt c) (pt_mw a c F A) pt_nw sz [.ref (a 0), .int (nI t)]) (va_Qv (fun (u : pt_MS) => pt_aM (fun x => fd x ∨ x = t) (fc + 1) u.1 u.2 ∧ (∀ j, j ≠ 23 → u.1 j = F j) ∧ ∀ j, j ≠ 22 → u.2 j = A j) (fun u t => va_P (dC, dI) vwCl (pt_mw a c u.1 u.2) t.heap) (va_A (pt_mw a c F A) sz)) 0 0 (va_A (pt_mw a c F A) sz) := by
  refine Met.ofW (cc := cX2_find) (maxL := 2) (ret := none) (by decide) rfl ?_
  intro p e s m args below meth cd s₁ B hml hv
  obtain ⟨rfl, hsz, hP, hK, hN, hD0⟩ := hv
  have hx := B.exec
  have hb := B.bytes
  have hr := B.returns
  have hts := atoms_spec (ws := wsX2_find) B.pre
  have hown : s.vm.findClass RX2 = some m.cls := findClass_of_methodNamed B.named
  have hlocks := B.notSynchronized
  subst hsz
  have hD := hD0.self (sz := s.heap.size)
  generalize hAe : va_A (pt_mw a c F A) s.heap.size = AA at hD ⊢
  have hA : ∀ q : Nat, s.heap.size ≤ q → AA q := fun q h => by rw [← hAe]; exact Or.inr h
  have hS : va_S AA s.heap s.heap [] := va_S.rf
  have hl := lv_entry ([.ref (a 0), .int (nI t)]) (n := 2) (Nat.le_of_ble_eq_true rfl)
  rw [lg_entry_eq]
  generalize (lg_sl ([.ref (a 0), .int (nI t)]) ++ List.replicate (2 - (lg_sl ([.ref (a 0), .int (nI t)])).length) Slot.unset).toArray = ls at hl ⊢
  have hl : lv_has ls 2 [(0, .ref (a 0)), (1, .int (nI t))] := hl
  refine lv_aload_n hx hb dX2_find_0 rfl (lv_at hl 0 rfl) ?_
  refine va_get (D := (dC, dI)) (ci := 2) (v := .ref (a 22)) (C := RX2) (T := TX2) (N := 27) hx hb hts iw_c_X2_find_wsX20 hown hK hP 0 rfl rfl 22 (by decide) (hts _ wd_c_X2_find_X2_find_0) (fun _ h9 => h9) rfl dX2_find_1 ?_
  refine lv_iload_n hx hb dX2_find_4 rfl (lv_at hl 1 rfl) ?_
  refine lv_iconst (v := 1) hx hb dX2_find_5 (by decide) ?_
  obtain ⟨A1, eA1⟩ : ∃ zz, zz = va_up A 22 (upd (A 22) t 1) := ⟨_, rfl⟩
  refine pt_zast hx hb hK hP hD hS 18 17 rfl rfl t rfl (by omega) (by decide) rfl (ws' := (pt_mw a c F A1)) (by rw [eA1]; rfl) dX2_find_6 (fun H locs hP hD hS => ?_)
  refine lv_aload_n hx hb dX2_find_7 rfl (lv_at hl 0 rfl) ?_
  refine lv_dup hx hb dX2_find_8 rfl ?_
  refine va_get (D := (dC, dI)) (ci := 2) (v := .int (F 23)) (C := RX2) (T := TX2) (N := 27) hx hb hts iw_c_X2_find_wsX20 hown hK hP 0 rfl rfl 23 (by decide) (hts _ wd_c_X2_find_X2_find_1) (fun _ h9 => h9) rfl dX2_find_9 ?_
  refine pt_top (y := nI fc) hk.1 ?_
  refine lv_iconst (v := nI 1) hx hb dX2_find_12 (by decide) ?_
  refine lv_iadd hx hb dX2_find_13 ?_
  refine pt_top (y := nI (fc + 1)) (nI_add _ _) ?_
  obtain ⟨F2, eF2⟩ : ∃ zz, zz = upd F 23 (nI (fc + 1)) := ⟨_, rfl⟩
  refine va_put (D := (dC, dI)) (ci := 2) (v := .int (nI (fc + 1))) (ty := .int) (C := RX2) (T := TX2) (N := 27) hx hb hts iw_c_X2_find_wsX20 tyX2 tyX2_ok nmX2 hown hK hP hD hS 0 rfl rfl 23 (by decide) (hts _ wd_c_X2_find_X2_find_1) (fun _ h9 => h9) rfl (by decide +kernel) rfl rfl (Nat.le_of_ble_eq_true rfl) dX2_find_14 (fun H locs hP hD hS => ?_)
  have hP : va_P (dC, dI) vwCl (pt_mw a c F2 A1) H := by rw [eF2]; exact hP
  have hD : va_D AA (pt_mw a c F2 A1) := by rw [eF2]; exact hD
  have kF2_23 : F2 23 = nI (fc + 1) := by rw [eF2, pt_upd]
  exact W.vret hx hb hr (fun zt zh zW => ⟨⟨(F2, A1), rfl, ⟨by show pt_aM _ _ F2 A1; rw [eF2, eA1]; exact pt_aM_mark hk, fun j hj => by show F2 j = F j; rw [eF2]; exact pt_upd_ne hj, fun j hj => by show A1 j = A j; rw [eA1]; exact pt_up_ne hj⟩, by show va_P _ _ _ zt.heap; rw [zh]; exact hP⟩, hS.F zh⟩) hS.2.2 dX2_find_17

theorem wd_c_X2_isSoT_X2_isSo_0 : Cond.fieldLink RX2 7 "PointTreesModel" "axes" "I" ∈ wsX2_isSo := by decide +kernel
theorem wd_c_X2_isSoT_X2_isSo_1 : Cond.fieldLink RX2 60 "PointTreesModel" "low" "[I" ∈ wsX2_isSo := by decide +kernel
theorem wd_c_X2_isSoT_X2_isSo_2 : Cond.fieldLink RX2 63 "PointTreesModel" "high" "[I" ∈ wsX2_isSo := by decide +kernel
theorem iw_c_X2_isSoT_wsX20 : ∀ w ∈ wsX20, w ∈ wsX2_isSo := fun _ h => List.mem_cons_of_mem _ (List.mem_append_right _ h)
set_option maxHeartbeats 4000000 in
set_option maxRecDepth 100000 in
theorem c_X2_isSoT (l : Launch) (dC : Nat → ClassId) (dI : Nat → Nat → Nat) (a : Nat → Nat) (c : Nat → ClassId) (F : Nat → Int32) (A : Nat → Nat → Int32) (ax : Nat) (h1 : F 1 = nI ax) (hax : ax ≤ 3) (rel f : Nat) (hrel : rel ≤ 3) (hf : f + 3 ≤ 192) : Met l yX2_isSo wsX2_isSo (pt_rm 0) (pt_R (dC, dI) vwCl (pt_mt c) (pt_mw a c F A) pt_nw [.ref (a 0), .int (nI rel), .ref (a 4), .ref (a 5), .int (nI f)]) (vp_Si (fun r => pt_B r (pt_so rel (pt_mM ax (A 4) (A 5) (A 20) (A 21) f) (pt_wM ax (A 4) (A 5) (A 20) (A 21) f) (pt_hM ax (A 4) (A 5) (A 20) (A 21) f)))) 0 0 (fun _ => False) := by
  refine Met.ofW (cc := cX2_isSo) (maxL := 9) (ret := (some .boolean)) (by decide) rfl ?_
  intro p e s m args below meth cd s₁ B hml hv
  obtain ⟨rfl, hP, hK, hN⟩ := hv
  have hx := B.exec
  have hb := B.bytes
  have hr := B.returns
  have hts := atoms_spec (ws := wsX2_isSo) B.pre
  have hown : s.vm.findClass RX2 = some m.cls := findClass_of_methodNamed B.named
  have hlocks := B.notSynchronized
  have hl := lv_entry ([.ref (a 0), .int (nI rel), .ref (a 4), .ref (a 5), .int (nI f)]) (n := 9) (Nat.le_of_ble_eq_true rfl)
  rw [lg_entry_eq]
  generalize (lg_sl ([.ref (a 0), .int (nI rel), .ref (a 4), .ref (a 5), .int (nI f)]) ++ List.replicate (9 - (lg_sl ([.ref (a 0), .int (nI rel), .ref (a 4), .ref (a 5), .int (nI f)])).length) Slot.unset).toArray = ls at hl ⊢
  have hl : lv_has ls 9 [(0, .ref (a 0)), (1, .int (nI rel)), (2, .ref (a 4)), (3, .ref (a 5)), (4, .int (nI f))] := hl
  refine lv_iconst (v := 1) hx hb dX2_isSo_0 (by decide) ?_
  refine lv_istore (lv' := [(5, .int 1), (0, .ref (a 0)), (1, .int (nI rel)), (2, .ref (a 4)), (3, .ref (a 5)), (4, .int (nI f))]) hx hb dX2_isSo_1 hl (by decide) rfl (fun ls hl => ?_)
  refine lv_iconst (v := 1) hx hb dX2_isSo_3 (by decide) ?_
  refine lv_istore (lv' := [(6, .int 1), (5, .int 1), (0, .ref (a 0)), (1, .int (nI rel)), (2, .ref (a 4)), (3, .ref (a 5)), (4, .int (nI f))]) hx hb dX2_isSo_4 hl (by decide) rfl (fun ls hl => ?_)
  refine lv_iconst (v := 1) hx hb dX2_isSo_6 (by decide) ?_
  refine lv_istore (lv' := [(7, .int 1), (6, .int 1), (5, .int 1), (0, .ref (a 0)), (1, .int (nI rel)), (2, .ref (a 4)), (3, .ref (a 5)), (4, .int (nI f))]) hx hb dX2_isSo_7 hl (by decide) rfl (fun ls hl => ?_)
  refine lv_iconst (v := nI 0) hx hb dX2_isSo_9 (by decide) ?_
  refine lv_istore (lv' := [(8, .int (nI 0)), (7, .int 1), (6, .int 1), (5, .int 1), (0, .ref (a 0)), (1, .int (nI rel)), (2, .ref (a 4)), (3, .ref (a 5)), (4, .int (nI f))]) hx hb dX2_isSo_10 hl (by decide) rfl (fun ls hl => ?_)
  refine pt_loopR (fun q : Nat × Int32 × Int32 × Int32 => ax - q.1) (fun q ls => q.1 ≤ ax ∧ (pt_B q.2.1 (∀ y9, y9 < q.1 → A 4 (f + y9) ≤ A 21 y9 ∧ A 20 y9 ≤ A 5 (f + y9)) ∧ pt_B q.2.2.1 (∀ y9, y9 < q.1 → A 20 y9 ≤ A 4 (f + y9) ∧ A 5 (f + y9) ≤ A 21 y9) ∧ pt_B q.2.2.2 (∀ y9, y9 < q.1 → A 4 (f + y9) ≤ A 20 y9 ∧ A 21 y9 ≤ A 5 (f + y9))) ∧ lv_has ls 9 [(8, .int (nI q.1)), (7, .int q.2.2.2), (6, .int q.2.2.1), (5, .int q.2.1), (0, .ref (a 0)), (1, .int (nI rel)), (2, .ref (a 4)), (3, .ref (a 5)), (4, .int (nI f))]) ?_ (0, 1, 1, 1) _ ⟨Nat.zero_le _, ⟨pt_B.one (fun q hq => absurd hq (Nat.not_lt_zero _)), pt_B.one (fun q hq => absurd hq (Nat.not_lt_zero _)), pt_B.one (fun q hq => absurd hq (Nat.not_lt_zero _))⟩, hl⟩
  intro ⟨i, b5, b6, b7⟩ ls ⟨hi, ⟨hb5, hb6, hb7⟩, hl⟩ ih
  dsimp only at hi hb5 hb6 hb7 hl ih
  refine lv_iload hx hb dX2_isSo_12 (lv_at hl 0 rfl) ?_
  refine lv_aload_n hx hb dX2_isSo_14 rfl (lv_at hl 4 rfl) ?_
  refine va_get (D := (dC, dI)) (ci := 2) (v := .int (F 1)) (C := RX2) (T := TX2) (N := 27) hx hb hts iw_c_X2_isSoT_wsX20 hown hK hP 0 rfl rfl 1 (by decide) (hts _ wd_c_X2_isSoT_X2_isSo_0) (fun _ h9 => h9) rfl dX2_isSo_15 ?_
  refine pt_top (y := nI ax) h1 ?_
  refine lv_icmp_ge (tgt := 165) hx hb dX2_isSo_18 (by decide) (fun c18 => ?_) (fun c18 => ?_)
  · have hie : i = ax := by have := (nI_leI (by omega) (by omega)).mp c18; omega
    subst hie
    refine lv_iload_n hx hb dX2_isSo_165 rfl (lv_at hl 5 rfl) ?_
    refine lv_if_ne (tgt := 174) hx hb dX2_isSo_166 (by decide) (fun c166 => ?_) (fun c166 => ?_)
    · have d166 : ¬ rel = 0 := fun q => c166 (by rw [q]; rfl)
      refine lv_iload_n hx hb dX2_isSo_174 rfl (lv_at hl 5 rfl) ?_
      refine lv_iconst (v := nI 1) hx hb dX2_isSo_175 (by decide) ?_
      refine lv_icmp_ne (tgt := 184) hx hb dX2_isSo_176 (by decide) (fun c176 => ?_) (fun c176 => ?_)
      · have d176 : ¬ rel = 1 := fun q => c176 (by rw [q])
        refine lv_iload_n hx hb dX2_isSo_184 rfl (lv_at hl 5 rfl) ?_
        refine lv_iconst (v := nI 2) hx hb dX2_isSo_185 (by decide) ?_
        refine lv_icmp_ne (tgt := 194) hx hb dX2_isSo_186 (by decide) (fun c186 => ?_) (fun c186 => ?_)
        · have d186 : ¬ rel = 2 := fun q => c186 (by rw [q])
          obtain rfl : rel = 3 := by omega
          refine lv_iload hx hb dX2_isSo_194 (lv_at hl 3 rfl) ?_
          refine lv_if_ne (tgt := 203) hx hb dX2_isSo_196 (by decide) (fun c196 => ?_) (fun c196 => ?_)
          · refine lv_iconst (v := 0) hx hb dX2_isSo_203 (by decide) ?_
            exact W.zret (v := 0) hx hb hr rfl (fun zt zh zW => ⟨_, rfl, (pt_B.zero (fun q => q (hb5.t c196))), zh⟩) (fun q h => by cases h) dX2_isSo_204
          · refine lv_iconst (v := 1) hx hb dX2_isSo_199 (by decide) ?_
            refine lv_goto (tgt := 204) hx hb dX2_isSo_200 (by decide) ?_
            exact W.zret (v := 1) hx hb hr rfl (fun zt zh zW => ⟨_, rfl, (pt_B.one (hb5.f c196)), zh⟩) (fun q h => by cases h) dX2_isSo_204
        · have d186 : rel = 2 := (nI_eq (by omega) (by omega)).mp c186
          subst d186
          refine lv_iload hx hb dX2_isSo_189 (lv_at hl 1 rfl) ?_
          refine lv_goto (tgt := 204) hx hb dX2_isSo_191 (by decide) ?_
          exact W.zret (v := b7) hx hb hr hb7.nar (fun zt zh zW => ⟨_, rfl, hb7, zh⟩) (fun q h => by cases h) dX2_isSo_204
      · have d176 : rel = 1 := (nI_eq (by omega) (by omega)).mp c176
        subst d176
        refine lv_iload hx hb dX2_isSo_179 (lv_at hl 2 rfl) ?_
        refine lv_goto (tgt := 204) hx hb dX2_isSo_181 (by decide) ?_
        exact W.zret (v := b6) hx hb hr hb6.nar (fun zt zh zW => ⟨_, rfl, hb6, zh⟩) (fun q h => by cases h) dX2_isSo_204
    · have d166 : rel = 0 := (nI_eq (b := 0) (by omega) (by omega)).mp c166
      subst d166
      refine lv_iload hx hb dX2_isSo_169 (lv_at hl 3 rfl) ?_
      refine lv_goto (tgt := 204) hx hb dX2_isSo_171 (by decide) ?_
      exact W.zret (v := b5) hx hb hr hb5.nar (fun zt zh zW => ⟨_, rfl, hb5, zh⟩) (fun q h => by cases h) dX2_isSo_204
  · have hlt : i < ax := Nat.not_le.mp (fun q => c18 ((nI_leI (by omega) (by omega)).mpr q))
    refine pt_cut 65 (fun v => pt_B v (∀ q, q < (i + 1) → A 4 (f + q) ≤ A 21 q ∧ A 20 q ≤ A 5 (f + q))) (rest := []) (fun v21 hv21 => ?_) (fun J21 => ?_)
    · refine lv_istore (lv' := [(5, .int v21), (8, .int (nI i)), (7, .int b7), (6, .int b6), (0, .ref (a 0)), (1, .int (nI rel)), (2, .ref (a 4)), (3, .ref (a 5)), (4, .int (nI f))]) hx hb dX2_isSo_65 hl (by decide) rfl (fun ls hl => ?_)
      refine pt_cut 111 (fun v => pt_B v (∀ q, q < (i + 1) → A 20 q ≤ A 4 (f + q) ∧ A 5 (f + q) ≤ A 21 q)) (rest := []) (fun v67 hv67 => ?_) (fun J67 => ?_)
      · refine lv_istore (lv' := [(6, .int v67), (5, .int v21), (8, .int (nI i)), (7, .int b7), (0, .ref (a 0)), (1, .int (nI rel)), (2, .ref (a 4)), (3, .ref (a 5)), (4, .int (nI f))]) hx hb dX2_isSo_111 hl (by decide) rfl (fun ls hl => ?_)
        refine pt_cut 157 (fun v => pt_B v (∀ q, q < (i + 1) → A 4 (f + q) ≤ A 20 q ∧ A 21 q ≤ A 5 (f + q))) (rest := []) (fun v113 hv113 => ?_) (fun J113 => ?_)
        · refine lv_istore (lv' := [(7, .int v113), (6, .int v67), (5, .int v21), (8, .int (nI i)), (0, .ref (a 0)), (1, .int (nI rel)), (2, .ref (a 4)), (3, .ref (a 5)), (4, .int (nI f))]) hx hb dX2_isSo_157 hl (by decide) rfl (fun ls hl => ?_)
          refine lv_iinc (v := nI (i + 1)) (lv' := [(8, .int (nI (i + 1))), (7, .int v113), (6, .int v67), (5, .int v21), (0, .ref (a 0)), (1, .int (nI rel)), (2, .ref (a 4)), (3, .ref (a 5)), (4, .int (nI f))]) hx hb dX2_isSo_159 hl (k := 3) rfl (nI_1 _) (by decide) rfl (fun ls hl => ?_)
          refine lv_goto (tgt := 12) hx hb dX2_isSo_162 (by decide) ?_
          exact ih (i + 1, v21, v67, v113) _ ⟨by show i + 1 ≤ ax; omega, ⟨hv21, hv67, hv113⟩, lv_sub hl [0, 1, 2, 3, 4, 5, 6, 7, 8] rfl⟩ (by show ax - (i + 1) < ax - i; omega)
        · refine lv_iload hx hb dX2_isSo_113 (lv_at hl 3 rfl) ?_
          refine lv_if_eq (tgt := 156) hx hb dX2_isSo_115 (by decide) (fun c115 => ?_) (fun c115 => ?_)
          · refine lv_iconst (v := 0) hx hb dX2_isSo_156 (by decide) ?_
            exact J113 _ (pt_B.zero (fun q => by first | exact Int32.not_le.mpr c149 (q i (Nat.lt_succ_self i)).2 | exact Int32.not_le.mpr c132 (q i (Nat.lt_succ_self i)).1 | exact hb7.f c115 (pt_all_w q)))
          · refine lv_aload_n hx hb dX2_isSo_118 rfl (lv_at hl 6 rfl) ?_
            refine lv_iload hx hb dX2_isSo_119 (lv_at hl 8 rfl) ?_
            refine lv_iload hx hb dX2_isSo_121 (lv_at hl 2 rfl) ?_
            refine lv_iadd hx hb dX2_isSo_123 ?_
            refine pt_top (y := nI (f + i)) (nI_add _ _) ?_
            refine pt_iald hx hb hK hP 2 1 rfl rfl (f + i) rfl (by omega) (by decide) dX2_isSo_124 ?_
            refine lv_aload_n hx hb dX2_isSo_125 rfl (lv_at hl 4 rfl) ?_
            refine va_get (D := (dC, dI)) (ci := 2) (v := .ref (a 20)) (C := RX2) (T := TX2) (N := 27) hx hb hts iw_c_X2_isSoT_wsX20 hown hK hP 0 rfl rfl 20 (by decide) (hts _ wd_c_X2_isSoT_X2_isSo_1) (fun _ h9 => h9) rfl dX2_isSo_126 ?_
            refine lv_iload hx hb dX2_isSo_129 (lv_at hl 2 rfl) ?_
            refine pt_iald hx hb hK hP 16 15 rfl rfl i rfl (by omega) (by decide) dX2_isSo_131 ?_
            refine lv_icmp_gt (tgt := 156) hx hb dX2_isSo_132 (by decide) (fun c132 => ?_) (fun c132 => ?_)
            · refine lv_iconst (v := 0) hx hb dX2_isSo_156 (by decide) ?_
              exact J113 _ (pt_B.zero (fun q => by first | exact Int32.not_le.mpr c149 (q i (Nat.lt_succ_self i)).2 | exact Int32.not_le.mpr c132 (q i (Nat.lt_succ_self i)).1 | exact hb7.f c115 (pt_all_w q)))
            · refine lv_aload_n hx hb dX2_isSo_135 rfl (lv_at hl 7 rfl) ?_
              refine lv_iload hx hb dX2_isSo_136 (lv_at hl 8 rfl) ?_
              refine lv_iload hx hb dX2_isSo_138 (lv_at hl 2 rfl) ?_
              refine lv_iadd hx hb dX2_isSo_140 ?_
              refine pt_top (y := nI (f + i)) (nI_add _ _) ?_
              refine pt_iald hx hb hK hP 3 2 rfl rfl (f + i) rfl (by omega) (by decide) dX2_isSo_141 ?_
              refine lv_aload_n hx hb dX2_isSo_142 rfl (lv_at hl 4 rfl) ?_
              refine va_get (D := (dC, dI)) (ci := 2) (v := .ref (a 21)) (C := RX2) (T := TX2) (N := 27) hx hb hts iw_c_X2_isSoT_wsX20 hown hK hP 0 rfl rfl 21 (by decide) (hts _ wd_c_X2_isSoT_X2_isSo_2) (fun _ h9 => h9) rfl dX2_isSo_143 ?_
              refine lv_iload hx hb dX2_isSo_146 (lv_at hl 2 rfl) ?_
              refine pt_iald hx hb hK hP 17 16 rfl rfl i rfl (by omega) (by decide) dX2_isSo_148 ?_
              refine lv_icmp_lt (tgt := 156) hx hb dX2_isSo_149 (by decide) (fun c149 => ?_) (fun c149 => ?_)
              · refine lv_iconst (v := 0) hx hb dX2_isSo_156 (by decide) ?_
                exact J113 _ (pt_B.zero (fun q => by first | exact Int32.not_le.mpr c149 (q i (Nat.lt_succ_self i)).2 | exact Int32.not_le.mpr c132 (q i (Nat.lt_succ_self i)).1 | exact hb7.f c115 (pt_all_w q)))
              · refine lv_iconst (v := 1) hx hb dX2_isSo_152 (by decide) ?_
                refine lv_goto (tgt := 157) hx hb dX2_isSo_153 (by decide) ?_
                exact J113 _ (pt_B.one (pt_all_s (hb7.t c115) ⟨Int32.not_lt.mp c132, Int32.not_lt.mp c149⟩))
      · refine lv_iload hx hb dX2_isSo_67 (lv_at hl 3 rfl) ?_
        refine lv_if_eq (tgt := 110) hx hb dX2_isSo_69 (by decide) (fun c69 => ?_) (fun c69 => ?_)
        · refine lv_iconst (v := 0) hx hb dX2_isSo_110 (by decide) ?_
          exact J67 _ (pt_B.zero (fun q => by first | exact Int32.not_le.mpr c103 (q i (Nat.lt_succ_self i)).2 | exact Int32.not_le.mpr c86 (q i (Nat.lt_succ_self i)).1 | exact hb6.f c69 (pt_all_w q)))
        · refine lv_aload_n hx hb dX2_isSo_72 rfl (lv_at hl 6 rfl) ?_
          refine lv_iload hx hb dX2_isSo_73 (lv_at hl 8 rfl) ?_
          refine lv_iload hx hb dX2_isSo_75 (lv_at hl 1 rfl) ?_
          refine lv_iadd hx hb dX2_isSo_77 ?_
          refine pt_top (y := nI (f + i)) (nI_add _ _) ?_
          refine pt_iald hx hb hK hP 2 1 rfl rfl (f + i) rfl (by omega) (by decide) dX2_isSo_78 ?_
          refine lv_aload_n hx hb dX2_isSo_79 rfl (lv_at hl 4 rfl) ?_
          refine va_get (D := (dC, dI)) (ci := 2) (v := .ref (a 20)) (C := RX2) (T := TX2) (N := 27) hx hb hts iw_c_X2_isSoT_wsX20 hown hK hP 0 rfl rfl 20 (by decide) (hts _ wd_c_X2_isSoT_X2_isSo_1) (fun _ h9 => h9) rfl dX2_isSo_80 ?_
          refine lv_iload hx hb dX2_isSo_83 (lv_at hl 1 rfl) ?_
          refine pt_iald hx hb hK hP 16 15 rfl rfl i rfl (by omega) (by decide) dX2_isSo_85 ?_
          refine lv_icmp_lt (tgt := 110) hx hb dX2_isSo_86 (by decide) (fun c86 => ?_) (fun c86 => ?_)
          · refine lv_iconst (v := 0) hx hb dX2_isSo_110 (by decide) ?_
            exact J67 _ (pt_B.zero (fun q => by first | exact Int32.not_le.mpr c103 (q i (Nat.lt_succ_self i)).2 | exact Int32.not_le.mpr c86 (q i (Nat.lt_succ_self i)).1 | exact hb6.f c69 (pt_all_w q)))
          · refine lv_aload_n hx hb dX2_isSo_89 rfl (lv_at hl 7 rfl) ?_
            refine lv_iload hx hb dX2_isSo_90 (lv_at hl 8 rfl) ?_
            refine lv_iload hx hb dX2_isSo_92 (lv_at hl 1 rfl) ?_
            refine lv_iadd hx hb dX2_isSo_94 ?_
            refine pt_top (y := nI (f + i)) (nI_add _ _) ?_
            refine pt_iald hx hb hK hP 3 2 rfl rfl (f + i) rfl (by omega) (by decide) dX2_isSo_95 ?_
            refine lv_aload_n hx hb dX2_isSo_96 rfl (lv_at hl 4 rfl) ?_
            refine va_get (D := (dC, dI)) (ci := 2) (v := .ref (a 21)) (C := RX2) (T := TX2) (N := 27) hx hb hts iw_c_X2_isSoT_wsX20 hown hK hP 0 rfl rfl 21 (by decide) (hts _ wd_c_X2_isSoT_X2_isSo_2) (fun _ h9 => h9) rfl dX2_isSo_97 ?_
            refine lv_iload hx hb dX2_isSo_100 (lv_at hl 1 rfl) ?_
            refine pt_iald hx hb hK hP 17 16 rfl rfl i rfl (by omega) (by decide) dX2_isSo_102 ?_
            refine lv_icmp_gt (tgt := 110) hx hb dX2_isSo_103 (by decide) (fun c103 => ?_) (fun c103 => ?_)
            · refine lv_iconst (v := 0) hx hb dX2_isSo_110 (by decide) ?_
              exact J67 _ (pt_B.zero (fun q => by first | exact Int32.not_le.mpr c103 (q i (Nat.lt_succ_self i)).2 | exact Int32.not_le.mpr c86 (q i (Nat.lt_succ_self i)).1 | exact hb6.f c69 (pt_all_w q)))
            · refine lv_iconst (v := 1) hx hb dX2_isSo_106 (by decide) ?_
              refine lv_goto (tgt := 111) hx hb dX2_isSo_107 (by decide) ?_
              exact J67 _ (pt_B.one (pt_all_s (hb6.t c69) ⟨Int32.not_lt.mp c86, Int32.not_lt.mp c103⟩))
    · refine lv_iload hx hb dX2_isSo_21 (lv_at hl 3 rfl) ?_
      refine lv_if_eq (tgt := 64) hx hb dX2_isSo_23 (by decide) (fun c23 => ?_) (fun c23 => ?_)
      · refine lv_iconst (v := 0) hx hb dX2_isSo_64 (by decide) ?_
        exact J21 _ (pt_B.zero (fun q => by first | exact Int32.not_le.mpr c57 (q i (Nat.lt_succ_self i)).2 | exact Int32.not_le.mpr c40 (q i (Nat.lt_succ_self i)).1 | exact hb5.f c23 (pt_all_w q)))
      · refine lv_aload_n hx hb dX2_isSo_26 rfl (lv_at hl 6 rfl) ?_
        refine lv_iload hx hb dX2_isSo_27 (lv_at hl 8 rfl) ?_
        refine lv_iload hx hb dX2_isSo_29 (lv_at hl 0 rfl) ?_
        refine lv_iadd hx hb dX2_isSo_31 ?_
        refine pt_top (y := nI (f + i)) (nI_add _ _) ?_
        refine pt_iald hx hb hK hP 2 1 rfl rfl (f + i) rfl (by omega) (by decide) dX2_isSo_32 ?_
        refine lv_aload_n hx hb dX2_isSo_33 rfl (lv_at hl 4 rfl) ?_
        refine va_get (D := (dC, dI)) (ci := 2) (v := .ref (a 21)) (C := RX2) (T := TX2) (N := 27) hx hb hts iw_c_X2_isSoT_wsX20 hown hK hP 0 rfl rfl 21 (by decide) (hts _ wd_c_X2_isSoT_X2_isSo_2) (fun _ h9 => h9) rfl dX2_isSo_34 ?_
        refine lv_iload hx hb dX2_isSo_37 (lv_at hl 0 rfl) ?_
        refine pt_iald hx hb hK hP 17 16 rfl rfl i rfl (by omega) (by decide) dX2_isSo_39 ?_
        refine lv_icmp_gt (tgt := 64) hx hb dX2_isSo_40 (by decide) (fun c40 => ?_) (fun c40 => ?_)
        · refine lv_iconst (v := 0) hx hb dX2_isSo_64 (by decide) ?_
          exact J21 _ (pt_B.zero (fun q => by first | exact Int32.not_le.mpr c57 (q i (Nat.lt_succ_self i)).2 | exact Int32.not_le.mpr c40 (q i (Nat.lt_succ_self i)).1 | exact hb5.f c23 (pt_all_w q)))
        · refine lv_aload_n hx hb dX2_isSo_43 rfl (lv_at hl 7 rfl) ?_
          refine lv_iload hx hb dX2_isSo_44 (lv_at hl 8 rfl) ?_
          refine lv_iload hx hb dX2_isSo_46 (lv_at hl 0 rfl) ?_
          refine lv_iadd hx hb dX2_isSo_48 ?_
          refine pt_top (y := nI (f + i)) (nI_add _ _) ?_
          refine pt_iald hx hb hK hP 3 2 rfl rfl (f + i) rfl (by omega) (by decide) dX2_isSo_49 ?_
          refine lv_aload_n hx hb dX2_isSo_50 rfl (lv_at hl 4 rfl) ?_
          refine va_get (D := (dC, dI)) (ci := 2) (v := .ref (a 20)) (C := RX2) (T := TX2) (N := 27) hx hb hts iw_c_X2_isSoT_wsX20 hown hK hP 0 rfl rfl 20 (by decide) (hts _ wd_c_X2_isSoT_X2_isSo_1) (fun _ h9 => h9) rfl dX2_isSo_51 ?_
          refine lv_iload hx hb dX2_isSo_54 (lv_at hl 0 rfl) ?_
          refine pt_iald hx hb hK hP 16 15 rfl rfl i rfl (by omega) (by decide) dX2_isSo_56 ?_
          refine lv_icmp_lt (tgt := 64) hx hb dX2_isSo_57 (by decide) (fun c57 => ?_) (fun c57 => ?_)
          · refine lv_iconst (v := 0) hx hb dX2_isSo_64 (by decide) ?_
            exact J21 _ (pt_B.zero (fun q => by first | exact Int32.not_le.mpr c57 (q i (Nat.lt_succ_self i)).2 | exact Int32.not_le.mpr c40 (q i (Nat.lt_succ_self i)).1 | exact hb5.f c23 (pt_all_w q)))
          · refine lv_iconst (v := 1) hx hb dX2_isSo_60 (by decide) ?_
            refine lv_goto (tgt := 65) hx hb dX2_isSo_61 (by decide) ?_
            exact J21 _ (pt_B.one (pt_all_s (hb5.t c23) ⟨Int32.not_lt.mp c40, Int32.not_lt.mp c57⟩))

theorem wd_c_X2_isSoB_X2_isSo_0 : Cond.fieldLink RX2 7 "PointTreesModel" "axes" "I" ∈ wsX2_isSo := by decide +kernel
theorem wd_c_X2_isSoB_X2_isSo_1 : Cond.fieldLink RX2 60 "PointTreesModel" "low" "[I" ∈ wsX2_isSo := by decide +kernel
theorem wd_c_X2_isSoB_X2_isSo_2 : Cond.fieldLink RX2 63 "PointTreesModel" "high" "[I" ∈ wsX2_isSo := by decide +kernel
theorem iw_c_X2_isSoB_wsX20 : ∀ w ∈ wsX20, w ∈ wsX2_isSo := fun _ h => List.mem_cons_of_mem _ (List.mem_append_right _ h)
set_option maxHeartbeats 4000000 in
set_option maxRecDepth 100000 in
theorem c_X2_isSoB (l : Launch) (dC : Nat → ClassId) (dI : Nat → Nat → Nat) (a : Nat → Nat) (c : Nat → ClassId) (F : Nat → Int32) (A : Nat → Nat → Int32) (ax : Nat) (h1 : F 1 = nI ax) (hax : ax ≤ 3) (rel f : Nat) (hrel : rel ≤ 3) (hf : f + 3 ≤ 192) : Met l yX2_isSo wsX2_isSo (pt_rm 0) (pt_R (dC, dI) vwCl (pt_mt c) (pt_mw a c F A) pt_nw [.ref (a 0), .int (nI rel), .ref (a 13), .ref (a 14), .int (nI f)]) (vp_Si (fun r => pt_B r (pt_so rel (pt_mM ax (A 13) (A 14) (A 20) (A 21) f) (pt_wM ax (A 13) (A 14) (A 20) (A 21) f) (pt_hM ax (A 13) (A 14) (A 20) (A 21) f)))) 0 0 (fun _ => False) := by
  refine Met.ofW (cc := cX2_isSo) (maxL := 9) (ret := (some .boolean)) (by decide) rfl ?_
  intro p e s m args below meth cd s₁ B hml hv
  obtain ⟨rfl, hP, hK, hN⟩ := hv
  have hx := B.exec
  have hb := B.bytes
  have hr := B.returns
  have hts := atoms_spec (ws := wsX2_isSo) B.pre
  have hown : s.vm.findClass RX2 = some m.cls := findClass_of_methodNamed B.named
  have hlocks := B.notSynchronized
  have hl := lv_entry ([.ref (a 0), .int (nI rel), .ref (a 13), .ref (a 14), .int (nI f)]) (n := 9) (Nat.le_of_ble_eq_true rfl)
  rw [lg_entry_eq]
  generalize (lg_sl ([.ref (a 0), .int (nI rel), .ref (a 13), .ref (a 14), .int (nI f)]) ++ List.replicate (9 - (lg_sl ([.ref (a 0), .int (nI rel), .ref (a 13), .ref (a 14), .int (nI f)])).length) Slot.unset).toArray = ls at hl ⊢
  have hl : lv_has ls 9 [(0, .ref (a 0)), (1, .int (nI rel)), (2, .ref (a 13)), (3, .ref (a 14)), (4, .int (nI f))] := hl
  refine lv_iconst (v := 1) hx hb dX2_isSo_0 (by decide) ?_
  refine lv_istore (lv' := [(5, .int 1), (0, .ref (a 0)), (1, .int (nI rel)), (2, .ref (a 13)), (3, .ref (a 14)), (4, .int (nI f))]) hx hb dX2_isSo_1 hl (by decide) rfl (fun ls hl => ?_)
  refine lv_iconst (v := 1) hx hb dX2_isSo_3 (by decide) ?_
  refine lv_istore (lv' := [(6, .int 1), (5, .int 1), (0, .ref (a 0)), (1, .int (nI rel)), (2, .ref (a 13)), (3, .ref (a 14)), (4, .int (nI f))]) hx hb dX2_isSo_4 hl (by decide) rfl (fun ls hl => ?_)
  refine lv_iconst (v := 1) hx hb dX2_isSo_6 (by decide) ?_
  refine lv_istore (lv' := [(7, .int 1), (6, .int 1), (5, .int 1), (0, .ref (a 0)), (1, .int (nI rel)), (2, .ref (a 13)), (3, .ref (a 14)), (4, .int (nI f))]) hx hb dX2_isSo_7 hl (by decide) rfl (fun ls hl => ?_)
  refine lv_iconst (v := nI 0) hx hb dX2_isSo_9 (by decide) ?_
  refine lv_istore (lv' := [(8, .int (nI 0)), (7, .int 1), (6, .int 1), (5, .int 1), (0, .ref (a 0)), (1, .int (nI rel)), (2, .ref (a 13)), (3, .ref (a 14)), (4, .int (nI f))]) hx hb dX2_isSo_10 hl (by decide) rfl (fun ls hl => ?_)
  refine pt_loopR (fun q : Nat × Int32 × Int32 × Int32 => ax - q.1) (fun q ls => q.1 ≤ ax ∧ (pt_B q.2.1 (∀ y9, y9 < q.1 → A 13 (f + y9) ≤ A 21 y9 ∧ A 20 y9 ≤ A 14 (f + y9)) ∧ pt_B q.2.2.1 (∀ y9, y9 < q.1 → A 20 y9 ≤ A 13 (f + y9) ∧ A 14 (f + y9) ≤ A 21 y9) ∧ pt_B q.2.2.2 (∀ y9, y9 < q.1 → A 13 (f + y9) ≤ A 20 y9 ∧ A 21 y9 ≤ A 14 (f + y9))) ∧ lv_has ls 9 [(8, .int (nI q.1)), (7, .int q.2.2.2), (6, .int q.2.2.1), (5, .int q.2.1), (0, .ref (a 0)), (1, .int (nI rel)), (2, .ref (a 13)), (3, .ref (a 14)), (4, .int (nI f))]) ?_ (0, 1, 1, 1) _ ⟨Nat.zero_le _, ⟨pt_B.one (fun q hq => absurd hq (Nat.not_lt_zero _)), pt_B.one (fun q hq => absurd hq (Nat.not_lt_zero _)), pt_B.one (fun q hq => absurd hq (Nat.not_lt_zero _))⟩, hl⟩
  intro ⟨i, b5, b6, b7⟩ ls ⟨hi, ⟨hb5, hb6, hb7⟩, hl⟩ ih
  dsimp only at hi hb5 hb6 hb7 hl ih
  refine lv_iload hx hb dX2_isSo_12 (lv_at hl 0 rfl) ?_
  refine lv_aload_n hx hb dX2_isSo_14 rfl (lv_at hl 4 rfl) ?_
  refine va_get (D := (dC, dI)) (ci := 2) (v := .int (F 1)) (C := RX2) (T := TX2) (N := 27) hx hb hts iw_c_X2_isSoB_wsX20 hown hK hP 0 rfl rfl 1 (by decide) (hts _ wd_c_X2_isSoB_X2_isSo_0) (fun _ h9 => h9) rfl dX2_isSo_15 ?_
  refine pt_top (y := nI ax) h1 ?_
  refine lv_icmp_ge (tgt := 165) hx hb dX2_isSo_18 (by decide) (fun c18 => ?_) (fun c18 => ?_)
  · have hie : i = ax := by have := (nI_leI (by omega) (by omega)).mp c18; omega
    subst hie
    refine lv_iload_n hx hb dX2_isSo_165 rfl (lv_at hl 5 rfl) ?_
    refine lv_if_ne (tgt := 174) hx hb dX2_isSo_166 (by decide) (fun c166 => ?_) (fun c166 => ?_)
    · have d166 : ¬ rel = 0 := fun q => c166 (by rw [q]; rfl)
      refine lv_iload_n hx hb dX2_isSo_174 rfl (lv_at hl 5 rfl) ?_
      refine lv_iconst (v := nI 1) hx hb dX2_isSo_175 (by decide) ?_
      refine lv_icmp_ne (tgt := 184) hx hb dX2_isSo_176 (by decide) (fun c176 => ?_) (fun c176 => ?_)
      · have d176 : ¬ rel = 1 := fun q => c176 (by rw [q])
        refine lv_iload_n hx hb dX2_isSo_184 rfl (lv_at hl 5 rfl) ?_
        refine lv_iconst (v := nI 2) hx hb dX2_isSo_185 (by decide) ?_
        refine lv_icmp_ne (tgt := 194) hx hb dX2_isSo_186 (by decide) (fun c186 => ?_) (fun c186 => ?_)
        · have d186 : ¬ rel = 2 := fun q => c186 (by rw [q])
          obtain rfl : rel = 3 := by omega
          refine lv_iload hx hb dX2_isSo_194 (lv_at hl 3 rfl) ?_
          refine lv_if_ne (tgt := 203) hx hb dX2_isSo_196 (by decide) (fun c196 => ?_) (fun c196 => ?_)
          · refine lv_iconst (v := 0) hx hb dX2_isSo_203 (by decide) ?_
            exact W.zret (v := 0) hx hb hr rfl (fun zt zh zW => ⟨_, rfl, (pt_B.zero (fun q => q (hb5.t c196))), zh⟩) (fun q h => by cases h) dX2_isSo_204
          · refine lv_iconst (v := 1) hx hb dX2_isSo_199 (by decide) ?_
            refine lv_goto (tgt := 204) hx hb dX2_isSo_200 (by decide) ?_
            exact W.zret (v := 1) hx hb hr rfl (fun zt zh zW => ⟨_, rfl, (pt_B.one (hb5.f c196)), zh⟩) (fun q h => by cases h) dX2_isSo_204
        · have d186 : rel = 2 := (nI_eq (by omega) (by omega)).mp c186
          subst d186
          refine lv_iload hx hb dX2_isSo_189 (lv_at hl 1 rfl) ?_
          refine lv_goto (tgt := 204) hx hb dX2_isSo_191 (by decide) ?_
          exact W.zret (v := b7) hx hb hr hb7.nar (fun zt zh zW => ⟨_, rfl, hb7, zh⟩) (fun q h => by cases h) dX2_isSo_204
      · have d176 : rel = 1 := (nI_eq (by omega) (by omega)).mp c176
        subst d176
        refine lv_iload hx hb dX2_isSo_179 (lv_at hl 2 rfl) ?_
        refine lv_goto (tgt := 204) hx hb dX2_isSo_181 (by decide) ?_
        exact W.zret (v := b6) hx hb hr hb6.nar (fun zt zh zW => ⟨_, rfl, hb6, zh⟩) (fun q h => by cases h) dX2_isSo_204
    · have d166 : rel = 0 := (nI_eq (b := 0) (by omega) (by omega)).mp c166
      subst d166
      refine lv_iload hx hb dX2_isSo_169 (lv_at hl 3 rfl) ?_
      refine lv_goto (tgt := 204) hx hb dX2_isSo_171 (by decide) ?_
      exact W.zret (v := b5) hx hb hr hb5.nar (fun zt zh zW => ⟨_, rfl, hb5, zh⟩) (fun q h => by cases h) dX2_isSo_204
  · have hlt : i < ax := Nat.not_le.mp (fun q => c18 ((nI_leI (by omega) (by omega)).mpr q))
    refine pt_cut 65 (fun v => pt_B v (∀ q, q < (i + 1) → A 13 (f + q) ≤ A 21 q ∧ A 20 q ≤ A 14 (f + q))) (rest := []) (fun v21 hv21 => ?_) (fun J21 => ?_)
    · refine lv_istore (lv' := [(5, .int v21), (8, .int (nI i)), (7, .int b7), (6, .int b6), (0, .ref (a 0)), (1, .int (nI rel)), (2, .ref (a 13)), (3, .ref (a 14)), (4, .int (nI f))]) hx hb dX2_isSo_65 hl (by decide) rfl (fun ls hl => ?_)
      refine pt_cut 111 (fun v => pt_B v (∀ q, q < (i + 1) → A 20 q ≤ A 13 (f + q) ∧ A 14 (f + q) ≤ A 21 q)) (rest := []) (fun v67 hv67 => ?_) (fun J67 => ?_)
      · refine lv_istore (lv' := [(6, .int v67), (5, .int v21), (8, .int (nI i)), (7, .int b7), (0, .ref (a 0)), (1, .int (nI rel)), (2, .ref (a 13)), (3, .ref (a 14)), (4, .int (nI f))]) hx hb dX2_isSo_111 hl (by decide) rfl (fun ls hl => ?_)
        refine pt_cut 157 (fun v => pt_B v (∀ q, q < (i + 1) → A 13 (f + q) ≤ A 20 q ∧ A 21 q ≤ A 14 (f + q))) (rest := []) (fun v113 hv113 => ?_) (fun J113 => ?_)
        · refine lv_istore (lv' := [(7, .int v113), (6, .int v67), (5, .int v21), (8, .int (nI i)), (0, .ref (a 0)), (1, .int (nI rel)), (2, .ref (a 13)), (3, .ref (a 14)), (4, .int (nI f))]) hx hb dX2_isSo_157 hl (by decide) rfl (fun ls hl => ?_)
          refine lv_iinc (v := nI (i + 1)) (lv' := [(8, .int (nI (i + 1))), (7, .int v113), (6, .int v67), (5, .int v21), (0, .ref (a 0)), (1, .int (nI rel)), (2, .ref (a 13)), (3, .ref (a 14)), (4, .int (nI f))]) hx hb dX2_isSo_159 hl (k := 3) rfl (nI_1 _) (by decide) rfl (fun ls hl => ?_)
          refine lv_goto (tgt := 12) hx hb dX2_isSo_162 (by decide) ?_
          exact ih (i + 1, v21, v67, v113) _ ⟨by show i + 1 ≤ ax; omega, ⟨hv21, hv67, hv113⟩, lv_sub hl [0, 1, 2, 3, 4, 5, 6, 7, 8] rfl⟩ (by show ax - (i + 1) < ax - i; omega)
        · refine lv_iload hx hb dX2_isSo_113 (lv_at hl 3 rfl) ?_
          refine lv_if_eq (tgt := 156) hx hb dX2_isSo_115 (by decide) (fun c115 => ?_) (fun c115 => ?_)
          · refine lv_iconst (v := 0) hx hb dX2_isSo_156 (by decide) ?_
            exact J113 _ (pt_B.zero (fun q => by first | exact Int32.not_le.mpr c149 (q i (Nat.lt_succ_self i)).2 | exact Int32.not_le.mpr c132 (q i (Nat.lt_succ_self i)).1 | exact hb7.f c115 (pt_all_w q)))
          · refine lv_aload_n hx hb dX2_isSo_118 rfl (lv_at hl 6 rfl) ?_
            refine lv_iload hx hb dX2_isSo_119 (lv_at hl 8 rfl) ?_
            refine lv_iload hx hb dX2_isSo_121 (lv_at hl 2 rfl) ?_
            refine lv_iadd hx hb dX2_isSo_123 ?_
            refine pt_top (y := nI (f + i)) (nI_add _ _) ?_
            refine pt_iald hx hb hK hP 10 9 rfl rfl (f + i) rfl (by omega) (by decide) dX2_isSo_124 ?_
            refine lv_aload_n hx hb dX2_isSo_125 rfl (lv_at hl 4 rfl) ?_
            refine va_get (D := (dC, dI)) (ci := 2) (v := .ref (a 20)) (C := RX2) (T := TX2) (N := 27) hx hb hts iw_c_X2_isSoB_wsX20 hown hK hP 0 rfl rfl 20 (by decide) (hts _ wd_c_X2_isSoB_X2_isSo_1) (fun _ h9 => h9) rfl dX2_isSo_126 ?_
            refine lv_iload hx hb dX2_isSo_129 (lv_at hl 2 rfl) ?_
            refine pt_iald hx hb hK hP 16 15 rfl rfl i rfl (by omega) (by decide) dX2_isSo_131 ?_
            refine lv_icmp_gt (tgt := 156) hx hb dX2_isSo_132 (by decide) (fun c132 => ?_) (fun c132 => ?_)
            · refine lv_iconst (v := 0) hx hb dX2_isSo_156 (by decide) ?_
              exact J113 _ (pt_B.zero (fun q => by first | exact Int32.not_le.mpr c149 (q i (Nat.lt_succ_self i)).2 | exact Int32.not_le.mpr c132 (q i (Nat.lt_succ_self i)).1 | exact hb7.f c115 (pt_all_w q)))
            · refine lv_aload_n hx hb dX2_isSo_135 rfl (lv_at hl 7 rfl) ?_
              refine lv_iload hx hb dX2_isSo_136 (lv_at hl 8 rfl) ?_
              refine lv_iload hx hb dX2_isSo_138 (lv_at hl 2 rfl) ?_
              refine lv_iadd hx hb dX2_isSo_140 ?_
              refine pt_top (y := nI (f + i)) (nI_add _ _) ?_
              refine pt_iald hx hb hK hP 11 10 rfl rfl (f + i) rfl (by omega) (by decide) dX2_isSo_141 ?_
              refine lv_aload_n hx hb dX2_isSo_142 rfl (lv_at hl 4 rfl) ?_
              refine va_get (D := (dC, dI)) (ci := 2) (v := .ref (a 21)) (C := RX2) (T := TX2) (N := 27) hx hb hts iw_c_X2_isSoB_wsX20 hown hK hP 0 rfl rfl 21 (by decide) (hts _ wd_c_X2_isSoB_X2_isSo_2) (fun _ h9 => h9) rfl dX2_isSo_143 ?_
              refine lv_iload hx hb dX2_isSo_146 (lv_at hl 2 rfl) ?_
              refine pt_iald hx hb hK hP 17 16 rfl rfl i rfl (by omega) (by decide) dX2_isSo_148 ?_
              refine lv_icmp_lt (tgt := 156) hx hb dX2_isSo_149 (by decide) (fun c149 => ?_) (fun c149 => ?_)
              · refine lv_iconst (v := 0) hx hb dX2_isSo_156 (by decide) ?_
                exact J113 _ (pt_B.zero (fun q => by first | exact Int32.not_le.mpr c149 (q i (Nat.lt_succ_self i)).2 | exact Int32.not_le.mpr c132 (q i (Nat.lt_succ_self i)).1 | exact hb7.f c115 (pt_all_w q)))
              · refine lv_iconst (v := 1) hx hb dX2_isSo_152 (by decide) ?_
                refine lv_goto (tgt := 157) hx hb dX2_isSo_153 (by decide) ?_
                exact J113 _ (pt_B.one (pt_all_s (hb7.t c115) ⟨Int32.not_lt.mp c132, Int32.not_lt.mp c149⟩))
      · refine lv_iload hx hb dX2_isSo_67 (lv_at hl 3 rfl) ?_
        refine lv_if_eq (tgt := 110) hx hb dX2_isSo_69 (by decide) (fun c69 => ?_) (fun c69 => ?_)
        · refine lv_iconst (v := 0) hx hb dX2_isSo_110 (by decide) ?_
          exact J67 _ (pt_B.zero (fun q => by first | exact Int32.not_le.mpr c103 (q i (Nat.lt_succ_self i)).2 | exact Int32.not_le.mpr c86 (q i (Nat.lt_succ_self i)).1 | exact hb6.f c69 (pt_all_w q)))
        · refine lv_aload_n hx hb dX2_isSo_72 rfl (lv_at hl 6 rfl) ?_
          refine lv_iload hx hb dX2_isSo_73 (lv_at hl 8 rfl) ?_
          refine lv_iload hx hb dX2_isSo_75 (lv_at hl 1 rfl) ?_
          refine lv_iadd hx hb dX2_isSo_77 ?_
          refine pt_top (y := nI (f + i)) (nI_add _ _) ?_
          refine pt_iald hx hb hK hP 10 9 rfl rfl (f + i) rfl (by omega) (by decide) dX2_isSo_78 ?_
          refine lv_aload_n hx hb dX2_isSo_79 rfl (lv_at hl 4 rfl) ?_
          refine va_get (D := (dC, dI)) (ci := 2) (v := .ref (a 20)) (C := RX2) (T := TX2) (N := 27) hx hb hts iw_c_X2_isSoB_wsX20 hown hK hP 0 rfl rfl 20 (by decide) (hts _ wd_c_X2_isSoB_X2_isSo_1) (fun _ h9 => h9) rfl dX2_isSo_80 ?_
          refine lv_iload hx hb dX2_isSo_83 (lv_at hl 1 rfl) ?_
          refine pt_iald hx hb hK hP 16 15 rfl rfl i rfl (by omega) (by decide) dX2_isSo_85 ?_
          refine lv_icmp_lt (tgt := 110) hx hb dX2_isSo_86 (by decide) (fun c86 => ?_) (fun c86 => ?_)
          · refine lv_iconst (v := 0) hx hb dX2_isSo_110 (by decide) ?_
            exact J67 _ (pt_B.zero (fun q => by first | exact Int32.not_le.mpr c103 (q i (Nat.lt_succ_self i)).2 | exact Int32.not_le.mpr c86 (q i (Nat.lt_succ_self i)).1 | exact hb6.f c69 (pt_all_w q)))
          · refine lv_aload_n hx hb dX2_isSo_89 rfl (lv_at hl 7 rfl) ?_
            refine lv_iload hx hb dX2_isSo_90 (lv_at hl 8 rfl) ?_
            refine lv_iload hx hb dX2_isSo_92 (lv_at hl 1 rfl) ?_
            refine lv_iadd hx hb dX2_isSo_94 ?_
            refine pt_top (y := nI (f + i)) (nI_add _ _) ?_
            refine pt_iald hx hb hK hP 11 10 rfl rfl (f + i) rfl (by omega) (by decide) dX2_isSo_95 ?_
            refine lv_aload_n hx hb dX2_isSo_96 rfl (lv_at hl 4 rfl) ?_
            refine va_get (D := (dC, dI)) (ci := 2) (v := .ref (a 21)) (C := RX2) (T := TX2) (N := 27) hx hb hts iw_c_X2_isSoB_wsX20 hown hK hP 0 rfl rfl 21 (by decide) (hts _ wd_c_X2_isSoB_X2_isSo_2) (fun _ h9 => h9) rfl dX2_isSo_97 ?_
            refine lv_iload hx hb dX2_isSo_100 (lv_at hl 1 rfl) ?_
            refine pt_iald hx hb hK hP 17 16 rfl rfl i rfl (by omega) (by decide) dX2_isSo_102 ?_
            refine lv_icmp_gt (tgt := 110) hx hb dX2_isSo_103 (by decide) (fun c103 => ?_) (fun c103 => ?_)
            · refine lv_iconst (v := 0) hx hb dX2_isSo_110 (by decide) ?_
              exact J67 _ (pt_B.zero (fun q => by first | exact Int32.not_le.mpr c103 (q i (Nat.lt_succ_self i)).2 | exact Int32.not_le.mpr c86 (q i (Nat.lt_succ_self i)).1 | exact hb6.f c69 (pt_all_w q)))
            · refine lv_iconst (v := 1) hx hb dX2_isSo_106 (by decide) ?_
              refine lv_goto (tgt := 111) hx hb dX2_isSo_107 (by decide) ?_
              exact J67 _ (pt_B.one (pt_all_s (hb6.t c69) ⟨Int32.not_lt.mp c86, Int32.not_lt.mp c103⟩))
    · refine lv_iload hx hb dX2_isSo_21 (lv_at hl 3 rfl) ?_
      refine lv_if_eq (tgt := 64) hx hb dX2_isSo_23 (by decide) (fun c23 => ?_) (fun c23 => ?_)
      · refine lv_iconst (v := 0) hx hb dX2_isSo_64 (by decide) ?_
        exact J21 _ (pt_B.zero (fun q => by first | exact Int32.not_le.mpr c57 (q i (Nat.lt_succ_self i)).2 | exact Int32.not_le.mpr c40 (q i (Nat.lt_succ_self i)).1 | exact hb5.f c23 (pt_all_w q)))
      · refine lv_aload_n hx hb dX2_isSo_26 rfl (lv_at hl 6 rfl) ?_
        refine lv_iload hx hb dX2_isSo_27 (lv_at hl 8 rfl) ?_
        refine lv_iload hx hb dX2_isSo_29 (lv_at hl 0 rfl) ?_
        refine lv_iadd hx hb dX2_isSo_31 ?_
        refine pt_top (y := nI (f + i)) (nI_add _ _) ?_
        refine pt_iald hx hb hK hP 10 9 rfl rfl (f + i) rfl (by omega) (by decide) dX2_isSo_32 ?_
        refine lv_aload_n hx hb dX2_isSo_33 rfl (lv_at hl 4 rfl) ?_
        refine va_get (D := (dC, dI)) (ci := 2) (v := .ref (a 21)) (C := RX2) (T := TX2) (N := 27) hx hb hts iw_c_X2_isSoB_wsX20 hown hK hP 0 rfl rfl 21 (by decide) (hts _ wd_c_X2_isSoB_X2_isSo_2) (fun _ h9 => h9) rfl dX2_isSo_34 ?_
        refine lv_iload hx hb dX2_isSo_37 (lv_at hl 0 rfl) ?_
        refine pt_iald hx hb hK hP 17 16 rfl rfl i rfl (by omega) (by decide) dX2_isSo_39 ?_
        refine lv_icmp_gt (tgt := 64) hx hb dX2_isSo_40 (by decide) (fun c40 => ?_) (fun c40 => ?_)
        · refine lv_iconst (v := 0) hx hb dX2_isSo_64 (by decide) ?_
          exact J21 _ (pt_B.zero (fun q => by first | exact Int32.not_le.mpr c57 (q i (Nat.lt_succ_self i)).2 | exact Int32.not_le.mpr c40 (q i (Nat.lt_succ_self i)).1 | exact hb5.f c23 (pt_all_w q)))
        · refine lv_aload_n hx hb dX2_isSo_43 rfl (lv_at hl 7 rfl) ?_
          refine lv_iload hx hb dX2_isSo_44 (lv_at hl 8 rfl) ?_
          refine lv_iload hx hb dX2_isSo_46 (lv_at hl 0 rfl) ?_
          refine lv_iadd hx hb dX2_isSo_48 ?_
          refine pt_top (y := nI (f + i)) (nI_add _ _) ?_
          refine pt_iald hx hb hK hP 11 10 rfl rfl (f + i) rfl (by omega) (by decide) dX2_isSo_49 ?_
          refine lv_aload_n hx hb dX2_isSo_50 rfl (lv_at hl 4 rfl) ?_
          refine va_get (D := (dC, dI)) (ci := 2) (v := .ref (a 20)) (C := RX2) (T := TX2) (N := 27) hx hb hts iw_c_X2_isSoB_wsX20 hown hK hP 0 rfl rfl 20 (by decide) (hts _ wd_c_X2_isSoB_X2_isSo_1) (fun _ h9 => h9) rfl dX2_isSo_51 ?_
          refine lv_iload hx hb dX2_isSo_54 (lv_at hl 0 rfl) ?_
          refine pt_iald hx hb hK hP 16 15 rfl rfl i rfl (by omega) (by decide) dX2_isSo_56 ?_
          refine lv_icmp_lt (tgt := 64) hx hb dX2_isSo_57 (by decide) (fun c57 => ?_) (fun c57 => ?_)
          · refine lv_iconst (v := 0) hx hb dX2_isSo_64 (by decide) ?_
            exact J21 _ (pt_B.zero (fun q => by first | exact Int32.not_le.mpr c57 (q i (Nat.lt_succ_self i)).2 | exact Int32.not_le.mpr c40 (q i (Nat.lt_succ_self i)).1 | exact hb5.f c23 (pt_all_w q)))
          · refine lv_iconst (v := 1) hx hb dX2_isSo_60 (by decide) ?_
            refine lv_goto (tgt := 65) hx hb dX2_isSo_61 (by decide) ?_
            exact J21 _ (pt_B.one (pt_all_s (hb5.t c23) ⟨Int32.not_lt.mp c40, Int32.not_lt.mp c57⟩))

/-- what tellsOf answers: -1 where a block isn't settled -/
def pt_vI (n : Nat) : Int32 := if n = 2 then -1 else nI n

theorem wd_c_X2_tellsOf_X2_tellsOf_0 : Cond.fieldLink RX2 42 "PointTreesModel" "leasts" "[I" ∈ wsX2_tellsOf := by decide +kernel
theorem wd_c_X2_tellsOf_X2_tellsOf_1 : Cond.fieldLink RX2 45 "PointTreesModel" "greatests" "[I" ∈ wsX2_tellsOf := by decide +kernel
theorem iw_c_X2_tellsOf_wsX20 : ∀ w ∈ wsX20, w ∈ wsX2_tellsOf := fun _ h => List.mem_cons_of_mem _ (List.mem_append_right _ h)
set_option maxHeartbeats 4000000 in
set_option maxRecDepth 100000 in
theorem c_X2_tellsOf (l : Launch) (dC : Nat → ClassId) (dI : Nat → Nat → Nat) (a : Nat → Nat) (c : Nat → ClassId) (F : Nat → Int32) (A : Nat → Nat → Int32) (ax : Nat) (h1 : F 1 = nI ax) (hax : ax ≤ 3) (rel b : Nat) (hrel : rel ≤ 3) (hb1 : b < 64) : Met l yX2_tellsOf wsX2_tellsOf (pt_rm 1) (pt_R (dC, dI) vwCl (pt_mt c) (pt_mw a c F A) pt_nw [.ref (a 0), .int (nI rel), .int (nI b)]) (vp_Si (fun r => r = pt_vI (pt_vd rel (pt_mM ax (A 13) (A 14) (A 20) (A 21) (3 * b)) (pt_wM ax (A 13) (A 14) (A 20) (A 21) (3 * b)) (pt_hM ax (A 13) (A 14) (A 20) (A 21) (3 * b))))) 0 0 (fun _ => False) := by
  refine Met.ofW (cc := cX2_tellsOf) (maxL := 5) (ret := (some .int)) (by decide) rfl ?_
  intro p e s m args below meth cd s₁ B hml hv
  obtain ⟨rfl, hP, hK, hN⟩ := hv
  have hx := B.exec
  have hb := B.bytes
  have hr := B.returns
  have hts := atoms_spec (ws := wsX2_tellsOf) B.pre
  have hown : s.vm.findClass RX2 = some m.cls := findClass_of_methodNamed B.named
  have hlocks := B.notSynchronized
  have hl := lv_entry ([.ref (a 0), .int (nI rel), .int (nI b)]) (n := 5) (Nat.le_of_ble_eq_true rfl)
  rw [lg_entry_eq]
  generalize (lg_sl ([.ref (a 0), .int (nI rel), .int (nI b)]) ++ List.replicate (5 - (lg_sl ([.ref (a 0), .int (nI rel), .int (nI b)])).length) Slot.unset).toArray = ls at hl ⊢
  have hl : lv_has ls 5 [(0, .ref (a 0)), (1, .int (nI rel)), (2, .int (nI b))] := hl
  refine lv_iload_n hx hb dX2_tellsOf_0 rfl (lv_at hl 1 rfl) ?_
  refine lv_iconst (v := nI 2) hx hb dX2_tellsOf_1 (by decide) ?_
  refine lv_icmp_ne (tgt := 30) hx hb dX2_tellsOf_2 (by decide) (fun c2 => ?_) (fun c2 => ?_)
  · have d2 : ¬ rel = 2 := fun q => c2 (by rw [q])
    refine lv_aload_n hx hb dX2_tellsOf_30 rfl (lv_at hl 0 rfl) ?_
    refine lv_iconst (v := nI 3) hx hb dX2_tellsOf_31 (by decide) ?_
    refine lv_aload_n hx hb dX2_tellsOf_32 rfl (lv_at hl 0 rfl) ?_
    refine va_get (D := (dC, dI)) (ci := 2) (v := .ref (a 13)) (C := RX2) (T := TX2) (N := 27) hx hb hts iw_c_X2_tellsOf_wsX20 hown hK hP 0 rfl rfl 13 (by decide) (hts _ wd_c_X2_tellsOf_X2_tellsOf_0) (fun _ h9 => h9) rfl dX2_tellsOf_33 ?_
    refine lv_aload_n hx hb dX2_tellsOf_36 rfl (lv_at hl 0 rfl) ?_
    refine va_get (D := (dC, dI)) (ci := 2) (v := .ref (a 14)) (C := RX2) (T := TX2) (N := 27) hx hb hts iw_c_X2_tellsOf_wsX20 hown hK hP 0 rfl rfl 14 (by decide) (hts _ wd_c_X2_tellsOf_X2_tellsOf_1) (fun _ h9 => h9) rfl dX2_tellsOf_37 ?_
    refine lv_iconst (v := nI 3) hx hb dX2_tellsOf_40 (by decide) ?_
    refine lv_iload_n hx hb dX2_tellsOf_41 rfl (lv_at hl 2 rfl) ?_
    refine lv_imul hx hb dX2_tellsOf_42 ?_
    refine pt_top (y := nI (3 * b)) (pk_mul _ _) ?_
    refine pt_rdi (va_runV (As := [.int (nI 3), .ref (a 13), .ref (a 14), .int (nI (3 * b))]) (rest := []) ⟨hx, hb, hml, hown, hts⟩ (c_X2_isSoB l dC dI a c F A ax h1 hax 3 (3 * b) (by decide) (by omega)) (cwV 4 hts gX2_tellsOf_X2_isSo rfl rfl rfl (by decide +kernel) ⟨Nat.le_of_ble_eq_true rfl, Nat.le_of_ble_eq_true rfl⟩) (pt_pv2 hP hK hN (q0 := 0) rfl) rfl rfl hl.1 rfl (lv_room (Nat.le_of_ble_eq_true rfl)) dX2_tellsOf_43 ⟨Nat.le_of_ble_eq_true rfl, Nat.le_of_ble_eq_true rfl⟩) (fun r43 hr43 => ?_)
    refine lv_istore_n (lv' := [(3, .int r43), (0, .ref (a 0)), (1, .int (nI rel)), (2, .int (nI b))]) hx hb dX2_tellsOf_46 rfl hl (by decide) rfl (fun ls hl => ?_)
    refine lv_aload_n hx hb dX2_tellsOf_47 rfl (lv_at hl 1 rfl) ?_
    refine lv_iconst (v := nI 1) hx hb dX2_tellsOf_48 (by decide) ?_
    refine lv_aload_n hx hb dX2_tellsOf_49 rfl (lv_at hl 1 rfl) ?_
    refine va_get (D := (dC, dI)) (ci := 2) (v := .ref (a 13)) (C := RX2) (T := TX2) (N := 27) hx hb hts iw_c_X2_tellsOf_wsX20 hown hK hP 0 rfl rfl 13 (by decide) (hts _ wd_c_X2_tellsOf_X2_tellsOf_0) (fun _ h9 => h9) rfl dX2_tellsOf_50 ?_
    refine lv_aload_n hx hb dX2_tellsOf_53 rfl (lv_at hl 1 rfl) ?_
    refine va_get (D := (dC, dI)) (ci := 2) (v := .ref (a 14)) (C := RX2) (T := TX2) (N := 27) hx hb hts iw_c_X2_tellsOf_wsX20 hown hK hP 0 rfl rfl 14 (by decide) (hts _ wd_c_X2_tellsOf_X2_tellsOf_1) (fun _ h9 => h9) rfl dX2_tellsOf_54 ?_
    refine lv_iconst (v := nI 3) hx hb dX2_tellsOf_57 (by decide) ?_
    refine lv_iload_n hx hb dX2_tellsOf_58 rfl (lv_at hl 3 rfl) ?_
    refine lv_imul hx hb dX2_tellsOf_59 ?_
    refine pt_top (y := nI (3 * b)) (pk_mul _ _) ?_
    refine pt_rdi (va_runV (As := [.int (nI 1), .ref (a 13), .ref (a 14), .int (nI (3 * b))]) (rest := []) ⟨hx, hb, hml, hown, hts⟩ (c_X2_isSoB l dC dI a c F A ax h1 hax 1 (3 * b) (by decide) (by omega)) (cwV 4 hts gX2_tellsOf_X2_isSo rfl rfl rfl (by decide +kernel) ⟨Nat.le_of_ble_eq_true rfl, Nat.le_of_ble_eq_true rfl⟩) (pt_pv2 hP hK hN (q0 := 0) rfl) rfl rfl hl.1 rfl (lv_room (Nat.le_of_ble_eq_true rfl)) dX2_tellsOf_60 ⟨Nat.le_of_ble_eq_true rfl, Nat.le_of_ble_eq_true rfl⟩) (fun r60 hr60 => ?_)
    refine lv_istore (lv' := [(4, .int r60), (3, .int r43), (0, .ref (a 0)), (1, .int (nI rel)), (2, .int (nI b))]) hx hb dX2_tellsOf_63 hl (by decide) rfl (fun ls hl => ?_)
    refine lv_iload_n hx hb dX2_tellsOf_65 rfl (lv_at hl 3 rfl) ?_
    refine lv_iconst (v := nI 3) hx hb dX2_tellsOf_66 (by decide) ?_
    refine lv_icmp_ne (tgt := 89) hx hb dX2_tellsOf_67 (by decide) (fun c67 => ?_) (fun c67 => ?_)
    · have d67 : ¬ rel = 3 := fun q => c67 (by rw [q])
      refine lv_iload_n hx hb dX2_tellsOf_89 rfl (lv_at hl 1 rfl) ?_
      refine lv_if_eq (tgt := 97) hx hb dX2_tellsOf_90 (by decide) (fun c90 => ?_) (fun c90 => ?_)
      · have dm : (pt_mM ax (A 13) (A 14) (A 20) (A 21) (3 * b)) := Classical.not_not.mp (hr43.f c90)
        refine lv_iload hx hb dX2_tellsOf_97 (lv_at hl 0 rfl) ?_
        refine lv_if_eq (tgt := 106) hx hb dX2_tellsOf_99 (by decide) (fun c99 => ?_) (fun c99 => ?_)
        · have dw : ¬ (pt_wM ax (A 13) (A 14) (A 20) (A 21) (3 * b)) := hr60.f c99
          refine lv_iconst (v := (-1)) hx hb dX2_tellsOf_106 (by decide) ?_
          exact W.iret (v := (-1)) hx hb hr (fun zt zh zW => ⟨_, rfl, (by unfold pt_vd; first | (rw [if_neg d2, pt_if_f dm, if_neg d67]; rfl) | (rw [if_neg d2, pt_if_t dm, pt_if_t dw, if_neg d67]; rfl) | (rw [if_neg d2, pt_if_t dm, pt_if_f dw]; rfl)), zh⟩) (fun q h => by cases h) dX2_tellsOf_107
        · have dw : (pt_wM ax (A 13) (A 14) (A 20) (A 21) (3 * b)) := hr60.t c99
          refine lv_iconst (v := nI 1) hx hb dX2_tellsOf_102 (by decide) ?_
          refine lv_goto (tgt := 107) hx hb dX2_tellsOf_103 (by decide) ?_
          exact W.iret (v := nI 1) hx hb hr (fun zt zh zW => ⟨_, rfl, (by unfold pt_vd; first | (rw [if_neg d2, pt_if_f dm, if_neg d67]; rfl) | (rw [if_neg d2, pt_if_t dm, pt_if_t dw, if_neg d67]; rfl) | (rw [if_neg d2, pt_if_t dm, pt_if_f dw]; rfl)), zh⟩) (fun q h => by cases h) dX2_tellsOf_107
      · have dm : ¬ (pt_mM ax (A 13) (A 14) (A 20) (A 21) (3 * b)) := hr43.t c90
        refine lv_iconst (v := nI 0) hx hb dX2_tellsOf_93 (by decide) ?_
        refine lv_goto (tgt := 107) hx hb dX2_tellsOf_94 (by decide) ?_
        exact W.iret (v := nI 0) hx hb hr (fun zt zh zW => ⟨_, rfl, (by unfold pt_vd; first | (rw [if_neg d2, pt_if_f dm, if_neg d67]; rfl) | (rw [if_neg d2, pt_if_t dm, pt_if_t dw, if_neg d67]; rfl) | (rw [if_neg d2, pt_if_t dm, pt_if_f dw]; rfl)), zh⟩) (fun q h => by cases h) dX2_tellsOf_107
    · have d67 : rel = 3 := (nI_eq (by omega) (by omega)).mp c67
      refine lv_iload_n hx hb dX2_tellsOf_70 rfl (lv_at hl 1 rfl) ?_
      refine lv_if_eq (tgt := 78) hx hb dX2_tellsOf_71 (by decide) (fun c71 => ?_) (fun c71 => ?_)
      · have dm : (pt_mM ax (A 13) (A 14) (A 20) (A 21) (3 * b)) := Classical.not_not.mp (hr43.f c71)
        refine lv_iload hx hb dX2_tellsOf_78 (lv_at hl 0 rfl) ?_
        refine lv_if_eq (tgt := 87) hx hb dX2_tellsOf_80 (by decide) (fun c80 => ?_) (fun c80 => ?_)
        · have dw : ¬ (pt_wM ax (A 13) (A 14) (A 20) (A 21) (3 * b)) := hr60.f c80
          refine lv_iconst (v := (-1)) hx hb dX2_tellsOf_87 (by decide) ?_
          exact W.iret (v := (-1)) hx hb hr (fun zt zh zW => ⟨_, rfl, (by unfold pt_vd; first | (rw [if_neg d2, pt_if_f dm, if_pos d67]; rfl) | (rw [if_neg d2, pt_if_t dm, pt_if_t dw, if_pos d67]; rfl) | (rw [if_neg d2, pt_if_t dm, pt_if_f dw]; rfl)), zh⟩) (fun q h => by cases h) dX2_tellsOf_88
        · have dw : (pt_wM ax (A 13) (A 14) (A 20) (A 21) (3 * b)) := hr60.t c80
          refine lv_iconst (v := nI 0) hx hb dX2_tellsOf_83 (by decide) ?_
          refine lv_goto (tgt := 88) hx hb dX2_tellsOf_84 (by decide) ?_
          exact W.iret (v := nI 0) hx hb hr (fun zt zh zW => ⟨_, rfl, (by unfold pt_vd; first | (rw [if_neg d2, pt_if_f dm, if_pos d67]; rfl) | (rw [if_neg d2, pt_if_t dm, pt_if_t dw, if_pos d67]; rfl) | (rw [if_neg d2, pt_if_t dm, pt_if_f dw]; rfl)), zh⟩) (fun q h => by cases h) dX2_tellsOf_88
      · have dm : ¬ (pt_mM ax (A 13) (A 14) (A 20) (A 21) (3 * b)) := hr43.t c71
        refine lv_iconst (v := nI 1) hx hb dX2_tellsOf_74 (by decide) ?_
        refine lv_goto (tgt := 88) hx hb dX2_tellsOf_75 (by decide) ?_
        exact W.iret (v := nI 1) hx hb hr (fun zt zh zW => ⟨_, rfl, (by unfold pt_vd; first | (rw [if_neg d2, pt_if_f dm, if_pos d67]; rfl) | (rw [if_neg d2, pt_if_t dm, pt_if_t dw, if_pos d67]; rfl) | (rw [if_neg d2, pt_if_t dm, pt_if_f dw]; rfl)), zh⟩) (fun q h => by cases h) dX2_tellsOf_88
  · have d2 : rel = 2 := (nI_eq (by omega) (by omega)).mp c2
    refine lv_aload_n hx hb dX2_tellsOf_5 rfl (lv_at hl 0 rfl) ?_
    refine lv_iconst (v := nI 2) hx hb dX2_tellsOf_6 (by decide) ?_
    refine lv_aload_n hx hb dX2_tellsOf_7 rfl (lv_at hl 0 rfl) ?_
    refine va_get (D := (dC, dI)) (ci := 2) (v := .ref (a 13)) (C := RX2) (T := TX2) (N := 27) hx hb hts iw_c_X2_tellsOf_wsX20 hown hK hP 0 rfl rfl 13 (by decide) (hts _ wd_c_X2_tellsOf_X2_tellsOf_0) (fun _ h9 => h9) rfl dX2_tellsOf_8 ?_
    refine lv_aload_n hx hb dX2_tellsOf_11 rfl (lv_at hl 0 rfl) ?_
    refine va_get (D := (dC, dI)) (ci := 2) (v := .ref (a 14)) (C := RX2) (T := TX2) (N := 27) hx hb hts iw_c_X2_tellsOf_wsX20 hown hK hP 0 rfl rfl 14 (by decide) (hts _ wd_c_X2_tellsOf_X2_tellsOf_1) (fun _ h9 => h9) rfl dX2_tellsOf_12 ?_
    refine lv_iconst (v := nI 3) hx hb dX2_tellsOf_15 (by decide) ?_
    refine lv_iload_n hx hb dX2_tellsOf_16 rfl (lv_at hl 2 rfl) ?_
    refine lv_imul hx hb dX2_tellsOf_17 ?_
    refine pt_top (y := nI (3 * b)) (pk_mul _ _) ?_
    refine pt_rdi (va_runV (As := [.int (nI 2), .ref (a 13), .ref (a 14), .int (nI (3 * b))]) (rest := []) ⟨hx, hb, hml, hown, hts⟩ (c_X2_isSoB l dC dI a c F A ax h1 hax 2 (3 * b) (by decide) (by omega)) (cwV 4 hts gX2_tellsOf_X2_isSo rfl rfl rfl (by decide +kernel) ⟨Nat.le_of_ble_eq_true rfl, Nat.le_of_ble_eq_true rfl⟩) (pt_pv2 hP hK hN (q0 := 0) rfl) rfl rfl hl.1 rfl (lv_room (Nat.le_of_ble_eq_true rfl)) dX2_tellsOf_18 ⟨Nat.le_of_ble_eq_true rfl, Nat.le_of_ble_eq_true rfl⟩) (fun r18 hr18 => ?_)
    refine lv_if_eq (tgt := 28) hx hb dX2_tellsOf_21 (by decide) (fun c21 => ?_) (fun c21 => ?_)
    · have d21 : ¬ (pt_hM ax (A 13) (A 14) (A 20) (A 21) (3 * b)) := hr18.f c21
      refine lv_iconst (v := nI 0) hx hb dX2_tellsOf_28 (by decide) ?_
      exact W.iret (v := nI 0) hx hb hr (fun zt zh zW => ⟨_, rfl, (by unfold pt_vd; first | (rw [if_pos d2, pt_if_t d21]; rfl) | (rw [if_pos d2, pt_if_f d21]; rfl)), zh⟩) (fun q h => by cases h) dX2_tellsOf_29
    · have d21 : (pt_hM ax (A 13) (A 14) (A 20) (A 21) (3 * b)) := hr18.t c21
      refine lv_iconst (v := (-1)) hx hb dX2_tellsOf_24 (by decide) ?_
      refine lv_goto (tgt := 29) hx hb dX2_tellsOf_25 (by decide) ?_
      exact W.iret (v := (-1)) hx hb hr (fun zt zh zW => ⟨_, rfl, (by unfold pt_vd; first | (rw [if_pos d2, pt_if_t d21]; rfl) | (rw [if_pos d2, pt_if_f d21]; rfl)), zh⟩) (fun q h => by cases h) dX2_tellsOf_29
