section PTCUT
variable {p : Program} {l : Launch} {e : Env} {R : Room} {s : State} {m : MethodId} {args : Array Value} {below : List Frame} {meth : Method} {c : Code} {H : Heap} {locs : List Loc} {cells slots : Nat} {Q : State → Prop} {pc : Nat} {ls : Array Slot} {st rest : List Value}
theorem pt_cut (pc2 : Nat) (I : Int32 → Prop) (J : ∀ v : Int32, I v → W p l e R s m args below meth c H locs cells slots Q (F0 m pc2 ls (.int v :: rest))) (K : (∀ v : Int32, I v → W p l e R s m args below meth c H locs cells slots Q (F0 m pc2 ls (.int v :: rest))) → W p l e R s m args below meth c H locs cells slots Q (F0 m pc ls st)) : W p l e R s m args below meth c H locs cells slots Q (F0 m pc ls st) := K J
theorem pt_cutL (pc2 : Nat) (I : Int64 → Prop) (J : ∀ v : Int64, I v → W p l e R s m args below meth c H locs cells slots Q (F0 m pc2 ls (.long v :: rest))) (K : (∀ v : Int64, I v → W p l e R s m args below meth c H locs cells slots Q (F0 m pc2 ls (.long v :: rest))) → W p l e R s m args below meth c H locs cells slots Q (F0 m pc ls st)) : W p l e R s m args below meth c H locs cells slots Q (F0 m pc ls st) := K J
end PTCUT
/-- one of three, by the axis -/
def pt_3 (x y z : Int32) (i : Nat) : Int32 := if i = 0 then x else if i = 1 then y else z
theorem pt_3_0 {x y z : Int32} {i : Nat} (h : i = 0) : x = pt_3 x y z i := by unfold pt_3; rw [if_pos h]
theorem pt_3_1 {x y z : Int32} {i : Nat} (h0 : ¬ i = 0) (h : i = 1) : y = pt_3 x y z i := by unfold pt_3; rw [if_neg h0, if_pos h]
theorem pt_3_2 {x y z : Int32} {i : Nat} (h0 : ¬ i = 0) (h : ¬ i = 1) : z = pt_3 x y z i := by unfold pt_3; rw [if_neg h0, if_neg h]
theorem pt_box_all {ax : Nat} {x0 x1 y0 y1 z0 z1 : Int32} (h1 : 1 ≤ ax) (h3 : ax ≤ 3) : (∀ q, q < ax → pt_span (pt_3 x0 y0 z0 q) (pt_3 x1 y1 z1 q)) ↔ pt_box ax x0 x1 y0 y1 z0 z1 := by
  constructor
  · intro h
    exact ⟨h 0 (by omega), fun q => h 1 (by omega), fun q => h 2 (by omega)⟩
  · intro h q hq
    rcases (show q = 0 ∨ q = 1 ∨ q = 2 by omega) with rfl | rfl | rfl
    · exact h.1
    · exact h.2.1 (by omega)
    · exact h.2.2 (by omega)
theorem pt_span_pl {lo hi : Int32} (h1 : -1000000 ≤ lo ∧ lo ≤ 1000000) (h2 : -1000000 ≤ hi ∧ hi ≤ 1000000) (h : lo ≤ hi) : pt_span lo hi := ⟨h1.1, h2.2, h⟩
theorem pt_span_lo {lo hi : Int32} (h : pt_span lo hi) : -1000000 ≤ lo ∧ lo ≤ 1000000 := ⟨h.1, Int32.le_trans h.2.2 h.2.1⟩
theorem pt_span_hi {lo hi : Int32} (h : pt_span lo hi) : -1000000 ≤ hi ∧ hi ≤ 1000000 := ⟨Int32.le_trans h.1 h.2.2, h.2.1⟩

theorem wd_c_X2_tells_X2_tells_0 : Cond.fieldLink RX2 7 "PointTreesModel" "axes" "I" ∈ wsX2_tells := by decide +kernel
theorem wd_c_X2_tells_X2_tells_1 : Cond.fieldLink RX2 60 "PointTreesModel" "low" "[I" ∈ wsX2_tells := by decide +kernel
theorem wd_c_X2_tells_X2_tells_2 : Cond.fieldLink RX2 63 "PointTreesModel" "high" "[I" ∈ wsX2_tells := by decide +kernel
theorem iw_c_X2_tells_wsX20 : ∀ w ∈ wsX20, w ∈ wsX2_tells := fun _ h => List.mem_cons_of_mem _ (List.mem_append_right _ h)
set_option maxHeartbeats 4000000 in
set_option maxRecDepth 100000 in
theorem c_X2_tells (l : Launch) (dC : Nat → ClassId) (dI : Nat → Nat → Nat) (a : Nat → Nat) (c : Nat → ClassId) (F : Nat → Int32) (A : Nat → Nat → Int32) (sz : Nat) (ax : Nat) (h1 : F 1 = nI ax) (hax : ax ≤ 3) (x0 x1 y0 y1 z0 z1 : Int32) : Met l yX2_tells wsX2_tells (pt_rm 1) (pt_W (dC, dI) vwCl (pt_mt c) (pt_mw a c F A) pt_nw sz [.ref (a 0), .int x0, .int x1, .int y0, .int y1, .int z0, .int z1]) (va_Qi (fun (r : Int32) (u : pt_MS) => pt_B r (∀ y9, y9 < ax → pt_span (pt_3 x0 y0 z0 y9) (pt_3 x1 y1 z1 y9)) ∧ ((∀ y9, y9 < ax → pt_span (pt_3 x0 y0 z0 y9) (pt_3 x1 y1 z1 y9)) → ∀ q, q < ax → u.2 20 q = pt_3 x0 y0 z0 q ∧ u.2 21 q = pt_3 x1 y1 z1 q) ∧ u.1 = F ∧ ∀ j, j ≠ 20 → j ≠ 21 → u.2 j = A j) (fun u t => va_P (dC, dI) vwCl (pt_mw a c u.1 u.2) t.heap) (va_A (pt_mw a c F A) sz)) 0 0 (va_A (pt_mw a c F A) sz) := by
  refine Met.ofW (cc := cX2_tells) (maxL := 11) (ret := (some .boolean)) (by decide) rfl ?_
  intro p e s m args below meth cd s₁ B hml hv
  obtain ⟨rfl, hsz, hP, hK, hN, hD0⟩ := hv
  have hx := B.exec
  have hb := B.bytes
  have hr := B.returns
  have hts := atoms_spec (ws := wsX2_tells) B.pre
  have hown : s.vm.findClass RX2 = some m.cls := findClass_of_methodNamed B.named
  have hlocks := B.notSynchronized
  subst hsz
  have hD := hD0.self (sz := s.heap.size)
  generalize hAe : va_A (pt_mw a c F A) s.heap.size = AA at hD ⊢
  have hA : ∀ q : Nat, s.heap.size ≤ q → AA q := fun q h => by rw [← hAe]; exact Or.inr h
  have hS : va_S AA s.heap s.heap [] := va_S.rf
  have hl := lv_entry ([.ref (a 0), .int x0, .int x1, .int y0, .int y1, .int z0, .int z1]) (n := 11) (Nat.le_of_ble_eq_true rfl)
  rw [lg_entry_eq]
  generalize (lg_sl ([.ref (a 0), .int x0, .int x1, .int y0, .int y1, .int z0, .int z1]) ++ List.replicate (11 - (lg_sl ([.ref (a 0), .int x0, .int x1, .int y0, .int y1, .int z0, .int z1])).length) Slot.unset).toArray = ls at hl ⊢
  have hl : lv_has ls 11 [(0, .ref (a 0)), (1, .int x0), (2, .int x1), (3, .int y0), (4, .int y1), (5, .int z0), (6, .int z1)] := hl
  refine lv_iconst (v := 1) hx hb dX2_tells_0 (by decide) ?_
  refine lv_istore (lv' := [(7, .int 1), (0, .ref (a 0)), (1, .int x0), (2, .int x1), (3, .int y0), (4, .int y1), (5, .int z0), (6, .int z1)]) hx hb dX2_tells_1 hl (by decide) rfl (fun ls hl => ?_)
  refine lv_iconst (v := nI 0) hx hb dX2_tells_3 (by decide) ?_
  refine lv_istore (lv' := [(8, .int (nI 0)), (7, .int 1), (0, .ref (a 0)), (1, .int x0), (2, .int x1), (3, .int y0), (4, .int y1), (5, .int z0), (6, .int z1)]) hx hb dX2_tells_4 hl (by decide) rfl (fun ls hl => ?_)
  refine pt_loopR (fun q : Nat × Int32 => ax - q.1) (fun q ls => q.1 ≤ ax ∧ pt_B q.2 (∀ y9, y9 < q.1 → pt_span (pt_3 x0 y0 z0 y9) (pt_3 x1 y1 z1 y9)) ∧ lv_has ls 11 [(8, .int (nI q.1)), (7, .int q.2), (0, .ref (a 0)), (1, .int x0), (2, .int x1), (3, .int y0), (4, .int y1), (5, .int z0), (6, .int z1)]) ?_ (0, 1) _ ⟨Nat.zero_le _, pt_B.one (fun q hq => absurd hq (Nat.not_lt_zero _)), hl⟩
  intro ⟨i, b7⟩ ls ⟨hi, hb7, hl⟩ ih
  dsimp only at hi hb7 hl ih
  refine lv_iload hx hb dX2_tells_6 (lv_at hl 0 rfl) ?_
  refine lv_aload_n hx hb dX2_tells_8 rfl (lv_at hl 2 rfl) ?_
  refine va_get (D := (dC, dI)) (ci := 2) (v := .int (F 1)) (C := RX2) (T := TX2) (N := 27) hx hb hts iw_c_X2_tells_wsX20 hown hK hP 0 rfl rfl 1 (by decide) (hts _ wd_c_X2_tells_X2_tells_0) (fun _ h9 => h9) rfl dX2_tells_9 ?_
  refine pt_top (y := nI ax) h1 ?_
  refine lv_icmp_ge (tgt := 103) hx hb dX2_tells_12 (by decide) (fun c12 => ?_) (fun c12 => ?_)
  · have hie : i = ax := by have := (nI_leI (by omega) (by omega)).mp c12; omega
    subst hie
    obtain ⟨ax9, e9⟩ : ∃ zz, zz = i := ⟨_, rfl⟩
    rw [← e9] at h1 hb7 hi hax ⊢
    have h19 : F 1 = nI ax9 := h1
    clear ih
    refine lv_iconst (v := nI 0) hx hb dX2_tells_103 (by decide) ?_
    refine lv_istore (lv' := [(8, .int (nI 0)), (7, .int b7), (0, .ref (a 0)), (1, .int x0), (2, .int x1), (3, .int y0), (4, .int y1), (5, .int z0), (6, .int z1)]) hx hb dX2_tells_104 hl (by decide) rfl (fun ls hl => ?_)
    refine pt_loopW (fun q : Nat × (Nat → Nat → Int32) => ax9 - q.1) (fun q ls H locs => q.1 ≤ ax9 ∧ (((∀ y9, y9 < ax9 → pt_span (pt_3 x0 y0 z0 y9) (pt_3 x1 y1 z1 y9)) → ∀ z, z < q.1 → q.2 20 z = pt_3 x0 y0 z0 z ∧ q.2 21 z = pt_3 x1 y1 z1 z) ∧ ∀ j, j ≠ 20 → j ≠ 21 → q.2 j = A j) ∧ va_P (dC, dI) vwCl (pt_mw a c F q.2) H ∧ va_D AA (pt_mw a c F q.2) ∧ va_S AA s.heap H locs ∧ lv_has ls 11 [(8, .int (nI q.1)), (7, .int b7), (0, .ref (a 0)), (1, .int x0), (2, .int x1), (3, .int y0), (4, .int y1), (5, .int z0), (6, .int z1)]) ?_ (0, A) _ _ _ ⟨Nat.zero_le _, ⟨fun _ z hz => absurd hz (Nat.not_lt_zero _), fun _ _ _ => rfl⟩, hP, hD, hS, hl⟩
    intro ⟨i, Ai⟩ ls H locs ⟨hi, ⟨hwi, hsi⟩, hP, hD, hS, hl⟩ ih
    dsimp only at hi hwi hsi hP hD hl ih
    refine lv_iload hx hb dX2_tells_106 (lv_at hl 0 rfl) ?_
    refine lv_aload_n hx hb dX2_tells_108 rfl (lv_at hl 2 rfl) ?_
    refine va_get (D := (dC, dI)) (ci := 2) (v := .int (F 1)) (C := RX2) (T := TX2) (N := 27) hx hb hts iw_c_X2_tells_wsX20 hown hK hP 0 rfl rfl 1 (by decide) (hts _ wd_c_X2_tells_X2_tells_0) (fun _ h9 => h9) rfl dX2_tells_109 ?_
    refine pt_top (y := nI ax9) h19 ?_
    refine lv_icmp_ge (tgt := 183) hx hb dX2_tells_112 (by decide) (fun c112 => ?_) (fun c112 => ?_)
    · have hie : i = ax9 := by have := (nI_leI (by omega) (by omega)).mp c112; omega
      refine lv_iload hx hb dX2_tells_183 (lv_at hl 1 rfl) ?_
      exact W.zret (v := b7) hx hb hr hb7.nar (fun zt zh zW => ⟨⟨_, (F, Ai), rfl, ⟨hb7, by first | exact fun hq z hz => hwi hq z (by omega) | exact fun q => absurd q (hb7.f c117), rfl, hsi⟩, by show va_P _ _ _ zt.heap; rw [zh]; exact hP⟩, hS.F zh⟩) hS.2.2 dX2_tells_185
    · have hlt : i < ax9 := Nat.not_le.mp (fun q => c112 ((nI_leI (by omega) (by omega)).mpr q))
      refine lv_iload hx hb dX2_tells_115 (lv_at hl 1 rfl) ?_
      refine lv_if_eq (tgt := 183) hx hb dX2_tells_117 (by decide) (fun c117 => ?_) (fun c117 => ?_)
      · refine lv_iload hx hb dX2_tells_183 (lv_at hl 1 rfl) ?_
        exact W.zret (v := b7) hx hb hr hb7.nar (fun zt zh zW => ⟨⟨_, (F, Ai), rfl, ⟨hb7, by first | exact fun hq z hz => hwi hq z (by omega) | exact fun q => absurd q (hb7.f c117), rfl, hsi⟩, by show va_P _ _ _ zt.heap; rw [zh]; exact hP⟩, hS.F zh⟩) hS.2.2 dX2_tells_185
      · refine lv_aload_n hx hb dX2_tells_120 rfl (lv_at hl 2 rfl) ?_
        refine va_get (D := (dC, dI)) (ci := 2) (v := .ref (a 20)) (C := RX2) (T := TX2) (N := 27) hx hb hts iw_c_X2_tells_wsX20 hown hK hP 0 rfl rfl 20 (by decide) (hts _ wd_c_X2_tells_X2_tells_1) (fun _ h9 => h9) rfl dX2_tells_121 ?_
        refine lv_iload hx hb dX2_tells_124 (lv_at hl 0 rfl) ?_
        refine pt_cut 147 (fun v => v = pt_3 x0 y0 z0 i) (rest := [.int (nI i), .ref (a 20)]) (fun v126 hv126 => ?_) (fun J126 => ?_)
        · subst hv126
          obtain ⟨A1, eA1⟩ : ∃ zz, zz = va_up Ai 20 (upd (Ai 20) i (pt_3 x0 y0 z0 i)) := ⟨_, rfl⟩
          refine pt_iast hx hb hK hP hD hS 16 15 rfl rfl i rfl (by omega) (by decide) (ws' := (pt_mw a c F A1)) (by rw [eA1]; rfl) dX2_tells_147 (fun H locs hP hD hS => ?_)
          refine lv_aload_n hx hb dX2_tells_148 rfl (lv_at hl 2 rfl) ?_
          refine va_get (D := (dC, dI)) (ci := 2) (v := .ref (a 21)) (C := RX2) (T := TX2) (N := 27) hx hb hts iw_c_X2_tells_wsX20 hown hK hP 0 rfl rfl 21 (by decide) (hts _ wd_c_X2_tells_X2_tells_2) (fun _ h9 => h9) rfl dX2_tells_149 ?_
          refine lv_iload hx hb dX2_tells_152 (lv_at hl 0 rfl) ?_
          refine pt_cut 176 (fun v => v = pt_3 x1 y1 z1 i) (rest := [.int (nI i), .ref (a 21)]) (fun v154 hv154 => ?_) (fun J154 => ?_)
          · subst hv154
            obtain ⟨A2, eA2⟩ : ∃ zz, zz = va_up A1 21 (upd (A1 21) i (pt_3 x1 y1 z1 i)) := ⟨_, rfl⟩
            refine pt_iast hx hb hK hP hD hS 17 16 rfl rfl i rfl (by omega) (by decide) (ws' := (pt_mw a c F A2)) (by rw [eA2]; rfl) dX2_tells_176 (fun H locs hP hD hS => ?_)
            refine lv_iinc (v := nI (i + 1)) (lv' := [(8, .int (nI (i + 1))), (7, .int b7), (0, .ref (a 0)), (1, .int x0), (2, .int x1), (3, .int y0), (4, .int y1), (5, .int z0), (6, .int z1)]) hx hb dX2_tells_177 hl (k := 0) rfl (nI_1 _) (by decide) rfl (fun ls hl => ?_)
            refine lv_goto (tgt := 106) hx hb dX2_tells_180 (by decide) ?_
            have e20 : A2 20 = upd (Ai 20) i (pt_3 x0 y0 z0 i) := by rw [eA2, pt_up_ne (by decide), eA1, pt_up]
            have e21 : A2 21 = upd (Ai 21) i (pt_3 x1 y1 z1 i) := by rw [eA2, pt_up, eA1, pt_up_ne (by decide)]
            exact ih (i + 1, A2) _ _ _ ⟨by show i + 1 ≤ ax9; omega, ⟨fun hq z hz => ⟨by show A2 20 z = _; rw [e20]; exact pt_upd_s (fun y hy => (hwi hq y hy).1) rfl z hz, by show A2 21 z = _; rw [e21]; exact pt_upd_s (fun y hy => (hwi hq y hy).2) rfl z hz⟩, fun j j1 j2 => by show A2 j = A j; rw [eA2, pt_up_ne j2, eA1, pt_up_ne j1]; exact hsi j j1 j2⟩, hP, hD, hS, lv_sub hl [0, 1, 2, 3, 4, 5, 6, 7, 8] rfl⟩ (by show ax9 - (i + 1) < ax9 - i; omega)
          · refine lv_iload hx hb dX2_tells_154 (lv_at hl 0 rfl) ?_
            refine lv_if_ne (tgt := 163) hx hb dX2_tells_156 (by decide) (fun c156 => ?_) (fun c156 => ?_)
            · have d156 : ¬ i = 0 := fun q => c156 (by rw [q]; rfl)
              refine lv_iload hx hb dX2_tells_163 (lv_at hl 0 rfl) ?_
              refine lv_iconst (v := nI 1) hx hb dX2_tells_165 (by decide) ?_
              refine lv_icmp_ne (tgt := 174) hx hb dX2_tells_166 (by decide) (fun c166 => ?_) (fun c166 => ?_)
              · have d166 : ¬ i = 1 := fun q => c166 (by rw [q])
                refine lv_iload hx hb dX2_tells_174 (lv_at hl 8 rfl) ?_
                exact J154 _ (by first | exact pt_3_0 d156 | exact pt_3_1 d156 d166 | exact pt_3_2 d156 d166)
              · have d166 : i = 1 := (nI_eq (by omega) (by omega)).mp c166
                refine lv_iload hx hb dX2_tells_169 (lv_at hl 6 rfl) ?_
                refine lv_goto (tgt := 176) hx hb dX2_tells_171 (by decide) ?_
                exact J154 _ (by first | exact pt_3_0 d156 | exact pt_3_1 d156 d166 | exact pt_3_2 d156 d166)
            · have d156 : i = 0 := (nI_eq (b := 0) (by omega) (by omega)).mp c156
              refine lv_iload_n hx hb dX2_tells_159 rfl (lv_at hl 4 rfl) ?_
              refine lv_goto (tgt := 176) hx hb dX2_tells_160 (by decide) ?_
              exact J154 _ (by first | exact pt_3_0 d156 | exact pt_3_1 d156 d166 | exact pt_3_2 d156 d166)
        · refine lv_iload hx hb dX2_tells_126 (lv_at hl 0 rfl) ?_
          refine lv_if_ne (tgt := 135) hx hb dX2_tells_128 (by decide) (fun c128 => ?_) (fun c128 => ?_)
          · have d128 : ¬ i = 0 := fun q => c128 (by rw [q]; rfl)
            refine lv_iload hx hb dX2_tells_135 (lv_at hl 0 rfl) ?_
            refine lv_iconst (v := nI 1) hx hb dX2_tells_137 (by decide) ?_
            refine lv_icmp_ne (tgt := 145) hx hb dX2_tells_138 (by decide) (fun c138 => ?_) (fun c138 => ?_)
            · have d138 : ¬ i = 1 := fun q => c138 (by rw [q])
              refine lv_iload hx hb dX2_tells_145 (lv_at hl 7 rfl) ?_
              exact J126 _ (by first | exact pt_3_0 d128 | exact pt_3_1 d128 d138 | exact pt_3_2 d128 d138)
            · have d138 : i = 1 := (nI_eq (by omega) (by omega)).mp c138
              refine lv_iload_n hx hb dX2_tells_141 rfl (lv_at hl 5 rfl) ?_
              refine lv_goto (tgt := 147) hx hb dX2_tells_142 (by decide) ?_
              exact J126 _ (by first | exact pt_3_0 d128 | exact pt_3_1 d128 d138 | exact pt_3_2 d128 d138)
          · have d128 : i = 0 := (nI_eq (b := 0) (by omega) (by omega)).mp c128
            refine lv_iload_n hx hb dX2_tells_131 rfl (lv_at hl 3 rfl) ?_
            refine lv_goto (tgt := 147) hx hb dX2_tells_132 (by decide) ?_
            exact J126 _ (by first | exact pt_3_0 d128 | exact pt_3_1 d128 d138 | exact pt_3_2 d128 d138)
  · have hlt : i < ax := Nat.not_le.mp (fun q => c12 ((nI_leI (by omega) (by omega)).mpr q))
    refine pt_cut 36 (fun v => v = pt_3 x0 y0 z0 i) (rest := []) (fun v15 hv15 => ?_) (fun J15 => ?_)
    · subst hv15
      refine lv_istore (lv' := [(9, .int (pt_3 x0 y0 z0 i)), (8, .int (nI i)), (7, .int b7), (0, .ref (a 0)), (1, .int x0), (2, .int x1), (3, .int y0), (4, .int y1), (5, .int z0), (6, .int z1)]) hx hb dX2_tells_36 hl (by decide) rfl (fun ls hl => ?_)
      refine pt_cut 60 (fun v => v = pt_3 x1 y1 z1 i) (rest := []) (fun v38 hv38 => ?_) (fun J38 => ?_)
      · subst hv38
        refine lv_istore (lv' := [(10, .int (pt_3 x1 y1 z1 i)), (9, .int (pt_3 x0 y0 z0 i)), (8, .int (nI i)), (7, .int b7), (0, .ref (a 0)), (1, .int x0), (2, .int x1), (3, .int y0), (4, .int y1), (5, .int z0), (6, .int z1)]) hx hb dX2_tells_60 hl (by decide) rfl (fun ls hl => ?_)
        refine pt_cut 95 (fun v => pt_B v (∀ y9, y9 < (i + 1) → pt_span (pt_3 x0 y0 z0 y9) (pt_3 x1 y1 z1 y9))) (rest := []) (fun v62 hv62 => ?_) (fun J62 => ?_)
        · refine lv_istore (lv' := [(7, .int v62), (10, .int (pt_3 x1 y1 z1 i)), (9, .int (pt_3 x0 y0 z0 i)), (8, .int (nI i)), (0, .ref (a 0)), (1, .int x0), (2, .int x1), (3, .int y0), (4, .int y1), (5, .int z0), (6, .int z1)]) hx hb dX2_tells_95 hl (by decide) rfl (fun ls hl => ?_)
          refine lv_iinc (v := nI (i + 1)) (lv' := [(8, .int (nI (i + 1))), (7, .int v62), (10, .int (pt_3 x1 y1 z1 i)), (9, .int (pt_3 x0 y0 z0 i)), (0, .ref (a 0)), (1, .int x0), (2, .int x1), (3, .int y0), (4, .int y1), (5, .int z0), (6, .int z1)]) hx hb dX2_tells_97 hl (k := 3) rfl (nI_1 _) (by decide) rfl (fun ls hl => ?_)
          refine lv_goto (tgt := 6) hx hb dX2_tells_100 (by decide) ?_
          exact ih (i + 1, v62) _ ⟨by show i + 1 ≤ ax; omega, hv62, lv_sub hl [0, 1, 4, 5, 6, 7, 8, 9, 10] rfl⟩ (by show ax - (i + 1) < ax - i; omega)
        · refine lv_iload hx hb dX2_tells_62 (lv_at hl 3 rfl) ?_
          refine lv_if_eq (tgt := 94) hx hb dX2_tells_64 (by decide) (fun c64 => ?_) (fun c64 => ?_)
          · refine lv_iconst (v := 0) hx hb dX2_tells_94 (by decide) ?_
            exact J62 _ (pt_B.zero (fun q => by first | exact c87 (Int32.not_le.mpr (Int32.not_le.mp (fun z => Int32.not_le.mpr c87 z)) |> fun _ => absurd (q i (Nat.lt_succ_self i)).2.2 (Int32.not_le.mpr c87)) | exact absurd (q i (Nat.lt_succ_self i)).2.2 (Int32.not_le.mpr c87) | exact hr77.f c80 (pt_span_hi (q i (Nat.lt_succ_self i))) | exact hr69.f c72 (pt_span_lo (q i (Nat.lt_succ_self i))) | exact hb7.f c64 (fun z hz => q z (Nat.lt_succ_of_lt hz))))
          · refine lv_iload hx hb dX2_tells_67 (lv_at hl 1 rfl) ?_
            refine pt_rdi (va_runS (As := [.int (pt_3 x0 y0 z0 i)]) (rest := []) ⟨hx, hb, hml, hown, hts⟩ (c_X2_isPlace l dC dI (pt_mt c) (pt_mw a c F A) (pt_3 x0 y0 z0 i)) (va_cwS 1 hts gX2_tells_X2_isPlace rfl rfl rfl (by decide +kernel) ⟨Nat.le_of_ble_eq_true rfl, Nat.le_of_ble_eq_true rfl⟩) (pt_R.preS hP hK hN) rfl rfl hl.1 rfl (lv_room (Nat.le_of_ble_eq_true rfl)) dX2_tells_69 ⟨Nat.le_of_ble_eq_true rfl, Nat.le_of_ble_eq_true rfl⟩) (fun r69 hr69 => ?_)
            refine lv_if_eq (tgt := 94) hx hb dX2_tells_72 (by decide) (fun c72 => ?_) (fun c72 => ?_)
            · refine lv_iconst (v := 0) hx hb dX2_tells_94 (by decide) ?_
              exact J62 _ (pt_B.zero (fun q => by first | exact c87 (Int32.not_le.mpr (Int32.not_le.mp (fun z => Int32.not_le.mpr c87 z)) |> fun _ => absurd (q i (Nat.lt_succ_self i)).2.2 (Int32.not_le.mpr c87)) | exact absurd (q i (Nat.lt_succ_self i)).2.2 (Int32.not_le.mpr c87) | exact hr77.f c80 (pt_span_hi (q i (Nat.lt_succ_self i))) | exact hr69.f c72 (pt_span_lo (q i (Nat.lt_succ_self i))) | exact hb7.f c64 (fun z hz => q z (Nat.lt_succ_of_lt hz))))
            · refine lv_iload hx hb dX2_tells_75 (lv_at hl 0 rfl) ?_
              refine pt_rdi (va_runS (As := [.int (pt_3 x1 y1 z1 i)]) (rest := []) ⟨hx, hb, hml, hown, hts⟩ (c_X2_isPlace l dC dI (pt_mt c) (pt_mw a c F A) (pt_3 x1 y1 z1 i)) (va_cwS 1 hts gX2_tells_X2_isPlace rfl rfl rfl (by decide +kernel) ⟨Nat.le_of_ble_eq_true rfl, Nat.le_of_ble_eq_true rfl⟩) (pt_R.preS hP hK hN) rfl rfl hl.1 rfl (lv_room (Nat.le_of_ble_eq_true rfl)) dX2_tells_77 ⟨Nat.le_of_ble_eq_true rfl, Nat.le_of_ble_eq_true rfl⟩) (fun r77 hr77 => ?_)
              refine lv_if_eq (tgt := 94) hx hb dX2_tells_80 (by decide) (fun c80 => ?_) (fun c80 => ?_)
              · refine lv_iconst (v := 0) hx hb dX2_tells_94 (by decide) ?_
                exact J62 _ (pt_B.zero (fun q => by first | exact c87 (Int32.not_le.mpr (Int32.not_le.mp (fun z => Int32.not_le.mpr c87 z)) |> fun _ => absurd (q i (Nat.lt_succ_self i)).2.2 (Int32.not_le.mpr c87)) | exact absurd (q i (Nat.lt_succ_self i)).2.2 (Int32.not_le.mpr c87) | exact hr77.f c80 (pt_span_hi (q i (Nat.lt_succ_self i))) | exact hr69.f c72 (pt_span_lo (q i (Nat.lt_succ_self i))) | exact hb7.f c64 (fun z hz => q z (Nat.lt_succ_of_lt hz))))
              · refine lv_iload hx hb dX2_tells_83 (lv_at hl 1 rfl) ?_
                refine lv_iload hx hb dX2_tells_85 (lv_at hl 0 rfl) ?_
                refine lv_icmp_gt (tgt := 94) hx hb dX2_tells_87 (by decide) (fun c87 => ?_) (fun c87 => ?_)
                · refine lv_iconst (v := 0) hx hb dX2_tells_94 (by decide) ?_
                  exact J62 _ (pt_B.zero (fun q => by first | exact c87 (Int32.not_le.mpr (Int32.not_le.mp (fun z => Int32.not_le.mpr c87 z)) |> fun _ => absurd (q i (Nat.lt_succ_self i)).2.2 (Int32.not_le.mpr c87)) | exact absurd (q i (Nat.lt_succ_self i)).2.2 (Int32.not_le.mpr c87) | exact hr77.f c80 (pt_span_hi (q i (Nat.lt_succ_self i))) | exact hr69.f c72 (pt_span_lo (q i (Nat.lt_succ_self i))) | exact hb7.f c64 (fun z hz => q z (Nat.lt_succ_of_lt hz))))
                · refine lv_iconst (v := 1) hx hb dX2_tells_90 (by decide) ?_
                  refine lv_goto (tgt := 95) hx hb dX2_tells_91 (by decide) ?_
                  exact J62 _ (pt_B.one (fun q hq => (Nat.lt_succ_iff_lt_or_eq.mp hq).elim (hb7.t c64 q) (fun z => by subst z; exact pt_span_pl (hr69.t c72) (hr77.t c80) (Int32.not_lt.mp c87))))
      · refine lv_iload hx hb dX2_tells_38 (lv_at hl 1 rfl) ?_
        refine lv_if_ne (tgt := 47) hx hb dX2_tells_40 (by decide) (fun c40 => ?_) (fun c40 => ?_)
        · have d40 : ¬ i = 0 := fun q => c40 (by rw [q]; rfl)
          refine lv_iload hx hb dX2_tells_47 (lv_at hl 1 rfl) ?_
          refine lv_iconst (v := nI 1) hx hb dX2_tells_49 (by decide) ?_
          refine lv_icmp_ne (tgt := 58) hx hb dX2_tells_50 (by decide) (fun c50 => ?_) (fun c50 => ?_)
          · have d50 : ¬ i = 1 := fun q => c50 (by rw [q])
            refine lv_iload hx hb dX2_tells_58 (lv_at hl 9 rfl) ?_
            exact J38 _ (by first | exact pt_3_0 d40 | exact pt_3_1 d40 d50 | exact pt_3_2 d40 d50)
          · have d50 : i = 1 := (nI_eq (by omega) (by omega)).mp c50
            refine lv_iload hx hb dX2_tells_53 (lv_at hl 7 rfl) ?_
            refine lv_goto (tgt := 60) hx hb dX2_tells_55 (by decide) ?_
            exact J38 _ (by first | exact pt_3_0 d40 | exact pt_3_1 d40 d50 | exact pt_3_2 d40 d50)
        · have d40 : i = 0 := (nI_eq (b := 0) (by omega) (by omega)).mp c40
          refine lv_iload_n hx hb dX2_tells_43 rfl (lv_at hl 5 rfl) ?_
          refine lv_goto (tgt := 60) hx hb dX2_tells_44 (by decide) ?_
          exact J38 _ (by first | exact pt_3_0 d40 | exact pt_3_1 d40 d50 | exact pt_3_2 d40 d50)
    · refine lv_iload hx hb dX2_tells_15 (lv_at hl 0 rfl) ?_
      refine lv_if_ne (tgt := 24) hx hb dX2_tells_17 (by decide) (fun c17 => ?_) (fun c17 => ?_)
      · have d17 : ¬ i = 0 := fun q => c17 (by rw [q]; rfl)
        refine lv_iload hx hb dX2_tells_24 (lv_at hl 0 rfl) ?_
        refine lv_iconst (v := nI 1) hx hb dX2_tells_26 (by decide) ?_
        refine lv_icmp_ne (tgt := 34) hx hb dX2_tells_27 (by decide) (fun c27 => ?_) (fun c27 => ?_)
        · have d27 : ¬ i = 1 := fun q => c27 (by rw [q])
          refine lv_iload hx hb dX2_tells_34 (lv_at hl 7 rfl) ?_
          exact J15 _ (by first | exact pt_3_0 d17 | exact pt_3_1 d17 d27 | exact pt_3_2 d17 d27)
        · have d27 : i = 1 := (nI_eq (by omega) (by omega)).mp c27
          refine lv_iload_n hx hb dX2_tells_30 rfl (lv_at hl 5 rfl) ?_
          refine lv_goto (tgt := 36) hx hb dX2_tells_31 (by decide) ?_
          exact J15 _ (by first | exact pt_3_0 d17 | exact pt_3_1 d17 d27 | exact pt_3_2 d17 d27)
      · have d17 : i = 0 := (nI_eq (b := 0) (by omega) (by omega)).mp c17
        refine lv_iload_n hx hb dX2_tells_20 rfl (lv_at hl 3 rfl) ?_
        refine lv_goto (tgt := 36) hx hb dX2_tells_21 (by decide) ?_
        exact J15 _ (by first | exact pt_3_0 d17 | exact pt_3_1 d17 d27 | exact pt_3_2 d17 d27)

theorem pt_put_s {f f2 g g2 : Nat → Int32} {b i : Nat} {v v2 : Int32} (h : ∀ x, x < i → f (b + x) = g x ∧ f2 (b + x) = g2 x) (e : v = g i) (e2 : v2 = g2 i) (x : Nat) (hx : x < i + 1) : upd f (b + i) v (b + x) = g x ∧ upd f2 (b + i) v2 (b + x) = g2 x := by
  by_cases q : x = i
  · subst q; rw [pt_upd, pt_upd]; exact ⟨e, e2⟩
  · rw [pt_upd_ne (by omega), pt_upd_ne (by omega)]; exact h x (by omega)

theorem wd_c_X2_thing_X2_thing_0 : Cond.fieldLink RX2 69 "PointTreesModel" "thrown" "I" ∈ wsX2_thing := by decide +kernel
theorem wd_c_X2_thing_X2_thing_1 : Cond.fieldLink RX2 72 "PointTreesModel" "made" "I" ∈ wsX2_thing := by decide +kernel
theorem wd_c_X2_thing_X2_thing_2 : Cond.fieldLink RX2 7 "PointTreesModel" "axes" "I" ∈ wsX2_thing := by decide +kernel
theorem wd_c_X2_thing_X2_thing_3 : Cond.fieldLink RX2 13 "PointTreesModel" "there" "[Z" ∈ wsX2_thing := by decide +kernel
theorem wd_c_X2_thing_X2_thing_4 : Cond.fieldLink RX2 24 "PointTreesModel" "inTree" "[Z" ∈ wsX2_thing := by decide +kernel
theorem wd_c_X2_thing_X2_thing_5 : Cond.fieldLink RX2 17 "PointTreesModel" "lows" "[I" ∈ wsX2_thing := by decide +kernel
theorem wd_c_X2_thing_X2_thing_6 : Cond.fieldLink RX2 60 "PointTreesModel" "low" "[I" ∈ wsX2_thing := by decide +kernel
theorem wd_c_X2_thing_X2_thing_7 : Cond.fieldLink RX2 21 "PointTreesModel" "highs" "[I" ∈ wsX2_thing := by decide +kernel
theorem wd_c_X2_thing_X2_thing_8 : Cond.fieldLink RX2 63 "PointTreesModel" "high" "[I" ∈ wsX2_thing := by decide +kernel
theorem iw_c_X2_thing_wsX20 : ∀ w ∈ wsX20, w ∈ wsX2_thing := fun _ h => List.mem_cons_of_mem _ (List.mem_append_right _ h)
set_option maxHeartbeats 4000000 in
set_option maxRecDepth 100000 in
theorem c_X2_thing (l : Launch) (dC : Nat → ClassId) (dI : Nat → Nat → Nat) (a : Nat → Nat) (c : Nat → ClassId) (F : Nat → Int32) (A : Nat → Nat → Int32) (sz : Nat) (ax : Nat) (h1 : F 1 = nI ax) (hax : ax ≤ 3) (hax1 : 1 ≤ ax) (md : Nat) (h2 : F 2 = nI md) (hmd : md ≤ 64) (x0 x1 y0 y1 z0 z1 : Int32) : Met l yX2_thing wsX2_thing (pt_rm 2) (pt_W (dC, dI) vwCl (pt_mt c) (pt_mw a c F A) pt_nw sz [.ref (a 0), .int x0, .int x1, .int y0, .int y1, .int z0, .int z1]) (va_Qi (fun (r : Int32) (u : pt_MS) => ((¬ pt_box ax x0 x1 y0 y1 z0 z1 ∧ r = -2) ∨ (pt_box ax x0 x1 y0 y1 z0 z1 ∧ md = 64 ∧ r = -4)) ∧ u.1 = (upd F 0 (nI 0)) ∧ (∀ j, j ≠ 20 → j ≠ 21 → u.2 j = A j) ∨ (pt_box ax x0 x1 y0 y1 z0 z1 ∧ md < 64 ∧ r = nI md ∧ u.1 0 = nI 0 ∧ u.1 2 = nI (md + 1) ∧ (∀ j, j ≠ 0 → j ≠ 2 → u.1 j = F j) ∧ u.2 3 = upd (A 3) md 1 ∧ u.2 6 = upd (A 6) md 0 ∧ (∀ x, x < ax → u.2 4 (3 * md + x) = pt_3 x0 y0 z0 x ∧ u.2 5 (3 * md + x) = pt_3 x1 y1 z1 x) ∧ (∀ k, k < 3 * md → u.2 4 k = A 4 k ∧ u.2 5 k = A 5 k) ∧ ∀ j, j ≠ 3 → j ≠ 4 → j ≠ 5 → j ≠ 6 → j ≠ 20 → j ≠ 21 → u.2 j = A j)) (fun u t => va_P (dC, dI) vwCl (pt_mw a c u.1 u.2) t.heap) (va_A (pt_mw a c F A) sz)) 0 0 (va_A (pt_mw a c F A) sz) := by
  refine Met.ofW (cc := cX2_thing) (maxL := 8) (ret := (some .int)) (by decide) rfl ?_
  intro p e s m args below meth cd s₁ B hml hv
  obtain ⟨rfl, hsz, hP, hK, hN, hD0⟩ := hv
  have hx := B.exec
  have hb := B.bytes
  have hr := B.returns
  have hts := atoms_spec (ws := wsX2_thing) B.pre
  have hown : s.vm.findClass RX2 = some m.cls := findClass_of_methodNamed B.named
  have hlocks := B.notSynchronized
  subst hsz
  have hD := hD0.self (sz := s.heap.size)
  generalize hAe : va_A (pt_mw a c F A) s.heap.size = AA at hD ⊢
  have hA : ∀ q : Nat, s.heap.size ≤ q → AA q := fun q h => by rw [← hAe]; exact Or.inr h
  have hS : va_S AA s.heap s.heap [] := va_S.rf
  have hl := lv_entry ([.ref (a 0), .int x0, .int x1, .int y0, .int y1, .int z0, .int z1]) (n := 8) (Nat.le_of_ble_eq_true rfl)
  rw [lg_entry_eq]
  generalize (lg_sl ([.ref (a 0), .int x0, .int x1, .int y0, .int y1, .int z0, .int z1]) ++ List.replicate (8 - (lg_sl ([.ref (a 0), .int x0, .int x1, .int y0, .int y1, .int z0, .int z1])).length) Slot.unset).toArray = ls at hl ⊢
  have hl : lv_has ls 8 [(0, .ref (a 0)), (1, .int x0), (2, .int x1), (3, .int y0), (4, .int y1), (5, .int z0), (6, .int z1)] := hl
  refine lv_aload_n hx hb dX2_thing_0 rfl (lv_at hl 0 rfl) ?_
  refine lv_iconst (v := nI 0) hx hb dX2_thing_1 (by decide) ?_
  obtain ⟨F1, eF1⟩ : ∃ zz, zz = upd F 0 (nI 0) := ⟨_, rfl⟩
  refine va_put (D := (dC, dI)) (ci := 2) (v := .int (nI 0)) (ty := .int) (C := RX2) (T := TX2) (N := 27) hx hb hts iw_c_X2_thing_wsX20 tyX2 tyX2_ok nmX2 hown hK hP hD hS 0 rfl rfl 0 (by decide) (hts _ wd_c_X2_thing_X2_thing_0) (fun _ h9 => h9) rfl (by decide +kernel) rfl rfl (Nat.le_of_ble_eq_true rfl) dX2_thing_2 (fun H locs hP hD hS => ?_)
  have hP : va_P (dC, dI) vwCl (pt_mw a c F1 A) H := by rw [eF1]; exact hP
  have hD : va_D AA (pt_mw a c F1 A) := by rw [eF1]; exact hD
  have kF1_1 : F1 1 = nI ax := by rw [eF1, pt_upd_ne (by decide)]; exact h1
  have kF1_2 : F1 2 = nI md := by rw [eF1, pt_upd_ne (by decide)]; exact h2
  have kF1_0 : F1 0 = nI 0 := by rw [eF1, pt_upd]
  refine lv_aload_n hx hb dX2_thing_5 rfl (lv_at hl 0 rfl) ?_
  refine lv_iload_n hx hb dX2_thing_6 rfl (lv_at hl 1 rfl) ?_
  refine lv_iload_n hx hb dX2_thing_7 rfl (lv_at hl 2 rfl) ?_
  refine lv_iload_n hx hb dX2_thing_8 rfl (lv_at hl 3 rfl) ?_
  refine lv_iload hx hb dX2_thing_9 (lv_at hl 4 rfl) ?_
  refine lv_iload hx hb dX2_thing_11 (lv_at hl 5 rfl) ?_
  refine lv_iload hx hb dX2_thing_13 (lv_at hl 6 rfl) ?_
  refine pt_calli (wf := (fun u : pt_MS => pt_mw a c u.1 u.2)) (va_runV (As := [.int x0, .int x1, .int y0, .int y1, .int z0, .int z1]) (rest := []) ⟨hx, hb, hml, hown, hts⟩ (c_X2_tells l dC dI a c F1 A _ ax kF1_1 hax x0 x1 y0 y1 z0 z1) (cwV 6 hts gX2_thing_X2_tells rfl rfl rfl (by decide +kernel) ⟨Nat.le_of_ble_eq_true rfl, Nat.le_of_ble_eq_true rfl⟩) (pt_wv2 hP hK hN hD (q0 := 0) rfl) rfl rfl hl.1 rfl (lv_room (Nat.le_of_ble_eq_true rfl)) dX2_thing_15 ⟨Nat.le_of_ble_eq_true rfl, Nat.le_of_ble_eq_true rfl⟩) hD hS hA (fun _ => rfl) (fun r15 u15 H locs hr15 hP hD hS => ?_)
  obtain ⟨F2, A2⟩ := u15
  obtain ⟨hb2, hw2, hf2, ho2⟩ := hr15
  dsimp only at hb2 hw2 hf2 ho2 hP hD
  rw [pt_box_all hax1 hax] at hb2
  have kF2_1 : F2 1 = nI ax := by rw [hf2]; exact kF1_1
  have kF2_2 : F2 2 = nI md := by rw [hf2]; exact kF1_2
  have kF2_0 : F2 0 = nI 0 := by rw [hf2]; exact kF1_0
  refine lv_if_ne (tgt := 24) hx hb dX2_thing_18 (by decide) (fun c18 => ?_) (fun c18 => ?_)
  · have d18 := hb2.t c18
    refine lv_aload_n hx hb dX2_thing_24 rfl (lv_at hl 0 rfl) ?_
    refine va_get (D := (dC, dI)) (ci := 2) (v := .int (F2 2)) (C := RX2) (T := TX2) (N := 27) hx hb hts iw_c_X2_thing_wsX20 hown hK hP 0 rfl rfl 2 (by decide) (hts _ wd_c_X2_thing_X2_thing_1) (fun _ h9 => h9) rfl dX2_thing_25 ?_
    refine pt_top (y := nI md) kF2_2 ?_
    refine lv_bipush (v := nI 64) hx hb dX2_thing_28 (by decide) ?_
    refine lv_icmp_ne (tgt := 36) hx hb dX2_thing_30 (by decide) (fun c30 => ?_) (fun c30 => ?_)
    · have d30 : md < 64 := by have : ¬ md = 64 := fun q => c30 (by rw [q]); omega
      refine lv_iconst (v := nI 0) hx hb dX2_thing_36 (by decide) ?_
      refine lv_istore (lv' := [(7, .int (nI 0)), (0, .ref (a 0)), (1, .int x0), (2, .int x1), (3, .int y0), (4, .int y1), (5, .int z0), (6, .int z1)]) hx hb dX2_thing_37 hl (by decide) rfl (fun ls hl => ?_)
      have hlw := hw2 ((pt_box_all hax1 hax).mpr d18)
      refine pt_loopW (fun q : Nat × (Nat → Nat → Int32) => ax - q.1) (fun q ls H locs => q.1 ≤ ax ∧ ((∀ x, x < q.1 → q.2 4 (3 * md + x) = pt_3 x0 y0 z0 x ∧ q.2 5 (3 * md + x) = pt_3 x1 y1 z1 x) ∧ (∀ k, k < 3 * md → q.2 4 k = A 4 k ∧ q.2 5 k = A 5 k) ∧ ∀ j, j ≠ 4 → j ≠ 5 → q.2 j = A2 j) ∧ va_P (dC, dI) vwCl (pt_mw a c F2 q.2) H ∧ va_D AA (pt_mw a c F2 q.2) ∧ va_S AA s.heap H locs ∧ lv_has ls 8 [(7, .int (nI q.1)), (0, .ref (a 0)), (1, .int x0), (2, .int x1), (3, .int y0), (4, .int y1), (5, .int z0), (6, .int z1)]) ?_ (0, A2) _ _ _ ⟨Nat.zero_le _, ⟨fun z hz => absurd hz (Nat.not_lt_zero _), fun k _ => by show A2 4 k = _ ∧ A2 5 k = _; rw [ho2 4 (by decide) (by decide), ho2 5 (by decide) (by decide)]; exact ⟨rfl, rfl⟩, fun _ _ _ => rfl⟩, hP, hD, hS, hl⟩
      intro ⟨i, Ai⟩ ls H locs ⟨hi, ⟨hwi, hki, hsi⟩, hP, hD, hS, hl⟩ ih
      dsimp only at hi hwi hki hsi hP hD hl ih
      refine lv_iload hx hb dX2_thing_39 (lv_at hl 0 rfl) ?_
      refine lv_aload_n hx hb dX2_thing_41 rfl (lv_at hl 1 rfl) ?_
      refine va_get (D := (dC, dI)) (ci := 2) (v := .int (F2 1)) (C := RX2) (T := TX2) (N := 27) hx hb hts iw_c_X2_thing_wsX20 hown hK hP 0 rfl rfl 1 (by decide) (hts _ wd_c_X2_thing_X2_thing_2) (fun _ h9 => h9) rfl dX2_thing_42 ?_
      refine pt_top (y := nI ax) kF2_1 ?_
      refine lv_icmp_ge (tgt := 96) hx hb dX2_thing_45 (by decide) (fun c45 => ?_) (fun c45 => ?_)
      · have hie : i = ax := by have := (nI_leI (by omega) (by omega)).mp c45; omega
        refine lv_aload_n hx hb dX2_thing_96 rfl (lv_at hl 1 rfl) ?_
        refine va_get (D := (dC, dI)) (ci := 2) (v := .ref (a 3)) (C := RX2) (T := TX2) (N := 27) hx hb hts iw_c_X2_thing_wsX20 hown hK hP 0 rfl rfl 3 (by decide) (hts _ wd_c_X2_thing_X2_thing_3) (fun _ h9 => h9) rfl dX2_thing_97 ?_
        refine lv_aload_n hx hb dX2_thing_100 rfl (lv_at hl 1 rfl) ?_
        refine va_get (D := (dC, dI)) (ci := 2) (v := .int (F2 2)) (C := RX2) (T := TX2) (N := 27) hx hb hts iw_c_X2_thing_wsX20 hown hK hP 0 rfl rfl 2 (by decide) (hts _ wd_c_X2_thing_X2_thing_1) (fun _ h9 => h9) rfl dX2_thing_101 ?_
        refine pt_top (y := nI md) kF2_2 ?_
        refine lv_iconst (v := 1) hx hb dX2_thing_104 (by decide) ?_
        obtain ⟨A3, eA3⟩ : ∃ zz, zz = va_up Ai 3 (upd (Ai 3) md 1) := ⟨_, rfl⟩
        refine pt_zast hx hb hK hP hD hS 1 0 rfl rfl md rfl (by omega) (by decide) rfl (ws' := (pt_mw a c F2 A3)) (by rw [eA3]; rfl) dX2_thing_105 (fun H locs hP hD hS => ?_)
        refine lv_aload_n hx hb dX2_thing_106 rfl (lv_at hl 1 rfl) ?_
        refine va_get (D := (dC, dI)) (ci := 2) (v := .ref (a 6)) (C := RX2) (T := TX2) (N := 27) hx hb hts iw_c_X2_thing_wsX20 hown hK hP 0 rfl rfl 6 (by decide) (hts _ wd_c_X2_thing_X2_thing_4) (fun _ h9 => h9) rfl dX2_thing_107 ?_
        refine lv_aload_n hx hb dX2_thing_110 rfl (lv_at hl 1 rfl) ?_
        refine va_get (D := (dC, dI)) (ci := 2) (v := .int (F2 2)) (C := RX2) (T := TX2) (N := 27) hx hb hts iw_c_X2_thing_wsX20 hown hK hP 0 rfl rfl 2 (by decide) (hts _ wd_c_X2_thing_X2_thing_1) (fun _ h9 => h9) rfl dX2_thing_111 ?_
        refine pt_top (y := nI md) kF2_2 ?_
        refine lv_iconst (v := 0) hx hb dX2_thing_114 (by decide) ?_
        obtain ⟨A4, eA4⟩ : ∃ zz, zz = va_up A3 6 (upd (A3 6) md 0) := ⟨_, rfl⟩
        refine pt_zast hx hb hK hP hD hS 4 3 rfl rfl md rfl (by omega) (by decide) rfl (ws' := (pt_mw a c F2 A4)) (by rw [eA4]; rfl) dX2_thing_115 (fun H locs hP hD hS => ?_)
        refine lv_aload_n hx hb dX2_thing_116 rfl (lv_at hl 1 rfl) ?_
        refine lv_dup hx hb dX2_thing_117 rfl ?_
        refine va_get (D := (dC, dI)) (ci := 2) (v := .int (F2 2)) (C := RX2) (T := TX2) (N := 27) hx hb hts iw_c_X2_thing_wsX20 hown hK hP 0 rfl rfl 2 (by decide) (hts _ wd_c_X2_thing_X2_thing_1) (fun _ h9 => h9) rfl dX2_thing_118 ?_
        refine pt_top (y := nI md) kF2_2 ?_
        refine lv_iconst (v := nI 1) hx hb dX2_thing_121 (by decide) ?_
        refine lv_iadd hx hb dX2_thing_122 ?_
        refine pt_top (y := nI (md + 1)) (nI_add _ _) ?_
        obtain ⟨F5, eF5⟩ : ∃ zz, zz = upd F2 2 (nI (md + 1)) := ⟨_, rfl⟩
        refine va_put (D := (dC, dI)) (ci := 2) (v := .int (nI (md + 1))) (ty := .int) (C := RX2) (T := TX2) (N := 27) hx hb hts iw_c_X2_thing_wsX20 tyX2 tyX2_ok nmX2 hown hK hP hD hS 0 rfl rfl 2 (by decide) (hts _ wd_c_X2_thing_X2_thing_1) (fun _ h9 => h9) rfl (by decide +kernel) rfl rfl (Nat.le_of_ble_eq_true rfl) dX2_thing_123 (fun H locs hP hD hS => ?_)
        have hP : va_P (dC, dI) vwCl (pt_mw a c F5 A4) H := by rw [eF5]; exact hP
        have hD : va_D AA (pt_mw a c F5 A4) := by rw [eF5]; exact hD
        have kF5_1 : F5 1 = nI ax := by rw [eF5, pt_upd_ne (by decide)]; exact kF2_1
        have kF5_0 : F5 0 = nI 0 := by rw [eF5, pt_upd_ne (by decide)]; exact kF2_0
        have kF5_2 : F5 2 = nI (md + 1) := by rw [eF5, pt_upd]
        refine lv_aload_n hx hb dX2_thing_126 rfl (lv_at hl 1 rfl) ?_
        refine va_get (D := (dC, dI)) (ci := 2) (v := .int (F5 2)) (C := RX2) (T := TX2) (N := 27) hx hb hts iw_c_X2_thing_wsX20 hown hK hP 0 rfl rfl 2 (by decide) (hts _ wd_c_X2_thing_X2_thing_1) (fun _ h9 => h9) rfl dX2_thing_127 ?_
        refine pt_top (y := nI (md + 1)) kF5_2 ?_
        refine lv_iconst (v := nI 1) hx hb dX2_thing_130 (by decide) ?_
        refine lv_isub hx hb dX2_thing_131 ?_
        refine pt_top (y := nI md) (nI_pred md) ?_
        exact W.iret (v := nI md) hx hb hr (fun zt zh zW => ⟨⟨_, (F5, A4), rfl, (Or.inr ⟨d18, d30, rfl, by show F5 0 = _; rw [eF5, pt_upd_ne (by decide), hf2, eF1, pt_upd], kF5_2, fun j j0 j2 => by show F5 j = _; rw [eF5, pt_upd_ne j2, hf2, eF1, pt_upd_ne j0], by show A4 3 = _; rw [eA4, pt_up_ne (by decide), eA3, pt_up, hsi 3 (by decide) (by decide), ho2 3 (by decide) (by decide)], by show A4 6 = _; rw [eA4, pt_up, eA3, pt_up_ne (by decide), hsi 6 (by decide) (by decide), ho2 6 (by decide) (by decide)], fun x hx => by show A4 4 _ = _ ∧ A4 5 _ = _; rw [eA4, pt_up_ne (by decide), pt_up_ne (by decide), eA3, pt_up_ne (by decide), pt_up_ne (by decide)]; exact hwi x (by omega), fun k hk => by show A4 4 k = _ ∧ A4 5 k = _; rw [eA4, pt_up_ne (by decide), pt_up_ne (by decide), eA3, pt_up_ne (by decide), pt_up_ne (by decide)]; exact hki k hk, fun j j3 j4 j5 j6 j20 j21 => by show A4 j = _; rw [eA4, pt_up_ne j6, eA3, pt_up_ne j3, hsi j j4 j5]; exact ho2 j j20 j21⟩), by show va_P _ _ _ zt.heap; rw [zh]; exact hP⟩, hS.F zh⟩) hS.2.2 dX2_thing_132
      · have hlt : i < ax := Nat.not_le.mp (fun q => c45 ((nI_leI (by omega) (by omega)).mpr q))
        refine lv_aload_n hx hb dX2_thing_48 rfl (lv_at hl 1 rfl) ?_
        refine va_get (D := (dC, dI)) (ci := 2) (v := .ref (a 4)) (C := RX2) (T := TX2) (N := 27) hx hb hts iw_c_X2_thing_wsX20 hown hK hP 0 rfl rfl 4 (by decide) (hts _ wd_c_X2_thing_X2_thing_5) (fun _ h9 => h9) rfl dX2_thing_49 ?_
        refine lv_iconst (v := nI 3) hx hb dX2_thing_52 (by decide) ?_
        refine lv_aload_n hx hb dX2_thing_53 rfl (lv_at hl 1 rfl) ?_
        refine va_get (D := (dC, dI)) (ci := 2) (v := .int (F2 2)) (C := RX2) (T := TX2) (N := 27) hx hb hts iw_c_X2_thing_wsX20 hown hK hP 0 rfl rfl 2 (by decide) (hts _ wd_c_X2_thing_X2_thing_1) (fun _ h9 => h9) rfl dX2_thing_54 ?_
        refine pt_top (y := nI md) kF2_2 ?_
        refine lv_imul hx hb dX2_thing_57 ?_
        refine pt_top (y := nI (3 * md)) (pk_mul _ _) ?_
        refine lv_iload hx hb dX2_thing_58 (lv_at hl 0 rfl) ?_
        refine lv_iadd hx hb dX2_thing_60 ?_
        refine pt_top (y := nI ((3 * md) + i)) (nI_add _ _) ?_
        refine lv_aload_n hx hb dX2_thing_61 rfl (lv_at hl 1 rfl) ?_
        refine va_get (D := (dC, dI)) (ci := 2) (v := .ref (a 20)) (C := RX2) (T := TX2) (N := 27) hx hb hts iw_c_X2_thing_wsX20 hown hK hP 0 rfl rfl 20 (by decide) (hts _ wd_c_X2_thing_X2_thing_6) (fun _ h9 => h9) rfl dX2_thing_62 ?_
        refine lv_iload hx hb dX2_thing_65 (lv_at hl 0 rfl) ?_
        refine pt_iald hx hb hK hP 16 15 rfl rfl i rfl (by omega) (by decide) dX2_thing_67 ?_
        refine pt_top (y := pt_3 x0 y0 z0 i) (by rw [hsi 20 (by decide) (by decide)]; exact (hlw i hlt).1) ?_
        obtain ⟨A6, eA6⟩ : ∃ zz, zz = va_up Ai 4 (upd (Ai 4) ((3 * md) + i) (pt_3 x0 y0 z0 i)) := ⟨_, rfl⟩
        refine pt_iast hx hb hK hP hD hS 2 1 rfl rfl ((3 * md) + i) rfl (by omega) (by decide) (ws' := (pt_mw a c F2 A6)) (by rw [eA6]; rfl) dX2_thing_68 (fun H locs hP hD hS => ?_)
        refine lv_aload_n hx hb dX2_thing_69 rfl (lv_at hl 1 rfl) ?_
        refine va_get (D := (dC, dI)) (ci := 2) (v := .ref (a 5)) (C := RX2) (T := TX2) (N := 27) hx hb hts iw_c_X2_thing_wsX20 hown hK hP 0 rfl rfl 5 (by decide) (hts _ wd_c_X2_thing_X2_thing_7) (fun _ h9 => h9) rfl dX2_thing_70 ?_
        refine lv_iconst (v := nI 3) hx hb dX2_thing_73 (by decide) ?_
        refine lv_aload_n hx hb dX2_thing_74 rfl (lv_at hl 1 rfl) ?_
        refine va_get (D := (dC, dI)) (ci := 2) (v := .int (F2 2)) (C := RX2) (T := TX2) (N := 27) hx hb hts iw_c_X2_thing_wsX20 hown hK hP 0 rfl rfl 2 (by decide) (hts _ wd_c_X2_thing_X2_thing_1) (fun _ h9 => h9) rfl dX2_thing_75 ?_
        refine pt_top (y := nI md) kF2_2 ?_
        refine lv_imul hx hb dX2_thing_78 ?_
        refine pt_top (y := nI (3 * md)) (pk_mul _ _) ?_
        refine lv_iload hx hb dX2_thing_79 (lv_at hl 0 rfl) ?_
        refine lv_iadd hx hb dX2_thing_81 ?_
        refine pt_top (y := nI ((3 * md) + i)) (nI_add _ _) ?_
        refine lv_aload_n hx hb dX2_thing_82 rfl (lv_at hl 1 rfl) ?_
        refine va_get (D := (dC, dI)) (ci := 2) (v := .ref (a 21)) (C := RX2) (T := TX2) (N := 27) hx hb hts iw_c_X2_thing_wsX20 hown hK hP 0 rfl rfl 21 (by decide) (hts _ wd_c_X2_thing_X2_thing_8) (fun _ h9 => h9) rfl dX2_thing_83 ?_
        refine lv_iload hx hb dX2_thing_86 (lv_at hl 0 rfl) ?_
        refine pt_iald hx hb hK hP 17 16 rfl rfl i rfl (by omega) (by decide) dX2_thing_88 ?_
        refine pt_top (y := pt_3 x1 y1 z1 i) (by rw [eA6, pt_up_ne (by decide), hsi 21 (by decide) (by decide)]; exact (hlw i hlt).2) ?_
        obtain ⟨A7, eA7⟩ : ∃ zz, zz = va_up A6 5 (upd (A6 5) ((3 * md) + i) (pt_3 x1 y1 z1 i)) := ⟨_, rfl⟩
        refine pt_iast hx hb hK hP hD hS 3 2 rfl rfl ((3 * md) + i) rfl (by omega) (by decide) (ws' := (pt_mw a c F2 A7)) (by rw [eA7]; rfl) dX2_thing_89 (fun H locs hP hD hS => ?_)
        refine lv_iinc (v := nI (i + 1)) (lv' := [(7, .int (nI (i + 1))), (0, .ref (a 0)), (1, .int x0), (2, .int x1), (3, .int y0), (4, .int y1), (5, .int z0), (6, .int z1)]) hx hb dX2_thing_90 hl (k := 0) rfl (nI_1 _) (by decide) rfl (fun ls hl => ?_)
        refine lv_goto (tgt := 39) hx hb dX2_thing_93 (by decide) ?_
        have e4 : A7 4 = upd (Ai 4) (3 * md + i) (pt_3 x0 y0 z0 i) := by rw [eA7, pt_up_ne (by decide), eA6, pt_up]
        have e5 : A7 5 = upd (Ai 5) (3 * md + i) (pt_3 x1 y1 z1 i) := by rw [eA7, pt_up, eA6, pt_up_ne (by decide)]
        exact ih (i + 1, A7) _ _ _ ⟨by show i + 1 ≤ ax; omega, ⟨fun z hz => by show A7 4 _ = _ ∧ A7 5 _ = _; rw [e4, e5]; exact pt_put_s (g := fun z => pt_3 x0 y0 z0 z) (g2 := fun z => pt_3 x1 y1 z1 z) hwi rfl rfl z hz, fun k hk => by show A7 4 k = _ ∧ A7 5 k = _; rw [e4, e5, pt_upd_ne (by omega), pt_upd_ne (by omega)]; exact hki k hk, fun j j1 j2 => by show A7 j = _; rw [eA7, pt_up_ne j2, eA6, pt_up_ne j1]; exact hsi j j1 j2⟩, hP, hD, hS, lv_sub hl [0, 1, 2, 3, 4, 5, 6, 7] rfl⟩ (by show ax - (i + 1) < ax - i; omega)
    · have d30 : md = 64 := (nI_eq (by omega) (by omega)).mp c30
      refine lv_bipush (v := (-4)) hx hb dX2_thing_33 (by decide) ?_
      exact W.iret (v := (-4)) hx hb hr (fun zt zh zW => ⟨⟨_, (F2, A2), rfl, (Or.inl ⟨Or.inr ⟨d18, d30, rfl⟩, by show F2 = _; rw [hf2, eF1], ho2⟩), by show va_P _ _ _ zt.heap; rw [zh]; exact hP⟩, hS.F zh⟩) hS.2.2 dX2_thing_35
  · have d18 := hb2.f c18
    refine lv_bipush (v := (-2)) hx hb dX2_thing_21 (by decide) ?_
    exact W.iret (v := (-2)) hx hb hr (fun zt zh zW => ⟨⟨_, (F2, A2), rfl, (Or.inl ⟨Or.inl ⟨d18, rfl⟩, by show F2 = _; rw [hf2, eF1], ho2⟩), by show va_P _ _ _ zt.heap; rw [zh]; exact hP⟩, hS.F zh⟩) hS.2.2 dX2_thing_23

theorem wd_c_X2_dimensions_X2_dimensions_0 : Cond.fieldLink RX2 69 "PointTreesModel" "thrown" "I" ∈ wsX2_dimensions := by decide +kernel
theorem wd_c_X2_dimensions_X2_dimensions_1 : Cond.fieldLink RX2 7 "PointTreesModel" "axes" "I" ∈ wsX2_dimensions := by decide +kernel
theorem wd_c_X2_dimensions_X2_dimensions_2 : Cond.fieldLink RX2 72 "PointTreesModel" "made" "I" ∈ wsX2_dimensions := by decide +kernel
theorem wd_c_X2_dimensions_X2_dimensions_3 : Cond.fieldLink RX2 77 "PointTreesModel" "blocks" "I" ∈ wsX2_dimensions := by decide +kernel
theorem wd_c_X2_dimensions_X2_dimensions_4 : Cond.fieldLink RX2 80 "PointTreesModel" "foundMany" "I" ∈ wsX2_dimensions := by decide +kernel
theorem wd_c_X2_dimensions_X2_dimensions_5 : Cond.fieldLink RX2 83 "PointTreesModel" "opened" "I" ∈ wsX2_dimensions := by decide +kernel
theorem wd_c_X2_dimensions_X2_dimensions_6 : Cond.fieldLink RX2 86 "PointTreesModel" "settled" "I" ∈ wsX2_dimensions := by decide +kernel
theorem wd_c_X2_dimensions_X2_dimensions_7 : Cond.fieldLink RX2 89 "PointTreesModel" "foundThere" "I" ∈ wsX2_dimensions := by decide +kernel
theorem wd_c_X2_dimensions_X2_dimensions_8 : Cond.fieldLink RX2 66 "PointTreesModel" "isFound" "[Z" ∈ wsX2_dimensions := by decide +kernel
theorem wd_c_X2_dimensions_X2_dimensions_9 : Cond.fieldLink RX2 24 "PointTreesModel" "inTree" "[Z" ∈ wsX2_dimensions := by decide +kernel
theorem wd_c_X2_dimensions_X2_dimensions_10 : Cond.fieldLink RX2 13 "PointTreesModel" "there" "[Z" ∈ wsX2_dimensions := by decide +kernel
theorem iw_c_X2_dimensions_wsX20 : ∀ w ∈ wsX20, w ∈ wsX2_dimensions := fun _ h => List.mem_cons_of_mem _ (List.mem_append_right _ h)
set_option maxHeartbeats 4000000 in
set_option maxRecDepth 100000 in
theorem c_X2_dimensions (l : Launch) (dC : Nat → ClassId) (dI : Nat → Nat → Nat) (a : Nat → Nat) (c : Nat → ClassId) (F : Nat → Int32) (A : Nat → Nat → Int32) (sz : Nat) (d : Int32) : Met l yX2_dimensions wsX2_dimensions (pt_rm 0) (pt_W (dC, dI) vwCl (pt_mt c) (pt_mw a c F A) pt_nw sz [.ref (a 0), .int d]) (va_Qi (fun (r : Int32) (u : pt_MS) => ((∀ k, 1 ≤ k → k ≤ 3 → ¬ d = nI k) ∧ r = -2 ∧ u = ((upd F 0 (nI 0)), A)) ∨ ∃ k, 1 ≤ k ∧ k ≤ 3 ∧ d = nI k ∧ r = F 1 ∧ u.1 0 = nI 0 ∧ u.1 1 = nI k ∧ u.1 2 = nI 0 ∧ u.1 8 = nI 0 ∧ u.1 23 = nI 0 ∧ u.1 24 = nI 0 ∧ u.1 25 = nI 0 ∧ u.1 26 = nI 0 ∧ (∀ t, t < 64 → u.2 22 t = 0)) (fun u t => va_P (dC, dI) vwCl (pt_mw a c u.1 u.2) t.heap) (va_A (pt_mw a c F A) sz)) 0 0 (va_A (pt_mw a c F A) sz) := by
  refine Met.ofW (cc := cX2_dimensions) (maxL := 4) (ret := (some .int)) (by decide) rfl ?_
  intro p e s m args below meth cd s₁ B hml hv
  obtain ⟨rfl, hsz, hP, hK, hN, hD0⟩ := hv
  have hx := B.exec
  have hb := B.bytes
  have hr := B.returns
  have hts := atoms_spec (ws := wsX2_dimensions) B.pre
  have hown : s.vm.findClass RX2 = some m.cls := findClass_of_methodNamed B.named
  have hlocks := B.notSynchronized
  subst hsz
  have hD := hD0.self (sz := s.heap.size)
  generalize hAe : va_A (pt_mw a c F A) s.heap.size = AA at hD ⊢
  have hA : ∀ q : Nat, s.heap.size ≤ q → AA q := fun q h => by rw [← hAe]; exact Or.inr h
  have hS : va_S AA s.heap s.heap [] := va_S.rf
  have hl := lv_entry ([.ref (a 0), .int d]) (n := 4) (Nat.le_of_ble_eq_true rfl)
  rw [lg_entry_eq]
  generalize (lg_sl ([.ref (a 0), .int d]) ++ List.replicate (4 - (lg_sl ([.ref (a 0), .int d])).length) Slot.unset).toArray = ls at hl ⊢
  have hl : lv_has ls 4 [(0, .ref (a 0)), (1, .int d)] := hl
  refine lv_aload_n hx hb dX2_dimensions_0 rfl (lv_at hl 0 rfl) ?_
  refine lv_iconst (v := nI 0) hx hb dX2_dimensions_1 (by decide) ?_
  obtain ⟨F1, eF1⟩ : ∃ zz, zz = upd F 0 (nI 0) := ⟨_, rfl⟩
  refine va_put (D := (dC, dI)) (ci := 2) (v := .int (nI 0)) (ty := .int) (C := RX2) (T := TX2) (N := 27) hx hb hts iw_c_X2_dimensions_wsX20 tyX2 tyX2_ok nmX2 hown hK hP hD hS 0 rfl rfl 0 (by decide) (hts _ wd_c_X2_dimensions_X2_dimensions_0) (fun _ h9 => h9) rfl (by decide +kernel) rfl rfl (Nat.le_of_ble_eq_true rfl) dX2_dimensions_2 (fun H locs hP hD hS => ?_)
  have hP : va_P (dC, dI) vwCl (pt_mw a c F1 A) H := by rw [eF1]; exact hP
  have hD : va_D AA (pt_mw a c F1 A) := by rw [eF1]; exact hD
  have kF1_0 : F1 0 = nI 0 := by rw [eF1, pt_upd]
  refine lv_iload_n hx hb dX2_dimensions_5 rfl (lv_at hl 1 rfl) ?_
  refine lv_iconst (v := nI 1) hx hb dX2_dimensions_6 (by decide) ?_
  refine lv_icmp_lt (tgt := 15) hx hb dX2_dimensions_7 (by decide) (fun c7 => ?_) (fun c7 => ?_)
  · refine lv_bipush (v := (-2)) hx hb dX2_dimensions_15 (by decide) ?_
    exact W.iret (v := (-2)) hx hb hr (fun zt zh zW => ⟨⟨_, (F1, A), rfl, (Or.inl ⟨fun k k1 k3 e => by subst e; first | exact c12 (nI_le k3 (by decide)) | exact nI_nlt k1 (by omega) c7, rfl, by rw [eF1]⟩), by show va_P _ _ _ zt.heap; rw [zh]; exact hP⟩, hS.F zh⟩) hS.2.2 dX2_dimensions_17
  · refine lv_iload_n hx hb dX2_dimensions_10 rfl (lv_at hl 1 rfl) ?_
    refine lv_iconst (v := nI 3) hx hb dX2_dimensions_11 (by decide) ?_
    refine lv_icmp_le (tgt := 18) hx hb dX2_dimensions_12 (by decide) (fun c12 => ?_) (fun c12 => ?_)
    · obtain ⟨k, hk1, hk3, ek⟩ := pt_ix13 c7 c12
      subst ek
      refine lv_aload_n hx hb dX2_dimensions_18 rfl (lv_at hl 0 rfl) ?_
      refine va_get (D := (dC, dI)) (ci := 2) (v := .int (F1 1)) (C := RX2) (T := TX2) (N := 27) hx hb hts iw_c_X2_dimensions_wsX20 hown hK hP 0 rfl rfl 1 (by decide) (hts _ wd_c_X2_dimensions_X2_dimensions_1) (fun _ h9 => h9) rfl dX2_dimensions_19 ?_
      refine lv_istore_n (lv' := [(2, .int (F1 1)), (0, .ref (a 0)), (1, .int (nI k))]) hx hb dX2_dimensions_22 rfl hl (by decide) rfl (fun ls hl => ?_)
      refine lv_aload_n hx hb dX2_dimensions_23 rfl (lv_at hl 1 rfl) ?_
      refine lv_iload_n hx hb dX2_dimensions_24 rfl (lv_at hl 2 rfl) ?_
      obtain ⟨F2, eF2⟩ : ∃ zz, zz = upd F1 1 (nI k) := ⟨_, rfl⟩
      refine va_put (D := (dC, dI)) (ci := 2) (v := .int (nI k)) (ty := .int) (C := RX2) (T := TX2) (N := 27) hx hb hts iw_c_X2_dimensions_wsX20 tyX2 tyX2_ok nmX2 hown hK hP hD hS 0 rfl rfl 1 (by decide) (hts _ wd_c_X2_dimensions_X2_dimensions_1) (fun _ h9 => h9) rfl (by decide +kernel) rfl rfl (Nat.le_of_ble_eq_true rfl) dX2_dimensions_25 (fun H locs hP hD hS => ?_)
      have hP : va_P (dC, dI) vwCl (pt_mw a c F2 A) H := by rw [eF2]; exact hP
      have hD : va_D AA (pt_mw a c F2 A) := by rw [eF2]; exact hD
      have kF2_0 : F2 0 = nI 0 := by rw [eF2, pt_upd_ne (by decide)]; exact kF1_0
      have kF2_1 : F2 1 = nI k := by rw [eF2, pt_upd]
      refine lv_aload_n hx hb dX2_dimensions_28 rfl (lv_at hl 1 rfl) ?_
      refine lv_iconst (v := nI 0) hx hb dX2_dimensions_29 (by decide) ?_
      obtain ⟨F3, eF3⟩ : ∃ zz, zz = upd F2 2 (nI 0) := ⟨_, rfl⟩
      refine va_put (D := (dC, dI)) (ci := 2) (v := .int (nI 0)) (ty := .int) (C := RX2) (T := TX2) (N := 27) hx hb hts iw_c_X2_dimensions_wsX20 tyX2 tyX2_ok nmX2 hown hK hP hD hS 0 rfl rfl 2 (by decide) (hts _ wd_c_X2_dimensions_X2_dimensions_2) (fun _ h9 => h9) rfl (by decide +kernel) rfl rfl (Nat.le_of_ble_eq_true rfl) dX2_dimensions_30 (fun H locs hP hD hS => ?_)
      have hP : va_P (dC, dI) vwCl (pt_mw a c F3 A) H := by rw [eF3]; exact hP
      have hD : va_D AA (pt_mw a c F3 A) := by rw [eF3]; exact hD
      have kF3_0 : F3 0 = nI 0 := by rw [eF3, pt_upd_ne (by decide)]; exact kF2_0
      have kF3_1 : F3 1 = nI k := by rw [eF3, pt_upd_ne (by decide)]; exact kF2_1
      have kF3_2 : F3 2 = nI 0 := by rw [eF3, pt_upd]
      refine lv_aload_n hx hb dX2_dimensions_33 rfl (lv_at hl 1 rfl) ?_
      refine lv_iconst (v := nI 0) hx hb dX2_dimensions_34 (by decide) ?_
      obtain ⟨F4, eF4⟩ : ∃ zz, zz = upd F3 8 (nI 0) := ⟨_, rfl⟩
      refine va_put (D := (dC, dI)) (ci := 2) (v := .int (nI 0)) (ty := .int) (C := RX2) (T := TX2) (N := 27) hx hb hts iw_c_X2_dimensions_wsX20 tyX2 tyX2_ok nmX2 hown hK hP hD hS 0 rfl rfl 8 (by decide) (hts _ wd_c_X2_dimensions_X2_dimensions_3) (fun _ h9 => h9) rfl (by decide +kernel) rfl rfl (Nat.le_of_ble_eq_true rfl) dX2_dimensions_35 (fun H locs hP hD hS => ?_)
      have hP : va_P (dC, dI) vwCl (pt_mw a c F4 A) H := by rw [eF4]; exact hP
      have hD : va_D AA (pt_mw a c F4 A) := by rw [eF4]; exact hD
      have kF4_0 : F4 0 = nI 0 := by rw [eF4, pt_upd_ne (by decide)]; exact kF3_0
      have kF4_1 : F4 1 = nI k := by rw [eF4, pt_upd_ne (by decide)]; exact kF3_1
      have kF4_2 : F4 2 = nI 0 := by rw [eF4, pt_upd_ne (by decide)]; exact kF3_2
      have kF4_8 : F4 8 = nI 0 := by rw [eF4, pt_upd]
      refine lv_aload_n hx hb dX2_dimensions_38 rfl (lv_at hl 1 rfl) ?_
      refine lv_iconst (v := nI 0) hx hb dX2_dimensions_39 (by decide) ?_
      obtain ⟨F5, eF5⟩ : ∃ zz, zz = upd F4 23 (nI 0) := ⟨_, rfl⟩
      refine va_put (D := (dC, dI)) (ci := 2) (v := .int (nI 0)) (ty := .int) (C := RX2) (T := TX2) (N := 27) hx hb hts iw_c_X2_dimensions_wsX20 tyX2 tyX2_ok nmX2 hown hK hP hD hS 0 rfl rfl 23 (by decide) (hts _ wd_c_X2_dimensions_X2_dimensions_4) (fun _ h9 => h9) rfl (by decide +kernel) rfl rfl (Nat.le_of_ble_eq_true rfl) dX2_dimensions_40 (fun H locs hP hD hS => ?_)
      have hP : va_P (dC, dI) vwCl (pt_mw a c F5 A) H := by rw [eF5]; exact hP
      have hD : va_D AA (pt_mw a c F5 A) := by rw [eF5]; exact hD
      have kF5_0 : F5 0 = nI 0 := by rw [eF5, pt_upd_ne (by decide)]; exact kF4_0
      have kF5_1 : F5 1 = nI k := by rw [eF5, pt_upd_ne (by decide)]; exact kF4_1
      have kF5_2 : F5 2 = nI 0 := by rw [eF5, pt_upd_ne (by decide)]; exact kF4_2
      have kF5_8 : F5 8 = nI 0 := by rw [eF5, pt_upd_ne (by decide)]; exact kF4_8
      have kF5_23 : F5 23 = nI 0 := by rw [eF5, pt_upd]
      refine lv_aload_n hx hb dX2_dimensions_43 rfl (lv_at hl 1 rfl) ?_
      refine lv_iconst (v := nI 0) hx hb dX2_dimensions_44 (by decide) ?_
      obtain ⟨F6, eF6⟩ : ∃ zz, zz = upd F5 24 (nI 0) := ⟨_, rfl⟩
      refine va_put (D := (dC, dI)) (ci := 2) (v := .int (nI 0)) (ty := .int) (C := RX2) (T := TX2) (N := 27) hx hb hts iw_c_X2_dimensions_wsX20 tyX2 tyX2_ok nmX2 hown hK hP hD hS 0 rfl rfl 24 (by decide) (hts _ wd_c_X2_dimensions_X2_dimensions_5) (fun _ h9 => h9) rfl (by decide +kernel) rfl rfl (Nat.le_of_ble_eq_true rfl) dX2_dimensions_45 (fun H locs hP hD hS => ?_)
      have hP : va_P (dC, dI) vwCl (pt_mw a c F6 A) H := by rw [eF6]; exact hP
      have hD : va_D AA (pt_mw a c F6 A) := by rw [eF6]; exact hD
      have kF6_0 : F6 0 = nI 0 := by rw [eF6, pt_upd_ne (by decide)]; exact kF5_0
      have kF6_1 : F6 1 = nI k := by rw [eF6, pt_upd_ne (by decide)]; exact kF5_1
      have kF6_2 : F6 2 = nI 0 := by rw [eF6, pt_upd_ne (by decide)]; exact kF5_2
      have kF6_8 : F6 8 = nI 0 := by rw [eF6, pt_upd_ne (by decide)]; exact kF5_8
      have kF6_23 : F6 23 = nI 0 := by rw [eF6, pt_upd_ne (by decide)]; exact kF5_23
      have kF6_24 : F6 24 = nI 0 := by rw [eF6, pt_upd]
      refine lv_aload_n hx hb dX2_dimensions_48 rfl (lv_at hl 1 rfl) ?_
      refine lv_iconst (v := nI 0) hx hb dX2_dimensions_49 (by decide) ?_
      obtain ⟨F7, eF7⟩ : ∃ zz, zz = upd F6 25 (nI 0) := ⟨_, rfl⟩
      refine va_put (D := (dC, dI)) (ci := 2) (v := .int (nI 0)) (ty := .int) (C := RX2) (T := TX2) (N := 27) hx hb hts iw_c_X2_dimensions_wsX20 tyX2 tyX2_ok nmX2 hown hK hP hD hS 0 rfl rfl 25 (by decide) (hts _ wd_c_X2_dimensions_X2_dimensions_6) (fun _ h9 => h9) rfl (by decide +kernel) rfl rfl (Nat.le_of_ble_eq_true rfl) dX2_dimensions_50 (fun H locs hP hD hS => ?_)
      have hP : va_P (dC, dI) vwCl (pt_mw a c F7 A) H := by rw [eF7]; exact hP
      have hD : va_D AA (pt_mw a c F7 A) := by rw [eF7]; exact hD
      have kF7_0 : F7 0 = nI 0 := by rw [eF7, pt_upd_ne (by decide)]; exact kF6_0
      have kF7_1 : F7 1 = nI k := by rw [eF7, pt_upd_ne (by decide)]; exact kF6_1
      have kF7_2 : F7 2 = nI 0 := by rw [eF7, pt_upd_ne (by decide)]; exact kF6_2
      have kF7_8 : F7 8 = nI 0 := by rw [eF7, pt_upd_ne (by decide)]; exact kF6_8
      have kF7_23 : F7 23 = nI 0 := by rw [eF7, pt_upd_ne (by decide)]; exact kF6_23
      have kF7_24 : F7 24 = nI 0 := by rw [eF7, pt_upd_ne (by decide)]; exact kF6_24
      have kF7_25 : F7 25 = nI 0 := by rw [eF7, pt_upd]
      refine lv_aload_n hx hb dX2_dimensions_53 rfl (lv_at hl 1 rfl) ?_
      refine lv_iconst (v := nI 0) hx hb dX2_dimensions_54 (by decide) ?_
      obtain ⟨F8, eF8⟩ : ∃ zz, zz = upd F7 26 (nI 0) := ⟨_, rfl⟩
      refine va_put (D := (dC, dI)) (ci := 2) (v := .int (nI 0)) (ty := .int) (C := RX2) (T := TX2) (N := 27) hx hb hts iw_c_X2_dimensions_wsX20 tyX2 tyX2_ok nmX2 hown hK hP hD hS 0 rfl rfl 26 (by decide) (hts _ wd_c_X2_dimensions_X2_dimensions_7) (fun _ h9 => h9) rfl (by decide +kernel) rfl rfl (Nat.le_of_ble_eq_true rfl) dX2_dimensions_55 (fun H locs hP hD hS => ?_)
      have hP : va_P (dC, dI) vwCl (pt_mw a c F8 A) H := by rw [eF8]; exact hP
      have hD : va_D AA (pt_mw a c F8 A) := by rw [eF8]; exact hD
      have kF8_0 : F8 0 = nI 0 := by rw [eF8, pt_upd_ne (by decide)]; exact kF7_0
      have kF8_1 : F8 1 = nI k := by rw [eF8, pt_upd_ne (by decide)]; exact kF7_1
      have kF8_2 : F8 2 = nI 0 := by rw [eF8, pt_upd_ne (by decide)]; exact kF7_2
      have kF8_8 : F8 8 = nI 0 := by rw [eF8, pt_upd_ne (by decide)]; exact kF7_8
      have kF8_23 : F8 23 = nI 0 := by rw [eF8, pt_upd_ne (by decide)]; exact kF7_23
      have kF8_24 : F8 24 = nI 0 := by rw [eF8, pt_upd_ne (by decide)]; exact kF7_24
      have kF8_25 : F8 25 = nI 0 := by rw [eF8, pt_upd_ne (by decide)]; exact kF7_25
      have kF8_26 : F8 26 = nI 0 := by rw [eF8, pt_upd]
      refine lv_iconst (v := nI 0) hx hb dX2_dimensions_58 (by decide) ?_
      refine lv_istore_n (lv' := [(3, .int (nI 0)), (2, .int (F1 1)), (0, .ref (a 0)), (1, .int (nI k))]) hx hb dX2_dimensions_59 rfl hl (by decide) rfl (fun ls hl => ?_)
      refine pt_loopW (fun q : Nat × (Nat → Nat → Int32) => 64 - q.1) (fun q ls H locs => q.1 ≤ 64 ∧ (∀ x, x < q.1 → q.2 22 x = 0) ∧ va_P (dC, dI) vwCl (pt_mw a c F8 q.2) H ∧ va_D AA (pt_mw a c F8 q.2) ∧ va_S AA s.heap H locs ∧ lv_has ls 4 [(3, .int (nI q.1)), (2, .int (F1 1)), (0, .ref (a 0)), (1, .int (nI k))]) ?_ (0, A) _ _ _ ⟨Nat.zero_le _, fun x hx => absurd hx (Nat.not_lt_zero _), hP, hD, hS, hl⟩
      intro ⟨i, Ai⟩ ls H locs ⟨hi, hz, hP, hD, hS, hl⟩ ih
      dsimp only at hi hz hP hD hl ih
      refine lv_iload_n hx hb dX2_dimensions_60 rfl (lv_at hl 0 rfl) ?_
      refine lv_bipush (v := nI 64) hx hb dX2_dimensions_61 (by decide) ?_
      refine lv_icmp_ge (tgt := 93) hx hb dX2_dimensions_63 (by decide) (fun c63 => ?_) (fun c63 => ?_)
      · have hie : i = 64 := by have := (nI_leI (by omega) (by omega)).mp c63; omega
        subst hie
        refine lv_iload_n hx hb dX2_dimensions_93 rfl (lv_at hl 1 rfl) ?_
        exact W.iret (v := (F1 1)) hx hb hr (fun zt zh zW => ⟨⟨_, (F8, Ai), rfl, (Or.inr ⟨k, hk1, hk3, rfl, by rw [eF1, pt_upd_ne (by decide)], kF8_0, kF8_1, kF8_2, kF8_8, kF8_23, kF8_24, kF8_25, kF8_26, hz⟩), by show va_P _ _ _ zt.heap; rw [zh]; exact hP⟩, hS.F zh⟩) hS.2.2 dX2_dimensions_94
      · have hlt : i < 64 := Nat.not_le.mp (fun q => c63 ((nI_leI (by omega) (by omega)).mpr q))
        refine lv_aload_n hx hb dX2_dimensions_66 rfl (lv_at hl 2 rfl) ?_
        refine va_get (D := (dC, dI)) (ci := 2) (v := .ref (a 22)) (C := RX2) (T := TX2) (N := 27) hx hb hts iw_c_X2_dimensions_wsX20 hown hK hP 0 rfl rfl 22 (by decide) (hts _ wd_c_X2_dimensions_X2_dimensions_8) (fun _ h9 => h9) rfl dX2_dimensions_67 ?_
        refine lv_iload_n hx hb dX2_dimensions_70 rfl (lv_at hl 0 rfl) ?_
        refine lv_iconst (v := 0) hx hb dX2_dimensions_71 (by decide) ?_
        obtain ⟨A9, eA9⟩ : ∃ zz, zz = va_up Ai 22 (upd (Ai 22) i 0) := ⟨_, rfl⟩
        refine pt_zast hx hb hK hP hD hS 18 17 rfl rfl i rfl (by omega) (by decide) rfl (ws' := (pt_mw a c F8 A9)) (by rw [eA9]; rfl) dX2_dimensions_72 (fun H locs hP hD hS => ?_)
        refine lv_aload_n hx hb dX2_dimensions_73 rfl (lv_at hl 2 rfl) ?_
        refine va_get (D := (dC, dI)) (ci := 2) (v := .ref (a 6)) (C := RX2) (T := TX2) (N := 27) hx hb hts iw_c_X2_dimensions_wsX20 hown hK hP 0 rfl rfl 6 (by decide) (hts _ wd_c_X2_dimensions_X2_dimensions_9) (fun _ h9 => h9) rfl dX2_dimensions_74 ?_
        refine lv_iload_n hx hb dX2_dimensions_77 rfl (lv_at hl 0 rfl) ?_
        refine lv_iconst (v := 0) hx hb dX2_dimensions_78 (by decide) ?_
        obtain ⟨A10, eA10⟩ : ∃ zz, zz = va_up A9 6 (upd (A9 6) i 0) := ⟨_, rfl⟩
        refine pt_zast hx hb hK hP hD hS 4 3 rfl rfl i rfl (by omega) (by decide) rfl (ws' := (pt_mw a c F8 A10)) (by rw [eA10]; rfl) dX2_dimensions_79 (fun H locs hP hD hS => ?_)
        refine lv_aload_n hx hb dX2_dimensions_80 rfl (lv_at hl 2 rfl) ?_
        refine va_get (D := (dC, dI)) (ci := 2) (v := .ref (a 3)) (C := RX2) (T := TX2) (N := 27) hx hb hts iw_c_X2_dimensions_wsX20 hown hK hP 0 rfl rfl 3 (by decide) (hts _ wd_c_X2_dimensions_X2_dimensions_10) (fun _ h9 => h9) rfl dX2_dimensions_81 ?_
        refine lv_iload_n hx hb dX2_dimensions_84 rfl (lv_at hl 0 rfl) ?_
        refine lv_iconst (v := 0) hx hb dX2_dimensions_85 (by decide) ?_
        obtain ⟨A11, eA11⟩ : ∃ zz, zz = va_up A10 3 (upd (A10 3) i 0) := ⟨_, rfl⟩
        refine pt_zast hx hb hK hP hD hS 1 0 rfl rfl i rfl (by omega) (by decide) rfl (ws' := (pt_mw a c F8 A11)) (by rw [eA11]; rfl) dX2_dimensions_86 (fun H locs hP hD hS => ?_)
        refine lv_iinc (v := nI (i + 1)) (lv' := [(3, .int (nI (i + 1))), (2, .int (F1 1)), (0, .ref (a 0)), (1, .int (nI k))]) hx hb dX2_dimensions_87 hl (k := 0) rfl (nI_1 _) (by decide) rfl (fun ls hl => ?_)
        refine lv_goto (tgt := 60) hx hb dX2_dimensions_90 (by decide) ?_
        exact ih (i + 1, A11) _ _ _ ⟨by show i + 1 ≤ 64; omega, fun x hx => by show A11 22 x = 0; rw [eA11, pt_up_ne (by decide), eA10, pt_up_ne (by decide), eA9, pt_up]; exact pt_upd_s (g := fun _ => 0) hz rfl x hx, hP, hD, hS, lv_sub hl [0, 1, 2, 3] rfl⟩ (by show 64 - (i + 1) < 64 - i; omega)
    · refine lv_bipush (v := (-2)) hx hb dX2_dimensions_15 (by decide) ?_
      exact W.iret (v := (-2)) hx hb hr (fun zt zh zW => ⟨⟨_, (F1, A), rfl, (Or.inl ⟨fun k k1 k3 e => by subst e; first | exact c12 (nI_le k3 (by decide)) | exact nI_nlt k1 (by omega) c7, rfl, by rw [eF1]⟩), by show va_P _ _ _ zt.heap; rw [zh]; exact hP⟩, hS.F zh⟩) hS.2.2 dX2_dimensions_17
