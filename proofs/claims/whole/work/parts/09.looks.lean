noncomputable def pt_if {α : Type} (P : Prop) (x y : α) : α := @ite α P (Classical.propDecidable P) x y
theorem pt_if_t {α : Type} {P : Prop} {x y : α} (h : P) : pt_if P x y = x := by unfold pt_if; exact if_pos h
theorem pt_if_f {α : Type} {P : Prop} {x y : α} (h : ¬ P) : pt_if P x y = y := by unfold pt_if; exact if_neg h
/-- what a block's bounds tell: 0 none, 1 all, 2 not settled -/
noncomputable def pt_vd (rel : Nat) (mt wi ho : Prop) : Nat := if rel = 2 then pt_if ho 2 0 else pt_if mt (pt_if wi (if rel = 3 then 0 else 1) 2) (if rel = 3 then 1 else 0)
def pt_so (rel : Nat) (mt wi ho : Prop) : Prop := match rel with
  | 0 => mt
  | 1 => wi
  | 2 => ho
  | _ => ¬ mt
/-- LOW + HIGH of a thing on an axis -/
def pt_sm (T : Nat → Int32) (x t : Nat) : Int32 := T (t * 6 + x * 2 + 0) + T (t * 6 + x * 2 + 1)
def pt_bf (S : Nat → Int32) (t v : Nat) : Prop := S t < S v ∨ (S t = S v ∧ t < v)
def pt_mn (g : Nat → Int32) (f : Nat) : Nat → Int32
  | 0 => g f
  | n + 1 => if g (f + 1 + n) < pt_mn g f n then g (f + 1 + n) else pt_mn g f n
def pt_mx (g : Nat → Int32) (f : Nat) : Nat → Int32
  | 0 => g f
  | n + 1 => if pt_mx g f n < g (f + 1 + n) then g (f + 1 + n) else pt_mx g f n
def pt_spr (g : Nat → Int32) (f t : Nat) : Int32 := pt_mx g f (t - f - 1) - pt_mn g f (t - f - 1)
def pt_wa (sp : Nat → Int32) : Nat → Nat
  | 0 => 0
  | n + 1 => if sp (pt_wa sp n) < sp n then n else pt_wa sp n
theorem pt_wa_le (sp : Nat → Int32) : ∀ n, pt_wa sp (n + 1) ≤ n
  | 0 => by show (if _ then 0 else 0) ≤ 0; split <;> exact Nat.le_refl 0
  | n + 1 => by
    show (if _ then n + 1 else pt_wa sp (n + 1)) ≤ n + 1
    split
    · exact Nat.le_refl _
    · exact Nat.le_succ_of_le (pt_wa_le sp n)

theorem wd_c_X1_verdictOn_X1_verdictOn_0 : Cond.fieldLink RX1 44 "PointTrees" "bounds" "LPointTrees$Boxes;" ∈ wsX1_verdictOn := by decide +kernel
theorem wd_c_X1_verdictOn_X1_verdictOn_1 : Cond.fieldLink RX1 47 "PointTrees" "asked" "LPointTrees$Boxes;" ∈ wsX1_verdictOn := by decide +kernel
theorem wd_c_X1_verdictOn_X1_verdictOn_2 : Cond.fieldLink RX1 9 "PointTrees" "axes" "I" ∈ wsX1_verdictOn := by decide +kernel
theorem wd_c_X1_verdictOn_X1_verdictOn_3 : Cond.initialized RX0 ∈ wsX1_verdictOn := by decide +kernel
theorem wd_c_X1_verdictOn_X1_verdictOn_4 : Cond.static yX0_meet ∈ wsX1_verdictOn := by decide +kernel
theorem wd_c_X1_verdictOn_X1_verdictOn_5 : Cond.static yX0_within ∈ wsX1_verdictOn := by decide +kernel
theorem iw_c_X1_verdictOn_wsX10 : ∀ w ∈ wsX10, w ∈ wsX1_verdictOn := fun _ h => List.mem_cons_of_mem _ (List.mem_append_left _ (List.mem_append_right _ h))
theorem iw_c_X1_verdictOn_wsX00 : ∀ w ∈ wsX00, w ∈ wsX1_verdictOn := fun _ h => List.mem_cons_of_mem _ (List.mem_append_right _ h)
set_option maxHeartbeats 4000000 in
set_option maxRecDepth 100000 in
theorem c_X1_verdictOn (l : Launch) (dC : Nat → ClassId) (dI : Nat → Nat → Nat) (a : Nat → Nat) (c : Nat → ClassId) (F : Nat → Int32) (A : Nat → Nat → Int32) (Q : Nat → Int64) (ax : Nat) (h0 : F 0 = nI ax) (hax : ax ≤ 3) (b rel : Nat) (hb1 : b < 31) (hrel : rel ≤ 3) : Met l yX1_verdictOn wsX1_verdictOn (pt_rm 2) (pt_R (dC, dI) vwCl (pt_xt c) (pt_xw a c F A Q) pt_nw [.ref (a 0), .int (nI b), .int (nI rel)]) (vp_Si (fun r => r = nI (pt_vd rel (pt_mee ax (A 12) (A 13) b 0) (pt_wn ax (A 12) (A 13) b 0) (pt_wn ax (A 13) (A 12) 0 b)))) 0 0 (fun _ => False) := by
  refine Met.ofW (cc := cX1_verdictOn) (maxL := 3) (ret := (some .int)) (by decide) rfl ?_
  intro p e s m args below meth cd s₁ B hml hv
  obtain ⟨rfl, hP, hK, hN⟩ := hv
  have hx := B.exec
  have hb := B.bytes
  have hr := B.returns
  have hts := atoms_spec (ws := wsX1_verdictOn) B.pre
  have hown : s.vm.findClass RX1 = some m.cls := findClass_of_methodNamed B.named
  have hlocks := B.notSynchronized
  have hl := lv_entry ([.ref (a 0), .int (nI b), .int (nI rel)]) (n := 3) (Nat.le_of_ble_eq_true rfl)
  rw [lg_entry_eq]
  generalize (lg_sl ([.ref (a 0), .int (nI b), .int (nI rel)]) ++ List.replicate (3 - (lg_sl ([.ref (a 0), .int (nI b), .int (nI rel)])).length) Slot.unset).toArray = ls at hl ⊢
  have hl : lv_has ls 3 [(0, .ref (a 0)), (1, .int (nI b)), (2, .int (nI rel))] := hl
  refine lv_iload_n hx hb dX1_verdictOn_0 rfl (lv_at hl 2 rfl) ?_
  refine lv_iconst (v := nI 2) hx hb dX1_verdictOn_1 (by decide) ?_
  refine lv_icmp_ne (tgt := 31) hx hb dX1_verdictOn_2 (by decide) (fun c2 => ?_) (fun c2 => ?_)
  · have d2 : ¬ rel = 2 := fun q => c2 (by rw [q])
    refine lv_aload_n hx hb dX1_verdictOn_31 rfl (lv_at hl 0 rfl) ?_
    refine va_get (D := (dC, dI)) (ci := 1) (v := .ref (a 12)) (C := RX1) (T := TX1) (N := 18) hx hb hts iw_c_X1_verdictOn_wsX10 hown hK hP 0 rfl rfl 12 (by decide) (hts _ wd_c_X1_verdictOn_X1_verdictOn_0) (fun _ h9 => h9) rfl dX1_verdictOn_32 ?_
    refine lv_iload_n hx hb dX1_verdictOn_35 rfl (lv_at hl 1 rfl) ?_
    refine lv_aload_n hx hb dX1_verdictOn_36 rfl (lv_at hl 0 rfl) ?_
    refine va_get (D := (dC, dI)) (ci := 1) (v := .ref (a 13)) (C := RX1) (T := TX1) (N := 18) hx hb hts iw_c_X1_verdictOn_wsX10 hown hK hP 0 rfl rfl 13 (by decide) (hts _ wd_c_X1_verdictOn_X1_verdictOn_1) (fun _ h9 => h9) rfl dX1_verdictOn_37 ?_
    refine lv_iconst (v := nI 0) hx hb dX1_verdictOn_40 (by decide) ?_
    refine lv_aload_n hx hb dX1_verdictOn_41 rfl (lv_at hl 0 rfl) ?_
    refine va_get (D := (dC, dI)) (ci := 1) (v := .int (F 0)) (C := RX1) (T := TX1) (N := 18) hx hb hts iw_c_X1_verdictOn_wsX10 hown hK hP 0 rfl rfl 0 (by decide) (hts _ wd_c_X1_verdictOn_X1_verdictOn_2) (fun _ h9 => h9) rfl dX1_verdictOn_42 ?_
    refine pt_top (y := nI ax) h0 ?_
    refine pt_rdi (va_runSN (As := [.ref (a 12), .int (nI b), .ref (a 13), .int (nI 0), .int (nI ax)]) (rest := []) ⟨hx, hb, hml, hown, hts⟩ (c_X0_meet l dC dI (pt_xt c) (pt_xw a c F A Q) 9 10 7 (a 12) (a 32) (c 12) 186 (A 12) rfl rfl rfl (by decide) 11 12 8 (a 13) (a 33) (c 13) 6 (A 13) rfl rfl rfl (by decide) b 0 ax (by omega) (by omega) hax) ⟨va_cnB 5 hts gX1_verdictOn_X0_meet_n129 rfl rfl rfl (pt_nest hN 7 rfl) (hts _ wd_c_X1_verdictOn_X1_verdictOn_3) (by decide +kernel) ⟨Nat.le_of_ble_eq_true rfl, Nat.le_of_ble_eq_true rfl⟩, (hts _ wd_c_X1_verdictOn_X1_verdictOn_4), trivial⟩ (pt_R.preS hP hK hN) rfl rfl hl.1 rfl (lv_room (Nat.le_of_ble_eq_true rfl)) dX1_verdictOn_45 ⟨Nat.le_of_ble_eq_true rfl, Nat.le_of_ble_eq_true rfl⟩) (fun r45 hr45 => ?_)
    refine lv_if_ne (tgt := 62) hx hb dX1_verdictOn_48 (by decide) (fun c48 => ?_) (fun c48 => ?_)
    · have d48 : (pt_mee ax (A 12) (A 13) b 0) := hr45.t c48
      refine lv_aload_n hx hb dX1_verdictOn_62 rfl (lv_at hl 0 rfl) ?_
      refine va_get (D := (dC, dI)) (ci := 1) (v := .ref (a 12)) (C := RX1) (T := TX1) (N := 18) hx hb hts iw_c_X1_verdictOn_wsX10 hown hK hP 0 rfl rfl 12 (by decide) (hts _ wd_c_X1_verdictOn_X1_verdictOn_0) (fun _ h9 => h9) rfl dX1_verdictOn_63 ?_
      refine lv_iload_n hx hb dX1_verdictOn_66 rfl (lv_at hl 1 rfl) ?_
      refine lv_aload_n hx hb dX1_verdictOn_67 rfl (lv_at hl 0 rfl) ?_
      refine va_get (D := (dC, dI)) (ci := 1) (v := .ref (a 13)) (C := RX1) (T := TX1) (N := 18) hx hb hts iw_c_X1_verdictOn_wsX10 hown hK hP 0 rfl rfl 13 (by decide) (hts _ wd_c_X1_verdictOn_X1_verdictOn_1) (fun _ h9 => h9) rfl dX1_verdictOn_68 ?_
      refine lv_iconst (v := nI 0) hx hb dX1_verdictOn_71 (by decide) ?_
      refine lv_aload_n hx hb dX1_verdictOn_72 rfl (lv_at hl 0 rfl) ?_
      refine va_get (D := (dC, dI)) (ci := 1) (v := .int (F 0)) (C := RX1) (T := TX1) (N := 18) hx hb hts iw_c_X1_verdictOn_wsX10 hown hK hP 0 rfl rfl 0 (by decide) (hts _ wd_c_X1_verdictOn_X1_verdictOn_2) (fun _ h9 => h9) rfl dX1_verdictOn_73 ?_
      refine pt_top (y := nI ax) h0 ?_
      refine pt_rdi (va_runSN (As := [.ref (a 12), .int (nI b), .ref (a 13), .int (nI 0), .int (nI ax)]) (rest := []) ⟨hx, hb, hml, hown, hts⟩ (c_X0_within l dC dI (pt_xt c) (pt_xw a c F A Q) 9 10 7 (a 12) (a 32) (c 12) 186 (A 12) rfl rfl rfl (by decide) 11 12 8 (a 13) (a 33) (c 13) 6 (A 13) rfl rfl rfl (by decide) b 0 ax (by omega) (by omega) hax) ⟨va_cnB 5 hts gX1_verdictOn_X0_within_n192 rfl rfl rfl (pt_nest hN 6 rfl) (hts _ wd_c_X1_verdictOn_X1_verdictOn_3) (by decide +kernel) ⟨Nat.le_of_ble_eq_true rfl, Nat.le_of_ble_eq_true rfl⟩, (hts _ wd_c_X1_verdictOn_X1_verdictOn_5), trivial⟩ (pt_R.preS hP hK hN) rfl rfl hl.1 rfl (lv_room (Nat.le_of_ble_eq_true rfl)) dX1_verdictOn_76 ⟨Nat.le_of_ble_eq_true rfl, Nat.le_of_ble_eq_true rfl⟩) (fun r76 hr76 => ?_)
      refine lv_if_eq (tgt := 93) hx hb dX1_verdictOn_79 (by decide) (fun c79 => ?_) (fun c79 => ?_)
      · have d79 : ¬ (pt_wn ax (A 12) (A 13) b 0) := hr76.f c79
        refine lv_iconst (v := nI 2) hx hb dX1_verdictOn_93 (by decide) ?_
        exact W.iret (v := nI 2) hx hb hr (fun zt zh zW => ⟨_, rfl, (by unfold pt_vd; first | (rw [if_neg d2, pt_if_t d48, pt_if_f d79]; done)), zh⟩) (fun q h => by cases h) dX1_verdictOn_94
      · have d79 : (pt_wn ax (A 12) (A 13) b 0) := hr76.t c79
        refine lv_iload_n hx hb dX1_verdictOn_82 rfl (lv_at hl 2 rfl) ?_
        refine lv_iconst (v := nI 3) hx hb dX1_verdictOn_83 (by decide) ?_
        refine lv_icmp_ne (tgt := 91) hx hb dX1_verdictOn_84 (by decide) (fun c84 => ?_) (fun c84 => ?_)
        · have d84 : ¬ rel = 3 := fun q => c84 (by rw [q])
          refine lv_iconst (v := nI 1) hx hb dX1_verdictOn_91 (by decide) ?_
          exact W.iret (v := nI 1) hx hb hr (fun zt zh zW => ⟨_, rfl, (by unfold pt_vd; first | (rw [if_neg d2, pt_if_t d48, pt_if_t d79, if_pos d84]; done) | (rw [if_neg d2, pt_if_t d48, pt_if_t d79, if_neg d84]; done)), zh⟩) (fun q h => by cases h) dX1_verdictOn_92
        · have d84 : rel = 3 := (nI_eq (by omega) (by omega)).mp c84
          refine lv_iconst (v := nI 0) hx hb dX1_verdictOn_87 (by decide) ?_
          refine lv_goto (tgt := 92) hx hb dX1_verdictOn_88 (by decide) ?_
          exact W.iret (v := nI 0) hx hb hr (fun zt zh zW => ⟨_, rfl, (by unfold pt_vd; first | (rw [if_neg d2, pt_if_t d48, pt_if_t d79, if_pos d84]; done) | (rw [if_neg d2, pt_if_t d48, pt_if_t d79, if_neg d84]; done)), zh⟩) (fun q h => by cases h) dX1_verdictOn_92
    · have d48 : ¬ (pt_mee ax (A 12) (A 13) b 0) := hr45.f c48
      refine lv_iload_n hx hb dX1_verdictOn_51 rfl (lv_at hl 2 rfl) ?_
      refine lv_iconst (v := nI 3) hx hb dX1_verdictOn_52 (by decide) ?_
      refine lv_icmp_ne (tgt := 60) hx hb dX1_verdictOn_53 (by decide) (fun c53 => ?_) (fun c53 => ?_)
      · have d53 : ¬ rel = 3 := fun q => c53 (by rw [q])
        refine lv_iconst (v := nI 0) hx hb dX1_verdictOn_60 (by decide) ?_
        exact W.iret (v := nI 0) hx hb hr (fun zt zh zW => ⟨_, rfl, (by unfold pt_vd; first | (rw [if_neg d2, pt_if_f d48, if_pos d53]; done) | (rw [if_neg d2, pt_if_f d48, if_neg d53]; done)), zh⟩) (fun q h => by cases h) dX1_verdictOn_61
      · have d53 : rel = 3 := (nI_eq (by omega) (by omega)).mp c53
        refine lv_iconst (v := nI 1) hx hb dX1_verdictOn_56 (by decide) ?_
        refine lv_goto (tgt := 61) hx hb dX1_verdictOn_57 (by decide) ?_
        exact W.iret (v := nI 1) hx hb hr (fun zt zh zW => ⟨_, rfl, (by unfold pt_vd; first | (rw [if_neg d2, pt_if_f d48, if_pos d53]; done) | (rw [if_neg d2, pt_if_f d48, if_neg d53]; done)), zh⟩) (fun q h => by cases h) dX1_verdictOn_61
  · have d2 : rel = 2 := (nI_eq (by omega) (by omega)).mp c2
    refine lv_aload_n hx hb dX1_verdictOn_5 rfl (lv_at hl 0 rfl) ?_
    refine va_get (D := (dC, dI)) (ci := 1) (v := .ref (a 13)) (C := RX1) (T := TX1) (N := 18) hx hb hts iw_c_X1_verdictOn_wsX10 hown hK hP 0 rfl rfl 13 (by decide) (hts _ wd_c_X1_verdictOn_X1_verdictOn_1) (fun _ h9 => h9) rfl dX1_verdictOn_6 ?_
    refine lv_iconst (v := nI 0) hx hb dX1_verdictOn_9 (by decide) ?_
    refine lv_aload_n hx hb dX1_verdictOn_10 rfl (lv_at hl 0 rfl) ?_
    refine va_get (D := (dC, dI)) (ci := 1) (v := .ref (a 12)) (C := RX1) (T := TX1) (N := 18) hx hb hts iw_c_X1_verdictOn_wsX10 hown hK hP 0 rfl rfl 12 (by decide) (hts _ wd_c_X1_verdictOn_X1_verdictOn_0) (fun _ h9 => h9) rfl dX1_verdictOn_11 ?_
    refine lv_iload_n hx hb dX1_verdictOn_14 rfl (lv_at hl 1 rfl) ?_
    refine lv_aload_n hx hb dX1_verdictOn_15 rfl (lv_at hl 0 rfl) ?_
    refine va_get (D := (dC, dI)) (ci := 1) (v := .int (F 0)) (C := RX1) (T := TX1) (N := 18) hx hb hts iw_c_X1_verdictOn_wsX10 hown hK hP 0 rfl rfl 0 (by decide) (hts _ wd_c_X1_verdictOn_X1_verdictOn_2) (fun _ h9 => h9) rfl dX1_verdictOn_16 ?_
    refine pt_top (y := nI ax) h0 ?_
    refine pt_rdi (va_runSN (As := [.ref (a 13), .int (nI 0), .ref (a 12), .int (nI b), .int (nI ax)]) (rest := []) ⟨hx, hb, hml, hown, hts⟩ (c_X0_within l dC dI (pt_xt c) (pt_xw a c F A Q) 11 12 8 (a 13) (a 33) (c 13) 6 (A 13) rfl rfl rfl (by decide) 9 10 7 (a 12) (a 32) (c 12) 186 (A 12) rfl rfl rfl (by decide) 0 b ax (by omega) (by omega) hax) ⟨va_cnB 5 hts gX1_verdictOn_X0_within_n192 rfl rfl rfl (pt_nest hN 6 rfl) (hts _ wd_c_X1_verdictOn_X1_verdictOn_3) (by decide +kernel) ⟨Nat.le_of_ble_eq_true rfl, Nat.le_of_ble_eq_true rfl⟩, (hts _ wd_c_X1_verdictOn_X1_verdictOn_5), trivial⟩ (pt_R.preS hP hK hN) rfl rfl hl.1 rfl (lv_room (Nat.le_of_ble_eq_true rfl)) dX1_verdictOn_19 ⟨Nat.le_of_ble_eq_true rfl, Nat.le_of_ble_eq_true rfl⟩) (fun r19 hr19 => ?_)
    refine lv_if_eq (tgt := 29) hx hb dX1_verdictOn_22 (by decide) (fun c22 => ?_) (fun c22 => ?_)
    · have d22 : ¬ (pt_wn ax (A 13) (A 12) 0 b) := hr19.f c22
      refine lv_iconst (v := nI 0) hx hb dX1_verdictOn_29 (by decide) ?_
      exact W.iret (v := nI 0) hx hb hr (fun zt zh zW => ⟨_, rfl, (by unfold pt_vd; first | (rw [if_pos d2, pt_if_t d22]; done) | (rw [if_pos d2, pt_if_f d22]; done)), zh⟩) (fun q h => by cases h) dX1_verdictOn_30
    · have d22 : (pt_wn ax (A 13) (A 12) 0 b) := hr19.t c22
      refine lv_iconst (v := nI 2) hx hb dX1_verdictOn_25 (by decide) ?_
      refine lv_goto (tgt := 30) hx hb dX1_verdictOn_26 (by decide) ?_
      exact W.iret (v := nI 2) hx hb hr (fun zt zh zW => ⟨_, rfl, (by unfold pt_vd; first | (rw [if_pos d2, pt_if_t d22]; done) | (rw [if_pos d2, pt_if_f d22]; done)), zh⟩) (fun q h => by cases h) dX1_verdictOn_30

theorem wd_c_X1_isSo_X1_isSo_0 : Cond.fieldLink RX1 24 "PointTrees" "things" "LPointTrees$Boxes;" ∈ wsX1_isSo := by decide +kernel
theorem wd_c_X1_isSo_X1_isSo_1 : Cond.fieldLink RX1 47 "PointTrees" "asked" "LPointTrees$Boxes;" ∈ wsX1_isSo := by decide +kernel
theorem wd_c_X1_isSo_X1_isSo_2 : Cond.fieldLink RX1 9 "PointTrees" "axes" "I" ∈ wsX1_isSo := by decide +kernel
theorem wd_c_X1_isSo_X1_isSo_3 : Cond.initialized RX0 ∈ wsX1_isSo := by decide +kernel
theorem wd_c_X1_isSo_X1_isSo_4 : Cond.static yX0_meet ∈ wsX1_isSo := by decide +kernel
theorem wd_c_X1_isSo_X1_isSo_5 : Cond.static yX0_within ∈ wsX1_isSo := by decide +kernel
theorem iw_c_X1_isSo_wsX10 : ∀ w ∈ wsX10, w ∈ wsX1_isSo := fun _ h => List.mem_cons_of_mem _ (List.mem_append_left _ (List.mem_append_right _ h))
theorem iw_c_X1_isSo_wsX00 : ∀ w ∈ wsX00, w ∈ wsX1_isSo := fun _ h => List.mem_cons_of_mem _ (List.mem_append_right _ h)
set_option maxHeartbeats 4000000 in
set_option maxRecDepth 100000 in
theorem c_X1_isSo (l : Launch) (dC : Nat → ClassId) (dI : Nat → Nat → Nat) (a : Nat → Nat) (c : Nat → ClassId) (F : Nat → Int32) (A : Nat → Nat → Int32) (Q : Nat → Int64) (ax : Nat) (h0 : F 0 = nI ax) (hax : ax ≤ 3) (t rel : Nat) (ht : t < 64) (hrel : rel ≤ 3) : Met l yX1_isSo wsX1_isSo (pt_rm 2) (pt_R (dC, dI) vwCl (pt_xt c) (pt_xw a c F A Q) pt_nw [.ref (a 0), .int (nI t), .int (nI rel)]) (vp_Si (fun r => pt_B r (pt_so rel (pt_mee ax (A 4) (A 13) t 0) (pt_wn ax (A 4) (A 13) t 0) (pt_wn ax (A 13) (A 4) 0 t)))) 0 0 (fun _ => False) := by
  refine Met.ofW (cc := cX1_isSo) (maxL := 3) (ret := (some .boolean)) (by decide) rfl ?_
  intro p e s m args below meth cd s₁ B hml hv
  obtain ⟨rfl, hP, hK, hN⟩ := hv
  have hx := B.exec
  have hb := B.bytes
  have hr := B.returns
  have hts := atoms_spec (ws := wsX1_isSo) B.pre
  have hown : s.vm.findClass RX1 = some m.cls := findClass_of_methodNamed B.named
  have hlocks := B.notSynchronized
  have hl := lv_entry ([.ref (a 0), .int (nI t), .int (nI rel)]) (n := 3) (Nat.le_of_ble_eq_true rfl)
  rw [lg_entry_eq]
  generalize (lg_sl ([.ref (a 0), .int (nI t), .int (nI rel)]) ++ List.replicate (3 - (lg_sl ([.ref (a 0), .int (nI t), .int (nI rel)])).length) Slot.unset).toArray = ls at hl ⊢
  have hl : lv_has ls 3 [(0, .ref (a 0)), (1, .int (nI t)), (2, .int (nI rel))] := hl
  refine lv_iload_n hx hb dX1_isSo_0 rfl (lv_at hl 2 rfl) ?_
  rcases (show rel = 0 ∨ rel = 1 ∨ rel = 2 ∨ rel = 3 by omega) with rfl | rfl | rfl | rfl
  · refine lv_tableIn (tgt := 28) hx hb dX1_isSo_1 (by decide) (by decide) rfl (by decide) ?_
    refine lv_aload_n hx hb dX1_isSo_28 rfl (lv_at hl 0 rfl) ?_
    refine va_get (D := (dC, dI)) (ci := 1) (v := .ref (a 4)) (C := RX1) (T := TX1) (N := 18) hx hb hts iw_c_X1_isSo_wsX10 hown hK hP 0 rfl rfl 4 (by decide) (hts _ wd_c_X1_isSo_X1_isSo_0) (fun _ h9 => h9) rfl dX1_isSo_29 ?_
    refine lv_iload_n hx hb dX1_isSo_32 rfl (lv_at hl 1 rfl) ?_
    refine lv_aload_n hx hb dX1_isSo_33 rfl (lv_at hl 0 rfl) ?_
    refine va_get (D := (dC, dI)) (ci := 1) (v := .ref (a 13)) (C := RX1) (T := TX1) (N := 18) hx hb hts iw_c_X1_isSo_wsX10 hown hK hP 0 rfl rfl 13 (by decide) (hts _ wd_c_X1_isSo_X1_isSo_1) (fun _ h9 => h9) rfl dX1_isSo_34 ?_
    refine lv_iconst (v := nI 0) hx hb dX1_isSo_37 (by decide) ?_
    refine lv_aload_n hx hb dX1_isSo_38 rfl (lv_at hl 0 rfl) ?_
    refine va_get (D := (dC, dI)) (ci := 1) (v := .int (F 0)) (C := RX1) (T := TX1) (N := 18) hx hb hts iw_c_X1_isSo_wsX10 hown hK hP 0 rfl rfl 0 (by decide) (hts _ wd_c_X1_isSo_X1_isSo_2) (fun _ h9 => h9) rfl dX1_isSo_39 ?_
    refine pt_top (y := nI ax) h0 ?_
    refine pt_rdi (va_runSN (As := [.ref (a 4), .int (nI t), .ref (a 13), .int (nI 0), .int (nI ax)]) (rest := []) ⟨hx, hb, hml, hown, hts⟩ (c_X0_meet l dC dI (pt_xt c) (pt_xw a c F A Q) 2 3 1 (a 4) (a 24) (c 4) 384 (A 4) rfl rfl rfl (by decide) 11 12 8 (a 13) (a 33) (c 13) 6 (A 13) rfl rfl rfl (by decide) t 0 ax (by omega) (by omega) hax) ⟨va_cnB 5 hts gX1_isSo_X0_meet_n129 rfl rfl rfl (pt_nest hN 7 rfl) (hts _ wd_c_X1_isSo_X1_isSo_3) (by decide +kernel) ⟨Nat.le_of_ble_eq_true rfl, Nat.le_of_ble_eq_true rfl⟩, (hts _ wd_c_X1_isSo_X1_isSo_4), trivial⟩ (pt_R.preS hP hK hN) rfl rfl hl.1 rfl (lv_room (Nat.le_of_ble_eq_true rfl)) dX1_isSo_42 ⟨Nat.le_of_ble_eq_true rfl, Nat.le_of_ble_eq_true rfl⟩) (fun r42 hr42 => ?_)
    exact W.zret (v := r42) hx hb hr hr42.nar (fun zt zh zW => ⟨_, rfl, hr42, zh⟩) (fun q h => by cases h) dX1_isSo_45
  · refine lv_tableIn (tgt := 46) hx hb dX1_isSo_1 (by decide) (by decide) rfl (by decide) ?_
    refine lv_aload_n hx hb dX1_isSo_46 rfl (lv_at hl 0 rfl) ?_
    refine va_get (D := (dC, dI)) (ci := 1) (v := .ref (a 4)) (C := RX1) (T := TX1) (N := 18) hx hb hts iw_c_X1_isSo_wsX10 hown hK hP 0 rfl rfl 4 (by decide) (hts _ wd_c_X1_isSo_X1_isSo_0) (fun _ h9 => h9) rfl dX1_isSo_47 ?_
    refine lv_iload_n hx hb dX1_isSo_50 rfl (lv_at hl 1 rfl) ?_
    refine lv_aload_n hx hb dX1_isSo_51 rfl (lv_at hl 0 rfl) ?_
    refine va_get (D := (dC, dI)) (ci := 1) (v := .ref (a 13)) (C := RX1) (T := TX1) (N := 18) hx hb hts iw_c_X1_isSo_wsX10 hown hK hP 0 rfl rfl 13 (by decide) (hts _ wd_c_X1_isSo_X1_isSo_1) (fun _ h9 => h9) rfl dX1_isSo_52 ?_
    refine lv_iconst (v := nI 0) hx hb dX1_isSo_55 (by decide) ?_
    refine lv_aload_n hx hb dX1_isSo_56 rfl (lv_at hl 0 rfl) ?_
    refine va_get (D := (dC, dI)) (ci := 1) (v := .int (F 0)) (C := RX1) (T := TX1) (N := 18) hx hb hts iw_c_X1_isSo_wsX10 hown hK hP 0 rfl rfl 0 (by decide) (hts _ wd_c_X1_isSo_X1_isSo_2) (fun _ h9 => h9) rfl dX1_isSo_57 ?_
    refine pt_top (y := nI ax) h0 ?_
    refine pt_rdi (va_runSN (As := [.ref (a 4), .int (nI t), .ref (a 13), .int (nI 0), .int (nI ax)]) (rest := []) ⟨hx, hb, hml, hown, hts⟩ (c_X0_within l dC dI (pt_xt c) (pt_xw a c F A Q) 2 3 1 (a 4) (a 24) (c 4) 384 (A 4) rfl rfl rfl (by decide) 11 12 8 (a 13) (a 33) (c 13) 6 (A 13) rfl rfl rfl (by decide) t 0 ax (by omega) (by omega) hax) ⟨va_cnB 5 hts gX1_isSo_X0_within_n192 rfl rfl rfl (pt_nest hN 6 rfl) (hts _ wd_c_X1_isSo_X1_isSo_3) (by decide +kernel) ⟨Nat.le_of_ble_eq_true rfl, Nat.le_of_ble_eq_true rfl⟩, (hts _ wd_c_X1_isSo_X1_isSo_5), trivial⟩ (pt_R.preS hP hK hN) rfl rfl hl.1 rfl (lv_room (Nat.le_of_ble_eq_true rfl)) dX1_isSo_60 ⟨Nat.le_of_ble_eq_true rfl, Nat.le_of_ble_eq_true rfl⟩) (fun r60 hr60 => ?_)
    exact W.zret (v := r60) hx hb hr hr60.nar (fun zt zh zW => ⟨_, rfl, hr60, zh⟩) (fun q h => by cases h) dX1_isSo_63
  · refine lv_tableIn (tgt := 64) hx hb dX1_isSo_1 (by decide) (by decide) rfl (by decide) ?_
    refine lv_aload_n hx hb dX1_isSo_64 rfl (lv_at hl 0 rfl) ?_
    refine va_get (D := (dC, dI)) (ci := 1) (v := .ref (a 13)) (C := RX1) (T := TX1) (N := 18) hx hb hts iw_c_X1_isSo_wsX10 hown hK hP 0 rfl rfl 13 (by decide) (hts _ wd_c_X1_isSo_X1_isSo_1) (fun _ h9 => h9) rfl dX1_isSo_65 ?_
    refine lv_iconst (v := nI 0) hx hb dX1_isSo_68 (by decide) ?_
    refine lv_aload_n hx hb dX1_isSo_69 rfl (lv_at hl 0 rfl) ?_
    refine va_get (D := (dC, dI)) (ci := 1) (v := .ref (a 4)) (C := RX1) (T := TX1) (N := 18) hx hb hts iw_c_X1_isSo_wsX10 hown hK hP 0 rfl rfl 4 (by decide) (hts _ wd_c_X1_isSo_X1_isSo_0) (fun _ h9 => h9) rfl dX1_isSo_70 ?_
    refine lv_iload_n hx hb dX1_isSo_73 rfl (lv_at hl 1 rfl) ?_
    refine lv_aload_n hx hb dX1_isSo_74 rfl (lv_at hl 0 rfl) ?_
    refine va_get (D := (dC, dI)) (ci := 1) (v := .int (F 0)) (C := RX1) (T := TX1) (N := 18) hx hb hts iw_c_X1_isSo_wsX10 hown hK hP 0 rfl rfl 0 (by decide) (hts _ wd_c_X1_isSo_X1_isSo_2) (fun _ h9 => h9) rfl dX1_isSo_75 ?_
    refine pt_top (y := nI ax) h0 ?_
    refine pt_rdi (va_runSN (As := [.ref (a 13), .int (nI 0), .ref (a 4), .int (nI t), .int (nI ax)]) (rest := []) ⟨hx, hb, hml, hown, hts⟩ (c_X0_within l dC dI (pt_xt c) (pt_xw a c F A Q) 11 12 8 (a 13) (a 33) (c 13) 6 (A 13) rfl rfl rfl (by decide) 2 3 1 (a 4) (a 24) (c 4) 384 (A 4) rfl rfl rfl (by decide) 0 t ax (by omega) (by omega) hax) ⟨va_cnB 5 hts gX1_isSo_X0_within_n192 rfl rfl rfl (pt_nest hN 6 rfl) (hts _ wd_c_X1_isSo_X1_isSo_3) (by decide +kernel) ⟨Nat.le_of_ble_eq_true rfl, Nat.le_of_ble_eq_true rfl⟩, (hts _ wd_c_X1_isSo_X1_isSo_5), trivial⟩ (pt_R.preS hP hK hN) rfl rfl hl.1 rfl (lv_room (Nat.le_of_ble_eq_true rfl)) dX1_isSo_78 ⟨Nat.le_of_ble_eq_true rfl, Nat.le_of_ble_eq_true rfl⟩) (fun r78 hr78 => ?_)
    exact W.zret (v := r78) hx hb hr hr78.nar (fun zt zh zW => ⟨_, rfl, hr78, zh⟩) (fun q h => by cases h) dX1_isSo_81
  · refine lv_tableOut (tgt := 82) hx hb dX1_isSo_1 (by decide) (by decide) ?_
    refine lv_aload_n hx hb dX1_isSo_82 rfl (lv_at hl 0 rfl) ?_
    refine va_get (D := (dC, dI)) (ci := 1) (v := .ref (a 4)) (C := RX1) (T := TX1) (N := 18) hx hb hts iw_c_X1_isSo_wsX10 hown hK hP 0 rfl rfl 4 (by decide) (hts _ wd_c_X1_isSo_X1_isSo_0) (fun _ h9 => h9) rfl dX1_isSo_83 ?_
    refine lv_iload_n hx hb dX1_isSo_86 rfl (lv_at hl 1 rfl) ?_
    refine lv_aload_n hx hb dX1_isSo_87 rfl (lv_at hl 0 rfl) ?_
    refine va_get (D := (dC, dI)) (ci := 1) (v := .ref (a 13)) (C := RX1) (T := TX1) (N := 18) hx hb hts iw_c_X1_isSo_wsX10 hown hK hP 0 rfl rfl 13 (by decide) (hts _ wd_c_X1_isSo_X1_isSo_1) (fun _ h9 => h9) rfl dX1_isSo_88 ?_
    refine lv_iconst (v := nI 0) hx hb dX1_isSo_91 (by decide) ?_
    refine lv_aload_n hx hb dX1_isSo_92 rfl (lv_at hl 0 rfl) ?_
    refine va_get (D := (dC, dI)) (ci := 1) (v := .int (F 0)) (C := RX1) (T := TX1) (N := 18) hx hb hts iw_c_X1_isSo_wsX10 hown hK hP 0 rfl rfl 0 (by decide) (hts _ wd_c_X1_isSo_X1_isSo_2) (fun _ h9 => h9) rfl dX1_isSo_93 ?_
    refine pt_top (y := nI ax) h0 ?_
    refine pt_rdi (va_runSN (As := [.ref (a 4), .int (nI t), .ref (a 13), .int (nI 0), .int (nI ax)]) (rest := []) ⟨hx, hb, hml, hown, hts⟩ (c_X0_meet l dC dI (pt_xt c) (pt_xw a c F A Q) 2 3 1 (a 4) (a 24) (c 4) 384 (A 4) rfl rfl rfl (by decide) 11 12 8 (a 13) (a 33) (c 13) 6 (A 13) rfl rfl rfl (by decide) t 0 ax (by omega) (by omega) hax) ⟨va_cnB 5 hts gX1_isSo_X0_meet_n129 rfl rfl rfl (pt_nest hN 7 rfl) (hts _ wd_c_X1_isSo_X1_isSo_3) (by decide +kernel) ⟨Nat.le_of_ble_eq_true rfl, Nat.le_of_ble_eq_true rfl⟩, (hts _ wd_c_X1_isSo_X1_isSo_4), trivial⟩ (pt_R.preS hP hK hN) rfl rfl hl.1 rfl (lv_room (Nat.le_of_ble_eq_true rfl)) dX1_isSo_96 ⟨Nat.le_of_ble_eq_true rfl, Nat.le_of_ble_eq_true rfl⟩) (fun r96 hr96 => ?_)
    refine lv_if_ne (tgt := 106) hx hb dX1_isSo_99 (by decide) (fun c99 => ?_) (fun c99 => ?_)
    · have d99 : (pt_mee ax (A 4) (A 13) t 0) := hr96.t c99
      refine lv_iconst (v := 0) hx hb dX1_isSo_106 (by decide) ?_
      exact W.zret (v := 0) hx hb hr rfl (fun zt zh zW => ⟨_, rfl, (pt_B.zero (fun q => q d99)), zh⟩) (fun q h => by cases h) dX1_isSo_107
    · have d99 : ¬ (pt_mee ax (A 4) (A 13) t 0) := hr96.f c99
      refine lv_iconst (v := 1) hx hb dX1_isSo_102 (by decide) ?_
      refine lv_goto (tgt := 107) hx hb dX1_isSo_103 (by decide) ?_
      exact W.zret (v := 1) hx hb hr rfl (fun zt zh zW => ⟨_, rfl, (pt_B.one d99), zh⟩) (fun q h => by cases h) dX1_isSo_107

theorem wd_c_X1_comesBefore_X1_comesBefore_0 : Cond.fieldLink RX1 24 "PointTrees" "things" "LPointTrees$Boxes;" ∈ wsX1_comesBefore := by decide +kernel
theorem wd_c_X1_comesBefore_X1_comesBefore_1 : Cond.initialized RX0 ∈ wsX1_comesBefore := by decide +kernel
theorem wd_c_X1_comesBefore_X1_comesBefore_2 : Cond.instanceMethod yX0_sum ∈ wsX1_comesBefore := by decide +kernel
theorem wd_c_X1_comesBefore_X1_comesBefore_3 : Cond.selects RX0 yX0_sum yX0_sum ∈ wsX1_comesBefore := by decide +kernel
theorem iw_c_X1_comesBefore_wsX10 : ∀ w ∈ wsX10, w ∈ wsX1_comesBefore := fun _ h => List.mem_cons_of_mem _ (List.mem_append_left _ (List.mem_append_right _ h))
theorem iw_c_X1_comesBefore_wsX00 : ∀ w ∈ wsX00, w ∈ wsX1_comesBefore := fun _ h => List.mem_cons_of_mem _ (List.mem_append_right _ h)
set_option maxHeartbeats 4000000 in
set_option maxRecDepth 100000 in
theorem c_X1_comesBefore (l : Launch) (dC : Nat → ClassId) (dI : Nat → Nat → Nat) (a : Nat → Nat) (c : Nat → ClassId) (F : Nat → Int32) (A : Nat → Nat → Int32) (Q : Nat → Int64) (t v x : Nat) (ht : t < 64) (hv1 : v < 64) (hx1 : x < 3) : Met l yX1_comesBefore wsX1_comesBefore (pt_rm 2) (pt_R (dC, dI) vwCl (pt_xt c) (pt_xw a c F A Q) pt_nw [.ref (a 0), .int (nI t), .int (nI v), .int (nI x)]) (vp_Si (fun r => pt_B r (pt_bf (pt_sm (A 4) x) t v))) 0 0 (fun _ => False) := by
  refine Met.ofW (cc := cX1_comesBefore) (maxL := 6) (ret := (some .boolean)) (by decide) rfl ?_
  intro p e s m args below meth cd s₁ B hml hv
  obtain ⟨rfl, hP, hK, hN⟩ := hv
  have hx := B.exec
  have hb := B.bytes
  have hr := B.returns
  have hts := atoms_spec (ws := wsX1_comesBefore) B.pre
  have hown : s.vm.findClass RX1 = some m.cls := findClass_of_methodNamed B.named
  have hlocks := B.notSynchronized
  have hl := lv_entry ([.ref (a 0), .int (nI t), .int (nI v), .int (nI x)]) (n := 6) (Nat.le_of_ble_eq_true rfl)
  rw [lg_entry_eq]
  generalize (lg_sl ([.ref (a 0), .int (nI t), .int (nI v), .int (nI x)]) ++ List.replicate (6 - (lg_sl ([.ref (a 0), .int (nI t), .int (nI v), .int (nI x)])).length) Slot.unset).toArray = ls at hl ⊢
  have hl : lv_has ls 6 [(0, .ref (a 0)), (1, .int (nI t)), (2, .int (nI v)), (3, .int (nI x))] := hl
  refine lv_aload_n hx hb dX1_comesBefore_0 rfl (lv_at hl 0 rfl) ?_
  refine va_get (D := (dC, dI)) (ci := 1) (v := .ref (a 4)) (C := RX1) (T := TX1) (N := 18) hx hb hts iw_c_X1_comesBefore_wsX10 hown hK hP 0 rfl rfl 4 (by decide) (hts _ wd_c_X1_comesBefore_X1_comesBefore_0) (fun _ h9 => h9) rfl dX1_comesBefore_1 ?_
  refine lv_iload_n hx hb dX1_comesBefore_4 rfl (lv_at hl 1 rfl) ?_
  refine lv_iload_n hx hb dX1_comesBefore_5 rfl (lv_at hl 3 rfl) ?_
  refine pt_rdi (va_runVN (As := [.int (nI t), .int (nI x)]) (rest := []) ⟨hx, hb, hml, hown, hts⟩ (c_X0_sum l dC dI (pt_xt c) (pt_xw a c F A Q) 2 3 1 (a 4) (a 24) (c 4) 384 (A 4) rfl rfl rfl (by decide) t x (by omega)) ⟨va_cnB 2 hts gX1_comesBefore_X0_sum_n171 rfl rfl rfl (pt_nest hN 5 rfl) (hts _ wd_c_X1_comesBefore_X1_comesBefore_1) (by decide +kernel) ⟨Nat.le_of_ble_eq_true rfl, Nat.le_of_ble_eq_true rfl⟩, (hts _ wd_c_X1_comesBefore_X1_comesBefore_2), (hts _ wd_c_X1_comesBefore_X1_comesBefore_3)⟩ (pt_pv0 hP hK hN (q0 := 2) rfl) rfl rfl hl.1 rfl (lv_room (Nat.le_of_ble_eq_true rfl)) dX1_comesBefore_6 ⟨Nat.le_of_ble_eq_true rfl, Nat.le_of_ble_eq_true rfl⟩) (fun r6 hr6 => ?_)
  refine pt_top (y := (pt_sm (A 4) x t)) hr6 ?_
  refine lv_istore (lv' := [(4, .int (pt_sm (A 4) x t)), (0, .ref (a 0)), (1, .int (nI t)), (2, .int (nI v)), (3, .int (nI x))]) hx hb dX1_comesBefore_9 hl (by decide) rfl (fun ls hl => ?_)
  refine lv_aload_n hx hb dX1_comesBefore_11 rfl (lv_at hl 1 rfl) ?_
  refine va_get (D := (dC, dI)) (ci := 1) (v := .ref (a 4)) (C := RX1) (T := TX1) (N := 18) hx hb hts iw_c_X1_comesBefore_wsX10 hown hK hP 0 rfl rfl 4 (by decide) (hts _ wd_c_X1_comesBefore_X1_comesBefore_0) (fun _ h9 => h9) rfl dX1_comesBefore_12 ?_
  refine lv_iload_n hx hb dX1_comesBefore_15 rfl (lv_at hl 3 rfl) ?_
  refine lv_iload_n hx hb dX1_comesBefore_16 rfl (lv_at hl 4 rfl) ?_
  refine pt_rdi (va_runVN (As := [.int (nI v), .int (nI x)]) (rest := []) ⟨hx, hb, hml, hown, hts⟩ (c_X0_sum l dC dI (pt_xt c) (pt_xw a c F A Q) 2 3 1 (a 4) (a 24) (c 4) 384 (A 4) rfl rfl rfl (by decide) v x (by omega)) ⟨va_cnB 2 hts gX1_comesBefore_X0_sum_n171 rfl rfl rfl (pt_nest hN 5 rfl) (hts _ wd_c_X1_comesBefore_X1_comesBefore_1) (by decide +kernel) ⟨Nat.le_of_ble_eq_true rfl, Nat.le_of_ble_eq_true rfl⟩, (hts _ wd_c_X1_comesBefore_X1_comesBefore_2), (hts _ wd_c_X1_comesBefore_X1_comesBefore_3)⟩ (pt_pv0 hP hK hN (q0 := 2) rfl) rfl rfl hl.1 rfl (lv_room (Nat.le_of_ble_eq_true rfl)) dX1_comesBefore_17 ⟨Nat.le_of_ble_eq_true rfl, Nat.le_of_ble_eq_true rfl⟩) (fun r17 hr17 => ?_)
  refine pt_top (y := (pt_sm (A 4) x v)) hr17 ?_
  refine lv_istore (lv' := [(5, .int (pt_sm (A 4) x v)), (4, .int (pt_sm (A 4) x t)), (0, .ref (a 0)), (1, .int (nI t)), (2, .int (nI v)), (3, .int (nI x))]) hx hb dX1_comesBefore_20 hl (by decide) rfl (fun ls hl => ?_)
  refine lv_iload hx hb dX1_comesBefore_22 (lv_at hl 1 rfl) ?_
  refine lv_iload hx hb dX1_comesBefore_24 (lv_at hl 0 rfl) ?_
  refine lv_icmp_lt (tgt := 41) hx hb dX1_comesBefore_26 (by decide) (fun c26 => ?_) (fun c26 => ?_)
  · refine lv_iconst (v := 1) hx hb dX1_comesBefore_41 (by decide) ?_
    refine lv_goto (tgt := 46) hx hb dX1_comesBefore_42 (by decide) ?_
    exact W.zret (v := 1) hx hb hr rfl (fun zt zh zW => ⟨_, rfl, (pt_B.one (by first | exact Or.inl c26 | exact Or.inr ⟨c33, d38⟩)), zh⟩) (fun q h => by cases h) dX1_comesBefore_46
  · refine lv_iload hx hb dX1_comesBefore_29 (lv_at hl 1 rfl) ?_
    refine lv_iload hx hb dX1_comesBefore_31 (lv_at hl 0 rfl) ?_
    refine lv_icmp_ne (tgt := 45) hx hb dX1_comesBefore_33 (by decide) (fun c33 => ?_) (fun c33 => ?_)
    · refine lv_iconst (v := 0) hx hb dX1_comesBefore_45 (by decide) ?_
      exact W.zret (v := 0) hx hb hr rfl (fun zt zh zW => ⟨_, rfl, (pt_B.zero (fun q => q.elim c26 (fun q => by first | exact c33 q.1 | exact d38 q.2))), zh⟩) (fun q h => by cases h) dX1_comesBefore_46
    · refine lv_iload_n hx hb dX1_comesBefore_36 rfl (lv_at hl 3 rfl) ?_
      refine lv_iload_n hx hb dX1_comesBefore_37 rfl (lv_at hl 4 rfl) ?_
      refine lv_icmp_ge (tgt := 45) hx hb dX1_comesBefore_38 (by decide) (fun c38 => ?_) (fun c38 => ?_)
      · have d38 : ¬ t < v := fun q => nI_ge q (by omega) c38
        refine lv_iconst (v := 0) hx hb dX1_comesBefore_45 (by decide) ?_
        exact W.zret (v := 0) hx hb hr rfl (fun zt zh zW => ⟨_, rfl, (pt_B.zero (fun q => q.elim c26 (fun q => by first | exact c33 q.1 | exact d38 q.2))), zh⟩) (fun q h => by cases h) dX1_comesBefore_46
      · have d38 : t < v := Nat.not_le.mp (fun q => c38 (nI_le q (by omega)))
        refine lv_iconst (v := 1) hx hb dX1_comesBefore_41 (by decide) ?_
        refine lv_goto (tgt := 46) hx hb dX1_comesBefore_42 (by decide) ?_
        exact W.zret (v := 1) hx hb hr rfl (fun zt zh zW => ⟨_, rfl, (pt_B.one (by first | exact Or.inl c26 | exact Or.inr ⟨c33, d38⟩)), zh⟩) (fun q h => by cases h) dX1_comesBefore_46

theorem wd_c_X1_spread_X1_spread_0 : Cond.fieldLink RX1 24 "PointTrees" "things" "LPointTrees$Boxes;" ∈ wsX1_spread := by decide +kernel
theorem wd_c_X1_spread_X1_spread_1 : Cond.fieldLink RX1 28 "PointTrees" "order" "[I" ∈ wsX1_spread := by decide +kernel
theorem wd_c_X1_spread_X1_spread_2 : Cond.initialized RX0 ∈ wsX1_spread := by decide +kernel
theorem wd_c_X1_spread_X1_spread_3 : Cond.instanceMethod yX0_sum ∈ wsX1_spread := by decide +kernel
theorem wd_c_X1_spread_X1_spread_4 : Cond.selects RX0 yX0_sum yX0_sum ∈ wsX1_spread := by decide +kernel
theorem wd_c_X1_spread_X1_spread_5 : Cond.methodLink RX1 174 Lib.Math.min.name ∈ wsX1_spread := by decide +kernel
theorem wd_c_X1_spread_X1_spread_6 : Cond.static Lib.Math.min.name ∈ wsX1_spread := by decide +kernel
theorem wd_c_X1_spread_X1_spread_7 : Cond.initialized "java/lang/Math" ∈ wsX1_spread := by decide +kernel
theorem wd_c_X1_spread_X1_spread_8 : Cond.code Lib.Math.min.name Lib.Math.min.code 2 (some .int) ∈ wsX1_spread := by decide +kernel
theorem wd_c_X1_spread_X1_spread_9 : Cond.methodLink RX1 177 Lib.Math.max.name ∈ wsX1_spread := by decide +kernel
theorem wd_c_X1_spread_X1_spread_10 : Cond.static Lib.Math.max.name ∈ wsX1_spread := by decide +kernel
theorem wd_c_X1_spread_X1_spread_11 : Cond.code Lib.Math.max.name Lib.Math.max.code 2 (some .int) ∈ wsX1_spread := by decide +kernel
theorem iw_c_X1_spread_wsX10 : ∀ w ∈ wsX10, w ∈ wsX1_spread := fun _ h => List.mem_cons_of_mem _ (List.mem_append_left _ (List.mem_append_right _ h))
theorem iw_c_X1_spread_wsX00 : ∀ w ∈ wsX00, w ∈ wsX1_spread := fun _ h => List.mem_cons_of_mem _ (List.mem_append_right _ h)
set_option maxHeartbeats 4000000 in
set_option maxRecDepth 100000 in
theorem c_X1_spread (l : Launch) (dC : Nat → ClassId) (dI : Nat → Nat → Nat) (a : Nat → Nat) (c : Nat → ClassId) (F : Nat → Int32) (A : Nat → Nat → Int32) (Q : Nat → Int64) (od : Nat → Nat) (f t : Nat) (hft : f < t) (ht : t ≤ 64) (hod : ∀ i, f ≤ i → i < t → A 7 i = nI (od i) ∧ od i < 64) (x : Nat) (hx1 : x < 3) : Met l yX1_spread wsX1_spread (pt_rm 2) (pt_R (dC, dI) vwCl (pt_xt c) (pt_xw a c F A Q) pt_nw [.ref (a 0), .int (nI f), .int (nI t), .int (nI x)]) (vp_Si (fun r => r = pt_spr (fun i => pt_sm (A 4) x (od i)) f t)) 0 0 (fun _ => False) := by
  refine Met.ofW (cc := cX1_spread) (maxL := 8) (ret := (some .int)) (by decide) rfl ?_
  intro p e s m args below meth cd s₁ B hml hv
  obtain ⟨rfl, hP, hK, hN⟩ := hv
  have hx := B.exec
  have hb := B.bytes
  have hr := B.returns
  have hts := atoms_spec (ws := wsX1_spread) B.pre
  have hown : s.vm.findClass RX1 = some m.cls := findClass_of_methodNamed B.named
  have hlocks := B.notSynchronized
  have hl := lv_entry ([.ref (a 0), .int (nI f), .int (nI t), .int (nI x)]) (n := 8) (Nat.le_of_ble_eq_true rfl)
  rw [lg_entry_eq]
  generalize (lg_sl ([.ref (a 0), .int (nI f), .int (nI t), .int (nI x)]) ++ List.replicate (8 - (lg_sl ([.ref (a 0), .int (nI f), .int (nI t), .int (nI x)])).length) Slot.unset).toArray = ls at hl ⊢
  have hl : lv_has ls 8 [(0, .ref (a 0)), (1, .int (nI f)), (2, .int (nI t)), (3, .int (nI x))] := hl
  have hof := (hod f (Nat.le_refl f) hft).2
  refine lv_aload_n hx hb dX1_spread_0 rfl (lv_at hl 0 rfl) ?_
  refine va_get (D := (dC, dI)) (ci := 1) (v := .ref (a 4)) (C := RX1) (T := TX1) (N := 18) hx hb hts iw_c_X1_spread_wsX10 hown hK hP 0 rfl rfl 4 (by decide) (hts _ wd_c_X1_spread_X1_spread_0) (fun _ h9 => h9) rfl dX1_spread_1 ?_
  refine lv_aload_n hx hb dX1_spread_4 rfl (lv_at hl 0 rfl) ?_
  refine va_get (D := (dC, dI)) (ci := 1) (v := .ref (a 7)) (C := RX1) (T := TX1) (N := 18) hx hb hts iw_c_X1_spread_wsX10 hown hK hP 0 rfl rfl 7 (by decide) (hts _ wd_c_X1_spread_X1_spread_1) (fun _ h9 => h9) rfl dX1_spread_5 ?_
  refine lv_iload_n hx hb dX1_spread_8 rfl (lv_at hl 1 rfl) ?_
  refine pt_iald hx hb hK hP 4 2 rfl rfl f rfl (by omega) (by decide) dX1_spread_9 ?_
  refine pt_top (y := nI (od f)) (hod f (Nat.le_refl f) hft).1 ?_
  refine lv_iload_n hx hb dX1_spread_10 rfl (lv_at hl 3 rfl) ?_
  refine pt_rdi (va_runVN (As := [.int (nI (od f)), .int (nI x)]) (rest := []) ⟨hx, hb, hml, hown, hts⟩ (c_X0_sum l dC dI (pt_xt c) (pt_xw a c F A Q) 2 3 1 (a 4) (a 24) (c 4) 384 (A 4) rfl rfl rfl (by decide) (od f) x (by omega)) ⟨va_cnB 2 hts gX1_spread_X0_sum_n171 rfl rfl rfl (pt_nest hN 5 rfl) (hts _ wd_c_X1_spread_X1_spread_2) (by decide +kernel) ⟨Nat.le_of_ble_eq_true rfl, Nat.le_of_ble_eq_true rfl⟩, (hts _ wd_c_X1_spread_X1_spread_3), (hts _ wd_c_X1_spread_X1_spread_4)⟩ (pt_pv0 hP hK hN (q0 := 2) rfl) rfl rfl hl.1 rfl (lv_room (Nat.le_of_ble_eq_true rfl)) dX1_spread_11 ⟨Nat.le_of_ble_eq_true rfl, Nat.le_of_ble_eq_true rfl⟩) (fun r11 hr11 => ?_)
  refine pt_top (y := (pt_sm (A 4) x (od f))) hr11 ?_
  refine lv_istore (lv' := [(4, .int (pt_sm (A 4) x (od f))), (0, .ref (a 0)), (1, .int (nI f)), (2, .int (nI t)), (3, .int (nI x))]) hx hb dX1_spread_14 hl (by decide) rfl (fun ls hl => ?_)
  refine lv_iload hx hb dX1_spread_16 (lv_at hl 0 rfl) ?_
  refine lv_istore (lv' := [(5, .int (pt_sm (A 4) x (od f))), (4, .int (pt_sm (A 4) x (od f))), (0, .ref (a 0)), (1, .int (nI f)), (2, .int (nI t)), (3, .int (nI x))]) hx hb dX1_spread_18 hl (by decide) rfl (fun ls hl => ?_)
  refine lv_iload_n hx hb dX1_spread_20 rfl (lv_at hl 3 rfl) ?_
  refine lv_iconst (v := nI 1) hx hb dX1_spread_21 (by decide) ?_
  refine lv_iadd hx hb dX1_spread_22 ?_
  refine pt_top (y := nI (f + 1)) (nI_add _ _) ?_
  refine lv_istore (lv' := [(6, .int (nI (f + 1))), (5, .int (pt_sm (A 4) x (od f))), (4, .int (pt_sm (A 4) x (od f))), (0, .ref (a 0)), (1, .int (nI f)), (2, .int (nI t)), (3, .int (nI x))]) hx hb dX1_spread_23 hl (by decide) rfl (fun ls hl => ?_)
  refine pt_loopR (fun j : Nat => t - (f + 1 + j)) (fun j ls => f + 1 + j ≤ t ∧ lv_has ls 8 [(6, .int (nI (f + 1 + j))), (5, .int (pt_mx (fun i => pt_sm (A 4) x (od i)) f j)), (4, .int (pt_mn (fun i => pt_sm (A 4) x (od i)) f j)), (0, .ref (a 0)), (1, .int (nI f)), (2, .int (nI t)), (3, .int (nI x))]) ?_ 0 _ ⟨by omega, lv_sub hl [0, 1, 2, 3, 4, 5, 6] rfl⟩
  intro j ls ⟨hj, hl⟩ ih
  refine lv_iload hx hb dX1_spread_25 (lv_at hl 0 rfl) ?_
  refine lv_iload_n hx hb dX1_spread_27 rfl (lv_at hl 5 rfl) ?_
  refine lv_icmp_ge (tgt := 72) hx hb dX1_spread_28 (by decide) (fun c28 => ?_) (fun c28 => ?_)
  · have hje : j = t - f - 1 := by have := (nI_leI (by omega) (by omega)).mp c28; omega
    refine lv_iload hx hb dX1_spread_72 (lv_at hl 1 rfl) ?_
    refine lv_iload hx hb dX1_spread_74 (lv_at hl 2 rfl) ?_
    refine lv_isub hx hb dX1_spread_76 ?_
    exact W.iret (v := ((pt_mx (fun i => pt_sm (A 4) x (od i)) f j) - (pt_mn (fun i => pt_sm (A 4) x (od i)) f j))) hx hb hr (fun zt zh zW => ⟨_, rfl, (by unfold pt_spr; rw [hje]), zh⟩) (fun q h => by cases h) dX1_spread_77
  · have hlt : f + 1 + j < t := Nat.not_le.mp (fun q => c28 ((nI_leI (by omega) (by omega)).mpr q))
    have hoj := (hod (f + 1 + j) (by omega) hlt).2
    refine lv_aload_n hx hb dX1_spread_31 rfl (lv_at hl 3 rfl) ?_
    refine va_get (D := (dC, dI)) (ci := 1) (v := .ref (a 4)) (C := RX1) (T := TX1) (N := 18) hx hb hts iw_c_X1_spread_wsX10 hown hK hP 0 rfl rfl 4 (by decide) (hts _ wd_c_X1_spread_X1_spread_0) (fun _ h9 => h9) rfl dX1_spread_32 ?_
    refine lv_aload_n hx hb dX1_spread_35 rfl (lv_at hl 3 rfl) ?_
    refine va_get (D := (dC, dI)) (ci := 1) (v := .ref (a 7)) (C := RX1) (T := TX1) (N := 18) hx hb hts iw_c_X1_spread_wsX10 hown hK hP 0 rfl rfl 7 (by decide) (hts _ wd_c_X1_spread_X1_spread_1) (fun _ h9 => h9) rfl dX1_spread_36 ?_
    refine lv_iload hx hb dX1_spread_39 (lv_at hl 0 rfl) ?_
    refine pt_iald hx hb hK hP 4 2 rfl rfl (f + 1 + j) rfl (by omega) (by decide) dX1_spread_41 ?_
    refine pt_top (y := nI (od (f + 1 + j))) (hod (f + 1 + j) (by omega) hlt).1 ?_
    refine lv_iload_n hx hb dX1_spread_42 rfl (lv_at hl 6 rfl) ?_
    refine pt_rdi (va_runVN (As := [.int (nI (od (f + 1 + j))), .int (nI x)]) (rest := []) ⟨hx, hb, hml, hown, hts⟩ (c_X0_sum l dC dI (pt_xt c) (pt_xw a c F A Q) 2 3 1 (a 4) (a 24) (c 4) 384 (A 4) rfl rfl rfl (by decide) (od (f + 1 + j)) x (by omega)) ⟨va_cnB 2 hts gX1_spread_X0_sum_n171 rfl rfl rfl (pt_nest hN 5 rfl) (hts _ wd_c_X1_spread_X1_spread_2) (by decide +kernel) ⟨Nat.le_of_ble_eq_true rfl, Nat.le_of_ble_eq_true rfl⟩, (hts _ wd_c_X1_spread_X1_spread_3), (hts _ wd_c_X1_spread_X1_spread_4)⟩ (pt_pv0 hP hK hN (q0 := 2) rfl) rfl rfl hl.1 rfl (lv_room (Nat.le_of_ble_eq_true rfl)) dX1_spread_43 ⟨Nat.le_of_ble_eq_true rfl, Nat.le_of_ble_eq_true rfl⟩) (fun r43 hr43 => ?_)
    refine pt_top (y := (pt_sm (A 4) x (od (f + 1 + j)))) hr43 ?_
    refine lv_istore (lv' := [(7, .int (pt_sm (A 4) x (od (f + 1 + j)))), (6, .int (nI (f + 1 + j))), (5, .int (pt_mx (fun i => pt_sm (A 4) x (od i)) f j)), (4, .int (pt_mn (fun i => pt_sm (A 4) x (od i)) f j)), (0, .ref (a 0)), (1, .int (nI f)), (2, .int (nI t)), (3, .int (nI x))]) hx hb dX1_spread_46 hl (by decide) rfl (fun ls hl => ?_)
    refine lv_iload hx hb dX1_spread_48 (lv_at hl 3 rfl) ?_
    refine lv_iload hx hb dX1_spread_50 (lv_at hl 0 rfl) ?_
    refine va_mmin hx hb (hml.trans hl.1.symm) hown (hts _ wd_c_X1_spread_X1_spread_5) (hts _ wd_c_X1_spread_X1_spread_6) (hts _ wd_c_X1_spread_X1_spread_7) (hts _ wd_c_X1_spread_X1_spread_8) (Nat.le_of_ble_eq_true rfl) (Nat.le_of_ble_eq_true rfl) (Nat.le_refl _) (Nat.le_refl _) dX1_spread_52 ?_
    refine lv_istore (lv' := [(4, .int (if (pt_sm (A 4) x (od (f + 1 + j))) < (pt_mn (fun i => pt_sm (A 4) x (od i)) f j) then (pt_sm (A 4) x (od (f + 1 + j))) else (pt_mn (fun i => pt_sm (A 4) x (od i)) f j))), (7, .int (pt_sm (A 4) x (od (f + 1 + j)))), (6, .int (nI (f + 1 + j))), (5, .int (pt_mx (fun i => pt_sm (A 4) x (od i)) f j)), (0, .ref (a 0)), (1, .int (nI f)), (2, .int (nI t)), (3, .int (nI x))]) hx hb dX1_spread_55 hl (by decide) rfl (fun ls hl => ?_)
    refine lv_iload hx hb dX1_spread_57 (lv_at hl 3 rfl) ?_
    refine lv_iload hx hb dX1_spread_59 (lv_at hl 1 rfl) ?_
    refine va_mmax hx hb (hml.trans hl.1.symm) hown (hts _ wd_c_X1_spread_X1_spread_9) (hts _ wd_c_X1_spread_X1_spread_10) (hts _ wd_c_X1_spread_X1_spread_7) (hts _ wd_c_X1_spread_X1_spread_11) (Nat.le_of_ble_eq_true rfl) (Nat.le_of_ble_eq_true rfl) (Nat.le_refl _) (Nat.le_refl _) dX1_spread_61 ?_
    refine lv_istore (lv' := [(5, .int (if (pt_mx (fun i => pt_sm (A 4) x (od i)) f j) < (pt_sm (A 4) x (od (f + 1 + j))) then (pt_sm (A 4) x (od (f + 1 + j))) else (pt_mx (fun i => pt_sm (A 4) x (od i)) f j))), (4, .int (if (pt_sm (A 4) x (od (f + 1 + j))) < (pt_mn (fun i => pt_sm (A 4) x (od i)) f j) then (pt_sm (A 4) x (od (f + 1 + j))) else (pt_mn (fun i => pt_sm (A 4) x (od i)) f j))), (7, .int (pt_sm (A 4) x (od (f + 1 + j)))), (6, .int (nI (f + 1 + j))), (0, .ref (a 0)), (1, .int (nI f)), (2, .int (nI t)), (3, .int (nI x))]) hx hb dX1_spread_64 hl (by decide) rfl (fun ls hl => ?_)
    refine lv_iinc (v := nI ((f + 1 + j) + 1)) (lv' := [(6, .int (nI ((f + 1 + j) + 1))), (5, .int (if (pt_mx (fun i => pt_sm (A 4) x (od i)) f j) < (pt_sm (A 4) x (od (f + 1 + j))) then (pt_sm (A 4) x (od (f + 1 + j))) else (pt_mx (fun i => pt_sm (A 4) x (od i)) f j))), (4, .int (if (pt_sm (A 4) x (od (f + 1 + j))) < (pt_mn (fun i => pt_sm (A 4) x (od i)) f j) then (pt_sm (A 4) x (od (f + 1 + j))) else (pt_mn (fun i => pt_sm (A 4) x (od i)) f j))), (7, .int (pt_sm (A 4) x (od (f + 1 + j)))), (0, .ref (a 0)), (1, .int (nI f)), (2, .int (nI t)), (3, .int (nI x))]) hx hb dX1_spread_66 hl (k := 3) rfl (nI_1 _) (by decide) rfl (fun ls hl => ?_)
    refine lv_goto (tgt := 25) hx hb dX1_spread_69 (by decide) ?_
    exact ih (j + 1) _ ⟨by omega, lv_sub hl [0, 1, 2, 4, 5, 6, 7] rfl⟩ (by omega)

theorem wd_c_X1_widestAxis_X1_widestAxis_0 : Cond.fieldLink RX1 9 "PointTrees" "axes" "I" ∈ wsX1_widestAxis := by decide +kernel
theorem iw_c_X1_widestAxis_wsX10 : ∀ w ∈ wsX10, w ∈ wsX1_widestAxis := fun _ h => List.mem_cons_of_mem _ (List.mem_append_left _ (List.mem_append_right _ h))
theorem iw_c_X1_widestAxis_wsX00 : ∀ w ∈ wsX00, w ∈ wsX1_widestAxis := fun _ h => List.mem_cons_of_mem _ (List.mem_append_right _ h)
set_option maxHeartbeats 4000000 in
set_option maxRecDepth 100000 in
theorem c_X1_widestAxis (l : Launch) (dC : Nat → ClassId) (dI : Nat → Nat → Nat) (a : Nat → Nat) (c : Nat → ClassId) (F : Nat → Int32) (A : Nat → Nat → Int32) (Q : Nat → Int64) (ax : Nat) (h0 : F 0 = nI ax) (hax : ax ≤ 3) (hax1 : 1 ≤ ax) (od : Nat → Nat) (f t : Nat) (hft : f < t) (ht : t ≤ 64) (hod : ∀ i, f ≤ i → i < t → A 7 i = nI (od i) ∧ od i < 64) : Met l yX1_widestAxis wsX1_widestAxis (pt_rm 3) (pt_R (dC, dI) vwCl (pt_xt c) (pt_xw a c F A Q) pt_nw [.ref (a 0), .int (nI f), .int (nI t)]) (vp_Si (fun r => r = nI (pt_wa (fun x => pt_spr (fun i => pt_sm (A 4) x (od i)) f t) ax))) 0 0 (fun _ => False) := by
  refine Met.ofW (cc := cX1_widestAxis) (maxL := 5) (ret := (some .int)) (by decide) rfl ?_
  intro p e s m args below meth cd s₁ B hml hv
  obtain ⟨rfl, hP, hK, hN⟩ := hv
  have hx := B.exec
  have hb := B.bytes
  have hr := B.returns
  have hts := atoms_spec (ws := wsX1_widestAxis) B.pre
  have hown : s.vm.findClass RX1 = some m.cls := findClass_of_methodNamed B.named
  have hlocks := B.notSynchronized
  have hl := lv_entry ([.ref (a 0), .int (nI f), .int (nI t)]) (n := 5) (Nat.le_of_ble_eq_true rfl)
  rw [lg_entry_eq]
  generalize (lg_sl ([.ref (a 0), .int (nI f), .int (nI t)]) ++ List.replicate (5 - (lg_sl ([.ref (a 0), .int (nI f), .int (nI t)])).length) Slot.unset).toArray = ls at hl ⊢
  have hl : lv_has ls 5 [(0, .ref (a 0)), (1, .int (nI f)), (2, .int (nI t))] := hl
  refine lv_iconst (v := nI 0) hx hb dX1_widestAxis_0 (by decide) ?_
  refine lv_istore_n (lv' := [(3, .int (nI 0)), (0, .ref (a 0)), (1, .int (nI f)), (2, .int (nI t))]) hx hb dX1_widestAxis_1 rfl hl (by decide) rfl (fun ls hl => ?_)
  refine lv_iconst (v := nI 1) hx hb dX1_widestAxis_2 (by decide) ?_
  refine lv_istore (lv' := [(4, .int (nI 1)), (3, .int (nI 0)), (0, .ref (a 0)), (1, .int (nI f)), (2, .int (nI t))]) hx hb dX1_widestAxis_3 hl (by decide) rfl (fun ls hl => ?_)
  have e1 : pt_wa (fun x => pt_spr (fun i => pt_sm (A 4) x (od i)) f t) 1 = 0 := by show (if _ then 0 else 0) = 0; split <;> rfl
  rw [show nI 0 = nI (pt_wa (fun x => pt_spr (fun i => pt_sm (A 4) x (od i)) f t) (0 + 1)) from by rw [Nat.zero_add, e1]] at hl
  refine pt_loopR (fun i : Nat => ax - i) (fun i ls => i + 1 ≤ ax ∧ lv_has ls 5 [(4, .int (nI (i + 1))), (3, .int (nI (pt_wa (fun x => pt_spr (fun i => pt_sm (A 4) x (od i)) f t) (i + 1)))), (0, .ref (a 0)), (1, .int (nI f)), (2, .int (nI t))]) ?_ 0 _ ⟨by omega, hl⟩
  intro i ls ⟨hi, hl⟩ ih
  have hwl := pt_wa_le (fun x => pt_spr (fun i => pt_sm (A 4) x (od i)) f t) i
  refine lv_iload hx hb dX1_widestAxis_5 (lv_at hl 0 rfl) ?_
  refine lv_aload_n hx hb dX1_widestAxis_7 rfl (lv_at hl 2 rfl) ?_
  refine va_get (D := (dC, dI)) (ci := 1) (v := .int (F 0)) (C := RX1) (T := TX1) (N := 18) hx hb hts iw_c_X1_widestAxis_wsX10 hown hK hP 0 rfl rfl 0 (by decide) (hts _ wd_c_X1_widestAxis_X1_widestAxis_0) (fun _ h9 => h9) rfl dX1_widestAxis_8 ?_
  refine pt_top (y := nI ax) h0 ?_
  refine lv_icmp_ge (tgt := 41) hx hb dX1_widestAxis_11 (by decide) (fun c11 => ?_) (fun c11 => ?_)
  · have hie : i + 1 = ax := by have := (nI_leI (by omega) (by omega)).mp c11; omega
    subst hie
    refine lv_iload_n hx hb dX1_widestAxis_41 rfl (lv_at hl 1 rfl) ?_
    exact W.iret (v := nI (pt_wa (fun x => pt_spr (fun i => pt_sm (A 4) x (od i)) f t) (i + 1))) hx hb hr (fun zt zh zW => ⟨_, rfl, rfl, zh⟩) (fun q h => by cases h) dX1_widestAxis_42
  · have hlt : i + 1 < ax := Nat.not_le.mp (fun q => c11 ((nI_leI (by omega) (by omega)).mpr q))
    refine lv_aload_n hx hb dX1_widestAxis_14 rfl (lv_at hl 2 rfl) ?_
    refine lv_iload_n hx hb dX1_widestAxis_15 rfl (lv_at hl 3 rfl) ?_
    refine lv_iload_n hx hb dX1_widestAxis_16 rfl (lv_at hl 4 rfl) ?_
    refine lv_iload hx hb dX1_widestAxis_17 (lv_at hl 0 rfl) ?_
    refine pt_rdi (va_runV (As := [.int (nI f), .int (nI t), .int (nI (i + 1))]) (rest := []) ⟨hx, hb, hml, hown, hts⟩ (c_X1_spread l dC dI a c F A Q od f t hft ht hod (i + 1) (by omega)) (cwV 3 hts gX1_widestAxis_X1_spread rfl rfl rfl (by decide +kernel) ⟨Nat.le_of_ble_eq_true rfl, Nat.le_of_ble_eq_true rfl⟩) (pt_pv1 hP hK hN (q0 := 0) rfl) rfl rfl hl.1 rfl (lv_room (Nat.le_of_ble_eq_true rfl)) dX1_widestAxis_19 ⟨Nat.le_of_ble_eq_true rfl, Nat.le_of_ble_eq_true rfl⟩) (fun r19 hr19 => ?_)
    refine pt_top (y := ((fun x => pt_spr (fun i => pt_sm (A 4) x (od i)) f t) (i + 1))) hr19 ?_
    refine lv_aload_n hx hb dX1_widestAxis_22 rfl (lv_at hl 2 rfl) ?_
    refine lv_iload_n hx hb dX1_widestAxis_23 rfl (lv_at hl 3 rfl) ?_
    refine lv_iload_n hx hb dX1_widestAxis_24 rfl (lv_at hl 4 rfl) ?_
    refine lv_iload_n hx hb dX1_widestAxis_25 rfl (lv_at hl 1 rfl) ?_
    refine pt_rdi (va_runV (As := [.int (nI f), .int (nI t), .int (nI (pt_wa (fun x => pt_spr (fun i => pt_sm (A 4) x (od i)) f t) (i + 1)))]) (rest := [.int ((fun x => pt_spr (fun i => pt_sm (A 4) x (od i)) f t) (i + 1))]) ⟨hx, hb, hml, hown, hts⟩ (c_X1_spread l dC dI a c F A Q od f t hft ht hod (pt_wa (fun x => pt_spr (fun i => pt_sm (A 4) x (od i)) f t) (i + 1)) (by omega)) (cwV 3 hts gX1_widestAxis_X1_spread rfl rfl rfl (by decide +kernel) ⟨Nat.le_of_ble_eq_true rfl, Nat.le_of_ble_eq_true rfl⟩) (pt_pv1 hP hK hN (q0 := 0) rfl) rfl rfl hl.1 rfl (lv_room (Nat.le_of_ble_eq_true rfl)) dX1_widestAxis_26 ⟨Nat.le_of_ble_eq_true rfl, Nat.le_of_ble_eq_true rfl⟩) (fun r26 hr26 => ?_)
    refine pt_top (y := ((fun x => pt_spr (fun i => pt_sm (A 4) x (od i)) f t) (pt_wa (fun x => pt_spr (fun i => pt_sm (A 4) x (od i)) f t) (i + 1)))) hr26 ?_
    refine lv_icmp_le (tgt := 35) hx hb dX1_widestAxis_29 (by decide) (fun c29 => ?_) (fun c29 => ?_)
    · refine lv_iinc (v := nI ((i + 1) + 1)) (lv' := [(4, .int (nI ((i + 1) + 1))), (3, .int (nI (pt_wa (fun x => pt_spr (fun i => pt_sm (A 4) x (od i)) f t) (i + 1)))), (0, .ref (a 0)), (1, .int (nI f)), (2, .int (nI t))]) hx hb dX1_widestAxis_35 hl (k := 0) rfl (nI_1 _) (by decide) rfl (fun ls hl => ?_)
      refine lv_goto (tgt := 5) hx hb dX1_widestAxis_38 (by decide) ?_
      have ew : pt_wa (fun x => pt_spr (fun i => pt_sm (A 4) x (od i)) f t) (i + 1 + 1) = pt_wa (fun x => pt_spr (fun i => pt_sm (A 4) x (od i)) f t) (i + 1) := if_neg (Int32.not_lt.mpr c29)
      exact ih (i + 1) _ ⟨by omega, by rw [ew]; exact lv_sub hl [0, 1, 2, 3, 4] rfl⟩ (by omega)
    · refine lv_iload hx hb dX1_widestAxis_32 (lv_at hl 0 rfl) ?_
      refine lv_istore_n (lv' := [(3, .int (nI (i + 1))), (4, .int (nI (i + 1))), (0, .ref (a 0)), (1, .int (nI f)), (2, .int (nI t))]) hx hb dX1_widestAxis_34 rfl hl (by decide) rfl (fun ls hl => ?_)
      refine lv_iinc (v := nI ((i + 1) + 1)) (lv' := [(4, .int (nI ((i + 1) + 1))), (3, .int (nI (i + 1))), (0, .ref (a 0)), (1, .int (nI f)), (2, .int (nI t))]) hx hb dX1_widestAxis_35 hl (k := 1) rfl (nI_1 _) (by decide) rfl (fun ls hl => ?_)
      refine lv_goto (tgt := 5) hx hb dX1_widestAxis_38 (by decide) ?_
      have ew : pt_wa (fun x => pt_spr (fun i => pt_sm (A 4) x (od i)) f t) (i + 1 + 1) = i + 1 := if_pos (Int32.not_le.mp c29)
      exact ih (i + 1) _ ⟨by omega, by rw [ew]; exact lv_sub hl [0, 1, 2, 3, 4] rfl⟩ (by omega)
