section PTROWS
variable {p : Program} {l : Launch} {e : Env} {R : Room} {s : State} {m : MethodId} {args : Array Value} {below : List Frame} {meth : Method} {c : Code} {H : Heap} {locs : List Loc} {cells slots : Nat} {Q : State → Prop}
variable {mc ms : Nat} {free : Addr → Prop} {A0 A1 : Nat → Prop} {H0 : Heap} {a : Array Value} {pc : Nat} {ls : Array Slot} {st0 rest : List Value}
/-- caught by the row x of this method's table; the rows ahead don't take it -/
theorem vx_catch {own name : String} {E : String} {ce : Cell} {q : Addr} (hown : s.vm.findClass own = some m.cls) (pre : List ExceptionTableEntry) (x : ExceptionTableEntry) (suf : List ExceptionTableEntry) (hsplit : c.exceptionTable.toList = pre ++ x :: suf)
    (hpass : ∀ z ∈ pre, covers z pc = false ∨ (z.catchType ≠ 0 ∧ ∃ nm : String, (Cond.classLink own z.catchType nm).before args s = true ∧ va_Nc E nm s)) (hx : covers x pc = true) (h0 : x.catchType ≠ 0)
    (hlink : (Cond.classLink own x.catchType name).before args s = true) (hcast : (Cond.castable E name).before args s = true) (hcell : H[q]? = some ce) (hv : ce.vm = .none) (hcl : s.vm.findClass E = some ce.cls)
    (kk : W p l e R s m args below meth c H locs cells slots Q (F0 m x.handlerPc ls [.ref q])) : vx_W p l e R s m args below meth c H locs cells slots Q (F0 m pc ls rest) q := by
  intro T hT X
  have hpl : e.platform.magicAccessors = ({} : Platform).magicAccessors := by rw [X.admits.platform]
  obtain ⟨c3, c4, hc3, hc4, hasg⟩ := Cond.castable_spec hcast
  cases Option.some.inj (hc3.symm.trans hcl)
  obtain ⟨c5, hc5, hcl5⟩ := Cond.classLink_spec hown hlink e.platform hpl
  cases Option.some.inj (hc4.symm.trans hc5)
  obtain ⟨vm', X', st⟩ := X.thenCaughtThrough q (g := F0 m pc ls rest) rfl (Steps.refl _) (by rw [hT]; exact hcell) (by rw [hv]; rfl) (by obtain ⟨k9, h9, -⟩ := Vm.findClass_spec hcl; exact ⟨k9, h9⟩) pre x suf hsplit
    (fun z hz => by
      rcases hpass z hz with h | ⟨hz0, nm, hl1, hn1⟩
      · exact Or.inl h
      · obtain ⟨c6, hc6, hcl6⟩ := Cond.classLink_spec hown hl1 e.platform hpl
        obtain ⟨a8, b8, h1, h2, h3⟩ := hn1
        cases Option.some.inj (h1.symm.trans hcl)
        cases Option.some.inj (h2.symm.trans hc6)
        exact Or.inr ⟨hz0, _, hcl6, h3⟩) hx (Or.inr ⟨h0, c4, hcl5, hasg⟩)
  obtain ⟨t, a1, b1⟩ := kk (T.setVm vm') hT X'
  exact ⟨t, st.trans a1, b1⟩
end PTROWS
/-- the words of a throw that only the tables' shape keeps -/
def pt_bad : List Cond := (vx_atS RX1 137 "java/lang/ArithmeticException" ["java/lang/RuntimeException", "java/lang/Exception"]).filter (fun w => !goodWord w)
theorem pt_bad_s : ∀ w ∈ pt_bad, w ∈ [Cond.castable "java/lang/ArithmeticException" "java/lang/ArithmeticException", Cond.declares (Bundle.initS "java/lang/RuntimeException"), Cond.declares (Bundle.initS "java/lang/Exception"), Cond.declares (Bundle.initS "java/lang/Throwable")] := by decide +kernel
def pt_BW (U : State) : Prop := ∀ w ∈ [Cond.castable "java/lang/ArithmeticException" "java/lang/ArithmeticException", Cond.declares (Bundle.initS "java/lang/RuntimeException"), Cond.declares (Bundle.initS "java/lang/Exception"), Cond.declares (Bundle.initS "java/lang/Throwable")], va_Nw w U
theorem pt_BW.warm {s U : State} (hW : s.WarmedH U.vm) (h : pt_BW s) : pt_BW U := by
  intro w hw
  have h1 := h w hw
  rcases List.mem_cons.mp hw with q | hw
  · rw [q] at h1 ⊢; exact va_Nw.warmC hW h1
  rcases List.mem_cons.mp hw with q | hw
  · rw [q] at h1 ⊢; exact va_Nw.warmD hW h1
  rcases List.mem_cons.mp hw with q | hw
  · rw [q] at h1 ⊢; exact va_Nw.warmD hW h1
  rcases List.mem_cons.mp hw with q | hw
  · rw [q] at h1 ⊢; exact va_Nw.warmD hW h1
  · cases hw
theorem pt_BW.same {s U : State} (hv : s.vm = U.vm) (h : pt_BW s) : pt_BW U := by
  intro w hw
  have h1 := h w hw
  rcases List.mem_cons.mp hw with q | hw
  · rw [q] at h1 ⊢; exact va_tabs rfl hv h1
  rcases List.mem_cons.mp hw with q | hw
  · rw [q] at h1 ⊢; exact va_tabs rfl hv h1
  rcases List.mem_cons.mp hw with q | hw
  · rw [q] at h1 ⊢; exact va_tabs rfl hv h1
  rcases List.mem_cons.mp hw with q | hw
  · rw [q] at h1 ⊢; exact va_tabs rfl hv h1
  · cases hw
/-- what a day of size 0 needs of the machine: the text, the words, Throwable's statics -/
def pt_DY (sa : Nat) (U : State) (H : Heap) : Prop := vk_R RX1 135 "a day of size 0" sa U ∧ pt_BW U ∧ vx_Zq Bundle.tN "UNASSIGNED_STACK" Bundle.steD (fun _ => False) U H ∧ vx_Zq Bundle.tN "SUPPRESSED_SENTINEL" Bundle.listD (fun _ => False) U H
theorem pt_DY.warm {sa : Nat} {s U : State} {H : Heap} (hW : s.WarmedH U.vm) (h : pt_DY sa s H) : pt_DY sa U H := ⟨vk_R.warm hW h.1, h.2.1.warm hW, vx_Zq.moved hW.alike h.2.2.1, vx_Zq.moved hW.alike h.2.2.2⟩
theorem pt_DY.calling {sa : Nat} {U : State} {g : JFrame} {mk : MethodId} {a : Array Value} {H : Heap} (h : pt_DY sa U H) : pt_DY sa (U.calling g mk a) H := ⟨vk_R.same (u := U) (U := U.calling g mk a) rfl h.1, h.2.1.same (s := U) (U := U.calling g mk a) rfl, vx_Zq.moved (u := U) (U := U.calling g mk a) (Vm.Alike.refl U.vm) h.2.2.1, vx_Zq.moved (u := U) (U := U.calling g mk a) (Vm.Alike.refl U.vm) h.2.2.2⟩
abbrev pt_rx (k n : Nat) : Room := { frames := k, cells := 1, slots := 6, locals := n }
theorem wd_day_0 : Cond.classLink RX1 133 "java/lang/ArithmeticException" ∈ wsX1_day := by decide +kernel
theorem wd_day_1 : Cond.initialized "java/lang/ArithmeticException" ∈ wsX1_day := by decide +kernel
theorem wd_day_2 : Cond.constantLong RX1 91 (-9223372036854775808) ∈ wsX1_day := by decide +kernel
theorem pt_atg : ∀ w ∈ Cond.classLink RX1 133 "java/lang/ArithmeticException" :: Cond.initialized "java/lang/ArithmeticException" :: (vx_atS RX1 137 "java/lang/ArithmeticException" ["java/lang/RuntimeException", "java/lang/Exception"]), vx_ot w = true := by decide +kernel
theorem pt_bad_ot : ∀ w ∈ pt_bad, w.onTables = true := by decide +kernel
set_option maxHeartbeats 4000000 in
set_option maxRecDepth 100000 in
/-- PointTrees.day -/
theorem c_X1_day (l : Launch) (hl0 : l.stackTraces = false) (h sa : Nat) (t z : Int64) : vx_Met l yX1_day wsX1_day (pt_rx 8 200) (va_Pc [.ref h, .long t, .long z] (fun U => pt_DY sa U U.heap)) (va_Ql (fun (r : Int64) (_ : Unit) => ¬ z = 0 ∧ r = pt_dX t z) (fun _ _ => True) (fun _ => False)) (vx_X (fun (_ : Unit) => z = 0) (fun E _ _ => E = "java/lang/ArithmeticException") (fun _ => False)) 1 6 (fun _ => False) := by
  refine vx_ofW (cc := cX1_day) (maxL := 5) (ret := (some .long)) (by decide) rfl ?_
  intro p e s m args below meth cd s₁ B hml hno hv
  obtain ⟨rfl, hstr, hbad, hZ1, hZ2⟩ := hv
  have hx := B.exec
  have hb := B.bytes
  have hr := B.returns
  have hts := atoms_spec (ws := wsX1_day) B.pre
  have hown : s.vm.findClass RX1 = some m.cls := findClass_of_methodNamed B.named
  have hlocks := B.notSynchronized
  have hl := lv_entry ([.ref h, .long t, .long z]) (n := 5) (Nat.le_of_ble_eq_true rfl)
  rw [lg_entry_eq]
  generalize (lg_sl ([.ref h, .long t, .long z]) ++ List.replicate (5 - (lg_sl ([.ref h, .long t, .long z])).length) Slot.unset).toArray = ls at hl ⊢
  have hl : lv_has ls 5 [(0, .ref h), (1, .long t), (3, .long z)] := hl
  have hS : va_S (fun _ => False) s.heap s.heap [] := va_S.rf
  refine lv_lload_n hx hb dX1_day_0 rfl (lv_at hl 2 rfl) ?_
  refine lv_lconst (v := 0) hx hb dX1_day_1 (by decide) ?_
  refine W.lcmp hx hb dX1_day_2 ?_
  refine lv_if_ne (tgt := 16) hx hb dX1_day_3 (by decide) (fun c3 => ?_) (fun c3 => ?_)
  · have d3 : ¬ z = 0 := fun q => c3 ((lg_cmp_eq _ _).mpr q)
    refine lv_lload_n hx hb dX1_day_16 rfl (lv_at hl 2 rfl) ?_
    refine lv_lconst (v := 0) hx hb dX1_day_17 (by decide) ?_
    refine W.lcmp hx hb dX1_day_18 ?_
    refine lv_if_ge (tgt := 26) hx hb dX1_day_19 (by decide) (fun c19 => ?_) (fun c19 => ?_)
    · have d19 : ¬ z < 0 := Int64.not_lt.mpr ((lg_cmp_ge _ _).mp c19)
      refine lv_lload_n hx hb dX1_day_26 rfl (lv_at hl 1 rfl) ?_
      refine lv_lload_n hx hb dX1_day_27 rfl (lv_at hl 2 rfl) ?_
      refine pt_rdl (va_runS (As := [.long t, .long z]) (rest := []) ⟨hx, hb, hml, hown, hts⟩ (c_J9_floorDiv l t z d3) (va_cwS 2 hts gX1_day_J9_floorDiv_f86c9 rfl rfl rfl (by decide +kernel) ⟨Nat.le_of_ble_eq_true rfl, Nat.le_of_ble_eq_true rfl⟩) ⟨fun a U g mk q => q, fun U hU hW => ⟨rfl, trivial⟩⟩ rfl rfl hl.1 rfl (lv_room (Nat.le_of_ble_eq_true rfl)) dX1_day_28 ⟨Nat.le_of_ble_eq_true rfl, Nat.le_of_ble_eq_true rfl⟩) (fun r28 hr28 => ?_)
      have e28 : r28 = pt_dX t z := by
        unfold pt_dX
        rw [pt_if_f d19]
        rcases hr28 with ⟨q1, q2, q3⟩ | ⟨q1, q2⟩
        · rw [pt_if_t ⟨q1, q2⟩]; exact q3
        · rw [pt_if_f q1]; exact q2
      refine W.widen (k := 1) (n := 6) (by omega) (by omega) ?_
      exact vx_ret (W.lret (v := r28) hx hb hr (fun zt zh zW => ⟨⟨_, (), rfl, ⟨d3, e28⟩, trivial⟩, hS.F zh⟩) hS.2.2 dX1_day_31)
    · have d19 : z < 0 := Int64.not_le.mp (fun q => c19 ((lg_cmp_ge _ _).mpr q))
      refine lv_ldc2 (v := -9223372036854775808) hx hb hown (hts _ wd_day_2) dX1_day_22 ?_
      refine W.widen (k := 1) (n := 6) (by omega) (by omega) ?_
      exact vx_ret (W.lret (v := (-9223372036854775808)) hx hb hr (fun zt zh zW => ⟨⟨_, (), rfl, ⟨d3, by unfold pt_dX; rw [pt_if_t d19]⟩, trivial⟩, hS.F zh⟩) hS.2.2 dX1_day_25)
  · have d3 : z = 0 := (lg_cmp_eq _ _).mp c3
    exact vx_throwS (pc := 6) (own := RX1) (cls := "java/lang/ArithmeticException") (text := "a day of size 0") (names := ["java/lang/RuntimeException", "java/lang/Exception"]) (ik := 133) (is := 135) (ic := 137) (sa := sa) (A := fun _ => False) (rest := []) hx hb hl0 hown (by decide +kernel) (by decide +kernel) (hts _ wd_day_0) (hts _ wd_day_1) hstr (vx_hat (B := pt_bad) (fun w hw => hts w (List.mem_cons_of_mem _ (List.mem_append_right _ hw))) (fun w hw => hw) (fun w hw => va_tabs (pt_bad_ot w hw) rfl (hbad w (pt_bad_s w hw)))) pt_atg hZ1 hZ2 hS (hl.1.trans hml.symm) dX1_day_6 dX1_day_9 dX1_day_10 dX1_day_12 dX1_day_15 (fun x hx9 => (hno x hx9).elim) (Nat.le_of_ble_eq_true rfl) (Nat.le_of_ble_eq_true rfl) (Nat.le_of_ble_eq_true rfl) (Nat.le_of_ble_eq_true rfl) hlocks (fun t9 hW9 h1 h2 => ⟨(), d3, rfl, h1, fun q hq _ => h2 q hq⟩) (fun z9 hz9 => nomatch hz9) (Nat.le_refl _) (Nat.le_refl _)
