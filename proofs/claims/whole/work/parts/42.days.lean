section PTCATCH
variable {p : Program} {l : Launch} {e : Env} {R : Room} {s : State} {m : MethodId} {args : Array Value} {below : List Frame} {meth : Method} {c : Code} {H : Heap} {locs : List Loc} {cells slots : Nat} {Q : State → Prop} {pc : Nat} {ls : Array Slot} {rest : List Value}
/-- the search for a handler ends at pc9, and leaves the tables vm' (the rows here follow the library's own for a catch; these stand over a part of it that isn't among what a round reads) -/
def pt_fnd (e : Env) (u : State) (f : JFrame) (a : Addr) (pc9 : Nat) (vm' : Vm) : Prop := ∀ (K : Handler → Jvm.Pre) (E : Jvm.CtlPost) (d : Bool) (acts : List Action), Sem.wp (findHandler f a) K E e d acts u ↔ K (.found pc9) d acts (u.setVm vm')
theorem pt_fnd_of {u : State} {f : JFrame} {a : Addr} {meth9 : Method} {c9 : Code} {x : ExceptionTableEntry} {k : ClassId} {cell : Cell} (hm : u.vm.method? f.method = some meth9) (hc : meth9.code = some c9) (ht : c9.exceptionTable.toList = [x]) (hx : covers x f.pc = true) (h0 : x.catchType ≠ 0) (hl : u.vm.ClassLinks e.platform f.method.cls x.catchType k) (hcell : u.heap[a]? = some cell) (hobj : ∀ z, cell.vm ≠ .statics z) (hk : ∃ z, u.vm.classes[cell.cls]? = some z) (hcl : ∃ z, u.vm.classes[k]? = some z) (hfit : u.vm.assignable cell.cls k = true) : pt_fnd e u f a x.handlerPc (u.vm.noted f.method.cls x.catchType (.cls k)) := by
  intro K E d acts
  rw [W.findHandler_eq hm hc, ht]
  simp only [covers] at hx
  obtain ⟨ha, h2⟩ := (resolveClass_links e.toSetting hl).op (op := VmOp.resolveClass f.method.cls x.catchType) rfl
  have hal : u.vm.Alike (u.vm.noted f.method.cls x.catchType (.cls k)) := (Vm.Alike.refl u.vm).noted _ _ _
  obtain ⟨k1, hk1⟩ := hk
  obtain ⟨k2, hk2⟩ := hcl
  obtain ⟨k1', hk1', -⟩ := hal.2.2 _ _ hk1
  obtain ⟨k2', hk2', -⟩ := hal.2.2 _ _ hk2
  have hfit' : (u.vm.noted f.method.cls x.catchType (.cls k)).assignable cell.cls k = true := by rw [hal.assignable]; exact hfit
  simp [findHandler.go, hx, h0, ha, h2, hcell, hobj, hk1', hk2', hfit', VmOp.dirties, VmOp.acts]
theorem pt_thr {u : State} {a : Addr} {f : JFrame} {r : List Frame} {pc9 : Nat} {vm' : Vm} (h : pt_fnd e u f a pc9 vm') : (stepThrowing e u a (.java f :: r)).Is ((u.setVm vm').setFrames (.java { f with pc := pc9, stack := [.ref a] } :: r)) [] := by
  simp only [stepThrowing, searchFrame, vmDo]
  generalize hr : Sem.go _ e false [] u = res
  obtain ⟨as, rfl, ha⟩ := Sem.eq_ok_of hr (a := Handler.found pc9) (s' := u.setVm vm') (acts' := []) (by simp [h _ _ _ _])
  exact ⟨rfl, ha⟩
theorem pt_sf (u : State) (vm' : Vm) (F G : List Frame) : ((u.setFrames F).setVm vm').setFrames G = (u.setVm vm').setFrames G := by
  have h1 : (u.setFrames F).setVm vm' = (u.setVm vm').setFrames F := rfl
  rw [h1, State.setFrames_setFrames]
theorem pt_ctc {u target : State} {g : JFrame} {c9 : Code} {a : Addr} (h : At u g.method c9 below) {pc9 : Nat} {vm' : Vm} (hf : pt_fnd e ((u.setTop g).pushFrame (.throwing a)) g a pc9 vm') (hrest : Steps p.tables e below ((u.setVm vm').setTop { g with pc := pc9, stack := [.ref a] }) target) : Steps p.tables e below ((u.setTop g).pushFrame (.throwing a)) target := by
  obtain ⟨hgo, hw⟩ := h.throwing a
  refine Steps.head hgo hw ?_
  rw [stepThread_throwing (frames_entered h.top _), (pt_thr (u := (u.setTop g).pushFrame (.throwing a)) hf).1]
  obtain ⟨g₀, hg⟩ := Option.isSome_iff_exists.mp h.top
  obtain ⟨r, hr⟩ := State.topJava?_eq_some.mp hg
  have hr' : (u.setVm vm').frames = .java g₀ :: r := hr
  rw [State.setTop_of_frames _ hr'] at hrest
  rw [hr, List.tail_cons, State.pushFrame, pt_sf, State.setTop_of_frames _ hr, pt_sf]
  exact hrest
/-- caught by the one row of this method's table -/
theorem pt_catch {own name : String} {E : String} {ce : Cell} {q : Addr} (hown : s.vm.findClass own = some m.cls) (x : ExceptionTableEntry) (ht : c.exceptionTable.toList = [x]) (hx : covers x pc = true) (h0 : x.catchType ≠ 0)
    (hlink : (Cond.classLink own x.catchType name).before args s = true) (hcast : (Cond.castable E name).before args s = true) (hcell : H[q]? = some ce) (hv : ce.vm = .none) (hcl : s.vm.findClass E = some ce.cls)
    (kk : W p l e R s m args below meth c H locs cells slots Q (F0 m x.handlerPc ls [.ref q])) : vx_W p l e R s m args below meth c H locs cells slots Q (F0 m pc ls rest) q := by
  intro T hT X
  have hpl : e.platform.magicAccessors = ({} : Platform).magicAccessors := by rw [X.admits.platform]
  obtain ⟨c3, c4, hc3, hc4, hasg⟩ := Cond.castable_spec hcast
  cases Option.some.inj (hc3.symm.trans hcl)
  obtain ⟨c5, hc5, hcl5⟩ := Cond.classLink_spec hown hlink e.platform hpl
  cases Option.some.inj (hc4.symm.trans hc5)
  obtain ⟨dk, _, _, kt, hd, _, _, _, _, hkt, _, hopen⟩ := hcl5.here
  have hal := X.warmed.alike
  obtain ⟨kt', hkt', -⟩ := hal.2.2 _ _ hkt
  obtain ⟨k9, hk9, -⟩ := Vm.findClass_spec hcl
  obtain ⟨k9', hk9', -⟩ := hal.2.2 _ _ hk9
  have hW' : s.WarmedH (T.vm.noted m.cls x.catchType (.cls c4)) := X.warmed.noted hd hopen (State.rightAt_cls hcl5)
  obtain ⟨t, a1, b1⟩ := kk (T.setVm (T.vm.noted m.cls x.catchType (.cls c4))) hT (X.noted hW')
  refine ⟨t, ?_, b1⟩
  exact pt_ctc (g := F0 m pc ls rest) X.here (pt_fnd_of (u := (T.setTop (F0 m pc ls rest)).pushFrame (.throwing q)) (f := F0 m pc ls rest) (meth9 := meth) (c9 := c) (k := c4) (cell := ce) X.method' X.code ht hx h0 (X.warmed.classLinks hcl5) (by show T.heap[q]? = some ce; rw [hT]; exact hcell) (VmData.ne_statics_of (by rw [hv]; rfl)) ⟨k9', hk9'⟩ ⟨kt', hkt'⟩ (by show T.vm.assignable _ _ = true; rw [hal.assignable]; exact hasg)) a1
end PTCATCH
/-- the words of a throw that only the tables' shape keeps -/
def pt_bad : List Cond := (vx_atS RX1 137 "java/lang/ArithmeticException" ["java/lang/RuntimeException", "java/lang/Exception"]).filter (fun w => !goodWord w)
theorem pt_bad_s : ∀ w ∈ pt_bad, w ∈ [Cond.castable "java/lang/ArithmeticException" "java/lang/ArithmeticException", Cond.declares (Bundle.initS "java/lang/RuntimeException"), Cond.declares (Bundle.initS "java/lang/Exception"), Cond.declares (Bundle.initS "java/lang/Throwable")] := by decide +kernel
def pt_BW (U : State) : Prop := ∀ w ∈ [Cond.castable "java/lang/ArithmeticException" "java/lang/ArithmeticException", Cond.declares (Bundle.initS "java/lang/RuntimeException"), Cond.declares (Bundle.initS "java/lang/Exception"), Cond.declares (Bundle.initS "java/lang/Throwable")], va_Nw w U
theorem pt_BW.warm {s U : State} (hW : s.WarmedH U.vm) (h : pt_BW s) : pt_BW U := by
  intro w hw
  have h1 := h w hw
  rcases List.mem_cons.mp hw with q | hw
  · rw [q] at h1 ⊢; exact va_Nw.warmC hW h1
  rcases List.mem_cons.mp hw with q | hw
  · rw [q] at h1 ⊢; exact va_Nw.warmD hW h1
  rcases List.mem_cons.mp hw with q | hw
  · rw [q] at h1 ⊢; exact va_Nw.warmD hW h1
  rcases List.mem_cons.mp hw with q | hw
  · rw [q] at h1 ⊢; exact va_Nw.warmD hW h1
  · cases hw
theorem pt_BW.same {s U : State} (hv : s.vm = U.vm) (h : pt_BW s) : pt_BW U := by
  intro w hw
  have h1 := h w hw
  rcases List.mem_cons.mp hw with q | hw
  · rw [q] at h1 ⊢; exact va_tabs rfl hv h1
  rcases List.mem_cons.mp hw with q | hw
  · rw [q] at h1 ⊢; exact va_tabs rfl hv h1
  rcases List.mem_cons.mp hw with q | hw
  · rw [q] at h1 ⊢; exact va_tabs rfl hv h1
  rcases List.mem_cons.mp hw with q | hw
  · rw [q] at h1 ⊢; exact va_tabs rfl hv h1
  · cases hw
/-- what a day of size 0 needs of the machine: the text, the words, Throwable's statics -/
def pt_DY (sa : Nat) (U : State) (H : Heap) : Prop := vk_R RX1 135 "a day of size 0" sa U ∧ pt_BW U ∧ vx_Zq Bundle.tN "UNASSIGNED_STACK" Bundle.steD (fun _ => False) U H ∧ vx_Zq Bundle.tN "SUPPRESSED_SENTINEL" Bundle.listD (fun _ => False) U H
theorem pt_DY.warm {sa : Nat} {s U : State} {H : Heap} (hW : s.WarmedH U.vm) (h : pt_DY sa s H) : pt_DY sa U H := ⟨vk_R.warm hW h.1, h.2.1.warm hW, vx_Zq.moved hW.alike h.2.2.1, vx_Zq.moved hW.alike h.2.2.2⟩
theorem pt_DY.calling {sa : Nat} {U : State} {g : JFrame} {mk : MethodId} {a : Array Value} {H : Heap} (h : pt_DY sa U H) : pt_DY sa (U.calling g mk a) H := ⟨vk_R.same (u := U) (U := U.calling g mk a) rfl h.1, h.2.1.same (s := U) (U := U.calling g mk a) rfl, vx_Zq.moved (u := U) (U := U.calling g mk a) (Vm.Alike.refl U.vm) h.2.2.1, vx_Zq.moved (u := U) (U := U.calling g mk a) (Vm.Alike.refl U.vm) h.2.2.2⟩
abbrev pt_rx (k n : Nat) : Room := { frames := k, cells := 1, slots := 6, locals := n }
theorem wd_day_0 : Cond.classLink RX1 133 "java/lang/ArithmeticException" ∈ wsX1_day := by decide +kernel
theorem wd_day_1 : Cond.initialized "java/lang/ArithmeticException" ∈ wsX1_day := by decide +kernel
theorem wd_day_2 : Cond.constantLong RX1 91 (-9223372036854775808) ∈ wsX1_day := by decide +kernel
theorem pt_atg : ∀ w ∈ Cond.classLink RX1 133 "java/lang/ArithmeticException" :: Cond.initialized "java/lang/ArithmeticException" :: (vx_atS RX1 137 "java/lang/ArithmeticException" ["java/lang/RuntimeException", "java/lang/Exception"]), vx_ot w = true := by decide +kernel
theorem pt_bad_ot : ∀ w ∈ pt_bad, w.onTables = true := by decide +kernel
set_option maxHeartbeats 4000000 in
set_option maxRecDepth 100000 in
/-- PointTrees.day -/
theorem c_X1_day (l : Launch) (hl0 : l.stackTraces = false) (h sa : Nat) (t z : Int64) : vx_Met l yX1_day wsX1_day (pt_rx 8 200) (va_Pc [.ref h, .long t, .long z] (fun U => pt_DY sa U U.heap)) (va_Ql (fun (r : Int64) (_ : Unit) => ¬ z = 0 ∧ r = pt_dX t z) (fun _ _ => True) (fun _ => False)) (vx_X (fun (_ : Unit) => z = 0) (fun E _ _ => E = "java/lang/ArithmeticException") (fun _ => False)) 1 6 (fun _ => False) := by
  refine vx_ofW (cc := cX1_day) (maxL := 5) (ret := (some .long)) (by decide) rfl ?_
  intro p e s m args below meth cd s₁ B hml hno hv
  obtain ⟨rfl, hstr, hbad, hZ1, hZ2⟩ := hv
  have hx := B.exec
  have hb := B.bytes
  have hr := B.returns
  have hts := atoms_spec (ws := wsX1_day) B.pre
  have hown : s.vm.findClass RX1 = some m.cls := findClass_of_methodNamed B.named
  have hlocks := B.notSynchronized
  have hl := lv_entry ([.ref h, .long t, .long z]) (n := 5) (Nat.le_of_ble_eq_true rfl)
  rw [lg_entry_eq]
  generalize (lg_sl ([.ref h, .long t, .long z]) ++ List.replicate (5 - (lg_sl ([.ref h, .long t, .long z])).length) Slot.unset).toArray = ls at hl ⊢
  have hl : lv_has ls 5 [(0, .ref h), (1, .long t), (3, .long z)] := hl
  have hS : va_S (fun _ => False) s.heap s.heap [] := va_S.rf
  refine lv_lload_n hx hb dX1_day_0 rfl (lv_at hl 2 rfl) ?_
  refine lv_lconst (v := 0) hx hb dX1_day_1 (by decide) ?_
  refine W.lcmp hx hb dX1_day_2 ?_
  refine lv_if_ne (tgt := 16) hx hb dX1_day_3 (by decide) (fun c3 => ?_) (fun c3 => ?_)
  · have d3 : ¬ z = 0 := fun q => c3 ((lg_cmp_eq _ _).mpr q)
    refine lv_lload_n hx hb dX1_day_16 rfl (lv_at hl 2 rfl) ?_
    refine lv_lconst (v := 0) hx hb dX1_day_17 (by decide) ?_
    refine W.lcmp hx hb dX1_day_18 ?_
    refine lv_if_ge (tgt := 26) hx hb dX1_day_19 (by decide) (fun c19 => ?_) (fun c19 => ?_)
    · have d19 : ¬ z < 0 := Int64.not_lt.mpr ((lg_cmp_ge _ _).mp c19)
      refine lv_lload_n hx hb dX1_day_26 rfl (lv_at hl 1 rfl) ?_
      refine lv_lload_n hx hb dX1_day_27 rfl (lv_at hl 2 rfl) ?_
      refine pt_rdl (va_runS (As := [.long t, .long z]) (rest := []) ⟨hx, hb, hml, hown, hts⟩ (c_J9_floorDiv l t z d3) (va_cwS 2 hts gX1_day_J9_floorDiv_f86c9 rfl rfl rfl (by decide +kernel) ⟨Nat.le_of_ble_eq_true rfl, Nat.le_of_ble_eq_true rfl⟩) ⟨fun a U g mk q => q, fun U hU hW => ⟨rfl, trivial⟩⟩ rfl rfl hl.1 rfl (lv_room (Nat.le_of_ble_eq_true rfl)) dX1_day_28 ⟨Nat.le_of_ble_eq_true rfl, Nat.le_of_ble_eq_true rfl⟩) (fun r28 hr28 => ?_)
      have e28 : r28 = pt_dX t z := by
        unfold pt_dX
        rw [pt_if_f d19]
        rcases hr28 with ⟨q1, q2, q3⟩ | ⟨q1, q2⟩
        · rw [pt_if_t ⟨q1, q2⟩]; exact q3
        · rw [pt_if_f q1]; exact q2
      refine W.widen (k := 1) (n := 6) (by omega) (by omega) ?_
      exact vx_ret (W.lret (v := r28) hx hb hr (fun zt zh zW => ⟨⟨_, (), rfl, ⟨d3, e28⟩, trivial⟩, hS.F zh⟩) hS.2.2 dX1_day_31)
    · have d19 : z < 0 := Int64.not_le.mp (fun q => c19 ((lg_cmp_ge _ _).mpr q))
      refine lv_ldc2 (v := -9223372036854775808) hx hb hown (hts _ wd_day_2) dX1_day_22 ?_
      refine W.widen (k := 1) (n := 6) (by omega) (by omega) ?_
      exact vx_ret (W.lret (v := (-9223372036854775808)) hx hb hr (fun zt zh zW => ⟨⟨_, (), rfl, ⟨d3, by unfold pt_dX; rw [pt_if_t d19]⟩, trivial⟩, hS.F zh⟩) hS.2.2 dX1_day_25)
  · have d3 : z = 0 := (lg_cmp_eq _ _).mp c3
    exact vx_throwS (pc := 6) (own := RX1) (cls := "java/lang/ArithmeticException") (text := "a day of size 0") (names := ["java/lang/RuntimeException", "java/lang/Exception"]) (ik := 133) (is := 135) (ic := 137) (sa := sa) (A := fun _ => False) (rest := []) hx hb hl0 hown (by decide +kernel) (by decide +kernel) (hts _ wd_day_0) (hts _ wd_day_1) hstr (vx_hat (B := pt_bad) (fun w hw => hts w (List.mem_cons_of_mem _ (List.mem_append_right _ hw))) (fun w hw => hw) (fun w hw => va_tabs (pt_bad_ot w hw) rfl (hbad w (pt_bad_s w hw)))) pt_atg hZ1 hZ2 hS (hl.1.trans hml.symm) dX1_day_6 dX1_day_9 dX1_day_10 dX1_day_12 dX1_day_15 (fun x hx9 => (hno x hx9).elim) (Nat.le_of_ble_eq_true rfl) (Nat.le_of_ble_eq_true rfl) (Nat.le_of_ble_eq_true rfl) (Nat.le_of_ble_eq_true rfl) hlocks (fun t9 hW9 h1 h2 => ⟨(), d3, rfl, h1, fun q hq _ => h2 q hq⟩) (fun z9 hz9 => nomatch hz9) (Nat.le_refl _) (Nat.le_refl _)

theorem wd_Lday_0 : Cond.classLink RL 13 "java/lang/ArithmeticException" ∈ wsL_day := by decide +kernel
theorem wd_Lday_1 : Cond.codeWith yL_day cL_day 7 (some .int) [(0, 10, 13, 13)] ∈ wsL_day := by decide +kernel
theorem pt_kept0 {D : va_G} {cl : List vw_C} {ws : va_W} {H H1 : Heap} (hP : va_P D cl ws H) (hk : ∀ q : Nat, q < H.size → ¬ False → H1[q]? = H[q]?) : va_P D cl ws H1 := hP.kept (fun k q hq => hk q.1 (hP k q hq).lt (fun z => z))
set_option maxHeartbeats 4000000 in
set_option maxRecDepth 100000 in
/-- the law's own day: 1 where the class's throws -/
theorem c_L_day (l : Launch) (hl0 : l.stackTraces = false) (dC : Nat → ClassId) (dI : Nat → Nat → Nat) (h o : Nat) (fs : List Value) (cO : ClassId) (f : Nat → Int64) (sz sa : Nat) (t z : Int64) : vx_Met l yL_day wsL_day (pt_rx 10 300) (va_Pc [.ref h, .long t, .long z, .ref o] (fun U => U.heap.size = sz ∧ va_P (dC, dI) vwCl [(h, .inr (1, fs)), (o, .inl (cO, 1, .inr (.inl f)))] U.heap ∧ va_K (dC, dI) vwCl [(cO, .long)] U ∧ pt_DY sa U U.heap)) (va_Qi (fun (r : Int32) (u : Nat → Int64) => (¬ z = 0 ∧ r = nI 0 ∧ u = vp_updL f 0 (pt_dX t z)) ∨ (z = 0 ∧ r = nI 1 ∧ u = f)) (fun u t9 => va_P (dC, dI) vwCl [(o, .inl (cO, 1, .inr (.inl u)))] t9.heap) (va_A [(o, .inl (cO, 1, .inr (.inl f)))] sz)) (vx_X (fun (_ : Unit) => False) (fun _ _ _ => True) (fun _ => False)) 1 6 (va_A [(o, .inl (cO, 1, .inr (.inl f)))] sz) := by
  refine vx_ofWH (cc := cL_day) (maxL := 7) (ret := (some .int)) (hh := [(0, 10, 13, 13)]) (by decide) rfl ?_
  intro p e s m args below meth cd s₁ B hml hv
  obtain ⟨rfl, hsz, hPh, hK, hY⟩ := hv
  have hx := B.exec
  have hb := B.bytes
  have hr := B.returns
  have hts := atoms_spec (ws := wsL_day) B.pre
  have hown : s.vm.findClass RL = some m.cls := findClass_of_methodNamed B.named
  have hlocks := B.notSynchronized
  have htb := vx_table (x := yL_day) B (hts _ wd_Lday_1)
  subst hsz
  have hP : va_P (dC, dI) vwCl [(o, .inl (cO, 1, .inr (.inl f)))] s.heap := hPh.sub [1] rfl
  have hD0 : va_D (fun _ => True) ([(o, .inl (cO, 1, .inr (.inl f)))] : va_W) := ⟨fun i j p q hi hj _ => by
    have h1 := (List.getElem?_eq_some_iff.mp hi).1
    have h2 := (List.getElem?_eq_some_iff.mp hj).1
    have h3 : i < 1 := h1
    have h4 : j < 1 := h2
    omega, fun _ _ _ => trivial⟩
  have hD := hD0.self (sz := s.heap.size)
  generalize hAe : va_A [(o, .inl (cO, 1, .inr (.inl f)))] s.heap.size = AA at hD ⊢
  have hA : ∀ q : Nat, s.heap.size ≤ q → AA q := fun q h => by rw [← hAe]; exact Or.inr h
  have hS : va_S AA s.heap s.heap [] := va_S.rf
  have hl := lv_entry ([.ref h, .long t, .long z, .ref o]) (n := 7) (Nat.le_of_ble_eq_true rfl)
  rw [lg_entry_eq]
  generalize (lg_sl ([.ref h, .long t, .long z, .ref o]) ++ List.replicate (7 - (lg_sl ([.ref h, .long t, .long z, .ref o])).length) Slot.unset).toArray = ls at hl ⊢
  have hl : lv_has ls 7 [(0, .ref h), (1, .long t), (3, .long z), (5, .ref o)] := hl
  refine lv_aload hx hb dL_day_0 (lv_at hl 3 rfl) ?_
  refine lv_iconst (v := nI 0) hx hb dL_day_2 (by decide) ?_
  refine lv_aload_n hx hb dL_day_3 rfl (lv_at hl 0 rfl) ?_
  refine lv_lload_n hx hb dL_day_4 rfl (lv_at hl 1 rfl) ?_
  refine lv_lload_n hx hb dL_day_5 rfl (lv_at hl 2 rfl) ?_
  refine vx_calll (A0 := AA) (H0 := s.heap) (vx_runV (As := [.long t, .long z]) (rest := [.int (nI 0), .ref o]) ⟨hx, hb, hml, hown, hts⟩ (c_X1_day l hl0 h sa t z) (cwV 2 hts gL_day_X1_day rfl rfl rfl (by decide +kernel) ⟨Nat.le_of_ble_eq_true rfl, Nat.le_of_ble_eq_true rfl⟩) ⟨fun a U g mk q => ⟨q.1, q.2.calling⟩, va_recv hK hPh (ci := 1) (q := (RX1, TX1, 18)) rfl (q0 := 0) rfl, fun U hU hW => ⟨rfl, by show pt_DY sa U U.heap; rw [hU]; exact hY.warm hW⟩⟩ rfl rfl hl.1 rfl (lv_room (Nat.le_of_ble_eq_true rfl)) dL_day_6 ⟨Nat.le_of_ble_eq_true rfl, Nat.le_of_ble_eq_true rfl⟩) hS (fun q _ h9 => h9.elim) (fun q h9 => h9.elim) (fun q _ h9 => h9.elim) (fun E ce q9 u t9 H1 locs1 ht9 hvm9 hpx hBX hz1 hk1 hS1 hce hcv hcl => ?_) (fun r6 u t9 H1 locs1 ht9 hvm9 hpo hBB hz1 hk1 hS1 => ?_)
  · subst hBX
    refine pt_catch (own := RL) (name := "java/lang/ArithmeticException") hown ⟨0, 10, 13, 13⟩ htb (by decide) (by decide) (hts _ wd_Lday_0) (va_tabs rfl rfl (hY.2.1 _ List.mem_cons_self)) hce hcv hcl ?_
    have hP1 := pt_kept0 hP hk1
    refine lv_astore (lv' := [(6, .ref q9), (0, .ref h), (1, .long t), (3, .long z), (5, .ref o)]) hx hb dL_day_13 hl (by decide) rfl (fun ls hl => ?_)
    refine lv_iconst (v := nI 1) hx hb dL_day_15 (by decide) ?_
    exact vx_ret (W.iret (v := nI 1) hx hb hr (fun zt zh zW => ⟨⟨_, f, rfl, Or.inr ⟨hpx, rfl, rfl⟩, by show va_P _ _ _ zt.heap; rw [zh]; exact hP1⟩, hS1.F zh⟩) hS1.2.2 dL_day_16)
  · have hP1 := pt_kept0 hP hk1
    refine pt_last (tys := [(cO, .long)]) hx hb hK hP1 hD hS1 0 0 rfl rfl 0 rfl (by decide) (by decide) (ws' := [(o, .inl (cO, 1, .inr (.inl (vp_updL f 0 r6))))]) rfl dL_day_9 (fun H locs hP hD hS => ?_)
    refine lv_goto (tgt := 17) hx hb dL_day_10 (by decide) ?_
    refine lv_iconst (v := nI 0) hx hb dL_day_17 (by decide) ?_
    exact vx_ret (W.iret (v := nI 0) hx hb hr (fun zt zh zW => ⟨⟨_, vp_updL f 0 r6, rfl, Or.inl ⟨hpo.1, rfl, by rw [hpo.2]⟩, by show va_P _ _ _ zt.heap; rw [zh]; exact hP⟩, hS.F zh⟩) hS.2.2 dL_day_18)
