/-! THE CLAIM OUT OF ONE WALK OF THE LAW'S BODY. Your part is whole_start (and what it stands on); all else here is the same for every law, but numbers. -/
def R_law : String := "PointTreesLaw"
def lw_P (b : Addr) (xs : List Int32) (args : Array Value) (s : State) : Prop := args = #[.ref b] ∧ s.IntsAt b xs ∧ xs.length ≤ 4096 ∧ (Jvm.Cond.and given_1 narrow_1).before args s = true
def lw_Q (_ : Array Value) (s : State) (o : Outcome) (t : State) : Prop := o = .returned (some (.int 1)) ∧ Framed s o t [] 601024 7293034
def lw_Z (below : List Frame) (a : Array Value) (s : State) : State → Prop := fun t => ∃ o, t.status = .running ∧ Ended t below o ∧ lw_Q a s o t
/-- the law's own end, with 1 on the stack, nothing written that was there before, its room as the claim has it -/
theorem lw_ret {p : Program} {l : Launch} {e : Env} {s : State} {m : MethodId} {below : List Frame} {meth : Method} {c : Code} {b : Nat} (hx : p.tables.exec = Jvm.exec) (hb : c.code = code) (hr : meth.sig.returnType = ret) (hlocks : meth.locks = false) {pc : Nat} {H : Heap} {ls : Array Slot} (hdg : decode code pc = .ok (.ireturn, 1)) : W p l e room_1 s m #[Value.ref b] below meth c H [] 601024 7293034 (lw_Z below #[Value.ref b] s) (F0 m pc ls [.int 1]) := by
  intro T hT X
  obtain ⟨fs, hret, hrun, hended, hW, hframe⟩ := X.leave (v := some (.int 1)) (hlocks := hlocks) (fun h => by rw [hr] at h; cases h)
  have hmeth' : T.vm.method? m = some meth := X.method'
  refine ⟨T.setFrames fs, ?_, .returned (some (.int 1)), hrun, hended, rfl, ⟨_, rfl⟩, hW, hframe⟩
  jvm_step X.here [X.here.top, hx, hb, hdg, hmeth', hr, ret, narrow_b1]
  (try refine ⟨rfl, ?_⟩); (try refine ⟨rfl, ?_⟩)
  first | (intro acts; rw [hret _ acts rfl rfl rfl]) | rw [hret _ _ rfl rfl rfl]
  exact Steps.refl _
/-- what holds at the law's entry: the machine, the code, the tables' words (any of lw_tbl by 'hts w (by decide +kernel)'), the script of L ints xs at the cell b, what the Statement gives of the start (any of its parts by flat_of_before) -/
def lw_At (p : Program) (s : State) (m : MethodId) (meth : Method) (c : Code) (b L : Nat) (xs : Nat → Int32) : Prop :=
  p.tables.exec = Jvm.exec ∧ c.code = code ∧ meth.sig.returnType = ret ∧ c.maxLocals = 8 ∧ s.vm.findClass R_law = some m.cls ∧ (∀ w ∈ lw_tbl, w.before #[Value.ref b] s = true) ∧ va_X b L xs s s.heap ∧ b < s.heap.size ∧ meth.locks = false ∧ (Jvm.Cond.and given_1 narrow_1).before #[Value.ref b] s = true
/-- what stays over the law's whole run -/
def lw_C (s : State) (dC : Nat → ClassId) (dI : Nat → Nat → Nat) (a : Nat → Nat) (ca : Nat → ClassId) (d : Nat → Nat) (cd : Nat → ClassId) (o : Nat) (cO : ClassId) (sa : Nat) : Prop :=
  va_K (dC, dI) vwCl (pt_xt ca) s ∧ va_K (dC, dI) vwCl (pt_mt cd) s ∧ va_K (dC, dI) vwCl [(cO, .long)] s ∧ pt_NW pt_nw s ∧ pt_ap (pt_xw a ca (fun _ => 0) (fun _ _ => 0) (fun _ => 0)) (pt_mw d cd (fun _ => 0) (fun _ _ => 0)) ∧ pt_ap (pt_xw a ca (fun _ => 0) (fun _ _ => 0) (fun _ => 0)) [(o, .inl (cO, 1, .inr (.inl (fun _ => 0))))] ∧ pt_ap (pt_mw d cd (fun _ => 0) (fun _ _ => 0)) [(o, .inl (cO, 1, .inr (.inl (fun _ => 0))))] ∧ vk_R RX1 135 "a day of size 0" sa s ∧ pt_BW s ∧ vx_Zq Bundle.tN "UNASSIGNED_STACK" Bundle.steD (fun q : Nat => s.heap.size ≤ q) s s.heap ∧ vx_Zq Bundle.tN "SUPPRESSED_SENTINEL" Bundle.listD (fun q : Nat => s.heap.size ≤ q) s s.heap
/-- what holds between two turns: the class's and the reference's cells stand for one state -/
def lw_I (s : State) (dC : Nat → ClassId) (dI : Nat → Nat → Nat) (a : Nat → Nat) (ca : Nat → ClassId) (d : Nat → Nat) (cd : Nat → ClassId) (o : Nat) (cO : ClassId) (F : Nat → Int32) (A : Nat → Nat → Int32) (Q : Nat → Int64) (G : Nat → Int32) (B : Nat → Nat → Int32) (f : Nat → Int64) (H : Heap) (locs : List Loc) : Prop :=
  pt_Rel F A G B ∧ (va_P (dC, dI) vwCl (pt_xw a ca F A Q) H ∧ va_P (dC, dI) vwCl (pt_mw d cd G B) H ∧ va_P (dC, dI) vwCl [(o, .inl (cO, 1, .inr (.inl f)))] H) ∧ (va_D (fun q : Nat => s.heap.size ≤ q) (pt_xw a ca F A Q) ∧ va_D (fun q : Nat => s.heap.size ≤ q) (pt_mw d cd G B) ∧ va_D (fun q : Nat => s.heap.size ≤ q) [(o, .inl (cO, 1, .inr (.inl f)))]) ∧ va_S (fun q : Nat => s.heap.size ≤ q) s.heap H locs
theorem wd_L_0 : Cond.constantLong RL 83 (4294967295) ∈ wsL_law := by decide +kernel
