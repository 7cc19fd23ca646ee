theorem pt_ap.l {w1 w2 w3 : va_W} (h : pt_ap (w1 ++ w2) w3) : pt_ap w1 w3 := fun i j p q hp hq => h i j p q (by rw [List.getElem?_append_left (List.getElem?_eq_some_iff.mp hp).1]; exact hp) hq
theorem pt_ap.r {w1 w2 w3 : va_W} (h : pt_ap (w1 ++ w2) w3) : pt_ap w2 w3 := fun i j p q hp hq => h (w1.length + i) j p q (by rw [List.getElem?_append_right (Nat.le_add_right _ _), Nat.add_sub_cancel_left]; exact hp) hq
theorem pt_Pl {D : va_G} {cl : List vw_C} {w1 w2 : va_W} {H : Heap} (h : va_P D cl (w1 ++ w2) H) : va_P D cl w1 H := h.by (fun k => k) (fun k q hk => by rw [List.getElem?_append_left (List.getElem?_eq_some_iff.mp hk).1]; exact hk)
theorem pt_Pr {D : va_G} {cl : List vw_C} {w1 w2 : va_W} {H : Heap} (h : va_P D cl (w1 ++ w2) H) : va_P D cl w2 H := h.by (fun k => w1.length + k) (fun k q hk => by rw [List.getElem?_append_right (Nat.le_add_right _ _), Nat.add_sub_cancel_left]; exact hk)
theorem pt_Dl {A : Nat → Prop} {w1 w2 : va_W} (h : va_D A (w1 ++ w2)) : va_D A w1 := h.by (fun k => k) (fun k q hk => by rw [List.getElem?_append_left (List.getElem?_eq_some_iff.mp hk).1]; exact hk) (fun i j _ _ e => e)
theorem pt_Dr {A : Nat → Prop} {w1 w2 : va_W} (h : va_D A (w1 ++ w2)) : va_D A w2 := h.by (fun k => w1.length + k) (fun k q hk => by rw [List.getElem?_append_right (Nat.le_add_right _ _), Nat.add_sub_cancel_left]; exact hk) (fun i j _ _ e => Nat.add_left_cancel e)
theorem rl_start : pt_Rel (fun k => if k = 0 then nI 1 else 0) (fun _ _ => 0) (fun k => if k = 1 then nI 1 else 0) (fun _ _ => 0) := by
  refine ⟨1, 0, 0, 0, (0, fun _ => 0, fun _ _ => 0, fun _ _ _ => 0), fun _ => False, 0, 0, 0, 0, ⟨by omega, by omega, by omega, by omega, by omega⟩, ⟨rfl, nI_0.symm, nI_0.symm, nI_0.symm⟩, ⟨rfl, nI_0.symm⟩, fun t ht => absurd ht (Nat.not_lt_zero _), fun v x hv => absurd hv (Nat.not_lt_zero _), fun v x hv => absurd hv (Nat.not_lt_zero _), ⟨?_, ⟨nI_0.symm, fun q hq => absurd hq (Nat.not_lt_zero _), fun q hq => absurd hq (Nat.not_lt_zero _)⟩, ⟨nI_0.symm, fun q hq => absurd hq (Nat.not_lt_zero _), fun q hq => absurd hq (Nat.not_lt_zero _)⟩, fun t ht => absurd ht (Nat.not_lt_zero _)⟩, ⟨nI_0.symm, fun x _ => pt_B.zero (fun q => q), ?_⟩, ⟨nI_0.symm, fun x _ => pt_B.zero (fun q => q)⟩, ⟨nI_0.symm, nI_0.symm, nI_0.symm⟩, nI_0.symm, nI_0.symm, nI_0.symm⟩
  · exact ⟨by show 0 ≤ 31; omega, by omega, ⟨fun b hb => absurd hb (Nat.not_lt_zero _), fun b c _ hc => absurd hc (Nat.not_lt_zero _), fun b c _ hc => absurd hc (Nat.not_lt_zero _), fun b hb => absurd hb (Nat.not_lt_zero _), fun b hb => absurd hb (Nat.not_lt_zero _)⟩, fun b hb => absurd hb (Nat.not_lt_zero _)⟩
  · rw [pt_cnt_none 64 (fun _ _ q => q)]; exact Nat.le_refl _
theorem pt_nw_ot : ∀ w ∈ pt_nw, w.onTables = true := by decide +kernel
theorem pt_nw_in : ∀ w ∈ pt_nw, w ∈ lw_tbl := by decide +kernel
theorem pt_bw_in : ∀ w ∈ [Cond.castable "java/lang/ArithmeticException" "java/lang/ArithmeticException", Cond.declares (Bundle.initS "java/lang/RuntimeException"), Cond.declares (Bundle.initS "java/lang/Exception"), Cond.declares (Bundle.initS "java/lang/Throwable")], w ∈ lw_tbl ∧ w.onTables = true := by decide +kernel
theorem wd_S_0 : Cond.instantiable RX0 1 ∈ wsL_law := by decide +kernel
theorem wd_S_1 : Cond.instantiable RX1 18 ∈ wsL_law := by decide +kernel
theorem wd_S_2 : Cond.instantiable RX2 27 ∈ wsL_law := by decide +kernel
theorem wd_S_3 : Cond.classLink RL 8 RX1 ∈ wsL_law := by decide +kernel
theorem wd_S_4 : Cond.initialized RX1 ∈ wsL_law := by decide +kernel
theorem wd_S_5 : Cond.methodLink RL 15 yX1_init ∈ wsL_law := by decide +kernel
theorem wd_S_6 : Cond.instanceMethod yX1_init ∈ wsL_law := by decide +kernel
theorem wd_S_7 : Cond.classLink RL 16 RX2 ∈ wsL_law := by decide +kernel
theorem wd_S_8 : Cond.initialized RX2 ∈ wsL_law := by decide +kernel
theorem wd_S_9 : Cond.methodLink RL 18 yX2_init ∈ wsL_law := by decide +kernel
theorem wd_S_10 : Cond.instanceMethod yX2_init ∈ wsL_law := by decide +kernel
theorem wd_S_11 : Cond.arrayClass .long ∈ wsL_law := by decide +kernel
theorem wd_T_0 : Cond.stringRef "PointTrees" 135 "a day of size 0" ∈ lw_tbl := by decide +kernel
theorem wd_T_1 : Cond.laysStatic Bundle.tN "UNASSIGNED_STACK" Bundle.steD ∈ lw_tbl := by decide +kernel
theorem wd_T_2 : Cond.initialized Bundle.tN ∈ lw_tbl := by decide +kernel
theorem wd_T_3 : Cond.laysStatic Bundle.tN "SUPPRESSED_SENTINEL" Bundle.listD ∈ lw_tbl := by decide +kernel
theorem wd_G_0 : Cond.exactly (.string "PointTrees" 135) "java/lang/String" ∈ flatC (Jvm.Cond.and given_1 narrow_1) := by decide +kernel
theorem wd_G_1 : Cond.isRef (.static Bundle.tN "UNASSIGNED_STACK" Bundle.steD) ∈ flatC (Jvm.Cond.and given_1 narrow_1) := by decide +kernel
theorem wd_G_2 : Cond.isRef (.static Bundle.tN "SUPPRESSED_SENTINEL" Bundle.listD) ∈ flatC (Jvm.Cond.and given_1 narrow_1) := by decide +kernel
