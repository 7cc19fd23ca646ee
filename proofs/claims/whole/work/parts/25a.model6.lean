def pt_mn0 (g : Nat → Int32) (c0 : Int32) (f : Nat) : Nat → Int32
  | 0 => c0
  | n + 1 => if g (f + n) < pt_mn0 g c0 f n then g (f + n) else pt_mn0 g c0 f n
def pt_mx0 (g : Nat → Int32) (c0 : Int32) (f : Nat) : Nat → Int32
  | 0 => c0
  | n + 1 => if pt_mx0 g c0 f n < g (f + n) then g (f + n) else pt_mx0 g c0 f n
theorem pt_mn0_e {g : Nat → Int32} {c0 : Int32} {f : Nat} (h : g f ≤ c0) : ∀ n, pt_mn0 g c0 f (n + 1) = pt_mn g f n
  | 0 => by
    show (if g (f + 0) < c0 then g (f + 0) else c0) = g f
    rw [Nat.add_zero]
    split
    · rfl
    · rename_i q
      exact Int32.le_antisymm (Int32.not_lt.mp q) h
  | n + 1 => by
    show (if g (f + (n + 1)) < pt_mn0 g c0 f (n + 1) then g (f + (n + 1)) else pt_mn0 g c0 f (n + 1)) = (if g (f + 1 + n) < pt_mn g f n then g (f + 1 + n) else pt_mn g f n)
    rw [pt_mn0_e h n, show f + (n + 1) = f + 1 + n by omega]
theorem pt_mx0_e {g : Nat → Int32} {c0 : Int32} {f : Nat} (h : c0 ≤ g f) : ∀ n, pt_mx0 g c0 f (n + 1) = pt_mx g f n
  | 0 => by
    show (if c0 < g (f + 0) then g (f + 0) else c0) = g f
    rw [Nat.add_zero]
    split
    · rfl
    · rename_i q
      exact Int32.le_antisymm h (Int32.not_lt.mp q)
  | n + 1 => by
    show (if pt_mx0 g c0 f (n + 1) < g (f + (n + 1)) then g (f + (n + 1)) else pt_mx0 g c0 f (n + 1)) = (if pt_mx g f n < g (f + 1 + n) then g (f + 1 + n) else pt_mx g f n)
    rw [pt_mx0_e h n, show f + (n + 1) = f + 1 + n by omega]
def pt_wv (sp : Nat → Int32) : Nat → Int32
  | 0 => -1
  | n + 1 => sp (pt_wa sp (n + 1))
theorem pt_wa_1 (sp : Nat → Int32) : pt_wa sp 1 = 0 := by show (if _ then 0 else 0) = 0; split <;> rfl
theorem pt_wa_take {sp : Nat → Int32} : ∀ {i : Nat}, ¬ sp i ≤ pt_wv sp i → pt_wa sp (i + 1) = i ∧ pt_wv sp (i + 1) = sp i
  | 0, _ => ⟨pt_wa_1 sp, by show sp (pt_wa sp 1) = _; rw [pt_wa_1]⟩
  | i + 1, h => by
    have e : pt_wa sp (i + 1 + 1) = i + 1 := if_pos (Int32.not_le.mp h)
    exact ⟨e, by show sp (pt_wa sp (i + 1 + 1)) = _; rw [e]⟩
theorem pt_wa_keep {sp : Nat → Int32} (h0 : ¬ sp 0 ≤ -1) : ∀ {i : Nat}, sp i ≤ pt_wv sp i → pt_wa sp (i + 1) = pt_wa sp i ∧ pt_wv sp (i + 1) = pt_wv sp i
  | 0, h => absurd h h0
  | i + 1, h => by
    have e : pt_wa sp (i + 1 + 1) = pt_wa sp (i + 1) := if_neg (Int32.not_lt.mpr h)
    exact ⟨e, by show sp (pt_wa sp (i + 1 + 1)) = sp (pt_wa sp (i + 1)); rw [e]⟩
theorem pt_mnx_b {g : Nat → Int32} {f : Nat} {a b : Int} : ∀ n, (∀ i, f ≤ i → i < f + 1 + n → a ≤ (g i).toInt ∧ (g i).toInt ≤ b) → a ≤ (pt_mn g f n).toInt ∧ (pt_mn g f n).toInt ≤ (pt_mx g f n).toInt ∧ (pt_mx g f n).toInt ≤ b
  | 0, h => ⟨(h f (Nat.le_refl _) (by omega)).1, Int.le_refl _, (h f (Nat.le_refl _) (by omega)).2⟩
  | n + 1, h => by
    obtain ⟨h1, h2, h3⟩ := pt_mnx_b n (fun i p q => h i p (by omega))
    have h4 := h (f + 1 + n) (by omega) (by omega)
    show a ≤ (if g (f + 1 + n) < pt_mn g f n then g (f + 1 + n) else pt_mn g f n).toInt ∧ (if g (f + 1 + n) < pt_mn g f n then g (f + 1 + n) else pt_mn g f n).toInt ≤ (if pt_mx g f n < g (f + 1 + n) then g (f + 1 + n) else pt_mx g f n).toInt ∧ (if pt_mx g f n < g (f + 1 + n) then g (f + 1 + n) else pt_mx g f n).toInt ≤ b
    split <;> split <;> rename_i p q <;> simp only [Int32.lt_iff_toInt_lt] at p q <;> omega
theorem pt_sub_nn {x y : Int32} (h1 : y.toInt ≤ x.toInt) (h2 : x.toInt - y.toInt ≤ 2000000000) : ¬ x - y ≤ -1 := by
  rw [Int32.le_iff_toInt_le, Int32.toInt_sub]
  have e : (-1 : Int32).toInt = -1 := by decide +kernel
  rw [e, Int.bmod_def]
  split <;> omega
theorem pt_add_b {x y : Int32} (h1 : -1000000 ≤ x.toInt ∧ x.toInt ≤ 1000000) (h2 : -1000000 ≤ y.toInt ∧ y.toInt ≤ 1000000) : (x + y).toInt = x.toInt + y.toInt := by
  rw [Int32.toInt_add, Int.bmod_def]
  split <;> omega
/-- boxes that keep to their bounds -/
def pt_bd (lo hi : Int32) : Prop := -1000000 ≤ lo ∧ lo ≤ hi ∧ hi ≤ 1000000
theorem pt_bd_i {lo hi : Int32} (h : pt_bd lo hi) : -1000000 ≤ lo.toInt ∧ lo.toInt ≤ hi.toInt ∧ hi.toInt ≤ 1000000 := by
  obtain ⟨h1, h2, h3⟩ := h
  rw [Int32.le_iff_toInt_le] at h1 h2 h3
  have e : (-1000000 : Int32).toInt = -1000000 := by decide +kernel
  have e2 : (1000000 : Int32).toInt = 1000000 := by decide +kernel
  rw [e] at h1
  rw [e2] at h3
  exact ⟨h1, h2, h3⟩
theorem pt_bd_s {lo hi : Int32} (h : pt_bd lo hi) : -2000000 ≤ (lo + hi).toInt ∧ (lo + hi).toInt ≤ 2000000 := by
  have := pt_bd_i h
  rw [pt_add_b ⟨by omega, by omega⟩ ⟨by omega, by omega⟩]
  omega
