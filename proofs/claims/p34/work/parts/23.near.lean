/-! THE NEAREST that dominates -/
theorem cn_mono {f g : Nat → Bool} : ∀ n, (∀ i, i < n → f i = true → g i = true) → cn f n ≤ cn g n := by
  intro n
  induction n with
  | zero => intro _; exact Nat.le_refl _
  | succ n ih =>
    intro h
    have h1 := ih (fun i hi => h i (by omega))
    have h2 := h n (by omega)
    show cn f n + (f n).toNat ≤ cn g n + (g n).toNat
    cases hf : f n with
    | false => simp; omega
    | true => rw [h2 hf]; omega
theorem cn_lt {f g : Nat → Bool} : ∀ n, (∀ i, i < n → f i = true → g i = true) → (∃ j, j < n ∧ f j = false ∧ g j = true) → cn f n < cn g n := by
  intro n
  induction n with
  | zero => rintro _ ⟨j, hj, -⟩; omega
  | succ n ih =>
    rintro h ⟨j, hj, h1, h2⟩
    have h3 := h n (by omega)
    show cn f n + (f n).toNat < cn g n + (g n).toNat
    rcases Nat.lt_or_ge j n with c | c
    · have h4 := ih (fun i hi => h i (by omega)) ⟨j, c, h1, h2⟩
      cases hf : f n with
      | false => simp; omega
      | true => rw [h3 hf]; omega
    · have : j = n := by omega
      subst this
      have h4 := cn_mono (f := f) (g := g) j (fun i hi => h i (by omega))
      rw [h1, h2]
      simp
      omega
theorem tb1 {k : Nat} (h : k ≠ 0) : (1 : Nat).testBit k = false := by
  cases hq : (1 : Nat).testBit k with
  | false => rfl
  | true => exact absurd (Nat.testBit_one_eq_true_iff_self_eq_zero.mp hq) h
theorem tbs {e b : Nat} (h : e ≠ b) : (decide (b ≤ e) && (1 : Nat).testBit (e - b)) = false := by
  rcases Nat.lt_or_ge e b with c | c
  · rw [decide_eq_false (by omega), Bool.false_and]
  · have : e - b ≠ 0 := by omega
    rw [tb1 this, Bool.and_false]
section NEA
variable {I : Nat → Nat → Int32} {J : Nat → Nat → Int64} {Q : Option Value → ab_H → Prop} {A : Nat → Nat → Nat} {p : Nat} {R : Prop}
end NEA
