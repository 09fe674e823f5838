/-! THE TEXT: words of both sides by number; the reference's tokens one by one -/
def wC (n : Nat) : Nat := if n < 8 then n else if n = 8 then 20 else n + 1
noncomputable def wkM (tp : Nat → Nat) (a e : Nat) : Nat := @ite _ (∃ n, n < 12 ∧ WM tp a e n) (Classical.propDecidable _) (wC (Classical.epsilon (fun n => n < 12 ∧ WM tp a e n))) 21
theorem wL_ne : ∀ n, n < 12 → ∀ m, m < 12 → n ≠ m → wE (n + 1) - wE n = wE (m + 1) - wE m → ¬ ∀ k, k < wE (n + 1) - wE n → wL (wE n + k) = wL (wE m + k) := by decide
theorem WM_one {tp : Nat → Nat} {a e n m : Nat} (hn : n < 12) (hm : m < 12) (h1 : WM tp a e n) (h2 : WM tp a e m) : n = m := by
  by_cases c : n = m
  · exact c
  · exfalso
    refine wL_ne n hn m hm c (h1.1.symm.trans h2.1) (fun k hk => ?_)
    have := h1.1
    exact (h1.2 k (by omega)).symm.trans (h2.2 k (by omega))
theorem wkM_of {tp : Nat → Nat} {a e n : Nat} (hn : n < 12) (h : WM tp a e n) : wkM tp a e = wC n := by
  unfold wkM
  rw [if_pos ⟨n, hn, h⟩]
  have := Classical.epsilon_spec (p := fun n => n < 12 ∧ WM tp a e n) ⟨n, hn, h⟩
  rw [WM_one this.1 hn this.2 h]
theorem wkM_no {tp : Nat → Nat} {a e : Nat} (h : ∀ n, n < 12 → ¬ WM tp a e n) : wkM tp a e = 21 := if_neg (fun ⟨n, h1, h2⟩ => h n h1 h2)
theorem wC_le : ∀ n, n < 12 → wC n ≤ 20 ∧ wC n ≠ 8 ∧ wC n ≠ 9 := by decide
theorem wkM_cases (tp : Nat → Nat) (a e : Nat) : (∃ n, n < 12 ∧ WM tp a e n ∧ wkM tp a e = wC n) ∨ ((∀ n, n < 12 → ¬ WM tp a e n) ∧ wkM tp a e = 21) := by
  by_cases c : ∃ n, n < 12 ∧ WM tp a e n
  · obtain ⟨n, h1, h2⟩ := c
    exact Or.inl ⟨n, h1, h2, wkM_of h1 h2⟩
  · have : ∀ n, n < 12 → ¬ WM tp a e n := fun n h1 h2 => c ⟨n, h1, h2⟩
    exact Or.inr ⟨this, wkM_no this⟩
theorem wkM_le (tp : Nat → Nat) (a e : Nat) : wkM tp a e ≤ 21 := by
  rcases wkM_cases tp a e with ⟨n, h1, h2, h3⟩ | ⟨h1, h2⟩
  · have := wC_le n h1; omega
  · omega
theorem wkM_89 (tp : Nat → Nat) (a e : Nat) : wkM tp a e ≠ 8 ∧ wkM tp a e ≠ 9 := by
  rcases wkM_cases tp a e with ⟨n, h1, h2, h3⟩ | ⟨h1, h2⟩
  · have := wC_le n h1; omega
  · omega
section MT2
variable {I I' : Nat → Nat → Int32} {J J' : Nat → Nat → Int64} {Q : Option Value → ab_H → Prop} {tp : Nat → Nat} {tl : Nat} {wk : Nat → Nat → Nat} {K V : Nat → Nat} {N i : Nat}
end MT2
