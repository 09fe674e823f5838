/-! THE TEXT: words, the reference -/
/-- the word n stands from a up to e -/
def WM (tp : Nat → Nat) (a e n : Nat) : Prop := e - a = wE (n + 1) - wE n ∧ ∀ k, k < e - a → tp (a + k) = wL (wE n + k)
theorem wE_lt : ∀ n, n < 12 → wE n ≤ wE (n + 1) ∧ wE (n + 1) ≤ 39 := by decide
theorem wL_lt : ∀ k, k < 39 → wL k < 128 := by decide
section MWO
variable {I I' : Nat → Nat → Int32} {J J' : Nat → Nat → Int64} {Q : Option Value → ab_H → Prop} {tp : Nat → Nat} {tl : Nat}
end MWO
