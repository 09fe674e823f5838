/-! WAYS, found: preds of the class -/
def FP (A : Nat → Nat → Nat) (p : Nat) (I : Nat → Nat → Int32) (b n : Nat) : Prop := I (p + 7) b = nI (cn (fun c => edb A c b) n) ∧ ∀ c, c < n → edb A c b = true → I (p + 9 + b) (cn (fun c => edb A c b) c) = nI c
def FPk (p : Nat) (I I' : Nat → Nat → Int32) : Prop := ∀ o k, o ≠ p + 7 → (∀ c, c < 6 → o ≠ p + 9 + c) → I' o k = I o k
theorem cn_le_of {f : Nat → Bool} {a b : Nat} (h : a ≤ b) : cn f a ≤ cn f b := by
  induction b with
  | zero => rw [show a = 0 by omega]; exact Nat.le_refl _
  | succ b ih =>
    by_cases z : a = b + 1
    · rw [z]; exact Nat.le_refl _
    · have := ih (by omega)
      rw [cn_succ]
      omega
section CSP
variable {I : Nat → Nat → Int32} {J : Nat → Nat → Int64} {Q : Option Value → ab_H → Prop} {A : Nat → Nat → Nat} {p : Nat}
end CSP
