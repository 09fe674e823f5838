/-! WAYS, found: the reference -/
section MSP
variable {I : Nat → Nat → Int32} {J : Nat → Nat → Int64} {Q : Option Value → ab_H → Prop} {A : Nat → Nat → Nat} {g : Nat}
def w0 (w : Nat) : Nat → Bool := fun q => decide (q = 0 ∧ w ≠ 0)
end MSP
