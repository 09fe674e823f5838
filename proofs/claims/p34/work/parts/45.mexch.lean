def ldA (A : Nat → Nat → Nat) (x : Nat) : Nat := if x < A 0 1 then ldc A (rp A 100 (P0 A)) x (A 0 1) else 0
section MEX
variable {I : Nat → Nat → Int32} {J : Nat → Nat → Int64} {Q : Option Value → ab_H → Prop} {A : Nat → Nat → Nat} {ld : Nat → Nat} {R : Prop}
theorem ldA_lt {x : Nat} (h : x < A 0 1) : ldA A x < A 0 1 := by
  unfold ldA
  rw [if_pos h]
  exact ldc_lt h _ (Nat.le_refl _)
theorem ldA_1000 (hr : WR A) (x : Nat) : ldA A x < 1000 := by
  have r2 := hr.2.1
  by_cases h : x < A 0 1
  · have := ldA_lt h; omega
  · unfold ldA
    rw [if_neg h]
    omega
end MEX
