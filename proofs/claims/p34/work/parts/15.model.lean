/-! THE REFERENCE: what only asks -/
theorem lc_lt {x z : Int64} : (lg_cmp x z < nI 0) = (x < z) := propext (lg_cmp_lt x z)
theorem lc_gt {x z : Int64} : (nI 0 < lg_cmp x z) = (z < x) := propext (lg_cmp_gt x z)
theorem lc_le {x z : Int64} : (lg_cmp x z ≤ nI 0) = (x ≤ z) := propext (lg_cmp_le x z)
theorem lc_ge {x z : Int64} : (nI 0 ≤ lg_cmp x z) = (z ≤ x) := propext (lg_cmp_ge x z)
theorem lc_eq {x z : Int64} : (lg_cmp x z = nI 0) = (x = z) := by
  unfold lg_cmp
  by_cases h1 : x > z
  · rw [if_pos h1]
    exact propext ⟨fun w => absurd w (by decide), fun w => by subst w; exact (Int64.lt_irrefl h1).elim⟩
  · rw [if_neg h1]
    by_cases h2 : x = z
    · rw [if_pos h2]; exact propext ⟨fun _ => h2, fun _ => rfl⟩
    · rw [if_neg h2]; exact propext ⟨fun w => absurd w (by decide), fun w => absurd w h2⟩
section MDL
variable {I : Nat → Nat → Int32} {J : Nat → Nat → Int64} {Q : Option Value → ab_H → Prop} {A : Nat → Nat → Nat} {g : Nat} {R : Prop}
end MDL
