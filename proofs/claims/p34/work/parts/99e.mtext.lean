/-! THE TEXT: the reference's call -/
section MTX
variable {I I' I1 : Nat → Nat → Int32} {J J' : Nat → Nat → Int64} {Q : Option Value → ab_H → Prop} {tp : Nat → Nat} {tl : Nat} {K V : Nat → Nat} {N : Nat} {s : VS}
theorem ex_end {tp : Nat → Nat} {tl : Nat} (ht : tl ≤ 320) : ∃ N, N ≤ 320 ∧ endK (kkT tp tl N) := by
  apply Classical.byContradiction
  intro z
  have hj : ∀ j, j < 321 → ¬ endK (kkT tp tl j) := fun j hj y => z ⟨j, by omega, y⟩
  have := qs_ge (wkM_le tp) 321 hj
  have := qs_le (tp := tp) (tl := tl) 321
  omega
end MTX
