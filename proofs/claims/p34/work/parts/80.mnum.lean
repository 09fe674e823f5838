/-! THE TEXT: numbers and ends of lines, the reference -/
section MNU
variable {I I' : Nat → Nat → Int32} {J J' : Nat → Nat → Int64} {Q : Option Value → ab_H → Prop} {tp : Nat → Nat} {tl : Nat}
theorem tE_le {a : Nat} (ha : a ≤ tl) : a ≤ tE tp tl a ∧ tE tp tl a ≤ tl := by
  unfold tE
  by_cases c : a = tl
  · rw [if_pos c]; omega
  · rw [if_neg c]
    split
    · have := re_spec (tp := tp) (lo := 97) (hi := 122) ha; exact ⟨this.1, this.2.1⟩
    · split
      · have := re_spec (tp := tp) (lo := 48) (hi := 57) ha; exact ⟨this.1, this.2.1⟩
      · omega
theorem tA_le {q : Nat} (hq : q ≤ tl) : q ≤ tA tp tl q ∧ tA tp tl q ≤ tl := by
  have := re_spec (tp := tp) (lo := 32) (hi := 32) hq
  exact ⟨this.1, this.2.1⟩
theorem vN_lt (hb : ∀ i, tp i < 128) (a k : Nat) : vN tp a k < 100000 := by
  have := hb (a + 1)
  have := hb a
  unfold vN
  split
  · omega
  · split <;> omega
theorem tV_lt (hb : ∀ i, tp i < 128) (a : Nat) : tV tp tl a < 100000 := by
  unfold tV
  split
  · exact vN_lt hb _ _
  · omega
end MNU
