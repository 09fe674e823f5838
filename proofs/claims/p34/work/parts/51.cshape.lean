def WB6 (A : Nat → Nat → Nat) : Prop := A 0 0 ≤ 6 ∧ ∀ b, b < A 0 0 → A 3 b ≤ 2 ∧ (A 3 b ≠ 2 → A 4 b < 6) ∧ (A 3 b = 1 → A 5 b < 6)
theorem WB6_of {A : Nat → Nat → Nat} (h : WL A) : WB6 A := ⟨h.1, fun b hb => ⟨(h.2 b hb).1, fun z => by have := (h.2 b hb).2.1 z; have := h.1; omega, fun z => by have := (h.2 b hb).2.2 z; have := h.1; omega⟩⟩
section CSH
variable {I : Nat → Nat → Int32} {J : Nat → Nat → Int64} {Q : Option Value → ab_H → Prop} {A : Nat → Nat → Nat} {p : Nat} {R : Prop}
theorem scs_lt (hl : WB6 A) {b : Nat} (hn : b < A 0 0) : scs A b < 64 := by
  obtain ⟨l1, l2⟩ := hl
  obtain ⟨b1, b2, b3⟩ := l2 b hn
  have sh : ∀ g, g < 6 → 1 <<< g < 64 := by decide
  unfold scs
  by_cases c1 : A 3 b = 2
  · rw [if_pos c1]; omega
  · rw [if_neg c1]
    by_cases c2 : A 3 b = 0
    · rw [if_pos c2]; exact sh _ (b2 c1)
    · rw [if_neg c2]
      exact Nat.or_lt_two_pow (n := 6) (sh _ (b2 c1)) (sh _ (b3 (by omega)))
/-- what a mask says -/
def reach (A : Nat → Nat → Nat) (X : Nat → Bool) (q : Nat) : Bool := if A 0 0 = 0 ∨ X 0 = true then false else itf (mR A X (A 0 0)) (A 0 0) S0 q
theorem reach_iff (hl : WL A) {d q : Nat} (hq : q < A 0 0) : reach A (fun x => (1 <<< d).testBit x) q = true ↔ RE A (fun x => x = d) q := by
  have e : (fun x => (1 <<< d).testBit x) = fun x => decide (d = x) := funext fun x => tb_shl d x
  unfold reach
  by_cases c0 : A 0 0 = 0
  · omega
  · by_cases cd : d = 0
    · subst cd
      rw [if_pos (Or.inr (by show (1 <<< 0 : Nat).testBit 0 = true; rw [tb_shl]; rfl))]
      refine ⟨fun z => (by cases z), fun h => ?_⟩
      exfalso
      exact RE_ind (X := fun x => x = 0) (S := fun _ => False) (fun z => z rfl) (fun _ _ _ h _ _ => h) h
    · rw [if_neg (by
        rintro (z | z)
        · exact c0 z
        · have z2 : (1 <<< d).testBit 0 = true := z
          rw [tb_shl] at z2; simp at z2; exact cd z2), iR_iff hl (by omega) (by show (1 <<< d).testBit 0 = false; rw [tb_shl]; exact decide_eq_false cd)]
      have e2 : (fun x => (1 <<< d).testBit x = true) = fun x => x = d := by
        funext x
        rw [tb_shl, decide_eq_true_eq]
        exact propext ⟨fun z => z.symm, fun z => z.symm⟩
      rw [e2]
def domBits (A : Nat → Nat → Nat) (b M : Nat) : Prop := ∀ d, M.testBit d = true ↔ d < A 0 0 ∧ ¬ RE A (fun x => x = d) b
end CSH
