/-! THE TEXT: all tokens of the class -/
def qs (tp : Nat → Nat) (tl : Nat) : Nat → Nat
  | 0 => 0
  | i + 1 => tE tp tl (tA tp tl (qs tp tl i))
def tk (tp : Nat → Nat) (tl i : Nat) : Nat := tA tp tl (qs tp tl i)
section SCN
variable {I I' : Nat → Nat → Int32} {J J' : Nat → Nat → Int64} {Q : Option Value → ab_H → Prop} {tp : Nat → Nat} {tl : Nat} {wk : Nat → Nat → Nat}
theorem tE_gt {a : Nat} (ha : a < tl) : a < tE tp tl a := by
  unfold tE
  rw [if_neg (by omega)]
  have aux : ∀ lo hi, hs tp tl lo hi a = true → a < re tp tl lo hi a := fun lo hi z => by
    obtain ⟨e1, e2, e3, e4⟩ := re_spec (tp := tp) (lo := lo) (hi := hi) (show a ≤ tl by omega)
    by_cases y : re tp tl lo hi a = a
    · rw [y, z] at e4; cases e4
    · omega
  split
  · rename_i z; exact aux _ _ z
  · split
    · rename_i z; exact aux _ _ z
    · omega
theorem qs_le : ∀ i, qs tp tl i ≤ tl := by
  intro i
  induction i with
  | zero => exact Nat.zero_le _
  | succ i ih => exact (tE_le (tA_le ih).2).2
def endK (c : Nat) : Prop := c = 24 ∨ c = 25
theorem qs_ge (hwk : ∀ a e, wk a e ≤ 21) : ∀ i, (∀ j, j < i → ¬ endK (cK tp tl wk (tk tp tl j))) → i ≤ qs tp tl i := by
  intro i
  induction i with
  | zero => intro _; exact Nat.zero_le _
  | succ i ih =>
    intro h
    have h1 := ih (fun j hj => h j (by omega))
    have h2 := tA_le (tp := tp) (qs_le (tp := tp) (tl := tl) i)
    have h3 := h i (by omega)
    have : tk tp tl i < tl := by
      by_cases c : tk tp tl i = tl
      · exfalso
        apply h3
        left
        unfold cK tT
        rw [if_pos c]
        rfl
      · have : tk tp tl i ≤ tl := h2.2
        omega
    have h4 := tE_gt (tp := tp) this
    show i + 1 ≤ tE tp tl (tk tp tl i)
    have : qs tp tl i ≤ tk tp tl i := h2.1
    omega
/-- tokens up to N are told -/
def CTo (tp : Nat → Nat) (tl : Nat) (wk : Nat → Nat → Nat) (n : Nat) (I : Nat → Nat → Int32) : Prop := ∀ i, i < n → I 46 i = nI (cK tp tl wk (tk tp tl i)) ∧ I 47 i = nI (tk tp tl i) ∧ (cK tp tl wk (tk tp tl i) = 22 → I 48 i = nI (tV tp tl (tk tp tl i)))
theorem cK_le (hwk : ∀ a e, wk a e ≤ 21) (a : Nat) : cK tp tl wk a ≤ 25 := by
  have := hwk a (tE tp tl a)
  unfold cK
  split
  · omega
  · split
    · omega
    · split
      · omega
      · split <;> omega
theorem cK_22 (hwk : ∀ a e, wk a e ≤ 21) {a : Nat} (h : cK tp tl wk a = 22) : tT tp tl a = 2 ∧ tB tp tl a = false := by
  have := hwk a (tE tp tl a)
  unfold cK at h
  by_cases c0 : tT tp tl a = 0
  · rw [if_pos c0] at h; omega
  · rw [if_neg c0] at h
    by_cases c1 : tT tp tl a = 1
    · rw [if_pos c1] at h; omega
    · rw [if_neg c1] at h
      cases c2 : tB tp tl a with
      | true => rw [c2] at h; simp at h
      | false =>
        rw [c2] at h
        by_cases c3 : tT tp tl a = 2
        · exact ⟨c3, rfl⟩
        · rw [if_neg (by decide), if_neg c3] at h; omega
end SCN
