/-! THE STATE: one mathematical program, told by numbers: A f k -/
abbrev WB (A : Nat → Nat → Nat) : Prop := ∀ f k, A f k < 1000
theorem q_lt1 {a : Nat} (h : a < 1000) : a < 2147483648 := by omega
/-- lines, as the class holds them at p -/
def PC (p : Nat) (I : Nat → Nat → Int32) (A : Nat → Nat → Nat) : Prop :=
  I p 0 = nI (A 0 0) ∧ I p 1 = nI (A 0 1) ∧
  (∀ b, b < A 0 0 → I (p + 1) b = nI (A 1 b)) ∧ (∀ b, b < A 0 0 → I (p + 2) b = nI (A 2 b)) ∧ (∀ b, b < A 0 0 → I (p + 3) b = nI (A 3 b)) ∧
  (∀ b, b < A 0 0 → A 3 b ≠ 2 → I (p + 4) b = nI (A 4 b)) ∧ (∀ b, b < A 0 0 → A 3 b = 1 → I (p + 5) b = nI (A 5 b)) ∧ (∀ b, b < A 0 0 → A 3 b ≠ 0 → I (p + 6) b = nI (A 6 b)) ∧
  (∀ n, n < A 0 1 → I (p + 16) n = nI (A 10 n)) ∧ (∀ n, n < A 0 1 → I (p + 17) n = nI (A 11 n)) ∧ (∀ n, n < A 0 1 → I (p + 18) n = nI (A 12 n)) ∧
  (∀ n, n < A 0 1 → A 10 n ≤ 1 → I (p + 19) n = nI (A 13 n)) ∧ (∀ n i, n < A 0 1 → i < A 12 n → I (p + 21 + n) i = nI (A 14 (6 * n + i)))
/-- ways, as the class holds them at p -/
def PG (p : Nat) (I : Nat → Nat → Int32) (A : Nat → Nat → Nat) : Prop :=
  (∀ b, b < A 0 0 → I (p + 7) b = nI (A 7 b)) ∧ (∀ b i, b < A 0 0 → i < A 7 b → I (p + 9 + b) i = nI (A 8 (6 * b + i))) ∧ (∀ b, b < A 0 0 → I (p + 15) b = nI (A 9 b))
/-- lines, as the reference holds them on page g -/
def PM (g : Nat) (I : Nat → Nat → Int32) (A : Nat → Nat → Nat) : Prop :=
  I 200 (g + 236) = nI (A 0 0) ∧ I 200 (g + 237) = nI (A 0 1) ∧
  (∀ b, b < A 0 0 → I 200 (g + b) = nI (A 1 b)) ∧ (∀ b, b < A 0 0 → I 200 (g + 6 + b) = nI (A 2 b)) ∧ (∀ b, b < A 0 0 → I 200 (g + 12 + b) = nI (A 3 b)) ∧
  (∀ b, b < A 0 0 → I 200 (g + 18 + b) = if A 3 b = 2 then -4 else nI (A 4 b)) ∧ (∀ b, b < A 0 0 → I 200 (g + 24 + b) = if A 3 b = 1 then nI (A 5 b) else -4) ∧ (∀ b, b < A 0 0 → I 200 (g + 30 + b) = if A 3 b = 0 then -4 else nI (A 6 b)) ∧
  (∀ n, n < A 0 1 → I 200 (g + 36 + n) = nI (A 10 n)) ∧ (∀ n, n < A 0 1 → I 200 (g + 56 + n) = nI (A 11 n)) ∧ (∀ n, n < A 0 1 → I 200 (g + 76 + n) = nI (A 12 n)) ∧
  (∀ n, n < A 0 1 → A 10 n ≤ 1 → I 200 (g + 96 + n) = nI (A 13 n)) ∧ (∀ n i, n < A 0 1 → i < A 12 n → I 200 (g + 116 + 6 * n + i) = nI (A 14 (6 * n + i)))
/-- bounds of blocks and names -/
def WR (A : Nat → Nat → Nat) : Prop :=
  A 0 0 ≤ 6 ∧ A 0 1 ≤ 20 ∧ (∀ b, b < A 0 0 → A 1 b + A 2 b ≤ A 0 1 ∧ A 3 b ≤ 2 ∧ (A 3 b ≠ 2 → A 4 b < A 0 0) ∧ (A 3 b = 1 → A 5 b < A 0 0) ∧ (A 3 b ≠ 0 → A 6 b < A 0 1) ∧ A 7 b ≤ 6 ∧ A 9 b < 64 ∧ ∀ i, i < A 7 b → A 8 (6 * b + i) < A 0 0) ∧
  (∀ n, n < A 0 1 → A 10 n ≤ 8 ∧ A 11 n < A 0 0 ∧ A 12 n ≤ 6 ∧ (A 10 n ≤ 1 → A 12 n = 0) ∧ (A 10 n = 8 → A 12 n = 0) ∧ (A 10 n = 4 → A 12 n = 1) ∧ (2 ≤ A 10 n → A 10 n ≤ 6 → A 10 n ≠ 4 → A 12 n = 2) ∧ (A 10 n = 7 → A 12 n = A 7 (A 11 n)) ∧ (A 10 n = 0 → A 13 n ≤ 99) ∧ (A 10 n = 1 → A 13 n ≤ 3) ∧ ∀ i, i < A 12 n → A 14 (6 * n + i) < A 0 1)
/-- NAME n is SEEN at NAME m -/
def sn (A : Nat → Nat → Nat) (n m : Nat) : Bool := if A 11 n = A 11 m then decide (n < m) else (A 9 (A 11 m)).testBit (A 11 n)
/-- .. at an END -/
def se (A : Nat → Nat → Nat) (n b : Nat) : Bool := (A 9 b).testBit (A 11 n)
/-- .. as OPERAND i of n -/
def so (A : Nat → Nat → Nat) (m n i : Nat) : Bool := if A 10 n = 7 then se A m (A 8 (6 * A 11 n + i)) else sn A m n
