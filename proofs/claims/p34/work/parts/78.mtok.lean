/-! THE TEXT: one token, the reference -/
def tA (tp : Nat → Nat) (tl q : Nat) : Nat := re tp tl 32 32 q
def tE (tp : Nat → Nat) (tl a : Nat) : Nat := if a = tl then a else if hs tp tl 97 122 a then re tp tl 97 122 a else if hs tp tl 48 57 a then re tp tl 48 57 a else a + 1
def tT (tp : Nat → Nat) (tl a : Nat) : Nat := if a = tl then 0 else if hs tp tl 97 122 a then 1 else if hs tp tl 48 57 a then 2 else 3
def vN (tp : Nat → Nat) (a k : Nat) : Nat := if k = 0 then 0 else if k = 1 then tp a - 48 else 10 * (tp a - 48) + (tp (a + 1) - 48)
def tV (tp : Nat → Nat) (tl a : Nat) : Nat := if tT tp tl a = 2 then vN tp a (tE tp tl a - a) else 0
def tB (tp : Nat → Nat) (tl a : Nat) : Bool := if tT tp tl a = 2 then decide (2 < tE tp tl a - a) else if tT tp tl a = 3 then !decide (tp a = 59) else false
section MTK
variable {I I' : Nat → Nat → Int32} {J J' : Nat → Nat → Int64} {Q : Option Value → ab_H → Prop} {tp : Nat → Nat} {tl : Nat}
theorem upk {I : Nat → Nat → Int32} {o k k' : Nat} {x : Int32} : ab_up I o k x o k' = if k' = k then x else I o k' := by
  by_cases c : k' = k
  · rw [if_pos c, c]; exact fr_sets
  · rw [if_neg c]; exact fr_setk c
theorem upn {I : Nat → Nat → Int32} {o k o' k' : Nat} {x : Int32} (h : ¬ (o' = o ∧ k' = k)) : ab_up I o k x o' k' = I o' k' := by
  unfold ab_up
  rw [if_neg h]
end MTK
