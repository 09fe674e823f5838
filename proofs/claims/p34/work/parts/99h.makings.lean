/-! THE TWO MAKINGS, and how it stands behind them -/
theorem lm_eta (x : ab_H) : x = (x.1, x.2.1, x.2.2) := rfl
theorem lm_eq3 {x : ab_H} {S : List (Nat × Nat × List (Option Nat))} (h : x.1 = S) : x = (S, x.2.1, x.2.2) := by
  subst h
  exact lm_eta x
def s0 : VS := (fun _ _ => 0, fun _ => none, fun _ => 0, 0, 0, none, fun _ => none, fun _ _ => 0, 0)
theorem s0_ok : OS s0 := by
  have hz : ∀ {P : Nat → Prop} (b : Nat), b < 0 → P b := fun b hb => absurd hb (Nat.not_lt_zero b)
  refine ⟨⟨fun f k => (show (0 : Nat) < 1000 by omega), ⟨Nat.zero_le _, Nat.zero_le _, fun b hb => absurd hb (Nat.not_lt_zero b), fun b hb => absurd hb (Nat.not_lt_zero b)⟩, ⟨fun b hb => absurd hb (Nat.not_lt_zero b), fun b d hb => absurd hb (Nat.not_lt_zero b), fun b d hb => absurd hb (Nat.not_lt_zero b), fun b hb => absurd hb (Nat.not_lt_zero b), fun h => absurd h (Nat.not_lt_zero _), fun b d hb => absurd hb (Nat.not_lt_zero b)⟩, fun b n hb => absurd hb (Nat.not_lt_zero b), fun b hb => absurd hb (Nat.not_lt_zero b)⟩, fun k A h => ?_, ⟨Nat.zero_le _, fun i => (show (0 : Nat) < 128 by omega)⟩, fun k l n h => ?_, (show (0 : Nat) < 1000 by omega)⟩
  · cases h
  · cases h
