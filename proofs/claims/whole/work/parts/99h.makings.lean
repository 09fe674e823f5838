/-! THE TWO MAKINGS, and how it stands behind them -/
def lm_h0 : ab_H := ([], fun _ _ => 0, fun _ _ => 0)
def lm_n1 : ab_H := ab_new lm_h0 7 (ab_N 7) (List.replicate (ab_N 7) none)
def lm_r1 : Option (Option Value × ab_H) := ab_ex 2000 95 [.ref 0] lm_n1
def lm_h1 : ab_H := (lm_r1.getD (none, lm_h0)).2
def lm_n2 : ab_H := ab_new lm_h1 8 (ab_N 8) (List.replicate (ab_N 8) none)
def lm_r2 : Option (Option Value × ab_H) := ab_ex 2000 132 [.ref 199] lm_n2
def lm_h2 : ab_H := (lm_r2.getD (none, lm_h0)).2
theorem lm_s1 : lm_r1.map (fun x => x.1) = some none := by decide +kernel
theorem lm_x1 : lm_h1.1.length = 199 := by decide +kernel
theorem lm_s2 : lm_r2.map (fun x => x.1) = some none := by decide +kernel
theorem lm_x2 : lm_h2.1 = SH := by decide +kernel
theorem lm_e1 : lm_r1 = some (none, lm_h1) := by
  have h := lm_s1
  unfold lm_h1
  cases hr : lm_r1 with
  | none => rw [hr] at h; cases h
  | some x =>
    obtain ⟨a, b⟩ := x
    rw [hr] at h
    cases h
    rfl
theorem lm_e2 : lm_r2 = some (none, lm_h2) := by
  have h := lm_s2
  unfold lm_h2
  cases hr : lm_r2 with
  | none => rw [hr] at h; cases h
  | some x =>
    obtain ⟨a, b⟩ := x
    rw [hr] at h
    cases h
    rfl
def lm_I : Nat → Nat → Int32 := lm_h2.2.1
def lm_J : Nat → Nat → Int64 := lm_h2.2.2
theorem lm_eta (x : ab_H) : x = (x.1, x.2.1, x.2.2) := rfl
theorem lm_eq3 {x : ab_H} {S : List (Nat × Nat × List (Option Nat))} (h : x.1 = S) : x = (S, x.2.1, x.2.2) := by
  subst h
  exact lm_eta x
theorem lm_h2_eq : lm_h2 = (SH, lm_I, lm_J) := lm_eq3 lm_x2
def s0 : VS := (fun _ _ => 0, fun _ => none, fun _ => 0, 0, 0, none, fun _ => none, fun _ _ => 0, 0)
theorem lm_c1 : lm_I 73 0 = 0 ∧ lm_I 73 1 = 0 ∧ lm_I 71 0 = 0 ∧ lm_I 71 1 = 0 ∧ lm_I 2 1 = 0 ∧ lm_I 1 2 = 0 ∧ lm_I 49 2 = 0 ∧ lm_I 49 8 = -4 ∧ lm_I 63 0 = -4 ∧ lm_I 63 1 = -4 ∧ lm_I 63 2 = -4 ∧ lm_I 63 3 = -4 ∧ lm_I 62 1 = 0 := by decide +kernel
theorem lm_c2 : lm_I 200 236 = 0 ∧ lm_I 200 237 = 0 ∧ lm_I 215 0 = 0 ∧ lm_I 215 1 = 0 ∧ lm_I 199 2 = 0 ∧ lm_I 199 3 = 0 ∧ lm_I 199 18 = 0 ∧ lm_I 199 35 = 0 ∧ lm_I 216 0 = -4 ∧ lm_I 216 1 = -4 ∧ lm_I 216 2 = -4 ∧ lm_I 216 3 = -4 := by decide +kernel
theorem lm_c3 : (List.range 13).all (fun k => decide (lm_I 202 k = nI (wE k))) = true := by decide +kernel
theorem lm_c4 : (List.range 39).all (fun k => decide (lm_I 203 k = nI (wL k))) = true := by decide +kernel
theorem s0_ok : OS s0 := by
  have hz : ∀ {P : Nat → Prop} (b : Nat), b < 0 → P b := fun b hb => absurd hb (Nat.not_lt_zero b)
  refine ⟨⟨fun f k => (show (0 : Nat) < 1000 by omega), ⟨Nat.zero_le _, Nat.zero_le _, fun b hb => absurd hb (Nat.not_lt_zero b), fun b hb => absurd hb (Nat.not_lt_zero b)⟩, ⟨fun b hb => absurd hb (Nat.not_lt_zero b), fun b d hb => absurd hb (Nat.not_lt_zero b), fun b d hb => absurd hb (Nat.not_lt_zero b), fun b hb => absurd hb (Nat.not_lt_zero b), fun h => absurd h (Nat.not_lt_zero _), fun b d hb => absurd hb (Nat.not_lt_zero b)⟩, fun b n hb => absurd hb (Nat.not_lt_zero b), fun b hb => absurd hb (Nat.not_lt_zero b)⟩, fun k A h => ?_, ⟨Nat.zero_le _, fun i => (show (0 : Nat) < 128 by omega)⟩, fun k l n h => ?_, (show (0 : Nat) < 1000 by omega)⟩
  · cases h
  · cases h
theorem lm_SC : SC s0 lm_I lm_J := by
  obtain ⟨a1, a2, a3, a4, a5, a6, a7, a8, b0, b1, b2, b3, a9⟩ := lm_c1
  refine ⟨⟨⟨a1, a2, fun b hb => absurd hb (Nat.not_lt_zero b), fun b hb => absurd hb (Nat.not_lt_zero b), fun b hb => absurd hb (Nat.not_lt_zero b), fun b hb => absurd hb (Nat.not_lt_zero b), fun b hb => absurd hb (Nat.not_lt_zero b), fun b hb => absurd hb (Nat.not_lt_zero b), fun b hb => absurd hb (Nat.not_lt_zero b), fun b hb => absurd hb (Nat.not_lt_zero b), fun b hb => absurd hb (Nat.not_lt_zero b), fun b hb => absurd hb (Nat.not_lt_zero b), fun b i hb => absurd hb (Nat.not_lt_zero b)⟩, fun b hb => absurd hb (Nat.not_lt_zero b), fun b i hb => absurd hb (Nat.not_lt_zero b), fun b hb => absurd hb (Nat.not_lt_zero b)⟩, fun k hk => ⟨?_, fun A h => ?_⟩, ⟨a5, fun i hi => absurd hi (Nat.not_lt_zero i)⟩, a6, ⟨a7, a8, fun v t g r h => ?_⟩, fun k hk => ⟨fun _ => ?_, fun l n h => ?_⟩, a9⟩
  · obtain rfl | rfl : k = 0 ∨ k = 1 := by omega
    · exact a3
    · exact a4
  · cases h
  · cases h
  · obtain rfl | rfl | rfl | rfl : k = 0 ∨ k = 1 ∨ k = 2 ∨ k = 3 := by omega
    · exact b0
    · exact b1
    · exact b2
    · exact b3
  · cases h
theorem lm_Mw : Mw lm_I := ⟨fun k hk => of_decide_eq_true (List.all_eq_true.mp lm_c3 k (List.mem_range.mpr hk)), fun k hk => of_decide_eq_true (List.all_eq_true.mp lm_c4 k (List.mem_range.mpr hk))⟩
theorem lm_SM : SM s0 lm_I lm_J := by
  obtain ⟨a1, a2, a3, a4, a5, a6, a7, a8, b0, b1, b2, b3⟩ := lm_c2
  refine ⟨⟨⟨a1, a2, fun b hb => absurd hb (Nat.not_lt_zero b), fun b hb => absurd hb (Nat.not_lt_zero b), fun b hb => absurd hb (Nat.not_lt_zero b), fun b hb => absurd hb (Nat.not_lt_zero b), fun b hb => absurd hb (Nat.not_lt_zero b), fun b hb => absurd hb (Nat.not_lt_zero b), fun b hb => absurd hb (Nat.not_lt_zero b), fun b hb => absurd hb (Nat.not_lt_zero b), fun b hb => absurd hb (Nat.not_lt_zero b), fun b hb => absurd hb (Nat.not_lt_zero b), fun b i hb => absurd hb (Nat.not_lt_zero b)⟩, fun b hb => absurd hb (Nat.not_lt_zero b), fun b i hb => absurd hb (Nat.not_lt_zero b), fun b hb => absurd hb (Nat.not_lt_zero b)⟩, fun k hk => ⟨?_, fun A h => ?_⟩, ⟨a5, fun i hi => absurd hi (Nat.not_lt_zero i), lm_Mw⟩, a6, ⟨a7, fun v t g r h => ?_⟩, fun k hk => ⟨fun _ => ?_, fun l n h => ?_⟩, a8⟩
  · obtain rfl | rfl : k = 0 ∨ k = 1 := by omega
    · exact a3
    · exact a4
  · cases h
  · cases h
  · obtain rfl | rfl | rfl | rfl : k = 0 ∨ k = 1 ∨ k = 2 ∨ k = 3 := by omega
    · exact b0
    · exact b1
    · exact b2
    · exact b3
  · cases h
