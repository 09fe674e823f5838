/-! FRAMES -/
theorem PC_fr {p : Nat} {I I' : Nat → Nat → Int32} {A : Nat → Nat → Nat} (hf : ∀ o k, p ≤ o → o ≤ p + 41 → I' o k = I o k) (hr : WR A) (h : PC p I A) : PC p I' A := by
  obtain ⟨e0, e1, e2, e3, e4, e5, e6, e7, e8, e9, e10, e11, e12⟩ := h
  have hN := hr.2.1
  refine ⟨?_, ?_, fun b hb => ?_, fun b hb => ?_, fun b hb => ?_, fun b hb hc => ?_, fun b hb hc => ?_, fun b hb hc => ?_, fun n hn => ?_, fun n hn => ?_, fun n hn => ?_, fun n hn hc => ?_, fun n i hn hi => ?_⟩ <;> rw [hf _ _ (by omega) (by omega)]
  · exact e0
  · exact e1
  · exact e2 b hb
  · exact e3 b hb
  · exact e4 b hb
  · exact e5 b hb hc
  · exact e6 b hb hc
  · exact e7 b hb hc
  · exact e8 n hn
  · exact e9 n hn
  · exact e10 n hn
  · exact e11 n hn hc
  · exact e12 n i hn hi
theorem PG_fr {p : Nat} {I I' : Nat → Nat → Int32} {A : Nat → Nat → Nat} (hf : ∀ o k, p ≤ o → o ≤ p + 41 → I' o k = I o k) (hr : WR A) (h : PG p I A) : PG p I' A := by
  obtain ⟨g1, g2, g3⟩ := h
  have hN := hr.1
  refine ⟨fun b hb => ?_, fun b i hb hi => ?_, fun b hb => ?_⟩ <;> rw [hf _ _ (by omega) (by omega)]
  · exact g1 b hb
  · exact g2 b i hb hi
  · exact g3 b hb
theorem fr_seti {I : Nat → Nat → Int32} {o o' k k' : Nat} {x : Int32} (h : ¬ o' = o) : ab_up I o k x o' k' = I o' k' := by
  unfold ab_up
  rw [if_neg (fun z => h z.1)]
theorem fr_setk {I : Nat → Nat → Int32} {o k k' : Nat} {x : Int32} (h : ¬ k' = k) : ab_up I o k x o k' = I o k' := by
  unfold ab_up
  rw [if_neg (fun z => h z.2)]
theorem fr_sets {I : Nat → Nat → Int32} {o k : Nat} {x : Int32} : ab_up I o k x o k = x := by
  unfold ab_up
  rw [if_pos ⟨rfl, rfl⟩]
theorem fr_setlo {J : Nat → Nat → Int64} {o o' k k' : Nat} {x : Int64} (h : ¬ o' = o) : ab_up J o k x o' k' = J o' k' := by
  unfold ab_up
  rw [if_neg (fun z => h z.1)]
theorem fr_setlk {J : Nat → Nat → Int64} {o k k' : Nat} {x : Int64} (h : ¬ k' = k) : ab_up J o k x o k' = J o k' := by
  unfold ab_up
  rw [if_neg (fun z => h z.2)]
theorem fr_setls {J : Nat → Nat → Int64} {o k : Nat} {x : Int64} : ab_up J o k x o k = x := by
  unfold ab_up
  rw [if_pos ⟨rfl, rfl⟩]
/-! CLASSES, told -/
def h0 (A : Nat → Nat → Nat) (n m : Nat) : Bool := decide (A 10 n = A 10 m ∧ A 10 n ≠ 8 ∧ (A 10 n ≤ 1 → A 13 n = A 13 m) ∧ (A 10 n = 7 → A 11 n = A 11 m))
def P0 (A : Nat → Nat → Nat) (n : Nat) : Nat := fu (h0 A n) n 0
def pl (A : Nat → Nat → Nat) (P : Nat → Nat) (n m : Nat) : Bool := !ay (fun i => decide (¬ P (A 14 (6 * n + i)) = P (A 14 (6 * m + i)))) (A 12 n)
def cr (A : Nat → Nat → Nat) (P : Nat → Nat) (n m : Nat) : Bool := decide ((A 10 n = 2 ∨ A 10 n = 3) ∧ P (A 14 (6 * n)) = P (A 14 (6 * m + 1)) ∧ P (A 14 (6 * n + 1)) = P (A 14 (6 * m)))
def al (A : Nat → Nat → Nat) (P : Nat → Nat) (n m : Nat) : Bool := decide (P n = P m) && (pl A P n m || cr A P n m)
def st (A : Nat → Nat → Nat) (P : Nat → Nat) (n : Nat) : Nat := fu (al A P n) n 0
def chg (A : Nat → Nat → Nat) (P : Nat → Nat) : Bool := ay (fun n => decide (¬ st A P n = P n)) (A 0 1)
def rp (A : Nat → Nat → Nat) : Nat → (Nat → Nat) → (Nat → Nat)
  | 0, P => P
  | k + 1, P => if chg A P then rp A k (st A P) else P
def rc (A : Nat → Nat → Nat) : Nat → (Nat → Nat) → Nat
  | 0, _ => 0
  | k + 1, P => if chg A P then rc A k (st A P) + 1 else 0
/-- what CLASSES keep to -/
def PK (A : Nat → Nat → Nat) (P : Nat → Nat) : Prop := (∀ n, P n ≤ n) ∧ ∀ n m, n < A 0 1 → m < A 0 1 → P n = P m → A 10 n = A 10 m ∧ A 12 n = A 12 m
theorem pl_iff {A : Nat → Nat → Nat} {P : Nat → Nat} {n m : Nat} : pl A P n m = true ↔ ∀ i, i < A 12 n → P (A 14 (6 * n + i)) = P (A 14 (6 * m + i)) := by
  unfold pl
  rw [Bool.not_eq_true', ← Bool.not_eq_true, ay_iff]
  constructor
  · intro h i hi
    exact Decidable.byContradiction fun c => h ⟨i, hi, by simpa using c⟩
  · rintro h ⟨i, hi, hc⟩
    simp only [decide_eq_true_eq] at hc
    exact hc (h i hi)
theorem al_self {A : Nat → Nat → Nat} {P : Nat → Nat} (n : Nat) : al A P n n = true := by
  unfold al
  rw [decide_eq_true rfl, pl_iff.mpr (fun _ _ => rfl)]
  rfl
theorem P0_le (A : Nat → Nat → Nat) (n : Nat) : P0 A n ≤ n := by
  have := (fu_spec (h0 A n) n 0).2.1
  unfold P0
  omega
theorem st_le (A : Nat → Nat → Nat) (P : Nat → Nat) (n : Nat) : st A P n ≤ n := by
  have := (fu_spec (al A P n) n 0).2.1
  unfold st
  omega
theorem P0_kind {A : Nat → Nat → Nat} (n : Nat) : A 10 (P0 A n) = A 10 n ∧ (A 10 n = 8 → P0 A n = n) ∧ (A 10 n = 7 → A 11 (P0 A n) = A 11 n) := by
  obtain ⟨-, h2, h3, h4⟩ := fu_spec (h0 A n) n 0
  rcases Nat.lt_or_ge (P0 A n) n with c | c
  · have := h4 (by unfold P0 at c; omega)
    have e : h0 A n (P0 A n) = true := this
    unfold h0 at e
    simp only [decide_eq_true_eq] at e
    exact ⟨e.1.symm, fun z => absurd z e.2.1, fun z => (e.2.2.2 z).symm⟩
  · have : P0 A n = n := by have := P0_le A n; omega
    rw [this]
    exact ⟨rfl, fun _ => rfl, fun _ => rfl⟩
theorem P0_PK {A : Nat → Nat → Nat} (hr : WR A) : PK A (P0 A) := by
  refine ⟨P0_le A, fun n m hn hm h => ?_⟩
  obtain ⟨k1, k2, k3⟩ := P0_kind (A := A) n
  obtain ⟨j1, j2, j3⟩ := P0_kind (A := A) m
  have e : A 10 n = A 10 m := by rw [← k1, ← j1, h]
  refine ⟨e, ?_⟩
  obtain ⟨-, -, -, a3, a4, a5, a6, a7, -⟩ := hr.2.2.2 n hn
  obtain ⟨b0, -, -, b3, b4, b5, b6, b7, -⟩ := hr.2.2.2 m hm
  by_cases c0 : A 10 n ≤ 1
  · rw [a3 c0, b3 (by omega)]
  · by_cases c1 : A 10 n = 8
    · rw [a4 c1, b4 (by omega)]
    · by_cases c2 : A 10 n = 4
      · rw [a5 c2, b5 (by omega)]
      · by_cases c3 : A 10 n = 7
        · rw [a7 c3, b7 (by omega), ← k3 c3, ← j3 (by omega), h]
        · rw [a6 (by omega) (by omega) c2, b6 (by omega) (by omega) (by omega)]
theorem st_al {A : Nat → Nat → Nat} {P : Nat → Nat} (n : Nat) : al A P n (st A P n) = true := by
  obtain ⟨-, h2, h3, h4⟩ := fu_spec (al A P n) n 0
  rcases Nat.lt_or_ge (st A P n) n with c | c
  · exact h4 (by unfold st at c; omega)
  · have : st A P n = n := by have := st_le A P n; omega
    rw [this]
    exact al_self n
theorem st_PK {A : Nat → Nat → Nat} {P : Nat → Nat} (h : PK A P) : PK A (st A P) := by
  refine ⟨st_le A P, fun n m hn hm e => ?_⟩
  have h1 := st_al (A := A) (P := P) n
  have h2 := st_al (A := A) (P := P) m
  unfold al at h1 h2
  simp only [Bool.and_eq_true, decide_eq_true_eq] at h1 h2
  exact h.2 n m hn hm (by rw [h1.1, h2.1, e])
theorem rp_PK {A : Nat → Nat → Nat} : ∀ (k : Nat) (P : Nat → Nat), PK A P → PK A (rp A k P) := by
  intro k
  induction k with
  | zero => intro P h; exact h
  | succ k ih =>
    intro P h
    unfold rp
    split
    · exact ih _ (st_PK h)
    · exact h
