/-! WAYS, found -/
def itf (f : (Nat → Bool) → (Nat → Bool)) : Nat → (Nat → Bool) → (Nat → Bool)
  | 0, S => S
  | k + 1, S => f (itf f k S)
theorem itf_fix {f : (Nat → Bool) → (Nat → Bool)} {T : (Nat → Bool) → Prop} {N : Nat} (hT : ∀ S, T S → T (f S)) (up : ∀ S q, T S → S q = true → f S q = true) (inn : ∀ S q, f S q = true → S q = true ∨ q < N) {S : Nat → Bool} (hS : T S) {M : Nat} (hM : N ≤ M) : f (itf f M S) = itf f M S := by
  have hTk : ∀ k, T (itf f k S) := by
    intro k
    induction k with
    | zero => exact hS
    | succ k ih => exact hT _ ih
  have key : ∀ k, (∃ j, j ≤ k ∧ f (itf f j S) = itf f j S) ∨ k ≤ cn (itf f k S) N := by
    intro k
    induction k with
    | zero => exact Or.inr (Nat.zero_le _)
    | succ k ih =>
      rcases ih with ⟨j, hj, e⟩ | ih
      · exact Or.inl ⟨j, by omega, e⟩
      · by_cases e : f (itf f k S) = itf f k S
        · exact Or.inl ⟨k, by omega, e⟩
        · right
          have : ∃ q, f (itf f k S) q ≠ itf f k S q := Classical.byContradiction fun z => e (funext fun q => Classical.byContradiction fun y => z ⟨q, y⟩)
          obtain ⟨q, hq⟩ := this
          have hf : itf f k S q = false := by
            cases hz : itf f k S q with
            | false => rfl
            | true => exact absurd ((up _ q (hTk k) hz).trans hz.symm) hq
          have ht : f (itf f k S) q = true := by
            cases hz : f (itf f k S) q with
            | true => rfl
            | false => exact absurd (hz.trans hf.symm) hq
          rcases inn _ q ht with z | z
          · rw [hf] at z; cases z
          · have := cn_lt (f := itf f k S) (g := itf f (k + 1) S) N (fun i _ hi => up _ i (hTk k) hi) ⟨q, z, hf, ht⟩
            omega
  have st : ∃ j, j ≤ N ∧ f (itf f j S) = itf f j S := by
    rcases key N with ⟨j, hj, e⟩ | h
    · exact ⟨j, hj, e⟩
    · have full := cn_full (f := itf f N S) N (by have := cn_le (itf f N S) N; omega)
      refine ⟨N, Nat.le_refl _, funext fun q => ?_⟩
      cases hz : itf f N S q with
      | true => exact up _ _ (hTk N) hz
      | false =>
        cases hw : f (itf f N S) q with
        | false => rfl
        | true =>
          rcases inn _ q hw with y | y
          · rw [hz] at y; cases y
          · rw [full q y] at hz; cases hz
  obtain ⟨j, hj, e⟩ := st
  have s1 : ∀ d, itf f (j + d) S = itf f j S := by
    intro d
    induction d with
    | zero => rfl
    | succ d ih =>
      show f (itf f (j + d) S) = _
      rw [ih]
      exact e
  have := s1 (M - j)
  rw [show j + (M - j) = M by omega] at this
  rw [this]
  exact e
def edb (A : Nat → Nat → Nat) (c b : Nat) : Bool := (scs A c).testBit b
theorem tb_shl (g b : Nat) : (1 <<< g).testBit b = decide (g = b) := by
  rw [Nat.testBit_shiftLeft]
  by_cases h : g = b
  · subst h
    rw [decide_eq_true (Nat.le_refl g), decide_eq_true rfl, Nat.sub_self]
    rfl
  · rw [decide_eq_false h]
    exact tbs (fun z => h z.symm)
theorem edb_iff {A : Nat → Nat → Nat} {c b : Nat} (hc : c < A 0 0) (h3 : A 3 c ≤ 2) : edb A c b = true ↔ ed A c b := by
  unfold edb scs ed
  by_cases c2 : A 3 c = 2
  · rw [if_pos c2, Nat.zero_testBit]
    exact ⟨fun z => (by cases z), fun z => (by rcases z with ⟨-, ⟨z, -⟩ | ⟨z, -⟩⟩ <;> omega)⟩
  · rw [if_neg c2]
    by_cases c0 : A 3 c = 0
    · rw [if_pos c0, tb_shl, decide_eq_true_eq]
      exact ⟨fun z => ⟨hc, Or.inl ⟨c2, z⟩⟩, fun z => by rcases z with ⟨-, ⟨-, z⟩ | ⟨z, -⟩⟩; exact z; omega⟩
    · rw [if_neg c0, Nat.testBit_or, tb_shl, tb_shl, Bool.or_eq_true, decide_eq_true_eq, decide_eq_true_eq]
      exact ⟨fun z => ⟨hc, z.elim (fun y => Or.inl ⟨c2, y⟩) (fun y => Or.inr ⟨by omega, y⟩)⟩, fun z => by
        rcases z with ⟨-, ⟨-, z⟩ | ⟨-, z⟩⟩
        · exact Or.inl z
        · exact Or.inr z⟩
/-- lines whose ways stay inside -/
def WL (A : Nat → Nat → Nat) : Prop := A 0 0 ≤ 6 ∧ ∀ b, b < A 0 0 → A 3 b ≤ 2 ∧ (A 3 b ≠ 2 → A 4 b < A 0 0) ∧ (A 3 b = 1 → A 5 b < A 0 0)
theorem ed_ltL {A : Nat → Nat → Nat} (hl : WL A) {b c : Nat} (h : ed A b c) : c < A 0 0 := by
  obtain ⟨h1, h2⟩ := h
  obtain ⟨-, h3, h4⟩ := hl.2 b h1
  rcases h2 with ⟨k1, rfl⟩ | ⟨k1, rfl⟩
  · exact h3 k1
  · exact h4 k1
section SHP
variable {A : Nat → Nat → Nat} {X : Nat → Bool}
/-- the class's round -/
def mR (A : Nat → Nat → Nat) (X : Nat → Bool) : Nat → (Nat → Bool) → (Nat → Bool)
  | 0, S => S
  | b + 1, S => fun q => mR A X b S q || (mR A X b S b && (edb A b q && !X q))
theorem mR_up (n : Nat) (S : Nat → Bool) (q : Nat) (h : S q = true) : mR A X n S q = true := by
  induction n with
  | zero => exact h
  | succ n ih =>
    show (mR A X n S q || (mR A X n S n && (edb A n q && !X q))) = true
    rw [ih, Bool.true_or]
theorem mR_in (hl : WL A) (S : Nat → Bool) (q : Nat) : ∀ n, n ≤ A 0 0 → mR A X n S q = true → S q = true ∨ q < A 0 0 := by
  intro n
  induction n with
  | zero => intro _ h; exact Or.inl h
  | succ n ih =>
    intro hn h
    have h : (mR A X n S q || (mR A X n S n && (edb A n q && !X q))) = true := h
    rw [Bool.or_eq_true, Bool.and_eq_true, Bool.and_eq_true] at h
    rcases h with h | ⟨-, h, -⟩
    · exact ih (by omega) h
    · exact Or.inr (ed_ltL hl ((edb_iff (by omega) (hl.2 n (by omega)).1).mp h))
theorem mR_sound (hl : WL A) (S : Nat → Bool) (hS : ∀ q, S q = true → RE A (fun x => X x = true) q) : ∀ n, n ≤ A 0 0 → ∀ q, mR A X n S q = true → RE A (fun x => X x = true) q := by
  intro n
  induction n with
  | zero => intro _ q h; exact hS q h
  | succ n ih =>
    intro hn q h
    have h : (mR A X n S q || (mR A X n S n && (edb A n q && !X q))) = true := h
    rw [Bool.or_eq_true, Bool.and_eq_true, Bool.and_eq_true] at h
    rcases h with h | ⟨h1, h2, h3⟩
    · exact ih (by omega) q h
    · exact RE_step (ih (by omega) n h1) ((edb_iff (by omega) (hl.2 n (by omega)).1).mp h2) (by simpa using h3)
def S0 : Nat → Bool := fun q => decide (q = 0)
theorem RE_ltL (hl : WL A) {Y : Nat → Prop} {b : Nat} (h : RE A Y b) : b < A 0 0 := RE_ind (S := fun b => b < A 0 0) (fun _ => RE_pos h) (fun _ _ _ _ he _ => ed_ltL hl he) h
theorem iR_iff (hl : WL A) (h0 : 0 < A 0 0) (hX : X 0 = false) {q : Nat} : itf (mR A X (A 0 0)) (A 0 0) S0 q = true ↔ RE A (fun x => X x = true) q := by
  have hs : ∀ k q, itf (mR A X (A 0 0)) k S0 q = true → RE A (fun x => X x = true) q := by
    intro k
    induction k with
    | zero =>
      intro q h
      have : q = 0 := by simpa [itf, S0] using h
      subst this
      exact RE_zero h0 (by rw [hX]; decide)
    | succ k ih => exact fun q h => mR_sound hl _ ih _ (Nat.le_refl _) q h
  have fx := itf_fix (f := mR A X (A 0 0)) (T := fun _ => True) (N := A 0 0) (fun _ _ => trivial) (fun S q _ h => mR_up _ S q h) (fun S q h => mR_in hl S q _ (Nat.le_refl _) h) (S := S0) trivial (Nat.le_refl (A 0 0))
  have i0 : ∀ k, itf (mR A X (A 0 0)) k S0 0 = true := by
    intro k
    induction k with
    | zero => rfl
    | succ k ih => exact mR_up _ _ _ ih
  have hs2 := hs (A 0 0) q
  have i02 := i0 (A 0 0)
  clear hs i0
  generalize itf (mR A X (A 0 0)) (A 0 0) S0 = F at *
  refine ⟨hs2, fun h => ?_⟩
  refine RE_ind (S := fun b => F b = true) (fun _ => i02) (fun c b hc h1 h2 h3 => ?_) h
  have hcl := RE_ltL hl hc
  have aux : ∀ n, c < n → mR A X n F b = true := by
    intro n
    induction n with
    | zero => intro z; omega
    | succ n ih =>
      intro z
      show (mR A X n F b || (mR A X n F n && (edb A n b && !X b))) = true
      by_cases y : c < n
      · rw [ih y, Bool.true_or]
      · have e : c = n := by omega
        subst e
        rw [mR_up c F c h1, (edb_iff hcl (hl.2 c hcl).1).mpr h2, show X b = false by cases hz : X b; rfl; exact absurd hz h3]
        simp
  have := aux (A 0 0) hcl
  rw [fx] at this
  exact this
end SHP
/-- ways as they are found -/
def WS (A : Nat → Nat → Nat) : Prop := ∀ b, b < A 0 0 → A 7 b = cn (fun c => edb A c b) (A 0 0) ∧ (∀ c, c < A 0 0 → edb A c b = true → A 8 (6 * b + cn (fun c => edb A c b) c) = c) ∧ ∀ d, (A 9 b).testBit d = true ↔ d < A 0 0 ∧ ¬ RE A (fun x => x = d) b
theorem cn_surj {f : Nat → Bool} : ∀ {n i : Nat}, i < cn f n → ∃ c, c < n ∧ f c = true ∧ cn f c = i := by
  intro n
  induction n with
  | zero => intro i h; exact absurd h (Nat.not_lt_zero i)
  | succ n ih =>
    intro i h
    have e : cn f (n + 1) = cn f n + (f n).toNat := rfl
    rcases Nat.lt_or_ge i (cn f n) with c | c
    · obtain ⟨c, h1, h2, h3⟩ := ih c
      exact ⟨c, by omega, h2, h3⟩
    · cases hf : f n with
      | false => rw [e, hf] at h; simp at h; omega
      | true =>
        rw [e, hf] at h
        simp at h
        exact ⟨n, by omega, hf, by omega⟩
