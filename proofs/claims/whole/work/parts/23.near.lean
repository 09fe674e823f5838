/-! THE NEAREST that dominates -/
theorem cn_mono {f g : Nat → Bool} : ∀ n, (∀ i, i < n → f i = true → g i = true) → cn f n ≤ cn g n := by
  intro n
  induction n with
  | zero => intro _; exact Nat.le_refl _
  | succ n ih =>
    intro h
    have h1 := ih (fun i hi => h i (by omega))
    have h2 := h n (by omega)
    show cn f n + (f n).toNat ≤ cn g n + (g n).toNat
    cases hf : f n with
    | false => simp; omega
    | true => rw [h2 hf]; omega
theorem cn_lt {f g : Nat → Bool} : ∀ n, (∀ i, i < n → f i = true → g i = true) → (∃ j, j < n ∧ f j = false ∧ g j = true) → cn f n < cn g n := by
  intro n
  induction n with
  | zero => rintro _ ⟨j, hj, -⟩; omega
  | succ n ih =>
    rintro h ⟨j, hj, h1, h2⟩
    have h3 := h n (by omega)
    show cn f n + (f n).toNat < cn g n + (g n).toNat
    rcases Nat.lt_or_ge j n with c | c
    · have h4 := ih (fun i hi => h i (by omega)) ⟨j, c, h1, h2⟩
      cases hf : f n with
      | false => simp; omega
      | true => rw [h3 hf]; omega
    · have : j = n := by omega
      subst this
      have h4 := cn_mono (f := f) (g := g) j (fun i hi => h i (by omega))
      rw [h1, h2]
      simp
      omega
def pc6 (k : Nat) : Nat := cn (fun i => k.testBit i) 6
theorem tb1 {k : Nat} (h : k ≠ 0) : (1 : Nat).testBit k = false := by
  cases hq : (1 : Nat).testBit k with
  | false => rfl
  | true => exact absurd (Nat.testBit_one_eq_true_iff_self_eq_zero.mp hq) h
theorem tbs {e b : Nat} (h : e ≠ b) : (decide (b ≤ e) && (1 : Nat).testBit (e - b)) = false := by
  rcases Nat.lt_or_ge e b with c | c
  · rw [decide_eq_false (by omega), Bool.false_and]
  · have : e - b ≠ 0 := by omega
    rw [tb1 this, Bool.and_false]
/-- is among those that dominate b, but b -/
def nds (A : Nat → Nat → Nat) (b d : Nat) : Bool := !decide (d = b) && (A 9 b).testBit d
def nd (A : Nat → Nat → Nat) (b : Nat) : Nat → Option Nat
  | 0 => none
  | d + 1 => if nds A b d = true ∧ (match nd A b d with | none => 0 | some x => pc6 (A 9 x)) < pc6 (A 9 d) then some d else nd A b d
def ndI : Option Nat → Int32
  | none => -4
  | some x => nI x
def ndp (A : Nat → Nat → Nat) (b d : Nat) : Bool := nds A b d && decide (A 9 b &&& (A 9 b ^^^ 1 <<< b) &&& (A 9 b &&& (A 9 b ^^^ 1 <<< b) ^^^ A 9 d) = 0)
section NEA
variable {I : Nat → Nat → Int32} {J : Nat → Nat → Int64} {Q : Option Value → ab_H → Prop} {A : Nat → Nat → Nat} {p : Nat} {R : Prop}
theorem nds_iff {b d : Nat} : nds A b d = true ↔ d ≠ b ∧ (A 9 b).testBit d = true := by
  unfold nds
  rw [Bool.and_eq_true, Bool.not_eq_true', decide_eq_false_iff_not]
theorem ndp_iff (hr : WR A) {b d : Nat} (hb : b < A 0 0) : ndp A b d = true ↔ nds A b d = true ∧ ∀ e, nds A b e = true → (A 9 d).testBit e = true := by
  unfold ndp
  rw [Bool.and_eq_true, decide_eq_true_eq]
  refine and_congr Iff.rfl ⟨fun h e he => ?_, fun h => ?_⟩
  · obtain ⟨h1, h2⟩ := nds_iff.mp he
    have := congrArg (fun z => z.testBit e) h
    simp only [Nat.testBit_and, Nat.testBit_xor, Nat.zero_testBit, h2, Nat.testBit_shiftLeft] at this
    have e1 := tbs h1
    rw [e1] at this
    simpa using this
  · apply Nat.eq_of_testBit_eq
    intro e
    simp only [Nat.testBit_and, Nat.testBit_xor, Nat.zero_testBit, Nat.testBit_shiftLeft]
    cases h1 : (A 9 b).testBit e with
    | false => simp
    | true =>
      by_cases c : e = b
      · subst c
        simp
      · rw [h e (nds_iff.mpr ⟨c, h1⟩), tbs c]
        rfl
theorem pc_lt (hr : WR A) (hg : WG A) {d e : Nat} (hd : d < A 0 0) (he : e < A 0 0) (hn : d ≠ e) (h : (A 9 e).testBit d = true) : pc6 (A 9 d) < pc6 (A 9 e) := by
  have hB := hr.1
  have q1 := (hg.2.1 e d he hd).mp h
  refine cn_lt 6 (fun i hi h1 => ?_) ⟨e, by omega, ?_, ?_⟩
  · rcases Nat.lt_or_ge i (A 0 0) with c | c
    · exact (hg.2.1 e i he c).mpr (D_trans ((hg.2.1 d i hd c).mp h1) q1)
    · rw [hg.2.2.2.2.2 d i hd c] at h1
      cases h1
  · cases h2 : (A 9 d).testBit e with
    | false => rfl
    | true => exact (D_asymm hn (hg.1 d hd) q1 ((hg.2.1 d e hd he).mp h2)).elim
  · exact (hg.2.1 e e he he).mpr (D_refl e)
theorem nd_inv (hr : WR A) (hg : WG A) {b : Nat} (hb : b < A 0 0) : ∀ m, m ≤ A 0 0 → match nd A b m with
    | none => ∀ d, d < m → nds A b d = false
    | some x => x < m ∧ nds A b x = true ∧ ∀ d, d < m → nds A b d = true → pc6 (A 9 d) ≤ pc6 (A 9 x) := by
  intro m
  induction m with
  | zero => intro _ d hd; omega
  | succ m ih =>
    intro hm
    have i1 := ih (by omega)
    have e : nd A b (m + 1) = if nds A b m = true ∧ (match nd A b m with | none => 0 | some x => pc6 (A 9 x)) < pc6 (A 9 m) then some m else nd A b m := rfl
    rw [e]
    have hp : 0 < pc6 (A 9 m) := by
      have h1 : cn (fun _ => false) 6 < pc6 (A 9 m) := cn_lt 6 (fun i _ h => by cases h) ⟨m, by have := hr.1; omega, rfl, (hg.2.1 m m (by omega) (by omega)).mpr (D_refl m)⟩
      omega
    cases hq : nd A b m with
    | none =>
      rw [hq] at i1
      simp only at i1 ⊢
      by_cases c : nds A b m = true
      · rw [if_pos ⟨c, hp⟩]
        refine ⟨by omega, c, fun d hd h1 => ?_⟩
        rcases Nat.lt_or_ge d m with k | k
        · rw [i1 d k] at h1; cases h1
        · rw [show d = m by omega]; exact Nat.le_refl _
      · rw [if_neg (fun z => c z.1)]
        intro d hd
        rcases Nat.lt_or_ge d m with k | k
        · exact i1 d k
        · rw [show d = m by omega]; simpa using c
    | some x =>
      rw [hq] at i1
      simp only at i1 ⊢
      obtain ⟨j1, j2, j3⟩ := i1
      by_cases c : nds A b m = true ∧ pc6 (A 9 x) < pc6 (A 9 m)
      · rw [if_pos c]
        refine ⟨by omega, c.1, fun d hd h1 => ?_⟩
        rcases Nat.lt_or_ge d m with k | k
        · have := j3 d k h1; omega
        · rw [show d = m by omega]; exact Nat.le_refl _
      · rw [if_neg c]
        refine ⟨by omega, j2, fun d hd h1 => ?_⟩
        rcases Nat.lt_or_ge d m with k | k
        · exact j3 d k h1
        · have hdm : d = m := by omega
          subst hdm
          rcases Nat.lt_or_ge (pc6 (A 9 x)) (pc6 (A 9 d)) with w | w
          · exact absurd ⟨h1, w⟩ c
          · exact w
theorem nd_same (hr : WR A) (hg : WG A) {b : Nat} (hb : b < A 0 0) : ndI (nd A b (A 0 0)) = if fu (ndp A b) (A 0 0) 0 < A 0 0 then nI (fu (ndp A b) (A 0 0) 0) else -4 := by
  have hi := nd_inv hr hg hb (A 0 0) (Nat.le_refl _)
  cases hq : nd A b (A 0 0) with
  | none =>
    rw [hq] at hi
    simp only at hi
    obtain ⟨-, -, -, h4⟩ := fu_spec (ndp A b) (A 0 0) 0
    rw [if_neg]
    · rfl
    · intro h
      have h5 := h4 (by omega)
      have h6 := (ndp_iff hr hb).mp h5
      rw [hi _ h] at h6
      cases h6.1
  | some x =>
    rw [hq] at hi
    simp only at hi
    obtain ⟨j1, j2, j3⟩ := hi
    have lt : ∀ e, nds A b e = true → e < A 0 0 := by
      intro e he
      rcases Nat.lt_or_ge e (A 0 0) with c | c
      · exact c
      · have := (nds_iff.mp he).2
        rw [hg.2.2.2.2.2 b e hb c] at this
        cases this
    have good : ndp A b x = true := by
      refine (ndp_iff hr hb).mpr ⟨j2, fun e he => ?_⟩
      have le := lt e he
      by_cases c : e = x
      · rw [c]; exact (hg.2.1 x x j1 j1).mpr (D_refl x)
      · obtain ⟨-, e2⟩ := nds_iff.mp he
        obtain ⟨-, x2⟩ := nds_iff.mp j2
        rcases D_chain c (hg.1 b hb) ((hg.2.1 b e hb le).mp e2) ((hg.2.1 b x hb j1).mp x2) with w | w
        · exact (hg.2.1 x e j1 le).mpr w
        · have := pc_lt hr hg j1 le (fun z => c z.symm) ((hg.2.1 e x le j1).mpr w)
          have := j3 e le he
          omega
    have hf : fu (ndp A b) (A 0 0) 0 = x := by
      refine fu_at j1 good (fun j hj => ?_)
      cases hjq : ndp A b j with
      | false => rfl
      | true =>
        obtain ⟨k1, k2⟩ := (ndp_iff hr hb).mp hjq
        have lj := lt j k1
        have w1 := k2 x j2
        have := pc_lt hr hg j1 lj (by omega) w1
        have := j3 j lj k1
        omega
    rw [hf, if_pos j1]
    rfl
end NEA
