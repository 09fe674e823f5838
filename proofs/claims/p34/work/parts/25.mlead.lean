/-! CLASSES: those that stand for all -/
def IDM (A : Nat → Nat → Nat) (P : Nat → Nat) : Prop := ∀ n, n < A 0 1 → P (P n) = P n
section IDS
variable {A : Nat → Nat → Nat} {P : Nat → Nat}
theorem h0_trans {n r s : Nat} (h1 : h0 A n r = true) (h2 : h0 A r s = true) : h0 A n s = true := by
  unfold h0 at *
  rw [decide_eq_true_eq] at *
  obtain ⟨a1, a2, a3, a4⟩ := h1
  obtain ⟨b1, b2, b3, b4⟩ := h2
  refine ⟨a1.trans b1, a2, fun c => ?_, fun c => ?_⟩
  · rw [a3 c, b3 (by omega)]
  · rw [a4 c, b4 (by omega)]
theorem P0_IDM : IDM A (P0 A) := by
  intro n hn
  obtain ⟨-, h2, h3, h4⟩ := fu_spec (h0 A n) n 0
  have hz : P0 A n = fu (h0 A n) n 0 := rfl
  rw [← hz] at h2 h3 h4
  rcases Nat.lt_or_ge (P0 A n) n with c | c
  · have k1 := h4 (by omega)
    obtain ⟨-, i2, i3, i4⟩ := fu_spec (h0 A (P0 A n)) (P0 A n) 0
    have hz2 : P0 A (P0 A n) = fu (h0 A (P0 A n)) (P0 A n) 0 := rfl
    rw [← hz2] at i2 i3 i4
    rcases Nat.lt_or_ge (P0 A (P0 A n)) (P0 A n) with d | d
    · have k2 := i4 (by omega)
      have k3 := h3 _ (Nat.zero_le _) d
      rw [h0_trans k1 k2] at k3
      cases k3
    · omega
  · have : P0 A n = n := by omega
    rw [this]
    exact this
theorem al_trans (hr : WR A) (hPK : PK A P) {n r s : Nat} (hn : n < A 0 1) (hr' : r < A 0 1) (hs : s < A 0 1) (h1 : al A P n r = true) (h2 : al A P r s = true) : al A P n s = true := by
  unfold al at *
  simp only [Bool.and_eq_true, Bool.or_eq_true, decide_eq_true_eq] at *
  obtain ⟨a1, a2⟩ := h1
  obtain ⟨b1, b2⟩ := h2
  obtain ⟨k1, k2⟩ := hPK.2 n r hn hr' a1
  obtain ⟨j1, j2⟩ := hPK.2 r s hr' hs b1
  refine ⟨a1.trans b1, ?_⟩
  have ar : (A 10 n = 2 ∨ A 10 n = 3) → A 12 n = 2 := fun c => (hr.2.2.2 n hn).2.2.2.2.2.2.1 (by omega) (by omega) (by omega)
  rw [pl_iff] at a2 b2 ⊢
  have crI : ∀ x y, cr A P x y = true ↔ ((A 10 x = 2 ∨ A 10 x = 3) ∧ P (A 14 (6 * x)) = P (A 14 (6 * y + 1)) ∧ P (A 14 (6 * x + 1)) = P (A 14 (6 * y))) := fun x y => by unfold cr; rw [decide_eq_true_eq]
  rw [crI] at a2 b2 ⊢
  rcases a2 with a2 | ⟨a3, a4, a5⟩
  · rcases b2 with b2 | ⟨b3, b4, b5⟩
    · exact Or.inl fun i hi => (a2 i hi).trans (b2 i (by omega))
    · have := ar (by omega)
      exact Or.inr ⟨by omega, (a2 0 (by omega)).trans b4, (a2 1 (by omega)).trans b5⟩
  · have ar2 := ar a3
    rcases b2 with b2 | ⟨b3, b4, b5⟩
    · exact Or.inr ⟨a3, a4.trans (b2 1 (by omega)), a5.trans (b2 0 (by omega))⟩
    · refine Or.inl fun i hi => ?_
      rcases (by omega : i = 0 ∨ i = 1) with rfl | rfl
      · exact a4.trans b5
      · exact a5.trans b4
theorem st_IDM (hr : WR A) (hPK : PK A P) : IDM A (st A P) := by
  intro n hn
  obtain ⟨-, h2, h3, h4⟩ := fu_spec (al A P n) n 0
  have hz : st A P n = fu (al A P n) n 0 := rfl
  rw [← hz] at h2 h3 h4
  rcases Nat.lt_or_ge (st A P n) n with c | c
  · have k1 := h4 (by omega)
    obtain ⟨-, i2, i3, i4⟩ := fu_spec (al A P (st A P n)) (st A P n) 0
    have hz2 : st A P (st A P n) = fu (al A P (st A P n)) (st A P n) 0 := rfl
    rw [← hz2] at i2 i3 i4
    rcases Nat.lt_or_ge (st A P (st A P n)) (st A P n) with d | d
    · have k2 := i4 (by omega)
      have k3 := h3 _ (Nat.zero_le _) d
      rw [al_trans hr hPK hn (by omega) (by omega) k1 k2] at k3
      cases k3
    · omega
  · have : st A P n = n := by omega
    rw [this]
    exact this
theorem rp_IDM (hr : WR A) : ∀ (k : Nat) (P : Nat → Nat), PK A P → IDM A P → IDM A (rp A k P) := by
  intro k
  induction k with
  | zero => intro P _ h; exact h
  | succ k ih =>
    intro P hPK h
    cases hc : chg A P with
    | true => rw [rp_T hc]; exact ih _ (st_PK hPK) (st_IDM hr hPK)
    | false => rw [rp_F hc]; exact h
theorem cn_congr {f g : Nat → Bool} : ∀ n, (∀ i, i < n → f i = g i) → cn f n = cn g n := by
  intro n
  induction n with
  | zero => intro _; rfl
  | succ n ih =>
    intro h
    show cn f n + (f n).toNat = cn g n + (g n).toNat
    rw [ih (fun i hi => h i (by omega)), h n (by omega)]
theorem cn_pos {f : Nat → Bool} {n i : Nat} (hi : i < n) (h : f i = true) : 0 < cn f n := by
  have := cn_lt (f := fun _ => false) (g := f) n (fun _ _ z => by cases z) ⟨i, hi, rfl, h⟩
  omega
theorem cn_ex {f : Nat → Bool} : ∀ {n : Nat}, 0 < cn f n → ∃ i, i < n ∧ f i = true := by
  intro n
  induction n with
  | zero => intro h; exact absurd h (Nat.lt_irrefl 0)
  | succ n ih =>
    intro h
    cases hf : f n with
    | true => exact ⟨n, by omega, hf⟩
    | false =>
      have e : cn f (n + 1) = cn f n + (f n).toNat := rfl
      rw [e, hf] at h
      obtain ⟨i, h1, h2⟩ := ih (by simpa using h)
      exact ⟨i, by omega, h2⟩
def sz8 (A : Nat → Nat → Nat) (P : Nat → Nat) (n : Nat) : Nat := if A 10 n = 8 then 0 else sz A P n
theorem many_same (h : IDM A P) : cn (fun n => decide (P n = n ∧ ¬ A 10 n = 8)) (A 0 1) = cn (fun n => decide (0 < sz8 A P n)) (A 0 1) := by
  refine cn_congr _ fun n hn => ?_
  rw [Bool.eq_iff_iff, decide_eq_true_eq, decide_eq_true_eq]
  unfold sz8
  by_cases c : A 10 n = 8
  · rw [if_pos c]
    exact ⟨fun z => absurd c z.2, fun z => absurd z (Nat.lt_irrefl 0)⟩
  · rw [if_neg c]
    constructor
    · intro z
      exact cn_pos hn (decide_eq_true z.1)
    · intro z
      obtain ⟨m, hm, hq⟩ := cn_ex z
      rw [decide_eq_true_eq] at hq
      refine ⟨?_, c⟩
      have := h m hm
      rw [hq] at this
      exact this
end IDS
section MLE
variable {I : Nat → Nat → Int32} {J : Nat → Nat → Int64} {Q : Option Value → ab_H → Prop} {A : Nat → Nat → Nat} {P : Nat → Nat} {R : Prop}
end MLE
