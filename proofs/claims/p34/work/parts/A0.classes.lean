/-! CLASSES: what the law asks of them -/
def PP (A : Nat → Nat → Nat) : Nat → Nat := rp A 100 (P0 A)
section CL0
variable {A : Nat → Nat → Nat} {P : Nat → Nat}
theorem st_P (n : Nat) : P (st A P n) = P n := by
  have h := st_al (A := A) (P := P) n
  unfold al at h
  rw [Bool.and_eq_true, decide_eq_true_eq] at h
  exact h.1.symm
theorem st_ref {n m : Nat} (h : st A P n = st A P m) : P n = P m := (st_P (A := A) (P := P) n).symm.trans ((congrArg P h).trans (st_P (A := A) (P := P) m))
theorem rp_ref {n m : Nat} : ∀ (k : Nat) (P : Nat → Nat), rp A k P n = rp A k P m → P n = P m := by
  intro k
  induction k with
  | zero => intro P h; exact h
  | succ k ih =>
    intro P h
    cases hc : chg A P with
    | true => rw [rp_T hc] at h; exact st_ref (ih _ h)
    | false => rw [rp_F hc] at h; exact h
theorem rp_step {n m : Nat} : ∀ (k : Nat) (P : Nat → Nat), rp A (k + 1) P n = rp A (k + 1) P m → rp A k P n = rp A k P m := by
  intro k
  induction k with
  | zero =>
    intro P h
    exact rp_ref 1 P h
  | succ k ih =>
    intro P h
    cases hc : chg A P with
    | true => rw [rp_T hc] at h ⊢; exact ih _ h
    | false => rw [rp_F hc] at h ⊢; exact h
def roots (A : Nat → Nat → Nat) (P : Nat → Nat) : Nat := cn (fun n => decide (P n = n)) (A 0 1)
theorem roots_lt (hr : WR A) (hPK : PK A P) (hI : IDM A P) (hc : chg A P = true) : roots A P < roots A (st A P) := by
  unfold roots
  refine cn_lt _ (fun i hi h => ?_) ?_
  · rw [decide_eq_true_eq] at h ⊢
    have h1 := st_le A P i
    have h2 := hPK.1 (st A P i)
    rw [st_P (A := A) (P := P) i, h] at h2
    omega
  · unfold chg at hc
    rw [ay_iff] at hc
    obtain ⟨n, hn, h⟩ := hc
    rw [decide_eq_true_eq] at h
    have h1 := st_le A P n
    refine ⟨st A P n, by omega, ?_, ?_⟩
    · rw [decide_eq_false_iff_not, st_P (A := A) (P := P) n]
      exact fun z => h z.symm
    · rw [decide_eq_true_eq]
      exact st_IDM hr hPK n hn
theorem rc_roots (hr : WR A) : ∀ (k : Nat) (P : Nat → Nat), PK A P → IDM A P → rc A k P + roots A P ≤ A 0 1 := by
  intro k
  induction k with
  | zero => intro P _ _; show 0 + roots A P ≤ _; rw [Nat.zero_add]; exact cn_le _ _
  | succ k ih =>
    intro P hPK hI
    cases hc : chg A P with
    | true =>
      rw [rc_T hc]
      have h1 := ih _ (st_PK hPK) (st_IDM hr hPK)
      have h2 := roots_lt hr hPK hI hc
      omega
    | false => rw [rc_F hc, Nat.zero_add]; exact cn_le _ _
theorem rp_stop : ∀ (k : Nat) (P : Nat → Nat), rc A k P < k → chg A (rp A k P) = false := by
  intro k
  induction k with
  | zero => intro P h; exact absurd h (Nat.not_lt_zero _)
  | succ k ih =>
    intro P h
    cases hc : chg A P with
    | true => rw [rc_T hc] at h; rw [rp_T hc]; exact ih _ (by omega)
    | false => rw [rp_F hc]; exact hc
theorem rp_more : ∀ (k : Nat) (P : Nat → Nat) (j : Nat), rc A k P < k → rc A k P ≤ j → rp A j P = rp A k P := by
  intro k
  induction k with
  | zero => intro P j h; exact absurd h (Nat.not_lt_zero _)
  | succ k ih =>
    intro P j h hj
    cases hc : chg A P with
    | true =>
      rw [rc_T hc] at h hj
      obtain ⟨i, rfl⟩ : ∃ i, j = i + 1 := ⟨j - 1, by omega⟩
      rw [rp_T hc, rp_T hc]
      exact ih _ i (by omega) (by omega)
    | false =>
      rw [rp_F hc]
      cases j with
      | zero => rfl
      | succ j => exact rp_F hc
theorem rc_lt (hr : WR A) : rc A 100 (P0 A) ≤ 20 := by
  have := rc_roots hr 100 (P0 A) (P0_PK hr) P0_IDM
  have := hr.2.1
  omega
theorem PP_PK (hr : WR A) : PK A (PP A) := rp_PK 100 _ (P0_PK hr)
theorem PP_IDM (hr : WR A) : IDM A (PP A) := rp_IDM hr 100 _ (P0_PK hr) P0_IDM
theorem PP_at (hr : WR A) {r : Nat} (h : rc A 100 (P0 A) ≤ r) : rp A r (P0 A) = PP A := rp_more 100 _ r (by have := rc_lt hr; omega) h
theorem PP_st (hr : WR A) {n : Nat} (hn : n < A 0 1) : st A (PP A) n = PP A n := by
  have h : chg A (PP A) = false := rp_stop 100 _ (by have := rc_lt hr; omega)
  refine Decidable.byContradiction fun c => ?_
  have : chg A (PP A) = true := (ay_iff _ _).mpr ⟨n, hn, decide_eq_true c⟩
  rw [h] at this
  cases this
theorem al_symm (hPK : PK A P) {n m : Nat} (hn : n < A 0 1) (hm : m < A 0 1) (h : al A P n m = true) : al A P m n = true := by
  unfold al at *
  simp only [Bool.and_eq_true, Bool.or_eq_true, decide_eq_true_eq] at *
  obtain ⟨h1, h2⟩ := h
  obtain ⟨k1, k2⟩ := hPK.2 n m hn hm h1
  refine ⟨h1.symm, h2.imp (fun z => ?_) (fun z => ?_)⟩
  · rw [pl_iff] at z ⊢
    exact fun i hi => (z i (by omega)).symm
  · unfold cr at z ⊢
    rw [decide_eq_true_eq] at z ⊢
    exact ⟨by rw [← k1]; exact z.1, z.2.2.symm, z.2.1.symm⟩
theorem PP_al (hr : WR A) {x y : Nat} (hx : x < A 0 1) (hy : y < A 0 1) (h : PP A x = PP A y) : al A (PP A) x y = true := by
  have hK := PP_PK hr
  have a1 := st_al (A := A) (P := PP A) x
  have a2 := st_al (A := A) (P := PP A) y
  rw [PP_st hr hx] at a1
  rw [PP_st hr hy, ← h] at a2
  have hl : PP A x < A 0 1 := Nat.lt_of_le_of_lt (hK.1 x) hx
  exact al_trans hr hK hx hl hy a1 (al_symm hK hy hl a2)
theorem P0_fig (n : Nat) : A 10 n ≤ 1 → A 13 (P0 A n) = A 13 n := by
  obtain ⟨-, h2, h3, h4⟩ := fu_spec (h0 A n) n 0
  intro hk
  rcases Nat.lt_or_ge (P0 A n) n with c | c
  · have e : h0 A n (P0 A n) = true := h4 (by unfold P0 at c; omega)
    unfold h0 at e
    simp only [decide_eq_true_eq] at e
    exact (e.2.2.1 hk).symm
  · have : P0 A n = n := by have := P0_le A n; omega
    rw [this]
theorem PP_h0 {x y : Nat} (h : PP A x = PP A y) : A 10 x = A 10 y ∧ (A 10 x ≤ 1 → A 13 x = A 13 y) ∧ (A 10 x = 7 → A 11 x = A 11 y) := by
  have e : P0 A x = P0 A y := rp_ref 100 _ h
  obtain ⟨a1, -, a3⟩ := P0_kind (A := A) x
  obtain ⟨b1, -, b3⟩ := P0_kind (A := A) y
  have k : A 10 x = A 10 y := by rw [← a1, ← b1, e]
  refine ⟨k, fun c => ?_, fun c => ?_⟩
  · rw [← P0_fig (A := A) x c, ← P0_fig (A := A) y (by omega), e]
  · rw [← a3 c, ← b3 (by omega), e]
theorem PP_le (hr : WR A) (n : Nat) : PP A n ≤ n := (PP_PK hr).1 n
/-- OPERANDS of names of one CLASS -/
theorem PP_ops (hr : WR A) {x y : Nat} (hx : x < A 0 1) (hy : y < A 0 1) (h : PP A x = PP A y) : A 12 x = A 12 y ∧ ((∀ i, i < A 12 x → PP A (A 14 (6 * x + i)) = PP A (A 14 (6 * y + i))) ∨ ((A 10 x = 2 ∨ A 10 x = 3) ∧ PP A (A 14 (6 * x)) = PP A (A 14 (6 * y + 1)) ∧ PP A (A 14 (6 * x + 1)) = PP A (A 14 (6 * y)))) := by
  refine ⟨((PP_PK hr).2 x y hx hy h).2, ?_⟩
  have h2 := PP_al hr hx hy h
  unfold al at h2
  simp only [Bool.and_eq_true, Bool.or_eq_true, decide_eq_true_eq] at h2
  refine h2.2.imp (fun z => pl_iff.mp z) (fun z => ?_)
  unfold cr at z
  rw [decide_eq_true_eq] at z
  exact z
/-- the LEADER -/
def LD (A : Nat → Nat → Nat) (n : Nat) : Nat := ldc A (PP A) n (A 0 1)
theorem LD_lt {n : Nat} (hn : n < A 0 1) : LD A n < A 0 1 := ldc_lt hn _ (Nat.le_refl _)
theorem LD_of (hr : WR A) (hg : WG A) {n : Nat} (hn : n < A 0 1) : PP A (LD A n) = PP A n ∧ (LD A n = n ∨ sn A (LD A n) n = true) := amg_iff.mp (ldc_inv hr hg hn (A 0 1) (Nat.le_refl _)).1
theorem LD_all (hr : WR A) (hg : WG A) {n m : Nat} (hn : n < A 0 1) (hm : m < A 0 1) (h : PP A m = PP A n) (hs : m = n ∨ sn A m n = true) : m = LD A n ∨ sn A (LD A n) m = true := (ldc_inv hr hg hn (A 0 1) (Nat.le_refl _)).2 m hm (amg_iff.mpr ⟨h, hs⟩)
theorem LD_LD (hr : WR A) (hg : WG A) {n : Nat} (hn : n < A 0 1) : LD A (LD A n) = LD A n := by
  have hl := LD_lt hn
  have hl2 := LD_lt hl
  obtain ⟨a1, a2⟩ := LD_of hr hg hn
  obtain ⟨b1, b2⟩ := LD_of hr hg hl
  rcases b2 with b2 | b2
  · exact b2
  · have hs : LD A (LD A n) = n ∨ sn A (LD A (LD A n)) n = true := by
      rcases a2 with a2 | a2
      · rw [a2] at b2 ⊢; exact Or.inr b2
      · exact Or.inr (sn_trans hr hg hl2 hl hn b2 a2)
    rcases LD_all hr hg hn hl2 (b1.trans a1) hs with z | z
    · exact z
    · have := sn_asymm hr hg hl hl2 z
      rw [b2] at this
      cases this
end CL0
