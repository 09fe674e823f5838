/-! FORMS: which, and what they tell of values -/
def FF (A : Nat → Nat → Nat) : Nat → Nat ⊕ Int64 := fs A (A 0 1)
def LG (x : Int64) : Prop := x = VOI ∨ ∃ y : Int32, x = y.toInt64
/-- operands of all but phi are ahead -/
def AHD (A : Nat → Nat → Nat) : Prop := ∀ m i, m < A 0 1 → A 10 m ≠ 7 → i < A 12 m → A 14 (6 * m + i) < m
def EFS (A : Nat → Nat → Nat) (n f : Nat) : Prop := f ≤ n ∧ A 10 f = A 10 n ∧ FF A f = .inl f ∧ (A 10 n = 1 → A 13 f = A 13 n) ∧ (A 10 n = 7 → A 11 f = A 11 n ∧ bh A f = true) ∧
  (A 10 n ≠ 1 → (∀ i, i < A 12 n → FF A (A 14 (6 * n + i)) = FF A (A 14 (6 * f + i))) ∨ ((A 10 n = 2 ∨ A 10 n = 3) ∧ FF A (A 14 (6 * n)) = FF A (A 14 (6 * f + 1)) ∧ FF A (A 14 (6 * n + 1)) = FF A (A 14 (6 * f))))
def FPr (A : Nat → Nat → Nat) (n : Nat) : Prop := 2 ≤ A 10 n ∧ A 10 n ≤ 6 ∧ A 10 n ≠ 4
def FC (A : Nat → Nat → Nat) (n : Nat) : Prop :=
  (A 10 n = 0 ∧ FF A n = .inr (if A 13 n = 99 then VOI else lN (A 13 n))) ∨
  (A 10 n ≠ 0 ∧ A 10 n ≠ 8 ∧ (A 10 n = 7 → bh A n = true) ∧ ∃ f, FF A n = .inl f ∧ EFS A n f) ∨
  ((A 10 n = 8 ∨ (A 10 n = 7 ∧ bh A n = false)) ∧ FF A n = .inl n) ∨
  (A 10 n = 4 ∧ ∃ u, FF A (A 14 (6 * n)) = .inr u ∧ FF A n = .inr (br 4 u (lN 0))) ∨
  (A 10 n = 4 ∧ ∃ m, FF A (A 14 (6 * n)) = .inl m ∧ A 10 m = 4 ∧ FF A n = fs A n (A 14 (6 * m))) ∨
  (A 10 n = 7 ∧ bh A n = true ∧ (∀ i, i < A 12 n → FF A (A 14 (6 * n + i)) = FF A (A 14 (6 * n))) ∧ FF A n = FF A (A 14 (6 * n))) ∨
  (FPr A n ∧ ∃ u v, FF A (A 14 (6 * n)) = .inr u ∧ FF A (A 14 (6 * n + 1)) = .inr v ∧ FF A n = .inr (br (A 10 n) u v)) ∨
  (FPr A n ∧ (FF A (A 14 (6 * n)) = .inr VOI ∨ FF A (A 14 (6 * n + 1)) = .inr VOI) ∧ FF A n = .inr (if A 10 n = 5 then lN 0 else VOI)) ∨
  (FPr A n ∧ ((A 10 n = 2 ∧ FF A (A 14 (6 * n)) = .inr (lN 0)) ∨ (A 10 n = 3 ∧ FF A (A 14 (6 * n)) = .inr (lN 1))) ∧ FF A n = FF A (A 14 (6 * n + 1))) ∨
  (FPr A n ∧ ((A 10 n = 2 ∧ FF A (A 14 (6 * n + 1)) = .inr (lN 0)) ∨ (A 10 n = 3 ∧ FF A (A 14 (6 * n + 1)) = .inr (lN 1)) ∨ (A 10 n = 6 ∧ FF A (A 14 (6 * n + 1)) = .inr (lN 1))) ∧ FF A n = FF A (A 14 (6 * n)))
section FO0
variable {A : Nat → Nat → Nat} {V V' : Nat → Int64} {ar : Nat → Int32}
theorem fs_at : ∀ k n, n < k → fs A k n = fo A (fs A n) n := by
  intro k
  induction k with
  | zero => intro n h; exact absurd h (Nat.not_lt_zero n)
  | succ k ih =>
    intro n h
    show (if n = k then fo A (fs A k) k else fs A k n) = _
    by_cases e : n = k
    · subst e; rw [if_pos rfl]
    · rw [if_neg e]; exact ih n (by omega)
theorem FF_at {n : Nat} (hn : n < A 0 1) : FF A n = fo A (fs A n) n := fs_at _ n hn
theorem FF_lt {n q : Nat} (hq : q < n) (hn : n ≤ A 0 1) : fs A n q = FF A q := (fs_at n q hq).trans (fs_at _ q (by omega)).symm
theorem bh_iff {n : Nat} : bh A n = true ↔ ∀ i, i < A 12 n → A 14 (6 * n + i) < n := by
  unfold bh
  rw [Bool.not_eq_true', ← Bool.not_eq_true, ay_iff]
  constructor
  · intro h i hi
    exact Decidable.byContradiction fun c => h ⟨i, hi, decide_eq_true (by omega)⟩
  · rintro h ⟨i, hi, hc⟩
    rw [decide_eq_true_eq] at hc
    have := h i hi
    omega
theorem kd_ar (hr : WR A) {n f : Nat} (hn : n < A 0 1) (hf : f < A 0 1) (hk : A 10 f = A 10 n) (hh : A 10 n = 7 → A 11 f = A 11 n) : A 12 f = A 12 n := by
  obtain ⟨-, -, -, a3, a4, a5, a6, a7, -⟩ := hr.2.2.2 n hn
  obtain ⟨b0, -, -, b3, b4, b5, b6, b7, -⟩ := hr.2.2.2 f hf
  by_cases c0 : A 10 n ≤ 1
  · rw [a3 c0, b3 (by omega)]
  · by_cases c1 : A 10 n = 8
    · rw [a4 c1, b4 (by omega)]
    · by_cases c2 : A 10 n = 4
      · rw [a5 c2, b5 (by omega)]
      · by_cases c3 : A 10 n = 7
        · rw [a7 c3, b7 (by omega), hh c3]
        · rw [a6 (by omega) (by omega) c2, b6 (by omega) (by omega) (by omega)]
theorem ef_EFS (hr : WR A) (ha : AHD A) {n : Nat} (hn : n < A 0 1) (hh : A 10 n = 7 → bh A n = true) (h0 : A 10 n ≠ 8) (hF : FF A n = .inl (ef A (fs A n) n)) : EFS A n (ef A (fs A n) n) := by
  have ho : ∀ i, i < A 12 n → A 14 (6 * n + i) < n := by
    intro i hi
    by_cases c : A 10 n = 7
    · exact bh_iff.mp (hh c) i hi
    · exact ha n i hn c hi
  obtain ⟨-, h2, h3, h4⟩ := fu_spec (fun m => decide (A 10 m = A 10 n ∧ fs A n m = .inl m) && sf A (fs A n) n m) n 0
  have hz : ef A (fs A n) n = fu (fun m => decide (A 10 m = A 10 n ∧ fs A n m = .inl m) && sf A (fs A n) n m) n 0 := rfl
  rw [← hz] at h2 h4
  generalize ef A (fs A n) n = f at *
  rcases Nat.lt_or_ge f n with c | c
  · have h5 := h4 (by omega)
    simp only [Bool.and_eq_true, decide_eq_true_eq] at h5
    obtain ⟨⟨k1, k2⟩, k3⟩ := h5
    rw [FF_lt c (by omega)] at k2
    have hf : f < A 0 1 := by omega
    unfold sf at k3
    by_cases e1 : A 10 n = 1
    · rw [if_pos e1, decide_eq_true_eq] at k3
      exact ⟨by omega, k1, k2, fun _ => k3, fun z => by omega, fun z => absurd e1 z⟩
    · rw [if_neg e1] at k3
      by_cases e7 : A 10 n = 7 ∧ ¬ (A 11 f = A 11 n ∧ bh A f = true)
      · rw [if_pos e7] at k3; cases k3
      · rw [if_neg e7] at k3
        have g7 : A 10 n = 7 → A 11 f = A 11 n ∧ bh A f = true := fun z => Decidable.byContradiction fun w => e7 ⟨z, w⟩
        have har := kd_ar hr hn hf k1 (fun z => (g7 z).1)
        have ho2 : ∀ i, i < A 12 n → A 14 (6 * f + i) < n := by
          intro i hi
          by_cases c7 : A 10 n = 7
          · have := bh_iff.mp (g7 c7).2 i (by omega)
            omega
          · have := ha f i hf (by omega) (by omega)
            omega
        refine ⟨by omega, k1, k2, fun z => absurd z e1, g7, fun _ => ?_⟩
        rw [Bool.or_eq_true] at k3
        rcases k3 with k3 | k3
        · left
          rw [pf_iff] at k3
          intro i hi
          have := k3 i hi
          rw [FF_lt (ho i hi) (by omega), FF_lt (ho2 i hi) (by omega)] at this
          exact this
        · right
          unfold cf at k3
          rw [decide_eq_true_eq] at k3
          obtain ⟨c1, c2, c3⟩ := k3
          have a2 := (hr.2.2.2 n hn).2.2.2.2.2.2.1 (by omega) (by omega) (by omega)
          have o0 : A 14 (6 * n) < n := ho 0 (by omega)
          have o1 := ho 1 (by omega)
          have p0 : A 14 (6 * f) < n := ho2 0 (by omega)
          have p1 := ho2 1 (by omega)
          rw [FF_lt o0 (by omega), FF_lt p1 (by omega)] at c2
          rw [FF_lt o1 (by omega), FF_lt p0 (by omega)] at c3
          exact ⟨c1, c2, c3⟩
  · have e : f = n := by omega
    subst e
    exact ⟨Nat.le_refl _, rfl, hF, fun _ => rfl, fun z => ⟨rfl, hh z⟩, fun _ => Or.inl fun _ _ => rfl⟩
theorem F_cases (hr : WR A) (hg : WG A) (ha : AHD A) {n : Nat} (hn : n < A 0 1) : FC A n := by
  have hat := FF_at hn
  obtain ⟨-, -, -, -, -, q5, q6, -, -, -, -⟩ := hr.2.2.2 n hn
  unfold fo at hat
  unfold FC
  by_cases c0 : A 10 n = 0
  · rw [if_pos c0] at hat
    exact Or.inl ⟨c0, hat⟩
  rw [if_neg c0] at hat
  by_cases c1 : A 10 n = 1
  · rw [if_pos c1] at hat
    exact Or.inr (Or.inl ⟨c0, by omega, fun z => by omega, _, hat, ef_EFS hr ha hn (fun z => by omega) (by omega) hat⟩)
  rw [if_neg c1] at hat
  by_cases c8 : A 10 n = 8
  · rw [if_pos c8] at hat
    exact Or.inr (Or.inr (Or.inl ⟨Or.inl c8, hat⟩))
  rw [if_neg c8] at hat
  by_cases c4 : A 10 n = 4
  · rw [if_pos c4] at hat
    have o0 : A 14 (6 * n) < n := ha n 0 hn (by omega) (by rw [q5 c4]; omega)
    rw [FF_lt o0 (by omega)] at hat
    cases hx : FF A (A 14 (6 * n)) with
    | inr v =>
      rw [hx] at hat
      exact Or.inr (Or.inr (Or.inr (Or.inl ⟨c4, v, rfl, hat⟩)))
    | inl m =>
      rw [hx] at hat
      simp only at hat
      by_cases cm : A 10 m = 4
      · rw [if_pos cm] at hat
        exact Or.inr (Or.inr (Or.inr (Or.inr (Or.inl ⟨c4, m, rfl, cm, hat⟩))))
      · rw [if_neg cm] at hat
        exact Or.inr (Or.inl ⟨c0, c8, fun z => by omega, _, hat, ef_EFS hr ha hn (fun z => by omega) c8 hat⟩)
  rw [if_neg c4] at hat
  by_cases c7 : A 10 n = 7
  · rw [if_pos c7] at hat
    cases hb : bh A n with
    | false =>
      rw [hb, if_pos rfl] at hat
      exact Or.inr (Or.inr (Or.inl ⟨Or.inr ⟨c7, rfl⟩, hat⟩))
    | true =>
      rw [hb, if_neg (by decide)] at hat
      have ho := bh_iff.mp hb
      have o0 : A 14 (6 * n) < n := ho 0 (hg.2.2.2.1 n hn c7)
      split at hat
      · rename_i hy
        rw [FF_lt o0 (by omega)] at hat
        refine Or.inr (Or.inr (Or.inr (Or.inr (Or.inr (Or.inl ⟨c7, rfl, fun i hi => ?_, hat⟩)))))
        rw [← Bool.not_eq_true, ay_iff] at hy
        refine Decidable.byContradiction fun w => hy ⟨i, hi, decide_eq_true ?_⟩
        rw [FF_lt (ho i hi) (by omega), FF_lt o0 (by omega)]
        exact w
      · exact Or.inr (Or.inl ⟨c0, c8, fun _ => rfl, _, hat, ef_EFS hr ha hn (fun _ => hb) c8 hat⟩)
  rw [if_neg c7] at hat
  have h8 := (hr.2.2.2 n hn).1
  have hp : FPr A n := ⟨by omega, by omega, c4⟩
  have a2 := q6 (by omega) (by omega) c4
  have o0 : A 14 (6 * n) < n := ha n 0 hn c7 (by omega)
  have o1 : A 14 (6 * n + 1) < n := ha n 1 hn c7 (by omega)
  rw [FF_lt o0 (by omega), FF_lt o1 (by omega)] at hat
  split at hat
  · rename_i hc
    by_cases hv : FF A (A 14 (6 * n)) = .inr VOI ∨ FF A (A 14 (6 * n + 1)) = .inr VOI
    · refine Or.inr (Or.inr (Or.inr (Or.inr (Or.inr (Or.inr (Or.inr (Or.inl ⟨hp, hv, ?_⟩)))))))
      rw [hat]
      unfold br
      rw [if_pos (hv.imp (fun z => by rw [z]; rfl) (fun z => by rw [z]; rfl))]
    · have hb : isn (FF A (A 14 (6 * n))) = false ∧ isn (FF A (A 14 (6 * n + 1))) = false := hc.elim id (fun z => absurd z hv)
      cases hu : FF A (A 14 (6 * n)) with
      | inl m => rw [hu] at hb; cases hb.1
      | inr u =>
        cases hw : FF A (A 14 (6 * n + 1)) with
        | inl m => rw [hw] at hb; cases hb.2
        | inr v =>
          rw [hu, hw] at hat
          exact Or.inr (Or.inr (Or.inr (Or.inr (Or.inr (Or.inr (Or.inl ⟨hp, u, v, rfl, rfl, hat⟩))))))
  · split at hat
    · rename_i hc
      exact Or.inr (Or.inr (Or.inr (Or.inr (Or.inr (Or.inr (Or.inr (Or.inr (Or.inl ⟨hp, hc, hat⟩))))))))
    · split at hat
      · rename_i hc
        exact Or.inr (Or.inr (Or.inr (Or.inr (Or.inr (Or.inr (Or.inr (Or.inr (Or.inr ⟨hp, hc, hat⟩))))))))
      · exact Or.inr (Or.inl ⟨c0, c8, fun z => absurd z c7, _, hat, ef_EFS hr ha hn (fun z => absurd z c7) c8 hat⟩)
/-! numbers -/
theorem LG_lN {k : Nat} (h : k < 2147483648) : LG (lN k) := by
  refine Or.inr ⟨nI k, ?_⟩
  apply Int64.toInt_inj.mp
  rw [Int32.toInt_toInt64, lN_toI (by omega), nI_toInt h]
theorem LG_br (k : Nat) (x y : Int64) : LG (br k x y) := by
  unfold br
  repeat' split
  all_goals first | exact Or.inl rfl | exact Or.inr ⟨_, rfl⟩ | exact LG_lN (by omega)
theorem LG_vo (hr : WR A) {n : Nat} (hn : n < A 0 1) : LG (vo A ar V n) := by
  have := (hr.2.2.2 n hn).2.2.2.2.2.2.2.2.1
  unfold vo
  by_cases c0 : A 10 n = 0
  · rw [if_pos c0]
    split
    · exact Or.inl rfl
    · exact LG_lN (by have := this c0; omega)
  · rw [if_neg c0]
    split
    · exact Or.inr ⟨_, rfl⟩
    · exact LG_br _ _ _
theorem VOI_ne (y : Int32) : ¬ y.toInt64 = VOI := by
  intro h
  have h2 := congrArg Int64.toInt h
  rw [Int32.toInt_toInt64, lN_VOI, lN_toI (by omega)] at h2
  have := Int32.toInt_lt y
  omega
theorem VOI_nl {k : Nat} (h : k < 1000) : ¬ lN k = VOI := by
  intro h
  have h2 := congrArg Int64.toInt h
  rw [lN_toI (by omega), lN_VOI, lN_toI (by omega)] at h2
  omega
theorem LG_NOT {x : Int64} (h : LG x) : ¬ x = NOT := by
  intro e
  rcases h with h | ⟨y, h⟩
  · rw [h] at e
    have h2 := congrArg Int64.toInt e
    unfold NOT at h2
    rw [lN_VOI, lN_toI (by omega), lN_toI (by omega)] at h2
    omega
  · rw [h] at e
    have h2 := congrArg Int64.toInt e
    unfold NOT at h2
    rw [Int32.toInt_toInt64, lN_toI (by omega)] at h2
    have := Int32.toInt_lt y
    omega
theorem lN0 : lN 0 = 0 := rfl
theorem lN1 : lN 1 = 1 := rfl
theorem br_V1 (k : Nat) (y : Int64) : br k VOI y = if k = 5 then lN 0 else VOI := by unfold br; rw [if_pos (Or.inl rfl)]
theorem br_V2 (k : Nat) (x : Int64) : br k x VOI = if k = 5 then lN 0 else VOI := by unfold br; rw [if_pos (Or.inr rfl)]
theorem br_20 {z : Int64} (h : LG z) : br 2 (lN 0) z = z := by
  rcases h with rfl | ⟨y, rfl⟩
  · rw [br_V2]; rfl
  · unfold br
    rw [if_neg (fun c => c.elim (VOI_nl (by omega)) (VOI_ne y)), if_pos rfl, lN0, Int64.zero_add, Int32.toInt32_toInt64]
theorem br_21 {z : Int64} (h : LG z) : br 2 z (lN 0) = z := by
  rcases h with rfl | ⟨y, rfl⟩
  · rw [br_V1]; rfl
  · unfold br
    rw [if_neg (fun c => c.elim (VOI_ne y) (VOI_nl (by omega))), if_pos rfl, lN0, Int64.add_zero, Int32.toInt32_toInt64]
theorem br_30 {z : Int64} (h : LG z) : br 3 (lN 1) z = z := by
  rcases h with rfl | ⟨y, rfl⟩
  · rw [br_V2]; rfl
  · unfold br
    rw [if_neg (fun c => c.elim (VOI_nl (by omega)) (VOI_ne y)), if_neg (by decide), if_pos rfl, lN1, Int64.one_mul, Int32.toInt32_toInt64]
theorem br_31 {z : Int64} (h : LG z) : br 3 z (lN 1) = z := by
  rcases h with rfl | ⟨y, rfl⟩
  · rw [br_V1]; rfl
  · unfold br
    rw [if_neg (fun c => c.elim (VOI_ne y) (VOI_nl (by omega))), if_neg (by decide), if_pos rfl, lN1, Int64.mul_one, Int32.toInt32_toInt64]
theorem br_61 {z : Int64} (h : LG z) : br 6 z (lN 1) = z := by
  rcases h with rfl | ⟨y, rfl⟩
  · rw [br_V1]; rfl
  · unfold br
    rw [if_neg (fun c => c.elim (VOI_ne y) (VOI_nl (by omega))), if_neg (by decide), if_neg (by decide), if_neg (by decide), if_neg (by decide), if_neg (by decide), lN1]
    have e : y.toInt64 / 1 = y.toInt64 := by
      apply Int64.toInt_inj.mp
      rw [Int64.toInt_div_of_ne_right _ _ (by decide)]
      exact Int.tdiv_one _
    rw [e, Int32.toInt32_toInt64]
theorem br_44 {z : Int64} (h : LG z) : br 4 (br 4 z (lN 0)) (lN 0) = z := by
  rcases h with rfl | ⟨y, rfl⟩
  · rw [br_V1, if_neg (by decide), br_V1]; rfl
  · have e : br 4 y.toInt64 (lN 0) = (-y).toInt64 := by
      unfold br
      rw [if_neg (fun c => c.elim (VOI_ne y) (VOI_nl (by omega))), if_neg (by decide), if_neg (by decide), if_pos rfl, Int64.toInt32_neg, Int32.toInt32_toInt64]
    rw [e]
    unfold br
    rw [if_neg (fun c => c.elim (VOI_ne _) (VOI_nl (by omega))), if_neg (by decide), if_neg (by decide), if_pos rfl, Int64.toInt32_neg, Int32.toInt32_toInt64, Int32.neg_neg]
theorem br_comm {k : Nat} (hk : k = 2 ∨ k = 3) (x y : Int64) : br k x y = br k y x := by
  by_cases c : x = VOI ∨ y = VOI
  · unfold br
    rw [if_pos c, if_pos c.symm]
  · have c2 : ¬ (y = VOI ∨ x = VOI) := fun z => c z.symm
    rcases hk with rfl | rfl
    · have e : ∀ a b : Int64, ¬ (a = VOI ∨ b = VOI) → br 2 a b = (a + b).toInt32.toInt64 := fun a b h => by
        unfold br
        rw [if_neg h, if_pos rfl]
      rw [e _ _ c, e _ _ c2, Int64.add_comm]
    · have e : ∀ a b : Int64, ¬ (a = VOI ∨ b = VOI) → br 3 a b = (a * b).toInt32.toInt64 := fun a b h => by
        unfold br
        rw [if_neg h, if_neg (by decide), if_pos rfl]
      rw [e _ _ c, e _ _ c2, Int64.mul_comm]
theorem vo_congr (hr : WR A) {n : Nat} (hn : n < A 0 1) (h7 : A 10 n ≠ 7) (h8 : A 10 n ≠ 8) (h : ∀ i, i < A 12 n → V (A 14 (6 * n + i)) = V' (A 14 (6 * n + i))) : vo A ar V n = vo A ar V' n := by
  obtain ⟨k8, -, -, -, -, q5, q6, -⟩ := hr.2.2.2 n hn
  unfold vo
  by_cases c0 : A 10 n = 0
  · rw [if_pos c0, if_pos c0]
  rw [if_neg c0, if_neg c0]
  by_cases c1 : A 10 n = 1
  · rw [if_pos c1, if_pos c1]
  rw [if_neg c1, if_neg c1]
  by_cases c4 : A 10 n = 4
  · rw [if_pos c4, if_pos c4]
    have := h 0 (by rw [q5 c4]; omega)
    rw [show 6 * n + 0 = 6 * n from rfl] at this
    rw [this]
  · rw [if_neg c4, if_neg c4]
    have a2 := q6 (by omega) (by omega) c4
    have h0 := h 0 (by omega)
    rw [show 6 * n + 0 = 6 * n from rfl] at h0
    rw [h0, h 1 (by omega)]
end FO0
