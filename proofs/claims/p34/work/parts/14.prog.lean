/-! PROGRAM: what only asks -/
/-- the first one, or as many as there are -/
def fu (f : Nat → Bool) : Nat → Nat → Nat
  | 0, i => i
  | k + 1, i => if f i then i else fu f k (i + 1)
theorem fu_spec (f : Nat → Bool) : ∀ k i, i ≤ fu f k i ∧ fu f k i ≤ i + k ∧ (∀ j, i ≤ j → j < fu f k i → f j = false) ∧ (fu f k i < i + k → f (fu f k i) = true) := by
  intro k
  induction k with
  | zero => intro i; exact ⟨Nat.le_refl _, Nat.le_refl _, fun j h1 h2 => by simp only [fu] at h2; omega, fun h => by simp only [fu] at h; omega⟩
  | succ k ih =>
    intro i
    by_cases c : f i = true
    · simp only [fu, c, if_true]
      exact ⟨Nat.le_refl _, by omega, fun j h1 h2 => by omega, fun _ => trivial⟩
    · simp only [fu, if_neg c]
      obtain ⟨h1, h2, h3, h4⟩ := ih (i + 1)
      refine ⟨by omega, by omega, fun j k1 k2 => ?_, fun h => h4 (by omega)⟩
      rcases Nat.eq_or_lt_of_le k1 with e | e
      · subst e; simpa using c
      · exact h3 j e k2
theorem fu_at {f : Nat → Bool} {n i : Nat} (hi : i < n) (h : f i = true) (hj : ∀ j, j < i → f j = false) : fu f n 0 = i := by
  obtain ⟨-, h2, h3, h4⟩ := fu_spec f n 0
  rcases Nat.lt_trichotomy (fu f n 0) i with c | c | c
  · have := h4 (by omega)
    rw [hj _ c] at this
    cases this
  · exact c
  · have := h3 i (Nat.zero_le _) c
    rw [h] at this
    cases this
section PRG
variable {I : Nat → Nat → Int32} {J : Nat → Nat → Int64} {Q : Option Value → ab_H → Prop} {A : Nat → Nat → Nat} {p : Nat} {R : Prop}
theorem x_hasBlock (hp : isP p) (hb : WB A) (hr : WR A) (h : PC p I A) (hg : PG p I A) (x : Int32) : Ex 45 [.ref p, .int x] (SH, I, J) Q = Q (some (.int (nI (decide (nI 0 ≤ x ∧ x < nI (A 0 0))).toNat))) (SH, I, J) := by
  have hp2 := p_lt hp
  obtain ⟨r1, r2, r3, r4⟩ := hr
  obtain ⟨e0, e1, e2, e3, e4, e5, e6, e7, e8, e9, e10, e11, e12⟩ := h
  obtain ⟨g1, g2, g3⟩ := hg
  rw [en_45]
  simp (disch := first | omega | assumption | exact own_45 | exact rt_45 | exact q_lt1 (hb _ _) | exact bt_lt _ | fail) only [own_45, rt_45, ab_kl_n, ab_kl_i, ab_kl_r, ab_kl_l, at_45_0, Go_iload_1, jt_45_1, q_le, q_lt, q_eq, n_leT, n_leF, n_ltT, n_ltF, n_eqF, n_b0, at_45_4, at_45_5, Go_aload_0, at_45_6, Go_getf, fl_3_60, gg_3_0, sh_ref, sh_rf, jt_45_9, at_45_12, Go_iconst, kc_1, jt_45_13, at_45_16, kc_0, at_45_17, Go_retb, Go_retb0, Go_retb1, Nat.reduceAdd, Nat.reduceMul, Nat.reduceLeDiff, Nat.reduceSub, not_true_eq_false, not_false_eq_true, ite_not, true_and, and_true, if_true, if_false, reduceIte, Bool.or_true, Bool.true_or, Bool.or_false, pr_0 hp, e0]
  by_cases c1 : x < nI 0
  · simp [c1, Int32.not_le.mpr c1]
  · by_cases c2 : nI (A 0 0) ≤ x
    · simp [c1, c2, Int32.not_lt.mpr c2]
    · simp [c1, c2, Int32.not_lt.mp c1, Int32.not_le.mp c2]
theorem x_hasOperand (hp : isP p) (hb : WB A) (hr : WR A) (h : PC p I A) (hg : PG p I A) {n : Nat} (hn : n < A 0 1) (x : Int32) : Ex 47 [.ref p, .int (nI n), .int x] (SH, I, J) Q = Q (some (.int (nI (decide (nI 0 ≤ x ∧ x < nI (A 12 n))).toNat))) (SH, I, J) := by
  have hn1 := fun Q => x_hasName (J := J) (Q := Q) hp hb h (nI n)
  have hp2 := p_lt hp
  obtain ⟨r1, r2, r3, r4⟩ := hr
  obtain ⟨e0, e1, e2, e3, e4, e5, e6, e7, e8, e9, e10, e11, e12⟩ := h
  obtain ⟨g1, g2, g3⟩ := hg
  have a1 := (r4 n hn).2.2.1
  have a2 : decide (nI 0 ≤ nI n ∧ nI n < nI (A 0 1)) = true := decide_eq_true ⟨nI_le (Nat.zero_le _) (by omega), nI_lt hn (by omega)⟩
  rw [a2] at hn1
  rw [en_47]
  simp (disch := first | omega | assumption | exact own_47 | exact rt_47 | exact pr_0 (by assumption) | exact q_lt1 (hb _ _) | exact bt_lt _ | fail) only [own_47, rt_47, ab_kl_n, ab_kl_i, ab_kl_r, ab_kl_l, at_47_0, Go_aload_0, at_47_1, Go_iload_1, at_47_2, cl_3_73, cat_n, cat_i, cat_r, cat_l, tl_i, tl_l, tl_n, sh_same, jt_47_5, q_le, q_lt, q_eq, n_leT, n_leF, n_ltT, n_ltF, n_eqF, n_b0, at_47_8, Go_iload_2, jt_47_9, at_47_12, at_47_13, at_47_14, Go_getf, fl_3_47, gg_3_13, sh_ref, sh_rf, at_47_17, at_47_18, Go_iaload, sh_ln, q_in, q_cl, jt_47_19, at_47_22, at_47_23, Go_bipush, kb_6, jt_47_25, at_47_28, Go_iconst, kc_1, jt_47_29, at_47_32, kc_0, at_47_33, Go_retb, Go_retb0, Go_retb1, Nat.reduceAdd, Nat.reduceMul, Nat.reduceLeDiff, Nat.reduceSub, not_true_eq_false, not_false_eq_true, ite_not, true_and, and_true, if_true, if_false, reduceIte, Bool.or_true, Bool.true_or, Bool.or_false, pr_0 hp, pf_13 hp, pr_18 hp, pn_18 hp, e10, hn1]
  by_cases c1 : x < nI 0
  · simp [c1, Int32.not_le.mpr c1]
  · by_cases c2 : nI (A 12 n) ≤ x
    · simp [c1, c2, Int32.not_lt.mpr c2]
    · have c3 : ¬ nI 6 ≤ x := by
        intro z
        exact c2 (Int32.le_trans (nI_le a1 (by omega)) z)
      simp [c1, c2, c3, Int32.not_lt.mp c1, Int32.not_le.mp c2]
theorem x_hasOperandN (hp : isP p) (hb : WB A) (hr : WR A) (h : PC p I A) (hg : PG p I A) {y : Int32} (hn : ¬ (nI 0 ≤ y ∧ y < nI (A 0 1))) (x : Int32) : Ex 47 [.ref p, .int y, .int x] (SH, I, J) Q = Q (some (.int (nI 0))) (SH, I, J) := by
  have hn1 := fun Q => x_hasName (J := J) (Q := Q) hp hb h y
  have hp2 := p_lt hp
  obtain ⟨r1, r2, r3, r4⟩ := hr
  obtain ⟨e0, e1, e2, e3, e4, e5, e6, e7, e8, e9, e10, e11, e12⟩ := h
  obtain ⟨g1, g2, g3⟩ := hg
  rw [decide_eq_false hn] at hn1
  rw [en_47]
  simp (disch := first | omega | assumption | exact own_47 | exact rt_47 | exact pr_0 (by assumption) | exact q_lt1 (hb _ _) | exact bt_lt _ | fail) only [own_47, rt_47, ab_kl_n, ab_kl_i, ab_kl_r, ab_kl_l, at_47_0, Go_aload_0, at_47_1, Go_iload_1, at_47_2, cl_3_73, cat_n, cat_i, cat_r, cat_l, tl_i, tl_l, tl_n, sh_same, jt_47_5, q_le, q_lt, q_eq, n_leT, n_leF, n_ltT, n_ltF, n_eqF, n_b0, at_47_8, Go_iload_2, jt_47_9, at_47_12, at_47_13, at_47_14, Go_getf, fl_3_47, gg_3_13, sh_ref, sh_rf, at_47_17, at_47_18, Go_iaload, sh_ln, q_in, q_cl, jt_47_19, at_47_22, at_47_23, Go_bipush, kb_6, jt_47_25, at_47_28, Go_iconst, kc_1, jt_47_29, at_47_32, kc_0, at_47_33, Go_retb, Go_retb0, Go_retb1, Nat.reduceAdd, Nat.reduceMul, Nat.reduceLeDiff, Nat.reduceSub, not_true_eq_false, not_false_eq_true, ite_not, true_and, and_true, if_true, if_false, reduceIte, Bool.or_true, Bool.true_or, Bool.or_false, pr_0 hp, pf_13 hp, pr_18 hp, pn_18 hp, e10, hn1]
theorem x_hasFigure (hp : isP p) (hb : WB A) (hr : WR A) (h : PC p I A) (hg : PG p I A) {n : Nat} (hn : n < A 0 1) : Ex 48 [.ref p, .int (nI n)] (SH, I, J) Q = Q (some (.int (nI (decide (A 10 n ≤ 1)).toNat))) (SH, I, J) := by
  have hp2 := p_lt hp
  obtain ⟨r1, r2, r3, r4⟩ := hr
  obtain ⟨e0, e1, e2, e3, e4, e5, e6, e7, e8, e9, e10, e11, e12⟩ := h
  obtain ⟨g1, g2, g3⟩ := hg
  rw [en_48]
  simp (disch := first | omega | assumption | exact own_48 | exact rt_48 | exact q_lt1 (hb _ _) | exact bt_lt _ | fail) only [own_48, rt_48, ab_kl_n, ab_kl_i, ab_kl_r, ab_kl_l, at_48_0, Go_aload_0, at_48_1, Go_getf, fl_3_41, gg_3_11, sh_ref, sh_rf, at_48_4, Go_iload_1, at_48_5, Go_iaload, sh_ln, q_in, q_cl, jt_48_6, q_le, q_lt, q_eq, n_leT, n_leF, n_ltT, n_ltF, n_eqF, n_b0, at_48_9, at_48_10, at_48_13, at_48_14, at_48_15, Go_iconst, kc_1, jt_48_16, at_48_19, jt_48_20, at_48_23, kc_0, at_48_24, Go_retb, Go_retb0, Go_retb1, Nat.reduceAdd, Nat.reduceMul, Nat.reduceLeDiff, Nat.reduceSub, not_true_eq_false, not_false_eq_true, ite_not, true_and, and_true, if_true, if_false, reduceIte, Bool.or_true, Bool.true_or, Bool.or_false, pr_0 hp, pf_11 hp, pr_16 hp, pn_16 hp, e8]
  by_cases c1 : A 10 n = 0
  · simp [c1]
  · by_cases c2 : A 10 n = 1
    · simp [c2]
    · have : ¬ A 10 n ≤ 1 := by omega
      simp [c1, c2, this]
/-- SUCCESSORS, as bits -/
def scs (A : Nat → Nat → Nat) (b : Nat) : Nat := if A 3 b = 2 then 0 else if A 3 b = 0 then 1 <<< A 4 b else 1 <<< A 4 b ||| 1 <<< A 5 b
theorem x_isSeenAtEnd (hp : isP p) (hb : WB A) (hr : WR A) (h : PC p I A) (hg : PG p I A) {n b : Nat} (hn : n < A 0 1) (hm : b < A 0 0) : Ex 56 [.ref p, .int (nI n), .int (nI b)] (SH, I, J) Q = Q (some (.int (nI (se A n b).toNat))) (SH, I, J) := by
  have hp2 := p_lt hp
  obtain ⟨r1, r2, r3, r4⟩ := hr
  obtain ⟨e0, e1, e2, e3, e4, e5, e6, e7, e8, e9, e10, e11, e12⟩ := h
  obtain ⟨g1, g2, g3⟩ := hg
  have a1 := (r4 n hn).2.1
  have a3 := (r3 b hm).2.2.2.2.2.2.1
  rw [en_56]
  simp (disch := first | omega | assumption | exact own_56 | exact rt_56 | exact q_lt1 (hb _ _) | exact bt_lt _ | fail) only [own_56, rt_56, ab_kl_n, ab_kl_i, ab_kl_r, ab_kl_l, at_56_0, Go_aload_0, at_56_1, Go_getf, fl_3_38, gg_3_10, sh_ref, sh_rf, at_56_4, Go_iload_2, at_56_5, Go_iaload, sh_ln, q_in, q_cl, at_56_6, at_56_7, fl_3_44, gg_3_12, at_56_10, Go_iload_1, at_56_11, at_56_12, cl_3_77, cat_n, cat_i, cat_r, cat_l, tl_i, tl_l, tl_n, sh_same, at_56_15, Go_retb, Go_retb0, Go_retb1, Nat.reduceAdd, Nat.reduceMul, Nat.reduceLeDiff, Nat.reduceSub, not_true_eq_false, not_false_eq_true, ite_not, true_and, and_true, if_true, if_false, reduceIte, Bool.or_true, Bool.true_or, Bool.or_false, pr_0 hp, pf_10 hp, pr_15 hp, pn_15 hp, g3, pf_12 hp, pr_17 hp, pn_17 hp, e9, x_hasBit]
  rfl
theorem x_isSeenByOperand (hp : isP p) (hb : WB A) (hr : WR A) (h : PC p I A) (hg : PG p I A) {m n i : Nat} (hn : n < A 0 1) (hm : m < A 0 1) (hi : i < A 12 n) : Ex 57 [.ref p, .int (nI m), .int (nI n), .int (nI i)] (SH, I, J) Q = Q (some (.int (nI (so A m n i).toNat))) (SH, I, J) := by
  have s1 := @x_isSeen I J
  have s2 := @x_isSeenAtEnd I J
  have hp0 := hp
  have hb0 := hb
  have hr0 := hr
  have h0 := h
  have hg0 := hg
  have hp2 := p_lt hp
  obtain ⟨r1, r2, r3, r4⟩ := hr
  obtain ⟨e0, e1, e2, e3, e4, e5, e6, e7, e8, e9, e10, e11, e12⟩ := h
  obtain ⟨g1, g2, g3⟩ := hg
  obtain ⟨-, a1, a2, -, -, -, -, a3, -⟩ := r4 n hn
  have q0 := r3 _ a1
  rw [en_57]
  unfold so
  by_cases c1 : A 10 n = 7
  · have a4 := a3 c1
    have q1 := q0.2.2.2.2.2.2.2 i (by omega)
    simp (disch := first | omega | assumption | exact own_57 | exact rt_57 | exact pr_0 (by assumption) | exact q_lt1 (hb _ _) | exact bt_lt _ | fail) only [own_57, rt_57, ab_kl_n, ab_kl_i, ab_kl_r, ab_kl_l, at_57_0, Go_aload_0, at_57_1, Go_getf, fl_3_41, gg_3_11, sh_ref, sh_rf, at_57_4, Go_iload_2, at_57_5, Go_iaload, sh_ln, q_in, q_cl, at_57_6, Go_bipush, kb_7, jt_57_8, q_le, q_lt, q_eq, n_leT, n_leF, n_ltT, n_ltF, n_eqF, n_b0, at_57_11, at_57_12, Go_iload_1, at_57_13, at_57_14, cl_3_93, cat_n, cat_i, cat_r, cat_l, tl_i, tl_l, tl_n, sh_same, at_57_17, Go_retb, Go_retb0, Go_retb1, at_57_18, at_57_19, fl_3_44, gg_3_12, at_57_22, at_57_23, at_57_24, Go_istore_4, ab_put_int_4, at_57_26, Go_iload_3, at_57_27, at_57_28, fl_3_30, gg_3_8, at_57_31, Go_iload_4, at_57_33, jt_57_34, at_57_37, at_57_38, at_57_39, at_57_40, fl_3_35, gg_3_9, at_57_43, at_57_45, Go_aaload, at_57_46, at_57_47, at_57_48, cl_3_96, jt_57_51, at_57_54, Go_iconst, kc_1, jt_57_55, at_57_58, kc_0, at_57_59, Nat.reduceAdd, Nat.reduceMul, Nat.reduceLeDiff, Nat.reduceSub, not_true_eq_false, not_false_eq_true, ite_not, true_and, and_true, if_true, if_false, reduceIte, Bool.or_true, Bool.true_or, Bool.or_false, pr_0 hp, pf_11 hp, pr_16 hp, pn_16 hp, e8, pf_12 hp, pr_17 hp, pn_17 hp, e9, pf_8 hp, pr_7 hp, pn_7 hp, g1, pf_9 hp, pr_8 hp, pn_8 hp, g2, prow hp, prow_r hp, prow_n hp, c1, s2 hp0 hb0 hr0 h0 hg0]
    cases se A m (A 8 (6 * A 11 n + i)) <;> rfl
  · simp (disch := first | omega | assumption | exact own_57 | exact rt_57 | exact pr_0 (by assumption) | exact q_lt1 (hb _ _) | exact bt_lt _ | fail) only [own_57, rt_57, ab_kl_n, ab_kl_i, ab_kl_r, ab_kl_l, at_57_0, Go_aload_0, at_57_1, Go_getf, fl_3_41, gg_3_11, sh_ref, sh_rf, at_57_4, Go_iload_2, at_57_5, Go_iaload, sh_ln, q_in, q_cl, at_57_6, Go_bipush, kb_7, jt_57_8, q_le, q_lt, q_eq, n_leT, n_leF, n_ltT, n_ltF, n_eqF, n_b0, at_57_11, at_57_12, Go_iload_1, at_57_13, at_57_14, cl_3_93, cat_n, cat_i, cat_r, cat_l, tl_i, tl_l, tl_n, sh_same, at_57_17, Go_retb, Go_retb0, Go_retb1, at_57_18, at_57_19, fl_3_44, gg_3_12, at_57_22, at_57_23, at_57_24, Go_istore_4, ab_put_int_4, at_57_26, Go_iload_3, at_57_27, at_57_28, fl_3_30, gg_3_8, at_57_31, Go_iload_4, at_57_33, jt_57_34, at_57_37, at_57_38, at_57_39, at_57_40, fl_3_35, gg_3_9, at_57_43, at_57_45, Go_aaload, at_57_46, at_57_47, at_57_48, cl_3_96, jt_57_51, at_57_54, Go_iconst, kc_1, jt_57_55, at_57_58, kc_0, at_57_59, Nat.reduceAdd, Nat.reduceMul, Nat.reduceLeDiff, Nat.reduceSub, not_true_eq_false, not_false_eq_true, ite_not, true_and, and_true, if_true, if_false, reduceIte, Bool.or_true, Bool.true_or, Bool.or_false, pr_0 hp, pf_11 hp, pr_16 hp, pn_16 hp, e8, pf_12 hp, pr_17 hp, pn_17 hp, e9, pf_8 hp, pr_7 hp, pn_7 hp, g1, pf_9 hp, pr_8 hp, pn_8 hp, g2, prow hp, prow_r hp, prow_n hp, c1, s1 hp0 hb0 hr0 h0 hg0]
theorem x_looksBehind (hp : isP p) (hb : WB A) (hr : WR A) (h : PC p I A) (hg : PG p I A) {n : Nat} (hn : n < A 0 1) : Ex 60 [.ref p, .int (nI n)] (SH, I, J) Q = Q (some (.int (nI (ay (fun i => decide (n ≤ A 14 (6 * n + i))) (A 12 n)).toNat))) (SH, I, J) := by
  have hp2 := p_lt hp
  obtain ⟨r1, r2, r3, r4⟩ := hr
  obtain ⟨e0, e1, e2, e3, e4, e5, e6, e7, e8, e9, e10, e11, e12⟩ := h
  obtain ⟨g1, g2, g3⟩ := hg
  obtain ⟨-, -, a2, -, -, -, -, -, -, -, a5⟩ := r4 n hn
  rw [en_60]
  by_cases hq : ay (fun i => decide (n ≤ A 14 (6 * n + i))) (A 12 n) = true
  · rw [hq]
    obtain ⟨k, k1, k2⟩ := (ay_iff _ _).mp hq
    simp only [decide_eq_true_eq] at k2
    generalize hR : Q (some (.int (nI true.toNat))) (SH, I, J) = R
    simp (disch := first | omega | assumption | exact own_60 | exact rt_60 | exact q_lt1 (hb _ _) | exact bt_lt _ | fail) only [own_60, rt_60, ab_kl_n, ab_kl_i, ab_kl_r, ab_kl_l, at_60_0, Go_iconst, kc_0, at_60_1, Go_istore_2, ab_put_int_2, Go_iload_2, at_60_3, Go_aload_0, at_60_4, Go_getf, fl_3_47, gg_3_13, sh_ref, sh_rf, at_60_7, Go_iload_1, at_60_8, Go_iaload, sh_ln, q_in, q_cl, jt_60_9, q_le, q_lt, q_eq, n_leT, n_leF, n_ltT, n_ltF, n_eqF, n_b0, at_60_12, at_60_13, fl_3_53, gg_3_15, at_60_16, at_60_17, Go_aaload, at_60_18, at_60_19, at_60_20, jt_60_21, at_60_24, kc_1, at_60_25, Go_retb, Go_retb0, Go_retb1, at_60_26, Go_iinc_2, q_add, jt_60_29, at_60_32, at_60_33, Nat.reduceAdd, Nat.reduceMul, Nat.reduceLeDiff, Nat.reduceSub, not_true_eq_false, not_false_eq_true, ite_not, true_and, and_true, if_true, if_false, reduceIte, Bool.or_true, Bool.true_or, Bool.or_false, pr_0 hp, pf_13 hp, pr_18 hp, pn_18 hp, e10, pf_15 hp, pr_20 hp, pn_20 hp, e12, orow hp, orow_r hp, orow_n hp]
    suffices hs : ∀ d i, i + d = k → Go (ab_at 60 2) 60 2 [some (.ref p), some (.int (nI (n))), some (.int (nI (i)))] []  (SH, I, J) Q = R from hs k 0 (by omega)
    intro d
    induction d with
    | zero =>
      intro i hi
      refine Eq.trans (show Go (ab_at 60 2) 60 2 _ _ _ _ = Go (some (.iload_n 2, 1)) 60 2 _ _ _ _ from by rw [at_60_2]) ?_
      have := a5 i (by omega)
      rw [← hi] at k2
      simp (disch := first | omega | assumption | exact own_60 | exact rt_60 | exact q_lt1 (hb _ _) | exact bt_lt _ | fail) only [own_60, rt_60, ab_kl_n, ab_kl_i, ab_kl_r, ab_kl_l, at_60_0, Go_iconst, kc_0, at_60_1, Go_istore_2, ab_put_int_2, Go_iload_2, at_60_3, Go_aload_0, at_60_4, Go_getf, fl_3_47, gg_3_13, sh_ref, sh_rf, at_60_7, Go_iload_1, at_60_8, Go_iaload, sh_ln, q_in, q_cl, jt_60_9, q_le, q_lt, q_eq, n_leT, n_leF, n_ltT, n_ltF, n_eqF, n_b0, at_60_12, at_60_13, fl_3_53, gg_3_15, at_60_16, at_60_17, Go_aaload, at_60_18, at_60_19, at_60_20, jt_60_21, at_60_24, kc_1, at_60_25, Go_retb, Go_retb0, Go_retb1, at_60_26, Go_iinc_2, q_add, jt_60_29, at_60_32, at_60_33, Nat.reduceAdd, Nat.reduceMul, Nat.reduceLeDiff, Nat.reduceSub, not_true_eq_false, not_false_eq_true, ite_not, true_and, and_true, if_true, if_false, reduceIte, Bool.or_true, Bool.true_or, Bool.or_false, pr_0 hp, pf_13 hp, pr_18 hp, pn_18 hp, e10, pf_15 hp, pr_20 hp, pn_20 hp, e12, orow hp, orow_r hp, orow_n hp]
      exact hR
    | succ d ih =>
      intro i hi
      refine Eq.trans (show Go (ab_at 60 2) 60 2 _ _ _ _ = Go (some (.iload_n 2, 1)) 60 2 _ _ _ _ from by rw [at_60_2]) ?_
      have := a5 i (by omega)
      simp (disch := first | omega | assumption | exact own_60 | exact rt_60 | exact q_lt1 (hb _ _) | exact bt_lt _ | fail) only [own_60, rt_60, ab_kl_n, ab_kl_i, ab_kl_r, ab_kl_l, at_60_0, Go_iconst, kc_0, at_60_1, Go_istore_2, ab_put_int_2, Go_iload_2, at_60_3, Go_aload_0, at_60_4, Go_getf, fl_3_47, gg_3_13, sh_ref, sh_rf, at_60_7, Go_iload_1, at_60_8, Go_iaload, sh_ln, q_in, q_cl, jt_60_9, q_le, q_lt, q_eq, n_leT, n_leF, n_ltT, n_ltF, n_eqF, n_b0, at_60_12, at_60_13, fl_3_53, gg_3_15, at_60_16, at_60_17, Go_aaload, at_60_18, at_60_19, at_60_20, jt_60_21, at_60_24, kc_1, at_60_25, Go_retb, Go_retb0, Go_retb1, at_60_26, Go_iinc_2, q_add, jt_60_29, at_60_32, at_60_33, Nat.reduceAdd, Nat.reduceMul, Nat.reduceLeDiff, Nat.reduceSub, not_true_eq_false, not_false_eq_true, ite_not, true_and, and_true, if_true, if_false, reduceIte, Bool.or_true, Bool.true_or, Bool.or_false, pr_0 hp, pf_13 hp, pr_18 hp, pn_18 hp, e10, pf_15 hp, pr_20 hp, pn_20 hp, e12, orow hp, orow_r hp, orow_n hp]
      by_cases c : n ≤ A 14 (6 * n + i)
      · rw [if_neg (by omega)]; exact hR
      · rw [if_pos (by omega)]; exact ih (i + 1) (by omega)
  · have hq2 : ay (fun i => decide (n ≤ A 14 (6 * n + i))) (A 12 n) = false := by simpa using hq
    rw [hq2]
    have hk : ∀ i, i < A 12 n → A 14 (6 * n + i) < n := by
      intro i hi
      rcases Nat.lt_or_ge (A 14 (6 * n + i)) n with z | z
      · exact z
      · exact absurd ((ay_iff _ _).mpr ⟨i, hi, by simpa using z⟩) hq
    simp (disch := first | omega | assumption | exact own_60 | exact rt_60 | exact q_lt1 (hb _ _) | exact bt_lt _ | fail) only [own_60, rt_60, ab_kl_n, ab_kl_i, ab_kl_r, ab_kl_l, at_60_0, Go_iconst, kc_0, at_60_1, Go_istore_2, ab_put_int_2, Go_iload_2, at_60_3, Go_aload_0, at_60_4, Go_getf, fl_3_47, gg_3_13, sh_ref, sh_rf, at_60_7, Go_iload_1, at_60_8, Go_iaload, sh_ln, q_in, q_cl, jt_60_9, q_le, q_lt, q_eq, n_leT, n_leF, n_ltT, n_ltF, n_eqF, n_b0, at_60_12, at_60_13, fl_3_53, gg_3_15, at_60_16, at_60_17, Go_aaload, at_60_18, at_60_19, at_60_20, jt_60_21, at_60_24, kc_1, at_60_25, Go_retb, Go_retb0, Go_retb1, at_60_26, Go_iinc_2, q_add, jt_60_29, at_60_32, at_60_33, Nat.reduceAdd, Nat.reduceMul, Nat.reduceLeDiff, Nat.reduceSub, not_true_eq_false, not_false_eq_true, ite_not, true_and, and_true, if_true, if_false, reduceIte, Bool.or_true, Bool.true_or, Bool.or_false, pr_0 hp, pf_13 hp, pr_18 hp, pn_18 hp, e10, pf_15 hp, pr_20 hp, pn_20 hp, e12, orow hp, orow_r hp, orow_n hp]
    refine lp_eq (N := A 12 n) (fun i => Go (ab_at 60 2) 60 2 [some (.ref p), some (.int (nI (n))), some (.int (nI (i)))] [] (SH, I, J) Q) ?_ (fun i hi => ?_)
    · refine Eq.trans (show Go (ab_at 60 2) 60 2 _ _ _ _ = Go (some (.iload_n 2, 1)) 60 2 _ _ _ _ from by rw [at_60_2]) ?_
      simp (disch := first | omega | assumption | exact own_60 | exact rt_60 | exact q_lt1 (hb _ _) | exact bt_lt _ | fail) only [own_60, rt_60, ab_kl_n, ab_kl_i, ab_kl_r, ab_kl_l, at_60_0, Go_iconst, kc_0, at_60_1, Go_istore_2, ab_put_int_2, Go_iload_2, at_60_3, Go_aload_0, at_60_4, Go_getf, fl_3_47, gg_3_13, sh_ref, sh_rf, at_60_7, Go_iload_1, at_60_8, Go_iaload, sh_ln, q_in, q_cl, jt_60_9, q_le, q_lt, q_eq, n_leT, n_leF, n_ltT, n_ltF, n_eqF, n_b0, at_60_12, at_60_13, fl_3_53, gg_3_15, at_60_16, at_60_17, Go_aaload, at_60_18, at_60_19, at_60_20, jt_60_21, at_60_24, kc_1, at_60_25, Go_retb, Go_retb0, Go_retb1, at_60_26, Go_iinc_2, q_add, jt_60_29, at_60_32, at_60_33, Nat.reduceAdd, Nat.reduceMul, Nat.reduceLeDiff, Nat.reduceSub, not_true_eq_false, not_false_eq_true, ite_not, true_and, and_true, if_true, if_false, reduceIte, Bool.or_true, Bool.true_or, Bool.or_false, pr_0 hp, pf_13 hp, pr_18 hp, pn_18 hp, e10, pf_15 hp, pr_20 hp, pn_20 hp, e12, orow hp, orow_r hp, orow_n hp]
      rfl
    · refine Eq.trans (show Go (ab_at 60 2) 60 2 _ _ _ _ = Go (some (.iload_n 2, 1)) 60 2 _ _ _ _ from by rw [at_60_2]) ?_
      have := a5 i hi
      have := hk i hi
      simp (disch := first | omega | assumption | exact own_60 | exact rt_60 | exact q_lt1 (hb _ _) | exact bt_lt _ | fail) only [own_60, rt_60, ab_kl_n, ab_kl_i, ab_kl_r, ab_kl_l, at_60_0, Go_iconst, kc_0, at_60_1, Go_istore_2, ab_put_int_2, Go_iload_2, at_60_3, Go_aload_0, at_60_4, Go_getf, fl_3_47, gg_3_13, sh_ref, sh_rf, at_60_7, Go_iload_1, at_60_8, Go_iaload, sh_ln, q_in, q_cl, jt_60_9, q_le, q_lt, q_eq, n_leT, n_leF, n_ltT, n_ltF, n_eqF, n_b0, at_60_12, at_60_13, fl_3_53, gg_3_15, at_60_16, at_60_17, Go_aaload, at_60_18, at_60_19, at_60_20, jt_60_21, at_60_24, kc_1, at_60_25, Go_retb, Go_retb0, Go_retb1, at_60_26, Go_iinc_2, q_add, jt_60_29, at_60_32, at_60_33, Nat.reduceAdd, Nat.reduceMul, Nat.reduceLeDiff, Nat.reduceSub, not_true_eq_false, not_false_eq_true, ite_not, true_and, and_true, if_true, if_false, reduceIte, Bool.or_true, Bool.true_or, Bool.or_false, pr_0 hp, pf_13 hp, pr_18 hp, pn_18 hp, e10, pf_15 hp, pr_20 hp, pn_20 hp, e12, orow hp, orow_r hp, orow_n hp]
theorem x_countOperands (hp : isP p) (hb : WB A) (hr : WR A) (h : PC p I A) (hg : PG p I A) : Ex 62 [.ref p] (SH, I, J) Q = Q (some (.int (nI (sm (fun n => A 12 n) (A 0 1) + cn (fun b => decide (¬ A 3 b = 0)) (A 0 0))))) (SH, I, J) := by
  have hp2 := p_lt hp
  obtain ⟨r1, r2, r3, r4⟩ := hr
  obtain ⟨e0, e1, e2, e3, e4, e5, e6, e7, e8, e9, e10, e11, e12⟩ := h
  obtain ⟨g1, g2, g3⟩ := hg
  rw [en_62]
  simp (disch := first | omega | assumption | exact own_62 | exact rt_62 | exact q_lt1 (hb _ _) | exact bt_lt _ | fail) only [own_62, rt_62, ab_kl_n, ab_kl_i, ab_kl_r, ab_kl_l, at_62_0, Go_iconst, kc_0, at_62_1, Go_istore_1, ab_put_int_1, at_62_2, at_62_3, Go_istore_2, ab_put_int_2, Go_iload_2, at_62_5, Go_aload_0, at_62_6, Go_getf, fl_3_64, gg_3_1, sh_ref, sh_rf, jt_62_9, q_le, q_lt, q_eq, n_leT, n_leF, n_ltT, n_ltF, n_eqF, n_b0, at_62_12, Go_iload_1, at_62_13, at_62_14, fl_3_47, gg_3_13, at_62_17, at_62_18, Go_iaload, sh_ln, q_in, q_cl, at_62_19, Go_iadd, q_add, Nat.zero_add, at_62_20, at_62_21, Go_iinc_2, kc_1, jt_62_24, at_62_27, at_62_28, at_62_30, at_62_31, fl_3_60, gg_3_0, jt_62_34, at_62_37, at_62_38, fl_3_18, gg_3_4, at_62_41, at_62_42, jt_62_43, at_62_46, Go_iinc_1, at_62_49, jt_62_52, at_62_55, at_62_56, Go_reti, Nat.reduceAdd, Nat.reduceMul, Nat.reduceLeDiff, Nat.reduceSub, not_true_eq_false, not_false_eq_true, ite_not, true_and, and_true, if_true, if_false, reduceIte, Bool.or_true, Bool.true_or, Bool.or_false, pr_0 hp, e1, pf_13 hp, pr_18 hp, pn_18 hp, e10, e0, pf_4 hp, pr_3 hp, pn_3 hp, e4]
  refine lp_eq (N := A 0 1) (fun i => Go (ab_at 62 4) 62 4 [some (.ref p), some (.int (nI (sm (fun n => A 12 n) i))), some (.int (nI (i)))] [] (SH, I, J) Q) ?_ (fun i hi => ?_)
  · refine Eq.trans (show Go (ab_at 62 4) 62 4 _ _ _ _ = Go (some (.iload_n 2, 1)) 62 4 _ _ _ _ from by rw [at_62_4]) ?_
    simp (disch := first | omega | assumption | exact own_62 | exact rt_62 | exact q_lt1 (hb _ _) | exact bt_lt _ | fail) only [own_62, rt_62, ab_kl_n, ab_kl_i, ab_kl_r, ab_kl_l, at_62_0, Go_iconst, kc_0, at_62_1, Go_istore_1, ab_put_int_1, at_62_2, at_62_3, Go_istore_2, ab_put_int_2, Go_iload_2, at_62_5, Go_aload_0, at_62_6, Go_getf, fl_3_64, gg_3_1, sh_ref, sh_rf, jt_62_9, q_le, q_lt, q_eq, n_leT, n_leF, n_ltT, n_ltF, n_eqF, n_b0, at_62_12, Go_iload_1, at_62_13, at_62_14, fl_3_47, gg_3_13, at_62_17, at_62_18, Go_iaload, sh_ln, q_in, q_cl, at_62_19, Go_iadd, q_add, Nat.zero_add, at_62_20, at_62_21, Go_iinc_2, kc_1, jt_62_24, at_62_27, at_62_28, at_62_30, at_62_31, fl_3_60, gg_3_0, jt_62_34, at_62_37, at_62_38, fl_3_18, gg_3_4, at_62_41, at_62_42, jt_62_43, at_62_46, Go_iinc_1, at_62_49, jt_62_52, at_62_55, at_62_56, Go_reti, Nat.reduceAdd, Nat.reduceMul, Nat.reduceLeDiff, Nat.reduceSub, not_true_eq_false, not_false_eq_true, ite_not, true_and, and_true, if_true, if_false, reduceIte, Bool.or_true, Bool.true_or, Bool.or_false, pr_0 hp, e1, pf_13 hp, pr_18 hp, pn_18 hp, e10, e0, pf_4 hp, pr_3 hp, pn_3 hp, e4]
    refine lp_eq (N := A 0 0) (fun i => Go (ab_at 62 29) 62 29 [some (.ref p), some (.int (nI (sm (fun n => A 12 n) (A 0 1) + cn (fun b => decide (¬ A 3 b = 0)) i))), some (.int (nI (i)))] [] (SH, I, J) Q) ?_ (fun i hi => ?_)
    · refine Eq.trans (show Go (ab_at 62 29) 62 29 _ _ _ _ = Go (some (.iload_n 2, 1)) 62 29 _ _ _ _ from by rw [at_62_29]) ?_
      simp (disch := first | omega | assumption | exact own_62 | exact rt_62 | exact q_lt1 (hb _ _) | exact bt_lt _ | fail) only [own_62, rt_62, ab_kl_n, ab_kl_i, ab_kl_r, ab_kl_l, at_62_0, Go_iconst, kc_0, at_62_1, Go_istore_1, ab_put_int_1, at_62_2, at_62_3, Go_istore_2, ab_put_int_2, Go_iload_2, at_62_5, Go_aload_0, at_62_6, Go_getf, fl_3_64, gg_3_1, sh_ref, sh_rf, jt_62_9, q_le, q_lt, q_eq, n_leT, n_leF, n_ltT, n_ltF, n_eqF, n_b0, at_62_12, Go_iload_1, at_62_13, at_62_14, fl_3_47, gg_3_13, at_62_17, at_62_18, Go_iaload, sh_ln, q_in, q_cl, at_62_19, Go_iadd, q_add, Nat.zero_add, at_62_20, at_62_21, Go_iinc_2, kc_1, jt_62_24, at_62_27, at_62_28, at_62_30, at_62_31, fl_3_60, gg_3_0, jt_62_34, at_62_37, at_62_38, fl_3_18, gg_3_4, at_62_41, at_62_42, jt_62_43, at_62_46, Go_iinc_1, at_62_49, jt_62_52, at_62_55, at_62_56, Go_reti, Nat.reduceAdd, Nat.reduceMul, Nat.reduceLeDiff, Nat.reduceSub, not_true_eq_false, not_false_eq_true, ite_not, true_and, and_true, if_true, if_false, reduceIte, Bool.or_true, Bool.true_or, Bool.or_false, pr_0 hp, e1, pf_13 hp, pr_18 hp, pn_18 hp, e10, e0, pf_4 hp, pr_3 hp, pn_3 hp, e4]
    · refine Eq.trans (show Go (ab_at 62 29) 62 29 _ _ _ _ = Go (some (.iload_n 2, 1)) 62 29 _ _ _ _ from by rw [at_62_29]) ?_
      simp (disch := first | omega | assumption | exact own_62 | exact rt_62 | exact q_lt1 (hb _ _) | exact bt_lt _ | fail) only [own_62, rt_62, ab_kl_n, ab_kl_i, ab_kl_r, ab_kl_l, at_62_0, Go_iconst, kc_0, at_62_1, Go_istore_1, ab_put_int_1, at_62_2, at_62_3, Go_istore_2, ab_put_int_2, Go_iload_2, at_62_5, Go_aload_0, at_62_6, Go_getf, fl_3_64, gg_3_1, sh_ref, sh_rf, jt_62_9, q_le, q_lt, q_eq, n_leT, n_leF, n_ltT, n_ltF, n_eqF, n_b0, at_62_12, Go_iload_1, at_62_13, at_62_14, fl_3_47, gg_3_13, at_62_17, at_62_18, Go_iaload, sh_ln, q_in, q_cl, at_62_19, Go_iadd, q_add, Nat.zero_add, at_62_20, at_62_21, Go_iinc_2, kc_1, jt_62_24, at_62_27, at_62_28, at_62_30, at_62_31, fl_3_60, gg_3_0, jt_62_34, at_62_37, at_62_38, fl_3_18, gg_3_4, at_62_41, at_62_42, jt_62_43, at_62_46, Go_iinc_1, at_62_49, jt_62_52, at_62_55, at_62_56, Go_reti, Nat.reduceAdd, Nat.reduceMul, Nat.reduceLeDiff, Nat.reduceSub, not_true_eq_false, not_false_eq_true, ite_not, true_and, and_true, if_true, if_false, reduceIte, Bool.or_true, Bool.true_or, Bool.or_false, pr_0 hp, e1, pf_13 hp, pr_18 hp, pn_18 hp, e10, e0, pf_4 hp, pr_3 hp, pn_3 hp, e4]
      by_cases c : A 3 i = 0 <;> simp [c, cn, Nat.add_assoc]
  · refine Eq.trans (show Go (ab_at 62 4) 62 4 _ _ _ _ = Go (some (.iload_n 2, 1)) 62 4 _ _ _ _ from by rw [at_62_4]) ?_
    simp (disch := first | omega | assumption | exact own_62 | exact rt_62 | exact q_lt1 (hb _ _) | exact bt_lt _ | fail) only [own_62, rt_62, ab_kl_n, ab_kl_i, ab_kl_r, ab_kl_l, at_62_0, Go_iconst, kc_0, at_62_1, Go_istore_1, ab_put_int_1, at_62_2, at_62_3, Go_istore_2, ab_put_int_2, Go_iload_2, at_62_5, Go_aload_0, at_62_6, Go_getf, fl_3_64, gg_3_1, sh_ref, sh_rf, jt_62_9, q_le, q_lt, q_eq, n_leT, n_leF, n_ltT, n_ltF, n_eqF, n_b0, at_62_12, Go_iload_1, at_62_13, at_62_14, fl_3_47, gg_3_13, at_62_17, at_62_18, Go_iaload, sh_ln, q_in, q_cl, at_62_19, Go_iadd, q_add, Nat.zero_add, at_62_20, at_62_21, Go_iinc_2, kc_1, jt_62_24, at_62_27, at_62_28, at_62_30, at_62_31, fl_3_60, gg_3_0, jt_62_34, at_62_37, at_62_38, fl_3_18, gg_3_4, at_62_41, at_62_42, jt_62_43, at_62_46, Go_iinc_1, at_62_49, jt_62_52, at_62_55, at_62_56, Go_reti, Nat.reduceAdd, Nat.reduceMul, Nat.reduceLeDiff, Nat.reduceSub, not_true_eq_false, not_false_eq_true, ite_not, true_and, and_true, if_true, if_false, reduceIte, Bool.or_true, Bool.true_or, Bool.or_false, pr_0 hp, e1, pf_13 hp, pr_18 hp, pn_18 hp, e10, e0, pf_4 hp, pr_3 hp, pn_3 hp, e4]
    rfl
theorem x_countUses (hp : isP p) (hb : WB A) (hr : WR A) (h : PC p I A) (hg : PG p I A) {u : Nat} (hu : u < A 0 1) : Ex 63 [.ref p, .int (nI u)] (SH, I, J) Q = Q (some (.int (nI (sm (fun n => cn (fun i => decide (A 14 (6 * n + i) = u)) (A 12 n)) (A 0 1) + cn (fun b => decide (¬ A 3 b = 0 ∧ A 6 b = u)) (A 0 0))))) (SH, I, J) := by
  have hp2 := p_lt hp
  obtain ⟨r1, r2, r3, r4⟩ := hr
  obtain ⟨e0, e1, e2, e3, e4, e5, e6, e7, e8, e9, e10, e11, e12⟩ := h
  obtain ⟨g1, g2, g3⟩ := hg
  generalize hR : Q (some (.int (nI (sm (fun n => cn (fun i => decide (A 14 (6 * n + i) = u)) (A 12 n)) (A 0 1) + cn (fun b => decide (¬ A 3 b = 0 ∧ A 6 b = u)) (A 0 0))))) (SH, I, J) = R
  rw [en_63]
  simp (disch := first | omega | assumption | exact own_63 | exact rt_63 | exact q_lt1 (hb _ _) | exact bt_lt _ | fail) only [own_63, rt_63, ab_kl_n, ab_kl_i, ab_kl_r, ab_kl_l, at_63_0, Go_iconst, kc_0, at_63_1, Go_istore_2, ab_put_int_2, at_63_2, at_63_3, Go_istore_3, ab_put_int_3, Go_iload_3, at_63_5, Go_aload_0, at_63_6, Go_getf, fl_3_64, gg_3_1, sh_ref, sh_rf, jt_63_9, q_le, q_lt, q_eq, n_leT, n_leF, n_ltT, n_ltF, n_eqF, n_b0, at_63_12, at_63_13, Go_istore_4, ab_put_int_4, Go_iload_4, at_63_17, at_63_18, fl_3_47, gg_3_13, at_63_21, at_63_22, Go_iaload, sh_ln, q_in, q_cl, jt_63_23, at_63_26, at_63_27, fl_3_53, gg_3_15, at_63_30, at_63_31, Go_aaload, at_63_32, at_63_34, at_63_35, Go_iload_1, jt_63_36, at_63_39, Go_iinc_2, kc_1, q_add, at_63_42, Go_iinc_4, jt_63_45, at_63_48, Go_iinc_3, jt_63_51, at_63_54, at_63_55, at_63_57, at_63_58, fl_3_60, gg_3_0, jt_63_61, at_63_64, at_63_65, fl_3_18, gg_3_4, at_63_68, at_63_69, jt_63_70, at_63_73, at_63_74, fl_3_27, gg_3_7, at_63_77, at_63_78, at_63_79, jt_63_80, at_63_83, at_63_86, jt_63_89, at_63_92, Go_iload_2, at_63_93, Go_reti, Nat.reduceAdd, Nat.reduceMul, Nat.reduceLeDiff, Nat.reduceSub, not_true_eq_false, not_false_eq_true, ite_not, true_and, and_true, if_true, if_false, reduceIte, Bool.or_true, Bool.true_or, Bool.or_false, pr_0 hp, e1, pf_13 hp, pr_18 hp, pn_18 hp, e10, pf_15 hp, pr_20 hp, pn_20 hp, e12, orow hp, orow_r hp, orow_n hp, e0, pf_4 hp, pr_3 hp, pn_3 hp, e4, pf_7 hp, pr_6 hp, pn_6 hp, e7]
  refine lp_wp (a := 0) (N := A 0 1) (by omega) (fun i => ∀ v1 : Option Value, Go (ab_at 63 4) 63 4 [some (.ref p), some (.int (nI (u))), some (.int (nI (sm (fun n => cn (fun i => decide (A 14 (6 * n + i) = u)) (A 12 n)) i))), some (.int (nI (i))), v1] [] (SH, I, J) Q = R) (fun v1 => ?_) (fun i hai hi ih v1 => ?_) none
  · refine Eq.trans (show Go (ab_at 63 4) 63 4 _ _ _ _ = Go (some (.iload_n 3, 1)) 63 4 _ _ _ _ from by rw [at_63_4]) ?_
    simp (disch := first | omega | assumption | exact own_63 | exact rt_63 | exact q_lt1 (hb _ _) | exact bt_lt _ | fail) only [own_63, rt_63, ab_kl_n, ab_kl_i, ab_kl_r, ab_kl_l, at_63_0, Go_iconst, kc_0, at_63_1, Go_istore_2, ab_put_int_2, at_63_2, at_63_3, Go_istore_3, ab_put_int_3, Go_iload_3, at_63_5, Go_aload_0, at_63_6, Go_getf, fl_3_64, gg_3_1, sh_ref, sh_rf, jt_63_9, q_le, q_lt, q_eq, n_leT, n_leF, n_ltT, n_ltF, n_eqF, n_b0, at_63_12, at_63_13, Go_istore_4, ab_put_int_4, Go_iload_4, at_63_17, at_63_18, fl_3_47, gg_3_13, at_63_21, at_63_22, Go_iaload, sh_ln, q_in, q_cl, jt_63_23, at_63_26, at_63_27, fl_3_53, gg_3_15, at_63_30, at_63_31, Go_aaload, at_63_32, at_63_34, at_63_35, Go_iload_1, jt_63_36, at_63_39, Go_iinc_2, kc_1, q_add, at_63_42, Go_iinc_4, jt_63_45, at_63_48, Go_iinc_3, jt_63_51, at_63_54, at_63_55, at_63_57, at_63_58, fl_3_60, gg_3_0, jt_63_61, at_63_64, at_63_65, fl_3_18, gg_3_4, at_63_68, at_63_69, jt_63_70, at_63_73, at_63_74, fl_3_27, gg_3_7, at_63_77, at_63_78, at_63_79, jt_63_80, at_63_83, at_63_86, jt_63_89, at_63_92, Go_iload_2, at_63_93, Go_reti, Nat.reduceAdd, Nat.reduceMul, Nat.reduceLeDiff, Nat.reduceSub, not_true_eq_false, not_false_eq_true, ite_not, true_and, and_true, if_true, if_false, reduceIte, Bool.or_true, Bool.true_or, Bool.or_false, pr_0 hp, e1, pf_13 hp, pr_18 hp, pn_18 hp, e10, pf_15 hp, pr_20 hp, pn_20 hp, e12, orow hp, orow_r hp, orow_n hp, e0, pf_4 hp, pr_3 hp, pn_3 hp, e4, pf_7 hp, pr_6 hp, pn_6 hp, e7]
    refine lp_wp (a := 0) (N := A 0 0) (by omega) (fun i => ∀ v1 : Option Value, Go (ab_at 63 56) 63 56 [some (.ref p), some (.int (nI (u))), some (.int (nI (sm (fun n => cn (fun i => decide (A 14 (6 * n + i) = u)) (A 12 n)) (A 0 1) + cn (fun b => decide (¬ A 3 b = 0 ∧ A 6 b = u)) i))), some (.int (nI (i))), v1] [] (SH, I, J) Q = R) (fun v1 => ?_) (fun i hai hi ih v1 => ?_) v1
    · refine Eq.trans (show Go (ab_at 63 56) 63 56 _ _ _ _ = Go (some (.iload_n 3, 1)) 63 56 _ _ _ _ from by rw [at_63_56]) ?_
      simp (disch := first | omega | assumption | exact own_63 | exact rt_63 | exact q_lt1 (hb _ _) | exact bt_lt _ | fail) only [own_63, rt_63, ab_kl_n, ab_kl_i, ab_kl_r, ab_kl_l, at_63_0, Go_iconst, kc_0, at_63_1, Go_istore_2, ab_put_int_2, at_63_2, at_63_3, Go_istore_3, ab_put_int_3, Go_iload_3, at_63_5, Go_aload_0, at_63_6, Go_getf, fl_3_64, gg_3_1, sh_ref, sh_rf, jt_63_9, q_le, q_lt, q_eq, n_leT, n_leF, n_ltT, n_ltF, n_eqF, n_b0, at_63_12, at_63_13, Go_istore_4, ab_put_int_4, Go_iload_4, at_63_17, at_63_18, fl_3_47, gg_3_13, at_63_21, at_63_22, Go_iaload, sh_ln, q_in, q_cl, jt_63_23, at_63_26, at_63_27, fl_3_53, gg_3_15, at_63_30, at_63_31, Go_aaload, at_63_32, at_63_34, at_63_35, Go_iload_1, jt_63_36, at_63_39, Go_iinc_2, kc_1, q_add, at_63_42, Go_iinc_4, jt_63_45, at_63_48, Go_iinc_3, jt_63_51, at_63_54, at_63_55, at_63_57, at_63_58, fl_3_60, gg_3_0, jt_63_61, at_63_64, at_63_65, fl_3_18, gg_3_4, at_63_68, at_63_69, jt_63_70, at_63_73, at_63_74, fl_3_27, gg_3_7, at_63_77, at_63_78, at_63_79, jt_63_80, at_63_83, at_63_86, jt_63_89, at_63_92, Go_iload_2, at_63_93, Go_reti, Nat.reduceAdd, Nat.reduceMul, Nat.reduceLeDiff, Nat.reduceSub, not_true_eq_false, not_false_eq_true, ite_not, true_and, and_true, if_true, if_false, reduceIte, Bool.or_true, Bool.true_or, Bool.or_false, pr_0 hp, e1, pf_13 hp, pr_18 hp, pn_18 hp, e10, pf_15 hp, pr_20 hp, pn_20 hp, e12, orow hp, orow_r hp, orow_n hp, e0, pf_4 hp, pr_3 hp, pn_3 hp, e4, pf_7 hp, pr_6 hp, pn_6 hp, e7]
      exact hR
    · refine Eq.trans (show Go (ab_at 63 56) 63 56 _ _ _ _ = Go (some (.iload_n 3, 1)) 63 56 _ _ _ _ from by rw [at_63_56]) ?_
      by_cases c : A 3 i = 0
      · simp (disch := first | omega | assumption | exact own_63 | exact rt_63 | exact q_lt1 (hb _ _) | exact bt_lt _ | fail) only [own_63, rt_63, ab_kl_n, ab_kl_i, ab_kl_r, ab_kl_l, at_63_0, Go_iconst, kc_0, at_63_1, Go_istore_2, ab_put_int_2, at_63_2, at_63_3, Go_istore_3, ab_put_int_3, Go_iload_3, at_63_5, Go_aload_0, at_63_6, Go_getf, fl_3_64, gg_3_1, sh_ref, sh_rf, jt_63_9, q_le, q_lt, q_eq, n_leT, n_leF, n_ltT, n_ltF, n_eqF, n_b0, at_63_12, at_63_13, Go_istore_4, ab_put_int_4, Go_iload_4, at_63_17, at_63_18, fl_3_47, gg_3_13, at_63_21, at_63_22, Go_iaload, sh_ln, q_in, q_cl, jt_63_23, at_63_26, at_63_27, fl_3_53, gg_3_15, at_63_30, at_63_31, Go_aaload, at_63_32, at_63_34, at_63_35, Go_iload_1, jt_63_36, at_63_39, Go_iinc_2, kc_1, q_add, at_63_42, Go_iinc_4, jt_63_45, at_63_48, Go_iinc_3, jt_63_51, at_63_54, at_63_55, at_63_57, at_63_58, fl_3_60, gg_3_0, jt_63_61, at_63_64, at_63_65, fl_3_18, gg_3_4, at_63_68, at_63_69, jt_63_70, at_63_73, at_63_74, fl_3_27, gg_3_7, at_63_77, at_63_78, at_63_79, jt_63_80, at_63_83, at_63_86, jt_63_89, at_63_92, Go_iload_2, at_63_93, Go_reti, Nat.reduceAdd, Nat.reduceMul, Nat.reduceLeDiff, Nat.reduceSub, not_true_eq_false, not_false_eq_true, ite_not, true_and, and_true, if_true, if_false, reduceIte, Bool.or_true, Bool.true_or, Bool.or_false, pr_0 hp, e1, pf_13 hp, pr_18 hp, pn_18 hp, e10, pf_15 hp, pr_20 hp, pn_20 hp, e12, orow hp, orow_r hp, orow_n hp, e0, pf_4 hp, pr_3 hp, pn_3 hp, e4, pf_7 hp, pr_6 hp, pn_6 hp, e7, c]
        simpa [cn, c] using ih v1
      · have e7i := e7 i hi c
        simp (disch := first | omega | assumption | exact own_63 | exact rt_63 | exact q_lt1 (hb _ _) | exact bt_lt _ | fail) only [own_63, rt_63, ab_kl_n, ab_kl_i, ab_kl_r, ab_kl_l, at_63_0, Go_iconst, kc_0, at_63_1, Go_istore_2, ab_put_int_2, at_63_2, at_63_3, Go_istore_3, ab_put_int_3, Go_iload_3, at_63_5, Go_aload_0, at_63_6, Go_getf, fl_3_64, gg_3_1, sh_ref, sh_rf, jt_63_9, q_le, q_lt, q_eq, n_leT, n_leF, n_ltT, n_ltF, n_eqF, n_b0, at_63_12, at_63_13, Go_istore_4, ab_put_int_4, Go_iload_4, at_63_17, at_63_18, fl_3_47, gg_3_13, at_63_21, at_63_22, Go_iaload, sh_ln, q_in, q_cl, jt_63_23, at_63_26, at_63_27, fl_3_53, gg_3_15, at_63_30, at_63_31, Go_aaload, at_63_32, at_63_34, at_63_35, Go_iload_1, jt_63_36, at_63_39, Go_iinc_2, kc_1, q_add, at_63_42, Go_iinc_4, jt_63_45, at_63_48, Go_iinc_3, jt_63_51, at_63_54, at_63_55, at_63_57, at_63_58, fl_3_60, gg_3_0, jt_63_61, at_63_64, at_63_65, fl_3_18, gg_3_4, at_63_68, at_63_69, jt_63_70, at_63_73, at_63_74, fl_3_27, gg_3_7, at_63_77, at_63_78, at_63_79, jt_63_80, at_63_83, at_63_86, jt_63_89, at_63_92, Go_iload_2, at_63_93, Go_reti, Nat.reduceAdd, Nat.reduceMul, Nat.reduceLeDiff, Nat.reduceSub, not_true_eq_false, not_false_eq_true, ite_not, true_and, and_true, if_true, if_false, reduceIte, Bool.or_true, Bool.true_or, Bool.or_false, pr_0 hp, e1, pf_13 hp, pr_18 hp, pn_18 hp, e10, pf_15 hp, pr_20 hp, pn_20 hp, e12, orow hp, orow_r hp, orow_n hp, e0, pf_4 hp, pr_3 hp, pn_3 hp, e4, pf_7 hp, pr_6 hp, pn_6 hp, e7, c, e7i]
        by_cases c2 : A 6 i = u
        · simpa [cn, c, c2, Nat.add_assoc] using ih v1
        · simpa [cn, c, c2] using ih v1
  · refine Eq.trans (show Go (ab_at 63 4) 63 4 _ _ _ _ = Go (some (.iload_n 3, 1)) 63 4 _ _ _ _ from by rw [at_63_4]) ?_
    simp (disch := first | omega | assumption | exact own_63 | exact rt_63 | exact q_lt1 (hb _ _) | exact bt_lt _ | fail) only [own_63, rt_63, ab_kl_n, ab_kl_i, ab_kl_r, ab_kl_l, at_63_0, Go_iconst, kc_0, at_63_1, Go_istore_2, ab_put_int_2, at_63_2, at_63_3, Go_istore_3, ab_put_int_3, Go_iload_3, at_63_5, Go_aload_0, at_63_6, Go_getf, fl_3_64, gg_3_1, sh_ref, sh_rf, jt_63_9, q_le, q_lt, q_eq, n_leT, n_leF, n_ltT, n_ltF, n_eqF, n_b0, at_63_12, at_63_13, Go_istore_4, ab_put_int_4, Go_iload_4, at_63_17, at_63_18, fl_3_47, gg_3_13, at_63_21, at_63_22, Go_iaload, sh_ln, q_in, q_cl, jt_63_23, at_63_26, at_63_27, fl_3_53, gg_3_15, at_63_30, at_63_31, Go_aaload, at_63_32, at_63_34, at_63_35, Go_iload_1, jt_63_36, at_63_39, Go_iinc_2, kc_1, q_add, at_63_42, Go_iinc_4, jt_63_45, at_63_48, Go_iinc_3, jt_63_51, at_63_54, at_63_55, at_63_57, at_63_58, fl_3_60, gg_3_0, jt_63_61, at_63_64, at_63_65, fl_3_18, gg_3_4, at_63_68, at_63_69, jt_63_70, at_63_73, at_63_74, fl_3_27, gg_3_7, at_63_77, at_63_78, at_63_79, jt_63_80, at_63_83, at_63_86, jt_63_89, at_63_92, Go_iload_2, at_63_93, Go_reti, Nat.reduceAdd, Nat.reduceMul, Nat.reduceLeDiff, Nat.reduceSub, not_true_eq_false, not_false_eq_true, ite_not, true_and, and_true, if_true, if_false, reduceIte, Bool.or_true, Bool.true_or, Bool.or_false, pr_0 hp, e1, pf_13 hp, pr_18 hp, pn_18 hp, e10, pf_15 hp, pr_20 hp, pn_20 hp, e12, orow hp, orow_r hp, orow_n hp, e0, pf_4 hp, pr_3 hp, pn_3 hp, e4, pf_7 hp, pr_6 hp, pn_6 hp, e7]
    have a2 := (r4 i hi).2.2.1
    have a5 := (r4 i hi).2.2.2.2.2.2.2.2.2.2
    have ih0 := ih (some (.int (nI (A 12 i))))
    clear ih
    refine Eq.trans ?_ ih0
    refine lp_eq (N := A 12 i) (fun k => Go (ab_at 63 15) 63 15 [some (.ref p), some (.int (nI (u))), some (.int (nI (sm (fun n => cn (fun i => decide (A 14 (6 * n + i) = u)) (A 12 n)) i + cn (fun k => decide (A 14 (6 * i + k) = u)) k))), some (.int (nI (i))), some (.int (nI (k)))] []  (SH, I, J) Q) ?_ (fun k hk => ?_)
    · refine Eq.trans (show Go (ab_at 63 15) 63 15 _ _ _ _ = Go (some (.iload 4, 2)) 63 15 _ _ _ _ from by rw [at_63_15]) ?_
      simp (disch := first | omega | assumption | exact own_63 | exact rt_63 | exact q_lt1 (hb _ _) | exact bt_lt _ | fail) only [own_63, rt_63, ab_kl_n, ab_kl_i, ab_kl_r, ab_kl_l, at_63_0, Go_iconst, kc_0, at_63_1, Go_istore_2, ab_put_int_2, at_63_2, at_63_3, Go_istore_3, ab_put_int_3, Go_iload_3, at_63_5, Go_aload_0, at_63_6, Go_getf, fl_3_64, gg_3_1, sh_ref, sh_rf, jt_63_9, q_le, q_lt, q_eq, n_leT, n_leF, n_ltT, n_ltF, n_eqF, n_b0, at_63_12, at_63_13, Go_istore_4, ab_put_int_4, Go_iload_4, at_63_17, at_63_18, fl_3_47, gg_3_13, at_63_21, at_63_22, Go_iaload, sh_ln, q_in, q_cl, jt_63_23, at_63_26, at_63_27, fl_3_53, gg_3_15, at_63_30, at_63_31, Go_aaload, at_63_32, at_63_34, at_63_35, Go_iload_1, jt_63_36, at_63_39, Go_iinc_2, kc_1, q_add, at_63_42, Go_iinc_4, jt_63_45, at_63_48, Go_iinc_3, jt_63_51, at_63_54, at_63_55, at_63_57, at_63_58, fl_3_60, gg_3_0, jt_63_61, at_63_64, at_63_65, fl_3_18, gg_3_4, at_63_68, at_63_69, jt_63_70, at_63_73, at_63_74, fl_3_27, gg_3_7, at_63_77, at_63_78, at_63_79, jt_63_80, at_63_83, at_63_86, jt_63_89, at_63_92, Go_iload_2, at_63_93, Go_reti, Nat.reduceAdd, Nat.reduceMul, Nat.reduceLeDiff, Nat.reduceSub, not_true_eq_false, not_false_eq_true, ite_not, true_and, and_true, if_true, if_false, reduceIte, Bool.or_true, Bool.true_or, Bool.or_false, pr_0 hp, e1, pf_13 hp, pr_18 hp, pn_18 hp, e10, pf_15 hp, pr_20 hp, pn_20 hp, e12, orow hp, orow_r hp, orow_n hp, e0, pf_4 hp, pr_3 hp, pn_3 hp, e4, pf_7 hp, pr_6 hp, pn_6 hp, e7]
      rfl
    · refine Eq.trans (show Go (ab_at 63 15) 63 15 _ _ _ _ = Go (some (.iload 4, 2)) 63 15 _ _ _ _ from by rw [at_63_15]) ?_
      have := a5 k hk
      simp (disch := first | omega | assumption | exact own_63 | exact rt_63 | exact q_lt1 (hb _ _) | exact bt_lt _ | fail) only [own_63, rt_63, ab_kl_n, ab_kl_i, ab_kl_r, ab_kl_l, at_63_0, Go_iconst, kc_0, at_63_1, Go_istore_2, ab_put_int_2, at_63_2, at_63_3, Go_istore_3, ab_put_int_3, Go_iload_3, at_63_5, Go_aload_0, at_63_6, Go_getf, fl_3_64, gg_3_1, sh_ref, sh_rf, jt_63_9, q_le, q_lt, q_eq, n_leT, n_leF, n_ltT, n_ltF, n_eqF, n_b0, at_63_12, at_63_13, Go_istore_4, ab_put_int_4, Go_iload_4, at_63_17, at_63_18, fl_3_47, gg_3_13, at_63_21, at_63_22, Go_iaload, sh_ln, q_in, q_cl, jt_63_23, at_63_26, at_63_27, fl_3_53, gg_3_15, at_63_30, at_63_31, Go_aaload, at_63_32, at_63_34, at_63_35, Go_iload_1, jt_63_36, at_63_39, Go_iinc_2, kc_1, q_add, at_63_42, Go_iinc_4, jt_63_45, at_63_48, Go_iinc_3, jt_63_51, at_63_54, at_63_55, at_63_57, at_63_58, fl_3_60, gg_3_0, jt_63_61, at_63_64, at_63_65, fl_3_18, gg_3_4, at_63_68, at_63_69, jt_63_70, at_63_73, at_63_74, fl_3_27, gg_3_7, at_63_77, at_63_78, at_63_79, jt_63_80, at_63_83, at_63_86, jt_63_89, at_63_92, Go_iload_2, at_63_93, Go_reti, Nat.reduceAdd, Nat.reduceMul, Nat.reduceLeDiff, Nat.reduceSub, not_true_eq_false, not_false_eq_true, ite_not, true_and, and_true, if_true, if_false, reduceIte, Bool.or_true, Bool.true_or, Bool.or_false, pr_0 hp, e1, pf_13 hp, pr_18 hp, pn_18 hp, e10, pf_15 hp, pr_20 hp, pn_20 hp, e12, orow hp, orow_r hp, orow_n hp, e0, pf_4 hp, pr_3 hp, pn_3 hp, e4, pf_7 hp, pr_6 hp, pn_6 hp, e7]
      by_cases c : A 14 (6 * i + k) = u <;> simp [c, cn, Nat.add_assoc]
theorem x_routeFrom (hp : isP p) (hb : WB A) (hr : WR A) (h : PC p I A) (hg : PG p I A) {c b : Nat} (hn : b < A 0 0) (hc : c < A 0 0) : Ex 54 [.ref p, .int (nI c), .int (nI b)] (SH, I, J) Q = Q (some (.int (if fu (fun i => decide (A 8 (6 * b + i) = c)) (A 7 b) 0 < A 7 b then nI (fu (fun i => decide (A 8 (6 * b + i) = c)) (A 7 b) 0) else -4))) (SH, I, J) := by
  have hp2 := p_lt hp
  obtain ⟨r1, r2, r3, r4⟩ := hr
  obtain ⟨e0, e1, e2, e3, e4, e5, e6, e7, e8, e9, e10, e11, e12⟩ := h
  obtain ⟨g1, g2, g3⟩ := hg
  obtain ⟨-, -, -, -, -, b6, -, b8⟩ := r3 b hn
  have hs := fu_spec (fun i => decide (A 8 (6 * b + i) = c)) (A 7 b) 0
  generalize fu (fun i => decide (A 8 (6 * b + i) = c)) (A 7 b) 0 = z at hs
  obtain ⟨-, s2, s3, s4⟩ := hs
  simp only [Nat.zero_add, decide_eq_true_eq, decide_eq_false_iff_not] at s2 s3 s4
  rw [en_54]
  generalize hR : Q _ (SH, I, J) = R
  simp (disch := first | omega | assumption | exact own_54 | exact rt_54 | exact q_lt1 (hb _ _) | exact bt_lt _ | fail) only [own_54, rt_54, ab_kl_n, ab_kl_i, ab_kl_r, ab_kl_l, at_54_0, Go_iconst, kc_0, at_54_1, Go_istore_3, ab_put_int_3, Go_iload_3, at_54_3, Go_aload_0, at_54_4, Go_getf, fl_3_30, gg_3_8, sh_ref, sh_rf, at_54_7, Go_iload_2, at_54_8, Go_iaload, sh_ln, q_in, q_cl, jt_54_9, q_le, q_lt, q_eq, n_leT, n_leF, n_ltT, n_ltF, n_eqF, n_b0, at_54_12, at_54_13, fl_3_35, gg_3_9, at_54_16, at_54_17, Go_aaload, at_54_18, at_54_19, at_54_20, Go_iload_1, jt_54_21, at_54_24, at_54_25, Go_reti, at_54_26, Go_iinc_3, kc_1, q_add, jt_54_29, at_54_32, Go_bipush, kb_m4, at_54_34, Nat.reduceAdd, Nat.reduceMul, Nat.reduceLeDiff, Nat.reduceSub, not_true_eq_false, not_false_eq_true, ite_not, true_and, and_true, if_true, if_false, reduceIte, Bool.or_true, Bool.true_or, Bool.or_false, pr_0 hp, pf_8 hp, pr_7 hp, pn_7 hp, g1, pf_9 hp, pr_8 hp, pn_8 hp, g2, prow hp, prow_r hp, prow_n hp]
  refine lp_wp (a := 0) (N := z) (Nat.zero_le _) (fun i => Go (ab_at 54 2) 54 2 [some (.ref p), some (.int (nI (c))), some (.int (nI (b))), some (.int (nI (i)))] []  (SH, I, J) Q = R) ?_ (fun i _ hi ih => ?_)
  · refine Eq.trans (show Go (ab_at 54 2) 54 2 _ _ _ _ = Go (some (.iload_n 3, 1)) 54 2 _ _ _ _ from by rw [at_54_2]) ?_
    rcases Nat.lt_or_ge z (A 7 b) with k | k
    · have k2 := s4 k
      have := b8 z k
      simp (disch := first | omega | assumption | exact own_54 | exact rt_54 | exact q_lt1 (hb _ _) | exact bt_lt _ | fail) only [own_54, rt_54, ab_kl_n, ab_kl_i, ab_kl_r, ab_kl_l, at_54_0, Go_iconst, kc_0, at_54_1, Go_istore_3, ab_put_int_3, Go_iload_3, at_54_3, Go_aload_0, at_54_4, Go_getf, fl_3_30, gg_3_8, sh_ref, sh_rf, at_54_7, Go_iload_2, at_54_8, Go_iaload, sh_ln, q_in, q_cl, jt_54_9, q_le, q_lt, q_eq, n_leT, n_leF, n_ltT, n_ltF, n_eqF, n_b0, at_54_12, at_54_13, fl_3_35, gg_3_9, at_54_16, at_54_17, Go_aaload, at_54_18, at_54_19, at_54_20, Go_iload_1, jt_54_21, at_54_24, at_54_25, Go_reti, at_54_26, Go_iinc_3, kc_1, q_add, jt_54_29, at_54_32, Go_bipush, kb_m4, at_54_34, Nat.reduceAdd, Nat.reduceMul, Nat.reduceLeDiff, Nat.reduceSub, not_true_eq_false, not_false_eq_true, ite_not, true_and, and_true, if_true, if_false, reduceIte, Bool.or_true, Bool.true_or, Bool.or_false, pr_0 hp, pf_8 hp, pr_7 hp, pn_7 hp, g1, pf_9 hp, pr_8 hp, pn_8 hp, g2, prow hp, prow_r hp, prow_n hp, k2]
      rw [← hR, if_pos k]
    · have k2 : z = A 7 b := by omega
      subst k2
      simp (disch := first | omega | assumption | exact own_54 | exact rt_54 | exact q_lt1 (hb _ _) | exact bt_lt _ | fail) only [own_54, rt_54, ab_kl_n, ab_kl_i, ab_kl_r, ab_kl_l, at_54_0, Go_iconst, kc_0, at_54_1, Go_istore_3, ab_put_int_3, Go_iload_3, at_54_3, Go_aload_0, at_54_4, Go_getf, fl_3_30, gg_3_8, sh_ref, sh_rf, at_54_7, Go_iload_2, at_54_8, Go_iaload, sh_ln, q_in, q_cl, jt_54_9, q_le, q_lt, q_eq, n_leT, n_leF, n_ltT, n_ltF, n_eqF, n_b0, at_54_12, at_54_13, fl_3_35, gg_3_9, at_54_16, at_54_17, Go_aaload, at_54_18, at_54_19, at_54_20, Go_iload_1, jt_54_21, at_54_24, at_54_25, Go_reti, at_54_26, Go_iinc_3, kc_1, q_add, jt_54_29, at_54_32, Go_bipush, kb_m4, at_54_34, Nat.reduceAdd, Nat.reduceMul, Nat.reduceLeDiff, Nat.reduceSub, not_true_eq_false, not_false_eq_true, ite_not, true_and, and_true, if_true, if_false, reduceIte, Bool.or_true, Bool.true_or, Bool.or_false, pr_0 hp, pf_8 hp, pr_7 hp, pn_7 hp, g1, pf_9 hp, pr_8 hp, pn_8 hp, g2, prow hp, prow_r hp, prow_n hp]
      rw [← hR, if_neg (by omega)]
  · refine Eq.trans (show Go (ab_at 54 2) 54 2 _ _ _ _ = Go (some (.iload_n 3, 1)) 54 2 _ _ _ _ from by rw [at_54_2]) ?_
    have k2 := s3 i (Nat.zero_le _) hi
    have := b8 i (by omega)
    simp (disch := first | omega | assumption | exact own_54 | exact rt_54 | exact q_lt1 (hb _ _) | exact bt_lt _ | fail) only [own_54, rt_54, ab_kl_n, ab_kl_i, ab_kl_r, ab_kl_l, at_54_0, Go_iconst, kc_0, at_54_1, Go_istore_3, ab_put_int_3, Go_iload_3, at_54_3, Go_aload_0, at_54_4, Go_getf, fl_3_30, gg_3_8, sh_ref, sh_rf, at_54_7, Go_iload_2, at_54_8, Go_iaload, sh_ln, q_in, q_cl, jt_54_9, q_le, q_lt, q_eq, n_leT, n_leF, n_ltT, n_ltF, n_eqF, n_b0, at_54_12, at_54_13, fl_3_35, gg_3_9, at_54_16, at_54_17, Go_aaload, at_54_18, at_54_19, at_54_20, Go_iload_1, jt_54_21, at_54_24, at_54_25, Go_reti, at_54_26, Go_iinc_3, kc_1, q_add, jt_54_29, at_54_32, Go_bipush, kb_m4, at_54_34, Nat.reduceAdd, Nat.reduceMul, Nat.reduceLeDiff, Nat.reduceSub, not_true_eq_false, not_false_eq_true, ite_not, true_and, and_true, if_true, if_false, reduceIte, Bool.or_true, Bool.true_or, Bool.or_false, pr_0 hp, pf_8 hp, pr_7 hp, pn_7 hp, g1, pf_9 hp, pr_8 hp, pn_8 hp, g2, prow hp, prow_r hp, prow_n hp, k2]
    exact ih
end PRG
