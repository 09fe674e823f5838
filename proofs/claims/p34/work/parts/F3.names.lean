/-! THE LAW'S CODE: all names; names that agree -/
section LWG
variable {xs : List Int32} {Q : Option Value → ab_H → Prop} {E : ab_Sh} {I I0 : Nat → Nat → Int32} {J J0 : Nat → Nat → Int64} {s : VS} {A : Nat → Nat → Nat} {n tn : Nat}
theorem y_ok2 : ab_ok (ab_nx (SH ++ E, I, J)) (.ref 2000) = true := by
  unfold ab_ok
  rw [Bool.or_eq_true, decide_eq_true_eq, decide_eq_true_eq]
  exact Or.inr (by decide)
theorem f_names (o : OZ A) (h0 : 0 < A 0 1) (K : ∀ I' J' l16 l17 l18 l19 l20 l21 l22 l23, OKL [l16, l17, l18, l19, l20, l21, l22, l23] → WL8 s A I0 J0 I' J' → Gy xs (ab_at 146 708) 146 708 [some (.ref 2000), some (.ref 0), some (.ref 199), some (.ref 200), some (.ref 201), some (.ref 202), some (.ref 203), some (.ref 204), some (.ref 205), some (.ref 206), some (.ref 207), some (.int (nI (A 0 1))), some (.int (nI tn)), some (.int (nI (rc A 100 (P0 A)))), some (.int (nI (mcn A (A 0 1)))), some (.int (nI (A 0 1))), l16, l17, l18, l19, l20, l21, l22, l23] [] (SH ++ E, I', J') Q) :
    ∀ d n I J l16 l17 l18 l19 l20 l21 l22 l23, (0 < n → OKL [l16, l17, l18, l19, l20, l21, l22, l23]) → n + d = A 0 1 → WL8 s A I0 J0 I J → Gy xs (ab_at 146 118) 146 118 [some (.ref 2000), some (.ref 0), some (.ref 199), some (.ref 200), some (.ref 201), some (.ref 202), some (.ref 203), some (.ref 204), some (.ref 205), some (.ref 206), some (.ref 207), some (.int (nI (A 0 1))), some (.int (nI tn)), some (.int (nI (rc A 100 (P0 A)))), some (.int (nI (mcn A n))), some (.int (nI n)), l16, l17, l18, l19, l20, l21, l22, l23] [] (SH ++ E, I, J) Q := by
  intro d
  induction d with
  | zero =>
    intro n I J l16 l17 l18 l19 l20 l21 l22 l23 hl hn w
    have n20 := W_N w
    have e : n = A 0 1 := by omega
    subst e
    rw [at_146_118]
    simp (disch := first | omega | assumption | exact yrt_146 | fail) only [yrt_146, ab_kl_n, ab_kl_i, ab_kl_r, ab_kl_l, Gy_iload_15, at_146_120, Gy_iload_11, jy_146_122, q_le, q_lt, q_eq, n_leT, n_leF, n_ltT, n_ltF, n_eqF, n_b0, Nat.reduceAdd, Nat.reduceMul, Nat.reduceLeDiff, Nat.reduceSub, decide_true, decide_false, Bool.toNat_true, Bool.toNat_false, not_true_eq_false, not_false_eq_true, ite_not, true_and, and_true, if_true, if_false, ↓reduceIte, Bool.or_true, Bool.true_or, Bool.or_false]
    exact K I J _ _ _ _ _ _ _ _ (hl h0) w
  | succ d ih =>
    intro n I J l16 l17 l18 l19 l20 l21 l22 l23 hl hd w
    have n20 := W_N w
    have hn : n < A 0 1 := by omega
    have wr := o.1.2.1
    have pl := PP_le wr n
    have k8 := (wr.2.2.2 n hn).1
    refine f_c1 w hn fun I J w => ?_
    refine f_c2 w hn fun I J w => ?_
    refine f_c3a w hn fun I J w => ?_
    refine f_c3b w (show PP A n < A 0 1 by omega) fun I J w => ?_
    refine f_c3c k8 (oaI_h wr o.2 hn) ?_
    simp (disch := first | omega | assumption | exact yrt_146 | fail) only [yrt_146, ab_kl_n, ab_kl_i, ab_kl_r, ab_kl_l, at_146_451, Gy_iconst, kc_0, at_146_452, Gy_istore_22, ab_put_int_22, Nat.reduceAdd, Nat.reduceMul, Nat.reduceLeDiff, Nat.reduceSub, decide_true, decide_false, Bool.toNat_true, Bool.toNat_false, not_true_eq_false, not_false_eq_true, ite_not, true_and, and_true, if_true, if_false, ↓reduceIte, Bool.or_true, Bool.true_or, Bool.or_false]
    refine f_c4 hn (fun I J l22 l23 w => ?_) _ 0 I J _ (Nat.zero_add _) w
    refine f_c5 w hn fun I J w => ?_
    simp (disch := first | omega | assumption | exact yrt_146 | fail) only [yrt_146, ab_kl_n, ab_kl_i, ab_kl_r, ab_kl_l, at_146_578, Gy_iconst, kc_0, at_146_579, Gy_istore_23, ab_put_int_23, Nat.reduceAdd, Nat.reduceMul, Nat.reduceLeDiff, Nat.reduceSub, decide_true, decide_false, Bool.toNat_true, Bool.toNat_false, not_true_eq_false, not_false_eq_true, ite_not, true_and, and_true, if_true, if_false, ↓reduceIte, Bool.or_true, Bool.true_or, Bool.or_false]
    refine f_c6 hn (fun I J l23 w => ?_) _ 0 I J (Nat.zero_add _) w
    refine f_c7 o w hn fun I J x23 w => ?_
    simp (disch := first | omega | assumption | exact yrt_146 | fail) only [yrt_146, ab_kl_n, ab_kl_i, ab_kl_r, ab_kl_l, at_146_702, Gy_iinc_15, ab_put_int_15, kc_1, q_add, jy_146_705, Nat.reduceAdd, Nat.reduceMul, Nat.reduceLeDiff, Nat.reduceSub, decide_true, decide_false, Bool.toNat_true, Bool.toNat_false, not_true_eq_false, not_false_eq_true, ite_not, true_and, and_true, if_true, if_false, ↓reduceIte, Bool.or_true, Bool.true_or, Bool.or_false]
    exact ih (n + 1) I J _ _ _ _ _ _ _ _ (fun _ nx => rfl) (by omega) w
theorem f_many (o : OZ A) (w : WL8 s A I0 J0 I J) (h0 : 0 < A 0 1) (k7 : ∀ n, n < A 0 1 → A 10 n ≤ 7) {l15 l16 l17 l18 l19 l20 l21 l22 l23 : Option Value} (K : ∀ I' J', WL8 s A I0 J0 I' J' → Gy xs (ab_at 146 730) 146 730 [some (.ref 2000), some (.ref 0), some (.ref 199), some (.ref 200), some (.ref 201), some (.ref 202), some (.ref 203), some (.ref 204), some (.ref 205), some (.ref 206), some (.ref 207), some (.int (nI (A 0 1))), some (.int (nI tn)), some (.int (nI (rc A 100 (P0 A)))), some (.int (nI (mcn A (A 0 1)))), l15, l16, l17, l18, l19, l20, l21, l22, l23] [] (SH ++ E, I', J') Q) :
    Gy xs (ab_at 146 708) 146 708 [some (.ref 2000), some (.ref 0), some (.ref 199), some (.ref 200), some (.ref 201), some (.ref 202), some (.ref 203), some (.ref 204), some (.ref 205), some (.ref 206), some (.ref 207), some (.int (nI (A 0 1))), some (.int (nI tn)), some (.int (nI (rc A 100 (P0 A)))), some (.int (nI (mcn A (A 0 1)))), l15, l16, l17, l18, l19, l20, l21, l22, l23] [] (SH ++ E, I, J) Q := by
  have n20 := W_N w
  have wr := o.1.2.1
  have p0 : PP A 0 = 0 := Nat.le_zero.mp (PP_le wr 0)
  have mp : 0 < mcn A (A 0 1) := cn_pos (f := fun n => decide (PP A n = n ∧ ¬ A 10 n = 8)) h0 (decide_eq_true ⟨p0, by have := k7 0 h0; omega⟩)
  have ml : mcn A (A 0 1) ≤ A 0 1 := cn_le (fun n => decide (PP A n = n ∧ ¬ A 10 n = 8)) (A 0 1)
  have r20 := rc_lt wr
  simp (disch := first | omega | assumption | exact yrt_146 | fail) only [yrt_146, ab_kl_n, ab_kl_i, ab_kl_r, ab_kl_l, at_146_708, Gy_aload_1, at_146_709, Gy_iconst, kc_0, Nat.reduceAdd, Nat.reduceMul, Nat.reduceLeDiff, Nat.reduceSub, decide_true, decide_false, Bool.toNat_true, Bool.toNat_false, not_true_eq_false, not_false_eq_true, ite_not, true_and, and_true, if_true, if_false, ↓reduceIte, Bool.or_true, Bool.true_or, Bool.or_false]
  refine z_cl0 w (by simp only [cat_n, cat_i, cat_r, cat_l]; omega) fun I1 J1 w1 => ?_
  have em : cn (fun n => decide (PP A n = n ∧ ¬ A 10 n = 8)) (A 0 1) = mcn A (A 0 1) := rfl
  rw [em]
  have K1 := K I1 J1 w1
  by_cases c : rc A 100 (P0 A) ≤ 0
  · simp (disch := first | omega | assumption | exact yrt_146 | fail) only [yrt_146, ab_kl_n, ab_kl_i, ab_kl_r, ab_kl_l, at_146_713, Gy_iload_14, jy_146_715, q_le, q_lt, q_eq, n_leT, n_leF, n_ltT, n_ltF, n_eqF, n_b0, at_146_718, Gy_iload_13, jy_146_720, at_146_723, jy_146_725, Nat.reduceAdd, Nat.reduceMul, Nat.reduceLeDiff, Nat.reduceSub, decide_true, decide_false, Bool.toNat_true, Bool.toNat_false, not_true_eq_false, not_false_eq_true, ite_not, true_and, and_true, if_true, if_false, ↓reduceIte, Bool.or_true, Bool.true_or, Bool.or_false, c]
    exact K1
  · simp (disch := first | omega | assumption | exact yrt_146 | fail) only [yrt_146, ab_kl_n, ab_kl_i, ab_kl_r, ab_kl_l, at_146_713, Gy_iload_14, jy_146_715, q_le, q_lt, q_eq, n_leT, n_leF, n_ltT, n_ltF, n_eqF, n_b0, at_146_718, Gy_iload_13, jy_146_720, at_146_723, jy_146_725, Nat.reduceAdd, Nat.reduceMul, Nat.reduceLeDiff, Nat.reduceSub, decide_true, decide_false, Bool.toNat_true, Bool.toNat_false, not_true_eq_false, not_false_eq_true, ite_not, true_and, and_true, if_true, if_false, ↓reduceIte, Bool.or_true, Bool.true_or, Bool.or_false, c, mp]
    exact K1
theorem f_agm (o : OZ A) (hn : n < A 0 1) (k7 : ∀ n, n < A 0 1 → A 10 n ≤ 7) {l13 l14 l19 l20 l21 l22 l23 : Option Value} {x15 x17 : Int32} (K : ∀ I' J' x18, WL8 s A I0 J0 I' J' → Gy xs (ab_at 146 861) 146 861 [some (.ref 2000), some (.ref 0), some (.ref 199), some (.ref 200), some (.ref 201), some (.ref 202), some (.ref 203), some (.ref 204), some (.ref 205), some (.ref 206), some (.ref 207), some (.int (nI (A 0 1))), some (.int (nI tn)), l13, l14, some (.int x15), some (.int (nI n)), some (.int x17), some (.int x18), l19, l20, l21, l22, l23] [] (SH ++ E, I', J') Q) :
    ∀ d m I J, m + d = A 0 1 → WL8 s A I0 J0 I J → Gy xs (ab_at 146 801) 146 801 [some (.ref 2000), some (.ref 0), some (.ref 199), some (.ref 200), some (.ref 201), some (.ref 202), some (.ref 203), some (.ref 204), some (.ref 205), some (.ref 206), some (.ref 207), some (.int (nI (A 0 1))), some (.int (nI tn)), l13, l14, some (.int x15), some (.int (nI n)), some (.int x17), some (.int (nI m)), l19, l20, l21, l22, l23] [] (SH ++ E, I, J) Q := by
  intro d
  induction d with
  | zero =>
    intro m I J hm w
    have n20 := W_N w
    have e : m = A 0 1 := by omega
    subst e
    rw [at_146_801]
    simp (disch := first | omega | assumption | exact yrt_146 | fail) only [yrt_146, ab_kl_n, ab_kl_i, ab_kl_r, ab_kl_l, Gy_iload_18, at_146_803, Gy_iload_11, jy_146_805, q_le, q_lt, q_eq, n_leT, n_leF, n_ltT, n_ltF, n_eqF, n_b0, Nat.reduceAdd, Nat.reduceMul, Nat.reduceLeDiff, Nat.reduceSub, decide_true, decide_false, Bool.toNat_true, Bool.toNat_false, not_true_eq_false, not_false_eq_true, ite_not, true_and, and_true, if_true, if_false, ↓reduceIte, Bool.or_true, Bool.true_or, Bool.or_false]
    exact K I J _ w
  | succ d ih =>
    intro m I J hm w
    have n20 := W_N w
    have wr := o.1.2.1
    have hmn : m < A 0 1 := by omega
    have pl := PP_le wr n
    have pm := PP_le wr m
    rw [at_146_801]
    simp (disch := first | omega | assumption | exact yrt_146 | fail) only [yrt_146, ab_kl_n, ab_kl_i, ab_kl_r, ab_kl_l, Gy_iload_18, at_146_803, Gy_iload_11, jy_146_805, q_le, q_lt, q_eq, n_leT, n_leF, n_ltT, n_ltF, n_eqF, n_b0, at_146_808, Gy_aload_1, at_146_809, Nat.reduceAdd, Nat.reduceMul, Nat.reduceLeDiff, Nat.reduceSub, decide_true, decide_false, Bool.toNat_true, Bool.toNat_false, not_true_eq_false, not_false_eq_true, ite_not, true_and, and_true, if_true, if_false, ↓reduceIte, Bool.or_true, Bool.true_or, Bool.or_false]
    refine z_part w hmn (by simp only [cat_n, cat_i, cat_r, cat_l]; omega) fun I1 J1 w1 => ?_
    simp (disch := first | omega | assumption | exact yrt_146 | fail) only [yrt_146, ab_kl_n, ab_kl_i, ab_kl_r, ab_kl_l, at_146_814, Gy_aload_1, at_146_815, Gy_iload_16, Nat.reduceAdd, Nat.reduceMul, Nat.reduceLeDiff, Nat.reduceSub, decide_true, decide_false, Bool.toNat_true, Bool.toNat_false, not_true_eq_false, not_false_eq_true, ite_not, true_and, and_true, if_true, if_false, ↓reduceIte, Bool.or_true, Bool.true_or, Bool.or_false]
    refine z_part w1 hn (by simp only [cat_n, cat_i, cat_r, cat_l]; omega) fun I2 J2 w2 => ?_
    have nx : ∀ I2 J2, WL8 s A I0 J0 I2 J2 → Gy xs (ab_at 146 855) 146 855 [some (.ref 2000), some (.ref 0), some (.ref 199), some (.ref 200), some (.ref 201), some (.ref 202), some (.ref 203), some (.ref 204), some (.ref 205), some (.ref 206), some (.ref 207), some (.int (nI (A 0 1))), some (.int (nI tn)), l13, l14, some (.int x15), some (.int (nI n)), some (.int x17), some (.int (nI m)), l19, l20, l21, l22, l23] [] (SH ++ E, I2, J2) Q := by
      intro I2 J2 w2
      simp (disch := first | omega | assumption | exact yrt_146 | fail) only [yrt_146, ab_kl_n, ab_kl_i, ab_kl_r, ab_kl_l, at_146_855, Gy_iinc_18, ab_put_int_18, kc_1, q_add, jy_146_858, Nat.reduceAdd, Nat.reduceMul, Nat.reduceLeDiff, Nat.reduceSub, decide_true, decide_false, Bool.toNat_true, Bool.toNat_false, not_true_eq_false, not_false_eq_true, ite_not, true_and, and_true, if_true, if_false, ↓reduceIte, Bool.or_true, Bool.true_or, Bool.or_false]
      exact ih (m + 1) I2 J2 (by omega) w2
    by_cases c : PP A m = PP A n
    · cases hs : sn A m n with
      | false =>
        simp (disch := first | omega | assumption | exact yrt_146 | fail) only [yrt_146, ab_kl_n, ab_kl_i, ab_kl_r, ab_kl_l, jy_146_820, q_le, q_lt, q_eq, n_leT, n_leF, n_ltT, n_ltF, n_eqF, n_b0, at_146_823, Gy_aload_1, at_146_824, Gy_iload_18, at_146_826, Gy_iload_16, at_146_828, cat_n, cat_i, cat_r, cat_l, tl_i, tl_l, tl_n, y_sh, y_shh, at_146_831, Gy_iconst, kc_1, jy_146_832, Nat.reduceAdd, Nat.reduceMul, Nat.reduceLeDiff, Nat.reduceSub, decide_true, decide_false, Bool.toNat_true, Bool.toNat_false, not_true_eq_false, not_false_eq_true, ite_not, true_and, and_true, if_true, if_false, ↓reduceIte, Bool.or_true, Bool.true_or, Bool.or_false, c, zq_seen w2, hs]
        exact nx I2 J2 w2
      | true =>
        have k1 := k7 m hmn
        have k2 := k7 n hn
        simp (disch := first | omega | assumption | exact yrt_146 | fail) only [yrt_146, ab_kl_n, ab_kl_i, ab_kl_r, ab_kl_l, jy_146_820, q_le, q_lt, q_eq, n_leT, n_leF, n_ltT, n_ltF, n_eqF, n_b0, at_146_823, Gy_aload_1, at_146_824, Gy_iload_18, at_146_826, Gy_iload_16, at_146_828, cat_n, cat_i, cat_r, cat_l, tl_i, tl_l, tl_n, y_sh, y_shh, at_146_831, Gy_iconst, kc_1, jy_146_832, at_146_835, at_146_836, Gy_iload_15, at_146_838, at_146_840, Gy_iadd, q_add, Nat.zero_add, at_146_841, kc_5, at_146_842, at_146_844, at_146_846, kc_0, Nat.reduceAdd, Nat.reduceMul, Nat.reduceLeDiff, Nat.reduceSub, decide_true, decide_false, Bool.toNat_true, Bool.toNat_false, not_true_eq_false, not_false_eq_true, ite_not, true_and, and_true, if_true, if_false, ↓reduceIte, Bool.or_true, Bool.true_or, Bool.or_false, c, zq_seen w2, hs]
        refine z_agree w2 o (by omega) hmn hn (fun k m' e => ?_) (by simp only [cat_n, cat_i, cat_r, cat_l]; omega) fun I3 J3 w3 => ?_
        · cases e
          exact ⟨hmn, hn, by omega, by omega, hs, Or.inl c⟩
        · simp (disch := first | omega | assumption | exact yrt_146 | fail) only [yrt_146, ab_kl_n, ab_kl_i, ab_kl_r, ab_kl_l, jy_146_850, q_le, q_lt, q_eq, n_leT, n_leF, n_ltT, n_ltF, n_eqF, n_b0, Nat.reduceAdd, Nat.reduceMul, Nat.reduceLeDiff, Nat.reduceSub, decide_true, decide_false, Bool.toNat_true, Bool.toNat_false, not_true_eq_false, not_false_eq_true, ite_not, true_and, and_true, if_true, if_false, ↓reduceIte, Bool.or_true, Bool.true_or, Bool.or_false]
          exact nx I3 J3 w3
    · simp (disch := first | omega | assumption | exact yrt_146 | fail) only [yrt_146, ab_kl_n, ab_kl_i, ab_kl_r, ab_kl_l, jy_146_820, q_le, q_lt, q_eq, n_leT, n_leF, n_ltT, n_ltF, n_eqF, n_b0, at_146_823, Gy_aload_1, at_146_824, Gy_iload_18, at_146_826, Gy_iload_16, at_146_828, cat_n, cat_i, cat_r, cat_l, tl_i, tl_l, tl_n, y_sh, y_shh, at_146_831, Gy_iconst, kc_1, jy_146_832, Nat.reduceAdd, Nat.reduceMul, Nat.reduceLeDiff, Nat.reduceSub, decide_true, decide_false, Bool.toNat_true, Bool.toNat_false, not_true_eq_false, not_false_eq_true, ite_not, true_and, and_true, if_true, if_false, ↓reduceIte, Bool.or_true, Bool.true_or, Bool.or_false, c, zq_seen w2]
      exact nx I2 J2 w2
theorem f_agn (o : OZ A) (k7 : ∀ n, n < A 0 1 → A 10 n ≤ 7) {l13 l14 l19 l20 l21 l22 l23 : Option Value} {x15 : Int32} (K : ∀ I' J' l17 l18, OKL [l17, l18] → WL8 s A I0 J0 I' J' → Gy xs (ab_at 146 867) 146 867 [some (.ref 2000), some (.ref 0), some (.ref 199), some (.ref 200), some (.ref 201), some (.ref 202), some (.ref 203), some (.ref 204), some (.ref 205), some (.ref 206), some (.ref 207), some (.int (nI (A 0 1))), some (.int (nI tn)), l13, l14, some (.int x15), some (.int (nI (A 0 1))), l17, l18, l19, l20, l21, l22, l23] [] (SH ++ E, I', J') Q) :
    ∀ d n I J l17 l18, OKL [l17, l18] → n + d = A 0 1 → WL8 s A I0 J0 I J → Gy xs (ab_at 146 748) 146 748 [some (.ref 2000), some (.ref 0), some (.ref 199), some (.ref 200), some (.ref 201), some (.ref 202), some (.ref 203), some (.ref 204), some (.ref 205), some (.ref 206), some (.ref 207), some (.int (nI (A 0 1))), some (.int (nI tn)), l13, l14, some (.int x15), some (.int (nI n)), l17, l18, l19, l20, l21, l22, l23] [] (SH ++ E, I, J) Q := by
  intro d
  induction d with
  | zero =>
    intro n I J l17 l18 hl hd w
    have n20 := W_N w
    have e : n = A 0 1 := by omega
    subst e
    rw [at_146_748]
    simp (disch := first | omega | assumption | exact yrt_146 | fail) only [yrt_146, ab_kl_n, ab_kl_i, ab_kl_r, ab_kl_l, Gy_iload_16, at_146_750, Gy_iload_11, jy_146_752, q_le, q_lt, q_eq, n_leT, n_leF, n_ltT, n_ltF, n_eqF, n_b0, Nat.reduceAdd, Nat.reduceMul, Nat.reduceLeDiff, Nat.reduceSub, decide_true, decide_false, Bool.toNat_true, Bool.toNat_false, not_true_eq_false, not_false_eq_true, ite_not, true_and, and_true, if_true, if_false, ↓reduceIte, Bool.or_true, Bool.true_or, Bool.or_false]
    exact K I J _ _ hl w
  | succ d ih =>
    intro n I J l17 l18 hl hd w
    have n20 := W_N w
    have wr := o.1.2.1
    have wg := o.1.2.2.1
    have hn : n < A 0 1 := by omega
    obtain ⟨f1, f2⟩ := F_ok wr wg (ZP_AHD wr o.2) n hn
    rw [at_146_748]
    simp (disch := first | omega | assumption | exact yrt_146 | fail) only [yrt_146, ab_kl_n, ab_kl_i, ab_kl_r, ab_kl_l, Gy_iload_16, at_146_750, Gy_iload_11, jy_146_752, q_le, q_lt, q_eq, n_leT, n_leF, n_ltT, n_ltF, n_eqF, n_b0, at_146_755, Gy_aload_1, at_146_756, Nat.reduceAdd, Nat.reduceMul, Nat.reduceLeDiff, Nat.reduceSub, decide_true, decide_false, Bool.toNat_true, Bool.toNat_false, not_true_eq_false, not_false_eq_true, ite_not, true_and, and_true, if_true, if_false, ↓reduceIte, Bool.or_true, Bool.true_or, Bool.or_false]
    refine z_form w hn (by simp only [cat_n, cat_i, cat_r, cat_l]; omega) fun I1 J1 w1 => ?_
    have nx : ∀ I2 J2 x17 l18, WL8 s A I0 J0 I2 J2 → Gy xs (ab_at 146 798) 146 798 [some (.ref 2000), some (.ref 0), some (.ref 199), some (.ref 200), some (.ref 201), some (.ref 202), some (.ref 203), some (.ref 204), some (.ref 205), some (.ref 206), some (.ref 207), some (.int (nI (A 0 1))), some (.int (nI tn)), l13, l14, some (.int x15), some (.int (nI n)), some (.int x17), l18, l19, l20, l21, l22, l23] [] (SH ++ E, I2, J2) Q := by
      intro I2 J2 x17 l18 w2
      simp (disch := first | omega | assumption | exact yrt_146 | fail) only [yrt_146, ab_kl_n, ab_kl_i, ab_kl_r, ab_kl_l, at_146_798, Gy_iconst, kc_0, at_146_799, Gy_istore_18, ab_put_int_18, Nat.reduceAdd, Nat.reduceMul, Nat.reduceLeDiff, Nat.reduceSub, decide_true, decide_false, Bool.toNat_true, Bool.toNat_false, not_true_eq_false, not_false_eq_true, ite_not, true_and, and_true, if_true, if_false, ↓reduceIte, Bool.or_true, Bool.true_or, Bool.or_false]
      refine f_agm o hn k7 (fun I3 J3 x18 w3 => ?_) _ 0 I2 J2 (Nat.zero_add _) w2
      simp (disch := first | omega | assumption | exact yrt_146 | fail) only [yrt_146, ab_kl_n, ab_kl_i, ab_kl_r, ab_kl_l, at_146_861, Gy_iinc_16, ab_put_int_16, kc_1, q_add, jy_146_864, Nat.reduceAdd, Nat.reduceMul, Nat.reduceLeDiff, Nat.reduceSub, decide_true, decide_false, Bool.toNat_true, Bool.toNat_false, not_true_eq_false, not_false_eq_true, ite_not, true_and, and_true, if_true, if_false, ↓reduceIte, Bool.or_true, Bool.true_or, Bool.or_false]
      exact ih (n + 1) I3 J3 _ _ (fun nx => rfl) (by omega) w3
    cases hf : FF A n with
    | inl f =>
      obtain ⟨g1, g2⟩ := f1 f hf
      have e1 : nmI (Sum.inl f) = nI f := rfl
      have e2 : ¬ f < 0 := by omega
      have hfn : f < A 0 1 := by omega
      rw [e1]
      have nx1 := fun I2 J2 => nx I2 J2 (nI f) l18
      cases hs : sn A f n with
      | false =>
        simp (disch := first | omega | assumption | exact yrt_146 | fail) only [yrt_146, ab_kl_n, ab_kl_i, ab_kl_r, ab_kl_l, at_146_761, Gy_istore_17, ab_put_int_17, at_146_763, Gy_iload_17, jy_146_765, q_le, q_lt, q_eq, n_leT, n_leF, n_ltT, n_ltF, n_eqF, n_b0, at_146_768, Gy_aload_1, at_146_769, at_146_771, Gy_iload_16, at_146_773, cat_n, cat_i, cat_r, cat_l, tl_i, tl_l, tl_n, y_sh, y_shh, at_146_776, Gy_iconst, kc_1, jy_146_777, Nat.reduceAdd, Nat.reduceMul, Nat.reduceLeDiff, Nat.reduceSub, decide_true, decide_false, Bool.toNat_true, Bool.toNat_false, not_true_eq_false, not_false_eq_true, ite_not, true_and, and_true, if_true, if_false, ↓reduceIte, Bool.or_true, Bool.true_or, Bool.or_false, e2, zq_seen w1, hs]
        exact nx1 I1 J1 w1
      | true =>
        have k1 := k7 f hfn
        have k2 := k7 n hn
        simp (disch := first | omega | assumption | exact yrt_146 | fail) only [yrt_146, ab_kl_n, ab_kl_i, ab_kl_r, ab_kl_l, at_146_761, Gy_istore_17, ab_put_int_17, at_146_763, Gy_iload_17, jy_146_765, q_le, q_lt, q_eq, n_leT, n_leF, n_ltT, n_ltF, n_eqF, n_b0, at_146_768, Gy_aload_1, at_146_769, at_146_771, Gy_iload_16, at_146_773, cat_n, cat_i, cat_r, cat_l, tl_i, tl_l, tl_n, y_sh, y_shh, at_146_776, Gy_iconst, kc_1, jy_146_777, at_146_780, at_146_781, Gy_iload_15, at_146_783, Gy_bipush, kb_9, at_146_785, at_146_787, at_146_789, kc_0, Nat.reduceAdd, Nat.reduceMul, Nat.reduceLeDiff, Nat.reduceSub, decide_true, decide_false, Bool.toNat_true, Bool.toNat_false, not_true_eq_false, not_false_eq_true, ite_not, true_and, and_true, if_true, if_false, ↓reduceIte, Bool.or_true, Bool.true_or, Bool.or_false, e2, zq_seen w1, hs]
        refine z_agree w1 o (by omega) hfn hn (fun k m' e => ?_) (by simp only [cat_n, cat_i, cat_r, cat_l]; omega) fun I3 J3 w3 => ?_
        · cases e
          exact ⟨hfn, hn, by omega, by omega, hs, Or.inr hf⟩
        · simp (disch := first | omega | assumption | exact yrt_146 | fail) only [yrt_146, ab_kl_n, ab_kl_i, ab_kl_r, ab_kl_l, jy_146_793, q_le, q_lt, q_eq, n_leT, n_leF, n_ltT, n_ltF, n_eqF, n_b0, Nat.reduceAdd, Nat.reduceMul, Nat.reduceLeDiff, Nat.reduceSub, decide_true, decide_false, Bool.toNat_true, Bool.toNat_false, not_true_eq_false, not_false_eq_true, ite_not, true_and, and_true, if_true, if_false, ↓reduceIte, Bool.or_true, Bool.true_or, Bool.or_false]
          exact nx1 I3 J3 w3
    | inr v =>
      have e1 : nmI (Sum.inr v) = -4 := rfl
      have e2 : (-4 : Int32) < nI 0 := by decide
      rw [e1]
      simp (disch := first | omega | assumption | exact yrt_146 | fail) only [yrt_146, ab_kl_n, ab_kl_i, ab_kl_r, ab_kl_l, at_146_761, Gy_istore_17, ab_put_int_17, at_146_763, Gy_iload_17, jy_146_765, q_le, q_lt, q_eq, n_leT, n_leF, n_ltT, n_ltF, n_eqF, n_b0, Nat.reduceAdd, Nat.reduceMul, Nat.reduceLeDiff, Nat.reduceSub, decide_true, decide_false, Bool.toNat_true, Bool.toNat_false, not_true_eq_false, not_false_eq_true, ite_not, true_and, and_true, if_true, if_false, ↓reduceIte, Bool.or_true, Bool.true_or, Bool.or_false, e2]
      exact nx I1 J1 _ l18 w1
theorem f_agr (hx : xs.length ≤ 260) (ht : tn < 2) (o : OZ A) (w : WL8 s A I0 J0 I J) (k7 : ∀ n, n < A 0 1 → A 10 n ≤ 7) {l13 l15 l16 l17 l18 l19 l20 l21 l22 l23 : Option Value} (hl : OKL [l17, l18]) {x14 : Int32} (K : ∀ I' J' x15 l17 l18, OKL [l17, l18] → WL8 s A I0 J0 I' J' → Gy xs (ab_at 146 867) 146 867 [some (.ref 2000), some (.ref 0), some (.ref 199), some (.ref 200), some (.ref 201), some (.ref 202), some (.ref 203), some (.ref 204), some (.ref 205), some (.ref 206), some (.ref 207), some (.int (nI (A 0 1))), some (.int (nI tn)), l13, some (.int x14), some (.int x15), some (.int (nI (A 0 1))), l17, l18, l19, l20, l21, l22, l23] [] (SH ++ E, I', J') Q) :
    Gy xs (ab_at 146 730) 146 730 [some (.ref 2000), some (.ref 0), some (.ref 199), some (.ref 200), some (.ref 201), some (.ref 202), some (.ref 203), some (.ref 204), some (.ref 205), some (.ref 206), some (.ref 207), some (.int (nI (A 0 1))), some (.int (nI tn)), l13, some (.int x14), l15, l16, l17, l18, l19, l20, l21, l22, l23] [] (SH ++ E, I, J) Q := by
  have n20 := W_N w
  simp (disch := first | omega | assumption | exact yrt_146 | exact y_ok2 | fail) only [yrt_146, ab_kl_n, ab_kl_i, ab_kl_r, ab_kl_l, at_146_730, Gy_aload_0, at_146_731, Gy_bipush, kb_33, at_146_733, Gy_iload_12, at_146_735, Gy_iadd, q_add, Nat.zero_add, at_146_736, cy_73, cat_n, cat_i, cat_r, cat_l, tl_i, tl_l, tl_n, y_sh, y_shh, at_146_739, Gy_sipush, ks_7919, at_146_742, Gy_imul, q_mul, at_146_743, Gy_istore_15, ab_put_int_15, at_146_745, Gy_iconst, kc_0, at_146_746, Gy_istore_16, ab_put_int_16, Nat.reduceAdd, Nat.reduceMul, Nat.reduceLeDiff, Nat.reduceSub, decide_true, decide_false, Bool.toNat_true, Bool.toNat_false, not_true_eq_false, not_false_eq_true, ite_not, true_and, and_true, if_true, if_false, ↓reduceIte, Bool.or_true, Bool.true_or, Bool.or_false, y_cell hx]
  exact f_agn o k7 (fun I1 J1 l17 l18 hl w1 => K I1 J1 _ l17 l18 hl w1) _ 0 I J _ _ hl (Nat.zero_add _) w
end LWG
