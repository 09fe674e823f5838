section FST
variable {I : Nat → Nat → Int32} {J : Nat → Nat → Int64} {Q : Option Value → ab_H → Prop} {A : Nat → Nat → Nat} {p : Nat}
theorem x_hasBit {a n : Nat} (ha : a < 2147483648) (hn : n < 32) : Ex 130 [.int (nI a), .int (nI n)] (SH, I, J) Q = Q (some (.int (nI (a.testBit n).toNat))) (SH, I, J) := by
  rw [en_130]
  simp (disch := first | omega | assumption | exact own_130 | exact rt_130 | exact q_lt1 (hb _ _) | exact bt_lt _ | fail) only [own_130, rt_130, ab_kl_n, ab_kl_i, ab_kl_r, ab_kl_l, at_130_0, Go_iload_0, at_130_1, Go_iload_1, at_130_2, Go_ishr, q_hb, at_130_3, Go_iconst, kc_1, at_130_4, Go_iand, jt_130_5, q_le, q_lt, q_eq, n_leT, n_leF, n_ltT, n_ltF, n_eqF, n_b0, at_130_8, jt_130_9, at_130_12, kc_0, at_130_13, Go_retb, Go_retb0, Go_retb1, Nat.reduceAdd, Nat.reduceMul, Nat.reduceLeDiff, Nat.reduceSub, not_true_eq_false, not_false_eq_true, ite_not, true_and, and_true, if_true, if_false, reduceIte, Bool.or_true, Bool.true_or, Bool.or_false]
  cases a.testBit n <;> rfl
theorem x_hasName (hp : isP p) (hb : WB A) (h : PC p I A) (x : Int32) : Ex 46 [.ref p, .int x] (SH, I, J) Q = Q (some (.int (nI (decide (nI 0 ≤ x ∧ x < nI (A 0 1))).toNat))) (SH, I, J) := by
  have e1 := h.2.1
  rw [en_46]
  simp (disch := first | omega | assumption | exact own_46 | exact rt_46 | exact q_lt1 (hb _ _) | exact bt_lt _ | fail) only [own_46, rt_46, ab_kl_n, ab_kl_i, ab_kl_r, ab_kl_l, at_46_0, Go_iload_1, jt_46_1, q_le, q_lt, q_eq, n_leT, n_leF, n_ltT, n_ltF, n_eqF, n_b0, at_46_4, at_46_5, Go_aload_0, at_46_6, Go_getf, fl_3_64, gg_3_1, sh_ref, sh_rf, jt_46_9, at_46_12, Go_iconst, kc_1, jt_46_13, at_46_16, kc_0, at_46_17, Go_retb, Go_retb0, Go_retb1, Nat.reduceAdd, Nat.reduceMul, Nat.reduceLeDiff, Nat.reduceSub, not_true_eq_false, not_false_eq_true, ite_not, true_and, and_true, if_true, if_false, reduceIte, Bool.or_true, Bool.true_or, Bool.or_false, pr_0 hp, e1]
  by_cases c1 : x < nI 0
  · simp [c1, Int32.not_le.mpr c1]
  · by_cases c2 : nI (A 0 1) ≤ x
    · simp [c1, c2, Int32.not_lt.mpr c2]
    · simp [c1, c2, Int32.not_lt.mp c1, Int32.not_le.mp c2]
set_option maxHeartbeats 1000000 in
theorem x_isSeen (hp : isP p) (hb : WB A) (hr : WR A) (h : PC p I A) (hg : PG p I A) {n m : Nat} (hn : n < A 0 1) (hm : m < A 0 1) : Ex 55 [.ref p, .int (nI n), .int (nI m)] (SH, I, J) Q = Q (some (.int (nI (sn A n m).toNat))) (SH, I, J) := by
  have hp2 := p_lt hp
  obtain ⟨r1, r2, r3, r4⟩ := hr
  obtain ⟨e0, e1, e2, e3, e4, e5, e6, e7, e8, e9, e10, e11, e12⟩ := h
  obtain ⟨g1, g2, g3⟩ := hg
  have a1 := (r4 n hn).2.1
  have a2 := (r4 m hm).2.1
  have k3 := (r3 _ a2).2.2.2.2.2.2.1
  rw [en_55]
  simp (disch := first | omega | assumption | exact own_55 | exact rt_55 | exact q_lt1 (hb _ _) | exact bt_lt _ | fail) only [own_55, rt_55, ab_kl_n, ab_kl_i, ab_kl_r, ab_kl_l, at_55_0, Go_aload_0, at_55_1, Go_getf, fl_3_44, gg_3_12, sh_ref, sh_rf, at_55_4, Go_iload_1, at_55_5, Go_iaload, sh_ln, q_in, q_cl, at_55_6, at_55_7, at_55_10, Go_iload_2, at_55_11, jt_55_12, q_le, q_lt, q_eq, n_leT, n_leF, n_ltT, n_ltF, n_eqF, n_b0, at_55_15, at_55_16, jt_55_17, at_55_20, Go_iconst, kc_1, jt_55_21, at_55_24, kc_0, jt_55_25, at_55_28, at_55_29, fl_3_38, gg_3_10, at_55_32, at_55_33, at_55_36, at_55_37, at_55_38, at_55_39, at_55_40, at_55_43, at_55_44, at_55_45, cl_3_77, cat_n, cat_i, cat_r, cat_l, tl_i, tl_l, tl_n, sh_same, at_55_48, Go_retb, Go_retb0, Go_retb1, Nat.reduceAdd, Nat.reduceMul, Nat.reduceLeDiff, Nat.reduceSub, not_true_eq_false, not_false_eq_true, ite_not, true_and, and_true, if_true, if_false, reduceIte, Bool.or_true, Bool.true_or, Bool.or_false, pr_0 hp, pf_12 hp, pr_17 hp, pn_17 hp, e9, pf_10 hp, pr_15 hp, pn_15 hp, g3, x_hasBit]
  unfold sn
  by_cases c1 : A 11 n = A 11 m
  · by_cases c2 : n < m
    · simp [c1, c2, Nat.not_le.mpr c2]
    · simp [c1, c2, Nat.not_lt.mp c2]
  · simp [c1]
set_option maxHeartbeats 1000000 in
theorem x_countKind (hp : isP p) (hb : WB A) (hr : WR A) (h : PC p I A) (hg : PG p I A) {k : Nat} (hk : k < 1000) : Ex 61 [.ref p, .int (nI k)] (SH, I, J) Q = Q (some (.int (nI (cn (fun n => decide (A 10 n = k)) (A 0 1))))) (SH, I, J) := by
  have hp2 := p_lt hp
  obtain ⟨r1, r2, r3, r4⟩ := hr
  obtain ⟨e0, e1, e2, e3, e4, e5, e6, e7, e8, e9, e10, e11, e12⟩ := h
  obtain ⟨g1, g2, g3⟩ := hg
  rw [en_61]
  simp (disch := first | omega | assumption | exact own_61 | exact rt_61 | exact q_lt1 (hb _ _) | exact bt_lt _ | fail) only [own_61, rt_61, ab_kl_n, ab_kl_i, ab_kl_r, ab_kl_l, at_61_0, Go_iconst, kc_0, at_61_1, Go_istore_2, ab_put_int_2, at_61_2, at_61_3, Go_istore_3, ab_put_int_3, Go_iload_3, at_61_5, Go_aload_0, at_61_6, Go_getf, fl_3_64, gg_3_1, sh_ref, sh_rf, jt_61_9, q_le, q_lt, q_eq, n_leT, n_leF, n_ltT, n_ltF, n_eqF, n_b0, at_61_12, at_61_13, fl_3_41, gg_3_11, at_61_16, at_61_17, Go_iaload, sh_ln, q_in, q_cl, at_61_18, Go_iload_1, jt_61_19, at_61_22, Go_iinc_2, kc_1, q_add, at_61_25, Go_iinc_3, jt_61_28, at_61_31, Go_iload_2, at_61_32, Go_reti, Nat.reduceAdd, Nat.reduceMul, Nat.reduceLeDiff, Nat.reduceSub, not_true_eq_false, not_false_eq_true, ite_not, true_and, and_true, if_true, if_false, reduceIte, Bool.or_true, Bool.true_or, Bool.or_false, pr_0 hp, e1, pf_11 hp, pr_16 hp, pn_16 hp, e8]
  refine lp_eq (N := A 0 1) (fun i => Go (ab_at 61 4) 61 4 [some (.ref p), some (.int (nI (k))), some (.int (nI (cn (fun n => decide (A 10 n = k)) i))), some (.int (nI (i)))] [] (SH, I, J) Q) ?_ (fun i hi => ?_)
  · refine Eq.trans (show Go (ab_at 61 4) 61 4 _ _ _ _ = Go (some (.iload_n 3, 1)) 61 4 _ _ _ _ from by rw [at_61_4]) ?_
    simp (disch := first | omega | assumption | exact own_61 | exact rt_61 | exact q_lt1 (hb _ _) | exact bt_lt _ | fail) only [own_61, rt_61, ab_kl_n, ab_kl_i, ab_kl_r, ab_kl_l, at_61_0, Go_iconst, kc_0, at_61_1, Go_istore_2, ab_put_int_2, at_61_2, at_61_3, Go_istore_3, ab_put_int_3, Go_iload_3, at_61_5, Go_aload_0, at_61_6, Go_getf, fl_3_64, gg_3_1, sh_ref, sh_rf, jt_61_9, q_le, q_lt, q_eq, n_leT, n_leF, n_ltT, n_ltF, n_eqF, n_b0, at_61_12, at_61_13, fl_3_41, gg_3_11, at_61_16, at_61_17, Go_iaload, sh_ln, q_in, q_cl, at_61_18, Go_iload_1, jt_61_19, at_61_22, Go_iinc_2, kc_1, q_add, at_61_25, Go_iinc_3, jt_61_28, at_61_31, Go_iload_2, at_61_32, Go_reti, Nat.reduceAdd, Nat.reduceMul, Nat.reduceLeDiff, Nat.reduceSub, not_true_eq_false, not_false_eq_true, ite_not, true_and, and_true, if_true, if_false, reduceIte, Bool.or_true, Bool.true_or, Bool.or_false, pr_0 hp, e1, pf_11 hp, pr_16 hp, pn_16 hp, e8]
  · refine Eq.trans (show Go (ab_at 61 4) 61 4 _ _ _ _ = Go (some (.iload_n 3, 1)) 61 4 _ _ _ _ from by rw [at_61_4]) ?_
    simp (disch := first | omega | assumption | exact own_61 | exact rt_61 | exact q_lt1 (hb _ _) | exact bt_lt _ | fail) only [own_61, rt_61, ab_kl_n, ab_kl_i, ab_kl_r, ab_kl_l, at_61_0, Go_iconst, kc_0, at_61_1, Go_istore_2, ab_put_int_2, at_61_2, at_61_3, Go_istore_3, ab_put_int_3, Go_iload_3, at_61_5, Go_aload_0, at_61_6, Go_getf, fl_3_64, gg_3_1, sh_ref, sh_rf, jt_61_9, q_le, q_lt, q_eq, n_leT, n_leF, n_ltT, n_ltF, n_eqF, n_b0, at_61_12, at_61_13, fl_3_41, gg_3_11, at_61_16, at_61_17, Go_iaload, sh_ln, q_in, q_cl, at_61_18, Go_iload_1, jt_61_19, at_61_22, Go_iinc_2, kc_1, q_add, at_61_25, Go_iinc_3, jt_61_28, at_61_31, Go_iload_2, at_61_32, Go_reti, Nat.reduceAdd, Nat.reduceMul, Nat.reduceLeDiff, Nat.reduceSub, not_true_eq_false, not_false_eq_true, ite_not, true_and, and_true, if_true, if_false, reduceIte, Bool.or_true, Bool.true_or, Bool.or_false, pr_0 hp, e1, pf_11 hp, pr_16 hp, pn_16 hp, e8]
    by_cases c : A 10 i = k <;> simp [c, cn]
end FST
