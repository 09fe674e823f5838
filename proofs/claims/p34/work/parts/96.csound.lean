/-! THE TEXT: is it sound, the class -/
section CSO
variable {I I' : Nat → Nat → Int32} {J J' : Nat → Nat → Int64} {Q : Option Value → ab_H → Prop} {A : DD} {n m b : Nat}
theorem y_hasName (h1 : I 4 1 = nI (A 0 1)) (ha : A 0 1 < 1000) (hm : m < 1000) : Ex 46 [.ref 4, .int (nI m)] (SH, I, J) Q = Q (some (.int (nI (decide (m < A 0 1)).toNat))) (SH, I, J) := by
  have hp : isP 4 := Or.inl rfl
  rw [en_46]
  by_cases c : m < A 0 1
  · have c' : ¬ A 0 1 ≤ m := by omega
    rw [decide_eq_true c]
    simp (disch := first | omega | assumption | exact own_46 | exact rt_46 | exact q_lt1 (hb _ _) | exact bt_lt _ | fail) only [own_46, rt_46, ab_kl_n, ab_kl_i, ab_kl_r, ab_kl_l, at_46_0, Go_iload_1, jt_46_1, q_le, q_lt, q_eq, n_leT, n_leF, n_ltT, n_ltF, n_eqF, n_b0, at_46_4, at_46_5, Go_aload_0, at_46_6, Go_getf, fl_3_64, gg_3_1, sh_ref, sh_rf, jt_46_9, at_46_12, Go_iconst, kc_1, jt_46_13, at_46_16, kc_0, at_46_17, Go_retb, Go_retb0, Go_retb1, Nat.reduceAdd, Nat.reduceMul, Nat.reduceLeDiff, Nat.reduceSub, decide_true, decide_false, Bool.toNat_true, Bool.toNat_false, not_true_eq_false, not_false_eq_true, ite_not, true_and, and_true, if_true, if_false, ↓reduceIte, Bool.or_true, Bool.true_or, Bool.or_false, pr_0 hp, h1, c, c']
  · have c' : A 0 1 ≤ m := by omega
    rw [decide_eq_false c]
    simp (disch := first | omega | assumption | exact own_46 | exact rt_46 | exact q_lt1 (hb _ _) | exact bt_lt _ | fail) only [own_46, rt_46, ab_kl_n, ab_kl_i, ab_kl_r, ab_kl_l, at_46_0, Go_iload_1, jt_46_1, q_le, q_lt, q_eq, n_leT, n_leF, n_ltT, n_ltF, n_eqF, n_b0, at_46_4, at_46_5, Go_aload_0, at_46_6, Go_getf, fl_3_64, gg_3_1, sh_ref, sh_rf, jt_46_9, at_46_12, Go_iconst, kc_1, jt_46_13, at_46_16, kc_0, at_46_17, Go_retb, Go_retb0, Go_retb1, Nat.reduceAdd, Nat.reduceMul, Nat.reduceLeDiff, Nat.reduceSub, decide_true, decide_false, Bool.toNat_true, Bool.toNat_false, not_true_eq_false, not_false_eq_true, ite_not, true_and, and_true, if_true, if_false, ↓reduceIte, Bool.or_true, Bool.true_or, Bool.or_false, pr_0 hp, h1, c, c']
theorem y_isSeenAtEnd (w : DW false A) (d : DC false A I) (g : PG 4 I (shp A)) (hm : m < A 0 1) (hb : b < A 0 0) : Ex 56 [.ref 4, .int (nI m), .int (nI b)] (SH, I, J) Q = Q (some (.int (nI (se (shp A) m b).toNat))) (SH, I, J) := by
  have hp : isP 4 := Or.inl rfl
  have e9 : I (4 + 17) m = nI (A 11 m) := (d.2.2.2 m hm).2.1
  have e00 : shp A 0 0 = A 0 0 := sh_o (by omega)
  have g3 := g.2.2 b (by omega)
  have b1 := w.1
  have b2 := (w.2.2.2.2.2.2 m hm).2.1
  have b3 : shp A 9 b < 64 := by rw [sh_9]; exact (dbs_spec b1.1 b).1
  have es : se (shp A) m b = (shp A 9 b).testBit (A 11 m) := by unfold se; rw [sh_o (f := 11) (by omega)]
  rw [en_56, es]
  simp (disch := first | omega | assumption | exact own_56 | exact rt_56 | exact q_lt1 (hb _ _) | exact bt_lt _ | fail) only [own_56, rt_56, ab_kl_n, ab_kl_i, ab_kl_r, ab_kl_l, at_56_0, Go_aload_0, at_56_1, Go_getf, fl_3_38, gg_3_10, sh_ref, sh_rf, at_56_4, Go_iload_2, at_56_5, Go_iaload, sh_ln, q_in, q_cl, at_56_6, at_56_7, fl_3_44, gg_3_12, at_56_10, Go_iload_1, at_56_11, at_56_12, cl_3_77, cat_n, cat_i, cat_r, cat_l, tl_i, tl_l, tl_n, sh_same, at_56_15, Go_retb, Go_retb0, Go_retb1, Nat.reduceAdd, Nat.reduceMul, Nat.reduceLeDiff, Nat.reduceSub, decide_true, decide_false, Bool.toNat_true, Bool.toNat_false, not_true_eq_false, not_false_eq_true, ite_not, true_and, and_true, if_true, if_false, ↓reduceIte, Bool.or_true, Bool.true_or, Bool.or_false, pr_0 hp, pf_10 hp, pr_15 hp, pn_15 hp, pf_12 hp, pr_17 hp, pn_17 hp, e9, g3, x_hasBit]
theorem y_isSeen (w : DW false A) (d : DC false A I) (g : PG 4 I (shp A)) (hn : n < A 0 1) (hm : m < A 0 1) : Ex 55 [.ref 4, .int (nI n), .int (nI m)] (SH, I, J) Q = Q (some (.int (nI (sn (shp A) n m).toNat))) (SH, I, J) := by
  have hp : isP 4 := Or.inl rfl
  have e9 : I (4 + 17) m = nI (A 11 m) := (d.2.2.2 m hm).2.1
  have e9n : I (4 + 17) n = nI (A 11 n) := (d.2.2.2 n hn).2.1
  have e00 : shp A 0 0 = A 0 0 := sh_o (by omega)
  have b1 := w.1
  have b2 := (w.2.2.2.2.2.2 m hm).2.1
  have b2n := (w.2.2.2.2.2.2 n hn).2.1
  have g3 := g.2.2 (A 11 m) (by omega)
  have b3 : shp A 9 (A 11 m) < 64 := by rw [sh_9]; exact (dbs_spec b1.1 _).1
  have es : sn (shp A) n m = if A 11 n = A 11 m then decide (n < m) else (shp A 9 (A 11 m)).testBit (A 11 n) := by unfold sn; rw [sh_o (f := 11) (by omega), sh_o (f := 11) (by omega)]
  rw [en_55, es]
  by_cases c1 : A 11 n = A 11 m
  · rw [if_pos c1]
    by_cases c2 : n < m
    · have c2' : ¬ m ≤ n := by omega
      rw [decide_eq_true c2]
      simp (disch := first | omega | assumption | exact own_55 | exact rt_55 | exact q_lt1 (hb _ _) | exact bt_lt _ | fail) only [own_55, rt_55, ab_kl_n, ab_kl_i, ab_kl_r, ab_kl_l, at_55_0, Go_aload_0, at_55_1, Go_getf, fl_3_44, gg_3_12, sh_ref, sh_rf, at_55_4, Go_iload_1, at_55_5, Go_iaload, sh_ln, q_in, q_cl, at_55_6, at_55_7, at_55_10, Go_iload_2, at_55_11, jt_55_12, q_le, q_lt, q_eq, n_leT, n_leF, n_ltT, n_ltF, n_eqF, n_b0, at_55_15, at_55_16, jt_55_17, at_55_20, Go_iconst, kc_1, jt_55_21, at_55_24, kc_0, jt_55_25, at_55_28, at_55_29, fl_3_38, gg_3_10, at_55_32, at_55_33, at_55_36, at_55_37, at_55_38, at_55_39, at_55_40, at_55_43, at_55_44, at_55_45, cl_3_77, cat_n, cat_i, cat_r, cat_l, tl_i, tl_l, tl_n, sh_same, at_55_48, Go_retb, Go_retb0, Go_retb1, Nat.reduceAdd, Nat.reduceMul, Nat.reduceLeDiff, Nat.reduceSub, decide_true, decide_false, Bool.toNat_true, Bool.toNat_false, not_true_eq_false, not_false_eq_true, ite_not, true_and, and_true, if_true, if_false, ↓reduceIte, Bool.or_true, Bool.true_or, Bool.or_false, pr_0 hp, pf_12 hp, pr_17 hp, pn_17 hp, e9, e9n, c1, c2, c2']
    · have c2' : m ≤ n := by omega
      rw [decide_eq_false c2]
      simp (disch := first | omega | assumption | exact own_55 | exact rt_55 | exact q_lt1 (hb _ _) | exact bt_lt _ | fail) only [own_55, rt_55, ab_kl_n, ab_kl_i, ab_kl_r, ab_kl_l, at_55_0, Go_aload_0, at_55_1, Go_getf, fl_3_44, gg_3_12, sh_ref, sh_rf, at_55_4, Go_iload_1, at_55_5, Go_iaload, sh_ln, q_in, q_cl, at_55_6, at_55_7, at_55_10, Go_iload_2, at_55_11, jt_55_12, q_le, q_lt, q_eq, n_leT, n_leF, n_ltT, n_ltF, n_eqF, n_b0, at_55_15, at_55_16, jt_55_17, at_55_20, Go_iconst, kc_1, jt_55_21, at_55_24, kc_0, jt_55_25, at_55_28, at_55_29, fl_3_38, gg_3_10, at_55_32, at_55_33, at_55_36, at_55_37, at_55_38, at_55_39, at_55_40, at_55_43, at_55_44, at_55_45, cl_3_77, cat_n, cat_i, cat_r, cat_l, tl_i, tl_l, tl_n, sh_same, at_55_48, Go_retb, Go_retb0, Go_retb1, Nat.reduceAdd, Nat.reduceMul, Nat.reduceLeDiff, Nat.reduceSub, decide_true, decide_false, Bool.toNat_true, Bool.toNat_false, not_true_eq_false, not_false_eq_true, ite_not, true_and, and_true, if_true, if_false, ↓reduceIte, Bool.or_true, Bool.true_or, Bool.or_false, pr_0 hp, pf_12 hp, pr_17 hp, pn_17 hp, e9, e9n, c1, c2, c2']
  · rw [if_neg c1]
    simp (disch := first | omega | assumption | exact own_55 | exact rt_55 | exact q_lt1 (hb _ _) | exact bt_lt _ | fail) only [own_55, rt_55, ab_kl_n, ab_kl_i, ab_kl_r, ab_kl_l, at_55_0, Go_aload_0, at_55_1, Go_getf, fl_3_44, gg_3_12, sh_ref, sh_rf, at_55_4, Go_iload_1, at_55_5, Go_iaload, sh_ln, q_in, q_cl, at_55_6, at_55_7, at_55_10, Go_iload_2, at_55_11, jt_55_12, q_le, q_lt, q_eq, n_leT, n_leF, n_ltT, n_ltF, n_eqF, n_b0, at_55_15, at_55_16, jt_55_17, at_55_20, Go_iconst, kc_1, jt_55_21, at_55_24, kc_0, jt_55_25, at_55_28, at_55_29, fl_3_38, gg_3_10, at_55_32, at_55_33, at_55_36, at_55_37, at_55_38, at_55_39, at_55_40, at_55_43, at_55_44, at_55_45, cl_3_77, cat_n, cat_i, cat_r, cat_l, tl_i, tl_l, tl_n, sh_same, at_55_48, Go_retb, Go_retb0, Go_retb1, Nat.reduceAdd, Nat.reduceMul, Nat.reduceLeDiff, Nat.reduceSub, decide_true, decide_false, Bool.toNat_true, Bool.toNat_false, not_true_eq_false, not_false_eq_true, ite_not, true_and, and_true, if_true, if_false, ↓reduceIte, Bool.or_true, Bool.true_or, Bool.or_false, pr_0 hp, pf_10 hp, pr_15 hp, pn_15 hp, pf_12 hp, pr_17 hp, pn_17 hp, e9, e9n, c1, g3, x_hasBit]
theorem y_isSeenByOperand (w : DW false A) (d : DC false A I) (g : PG 4 I (shp A)) (hn : n < A 0 1) (hm : m < A 0 1) {i : Nat} (hi : i < A 12 n) (h7 : A 10 n = 7 → A 12 n = shp A 7 (A 11 n)) : Ex 57 [.ref 4, .int (nI m), .int (nI n), .int (nI i)] (SH, I, J) Q = Q (some (.int (nI (so (shp A) m n i).toNat))) (SH, I, J) := by
  have hp : isP 4 := Or.inl rfl
  have dn := d.2.2.2 n hn
  have e8 : I (4 + 16) n = nI (A 10 n) := dn.1
  have e9 : I (4 + 17) n = nI (A 11 n) := dn.2.1
  have e00 : shp A 0 0 = A 0 0 := sh_o (by omega)
  have b1 := w.1
  have wb := w.2.1 10 n
  have b2 := (w.2.2.2.2.2.2 n hn).2.1
  have g1 := g.1 (A 11 n) (by omega)
  have b7 : shp A 7 (A 11 n) ≤ 6 := by rw [sh_7]; exact Nat.le_trans (cn_le _ _) b1.1
  have eso : so (shp A) m n i = if A 10 n = 7 then se (shp A) m (shp A 8 (6 * A 11 n + i)) else sn (shp A) m n := by unfold so; rw [sh_o (f := 10) (by omega), sh_o (f := 11) (by omega)]
  rw [en_57, eso]
  by_cases c : A 10 n = 7
  · have h7 := h7 c
    have g2 := g.2.1 (A 11 n) i (by omega) (by omega)
    have c8 : shp A 8 (6 * A 11 n + i) < A 0 0 := by
      have hi2 : i < cn (fun c => edb A c (A 11 n)) (A 0 0) := by rw [← sh_7]; omega
      obtain ⟨c, k1, k2, k3⟩ := cn_surj hi2
      rw [← k3, sh_8 b1.1 k1 k2]; exact k1
    have s1 := fun Q => y_isSeenAtEnd (J := J) (Q := Q) (m := m) (b := shp A 8 (6 * A 11 n + i)) w d g hm c8
    have i7 : i < shp A 7 (A 11 n) := by omega
    have i7' : ¬ shp A 7 (A 11 n) ≤ i := by omega
    rw [if_pos c]
    simp (disch := first | omega | assumption | exact own_57 | exact rt_57 | exact pr_0 (by assumption) | exact q_lt1 (hb _ _) | exact bt_lt _ | fail) only [own_57, rt_57, ab_kl_n, ab_kl_i, ab_kl_r, ab_kl_l, at_57_0, Go_aload_0, at_57_1, Go_getf, fl_3_41, gg_3_11, sh_ref, sh_rf, at_57_4, Go_iload_2, at_57_5, Go_iaload, sh_ln, q_in, q_cl, at_57_6, Go_bipush, kb_7, jt_57_8, q_le, q_lt, q_eq, n_leT, n_leF, n_ltT, n_ltF, n_eqF, n_b0, at_57_11, at_57_12, Go_iload_1, at_57_13, at_57_14, cl_3_93, cat_n, cat_i, cat_r, cat_l, tl_i, tl_l, tl_n, sh_same, at_57_17, Go_retb, Go_retb0, Go_retb1, at_57_18, at_57_19, fl_3_44, gg_3_12, at_57_22, at_57_23, at_57_24, Go_istore_4, ab_put_int_4, at_57_26, Go_iload_3, at_57_27, at_57_28, fl_3_30, gg_3_8, at_57_31, Go_iload_4, at_57_33, jt_57_34, at_57_37, at_57_38, at_57_39, at_57_40, fl_3_35, gg_3_9, at_57_43, at_57_45, Go_aaload, at_57_46, at_57_47, at_57_48, cl_3_96, jt_57_51, at_57_54, Go_iconst, kc_1, jt_57_55, at_57_58, kc_0, at_57_59, Nat.reduceAdd, Nat.reduceMul, Nat.reduceLeDiff, Nat.reduceSub, decide_true, decide_false, Bool.toNat_true, Bool.toNat_false, not_true_eq_false, not_false_eq_true, ite_not, true_and, and_true, if_true, if_false, ↓reduceIte, Bool.or_true, Bool.true_or, Bool.or_false, pr_0 hp, pf_11 hp, pr_16 hp, pn_16 hp, pf_12 hp, pr_17 hp, pn_17 hp, pf_8 hp, pr_7 hp, pn_7 hp, pf_9 hp, pr_8 hp, pn_8 hp, prow hp, prow_r hp, prow_n hp, e8, e9, c, g1, g2, i7, i7', s1]
    cases se (shp A) m (shp A 8 (6 * A 11 n + i)) <;> rfl
  · have s1 := fun Q => y_isSeen (J := J) (Q := Q) w d g hm hn
    rw [if_neg c]
    simp (disch := first | omega | assumption | exact own_57 | exact rt_57 | exact pr_0 (by assumption) | exact q_lt1 (hb _ _) | exact bt_lt _ | fail) only [own_57, rt_57, ab_kl_n, ab_kl_i, ab_kl_r, ab_kl_l, at_57_0, Go_aload_0, at_57_1, Go_getf, fl_3_41, gg_3_11, sh_ref, sh_rf, at_57_4, Go_iload_2, at_57_5, Go_iaload, sh_ln, q_in, q_cl, at_57_6, Go_bipush, kb_7, jt_57_8, q_le, q_lt, q_eq, n_leT, n_leF, n_ltT, n_ltF, n_eqF, n_b0, at_57_11, at_57_12, Go_iload_1, at_57_13, at_57_14, cl_3_93, cat_n, cat_i, cat_r, cat_l, tl_i, tl_l, tl_n, sh_same, at_57_17, Go_retb, Go_retb0, Go_retb1, at_57_18, at_57_19, fl_3_44, gg_3_12, at_57_22, at_57_23, at_57_24, Go_istore_4, ab_put_int_4, at_57_26, Go_iload_3, at_57_27, at_57_28, fl_3_30, gg_3_8, at_57_31, Go_iload_4, at_57_33, jt_57_34, at_57_37, at_57_38, at_57_39, at_57_40, fl_3_35, gg_3_9, at_57_43, at_57_45, Go_aaload, at_57_46, at_57_47, at_57_48, cl_3_96, jt_57_51, at_57_54, Go_iconst, kc_1, jt_57_55, at_57_58, kc_0, at_57_59, Nat.reduceAdd, Nat.reduceMul, Nat.reduceLeDiff, Nat.reduceSub, decide_true, decide_false, Bool.toNat_true, Bool.toNat_false, not_true_eq_false, not_false_eq_true, ite_not, true_and, and_true, if_true, if_false, ↓reduceIte, Bool.or_true, Bool.true_or, Bool.or_false, pr_0 hp, pf_11 hp, pr_16 hp, pn_16 hp, e8, c, s1]
theorem y_areOperandsSound (w : DW false A) (d : DC false A I) (g : PG 4 I (shp A)) (hn : n < A 0 1) (K1 : NSn A n → Q (some (.int (nI 1))) (SH, I, J)) (K2 : ¬ NSn A n → Q (some (.int (nI 0))) (SH, I, J)) : Ex 59 [.ref 4, .int (nI n)] (SH, I, J) Q := by
  have hp : isP 4 := Or.inl rfl
  have dn := d.2.2.2 n hn
  have e8 : I (4 + 16) n = nI (A 10 n) := dn.1
  have e9 : I (4 + 17) n = nI (A 11 n) := dn.2.1
  have e10 : I (4 + 18) n = nI (A 12 n) := dn.2.2.1
  have e00 : shp A 0 0 = A 0 0 := sh_o (by omega)
  have b1 := w.1
  have wb := w.2.1
  have wb10 := wb 10 n
  have wb12 := wb 12 n
  have dw := w.2.2.2.2.2.2 n hn
  have b2 := dw.2.1
  have g1 := g.1 (A 11 n) (by omega)
  have b7 : shp A 7 (A 11 n) ≤ 6 := by rw [sh_7]; exact Nat.le_trans (cn_le _ _) b1.1
  have main : (A 10 n = 7 → A 12 n = shp A 7 (A 11 n)) → Go (ab_at 59 35) 59 35 [some (.ref 4), some (.int (nI (n))), some (.int (nI (0))), none] []  (SH, I, J) Q := by
    intro h7
    have l6 : A 12 n ≤ 6 := by
      obtain ⟨k1, k2, k3, k4, k5, k6, k7, k8⟩ := dw
      by_cases z : A 10 n = 7
      · have := h7 z; omega
      · by_cases z2 : A 10 n ≤ 1
        · have := k3 z2; omega
        · by_cases z3 : A 10 n = 4
          · have := k4 z3; omega
          · have := k5 (by omega) (by omega) z3; omega
    have e12 : ∀ i, i < A 12 n → I (4 + 21 + n) i = nI (A 14 (6 * n + i)) := fun i hi => dn.2.2.2.2 l6 i hi
    suffices hl : ∀ k i, i + k = A 12 n → (∀ j, j < i → A 14 (6 * n + j) < A 0 1 ∧ so (shp A) (A 14 (6 * n + j)) n j = true) → ∀ v, Go (ab_at 59 35) 59 35 [some (.ref 4), some (.int (nI (n))), some (.int (nI (i))), v] []  (SH, I, J) Q by
      exact hl (A 12 n) 0 (by omega) (fun j hj => absurd hj (Nat.not_lt_zero j)) none
    intro k
    induction k with
    | zero =>
      intro i hi hj v
      have K0 := K1 ⟨h7, fun j h => hj j (by omega)⟩
      have c : A 12 n ≤ i := by omega
      rw [at_59_35]
      simp (disch := first | omega | assumption | exact own_59 | exact rt_59 | exact pr_0 (by assumption) | exact q_lt1 (hb _ _) | exact bt_lt _ | fail) only [own_59, rt_59, ab_kl_n, ab_kl_i, ab_kl_r, ab_kl_l, at_59_0, Go_aload_0, at_59_1, Go_getf, fl_3_41, gg_3_11, sh_ref, sh_rf, at_59_4, Go_iload_1, at_59_5, Go_iaload, sh_ln, q_in, q_cl, at_59_6, Go_bipush, kb_7, jt_59_8, q_le, q_lt, q_eq, n_leT, n_leF, n_ltT, n_ltF, n_eqF, n_b0, at_59_11, at_59_12, fl_3_47, gg_3_13, at_59_15, at_59_16, at_59_17, at_59_18, fl_3_30, gg_3_8, at_59_21, at_59_22, fl_3_44, gg_3_12, at_59_25, at_59_26, at_59_27, jt_59_28, at_59_31, Go_iconst, kc_0, at_59_32, Go_retb, Go_retb0, Go_retb1, at_59_33, at_59_34, Go_istore_2, ab_put_int_2, Go_iload_2, at_59_36, at_59_37, at_59_40, at_59_41, jt_59_42, at_59_45, at_59_46, fl_3_53, gg_3_15, at_59_49, at_59_50, Go_aaload, at_59_51, at_59_52, at_59_53, Go_istore_3, ab_put_int_3, at_59_54, at_59_55, Go_iload_3, at_59_56, cl_3_73, cat_n, cat_i, cat_r, cat_l, tl_i, tl_l, tl_n, sh_same, jt_59_59, at_59_62, at_59_63, at_59_64, at_59_65, at_59_66, cl_3_108, jt_59_69, at_59_72, at_59_73, at_59_74, Go_iinc_2, kc_1, q_add, jt_59_77, at_59_80, at_59_81, Nat.reduceAdd, Nat.reduceMul, Nat.reduceLeDiff, Nat.reduceSub, decide_true, decide_false, Bool.toNat_true, Bool.toNat_false, not_true_eq_false, not_false_eq_true, ite_not, true_and, and_true, if_true, if_false, ↓reduceIte, Bool.or_true, Bool.true_or, Bool.or_false, pr_0 hp, pf_13 hp, pr_18 hp, pn_18 hp, e10, c]
      exact K0
    | succ k ih =>
      intro i hi hj v
      have c : ¬ A 12 n ≤ i := by omega
      have e12i := e12 i (by omega)
      have w14 := wb 14 (6 * n + i)
      have s1 := fun Q => y_hasName (J := J) (Q := Q) (m := A 14 (6 * n + i)) d.1.2 (by omega) w14
      have i6 : i < 6 := by omega
      rw [at_59_35]
      by_cases c1 : A 14 (6 * n + i) < A 0 1
      · rw [decide_eq_true c1] at s1
        have s2 := fun Q => y_isSeenByOperand (J := J) (Q := Q) w d g hn c1 (show i < A 12 n by omega) h7
        cases c2 : so (shp A) (A 14 (6 * n + i)) n i with
        | true =>
          rw [c2] at s2
          have ih := ih (i + 1) (by omega) (fun j hj' => by
            by_cases z : j = i
            · subst z; exact ⟨c1, c2⟩
            · exact hj j (by omega)) (some (.int (nI (A 14 (6 * n + i)))))
          simp (disch := first | omega | assumption | exact own_59 | exact rt_59 | exact pr_0 (by assumption) | exact q_lt1 (hb _ _) | exact bt_lt _ | fail) only [own_59, rt_59, ab_kl_n, ab_kl_i, ab_kl_r, ab_kl_l, at_59_0, Go_aload_0, at_59_1, Go_getf, fl_3_41, gg_3_11, sh_ref, sh_rf, at_59_4, Go_iload_1, at_59_5, Go_iaload, sh_ln, q_in, q_cl, at_59_6, Go_bipush, kb_7, jt_59_8, q_le, q_lt, q_eq, n_leT, n_leF, n_ltT, n_ltF, n_eqF, n_b0, at_59_11, at_59_12, fl_3_47, gg_3_13, at_59_15, at_59_16, at_59_17, at_59_18, fl_3_30, gg_3_8, at_59_21, at_59_22, fl_3_44, gg_3_12, at_59_25, at_59_26, at_59_27, jt_59_28, at_59_31, Go_iconst, kc_0, at_59_32, Go_retb, Go_retb0, Go_retb1, at_59_33, at_59_34, Go_istore_2, ab_put_int_2, Go_iload_2, at_59_36, at_59_37, at_59_40, at_59_41, jt_59_42, at_59_45, at_59_46, fl_3_53, gg_3_15, at_59_49, at_59_50, Go_aaload, at_59_51, at_59_52, at_59_53, Go_istore_3, ab_put_int_3, at_59_54, at_59_55, Go_iload_3, at_59_56, cl_3_73, cat_n, cat_i, cat_r, cat_l, tl_i, tl_l, tl_n, sh_same, jt_59_59, at_59_62, at_59_63, at_59_64, at_59_65, at_59_66, cl_3_108, jt_59_69, at_59_72, at_59_73, at_59_74, Go_iinc_2, kc_1, q_add, jt_59_77, at_59_80, at_59_81, Nat.reduceAdd, Nat.reduceMul, Nat.reduceLeDiff, Nat.reduceSub, decide_true, decide_false, Bool.toNat_true, Bool.toNat_false, not_true_eq_false, not_false_eq_true, ite_not, true_and, and_true, if_true, if_false, ↓reduceIte, Bool.or_true, Bool.true_or, Bool.or_false, pr_0 hp, pf_13 hp, pr_18 hp, pn_18 hp, pf_15 hp, pr_20 hp, pn_20 hp, orow hp, orow_r hp, orow_n hp, e10, c, e12i, s1, s2, Bool.true_eq_false]
          exact ih
        | false =>
          rw [c2] at s2
          have K0 := K2 (fun z => by have := (z.2 i (by omega)).2; rw [c2] at this; cases this)
          simp (disch := first | omega | assumption | exact own_59 | exact rt_59 | exact pr_0 (by assumption) | exact q_lt1 (hb _ _) | exact bt_lt _ | fail) only [own_59, rt_59, ab_kl_n, ab_kl_i, ab_kl_r, ab_kl_l, at_59_0, Go_aload_0, at_59_1, Go_getf, fl_3_41, gg_3_11, sh_ref, sh_rf, at_59_4, Go_iload_1, at_59_5, Go_iaload, sh_ln, q_in, q_cl, at_59_6, Go_bipush, kb_7, jt_59_8, q_le, q_lt, q_eq, n_leT, n_leF, n_ltT, n_ltF, n_eqF, n_b0, at_59_11, at_59_12, fl_3_47, gg_3_13, at_59_15, at_59_16, at_59_17, at_59_18, fl_3_30, gg_3_8, at_59_21, at_59_22, fl_3_44, gg_3_12, at_59_25, at_59_26, at_59_27, jt_59_28, at_59_31, Go_iconst, kc_0, at_59_32, Go_retb, Go_retb0, Go_retb1, at_59_33, at_59_34, Go_istore_2, ab_put_int_2, Go_iload_2, at_59_36, at_59_37, at_59_40, at_59_41, jt_59_42, at_59_45, at_59_46, fl_3_53, gg_3_15, at_59_49, at_59_50, Go_aaload, at_59_51, at_59_52, at_59_53, Go_istore_3, ab_put_int_3, at_59_54, at_59_55, Go_iload_3, at_59_56, cl_3_73, cat_n, cat_i, cat_r, cat_l, tl_i, tl_l, tl_n, sh_same, jt_59_59, at_59_62, at_59_63, at_59_64, at_59_65, at_59_66, cl_3_108, jt_59_69, at_59_72, at_59_73, at_59_74, Go_iinc_2, kc_1, q_add, jt_59_77, at_59_80, at_59_81, Nat.reduceAdd, Nat.reduceMul, Nat.reduceLeDiff, Nat.reduceSub, decide_true, decide_false, Bool.toNat_true, Bool.toNat_false, not_true_eq_false, not_false_eq_true, ite_not, true_and, and_true, if_true, if_false, ↓reduceIte, Bool.or_true, Bool.true_or, Bool.or_false, pr_0 hp, pf_13 hp, pr_18 hp, pn_18 hp, pf_15 hp, pr_20 hp, pn_20 hp, orow hp, orow_r hp, orow_n hp, e10, c, e12i, s1, s2, Bool.true_eq_false]
          exact K0
      · rw [decide_eq_false c1] at s1
        have K0 := K2 (fun z => c1 (z.2 i (by omega)).1)
        simp (disch := first | omega | assumption | exact own_59 | exact rt_59 | exact pr_0 (by assumption) | exact q_lt1 (hb _ _) | exact bt_lt _ | fail) only [own_59, rt_59, ab_kl_n, ab_kl_i, ab_kl_r, ab_kl_l, at_59_0, Go_aload_0, at_59_1, Go_getf, fl_3_41, gg_3_11, sh_ref, sh_rf, at_59_4, Go_iload_1, at_59_5, Go_iaload, sh_ln, q_in, q_cl, at_59_6, Go_bipush, kb_7, jt_59_8, q_le, q_lt, q_eq, n_leT, n_leF, n_ltT, n_ltF, n_eqF, n_b0, at_59_11, at_59_12, fl_3_47, gg_3_13, at_59_15, at_59_16, at_59_17, at_59_18, fl_3_30, gg_3_8, at_59_21, at_59_22, fl_3_44, gg_3_12, at_59_25, at_59_26, at_59_27, jt_59_28, at_59_31, Go_iconst, kc_0, at_59_32, Go_retb, Go_retb0, Go_retb1, at_59_33, at_59_34, Go_istore_2, ab_put_int_2, Go_iload_2, at_59_36, at_59_37, at_59_40, at_59_41, jt_59_42, at_59_45, at_59_46, fl_3_53, gg_3_15, at_59_49, at_59_50, Go_aaload, at_59_51, at_59_52, at_59_53, Go_istore_3, ab_put_int_3, at_59_54, at_59_55, Go_iload_3, at_59_56, cl_3_73, cat_n, cat_i, cat_r, cat_l, tl_i, tl_l, tl_n, sh_same, jt_59_59, at_59_62, at_59_63, at_59_64, at_59_65, at_59_66, cl_3_108, jt_59_69, at_59_72, at_59_73, at_59_74, Go_iinc_2, kc_1, q_add, jt_59_77, at_59_80, at_59_81, Nat.reduceAdd, Nat.reduceMul, Nat.reduceLeDiff, Nat.reduceSub, decide_true, decide_false, Bool.toNat_true, Bool.toNat_false, not_true_eq_false, not_false_eq_true, ite_not, true_and, and_true, if_true, if_false, ↓reduceIte, Bool.or_true, Bool.true_or, Bool.or_false, pr_0 hp, pf_13 hp, pr_18 hp, pn_18 hp, pf_15 hp, pr_20 hp, pn_20 hp, orow hp, orow_r hp, orow_n hp, e10, c, e12i, s1]
        exact K0
  rw [en_59]
  by_cases c : A 10 n = 7
  · by_cases c2 : A 12 n = shp A 7 (A 11 n)
    · have mm := main (fun _ => c2)
      have c2T := eq_true c2
      simp (disch := first | omega | assumption | exact own_59 | exact rt_59 | exact pr_0 (by assumption) | exact q_lt1 (hb _ _) | exact bt_lt _ | fail) only [own_59, rt_59, ab_kl_n, ab_kl_i, ab_kl_r, ab_kl_l, at_59_0, Go_aload_0, at_59_1, Go_getf, fl_3_41, gg_3_11, sh_ref, sh_rf, at_59_4, Go_iload_1, at_59_5, Go_iaload, sh_ln, q_in, q_cl, at_59_6, Go_bipush, kb_7, jt_59_8, q_le, q_lt, q_eq, n_leT, n_leF, n_ltT, n_ltF, n_eqF, n_b0, at_59_11, at_59_12, fl_3_47, gg_3_13, at_59_15, at_59_16, at_59_17, at_59_18, fl_3_30, gg_3_8, at_59_21, at_59_22, fl_3_44, gg_3_12, at_59_25, at_59_26, at_59_27, jt_59_28, at_59_31, Go_iconst, kc_0, at_59_32, Go_retb, Go_retb0, Go_retb1, at_59_33, at_59_34, Go_istore_2, ab_put_int_2, Go_iload_2, at_59_36, at_59_37, at_59_40, at_59_41, jt_59_42, at_59_45, at_59_46, fl_3_53, gg_3_15, at_59_49, at_59_50, Go_aaload, at_59_51, at_59_52, at_59_53, Go_istore_3, ab_put_int_3, at_59_54, at_59_55, Go_iload_3, at_59_56, cl_3_73, cat_n, cat_i, cat_r, cat_l, tl_i, tl_l, tl_n, sh_same, jt_59_59, at_59_62, at_59_63, at_59_64, at_59_65, at_59_66, cl_3_108, jt_59_69, at_59_72, at_59_73, at_59_74, Go_iinc_2, kc_1, q_add, jt_59_77, at_59_80, at_59_81, Nat.reduceAdd, Nat.reduceMul, Nat.reduceLeDiff, Nat.reduceSub, decide_true, decide_false, Bool.toNat_true, Bool.toNat_false, not_true_eq_false, not_false_eq_true, ite_not, true_and, and_true, if_true, if_false, ↓reduceIte, Bool.or_true, Bool.true_or, Bool.or_false, pr_0 hp, pf_11 hp, pr_16 hp, pn_16 hp, pf_12 hp, pr_17 hp, pn_17 hp, pf_13 hp, pr_18 hp, pn_18 hp, pf_8 hp, pr_7 hp, pn_7 hp, e8, e9, e10, g1, c, c2T]
      exact mm
    · have K0 := K2 (fun z => c2 (z.1 c))
      have c2F := eq_false c2
      simp (disch := first | omega | assumption | exact own_59 | exact rt_59 | exact pr_0 (by assumption) | exact q_lt1 (hb _ _) | exact bt_lt _ | fail) only [own_59, rt_59, ab_kl_n, ab_kl_i, ab_kl_r, ab_kl_l, at_59_0, Go_aload_0, at_59_1, Go_getf, fl_3_41, gg_3_11, sh_ref, sh_rf, at_59_4, Go_iload_1, at_59_5, Go_iaload, sh_ln, q_in, q_cl, at_59_6, Go_bipush, kb_7, jt_59_8, q_le, q_lt, q_eq, n_leT, n_leF, n_ltT, n_ltF, n_eqF, n_b0, at_59_11, at_59_12, fl_3_47, gg_3_13, at_59_15, at_59_16, at_59_17, at_59_18, fl_3_30, gg_3_8, at_59_21, at_59_22, fl_3_44, gg_3_12, at_59_25, at_59_26, at_59_27, jt_59_28, at_59_31, Go_iconst, kc_0, at_59_32, Go_retb, Go_retb0, Go_retb1, at_59_33, at_59_34, Go_istore_2, ab_put_int_2, Go_iload_2, at_59_36, at_59_37, at_59_40, at_59_41, jt_59_42, at_59_45, at_59_46, fl_3_53, gg_3_15, at_59_49, at_59_50, Go_aaload, at_59_51, at_59_52, at_59_53, Go_istore_3, ab_put_int_3, at_59_54, at_59_55, Go_iload_3, at_59_56, cl_3_73, cat_n, cat_i, cat_r, cat_l, tl_i, tl_l, tl_n, sh_same, jt_59_59, at_59_62, at_59_63, at_59_64, at_59_65, at_59_66, cl_3_108, jt_59_69, at_59_72, at_59_73, at_59_74, Go_iinc_2, kc_1, q_add, jt_59_77, at_59_80, at_59_81, Nat.reduceAdd, Nat.reduceMul, Nat.reduceLeDiff, Nat.reduceSub, decide_true, decide_false, Bool.toNat_true, Bool.toNat_false, not_true_eq_false, not_false_eq_true, ite_not, true_and, and_true, if_true, if_false, ↓reduceIte, Bool.or_true, Bool.true_or, Bool.or_false, pr_0 hp, pf_11 hp, pr_16 hp, pn_16 hp, pf_12 hp, pr_17 hp, pn_17 hp, pf_13 hp, pr_18 hp, pn_18 hp, pf_8 hp, pr_7 hp, pn_7 hp, e8, e9, e10, g1, c, c2F]
      exact K0
  · have mm := main (fun z => absurd z c)
    simp (disch := first | omega | assumption | exact own_59 | exact rt_59 | exact pr_0 (by assumption) | exact q_lt1 (hb _ _) | exact bt_lt _ | fail) only [own_59, rt_59, ab_kl_n, ab_kl_i, ab_kl_r, ab_kl_l, at_59_0, Go_aload_0, at_59_1, Go_getf, fl_3_41, gg_3_11, sh_ref, sh_rf, at_59_4, Go_iload_1, at_59_5, Go_iaload, sh_ln, q_in, q_cl, at_59_6, Go_bipush, kb_7, jt_59_8, q_le, q_lt, q_eq, n_leT, n_leF, n_ltT, n_ltF, n_eqF, n_b0, at_59_11, at_59_12, fl_3_47, gg_3_13, at_59_15, at_59_16, at_59_17, at_59_18, fl_3_30, gg_3_8, at_59_21, at_59_22, fl_3_44, gg_3_12, at_59_25, at_59_26, at_59_27, jt_59_28, at_59_31, Go_iconst, kc_0, at_59_32, Go_retb, Go_retb0, Go_retb1, at_59_33, at_59_34, Go_istore_2, ab_put_int_2, Go_iload_2, at_59_36, at_59_37, at_59_40, at_59_41, jt_59_42, at_59_45, at_59_46, fl_3_53, gg_3_15, at_59_49, at_59_50, Go_aaload, at_59_51, at_59_52, at_59_53, Go_istore_3, ab_put_int_3, at_59_54, at_59_55, Go_iload_3, at_59_56, cl_3_73, cat_n, cat_i, cat_r, cat_l, tl_i, tl_l, tl_n, sh_same, jt_59_59, at_59_62, at_59_63, at_59_64, at_59_65, at_59_66, cl_3_108, jt_59_69, at_59_72, at_59_73, at_59_74, Go_iinc_2, kc_1, q_add, jt_59_77, at_59_80, at_59_81, Nat.reduceAdd, Nat.reduceMul, Nat.reduceLeDiff, Nat.reduceSub, decide_true, decide_false, Bool.toNat_true, Bool.toNat_false, not_true_eq_false, not_false_eq_true, ite_not, true_and, and_true, if_true, if_false, ↓reduceIte, Bool.or_true, Bool.true_or, Bool.or_false, pr_0 hp, pf_11 hp, pr_16 hp, pn_16 hp, e8, c]
    exact mm
end CSO
