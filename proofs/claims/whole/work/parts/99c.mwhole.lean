/-! THE TEXT: is it sound, the reference -/
section MWH
variable {I I' I1 : Nat → Nat → Int32} {J J' : Nat → Nat → Int64} {Q : Option Value → ab_H → Prop} {A : DD} {n m b : Nat}
theorem i_m4le {a : Nat} (h : a < 1000) : (nI a ≤ (-4 : Int32)) = False := by
  rw [Int32.le_iff_toInt_le, nI_toInt (by omega)]
  have e : (-4 : Int32).toInt = -4 := by decide
  rw [e]
  exact eq_false (fun z => by omega)
def BW (A : DD) (b : Nat) : Prop := (A 3 b ≠ 2 → A 4 b < A 0 0) ∧ (A 3 b = 1 → A 5 b < A 0 0) ∧ (A 3 b ≠ 0 → A 6 b < A 0 1)
theorem tn_isBlockWhole (w : DW false A) (d : DM false A I) (hb : b < A 0 0) (K1 : BW A b → Q (some (.int (nI 1))) (SH, I, J)) (K2 : ¬ BW A b → Q (some (.int (nI 0))) (SH, I, J)) : Ex 155 [.ref 199, .int (nI b)] (SH, I, J) Q := by
  obtain ⟨⟨a1, a2, a3⟩, a4, a5, a6, a7, a8, a9⟩ := w
  obtain ⟨⟨d1, d2⟩, d3, d4, d5⟩ := d
  obtain ⟨g1, g2, g3, g4⟩ := d4 b hb
  have k1 : (nI (A 0 0) ≤ I 200 (732 + b)) = ¬ (A 3 b ≠ 2 → A 4 b < A 0 0) := by
    have := a4 4 b
    rw [g2]
    by_cases z : A 3 b = 2
    · rw [if_pos z, i_m4le (by omega)]; exact propext ⟨fun y => y.elim, fun y => y (fun q => absurd z q)⟩
    · rw [if_neg z, q_le (by omega) (by omega)]; exact propext ⟨fun y q => by have := q z; omega, fun y => by
        rcases Nat.lt_or_ge (A 4 b) (A 0 0) with q | q
        · exact absurd (fun _ => q) y
        · exact q⟩
  have k2 : (nI (A 0 0) ≤ I 200 (738 + b)) = ¬ (A 3 b = 1 → A 5 b < A 0 0) := by
    have := a4 5 b
    rw [g3]
    by_cases z : A 3 b = 1
    · rw [if_pos z, q_le (by omega) (by omega)]; exact propext ⟨fun y q => by have := q z; omega, fun y => by
        rcases Nat.lt_or_ge (A 5 b) (A 0 0) with q | q
        · exact absurd (fun _ => q) y
        · exact q⟩
    · rw [if_neg z, i_m4le (by omega)]; exact propext ⟨fun y => y.elim, fun y => y (fun q => absurd q z)⟩
  have k3 : (nI (A 0 1) ≤ I 200 (744 + b)) = ¬ (A 3 b ≠ 0 → A 6 b < A 0 1) := by
    have := a4 6 b
    rw [g4]
    by_cases z : A 3 b = 0
    · rw [if_pos z, i_m4le (by omega)]; exact propext ⟨fun y => y.elim, fun y => y (fun q => absurd z q)⟩
    · rw [if_neg z, q_le (by omega) (by omega)]; exact propext ⟨fun y q => by have := q z; omega, fun y => by
        rcases Nat.lt_or_ge (A 6 b) (A 0 1) with q | q
        · exact absurd (fun _ => q) y
        · exact q⟩
  rw [en_155]
  by_cases c1 : (A 3 b ≠ 2 → A 4 b < A 0 0)
  · have k1 := k1.trans (eq_false (fun z => z c1))
    by_cases c2 : (A 3 b = 1 → A 5 b < A 0 0)
    · have k2 := k2.trans (eq_false (fun z => z c2))
      by_cases c3 : (A 3 b ≠ 0 → A 6 b < A 0 1)
      · have k3 := k3.trans (eq_false (fun z => z c3))
        have K0 := K1 ⟨c1, c2, c3⟩
        simp (disch := first | omega | assumption | exact own_155 | exact rt_155 | exact q_lt1 (hb _ _) | exact bt_lt _ | fail) only [own_155, rt_155, ab_kl_n, ab_kl_i, ab_kl_r, ab_kl_l, at_155_0, Go_aload_0, at_155_1, Go_getf, fl_8_7, gg_8_0, sh_ref, sh_rf, sr_199, sf_199_0, sr_200, sn_200, at_155_4, Go_sipush, ks_950, at_155_7, Go_iaload, sh_ln, q_in, q_cl, at_155_8, Go_istore_2, ab_put_int_2, at_155_9, at_155_10, at_155_13, ks_744, at_155_16, Go_iload_1, at_155_17, Go_iadd, q_add, Nat.zero_add, at_155_18, at_155_19, Go_istore_3, ab_put_int_3, at_155_20, at_155_21, at_155_24, ks_732, at_155_27, at_155_28, at_155_29, at_155_30, Go_iload_2, jt_155_31, q_le, q_lt, q_eq, n_leT, n_leF, n_ltT, n_ltF, n_eqF, n_b0, at_155_34, at_155_35, at_155_38, ks_738, at_155_41, at_155_42, at_155_43, at_155_44, jt_155_45, at_155_48, Go_iload_3, at_155_49, at_155_50, at_155_53, ks_951, at_155_56, jt_155_57, at_155_60, Go_iconst, kc_1, jt_155_61, at_155_64, kc_0, at_155_65, Go_retb, Go_retb0, Go_retb1, Nat.reduceAdd, Nat.reduceMul, Nat.reduceLeDiff, Nat.reduceSub, decide_true, decide_false, Bool.toNat_true, Bool.toNat_false, not_true_eq_false, not_false_eq_true, ite_not, true_and, and_true, if_true, if_false, ↓reduceIte, Bool.or_true, Bool.true_or, Bool.or_false, d1, d2, k1, k2, k3]
        exact K0
      · have k3 := k3.trans (eq_true c3)
        have K0 := K2 (fun z => c3 z.2.2)
        simp (disch := first | omega | assumption | exact own_155 | exact rt_155 | exact q_lt1 (hb _ _) | exact bt_lt _ | fail) only [own_155, rt_155, ab_kl_n, ab_kl_i, ab_kl_r, ab_kl_l, at_155_0, Go_aload_0, at_155_1, Go_getf, fl_8_7, gg_8_0, sh_ref, sh_rf, sr_199, sf_199_0, sr_200, sn_200, at_155_4, Go_sipush, ks_950, at_155_7, Go_iaload, sh_ln, q_in, q_cl, at_155_8, Go_istore_2, ab_put_int_2, at_155_9, at_155_10, at_155_13, ks_744, at_155_16, Go_iload_1, at_155_17, Go_iadd, q_add, Nat.zero_add, at_155_18, at_155_19, Go_istore_3, ab_put_int_3, at_155_20, at_155_21, at_155_24, ks_732, at_155_27, at_155_28, at_155_29, at_155_30, Go_iload_2, jt_155_31, q_le, q_lt, q_eq, n_leT, n_leF, n_ltT, n_ltF, n_eqF, n_b0, at_155_34, at_155_35, at_155_38, ks_738, at_155_41, at_155_42, at_155_43, at_155_44, jt_155_45, at_155_48, Go_iload_3, at_155_49, at_155_50, at_155_53, ks_951, at_155_56, jt_155_57, at_155_60, Go_iconst, kc_1, jt_155_61, at_155_64, kc_0, at_155_65, Go_retb, Go_retb0, Go_retb1, Nat.reduceAdd, Nat.reduceMul, Nat.reduceLeDiff, Nat.reduceSub, decide_true, decide_false, Bool.toNat_true, Bool.toNat_false, not_true_eq_false, not_false_eq_true, ite_not, true_and, and_true, if_true, if_false, ↓reduceIte, Bool.or_true, Bool.true_or, Bool.or_false, d1, d2, k1, k2, k3]
        exact K0
    · have k2 := k2.trans (eq_true c2)
      have K0 := K2 (fun z => c2 z.2.1)
      simp (disch := first | omega | assumption | exact own_155 | exact rt_155 | exact q_lt1 (hb _ _) | exact bt_lt _ | fail) only [own_155, rt_155, ab_kl_n, ab_kl_i, ab_kl_r, ab_kl_l, at_155_0, Go_aload_0, at_155_1, Go_getf, fl_8_7, gg_8_0, sh_ref, sh_rf, sr_199, sf_199_0, sr_200, sn_200, at_155_4, Go_sipush, ks_950, at_155_7, Go_iaload, sh_ln, q_in, q_cl, at_155_8, Go_istore_2, ab_put_int_2, at_155_9, at_155_10, at_155_13, ks_744, at_155_16, Go_iload_1, at_155_17, Go_iadd, q_add, Nat.zero_add, at_155_18, at_155_19, Go_istore_3, ab_put_int_3, at_155_20, at_155_21, at_155_24, ks_732, at_155_27, at_155_28, at_155_29, at_155_30, Go_iload_2, jt_155_31, q_le, q_lt, q_eq, n_leT, n_leF, n_ltT, n_ltF, n_eqF, n_b0, at_155_34, at_155_35, at_155_38, ks_738, at_155_41, at_155_42, at_155_43, at_155_44, jt_155_45, at_155_48, Go_iload_3, at_155_49, at_155_50, at_155_53, ks_951, at_155_56, jt_155_57, at_155_60, Go_iconst, kc_1, jt_155_61, at_155_64, kc_0, at_155_65, Go_retb, Go_retb0, Go_retb1, Nat.reduceAdd, Nat.reduceMul, Nat.reduceLeDiff, Nat.reduceSub, decide_true, decide_false, Bool.toNat_true, Bool.toNat_false, not_true_eq_false, not_false_eq_true, ite_not, true_and, and_true, if_true, if_false, ↓reduceIte, Bool.or_true, Bool.true_or, Bool.or_false, d1, d2, k1, k2]
      exact K0
  · have k1 := k1.trans (eq_true c1)
    have K0 := K2 (fun z => c1 z.1)
    simp (disch := first | omega | assumption | exact own_155 | exact rt_155 | exact q_lt1 (hb _ _) | exact bt_lt _ | fail) only [own_155, rt_155, ab_kl_n, ab_kl_i, ab_kl_r, ab_kl_l, at_155_0, Go_aload_0, at_155_1, Go_getf, fl_8_7, gg_8_0, sh_ref, sh_rf, sr_199, sf_199_0, sr_200, sn_200, at_155_4, Go_sipush, ks_950, at_155_7, Go_iaload, sh_ln, q_in, q_cl, at_155_8, Go_istore_2, ab_put_int_2, at_155_9, at_155_10, at_155_13, ks_744, at_155_16, Go_iload_1, at_155_17, Go_iadd, q_add, Nat.zero_add, at_155_18, at_155_19, Go_istore_3, ab_put_int_3, at_155_20, at_155_21, at_155_24, ks_732, at_155_27, at_155_28, at_155_29, at_155_30, Go_iload_2, jt_155_31, q_le, q_lt, q_eq, n_leT, n_leF, n_ltT, n_ltF, n_eqF, n_b0, at_155_34, at_155_35, at_155_38, ks_738, at_155_41, at_155_42, at_155_43, at_155_44, jt_155_45, at_155_48, Go_iload_3, at_155_49, at_155_50, at_155_53, ks_951, at_155_56, jt_155_57, at_155_60, Go_iconst, kc_1, jt_155_61, at_155_64, kc_0, at_155_65, Go_retb, Go_retb0, Go_retb1, Nat.reduceAdd, Nat.reduceMul, Nat.reduceLeDiff, Nat.reduceSub, decide_true, decide_false, Bool.toNat_true, Bool.toNat_false, not_true_eq_false, not_false_eq_true, ite_not, true_and, and_true, if_true, if_false, ↓reduceIte, Bool.or_true, Bool.true_or, Bool.or_false, d1, k1]
    exact K0
theorem tn_isOver (w : DW false A) (g : PW I (shp A)) {x : Nat} (hx : x < 32) (hb : b < A 0 0) : Ex 151 [.ref 199, .int (nI x), .int (nI b)] (SH, I, J) Q = Q (some (.int (nI ((shp A 9 b).testBit x).toNat))) (SH, I, J) := by
  have b1 := w.1
  have e00 : shp A 0 0 = A 0 0 := sh_o (by omega)
  have g3 := g.2.2 b (by omega)
  have b3 : shp A 9 b < 64 := by rw [sh_9]; exact (dbs_spec b1.1 b).1
  rw [en_151]
  simp (disch := first | omega | assumption | exact own_151 | exact rt_151 | exact q_lt1 (hb _ _) | exact bt_lt _ | fail) only [own_151, rt_151, ab_kl_n, ab_kl_i, ab_kl_r, ab_kl_l, at_151_0, Go_aload_0, at_151_1, Go_getf, fl_8_28, gg_8_14, sh_ref, sh_rf, sr_199, sf_199_14, sr_206, sn_206, at_151_4, Go_iload_2, at_151_5, Go_iaload, sh_ln, q_in, q_cl, at_151_6, Go_iload_1, at_151_7, Go_ishr, q_hb, at_151_8, Go_iconst, kc_1, at_151_9, Go_iand, at_151_10, jt_151_11, q_le, q_lt, q_eq, n_leT, n_leF, n_ltT, n_ltF, n_eqF, n_b0, at_151_14, jt_151_15, at_151_18, kc_0, at_151_19, Go_retb, Go_retb0, Go_retb1, Nat.reduceAdd, Nat.reduceMul, Nat.reduceLeDiff, Nat.reduceSub, decide_true, decide_false, Bool.toNat_true, Bool.toNat_false, not_true_eq_false, not_false_eq_true, ite_not, true_and, and_true, if_true, if_false, ↓reduceIte, Bool.or_true, Bool.true_or, Bool.or_false, q_hb1, g3]
  cases (shp A 9 b).testBit x <;> rfl
theorem tn_isSeenAtEnd (w : DW false A) (d : DM false A I) (g : PW I (shp A)) (hm : m < A 0 1) (hb : b < A 0 0) : Ex 153 [.ref 199, .int (nI 714), .int (nI m), .int (nI b)] (SH, I, J) Q = Q (some (.int (nI (se (shp A) m b).toNat))) (SH, I, J) := by
  have b1 := w.1
  have b2 := (w.2.2.2.2.2.2 m hm).2.1
  have e9 : I 200 (714 + 56 + m) = nI (A 11 m) := (d.2.2.2 m hm).2.1
  have e9' : I 200 (770 + m) = nI (A 11 m) := (d.2.2.2 m hm).2.1
  have s1 := fun Q => tn_isOver (J := J) (Q := Q) w g (show A 11 m < 32 by omega) hb
  have es : se (shp A) m b = (shp A 9 b).testBit (A 11 m) := by unfold se; rw [sh_o (f := 11) (by omega)]
  rw [en_153, es]
  simp (disch := first | omega | assumption | exact own_153 | exact rt_153 | exact sr_199 | exact q_lt1 (hb _ _) | exact bt_lt _ | fail) only [own_153, rt_153, ab_kl_n, ab_kl_i, ab_kl_r, ab_kl_l, at_153_0, Go_aload_0, at_153_1, at_153_2, Go_getf, fl_8_7, gg_8_0, sh_ref, sh_rf, sr_199, sf_199_0, sr_200, sn_200, at_153_5, Go_iload_1, at_153_6, Go_bipush, kb_56, at_153_8, Go_iadd, q_add, Nat.zero_add, at_153_9, Go_iload_2, at_153_10, at_153_11, Go_iaload, sh_ln, q_in, q_cl, at_153_12, Go_iload_3, at_153_13, cl_8_166, cat_n, cat_i, cat_r, cat_l, tl_i, tl_l, tl_n, sh_same, at_153_16, Go_retb, Go_retb0, Go_retb1, Nat.reduceAdd, Nat.reduceMul, Nat.reduceLeDiff, Nat.reduceSub, decide_true, decide_false, Bool.toNat_true, Bool.toNat_false, not_true_eq_false, not_false_eq_true, ite_not, true_and, and_true, if_true, if_false, ↓reduceIte, Bool.or_true, Bool.true_or, Bool.or_false, e9, e9', s1]
theorem tn_isSeenOn (w : DW false A) (d : DM false A I) (g : PW I (shp A)) (hn : n < A 0 1) (hm : m < A 0 1) : Ex 152 [.ref 199, .int (nI 714), .int (nI n), .int (nI m)] (SH, I, J) Q = Q (some (.int (nI (sn (shp A) n m).toNat))) (SH, I, J) := by
  have b1 := w.1
  have b2 := (w.2.2.2.2.2.2 m hm).2.1
  have b2n := (w.2.2.2.2.2.2 n hn).2.1
  have e9' : I 200 (770 + m) = nI (A 11 m) := (d.2.2.2 m hm).2.1
  have e9n : I 200 (770 + n) = nI (A 11 n) := (d.2.2.2 n hn).2.1
  have s1 := fun Q => tn_isOver (J := J) (Q := Q) w g (show A 11 n < 32 by omega) b2
  have es : sn (shp A) n m = if A 11 n = A 11 m then decide (n < m) else (shp A 9 (A 11 m)).testBit (A 11 n) := by unfold sn; rw [sh_o (f := 11) (by omega), sh_o (f := 11) (by omega)]
  rw [en_152, es]
  by_cases c1 : A 11 n = A 11 m
  · rw [if_pos c1]
    by_cases c2 : n < m
    · have c2' : ¬ m ≤ n := by omega
      rw [decide_eq_true c2]
      simp (disch := first | omega | assumption | exact own_152 | exact rt_152 | exact sr_199 | exact q_lt1 (hb _ _) | exact bt_lt _ | fail) only [own_152, rt_152, ab_kl_n, ab_kl_i, ab_kl_r, ab_kl_l, at_152_0, Go_aload_0, at_152_1, Go_getf, fl_8_7, gg_8_0, sh_ref, sh_rf, sr_199, sf_199_0, sr_200, sn_200, at_152_4, Go_iload_1, at_152_5, Go_bipush, kb_56, at_152_7, Go_iadd, q_add, Nat.zero_add, at_152_8, Go_iload_2, at_152_9, at_152_10, Go_iaload, sh_ln, q_in, q_cl, at_152_11, Go_istore_4, ab_put_int_4, at_152_13, at_152_14, at_152_17, at_152_18, at_152_20, at_152_21, Go_iload_3, at_152_22, at_152_23, at_152_24, Go_istore_5, ab_put_int_5, at_152_26, Go_iload_4, at_152_28, Go_iload_5, jt_152_30, q_le, q_lt, q_eq, n_leT, n_leF, n_ltT, n_ltF, n_eqF, n_b0, at_152_33, at_152_34, jt_152_35, at_152_38, Go_iconst, kc_1, jt_152_39, at_152_42, kc_0, jt_152_43, at_152_46, at_152_47, at_152_49, at_152_51, cl_8_166, cat_n, cat_i, cat_r, cat_l, tl_i, tl_l, tl_n, sh_same, at_152_54, Go_retb, Go_retb0, Go_retb1, Nat.reduceAdd, Nat.reduceMul, Nat.reduceLeDiff, Nat.reduceSub, decide_true, decide_false, Bool.toNat_true, Bool.toNat_false, not_true_eq_false, not_false_eq_true, ite_not, true_and, and_true, if_true, if_false, ↓reduceIte, Bool.or_true, Bool.true_or, Bool.or_false, e9', e9n, c1, c2, c2']
    · have c2' : m ≤ n := by omega
      rw [decide_eq_false c2]
      simp (disch := first | omega | assumption | exact own_152 | exact rt_152 | exact sr_199 | exact q_lt1 (hb _ _) | exact bt_lt _ | fail) only [own_152, rt_152, ab_kl_n, ab_kl_i, ab_kl_r, ab_kl_l, at_152_0, Go_aload_0, at_152_1, Go_getf, fl_8_7, gg_8_0, sh_ref, sh_rf, sr_199, sf_199_0, sr_200, sn_200, at_152_4, Go_iload_1, at_152_5, Go_bipush, kb_56, at_152_7, Go_iadd, q_add, Nat.zero_add, at_152_8, Go_iload_2, at_152_9, at_152_10, Go_iaload, sh_ln, q_in, q_cl, at_152_11, Go_istore_4, ab_put_int_4, at_152_13, at_152_14, at_152_17, at_152_18, at_152_20, at_152_21, Go_iload_3, at_152_22, at_152_23, at_152_24, Go_istore_5, ab_put_int_5, at_152_26, Go_iload_4, at_152_28, Go_iload_5, jt_152_30, q_le, q_lt, q_eq, n_leT, n_leF, n_ltT, n_ltF, n_eqF, n_b0, at_152_33, at_152_34, jt_152_35, at_152_38, Go_iconst, kc_1, jt_152_39, at_152_42, kc_0, jt_152_43, at_152_46, at_152_47, at_152_49, at_152_51, cl_8_166, cat_n, cat_i, cat_r, cat_l, tl_i, tl_l, tl_n, sh_same, at_152_54, Go_retb, Go_retb0, Go_retb1, Nat.reduceAdd, Nat.reduceMul, Nat.reduceLeDiff, Nat.reduceSub, decide_true, decide_false, Bool.toNat_true, Bool.toNat_false, not_true_eq_false, not_false_eq_true, ite_not, true_and, and_true, if_true, if_false, ↓reduceIte, Bool.or_true, Bool.true_or, Bool.or_false, e9', e9n, c1, c2, c2']
  · rw [if_neg c1]
    simp (disch := first | omega | assumption | exact own_152 | exact rt_152 | exact sr_199 | exact q_lt1 (hb _ _) | exact bt_lt _ | fail) only [own_152, rt_152, ab_kl_n, ab_kl_i, ab_kl_r, ab_kl_l, at_152_0, Go_aload_0, at_152_1, Go_getf, fl_8_7, gg_8_0, sh_ref, sh_rf, sr_199, sf_199_0, sr_200, sn_200, at_152_4, Go_iload_1, at_152_5, Go_bipush, kb_56, at_152_7, Go_iadd, q_add, Nat.zero_add, at_152_8, Go_iload_2, at_152_9, at_152_10, Go_iaload, sh_ln, q_in, q_cl, at_152_11, Go_istore_4, ab_put_int_4, at_152_13, at_152_14, at_152_17, at_152_18, at_152_20, at_152_21, Go_iload_3, at_152_22, at_152_23, at_152_24, Go_istore_5, ab_put_int_5, at_152_26, Go_iload_4, at_152_28, Go_iload_5, jt_152_30, q_le, q_lt, q_eq, n_leT, n_leF, n_ltT, n_ltF, n_eqF, n_b0, at_152_33, at_152_34, jt_152_35, at_152_38, Go_iconst, kc_1, jt_152_39, at_152_42, kc_0, jt_152_43, at_152_46, at_152_47, at_152_49, at_152_51, cl_8_166, cat_n, cat_i, cat_r, cat_l, tl_i, tl_l, tl_n, sh_same, at_152_54, Go_retb, Go_retb0, Go_retb1, Nat.reduceAdd, Nat.reduceMul, Nat.reduceLeDiff, Nat.reduceSub, decide_true, decide_false, Bool.toNat_true, Bool.toNat_false, not_true_eq_false, not_false_eq_true, ite_not, true_and, and_true, if_true, if_false, ↓reduceIte, Bool.or_true, Bool.true_or, Bool.or_false, e9', e9n, c1, s1]
theorem tn_isSeenAsOperand (w : DW false A) (d : DM false A I) (g : PW I (shp A)) (hn : n < A 0 1) (hm : m < A 0 1) {i : Nat} (hi : i < A 12 n) (h7 : A 10 n = 7 → A 12 n = shp A 7 (A 11 n)) : Ex 154 [.ref 199, .int (nI 714), .int (nI m), .int (nI n), .int (nI i)] (SH, I, J) Q = Q (some (.int (nI (so (shp A) m n i).toNat))) (SH, I, J) := by
  have dn := d.2.2.2 n hn
  have e8 : I 200 (750 + n) = nI (A 10 n) := dn.1
  have e9 : I 200 (770 + n) = nI (A 11 n) := dn.2.1
  have e00 : shp A 0 0 = A 0 0 := sh_o (by omega)
  have b1 := w.1
  have wb := w.2.1 10 n
  have b2 := (w.2.2.2.2.2.2 n hn).2.1
  have b7 : shp A 7 (A 11 n) ≤ 6 := by rw [sh_7]; exact Nat.le_trans (cn_le _ _) b1.1
  have eso : so (shp A) m n i = if A 10 n = 7 then se (shp A) m (shp A 8 (6 * A 11 n + i)) else sn (shp A) m n := by unfold so; rw [sh_o (f := 10) (by omega), sh_o (f := 11) (by omega)]
  rw [en_154, eso]
  by_cases c : A 10 n = 7
  · have h7 := h7 c
    have g2 := g.2.1 (A 11 n) i (by omega) (by omega)
    have c8 : shp A 8 (6 * A 11 n + i) < A 0 0 := by
      have hi2 : i < cn (fun c => edb A c (A 11 n)) (A 0 0) := by rw [← sh_7]; omega
      obtain ⟨c, k1, k2, k3⟩ := cn_surj hi2
      rw [← k3, sh_8 b1.1 k1 k2]; exact k1
    have s1 := fun Q => tn_isSeenAtEnd (J := J) (Q := Q) (m := m) (b := shp A 8 (6 * A 11 n + i)) w d g hm c8
    rw [if_pos c]
    simp (disch := first | omega | assumption | exact own_154 | exact rt_154 | exact sr_199 | exact q_lt1 (hb _ _) | exact bt_lt _ | fail) only [own_154, rt_154, ab_kl_n, ab_kl_i, ab_kl_r, ab_kl_l, at_154_0, Go_aload_0, at_154_1, Go_getf, fl_8_7, gg_8_0, sh_ref, sh_rf, sr_199, sf_199_0, sr_200, sn_200, at_154_4, Go_iload_1, at_154_5, Go_bipush, kb_36, at_154_7, Go_iadd, q_add, Nat.zero_add, at_154_8, Go_iload_3, at_154_9, at_154_10, Go_iaload, sh_ln, q_in, q_cl, at_154_11, kb_7, jt_154_13, q_le, q_lt, q_eq, n_leT, n_leF, n_ltT, n_ltF, n_eqF, n_b0, at_154_16, at_154_17, at_154_18, Go_iload_2, at_154_19, at_154_20, fl_8_22, gg_8_12, sf_199_12, sr_204, sn_204, at_154_23, kb_6, at_154_25, at_154_26, at_154_29, at_154_30, kb_56, at_154_32, at_154_33, at_154_34, at_154_35, at_154_36, Go_imul, q_mul, at_154_37, Go_iload_4, at_154_39, at_154_40, at_154_41, cl_8_170, cat_n, cat_i, cat_r, cat_l, tl_i, tl_l, tl_n, sh_same, jt_154_44, at_154_47, at_154_48, at_154_49, at_154_50, at_154_51, cl_8_174, at_154_54, Go_retb, Go_retb0, Go_retb1, Nat.reduceAdd, Nat.reduceMul, Nat.reduceLeDiff, Nat.reduceSub, decide_true, decide_false, Bool.toNat_true, Bool.toNat_false, not_true_eq_false, not_false_eq_true, ite_not, true_and, and_true, if_true, if_false, ↓reduceIte, Bool.or_true, Bool.true_or, Bool.or_false, e8, e9, c, g2, s1]
  · have s1 := fun Q => tn_isSeenOn (J := J) (Q := Q) w d g hm hn
    rw [if_neg c]
    simp (disch := first | omega | assumption | exact own_154 | exact rt_154 | exact sr_199 | exact q_lt1 (hb _ _) | exact bt_lt _ | fail) only [own_154, rt_154, ab_kl_n, ab_kl_i, ab_kl_r, ab_kl_l, at_154_0, Go_aload_0, at_154_1, Go_getf, fl_8_7, gg_8_0, sh_ref, sh_rf, sr_199, sf_199_0, sr_200, sn_200, at_154_4, Go_iload_1, at_154_5, Go_bipush, kb_36, at_154_7, Go_iadd, q_add, Nat.zero_add, at_154_8, Go_iload_3, at_154_9, at_154_10, Go_iaload, sh_ln, q_in, q_cl, at_154_11, kb_7, jt_154_13, q_le, q_lt, q_eq, n_leT, n_leF, n_ltT, n_ltF, n_eqF, n_b0, at_154_16, at_154_17, at_154_18, Go_iload_2, at_154_19, at_154_20, fl_8_22, gg_8_12, sf_199_12, sr_204, sn_204, at_154_23, kb_6, at_154_25, at_154_26, at_154_29, at_154_30, kb_56, at_154_32, at_154_33, at_154_34, at_154_35, at_154_36, Go_imul, q_mul, at_154_37, Go_iload_4, at_154_39, at_154_40, at_154_41, cl_8_170, cat_n, cat_i, cat_r, cat_l, tl_i, tl_l, tl_n, sh_same, jt_154_44, at_154_47, at_154_48, at_154_49, at_154_50, at_154_51, cl_8_174, at_154_54, Go_retb, Go_retb0, Go_retb1, Nat.reduceAdd, Nat.reduceMul, Nat.reduceLeDiff, Nat.reduceSub, decide_true, decide_false, Bool.toNat_true, Bool.toNat_false, not_true_eq_false, not_false_eq_true, ite_not, true_and, and_true, if_true, if_false, ↓reduceIte, Bool.or_true, Bool.true_or, Bool.or_false, e8, c, s1]
theorem tn_isNameWhole (w : DW false A) (d : DM false A I) (g : PW I (shp A)) (hn : n < A 0 1) (K1 : NSn A n → Q (some (.int (nI 1))) (SH, I, J)) (K2 : ¬ NSn A n → Q (some (.int (nI 0))) (SH, I, J)) : Ex 156 [.ref 199, .int (nI n)] (SH, I, J) Q := by
  have dn := d.2.2.2 n hn
  have e8 : I 200 (750 + n) = nI (A 10 n) := dn.1
  have e9 : I 200 (770 + n) = nI (A 11 n) := dn.2.1
  have e10 : I 200 (790 + n) = nI (A 12 n) := dn.2.2.1
  have e951 : I 200 951 = nI (A 0 1) := d.1.2
  have e00 : shp A 0 0 = A 0 0 := sh_o (by omega)
  have b1 := w.1
  have wb := w.2.1
  have wb10 := wb 10 n
  have wb12 := wb 12 n
  have dw := w.2.2.2.2.2.2 n hn
  have b2 := dw.2.1
  have g1 := g.1 (A 11 n) (by omega)
  have b7 : shp A 7 (A 11 n) ≤ 6 := by rw [sh_7]; exact Nat.le_trans (cn_le _ _) b1.1
  have off : ¬ NSn A n → ∀ (i : Nat) v, i < 1000 → Go (ab_at 156 51) 156 51 [some (.ref 199), some (.int (nI (n))), some (.int (nI (0))), some (.int (nI (i))), v] []  (SH, I, J) Q := by
    intro z i v hi
    have K0 := K2 z
    rw [at_156_51]
    simp (disch := first | omega | assumption | exact own_156 | exact rt_156 | exact sr_199 | exact q_lt1 (hb _ _) | exact bt_lt _ | fail) only [own_156, rt_156, ab_kl_n, ab_kl_i, ab_kl_r, ab_kl_l, at_156_0, Go_aload_0, at_156_1, Go_getf, fl_8_7, gg_8_0, sh_ref, sh_rf, sr_199, sf_199_0, sr_200, sn_200, at_156_4, Go_sipush, ks_750, at_156_7, Go_iload_1, at_156_8, Go_iadd, q_add, Nat.zero_add, at_156_9, Go_iaload, sh_ln, q_in, q_cl, at_156_10, Go_bipush, kb_7, jt_156_12, q_le, q_lt, q_eq, n_leT, n_leF, n_ltT, n_ltF, n_eqF, n_b0, at_156_15, at_156_16, at_156_19, ks_790, at_156_22, at_156_23, at_156_24, at_156_25, at_156_26, fl_8_25, gg_8_13, sf_199_13, sr_205, sn_205, at_156_29, at_156_30, at_156_33, ks_770, at_156_36, at_156_37, at_156_38, at_156_39, jt_156_40, at_156_43, Go_iconst, kc_1, jt_156_44, at_156_47, kc_0, at_156_48, Go_istore_2, ab_put_int_2, at_156_49, at_156_50, Go_istore_3, ab_put_int_3, Go_iload_2, jt_156_52, at_156_55, Go_iload_3, at_156_56, at_156_57, at_156_60, at_156_63, at_156_64, at_156_65, jt_156_66, at_156_69, at_156_70, at_156_73, ks_830, at_156_76, kb_6, at_156_78, at_156_79, Go_imul, q_mul, at_156_80, at_156_81, at_156_82, at_156_83, at_156_84, Go_istore_4, ab_put_int_4, at_156_86, Go_iload_4, at_156_88, at_156_89, at_156_92, ks_951, at_156_95, jt_156_96, at_156_99, at_156_100, ks_714, at_156_103, at_156_105, at_156_106, at_156_107, cl_8_177, cat_n, cat_i, cat_r, cat_l, tl_i, tl_l, tl_n, sh_same, jt_156_110, at_156_113, jt_156_114, at_156_117, at_156_118, at_156_119, Go_iinc_3, jt_156_122, at_156_125, at_156_126, Go_retb, Go_retb0, Go_retb1, Nat.reduceAdd, Nat.reduceMul, Nat.reduceLeDiff, Nat.reduceSub, decide_true, decide_false, Bool.toNat_true, Bool.toNat_false, not_true_eq_false, not_false_eq_true, ite_not, true_and, and_true, if_true, if_false, ↓reduceIte, Bool.or_true, Bool.true_or, Bool.or_false]
    exact K0
  have main : (A 10 n = 7 → A 12 n = shp A 7 (A 11 n)) → Go (ab_at 156 51) 156 51 [some (.ref 199), some (.int (nI (n))), some (.int (nI (1))), some (.int (nI (0))), none] []  (SH, I, J) Q := by
    intro h7
    have l6 : A 12 n ≤ 6 := by
      obtain ⟨k1, k2, k3, k4, k5, k6, k7, k8⟩ := dw
      by_cases z : A 10 n = 7
      · have := h7 z; omega
      · by_cases z2 : A 10 n ≤ 1
        · have := k3 z2; omega
        · by_cases z3 : A 10 n = 4
          · have := k4 z3; omega
          · have := k5 (by omega) (by omega) z3; omega
    have e12 : ∀ i, i < A 12 n → I 200 (830 + 6 * n + i) = nI (A 14 (6 * n + i)) := fun i hi => dn.2.2.2.2 l6 i hi
    suffices hl : ∀ k i, i + k = A 12 n → (∀ j, j < i → A 14 (6 * n + j) < A 0 1 ∧ so (shp A) (A 14 (6 * n + j)) n j = true) → ∀ v, Go (ab_at 156 51) 156 51 [some (.ref 199), some (.int (nI (n))), some (.int (nI (1))), some (.int (nI (i))), v] []  (SH, I, J) Q by
      exact hl (A 12 n) 0 (by omega) (fun j hj => absurd hj (Nat.not_lt_zero j)) none
    intro k
    induction k with
    | zero =>
      intro i hi hj v
      have K0 := K1 ⟨h7, fun j h => hj j (by omega)⟩
      have c : A 12 n ≤ i := by omega
      rw [at_156_51]
      simp (disch := first | omega | assumption | exact own_156 | exact rt_156 | exact sr_199 | exact q_lt1 (hb _ _) | exact bt_lt _ | fail) only [own_156, rt_156, ab_kl_n, ab_kl_i, ab_kl_r, ab_kl_l, at_156_0, Go_aload_0, at_156_1, Go_getf, fl_8_7, gg_8_0, sh_ref, sh_rf, sr_199, sf_199_0, sr_200, sn_200, at_156_4, Go_sipush, ks_750, at_156_7, Go_iload_1, at_156_8, Go_iadd, q_add, Nat.zero_add, at_156_9, Go_iaload, sh_ln, q_in, q_cl, at_156_10, Go_bipush, kb_7, jt_156_12, q_le, q_lt, q_eq, n_leT, n_leF, n_ltT, n_ltF, n_eqF, n_b0, at_156_15, at_156_16, at_156_19, ks_790, at_156_22, at_156_23, at_156_24, at_156_25, at_156_26, fl_8_25, gg_8_13, sf_199_13, sr_205, sn_205, at_156_29, at_156_30, at_156_33, ks_770, at_156_36, at_156_37, at_156_38, at_156_39, jt_156_40, at_156_43, Go_iconst, kc_1, jt_156_44, at_156_47, kc_0, at_156_48, Go_istore_2, ab_put_int_2, at_156_49, at_156_50, Go_istore_3, ab_put_int_3, Go_iload_2, jt_156_52, at_156_55, Go_iload_3, at_156_56, at_156_57, at_156_60, at_156_63, at_156_64, at_156_65, jt_156_66, at_156_69, at_156_70, at_156_73, ks_830, at_156_76, kb_6, at_156_78, at_156_79, Go_imul, q_mul, at_156_80, at_156_81, at_156_82, at_156_83, at_156_84, Go_istore_4, ab_put_int_4, at_156_86, Go_iload_4, at_156_88, at_156_89, at_156_92, ks_951, at_156_95, jt_156_96, at_156_99, at_156_100, ks_714, at_156_103, at_156_105, at_156_106, at_156_107, cl_8_177, cat_n, cat_i, cat_r, cat_l, tl_i, tl_l, tl_n, sh_same, jt_156_110, at_156_113, jt_156_114, at_156_117, at_156_118, at_156_119, Go_iinc_3, jt_156_122, at_156_125, at_156_126, Go_retb, Go_retb0, Go_retb1, Nat.reduceAdd, Nat.reduceMul, Nat.reduceLeDiff, Nat.reduceSub, decide_true, decide_false, Bool.toNat_true, Bool.toNat_false, not_true_eq_false, not_false_eq_true, ite_not, true_and, and_true, if_true, if_false, ↓reduceIte, Bool.or_true, Bool.true_or, Bool.or_false, e10, c]
      exact K0
    | succ k ih =>
      intro i hi hj v
      have c : ¬ A 12 n ≤ i := by omega
      have e12i := e12 i (by omega)
      have w14 := wb 14 (6 * n + i)
      rw [at_156_51]
      by_cases c1 : A 14 (6 * n + i) < A 0 1
      · have s2 := fun Q => tn_isSeenAsOperand (J := J) (Q := Q) w d g hn c1 (show i < A 12 n by omega) h7
        have c1' : ¬ A 0 1 ≤ A 14 (6 * n + i) := by omega
        cases c2 : so (shp A) (A 14 (6 * n + i)) n i with
        | true =>
          rw [c2] at s2
          have ih := ih (i + 1) (by omega) (fun j hj' => by
            by_cases z : j = i
            · subst z; exact ⟨c1, c2⟩
            · exact hj j (by omega)) (some (.int (nI (A 14 (6 * n + i)))))
          simp (disch := first | omega | assumption | exact own_156 | exact rt_156 | exact sr_199 | exact q_lt1 (hb _ _) | exact bt_lt _ | fail) only [own_156, rt_156, ab_kl_n, ab_kl_i, ab_kl_r, ab_kl_l, at_156_0, Go_aload_0, at_156_1, Go_getf, fl_8_7, gg_8_0, sh_ref, sh_rf, sr_199, sf_199_0, sr_200, sn_200, at_156_4, Go_sipush, ks_750, at_156_7, Go_iload_1, at_156_8, Go_iadd, q_add, Nat.zero_add, at_156_9, Go_iaload, sh_ln, q_in, q_cl, at_156_10, Go_bipush, kb_7, jt_156_12, q_le, q_lt, q_eq, n_leT, n_leF, n_ltT, n_ltF, n_eqF, n_b0, at_156_15, at_156_16, at_156_19, ks_790, at_156_22, at_156_23, at_156_24, at_156_25, at_156_26, fl_8_25, gg_8_13, sf_199_13, sr_205, sn_205, at_156_29, at_156_30, at_156_33, ks_770, at_156_36, at_156_37, at_156_38, at_156_39, jt_156_40, at_156_43, Go_iconst, kc_1, jt_156_44, at_156_47, kc_0, at_156_48, Go_istore_2, ab_put_int_2, at_156_49, at_156_50, Go_istore_3, ab_put_int_3, Go_iload_2, jt_156_52, at_156_55, Go_iload_3, at_156_56, at_156_57, at_156_60, at_156_63, at_156_64, at_156_65, jt_156_66, at_156_69, at_156_70, at_156_73, ks_830, at_156_76, kb_6, at_156_78, at_156_79, Go_imul, q_mul, at_156_80, at_156_81, at_156_82, at_156_83, at_156_84, Go_istore_4, ab_put_int_4, at_156_86, Go_iload_4, at_156_88, at_156_89, at_156_92, ks_951, at_156_95, jt_156_96, at_156_99, at_156_100, ks_714, at_156_103, at_156_105, at_156_106, at_156_107, cl_8_177, cat_n, cat_i, cat_r, cat_l, tl_i, tl_l, tl_n, sh_same, jt_156_110, at_156_113, jt_156_114, at_156_117, at_156_118, at_156_119, Go_iinc_3, jt_156_122, at_156_125, at_156_126, Go_retb, Go_retb0, Go_retb1, Nat.reduceAdd, Nat.reduceMul, Nat.reduceLeDiff, Nat.reduceSub, decide_true, decide_false, Bool.toNat_true, Bool.toNat_false, not_true_eq_false, not_false_eq_true, ite_not, true_and, and_true, if_true, if_false, ↓reduceIte, Bool.or_true, Bool.true_or, Bool.or_false, e10, e951, c, e12i, c1', s2, Bool.true_eq_false]
          exact ih
        | false =>
          rw [c2] at s2
          have K0 := off (fun z => by have := (z.2 i (by omega)).2; rw [c2] at this; cases this) (i + 1) (some (.int (nI (A 14 (6 * n + i))))) (by omega)
          simp (disch := first | omega | assumption | exact own_156 | exact rt_156 | exact sr_199 | exact q_lt1 (hb _ _) | exact bt_lt _ | fail) only [own_156, rt_156, ab_kl_n, ab_kl_i, ab_kl_r, ab_kl_l, at_156_0, Go_aload_0, at_156_1, Go_getf, fl_8_7, gg_8_0, sh_ref, sh_rf, sr_199, sf_199_0, sr_200, sn_200, at_156_4, Go_sipush, ks_750, at_156_7, Go_iload_1, at_156_8, Go_iadd, q_add, Nat.zero_add, at_156_9, Go_iaload, sh_ln, q_in, q_cl, at_156_10, Go_bipush, kb_7, jt_156_12, q_le, q_lt, q_eq, n_leT, n_leF, n_ltT, n_ltF, n_eqF, n_b0, at_156_15, at_156_16, at_156_19, ks_790, at_156_22, at_156_23, at_156_24, at_156_25, at_156_26, fl_8_25, gg_8_13, sf_199_13, sr_205, sn_205, at_156_29, at_156_30, at_156_33, ks_770, at_156_36, at_156_37, at_156_38, at_156_39, jt_156_40, at_156_43, Go_iconst, kc_1, jt_156_44, at_156_47, kc_0, at_156_48, Go_istore_2, ab_put_int_2, at_156_49, at_156_50, Go_istore_3, ab_put_int_3, Go_iload_2, jt_156_52, at_156_55, Go_iload_3, at_156_56, at_156_57, at_156_60, at_156_63, at_156_64, at_156_65, jt_156_66, at_156_69, at_156_70, at_156_73, ks_830, at_156_76, kb_6, at_156_78, at_156_79, Go_imul, q_mul, at_156_80, at_156_81, at_156_82, at_156_83, at_156_84, Go_istore_4, ab_put_int_4, at_156_86, Go_iload_4, at_156_88, at_156_89, at_156_92, ks_951, at_156_95, jt_156_96, at_156_99, at_156_100, ks_714, at_156_103, at_156_105, at_156_106, at_156_107, cl_8_177, cat_n, cat_i, cat_r, cat_l, tl_i, tl_l, tl_n, sh_same, jt_156_110, at_156_113, jt_156_114, at_156_117, at_156_118, at_156_119, Go_iinc_3, jt_156_122, at_156_125, at_156_126, Go_retb, Go_retb0, Go_retb1, Nat.reduceAdd, Nat.reduceMul, Nat.reduceLeDiff, Nat.reduceSub, decide_true, decide_false, Bool.toNat_true, Bool.toNat_false, not_true_eq_false, not_false_eq_true, ite_not, true_and, and_true, if_true, if_false, ↓reduceIte, Bool.or_true, Bool.true_or, Bool.or_false, e10, e951, c, e12i, c1', s2, Bool.true_eq_false]
          exact K0
      · have c1' : A 0 1 ≤ A 14 (6 * n + i) := by omega
        have K0 := off (fun z => c1 (z.2 i (by omega)).1) (i + 1) (some (.int (nI (A 14 (6 * n + i))))) (by omega)
        simp (disch := first | omega | assumption | exact own_156 | exact rt_156 | exact sr_199 | exact q_lt1 (hb _ _) | exact bt_lt _ | fail) only [own_156, rt_156, ab_kl_n, ab_kl_i, ab_kl_r, ab_kl_l, at_156_0, Go_aload_0, at_156_1, Go_getf, fl_8_7, gg_8_0, sh_ref, sh_rf, sr_199, sf_199_0, sr_200, sn_200, at_156_4, Go_sipush, ks_750, at_156_7, Go_iload_1, at_156_8, Go_iadd, q_add, Nat.zero_add, at_156_9, Go_iaload, sh_ln, q_in, q_cl, at_156_10, Go_bipush, kb_7, jt_156_12, q_le, q_lt, q_eq, n_leT, n_leF, n_ltT, n_ltF, n_eqF, n_b0, at_156_15, at_156_16, at_156_19, ks_790, at_156_22, at_156_23, at_156_24, at_156_25, at_156_26, fl_8_25, gg_8_13, sf_199_13, sr_205, sn_205, at_156_29, at_156_30, at_156_33, ks_770, at_156_36, at_156_37, at_156_38, at_156_39, jt_156_40, at_156_43, Go_iconst, kc_1, jt_156_44, at_156_47, kc_0, at_156_48, Go_istore_2, ab_put_int_2, at_156_49, at_156_50, Go_istore_3, ab_put_int_3, Go_iload_2, jt_156_52, at_156_55, Go_iload_3, at_156_56, at_156_57, at_156_60, at_156_63, at_156_64, at_156_65, jt_156_66, at_156_69, at_156_70, at_156_73, ks_830, at_156_76, kb_6, at_156_78, at_156_79, Go_imul, q_mul, at_156_80, at_156_81, at_156_82, at_156_83, at_156_84, Go_istore_4, ab_put_int_4, at_156_86, Go_iload_4, at_156_88, at_156_89, at_156_92, ks_951, at_156_95, jt_156_96, at_156_99, at_156_100, ks_714, at_156_103, at_156_105, at_156_106, at_156_107, cl_8_177, cat_n, cat_i, cat_r, cat_l, tl_i, tl_l, tl_n, sh_same, jt_156_110, at_156_113, jt_156_114, at_156_117, at_156_118, at_156_119, Go_iinc_3, jt_156_122, at_156_125, at_156_126, Go_retb, Go_retb0, Go_retb1, Nat.reduceAdd, Nat.reduceMul, Nat.reduceLeDiff, Nat.reduceSub, decide_true, decide_false, Bool.toNat_true, Bool.toNat_false, not_true_eq_false, not_false_eq_true, ite_not, true_and, and_true, if_true, if_false, ↓reduceIte, Bool.or_true, Bool.true_or, Bool.or_false, e10, e951, c, e12i, c1']
        exact K0
  rw [en_156]
  by_cases c : A 10 n = 7
  · by_cases c2 : A 12 n = shp A 7 (A 11 n)
    · have mm := main (fun _ => c2)
      have c2T := eq_true c2
      simp (disch := first | omega | assumption | exact own_156 | exact rt_156 | exact sr_199 | exact q_lt1 (hb _ _) | exact bt_lt _ | fail) only [own_156, rt_156, ab_kl_n, ab_kl_i, ab_kl_r, ab_kl_l, at_156_0, Go_aload_0, at_156_1, Go_getf, fl_8_7, gg_8_0, sh_ref, sh_rf, sr_199, sf_199_0, sr_200, sn_200, at_156_4, Go_sipush, ks_750, at_156_7, Go_iload_1, at_156_8, Go_iadd, q_add, Nat.zero_add, at_156_9, Go_iaload, sh_ln, q_in, q_cl, at_156_10, Go_bipush, kb_7, jt_156_12, q_le, q_lt, q_eq, n_leT, n_leF, n_ltT, n_ltF, n_eqF, n_b0, at_156_15, at_156_16, at_156_19, ks_790, at_156_22, at_156_23, at_156_24, at_156_25, at_156_26, fl_8_25, gg_8_13, sf_199_13, sr_205, sn_205, at_156_29, at_156_30, at_156_33, ks_770, at_156_36, at_156_37, at_156_38, at_156_39, jt_156_40, at_156_43, Go_iconst, kc_1, jt_156_44, at_156_47, kc_0, at_156_48, Go_istore_2, ab_put_int_2, at_156_49, at_156_50, Go_istore_3, ab_put_int_3, Go_iload_2, jt_156_52, at_156_55, Go_iload_3, at_156_56, at_156_57, at_156_60, at_156_63, at_156_64, at_156_65, jt_156_66, at_156_69, at_156_70, at_156_73, ks_830, at_156_76, kb_6, at_156_78, at_156_79, Go_imul, q_mul, at_156_80, at_156_81, at_156_82, at_156_83, at_156_84, Go_istore_4, ab_put_int_4, at_156_86, Go_iload_4, at_156_88, at_156_89, at_156_92, ks_951, at_156_95, jt_156_96, at_156_99, at_156_100, ks_714, at_156_103, at_156_105, at_156_106, at_156_107, cl_8_177, cat_n, cat_i, cat_r, cat_l, tl_i, tl_l, tl_n, sh_same, jt_156_110, at_156_113, jt_156_114, at_156_117, at_156_118, at_156_119, Go_iinc_3, jt_156_122, at_156_125, at_156_126, Go_retb, Go_retb0, Go_retb1, Nat.reduceAdd, Nat.reduceMul, Nat.reduceLeDiff, Nat.reduceSub, decide_true, decide_false, Bool.toNat_true, Bool.toNat_false, not_true_eq_false, not_false_eq_true, ite_not, true_and, and_true, if_true, if_false, ↓reduceIte, Bool.or_true, Bool.true_or, Bool.or_false, e8, e9, e10, g1, c, c2T]
      exact mm
    · have K0 := off (fun z => c2 (z.1 c)) 0 none (by omega)
      have c2F := eq_false c2
      simp (disch := first | omega | assumption | exact own_156 | exact rt_156 | exact sr_199 | exact q_lt1 (hb _ _) | exact bt_lt _ | fail) only [own_156, rt_156, ab_kl_n, ab_kl_i, ab_kl_r, ab_kl_l, at_156_0, Go_aload_0, at_156_1, Go_getf, fl_8_7, gg_8_0, sh_ref, sh_rf, sr_199, sf_199_0, sr_200, sn_200, at_156_4, Go_sipush, ks_750, at_156_7, Go_iload_1, at_156_8, Go_iadd, q_add, Nat.zero_add, at_156_9, Go_iaload, sh_ln, q_in, q_cl, at_156_10, Go_bipush, kb_7, jt_156_12, q_le, q_lt, q_eq, n_leT, n_leF, n_ltT, n_ltF, n_eqF, n_b0, at_156_15, at_156_16, at_156_19, ks_790, at_156_22, at_156_23, at_156_24, at_156_25, at_156_26, fl_8_25, gg_8_13, sf_199_13, sr_205, sn_205, at_156_29, at_156_30, at_156_33, ks_770, at_156_36, at_156_37, at_156_38, at_156_39, jt_156_40, at_156_43, Go_iconst, kc_1, jt_156_44, at_156_47, kc_0, at_156_48, Go_istore_2, ab_put_int_2, at_156_49, at_156_50, Go_istore_3, ab_put_int_3, Go_iload_2, jt_156_52, at_156_55, Go_iload_3, at_156_56, at_156_57, at_156_60, at_156_63, at_156_64, at_156_65, jt_156_66, at_156_69, at_156_70, at_156_73, ks_830, at_156_76, kb_6, at_156_78, at_156_79, Go_imul, q_mul, at_156_80, at_156_81, at_156_82, at_156_83, at_156_84, Go_istore_4, ab_put_int_4, at_156_86, Go_iload_4, at_156_88, at_156_89, at_156_92, ks_951, at_156_95, jt_156_96, at_156_99, at_156_100, ks_714, at_156_103, at_156_105, at_156_106, at_156_107, cl_8_177, cat_n, cat_i, cat_r, cat_l, tl_i, tl_l, tl_n, sh_same, jt_156_110, at_156_113, jt_156_114, at_156_117, at_156_118, at_156_119, Go_iinc_3, jt_156_122, at_156_125, at_156_126, Go_retb, Go_retb0, Go_retb1, Nat.reduceAdd, Nat.reduceMul, Nat.reduceLeDiff, Nat.reduceSub, decide_true, decide_false, Bool.toNat_true, Bool.toNat_false, not_true_eq_false, not_false_eq_true, ite_not, true_and, and_true, if_true, if_false, ↓reduceIte, Bool.or_true, Bool.true_or, Bool.or_false, e8, e9, e10, g1, c, c2F]
      exact K0
  · have mm := main (fun z => absurd z c)
    simp (disch := first | omega | assumption | exact own_156 | exact rt_156 | exact sr_199 | exact q_lt1 (hb _ _) | exact bt_lt _ | fail) only [own_156, rt_156, ab_kl_n, ab_kl_i, ab_kl_r, ab_kl_l, at_156_0, Go_aload_0, at_156_1, Go_getf, fl_8_7, gg_8_0, sh_ref, sh_rf, sr_199, sf_199_0, sr_200, sn_200, at_156_4, Go_sipush, ks_750, at_156_7, Go_iload_1, at_156_8, Go_iadd, q_add, Nat.zero_add, at_156_9, Go_iaload, sh_ln, q_in, q_cl, at_156_10, Go_bipush, kb_7, jt_156_12, q_le, q_lt, q_eq, n_leT, n_leF, n_ltT, n_ltF, n_eqF, n_b0, at_156_15, at_156_16, at_156_19, ks_790, at_156_22, at_156_23, at_156_24, at_156_25, at_156_26, fl_8_25, gg_8_13, sf_199_13, sr_205, sn_205, at_156_29, at_156_30, at_156_33, ks_770, at_156_36, at_156_37, at_156_38, at_156_39, jt_156_40, at_156_43, Go_iconst, kc_1, jt_156_44, at_156_47, kc_0, at_156_48, Go_istore_2, ab_put_int_2, at_156_49, at_156_50, Go_istore_3, ab_put_int_3, Go_iload_2, jt_156_52, at_156_55, Go_iload_3, at_156_56, at_156_57, at_156_60, at_156_63, at_156_64, at_156_65, jt_156_66, at_156_69, at_156_70, at_156_73, ks_830, at_156_76, kb_6, at_156_78, at_156_79, Go_imul, q_mul, at_156_80, at_156_81, at_156_82, at_156_83, at_156_84, Go_istore_4, ab_put_int_4, at_156_86, Go_iload_4, at_156_88, at_156_89, at_156_92, ks_951, at_156_95, jt_156_96, at_156_99, at_156_100, ks_714, at_156_103, at_156_105, at_156_106, at_156_107, cl_8_177, cat_n, cat_i, cat_r, cat_l, tl_i, tl_l, tl_n, sh_same, jt_156_110, at_156_113, jt_156_114, at_156_117, at_156_118, at_156_119, Go_iinc_3, jt_156_122, at_156_125, at_156_126, Go_retb, Go_retb0, Go_retb1, Nat.reduceAdd, Nat.reduceMul, Nat.reduceLeDiff, Nat.reduceSub, decide_true, decide_false, Bool.toNat_true, Bool.toNat_false, not_true_eq_false, not_false_eq_true, ite_not, true_and, and_true, if_true, if_false, ↓reduceIte, Bool.or_true, Bool.true_or, Bool.or_false, e8, c]
    exact mm
end MWH
