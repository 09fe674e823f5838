theorem r_9 {A : Nat → Nat → Nat} (hr : WR A) : ∀ b, b < A 0 0 → A 9 b < 64 := fun b hb => (hr.2.2.1 b hb).2.2.2.2.2.2.1
section NEB
variable {I : Nat → Nat → Int32} {J : Nat → Nat → Int64} {Q : Option Value → ab_H → Prop} {A : Nat → Nat → Nat} {P : Nat → Nat} {p : Nat} {R : Prop}
theorem x_bitCount {k : Nat} (hk : k < 64) : Ex 216 [.int (nI k)] (SH, I, J) Q = Q (some (.int (nI (pc6 k)))) (SH, I, J) := by
  rw [en_216]
  simp (disch := first | omega | assumption | exact own_216 | exact rt_216 | exact q_lt1 (hb _ _) | exact bt_lt _ | fail) only [own_216, rt_216, ab_kl_n, ab_kl_i, ab_kl_r, ab_kl_l, at_216_0, Go_iload_0, at_216_1, at_216_2, Go_iconst, kc_1, at_216_3, Go_iushr, at_216_4, ldc_w_9_265, at_216_7, Go_iand, at_216_8, Go_isub, at_216_9, Go_istore_0, ab_put_int_0, at_216_10, at_216_11, ldc_w_9_266, at_216_14, at_216_15, at_216_16, kc_2, at_216_17, at_216_18, at_216_21, at_216_22, Go_iadd, at_216_23, at_216_24, at_216_25, at_216_26, kc_4, at_216_27, at_216_28, at_216_29, ldc_w_9_267, at_216_32, at_216_33, at_216_34, at_216_35, at_216_36, Go_bipush, kb_8, at_216_38, at_216_39, at_216_40, at_216_41, at_216_42, at_216_43, kb_16, at_216_45, at_216_46, at_216_47, at_216_48, at_216_49, kb_63, at_216_51, at_216_52, Go_reti, Nat.reduceAdd, Nat.reduceMul, Nat.reduceLeDiff, Nat.reduceSub, decide_true, decide_false, Bool.toNat_true, Bool.toNat_false, not_true_eq_false, not_false_eq_true, ite_not, true_and, and_true, if_true, if_false, reduceIte, Bool.or_true, Bool.true_or, Bool.or_false]
  refine congrArg (fun z => Q (some (.int z)) (SH, I, J)) ?_
  revert hk
  revert k
  decide +kernel
def ndm (A : Nat → Nat → Nat) (b m : Nat) : Nat := match nd A b m with | none => 0 | some x => pc6 (A 9 x)
theorem pc6_le (k : Nat) : pc6 k ≤ 6 := cn_le _ _
theorem ndm_le (b m : Nat) : ndm A b m ≤ 6 := by
  unfold ndm
  cases nd A b m with
  | none => exact Nat.zero_le _
  | some x => exact pc6_le _
theorem nd_T {b d : Nat} (h : nds A b d = true ∧ ndm A b d < pc6 (A 9 d)) : nd A b (d + 1) = some d := by
  show (if _ then _ else _) = _
  exact if_pos h
theorem nd_F {b d : Nat} (h : ¬ (nds A b d = true ∧ ndm A b d < pc6 (A 9 d))) : nd A b (d + 1) = nd A b d := by
  show (if _ then _ else _) = _
  exact if_neg h
theorem x_nearest (hp : isP p) (hb : WB A) (hr : WR A) (h : PC p I A) (hg : PG p I A) {b : Nat} (hn : b < A 0 0) : Ex 53 [.ref p, .int (nI b)] (SH, I, J) Q = Q (some (.int (ndI (nd A b (A 0 0))))) (SH, I, J) := by
  have s1 := fun k hk Q => x_bitCount (I := I) (J := J) (Q := Q) (k := k) hk
  have r0 := r_9 hr
  have hp2 := p_lt hp
  obtain ⟨r1, r2, r3, r4⟩ := hr
  obtain ⟨e0, e1, e2, e3, e4, e5, e6, e7, e8, e9, e10, e11, e12⟩ := h
  obtain ⟨g1, g2, g3⟩ := hg
  rw [en_53]
  generalize hR : Q _ (SH, I, J) = R
  simp (disch := first | omega | assumption | exact own_53 | exact rt_53 | exact q_lt1 (hb _ _) | exact bt_lt _ | fail) only [own_53, rt_53, ab_kl_n, ab_kl_i, ab_kl_r, ab_kl_l, at_53_0, Go_bipush, kb_m4, at_53_2, Go_istore_2, ab_put_int_2, at_53_3, Go_iconst, kc_0, at_53_4, Go_istore_3, ab_put_int_3, at_53_5, at_53_6, Go_istore_4, ab_put_int_4, Go_iload_4, at_53_10, Go_aload_0, at_53_11, Go_getf, fl_3_60, gg_3_0, sh_ref, sh_rf, jt_53_14, q_le, q_lt, q_eq, n_leT, n_leF, n_ltT, n_ltF, n_eqF, n_b0, at_53_17, at_53_19, Go_iload_1, jt_53_20, at_53_23, at_53_24, fl_3_38, gg_3_10, at_53_27, at_53_28, Go_iaload, sh_ln, q_in, q_cl, at_53_29, at_53_31, cl_3_77, cat_n, cat_i, cat_r, cat_l, tl_i, tl_l, tl_n, sh_same, jt_53_34, jt_53_37, at_53_40, at_53_41, at_53_44, at_53_46, at_53_47, cl_3_88, at_53_50, Go_istore_5, ab_put_int_5, at_53_52, Go_iload_5, at_53_54, Go_iload_3, jt_53_55, at_53_58, at_53_60, at_53_61, at_53_63, at_53_64, Go_iinc_4, kc_1, q_add, jt_53_67, at_53_70, Go_iload_2, at_53_71, Go_reti, Nat.reduceAdd, Nat.reduceMul, Nat.reduceLeDiff, Nat.reduceSub, decide_true, decide_false, Bool.toNat_true, Bool.toNat_false, not_true_eq_false, not_false_eq_true, ite_not, true_and, and_true, if_true, if_false, reduceIte, Bool.or_true, Bool.true_or, Bool.or_false, pr_0 hp, e0, pf_10 hp, pr_15 hp, pn_15 hp, g3]
  refine lp_wp (a := 0) (N := A 0 0) (by omega) (fun i => ∀ v1 : Option Value, Go (ab_at 53 8) 53 8 [some (.ref p), some (.int (nI (b))), some (.int (ndI (nd A b i))), some (.int (nI (ndm A b i))), some (.int (nI (i))), v1] [] (SH, I, J) Q = R) (fun v1 => ?_) (fun i hai hi ih v1 => ?_) none
  · rw [at_53_8]
    simp (disch := first | omega | assumption | exact own_53 | exact rt_53 | exact q_lt1 (hb _ _) | exact bt_lt _ | fail) only [own_53, rt_53, ab_kl_n, ab_kl_i, ab_kl_r, ab_kl_l, at_53_0, Go_bipush, kb_m4, at_53_2, Go_istore_2, ab_put_int_2, at_53_3, Go_iconst, kc_0, at_53_4, Go_istore_3, ab_put_int_3, at_53_5, at_53_6, Go_istore_4, ab_put_int_4, Go_iload_4, at_53_10, Go_aload_0, at_53_11, Go_getf, fl_3_60, gg_3_0, sh_ref, sh_rf, jt_53_14, q_le, q_lt, q_eq, n_leT, n_leF, n_ltT, n_ltF, n_eqF, n_b0, at_53_17, at_53_19, Go_iload_1, jt_53_20, at_53_23, at_53_24, fl_3_38, gg_3_10, at_53_27, at_53_28, Go_iaload, sh_ln, q_in, q_cl, at_53_29, at_53_31, cl_3_77, cat_n, cat_i, cat_r, cat_l, tl_i, tl_l, tl_n, sh_same, jt_53_34, jt_53_37, at_53_40, at_53_41, at_53_44, at_53_46, at_53_47, cl_3_88, at_53_50, Go_istore_5, ab_put_int_5, at_53_52, Go_iload_5, at_53_54, Go_iload_3, jt_53_55, at_53_58, at_53_60, at_53_61, at_53_63, at_53_64, Go_iinc_4, kc_1, q_add, jt_53_67, at_53_70, Go_iload_2, at_53_71, Go_reti, Nat.reduceAdd, Nat.reduceMul, Nat.reduceLeDiff, Nat.reduceSub, decide_true, decide_false, Bool.toNat_true, Bool.toNat_false, not_true_eq_false, not_false_eq_true, ite_not, true_and, and_true, if_true, if_false, reduceIte, Bool.or_true, Bool.true_or, Bool.or_false, pr_0 hp, e0, pf_10 hp, pr_15 hp, pn_15 hp, g3]
    exact hR
  · rw [at_53_8]
    have q1 := r0 b hn
    have q2 := r0 i hi
    have q3 := ndm_le (A := A) b i
    have q4 := pc6_le (A 9 i)
    have e : nds A b i = (!decide (i = b) && (A 9 b).testBit i) := rfl
    by_cases c : i = b
    · have e2 : nds A b i = false := by rw [e, decide_eq_true c]; rfl
      rw [nd_F (fun z => by rw [e2] at z; cases z.1)] at ih
      have e3 : ndm A b (i + 1) = ndm A b i := by unfold ndm; rw [nd_F (fun z => by rw [e2] at z; cases z.1)]
      rw [e3] at ih
      simp (disch := first | omega | assumption | exact own_53 | exact rt_53 | exact q_lt1 (hb _ _) | exact bt_lt _ | fail) only [own_53, rt_53, ab_kl_n, ab_kl_i, ab_kl_r, ab_kl_l, at_53_0, Go_bipush, kb_m4, at_53_2, Go_istore_2, ab_put_int_2, at_53_3, Go_iconst, kc_0, at_53_4, Go_istore_3, ab_put_int_3, at_53_5, at_53_6, Go_istore_4, ab_put_int_4, Go_iload_4, at_53_10, Go_aload_0, at_53_11, Go_getf, fl_3_60, gg_3_0, sh_ref, sh_rf, jt_53_14, q_le, q_lt, q_eq, n_leT, n_leF, n_ltT, n_ltF, n_eqF, n_b0, at_53_17, at_53_19, Go_iload_1, jt_53_20, at_53_23, at_53_24, fl_3_38, gg_3_10, at_53_27, at_53_28, Go_iaload, sh_ln, q_in, q_cl, at_53_29, at_53_31, cl_3_77, cat_n, cat_i, cat_r, cat_l, tl_i, tl_l, tl_n, sh_same, jt_53_34, jt_53_37, at_53_40, at_53_41, at_53_44, at_53_46, at_53_47, cl_3_88, at_53_50, Go_istore_5, ab_put_int_5, at_53_52, Go_iload_5, at_53_54, Go_iload_3, jt_53_55, at_53_58, at_53_60, at_53_61, at_53_63, at_53_64, Go_iinc_4, kc_1, q_add, jt_53_67, at_53_70, Go_iload_2, at_53_71, Go_reti, Nat.reduceAdd, Nat.reduceMul, Nat.reduceLeDiff, Nat.reduceSub, decide_true, decide_false, Bool.toNat_true, Bool.toNat_false, not_true_eq_false, not_false_eq_true, ite_not, true_and, and_true, if_true, if_false, reduceIte, Bool.or_true, Bool.true_or, Bool.or_false, pr_0 hp, e0, pf_10 hp, pr_15 hp, pn_15 hp, g3, c]
      rw [c] at ih
      exact ih _
    · cases c2 : (A 9 b).testBit i with
      | false =>
        have e2 : nds A b i = false := by rw [e, c2, Bool.and_false]
        rw [nd_F (fun z => by rw [e2] at z; cases z.1)] at ih
        have e3 : ndm A b (i + 1) = ndm A b i := by unfold ndm; rw [nd_F (fun z => by rw [e2] at z; cases z.1)]
        rw [e3] at ih
        simp (disch := first | omega | assumption | exact own_53 | exact rt_53 | exact q_lt1 (hb _ _) | exact bt_lt _ | fail) only [own_53, rt_53, ab_kl_n, ab_kl_i, ab_kl_r, ab_kl_l, at_53_0, Go_bipush, kb_m4, at_53_2, Go_istore_2, ab_put_int_2, at_53_3, Go_iconst, kc_0, at_53_4, Go_istore_3, ab_put_int_3, at_53_5, at_53_6, Go_istore_4, ab_put_int_4, Go_iload_4, at_53_10, Go_aload_0, at_53_11, Go_getf, fl_3_60, gg_3_0, sh_ref, sh_rf, jt_53_14, q_le, q_lt, q_eq, n_leT, n_leF, n_ltT, n_ltF, n_eqF, n_b0, at_53_17, at_53_19, Go_iload_1, jt_53_20, at_53_23, at_53_24, fl_3_38, gg_3_10, at_53_27, at_53_28, Go_iaload, sh_ln, q_in, q_cl, at_53_29, at_53_31, cl_3_77, cat_n, cat_i, cat_r, cat_l, tl_i, tl_l, tl_n, sh_same, jt_53_34, jt_53_37, at_53_40, at_53_41, at_53_44, at_53_46, at_53_47, cl_3_88, at_53_50, Go_istore_5, ab_put_int_5, at_53_52, Go_iload_5, at_53_54, Go_iload_3, jt_53_55, at_53_58, at_53_60, at_53_61, at_53_63, at_53_64, Go_iinc_4, kc_1, q_add, jt_53_67, at_53_70, Go_iload_2, at_53_71, Go_reti, Nat.reduceAdd, Nat.reduceMul, Nat.reduceLeDiff, Nat.reduceSub, decide_true, decide_false, Bool.toNat_true, Bool.toNat_false, not_true_eq_false, not_false_eq_true, ite_not, true_and, and_true, if_true, if_false, reduceIte, Bool.or_true, Bool.true_or, Bool.or_false, pr_0 hp, e0, pf_10 hp, pr_15 hp, pn_15 hp, g3, c, x_hasBit, c2]
        exact ih _
      | true =>
        have e2 : nds A b i = true := by rw [e, c2, decide_eq_false c]; rfl
        by_cases c3 : ndm A b i < pc6 (A 9 i)
        · have e4 := nd_T ⟨e2, c3⟩
          have e3 : ndm A b (i + 1) = pc6 (A 9 i) := by unfold ndm; rw [e4]
          rw [e4, e3] at ih
          simp (disch := first | omega | assumption | exact own_53 | exact rt_53 | exact q_lt1 (hb _ _) | exact bt_lt _ | fail) only [own_53, rt_53, ab_kl_n, ab_kl_i, ab_kl_r, ab_kl_l, at_53_0, Go_bipush, kb_m4, at_53_2, Go_istore_2, ab_put_int_2, at_53_3, Go_iconst, kc_0, at_53_4, Go_istore_3, ab_put_int_3, at_53_5, at_53_6, Go_istore_4, ab_put_int_4, Go_iload_4, at_53_10, Go_aload_0, at_53_11, Go_getf, fl_3_60, gg_3_0, sh_ref, sh_rf, jt_53_14, q_le, q_lt, q_eq, n_leT, n_leF, n_ltT, n_ltF, n_eqF, n_b0, at_53_17, at_53_19, Go_iload_1, jt_53_20, at_53_23, at_53_24, fl_3_38, gg_3_10, at_53_27, at_53_28, Go_iaload, sh_ln, q_in, q_cl, at_53_29, at_53_31, cl_3_77, cat_n, cat_i, cat_r, cat_l, tl_i, tl_l, tl_n, sh_same, jt_53_34, jt_53_37, at_53_40, at_53_41, at_53_44, at_53_46, at_53_47, cl_3_88, at_53_50, Go_istore_5, ab_put_int_5, at_53_52, Go_iload_5, at_53_54, Go_iload_3, jt_53_55, at_53_58, at_53_60, at_53_61, at_53_63, at_53_64, Go_iinc_4, kc_1, q_add, jt_53_67, at_53_70, Go_iload_2, at_53_71, Go_reti, Nat.reduceAdd, Nat.reduceMul, Nat.reduceLeDiff, Nat.reduceSub, decide_true, decide_false, Bool.toNat_true, Bool.toNat_false, not_true_eq_false, not_false_eq_true, ite_not, true_and, and_true, if_true, if_false, reduceIte, Bool.or_true, Bool.true_or, Bool.or_false, pr_0 hp, e0, pf_10 hp, pr_15 hp, pn_15 hp, g3, c, x_hasBit, c2, s1]
          exact ih _
        · have e4 := nd_F (fun z => c3 z.2 : ¬ (nds A b i = true ∧ ndm A b i < pc6 (A 9 i)))
          have e3 : ndm A b (i + 1) = ndm A b i := by unfold ndm; rw [e4]
          rw [e4, e3] at ih
          simp (disch := first | omega | assumption | exact own_53 | exact rt_53 | exact q_lt1 (hb _ _) | exact bt_lt _ | fail) only [own_53, rt_53, ab_kl_n, ab_kl_i, ab_kl_r, ab_kl_l, at_53_0, Go_bipush, kb_m4, at_53_2, Go_istore_2, ab_put_int_2, at_53_3, Go_iconst, kc_0, at_53_4, Go_istore_3, ab_put_int_3, at_53_5, at_53_6, Go_istore_4, ab_put_int_4, Go_iload_4, at_53_10, Go_aload_0, at_53_11, Go_getf, fl_3_60, gg_3_0, sh_ref, sh_rf, jt_53_14, q_le, q_lt, q_eq, n_leT, n_leF, n_ltT, n_ltF, n_eqF, n_b0, at_53_17, at_53_19, Go_iload_1, jt_53_20, at_53_23, at_53_24, fl_3_38, gg_3_10, at_53_27, at_53_28, Go_iaload, sh_ln, q_in, q_cl, at_53_29, at_53_31, cl_3_77, cat_n, cat_i, cat_r, cat_l, tl_i, tl_l, tl_n, sh_same, jt_53_34, jt_53_37, at_53_40, at_53_41, at_53_44, at_53_46, at_53_47, cl_3_88, at_53_50, Go_istore_5, ab_put_int_5, at_53_52, Go_iload_5, at_53_54, Go_iload_3, jt_53_55, at_53_58, at_53_60, at_53_61, at_53_63, at_53_64, Go_iinc_4, kc_1, q_add, jt_53_67, at_53_70, Go_iload_2, at_53_71, Go_reti, Nat.reduceAdd, Nat.reduceMul, Nat.reduceLeDiff, Nat.reduceSub, decide_true, decide_false, Bool.toNat_true, Bool.toNat_false, not_true_eq_false, not_false_eq_true, ite_not, true_and, and_true, if_true, if_false, reduceIte, Bool.or_true, Bool.true_or, Bool.or_false, pr_0 hp, e0, pf_10 hp, pr_15 hp, pn_15 hp, g3, c, x_hasBit, c2, s1]
          exact ih _
theorem m_nearest (hb : WB A) (hr : WR A) (h : PM 0 I A) (hg : PW I A) {b : Nat} (hn : b < A 0 0) : Ex 163 [.ref 199, .int (nI b)] (SH, I, J) Q = Q (some (.int (if fu (ndp A b) (A 0 0) 0 < A 0 0 then nI (fu (ndp A b) (A 0 0) 0) else -4))) (SH, I, J) := by
  have s1 := fun d hd Q => m_isOver (J := J) (Q := Q) (g := 0) (d := d) (b := b) hb hr (by omega) h hg hd hn
  have r0 := r_9 hr
  obtain ⟨r1, r2, r3, r4⟩ := hr
  obtain ⟨e0, e1, e2, e3, e4, e5, e6, e7, e8, e9, e10, e11, e12⟩ := PM_0 h
  obtain ⟨g1, g2, g3⟩ := hg
  have hs := fu_spec (ndp A b) (A 0 0) 0
  generalize fu (ndp A b) (A 0 0) 0 = z at hs
  obtain ⟨-, s2, s3, s4⟩ := hs
  simp only [Nat.zero_add] at s2 s3 s4
  rw [en_163]
  generalize hR : Q _ (SH, I, J) = R
  simp (disch := first | omega | assumption | exact own_163 | exact rt_163 | exact sr_199 | exact q_lt1 (hb _ _) | exact bt_lt _ | fail) only [own_163, rt_163, ab_kl_n, ab_kl_i, ab_kl_r, ab_kl_l, at_163_0, Go_iconst, kc_0, at_163_1, Go_istore_2, ab_put_int_2, Go_iload_2, at_163_3, Go_aload_0, at_163_4, Go_getf, fl_8_7, gg_8_0, sh_ref, sh_rf, sr_199, sf_199_0, sr_200, sn_200, at_163_7, Go_sipush, ks_236, at_163_10, Go_iaload, sh_ln, q_in, q_cl, jt_163_11, q_le, q_lt, q_eq, n_leT, n_leF, n_ltT, n_ltF, n_eqF, n_b0, at_163_14, at_163_15, Go_iload_1, jt_163_16, at_163_19, at_163_20, at_163_21, at_163_22, cl_8_166, cat_n, cat_i, cat_r, cat_l, tl_i, tl_l, tl_n, sh_same, jt_163_25, at_163_28, at_163_29, fl_8_28, gg_8_14, sf_199_14, sr_206, sn_206, at_163_32, at_163_33, at_163_34, kc_1, at_163_35, at_163_36, Go_ishl, q_shl, at_163_37, kc_m1, at_163_38, Go_ixor, q_bd, at_163_39, Go_iand, at_163_40, at_163_41, at_163_44, at_163_45, at_163_46, at_163_47, at_163_48, jt_163_49, at_163_52, at_163_53, Go_reti, at_163_54, Go_iinc_2, q_add, jt_163_57, at_163_60, Go_bipush, kb_m4, at_163_62, Nat.reduceAdd, Nat.reduceMul, Nat.reduceLeDiff, Nat.reduceSub, decide_true, decide_false, Bool.toNat_true, Bool.toNat_false, not_true_eq_false, not_false_eq_true, ite_not, true_and, and_true, if_true, if_false, reduceIte, Bool.or_true, Bool.true_or, Bool.or_false, e0, e1, e2, e3, e4, e5, e6, e7, e8, e9, e10, e11, e12, g1, g2, g3]
  have bnd : ∀ d, (A 9 b &&& (A 9 b ^^^ 1 <<< b) &&& (A 9 b &&& (A 9 b ^^^ 1 <<< b) ^^^ A 9 d)) < 64 := fun d => Nat.lt_of_le_of_lt (Nat.le_trans Nat.and_le_left Nat.and_le_left) (r0 b hn)
  refine lp_wp (a := 0) (N := z) (Nat.zero_le _) (fun i => Go (ab_at 163 2) 163 2 [some (.ref 199), some (.int (nI (b))), some (.int (nI (i)))] []  (SH, I, J) Q = R) ?_ (fun i _ hi ih => ?_)
  · rw [at_163_2]
    rcases Nat.lt_or_ge z (A 0 0) with k | k
    · have k2 := s4 k
      unfold ndp nds at k2
      simp only [Bool.and_eq_true, Bool.not_eq_true', decide_eq_false_iff_not, decide_eq_true_eq] at k2
      obtain ⟨⟨k3, k4⟩, k5⟩ := k2
      simp (disch := first | omega | assumption | exact own_163 | exact rt_163 | exact sr_199 | exact q_lt1 (hb _ _) | exact bt_lt _ | fail) only [own_163, rt_163, ab_kl_n, ab_kl_i, ab_kl_r, ab_kl_l, at_163_0, Go_iconst, kc_0, at_163_1, Go_istore_2, ab_put_int_2, Go_iload_2, at_163_3, Go_aload_0, at_163_4, Go_getf, fl_8_7, gg_8_0, sh_ref, sh_rf, sr_199, sf_199_0, sr_200, sn_200, at_163_7, Go_sipush, ks_236, at_163_10, Go_iaload, sh_ln, q_in, q_cl, jt_163_11, q_le, q_lt, q_eq, n_leT, n_leF, n_ltT, n_ltF, n_eqF, n_b0, at_163_14, at_163_15, Go_iload_1, jt_163_16, at_163_19, at_163_20, at_163_21, at_163_22, cl_8_166, cat_n, cat_i, cat_r, cat_l, tl_i, tl_l, tl_n, sh_same, jt_163_25, at_163_28, at_163_29, fl_8_28, gg_8_14, sf_199_14, sr_206, sn_206, at_163_32, at_163_33, at_163_34, kc_1, at_163_35, at_163_36, Go_ishl, q_shl, at_163_37, kc_m1, at_163_38, Go_ixor, q_bd, at_163_39, Go_iand, at_163_40, at_163_41, at_163_44, at_163_45, at_163_46, at_163_47, at_163_48, jt_163_49, at_163_52, at_163_53, Go_reti, at_163_54, Go_iinc_2, q_add, jt_163_57, at_163_60, Go_bipush, kb_m4, at_163_62, Nat.reduceAdd, Nat.reduceMul, Nat.reduceLeDiff, Nat.reduceSub, decide_true, decide_false, Bool.toNat_true, Bool.toNat_false, not_true_eq_false, not_false_eq_true, ite_not, true_and, and_true, if_true, if_false, reduceIte, Bool.or_true, Bool.true_or, Bool.or_false, e0, e1, e2, e3, e4, e5, e6, e7, e8, e9, e10, e11, e12, g1, g2, g3, s1, k3, k4, k5]
      rw [← hR, if_pos k]
    · have k2 : z = A 0 0 := by omega
      subst k2
      simp (disch := first | omega | assumption | exact own_163 | exact rt_163 | exact sr_199 | exact q_lt1 (hb _ _) | exact bt_lt _ | fail) only [own_163, rt_163, ab_kl_n, ab_kl_i, ab_kl_r, ab_kl_l, at_163_0, Go_iconst, kc_0, at_163_1, Go_istore_2, ab_put_int_2, Go_iload_2, at_163_3, Go_aload_0, at_163_4, Go_getf, fl_8_7, gg_8_0, sh_ref, sh_rf, sr_199, sf_199_0, sr_200, sn_200, at_163_7, Go_sipush, ks_236, at_163_10, Go_iaload, sh_ln, q_in, q_cl, jt_163_11, q_le, q_lt, q_eq, n_leT, n_leF, n_ltT, n_ltF, n_eqF, n_b0, at_163_14, at_163_15, Go_iload_1, jt_163_16, at_163_19, at_163_20, at_163_21, at_163_22, cl_8_166, cat_n, cat_i, cat_r, cat_l, tl_i, tl_l, tl_n, sh_same, jt_163_25, at_163_28, at_163_29, fl_8_28, gg_8_14, sf_199_14, sr_206, sn_206, at_163_32, at_163_33, at_163_34, kc_1, at_163_35, at_163_36, Go_ishl, q_shl, at_163_37, kc_m1, at_163_38, Go_ixor, q_bd, at_163_39, Go_iand, at_163_40, at_163_41, at_163_44, at_163_45, at_163_46, at_163_47, at_163_48, jt_163_49, at_163_52, at_163_53, Go_reti, at_163_54, Go_iinc_2, q_add, jt_163_57, at_163_60, Go_bipush, kb_m4, at_163_62, Nat.reduceAdd, Nat.reduceMul, Nat.reduceLeDiff, Nat.reduceSub, decide_true, decide_false, Bool.toNat_true, Bool.toNat_false, not_true_eq_false, not_false_eq_true, ite_not, true_and, and_true, if_true, if_false, reduceIte, Bool.or_true, Bool.true_or, Bool.or_false, e0, e1, e2, e3, e4, e5, e6, e7, e8, e9, e10, e11, e12, g1, g2, g3]
      rw [← hR, if_neg (by omega)]
  · rw [at_163_2]
    have k2 := s3 i (Nat.zero_le _) hi
    unfold ndp nds at k2
    have b1 := bnd i
    by_cases c : i = b
    · simp (disch := first | omega | assumption | exact own_163 | exact rt_163 | exact sr_199 | exact q_lt1 (hb _ _) | exact bt_lt _ | fail) only [own_163, rt_163, ab_kl_n, ab_kl_i, ab_kl_r, ab_kl_l, at_163_0, Go_iconst, kc_0, at_163_1, Go_istore_2, ab_put_int_2, Go_iload_2, at_163_3, Go_aload_0, at_163_4, Go_getf, fl_8_7, gg_8_0, sh_ref, sh_rf, sr_199, sf_199_0, sr_200, sn_200, at_163_7, Go_sipush, ks_236, at_163_10, Go_iaload, sh_ln, q_in, q_cl, jt_163_11, q_le, q_lt, q_eq, n_leT, n_leF, n_ltT, n_ltF, n_eqF, n_b0, at_163_14, at_163_15, Go_iload_1, jt_163_16, at_163_19, at_163_20, at_163_21, at_163_22, cl_8_166, cat_n, cat_i, cat_r, cat_l, tl_i, tl_l, tl_n, sh_same, jt_163_25, at_163_28, at_163_29, fl_8_28, gg_8_14, sf_199_14, sr_206, sn_206, at_163_32, at_163_33, at_163_34, kc_1, at_163_35, at_163_36, Go_ishl, q_shl, at_163_37, kc_m1, at_163_38, Go_ixor, q_bd, at_163_39, Go_iand, at_163_40, at_163_41, at_163_44, at_163_45, at_163_46, at_163_47, at_163_48, jt_163_49, at_163_52, at_163_53, Go_reti, at_163_54, Go_iinc_2, q_add, jt_163_57, at_163_60, Go_bipush, kb_m4, at_163_62, Nat.reduceAdd, Nat.reduceMul, Nat.reduceLeDiff, Nat.reduceSub, decide_true, decide_false, Bool.toNat_true, Bool.toNat_false, not_true_eq_false, not_false_eq_true, ite_not, true_and, and_true, if_true, if_false, reduceIte, Bool.or_true, Bool.true_or, Bool.or_false, e0, e1, e2, e3, e4, e5, e6, e7, e8, e9, e10, e11, e12, g1, g2, g3, c]
      rw [c] at ih
      exact ih
    · cases c2 : (A 9 b).testBit i with
      | false =>
        simp (disch := first | omega | assumption | exact own_163 | exact rt_163 | exact sr_199 | exact q_lt1 (hb _ _) | exact bt_lt _ | fail) only [own_163, rt_163, ab_kl_n, ab_kl_i, ab_kl_r, ab_kl_l, at_163_0, Go_iconst, kc_0, at_163_1, Go_istore_2, ab_put_int_2, Go_iload_2, at_163_3, Go_aload_0, at_163_4, Go_getf, fl_8_7, gg_8_0, sh_ref, sh_rf, sr_199, sf_199_0, sr_200, sn_200, at_163_7, Go_sipush, ks_236, at_163_10, Go_iaload, sh_ln, q_in, q_cl, jt_163_11, q_le, q_lt, q_eq, n_leT, n_leF, n_ltT, n_ltF, n_eqF, n_b0, at_163_14, at_163_15, Go_iload_1, jt_163_16, at_163_19, at_163_20, at_163_21, at_163_22, cl_8_166, cat_n, cat_i, cat_r, cat_l, tl_i, tl_l, tl_n, sh_same, jt_163_25, at_163_28, at_163_29, fl_8_28, gg_8_14, sf_199_14, sr_206, sn_206, at_163_32, at_163_33, at_163_34, kc_1, at_163_35, at_163_36, Go_ishl, q_shl, at_163_37, kc_m1, at_163_38, Go_ixor, q_bd, at_163_39, Go_iand, at_163_40, at_163_41, at_163_44, at_163_45, at_163_46, at_163_47, at_163_48, jt_163_49, at_163_52, at_163_53, Go_reti, at_163_54, Go_iinc_2, q_add, jt_163_57, at_163_60, Go_bipush, kb_m4, at_163_62, Nat.reduceAdd, Nat.reduceMul, Nat.reduceLeDiff, Nat.reduceSub, decide_true, decide_false, Bool.toNat_true, Bool.toNat_false, not_true_eq_false, not_false_eq_true, ite_not, true_and, and_true, if_true, if_false, reduceIte, Bool.or_true, Bool.true_or, Bool.or_false, e0, e1, e2, e3, e4, e5, e6, e7, e8, e9, e10, e11, e12, g1, g2, g3, s1, c, c2]
        exact ih
      | true =>
        rw [decide_eq_false c, c2] at k2
        simp only [Bool.not_false, Bool.and_self, Bool.true_and, decide_eq_false_iff_not] at k2
        simp (disch := first | omega | assumption | exact own_163 | exact rt_163 | exact sr_199 | exact q_lt1 (hb _ _) | exact bt_lt _ | fail) only [own_163, rt_163, ab_kl_n, ab_kl_i, ab_kl_r, ab_kl_l, at_163_0, Go_iconst, kc_0, at_163_1, Go_istore_2, ab_put_int_2, Go_iload_2, at_163_3, Go_aload_0, at_163_4, Go_getf, fl_8_7, gg_8_0, sh_ref, sh_rf, sr_199, sf_199_0, sr_200, sn_200, at_163_7, Go_sipush, ks_236, at_163_10, Go_iaload, sh_ln, q_in, q_cl, jt_163_11, q_le, q_lt, q_eq, n_leT, n_leF, n_ltT, n_ltF, n_eqF, n_b0, at_163_14, at_163_15, Go_iload_1, jt_163_16, at_163_19, at_163_20, at_163_21, at_163_22, cl_8_166, cat_n, cat_i, cat_r, cat_l, tl_i, tl_l, tl_n, sh_same, jt_163_25, at_163_28, at_163_29, fl_8_28, gg_8_14, sf_199_14, sr_206, sn_206, at_163_32, at_163_33, at_163_34, kc_1, at_163_35, at_163_36, Go_ishl, q_shl, at_163_37, kc_m1, at_163_38, Go_ixor, q_bd, at_163_39, Go_iand, at_163_40, at_163_41, at_163_44, at_163_45, at_163_46, at_163_47, at_163_48, jt_163_49, at_163_52, at_163_53, Go_reti, at_163_54, Go_iinc_2, q_add, jt_163_57, at_163_60, Go_bipush, kb_m4, at_163_62, Nat.reduceAdd, Nat.reduceMul, Nat.reduceLeDiff, Nat.reduceSub, decide_true, decide_false, Bool.toNat_true, Bool.toNat_false, not_true_eq_false, not_false_eq_true, ite_not, true_and, and_true, if_true, if_false, reduceIte, Bool.or_true, Bool.true_or, Bool.or_false, e0, e1, e2, e3, e4, e5, e6, e7, e8, e9, e10, e11, e12, g1, g2, g3, s1, c, c2, k2]
        exact ih
end NEB
