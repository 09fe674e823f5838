/-! THE CALLS: set, alter, the rest -/
section MSE
variable {I I' : Nat → Nat → Int32} {J J' : Nat → Nat → Int64} {Q : Option Value → ab_H → Prop} {s : VS}
theorem M_set (ok : OS s) (h : SM s I J) (n i m : Int32) (K : ∀ I' J', SM (n_set s n i m) I' J' → Fr (fun o => o < 199) I I' J J' → Q (some (.int (o_set (v_a s) n i m))) (SH, I', J')) : Ex 205 [.ref 199, .int n, .int i, .int m] (SH, I, J) Q := by
  have hs := h
  obtain ⟨hb, hr, o3, o4, o5⟩ := ok.1
  obtain ⟨⟨ha, hg⟩, h2, h3, h4, h5, h6, h7⟩ := h
  have s0 := fun n hn x Q => m_isOperand (J := J) (Q := Q) hb hr ha hg (n := n) hn x
  have s1 := fun y hn x Q => m_isOperandN (J := J) (Q := Q) hb hr ha hg (y := y) hn x
  have s2 := fun x Q => m_isName (J := J) (Q := Q) hb hr ha hg x
  have s3 := fun m n i hm hn hi Q => m_isSeenAsOperand (J := J) (Q := Q) hb hr (by omega) ha hg (m := m) (n := n) (i := i) hn hm hi
  have s4 := fun n i hn hi Q => m_operandOf (J := J) (Q := Q) hb hr ha hg (n := n) (i := i) hn hi
  have ha0 := ha
  have r1 := hr.1
  have r2 := hr.2.1
  have r4 := hr.2.2.2
  unfold n_set o_set at K
  obtain ⟨e0, e1, e2, e3, e4, e5, e6, e7, e8, e9, e10, e11, e12⟩ := PM_0 ha
  rw [en_205]
  rcases i_lt (x := n) (N := v_a s 0 1) (by omega) with ⟨n, hn, rfl⟩ | hx
  · have PN : nI 0 ≤ nI n ∧ nI n < nI (v_a s 0 1) := ⟨nI_le (Nat.zero_le _) (by omega), nI_lt hn (by omega)⟩
    rw [if_pos PN, il_in (by omega) hn, q_cl (by omega)] at K
    have rn := r4 n hn
    rcases i_lt (x := i) (N := v_a s 12 n) (by omega) with ⟨i, hi, rfl⟩ | hx
    · have PI : nI 0 ≤ nI i ∧ nI i < nI (v_a s 12 n) := ⟨nI_le (Nat.zero_le _) (by omega), nI_lt hi (by omega)⟩
      rw [if_pos PI, il_in (by omega) hi, q_cl (by omega)] at K
      have e12n := e12 n i hn hi
      rcases i_lt (x := m) (N := v_a s 0 1) (by omega) with ⟨m, hm, rfl⟩ | hx
      · have PM : nI 0 ≤ nI m ∧ nI m < nI (v_a s 0 1) := ⟨nI_le (Nat.zero_le _) (by omega), nI_lt hm (by omega)⟩
        rw [if_pos PM, il_in (by omega) hm, q_cl (by omega)] at K
        have s3' := fun Q => s3 m n i hm hn hi Q
        have km : v_a s 10 m ≤ 8 := (r4 m hm).1
        have e8m := e8 m hm
        by_cases c1 : v_a s 10 m = 8
        · rw [if_pos (Or.inl c1), if_pos (Or.inl c1)] at K
          have K0 := K _ _ hs Fr_r
          simp (disch := first | omega | assumption | exact own_205 | exact rt_205 | exact sr_199 | exact q_lt1 (hb _ _) | exact bt_lt _ | fail) only [own_205, rt_205, ab_kl_n, ab_kl_i, ab_kl_r, ab_kl_l, at_205_0, Go_aload_0, at_205_1, Go_iload_1, at_205_2, Go_iload_2, at_205_3, cl_8_204, cat_n, cat_i, cat_r, cat_l, tl_i, tl_l, tl_n, sh_same, jt_205_6, q_le, q_lt, q_eq, n_leT, n_leF, n_ltT, n_ltF, n_eqF, n_b0, at_205_9, at_205_10, Go_iload_3, at_205_11, cl_8_201, jt_205_14, at_205_17, Go_iconst, kc_m1, at_205_18, Go_reti, at_205_19, at_205_20, Go_getf, fl_8_7, gg_8_0, sh_ref, sh_rf, sr_199, sf_199_0, sr_200, sn_200, at_205_23, Go_bipush, kb_36, at_205_25, at_205_26, Go_iadd, q_add, Nat.zero_add, at_205_27, Go_iaload, sh_ln, q_in, q_cl, at_205_28, kb_8, jt_205_30, at_205_33, at_205_34, kc_0, at_205_35, at_205_36, at_205_37, at_205_38, cl_8_177, jt_205_41, at_205_44, kb_m2, at_205_46, at_205_47, at_205_48, at_205_49, at_205_50, cl_8_287, at_205_53, Go_istore_4, ab_put_int_4, at_205_55, at_205_56, at_205_59, kb_116, at_205_61, kb_6, at_205_63, at_205_64, Go_imul, q_mul, at_205_65, at_205_66, at_205_67, at_205_68, at_205_69, Go_iastore, sh_seti, at_205_70, Go_iload_4, at_205_72, Nat.reduceAdd, Nat.reduceMul, Nat.reduceLeDiff, Nat.reduceSub, decide_true, decide_false, Bool.toNat_true, Bool.toNat_false, not_true_eq_false, not_false_eq_true, ite_not, true_and, and_true, if_true, if_false, ↓reduceIte, Bool.or_true, Bool.true_or, Bool.or_false, s0, s2, c1, e8m]
          exact K0
        · cases c2 : so (v_a s) m n i with
          | false =>
            rw [if_pos (Or.inr c2), if_pos (Or.inr c2)] at K
            have K0 := K _ _ hs Fr_r
            rw [c2] at s3'
            simp (disch := first | omega | assumption | exact own_205 | exact rt_205 | exact sr_199 | exact q_lt1 (hb _ _) | exact bt_lt _ | fail) only [own_205, rt_205, ab_kl_n, ab_kl_i, ab_kl_r, ab_kl_l, at_205_0, Go_aload_0, at_205_1, Go_iload_1, at_205_2, Go_iload_2, at_205_3, cl_8_204, cat_n, cat_i, cat_r, cat_l, tl_i, tl_l, tl_n, sh_same, jt_205_6, q_le, q_lt, q_eq, n_leT, n_leF, n_ltT, n_ltF, n_eqF, n_b0, at_205_9, at_205_10, Go_iload_3, at_205_11, cl_8_201, jt_205_14, at_205_17, Go_iconst, kc_m1, at_205_18, Go_reti, at_205_19, at_205_20, Go_getf, fl_8_7, gg_8_0, sh_ref, sh_rf, sr_199, sf_199_0, sr_200, sn_200, at_205_23, Go_bipush, kb_36, at_205_25, at_205_26, Go_iadd, q_add, Nat.zero_add, at_205_27, Go_iaload, sh_ln, q_in, q_cl, at_205_28, kb_8, jt_205_30, at_205_33, at_205_34, kc_0, at_205_35, at_205_36, at_205_37, at_205_38, cl_8_177, jt_205_41, at_205_44, kb_m2, at_205_46, at_205_47, at_205_48, at_205_49, at_205_50, cl_8_287, at_205_53, Go_istore_4, ab_put_int_4, at_205_55, at_205_56, at_205_59, kb_116, at_205_61, kb_6, at_205_63, at_205_64, Go_imul, q_mul, at_205_65, at_205_66, at_205_67, at_205_68, at_205_69, Go_iastore, sh_seti, at_205_70, Go_iload_4, at_205_72, Nat.reduceAdd, Nat.reduceMul, Nat.reduceLeDiff, Nat.reduceSub, decide_true, decide_false, Bool.toNat_true, Bool.toNat_false, not_true_eq_false, not_false_eq_true, ite_not, true_and, and_true, if_true, if_false, ↓reduceIte, Bool.or_true, Bool.true_or, Bool.or_false, s0, s2, c1, s3', e8m]
            exact K0
          | true =>
            have C : ¬ (v_a s 10 m = 8 ∨ so (v_a s) m n i = false) := fun z => z.elim c1 (fun y => by rw [c2] at y; cases y)
            rw [if_neg C, if_neg C] at K
            rw [c2] at s3'
            simp (disch := first | omega | assumption | exact own_205 | exact rt_205 | exact sr_199 | exact q_lt1 (hb _ _) | exact bt_lt _ | fail) only [own_205, rt_205, ab_kl_n, ab_kl_i, ab_kl_r, ab_kl_l, at_205_0, Go_aload_0, at_205_1, Go_iload_1, at_205_2, Go_iload_2, at_205_3, cl_8_204, cat_n, cat_i, cat_r, cat_l, tl_i, tl_l, tl_n, sh_same, jt_205_6, q_le, q_lt, q_eq, n_leT, n_leF, n_ltT, n_ltF, n_eqF, n_b0, at_205_9, at_205_10, Go_iload_3, at_205_11, cl_8_201, jt_205_14, at_205_17, Go_iconst, kc_m1, at_205_18, Go_reti, at_205_19, at_205_20, Go_getf, fl_8_7, gg_8_0, sh_ref, sh_rf, sr_199, sf_199_0, sr_200, sn_200, at_205_23, Go_bipush, kb_36, at_205_25, at_205_26, Go_iadd, q_add, Nat.zero_add, at_205_27, Go_iaload, sh_ln, q_in, q_cl, at_205_28, kb_8, jt_205_30, at_205_33, at_205_34, kc_0, at_205_35, at_205_36, at_205_37, at_205_38, cl_8_177, jt_205_41, at_205_44, kb_m2, at_205_46, at_205_47, at_205_48, at_205_49, at_205_50, cl_8_287, at_205_53, Go_istore_4, ab_put_int_4, at_205_55, at_205_56, at_205_59, kb_116, at_205_61, kb_6, at_205_63, at_205_64, Go_imul, q_mul, at_205_65, at_205_66, at_205_67, at_205_68, at_205_69, Go_iastore, sh_seti, at_205_70, Go_iload_4, at_205_72, Nat.reduceAdd, Nat.reduceMul, Nat.reduceLeDiff, Nat.reduceSub, decide_true, decide_false, Bool.toNat_true, Bool.toNat_false, not_true_eq_false, not_false_eq_true, ite_not, true_and, and_true, if_true, if_false, ↓reduceIte, Bool.or_true, Bool.true_or, Bool.or_false, s0, s2, s4, c1, s3', e12n, e8m, Bool.true_eq_false]
            have hpc := PM_set (m := m) hr hn hi ha0
            have hpg := PW_set (f := 14) (k := 6 * n + i) (v := m) (Or.inr rfl) (j := 116 + 6 * n + i) (x := nI m) hg
            obtain ⟨k1, k2⟩ := SM_a (x := nI m) ok hs (by omega) hpc hpg
            exact K _ _ k1 k2
      · rw [if_neg hx, il_out hx] at K
        have K0 := K _ _ hs Fr_r
        simp (disch := first | omega | assumption | exact own_205 | exact rt_205 | exact sr_199 | exact q_lt1 (hb _ _) | exact bt_lt _ | fail) only [own_205, rt_205, ab_kl_n, ab_kl_i, ab_kl_r, ab_kl_l, at_205_0, Go_aload_0, at_205_1, Go_iload_1, at_205_2, Go_iload_2, at_205_3, cl_8_204, cat_n, cat_i, cat_r, cat_l, tl_i, tl_l, tl_n, sh_same, jt_205_6, q_le, q_lt, q_eq, n_leT, n_leF, n_ltT, n_ltF, n_eqF, n_b0, at_205_9, at_205_10, Go_iload_3, at_205_11, cl_8_201, jt_205_14, at_205_17, Go_iconst, kc_m1, at_205_18, Go_reti, at_205_19, at_205_20, Go_getf, fl_8_7, gg_8_0, sh_ref, sh_rf, sr_199, sf_199_0, sr_200, sn_200, at_205_23, Go_bipush, kb_36, at_205_25, at_205_26, Go_iadd, q_add, Nat.zero_add, at_205_27, Go_iaload, sh_ln, q_in, q_cl, at_205_28, kb_8, jt_205_30, at_205_33, at_205_34, kc_0, at_205_35, at_205_36, at_205_37, at_205_38, cl_8_177, jt_205_41, at_205_44, kb_m2, at_205_46, at_205_47, at_205_48, at_205_49, at_205_50, cl_8_287, at_205_53, Go_istore_4, ab_put_int_4, at_205_55, at_205_56, at_205_59, kb_116, at_205_61, kb_6, at_205_63, at_205_64, Go_imul, q_mul, at_205_65, at_205_66, at_205_67, at_205_68, at_205_69, Go_iastore, sh_seti, at_205_70, Go_iload_4, at_205_72, Nat.reduceAdd, Nat.reduceMul, Nat.reduceLeDiff, Nat.reduceSub, decide_true, decide_false, Bool.toNat_true, Bool.toNat_false, not_true_eq_false, not_false_eq_true, ite_not, true_and, and_true, if_true, if_false, ↓reduceIte, Bool.or_true, Bool.true_or, Bool.or_false, s0, s2, hx]
        exact K0
    · rw [if_neg hx, il_out hx] at K
      have K0 := K _ _ hs Fr_r
      simp (disch := first | omega | assumption | exact own_205 | exact rt_205 | exact sr_199 | exact q_lt1 (hb _ _) | exact bt_lt _ | fail) only [own_205, rt_205, ab_kl_n, ab_kl_i, ab_kl_r, ab_kl_l, at_205_0, Go_aload_0, at_205_1, Go_iload_1, at_205_2, Go_iload_2, at_205_3, cl_8_204, cat_n, cat_i, cat_r, cat_l, tl_i, tl_l, tl_n, sh_same, jt_205_6, q_le, q_lt, q_eq, n_leT, n_leF, n_ltT, n_ltF, n_eqF, n_b0, at_205_9, at_205_10, Go_iload_3, at_205_11, cl_8_201, jt_205_14, at_205_17, Go_iconst, kc_m1, at_205_18, Go_reti, at_205_19, at_205_20, Go_getf, fl_8_7, gg_8_0, sh_ref, sh_rf, sr_199, sf_199_0, sr_200, sn_200, at_205_23, Go_bipush, kb_36, at_205_25, at_205_26, Go_iadd, q_add, Nat.zero_add, at_205_27, Go_iaload, sh_ln, q_in, q_cl, at_205_28, kb_8, jt_205_30, at_205_33, at_205_34, kc_0, at_205_35, at_205_36, at_205_37, at_205_38, cl_8_177, jt_205_41, at_205_44, kb_m2, at_205_46, at_205_47, at_205_48, at_205_49, at_205_50, cl_8_287, at_205_53, Go_istore_4, ab_put_int_4, at_205_55, at_205_56, at_205_59, kb_116, at_205_61, kb_6, at_205_63, at_205_64, Go_imul, q_mul, at_205_65, at_205_66, at_205_67, at_205_68, at_205_69, Go_iastore, sh_seti, at_205_70, Go_iload_4, at_205_72, Nat.reduceAdd, Nat.reduceMul, Nat.reduceLeDiff, Nat.reduceSub, decide_true, decide_false, Bool.toNat_true, Bool.toNat_false, not_true_eq_false, not_false_eq_true, ite_not, true_and, and_true, if_true, if_false, ↓reduceIte, Bool.or_true, Bool.true_or, Bool.or_false, s0, hx]
      exact K0
  · rw [if_neg hx, il_out hx] at K
    have K0 := K _ _ hs Fr_r
    simp (disch := first | omega | assumption | exact own_205 | exact rt_205 | exact sr_199 | exact q_lt1 (hb _ _) | exact bt_lt _ | fail) only [own_205, rt_205, ab_kl_n, ab_kl_i, ab_kl_r, ab_kl_l, at_205_0, Go_aload_0, at_205_1, Go_iload_1, at_205_2, Go_iload_2, at_205_3, cl_8_204, cat_n, cat_i, cat_r, cat_l, tl_i, tl_l, tl_n, sh_same, jt_205_6, q_le, q_lt, q_eq, n_leT, n_leF, n_ltT, n_ltF, n_eqF, n_b0, at_205_9, at_205_10, Go_iload_3, at_205_11, cl_8_201, jt_205_14, at_205_17, Go_iconst, kc_m1, at_205_18, Go_reti, at_205_19, at_205_20, Go_getf, fl_8_7, gg_8_0, sh_ref, sh_rf, sr_199, sf_199_0, sr_200, sn_200, at_205_23, Go_bipush, kb_36, at_205_25, at_205_26, Go_iadd, q_add, Nat.zero_add, at_205_27, Go_iaload, sh_ln, q_in, q_cl, at_205_28, kb_8, jt_205_30, at_205_33, at_205_34, kc_0, at_205_35, at_205_36, at_205_37, at_205_38, cl_8_177, jt_205_41, at_205_44, kb_m2, at_205_46, at_205_47, at_205_48, at_205_49, at_205_50, cl_8_287, at_205_53, Go_istore_4, ab_put_int_4, at_205_55, at_205_56, at_205_59, kb_116, at_205_61, kb_6, at_205_63, at_205_64, Go_imul, q_mul, at_205_65, at_205_66, at_205_67, at_205_68, at_205_69, Go_iastore, sh_seti, at_205_70, Go_iload_4, at_205_72, Nat.reduceAdd, Nat.reduceMul, Nat.reduceLeDiff, Nat.reduceSub, decide_true, decide_false, Bool.toNat_true, Bool.toNat_false, not_true_eq_false, not_false_eq_true, ite_not, true_and, and_true, if_true, if_false, ↓reduceIte, Bool.or_true, Bool.true_or, Bool.or_false, s1]
    exact K0
theorem x_highest {k : Nat} (hk : k < 1000) : Ex 129 [.int (nI k)] (SH, I, J) Q = Q (some (.int (nI (if k = 1 then 3 else 99)))) (SH, I, J) := by
  rw [en_129]
  by_cases c : k = 1
  · rw [if_pos c]
    simp (disch := first | omega | assumption | exact own_129 | exact rt_129 | exact q_lt1 (hb _ _) | exact bt_lt _ | fail) only [own_129, rt_129, ab_kl_n, ab_kl_i, ab_kl_r, ab_kl_l, at_129_0, Go_iload_0, at_129_1, Go_iconst, kc_1, jt_129_2, q_le, q_lt, q_eq, n_leT, n_leF, n_ltT, n_ltF, n_eqF, n_b0, at_129_5, kc_3, jt_129_6, at_129_9, Go_bipush, kb_99, at_129_11, Go_reti, Nat.reduceAdd, Nat.reduceMul, Nat.reduceLeDiff, Nat.reduceSub, decide_true, decide_false, Bool.toNat_true, Bool.toNat_false, not_true_eq_false, not_false_eq_true, ite_not, true_and, and_true, if_true, if_false, ↓reduceIte, Bool.or_true, Bool.true_or, Bool.or_false, c]
  · rw [if_neg c]
    simp (disch := first | omega | assumption | exact own_129 | exact rt_129 | exact q_lt1 (hb _ _) | exact bt_lt _ | fail) only [own_129, rt_129, ab_kl_n, ab_kl_i, ab_kl_r, ab_kl_l, at_129_0, Go_iload_0, at_129_1, Go_iconst, kc_1, jt_129_2, q_le, q_lt, q_eq, n_leT, n_leF, n_ltT, n_ltF, n_eqF, n_b0, at_129_5, kc_3, jt_129_6, at_129_9, Go_bipush, kb_99, at_129_11, Go_reti, Nat.reduceAdd, Nat.reduceMul, Nat.reduceLeDiff, Nat.reduceSub, decide_true, decide_false, Bool.toNat_true, Bool.toNat_false, not_true_eq_false, not_false_eq_true, ite_not, true_and, and_true, if_true, if_false, ↓reduceIte, Bool.or_true, Bool.true_or, Bool.or_false, c]
theorem C_alter (ok : OS s) (h : SC s I J) (n v : Int32) (K : ∀ I' J', SC (n_alter s n v) I' J' → Fr (fun o => 199 ≤ o) I I' J J' → Q (some (.int (o_alter (v_a s) n v))) (SH, I', J')) : Ex 118 [.ref 0, .int n, .int v] (SH, I, J) Q := by
  have hs := h
  obtain ⟨hb, hr, o3, o4, o5⟩ := ok.1
  obtain ⟨⟨ha, hg⟩, h2, h3, h4, h5, h6, h7⟩ := h
  have s0 := fun n hn Q => x_hasFigure (J := J) (Q := Q) is73 hb hr ha hg (n := n) hn
  have s2 := fun x Q => x_hasName (J := J) (Q := Q) is73 hb ha x
  have s3 := fun k hk Q => x_highest (I := I) (J := J) (Q := Q) (k := k) hk
  have p73 : ∃ p, p = 73 := ⟨_, rfl⟩
  obtain ⟨p, p73⟩ := p73
  have s09 : va_rf (ab_rf sh_z 0 9) = .ref p := by rw [p73]; rfl
  have hp : isP p := by rw [p73]; exact is73
  rw [← p73] at s0 s2 ha hg
  have ha0 := ha
  have r1 := hr.1
  have r2 := hr.2.1
  have r4 := hr.2.2.2
  unfold n_alter o_alter at K
  obtain ⟨e0, e1, e2, e3, e4, e5, e6, e7, e8, e9, e10, e11, e12⟩ := ha
  rw [en_118]
  rcases i_lt (x := n) (N := v_a s 0 1) (by omega) with ⟨n, hn, rfl⟩ | hx
  · have PN : nI 0 ≤ nI n ∧ nI n < nI (v_a s 0 1) := ⟨nI_le (Nat.zero_le _) (by omega), nI_lt hn (by omega)⟩
    rw [if_pos PN, il_in (by omega) hn, q_cl (by omega)] at K
    have rn := r4 n hn
    by_cases ck : v_a s 10 n ≤ 1
    · rw [if_pos ck, if_pos ck] at K
      have e11n := e11 n hn ck
      have e8n := e8 n hn
      have h4 : hiF (v_a s) n = (if v_a s 10 n = 1 then 3 else 99) + 1 := by
        unfold hiF
        split <;> rfl
      have h100 : (if v_a s 10 n = 1 then 3 else 99) < 100 := by split <;> omega
      rw [h4] at K
      have s3n := fun Q => s3 (v_a s 10 n) (hb _ _) Q
      have OAl : ∀ v, v < (if v_a s 10 n = 1 then 3 else 99) + 1 → True := fun _ _ => trivial
      generalize (if v_a s 10 n = 1 then 3 else 99) = z at *
      rcases i_le (x := v) (m := z) (by omega) with ⟨v, hv, rfl⟩ | hx
      · have PV : nI 0 ≤ nI v ∧ nI v < nI (z + 1) := ⟨nI_le (Nat.zero_le _) (by omega), nI_lt (by omega) (by omega)⟩
        rw [if_pos PV, il_in (by omega) (by omega), q_cl (by omega)] at K
        simp (disch := first | omega | assumption | exact own_118 | exact rt_118 | exact pr_0 (by assumption) | exact sr_73 | exact sr_4 | exact q_lt1 (hb _ _) | exact bt_lt _ | fail) only [own_118, rt_118, ab_kl_n, ab_kl_i, ab_kl_r, ab_kl_l, at_118_0, Go_aload_0, at_118_1, Go_getf, fl_7_62, gg_7_9, sh_ref, sh_rf, sr_0, at_118_4, Go_iload_1, at_118_5, cl_7_148, cat_n, cat_i, cat_r, cat_l, tl_i, tl_l, tl_n, sh_same, jt_118_8, q_le, q_lt, q_eq, n_leT, n_leF, n_ltT, n_ltF, n_eqF, n_b0, at_118_11, at_118_12, at_118_15, at_118_16, cl_7_160, jt_118_19, at_118_22, Go_iconst, kc_m1, at_118_23, Go_reti, at_118_24, Go_iload_2, jt_118_25, at_118_28, at_118_29, at_118_30, at_118_33, fl_7_151, gg_3_11, at_118_36, at_118_37, Go_iaload, sh_ln, q_in, q_cl, at_118_38, cl_7_252, jt_118_41, at_118_44, at_118_45, at_118_46, at_118_47, at_118_50, fl_7_163, gg_3_14, at_118_53, at_118_54, at_118_55, Go_istore_3, ab_put_int_3, at_118_56, at_118_57, at_118_60, at_118_63, at_118_64, at_118_65, Go_iastore, sh_seti, at_118_66, Go_iload_3, at_118_67, Nat.reduceAdd, Nat.reduceMul, Nat.reduceLeDiff, Nat.reduceSub, decide_true, decide_false, Bool.toNat_true, Bool.toNat_false, not_true_eq_false, not_false_eq_true, ite_not, true_and, and_true, if_true, if_false, ↓reduceIte, Bool.or_true, Bool.true_or, Bool.or_false, pr_0 hp, pf_11 hp, pr_16 hp, pn_16 hp, e8, pf_14 hp, pr_19 hp, pn_19 hp, e11, s0, s2, s3n, ck, Bool.true_eq_false, s09]
        have hpc := PC_alter (v := v) (n := n) ha0
        have hpg := PG_set (f := 13) (k := n) (v := v) (Or.inl rfl) (o := p + 19) (j := n) (x := nI v) (by omega) hr hg
        rw [p73] at hpc hpg ⊢
        obtain ⟨k1, k2⟩ := SC_a (x := nI v) ok hs (by omega) (by omega) hpc hpg
        exact K _ _ k1 k2
      · rw [if_neg (i_out (by omega) hx), il_out (i_out (by omega) hx)] at K
        have K0 := K _ _ hs Fr_r
        by_cases c : v < nI 0
        · simp (disch := first | omega | assumption | exact own_118 | exact rt_118 | exact pr_0 (by assumption) | exact sr_73 | exact sr_4 | exact q_lt1 (hb _ _) | exact bt_lt _ | fail) only [own_118, rt_118, ab_kl_n, ab_kl_i, ab_kl_r, ab_kl_l, at_118_0, Go_aload_0, at_118_1, Go_getf, fl_7_62, gg_7_9, sh_ref, sh_rf, sr_0, at_118_4, Go_iload_1, at_118_5, cl_7_148, cat_n, cat_i, cat_r, cat_l, tl_i, tl_l, tl_n, sh_same, jt_118_8, q_le, q_lt, q_eq, n_leT, n_leF, n_ltT, n_ltF, n_eqF, n_b0, at_118_11, at_118_12, at_118_15, at_118_16, cl_7_160, jt_118_19, at_118_22, Go_iconst, kc_m1, at_118_23, Go_reti, at_118_24, Go_iload_2, jt_118_25, at_118_28, at_118_29, at_118_30, at_118_33, fl_7_151, gg_3_11, at_118_36, at_118_37, Go_iaload, sh_ln, q_in, q_cl, at_118_38, cl_7_252, jt_118_41, at_118_44, at_118_45, at_118_46, at_118_47, at_118_50, fl_7_163, gg_3_14, at_118_53, at_118_54, at_118_55, Go_istore_3, ab_put_int_3, at_118_56, at_118_57, at_118_60, at_118_63, at_118_64, at_118_65, Go_iastore, sh_seti, at_118_66, Go_iload_3, at_118_67, Nat.reduceAdd, Nat.reduceMul, Nat.reduceLeDiff, Nat.reduceSub, decide_true, decide_false, Bool.toNat_true, Bool.toNat_false, not_true_eq_false, not_false_eq_true, ite_not, true_and, and_true, if_true, if_false, ↓reduceIte, Bool.or_true, Bool.true_or, Bool.or_false, pr_0 hp, pf_11 hp, pr_16 hp, pn_16 hp, e8, pf_14 hp, pr_19 hp, pn_19 hp, e11, s0, s2, ck, c, Bool.true_eq_false, s09]
          exact K0
        · have c2 : ¬ v ≤ nI z := by
            rcases hx with z | z
            · exact absurd z c
            · exact Int32.not_le.mpr z
          simp (disch := first | omega | assumption | exact own_118 | exact rt_118 | exact pr_0 (by assumption) | exact sr_73 | exact sr_4 | exact q_lt1 (hb _ _) | exact bt_lt _ | fail) only [own_118, rt_118, ab_kl_n, ab_kl_i, ab_kl_r, ab_kl_l, at_118_0, Go_aload_0, at_118_1, Go_getf, fl_7_62, gg_7_9, sh_ref, sh_rf, sr_0, at_118_4, Go_iload_1, at_118_5, cl_7_148, cat_n, cat_i, cat_r, cat_l, tl_i, tl_l, tl_n, sh_same, jt_118_8, q_le, q_lt, q_eq, n_leT, n_leF, n_ltT, n_ltF, n_eqF, n_b0, at_118_11, at_118_12, at_118_15, at_118_16, cl_7_160, jt_118_19, at_118_22, Go_iconst, kc_m1, at_118_23, Go_reti, at_118_24, Go_iload_2, jt_118_25, at_118_28, at_118_29, at_118_30, at_118_33, fl_7_151, gg_3_11, at_118_36, at_118_37, Go_iaload, sh_ln, q_in, q_cl, at_118_38, cl_7_252, jt_118_41, at_118_44, at_118_45, at_118_46, at_118_47, at_118_50, fl_7_163, gg_3_14, at_118_53, at_118_54, at_118_55, Go_istore_3, ab_put_int_3, at_118_56, at_118_57, at_118_60, at_118_63, at_118_64, at_118_65, Go_iastore, sh_seti, at_118_66, Go_iload_3, at_118_67, Nat.reduceAdd, Nat.reduceMul, Nat.reduceLeDiff, Nat.reduceSub, decide_true, decide_false, Bool.toNat_true, Bool.toNat_false, not_true_eq_false, not_false_eq_true, ite_not, true_and, and_true, if_true, if_false, ↓reduceIte, Bool.or_true, Bool.true_or, Bool.or_false, pr_0 hp, pf_11 hp, pr_16 hp, pn_16 hp, e8, pf_14 hp, pr_19 hp, pn_19 hp, e11, s0, s2, s3n, ck, c, c2, Bool.true_eq_false, s09]
          exact K0
    · rw [if_neg ck, if_neg ck] at K
      have K0 := K _ _ hs Fr_r
      simp (disch := first | omega | assumption | exact own_118 | exact rt_118 | exact pr_0 (by assumption) | exact sr_73 | exact sr_4 | exact q_lt1 (hb _ _) | exact bt_lt _ | fail) only [own_118, rt_118, ab_kl_n, ab_kl_i, ab_kl_r, ab_kl_l, at_118_0, Go_aload_0, at_118_1, Go_getf, fl_7_62, gg_7_9, sh_ref, sh_rf, sr_0, at_118_4, Go_iload_1, at_118_5, cl_7_148, cat_n, cat_i, cat_r, cat_l, tl_i, tl_l, tl_n, sh_same, jt_118_8, q_le, q_lt, q_eq, n_leT, n_leF, n_ltT, n_ltF, n_eqF, n_b0, at_118_11, at_118_12, at_118_15, at_118_16, cl_7_160, jt_118_19, at_118_22, Go_iconst, kc_m1, at_118_23, Go_reti, at_118_24, Go_iload_2, jt_118_25, at_118_28, at_118_29, at_118_30, at_118_33, fl_7_151, gg_3_11, at_118_36, at_118_37, Go_iaload, sh_ln, q_in, q_cl, at_118_38, cl_7_252, jt_118_41, at_118_44, at_118_45, at_118_46, at_118_47, at_118_50, fl_7_163, gg_3_14, at_118_53, at_118_54, at_118_55, Go_istore_3, ab_put_int_3, at_118_56, at_118_57, at_118_60, at_118_63, at_118_64, at_118_65, Go_iastore, sh_seti, at_118_66, Go_iload_3, at_118_67, Nat.reduceAdd, Nat.reduceMul, Nat.reduceLeDiff, Nat.reduceSub, decide_true, decide_false, Bool.toNat_true, Bool.toNat_false, not_true_eq_false, not_false_eq_true, ite_not, true_and, and_true, if_true, if_false, ↓reduceIte, Bool.or_true, Bool.true_or, Bool.or_false, pr_0 hp, pf_11 hp, pr_16 hp, pn_16 hp, e8, pf_14 hp, pr_19 hp, pn_19 hp, e11, s0, s2, ck, s09]
      exact K0
  · rw [if_neg hx, il_out hx] at K
    have K0 := K _ _ hs Fr_r
    simp (disch := first | omega | assumption | exact own_118 | exact rt_118 | exact pr_0 (by assumption) | exact sr_73 | exact sr_4 | exact q_lt1 (hb _ _) | exact bt_lt _ | fail) only [own_118, rt_118, ab_kl_n, ab_kl_i, ab_kl_r, ab_kl_l, at_118_0, Go_aload_0, at_118_1, Go_getf, fl_7_62, gg_7_9, sh_ref, sh_rf, sr_0, at_118_4, Go_iload_1, at_118_5, cl_7_148, cat_n, cat_i, cat_r, cat_l, tl_i, tl_l, tl_n, sh_same, jt_118_8, q_le, q_lt, q_eq, n_leT, n_leF, n_ltT, n_ltF, n_eqF, n_b0, at_118_11, at_118_12, at_118_15, at_118_16, cl_7_160, jt_118_19, at_118_22, Go_iconst, kc_m1, at_118_23, Go_reti, at_118_24, Go_iload_2, jt_118_25, at_118_28, at_118_29, at_118_30, at_118_33, fl_7_151, gg_3_11, at_118_36, at_118_37, Go_iaload, sh_ln, q_in, q_cl, at_118_38, cl_7_252, jt_118_41, at_118_44, at_118_45, at_118_46, at_118_47, at_118_50, fl_7_163, gg_3_14, at_118_53, at_118_54, at_118_55, Go_istore_3, ab_put_int_3, at_118_56, at_118_57, at_118_60, at_118_63, at_118_64, at_118_65, Go_iastore, sh_seti, at_118_66, Go_iload_3, at_118_67, Nat.reduceAdd, Nat.reduceMul, Nat.reduceLeDiff, Nat.reduceSub, decide_true, decide_false, Bool.toNat_true, Bool.toNat_false, not_true_eq_false, not_false_eq_true, ite_not, true_and, and_true, if_true, if_false, ↓reduceIte, Bool.or_true, Bool.true_or, Bool.or_false, pr_0 hp, pf_11 hp, pr_16 hp, pn_16 hp, e8, pf_14 hp, pr_19 hp, pn_19 hp, e11, s2, hx, s09]
    exact K0
theorem M_alter (ok : OS s) (h : SM s I J) (n v : Int32) (K : ∀ I' J', SM (n_alter s n v) I' J' → Fr (fun o => o < 199) I I' J J' → Q (some (.int (o_alter (v_a s) n v))) (SH, I', J')) : Ex 206 [.ref 199, .int n, .int v] (SH, I, J) Q := by
  have hs := h
  obtain ⟨hb, hr, o3, o4, o5⟩ := ok.1
  obtain ⟨⟨ha, hg⟩, h2, h3, h4, h5, h6, h7⟩ := h
  have s2 := fun x Q => m_isName (J := J) (Q := Q) hb hr ha hg x
  have ha0 := ha
  have r1 := hr.1
  have r2 := hr.2.1
  have r4 := hr.2.2.2
  unfold n_alter o_alter at K
  obtain ⟨e0, e1, e2, e3, e4, e5, e6, e7, e8, e9, e10, e11, e12⟩ := PM_0 ha
  rw [en_206]
  rcases i_lt (x := n) (N := v_a s 0 1) (by omega) with ⟨n, hn, rfl⟩ | hx
  · have PN : nI 0 ≤ nI n ∧ nI n < nI (v_a s 0 1) := ⟨nI_le (Nat.zero_le _) (by omega), nI_lt hn (by omega)⟩
    rw [if_pos PN, il_in (by omega) hn, q_cl (by omega)] at K
    have rn := r4 n hn
    have e8n := e8 n hn
    by_cases ck : v_a s 10 n ≤ 1
    · rw [if_pos ck, if_pos ck] at K
      have e11n := e11 n hn ck
      have key : ∀ z, z < 1000 → hiF (v_a s) n = z + 1 → (nI 0 ≤ v ∧ v < nI (z + 1)) = (lN 0 ≤ v.toInt64 ∧ v.toInt64 ≤ lN z) := fun z hz e => by
        rw [in_le (by omega)]
        rcases i_le (x := v) (m := z) (by omega) with ⟨v, hv, rfl⟩ | hx
        · exact propext ⟨fun w => ⟨w.1, nI_le hv (by omega)⟩, fun w => ⟨w.1, nI_lt (by omega) (by omega)⟩⟩
        · have := i_out (by omega) hx
          refine propext ⟨fun w => absurd w this, fun w => ?_⟩
          rcases hx with y | y
          · exact absurd y (Int32.not_lt.mpr w.1)
          · exact absurd y (Int32.not_lt.mpr w.2)
      have done : ∀ z, z < 1000 → hiF (v_a s) n = z + 1 → (nI 0 ≤ v ∧ v < nI (z + 1)) → ∃ a, v = nI a ∧ a < z + 1 := fun z hz e w => by
        rcases i_lt (x := v) (N := z + 1) (by omega) with ⟨a, ha, rfl⟩ | hx
        · exact ⟨a, rfl, ha⟩
        · exact absurd w hx
      by_cases c : v_a s 10 n = 0
      · have hz : hiF (v_a s) n = 99 + 1 := by unfold hiF; rw [if_neg (by omega)]
        have k := key 99 (by omega) hz
        rw [hz] at K
        by_cases w : nI 0 ≤ v ∧ v < nI (99 + 1)
        · rw [eq_true w] at k
          obtain ⟨a, rfl, hv⟩ := done 99 (by omega) hz w
          rw [if_pos w, il_in (by omega) hv, q_cl (by omega)] at K
          simp (disch := first | omega | assumption | exact own_206 | exact rt_206 | exact sr_199 | exact q_lt1 (hb _ _) | exact bt_lt _ | fail) only [own_206, rt_206, ab_kl_n, ab_kl_i, ab_kl_r, ab_kl_l, at_206_0, Go_aload_0, at_206_1, Go_iload_1, at_206_2, cl_8_201, cat_n, cat_i, cat_r, cat_l, tl_i, tl_l, tl_n, sh_same, jt_206_5, q_le, q_lt, q_eq, n_leT, n_leF, n_ltT, n_ltF, n_eqF, n_b0, at_206_8, at_206_9, Go_getf, fl_8_7, gg_8_0, sh_ref, sh_rf, sr_199, sf_199_0, sr_200, sn_200, at_206_12, Go_bipush, kb_36, at_206_14, at_206_15, Go_iadd, q_add, Nat.zero_add, at_206_16, Go_iaload, sh_ln, q_in, q_cl, at_206_17, Go_iconst, kc_1, jt_206_18, at_206_21, Go_iload_2, at_206_22, Go_i2l, at_206_23, Go_lconst, kl_0, at_206_24, at_206_25, at_206_28, at_206_30, at_206_31, at_206_32, jt_206_33, at_206_36, ldc2_8_321, jt_206_39, at_206_42, ldc2_8_323, at_206_45, cl_8_71, jt_206_48, at_206_51, kc_m1, at_206_52, Go_reti, at_206_53, at_206_54, at_206_57, kb_96, at_206_59, at_206_60, at_206_61, at_206_62, Go_istore_3, ab_put_int_3, at_206_63, at_206_64, at_206_67, at_206_69, at_206_70, at_206_71, at_206_72, Go_iastore, sh_seti, at_206_73, Go_iload_3, at_206_74, Nat.reduceAdd, Nat.reduceMul, Nat.reduceLeDiff, Nat.reduceSub, decide_true, decide_false, Bool.toNat_true, Bool.toNat_false, not_true_eq_false, not_false_eq_true, ite_not, true_and, and_true, if_true, if_false, ↓reduceIte, Bool.or_true, Bool.true_or, Bool.or_false, s2, e8n, e11n, c, m_in, ← k, Bool.true_eq_false]
          have hpc := PM_alter (v := a) (n := n) hr hn ha0
          have hpg := PW_set (f := 13) (k := n) (v := a) (Or.inl rfl) (j := 96 + n) (x := nI a) hg
          obtain ⟨k1, k2⟩ := SM_a (x := nI a) ok hs (by omega) hpc hpg
          exact K _ _ k1 k2
        · rw [eq_false w] at k
          rw [if_neg w, il_out w] at K
          have K0 := K _ _ hs Fr_r
          simp (disch := first | omega | assumption | exact own_206 | exact rt_206 | exact sr_199 | exact q_lt1 (hb _ _) | exact bt_lt _ | fail) only [own_206, rt_206, ab_kl_n, ab_kl_i, ab_kl_r, ab_kl_l, at_206_0, Go_aload_0, at_206_1, Go_iload_1, at_206_2, cl_8_201, cat_n, cat_i, cat_r, cat_l, tl_i, tl_l, tl_n, sh_same, jt_206_5, q_le, q_lt, q_eq, n_leT, n_leF, n_ltT, n_ltF, n_eqF, n_b0, at_206_8, at_206_9, Go_getf, fl_8_7, gg_8_0, sh_ref, sh_rf, sr_199, sf_199_0, sr_200, sn_200, at_206_12, Go_bipush, kb_36, at_206_14, at_206_15, Go_iadd, q_add, Nat.zero_add, at_206_16, Go_iaload, sh_ln, q_in, q_cl, at_206_17, Go_iconst, kc_1, jt_206_18, at_206_21, Go_iload_2, at_206_22, Go_i2l, at_206_23, Go_lconst, kl_0, at_206_24, at_206_25, at_206_28, at_206_30, at_206_31, at_206_32, jt_206_33, at_206_36, ldc2_8_321, jt_206_39, at_206_42, ldc2_8_323, at_206_45, cl_8_71, jt_206_48, at_206_51, kc_m1, at_206_52, Go_reti, at_206_53, at_206_54, at_206_57, kb_96, at_206_59, at_206_60, at_206_61, at_206_62, Go_istore_3, ab_put_int_3, at_206_63, at_206_64, at_206_67, at_206_69, at_206_70, at_206_71, at_206_72, Go_iastore, sh_seti, at_206_73, Go_iload_3, at_206_74, Nat.reduceAdd, Nat.reduceMul, Nat.reduceLeDiff, Nat.reduceSub, decide_true, decide_false, Bool.toNat_true, Bool.toNat_false, not_true_eq_false, not_false_eq_true, ite_not, true_and, and_true, if_true, if_false, ↓reduceIte, Bool.or_true, Bool.true_or, Bool.or_false, s2, e8n, c, m_in, ← k]
          exact K0
      · have hz : hiF (v_a s) n = 3 + 1 := by unfold hiF; rw [if_pos (by omega)]
        have k := key 3 (by omega) hz
        rw [hz] at K
        by_cases w : nI 0 ≤ v ∧ v < nI (3 + 1)
        · rw [eq_true w] at k
          obtain ⟨a, rfl, hv⟩ := done 3 (by omega) hz w
          rw [if_pos w, il_in (by omega) hv, q_cl (by omega)] at K
          simp (disch := first | omega | assumption | exact own_206 | exact rt_206 | exact sr_199 | exact q_lt1 (hb _ _) | exact bt_lt _ | fail) only [own_206, rt_206, ab_kl_n, ab_kl_i, ab_kl_r, ab_kl_l, at_206_0, Go_aload_0, at_206_1, Go_iload_1, at_206_2, cl_8_201, cat_n, cat_i, cat_r, cat_l, tl_i, tl_l, tl_n, sh_same, jt_206_5, q_le, q_lt, q_eq, n_leT, n_leF, n_ltT, n_ltF, n_eqF, n_b0, at_206_8, at_206_9, Go_getf, fl_8_7, gg_8_0, sh_ref, sh_rf, sr_199, sf_199_0, sr_200, sn_200, at_206_12, Go_bipush, kb_36, at_206_14, at_206_15, Go_iadd, q_add, Nat.zero_add, at_206_16, Go_iaload, sh_ln, q_in, q_cl, at_206_17, Go_iconst, kc_1, jt_206_18, at_206_21, Go_iload_2, at_206_22, Go_i2l, at_206_23, Go_lconst, kl_0, at_206_24, at_206_25, at_206_28, at_206_30, at_206_31, at_206_32, jt_206_33, at_206_36, ldc2_8_321, jt_206_39, at_206_42, ldc2_8_323, at_206_45, cl_8_71, jt_206_48, at_206_51, kc_m1, at_206_52, Go_reti, at_206_53, at_206_54, at_206_57, kb_96, at_206_59, at_206_60, at_206_61, at_206_62, Go_istore_3, ab_put_int_3, at_206_63, at_206_64, at_206_67, at_206_69, at_206_70, at_206_71, at_206_72, Go_iastore, sh_seti, at_206_73, Go_iload_3, at_206_74, Nat.reduceAdd, Nat.reduceMul, Nat.reduceLeDiff, Nat.reduceSub, decide_true, decide_false, Bool.toNat_true, Bool.toNat_false, not_true_eq_false, not_false_eq_true, ite_not, true_and, and_true, if_true, if_false, ↓reduceIte, Bool.or_true, Bool.true_or, Bool.or_false, s2, e8n, e11n, c, ck, m_in, ← k, Bool.true_eq_false]
          have hpc := PM_alter (v := a) (n := n) hr hn ha0
          have hpg := PW_set (f := 13) (k := n) (v := a) (Or.inl rfl) (j := 96 + n) (x := nI a) hg
          obtain ⟨k1, k2⟩ := SM_a (x := nI a) ok hs (by omega) hpc hpg
          exact K _ _ k1 k2
        · rw [eq_false w] at k
          rw [if_neg w, il_out w] at K
          have K0 := K _ _ hs Fr_r
          simp (disch := first | omega | assumption | exact own_206 | exact rt_206 | exact sr_199 | exact q_lt1 (hb _ _) | exact bt_lt _ | fail) only [own_206, rt_206, ab_kl_n, ab_kl_i, ab_kl_r, ab_kl_l, at_206_0, Go_aload_0, at_206_1, Go_iload_1, at_206_2, cl_8_201, cat_n, cat_i, cat_r, cat_l, tl_i, tl_l, tl_n, sh_same, jt_206_5, q_le, q_lt, q_eq, n_leT, n_leF, n_ltT, n_ltF, n_eqF, n_b0, at_206_8, at_206_9, Go_getf, fl_8_7, gg_8_0, sh_ref, sh_rf, sr_199, sf_199_0, sr_200, sn_200, at_206_12, Go_bipush, kb_36, at_206_14, at_206_15, Go_iadd, q_add, Nat.zero_add, at_206_16, Go_iaload, sh_ln, q_in, q_cl, at_206_17, Go_iconst, kc_1, jt_206_18, at_206_21, Go_iload_2, at_206_22, Go_i2l, at_206_23, Go_lconst, kl_0, at_206_24, at_206_25, at_206_28, at_206_30, at_206_31, at_206_32, jt_206_33, at_206_36, ldc2_8_321, jt_206_39, at_206_42, ldc2_8_323, at_206_45, cl_8_71, jt_206_48, at_206_51, kc_m1, at_206_52, Go_reti, at_206_53, at_206_54, at_206_57, kb_96, at_206_59, at_206_60, at_206_61, at_206_62, Go_istore_3, ab_put_int_3, at_206_63, at_206_64, at_206_67, at_206_69, at_206_70, at_206_71, at_206_72, Go_iastore, sh_seti, at_206_73, Go_iload_3, at_206_74, Nat.reduceAdd, Nat.reduceMul, Nat.reduceLeDiff, Nat.reduceSub, decide_true, decide_false, Bool.toNat_true, Bool.toNat_false, not_true_eq_false, not_false_eq_true, ite_not, true_and, and_true, if_true, if_false, ↓reduceIte, Bool.or_true, Bool.true_or, Bool.or_false, s2, e8n, c, ck, m_in, ← k]
          exact K0
    · rw [if_neg ck, if_neg ck] at K
      have K0 := K _ _ hs Fr_r
      simp (disch := first | omega | assumption | exact own_206 | exact rt_206 | exact sr_199 | exact q_lt1 (hb _ _) | exact bt_lt _ | fail) only [own_206, rt_206, ab_kl_n, ab_kl_i, ab_kl_r, ab_kl_l, at_206_0, Go_aload_0, at_206_1, Go_iload_1, at_206_2, cl_8_201, cat_n, cat_i, cat_r, cat_l, tl_i, tl_l, tl_n, sh_same, jt_206_5, q_le, q_lt, q_eq, n_leT, n_leF, n_ltT, n_ltF, n_eqF, n_b0, at_206_8, at_206_9, Go_getf, fl_8_7, gg_8_0, sh_ref, sh_rf, sr_199, sf_199_0, sr_200, sn_200, at_206_12, Go_bipush, kb_36, at_206_14, at_206_15, Go_iadd, q_add, Nat.zero_add, at_206_16, Go_iaload, sh_ln, q_in, q_cl, at_206_17, Go_iconst, kc_1, jt_206_18, at_206_21, Go_iload_2, at_206_22, Go_i2l, at_206_23, Go_lconst, kl_0, at_206_24, at_206_25, at_206_28, at_206_30, at_206_31, at_206_32, jt_206_33, at_206_36, ldc2_8_321, jt_206_39, at_206_42, ldc2_8_323, at_206_45, cl_8_71, jt_206_48, at_206_51, kc_m1, at_206_52, Go_reti, at_206_53, at_206_54, at_206_57, kb_96, at_206_59, at_206_60, at_206_61, at_206_62, Go_istore_3, ab_put_int_3, at_206_63, at_206_64, at_206_67, at_206_69, at_206_70, at_206_71, at_206_72, Go_iastore, sh_seti, at_206_73, Go_iload_3, at_206_74, Nat.reduceAdd, Nat.reduceMul, Nat.reduceLeDiff, Nat.reduceSub, decide_true, decide_false, Bool.toNat_true, Bool.toNat_false, not_true_eq_false, not_false_eq_true, ite_not, true_and, and_true, if_true, if_false, ↓reduceIte, Bool.or_true, Bool.true_or, Bool.or_false, s2, e8n, ck]
      exact K0
  · rw [if_neg hx, il_out hx] at K
    have K0 := K _ _ hs Fr_r
    simp (disch := first | omega | assumption | exact own_206 | exact rt_206 | exact sr_199 | exact q_lt1 (hb _ _) | exact bt_lt _ | fail) only [own_206, rt_206, ab_kl_n, ab_kl_i, ab_kl_r, ab_kl_l, at_206_0, Go_aload_0, at_206_1, Go_iload_1, at_206_2, cl_8_201, cat_n, cat_i, cat_r, cat_l, tl_i, tl_l, tl_n, sh_same, jt_206_5, q_le, q_lt, q_eq, n_leT, n_leF, n_ltT, n_ltF, n_eqF, n_b0, at_206_8, at_206_9, Go_getf, fl_8_7, gg_8_0, sh_ref, sh_rf, sr_199, sf_199_0, sr_200, sn_200, at_206_12, Go_bipush, kb_36, at_206_14, at_206_15, Go_iadd, q_add, Nat.zero_add, at_206_16, Go_iaload, sh_ln, q_in, q_cl, at_206_17, Go_iconst, kc_1, jt_206_18, at_206_21, Go_iload_2, at_206_22, Go_i2l, at_206_23, Go_lconst, kl_0, at_206_24, at_206_25, at_206_28, at_206_30, at_206_31, at_206_32, jt_206_33, at_206_36, ldc2_8_321, jt_206_39, at_206_42, ldc2_8_323, at_206_45, cl_8_71, jt_206_48, at_206_51, kc_m1, at_206_52, Go_reti, at_206_53, at_206_54, at_206_57, kb_96, at_206_59, at_206_60, at_206_61, at_206_62, Go_istore_3, ab_put_int_3, at_206_63, at_206_64, at_206_67, at_206_69, at_206_70, at_206_71, at_206_72, Go_iastore, sh_seti, at_206_73, Go_iload_3, at_206_74, Nat.reduceAdd, Nat.reduceMul, Nat.reduceLeDiff, Nat.reduceSub, decide_true, decide_false, Bool.toNat_true, Bool.toNat_false, not_true_eq_false, not_false_eq_true, ite_not, true_and, and_true, if_true, if_false, ↓reduceIte, Bool.or_true, Bool.true_or, Bool.or_false, s2, hx]
    exact K0
end MSE
