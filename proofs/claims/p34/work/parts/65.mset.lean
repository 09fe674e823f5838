/-! THE CALLS: set, alter, the rest -/
section MSE
variable {I I' : Nat → Nat → Int32} {J J' : Nat → Nat → Int64} {Q : Option Value → ab_H → Prop} {s : VS}
theorem x_highest {k : Nat} (hk : k < 1000) : Ex 129 [.int (nI k)] (SH, I, J) Q = Q (some (.int (nI (if k = 1 then 3 else 99)))) (SH, I, J) := by
  rw [en_129]
  by_cases c : k = 1
  · rw [if_pos c]
    simp (disch := first | omega | assumption | exact own_129 | exact rt_129 | exact q_lt1 (hb _ _) | exact bt_lt _ | fail) only [own_129, rt_129, ab_kl_n, ab_kl_i, ab_kl_r, ab_kl_l, at_129_0, Go_iload_0, at_129_1, Go_iconst, kc_1, jt_129_2, q_le, q_lt, q_eq, n_leT, n_leF, n_ltT, n_ltF, n_eqF, n_b0, at_129_5, kc_3, jt_129_6, at_129_9, Go_bipush, kb_99, at_129_11, Go_reti, Nat.reduceAdd, Nat.reduceMul, Nat.reduceLeDiff, Nat.reduceSub, decide_true, decide_false, Bool.toNat_true, Bool.toNat_false, not_true_eq_false, not_false_eq_true, ite_not, true_and, and_true, if_true, if_false, ↓reduceIte, Bool.or_true, Bool.true_or, Bool.or_false, c]
  · rw [if_neg c]
    simp (disch := first | omega | assumption | exact own_129 | exact rt_129 | exact q_lt1 (hb _ _) | exact bt_lt _ | fail) only [own_129, rt_129, ab_kl_n, ab_kl_i, ab_kl_r, ab_kl_l, at_129_0, Go_iload_0, at_129_1, Go_iconst, kc_1, jt_129_2, q_le, q_lt, q_eq, n_leT, n_leF, n_ltT, n_ltF, n_eqF, n_b0, at_129_5, kc_3, jt_129_6, at_129_9, Go_bipush, kb_99, at_129_11, Go_reti, Nat.reduceAdd, Nat.reduceMul, Nat.reduceLeDiff, Nat.reduceSub, decide_true, decide_false, Bool.toNat_true, Bool.toNat_false, not_true_eq_false, not_false_eq_true, ite_not, true_and, and_true, if_true, if_false, ↓reduceIte, Bool.or_true, Bool.true_or, Bool.or_false, c]
theorem C_alter (ok : OS s) (h : SC s I J) (n v : Int32) (K : ∀ I' J', SC (n_alter s n v) I' J' → Fr (fun o => 199 ≤ o) I I' J J' → Q (some (.int (o_alter (v_a s) n v))) (SH, I', J')) : Ex 118 [.ref 0, .int n, .int v] (SH, I, J) Q := by
  have hs := h
  obtain ⟨hb, hr, o3, o4, o5⟩ := ok.1
  obtain ⟨⟨ha, hg⟩, h2, h3, h4, h5, h6, h7⟩ := h
  have s0 := fun n hn Q => x_hasFigure (J := J) (Q := Q) is73 hb hr ha hg (n := n) hn
  have s2 := fun x Q => x_hasName (J := J) (Q := Q) is73 hb ha x
  have s3 := fun k hk Q => x_highest (I := I) (J := J) (Q := Q) (k := k) hk
  have p73 : ∃ p, p = 73 := ⟨_, rfl⟩
  obtain ⟨p, p73⟩ := p73
  have s09 : va_rf (ab_rf sh_z 0 9) = .ref p := by rw [p73]; rfl
  have hp : isP p := by rw [p73]; exact is73
  rw [← p73] at s0 s2 ha hg
  have ha0 := ha
  have r1 := hr.1
  have r2 := hr.2.1
  have r4 := hr.2.2.2
  unfold n_alter o_alter at K
  obtain ⟨e0, e1, e2, e3, e4, e5, e6, e7, e8, e9, e10, e11, e12⟩ := ha
  rw [en_118]
  rcases i_lt (x := n) (N := v_a s 0 1) (by omega) with ⟨n, hn, rfl⟩ | hx
  · have PN : nI 0 ≤ nI n ∧ nI n < nI (v_a s 0 1) := ⟨nI_le (Nat.zero_le _) (by omega), nI_lt hn (by omega)⟩
    rw [if_pos PN, il_in (by omega) hn, q_cl (by omega)] at K
    have rn := r4 n hn
    by_cases ck : v_a s 10 n ≤ 1
    · rw [if_pos ck, if_pos ck] at K
      have e11n := e11 n hn ck
      have e8n := e8 n hn
      have h4 : hiF (v_a s) n = (if v_a s 10 n = 1 then 3 else 99) + 1 := by
        unfold hiF
        split <;> rfl
      have h100 : (if v_a s 10 n = 1 then 3 else 99) < 100 := by split <;> omega
      rw [h4] at K
      have s3n := fun Q => s3 (v_a s 10 n) (hb _ _) Q
      have OAl : ∀ v, v < (if v_a s 10 n = 1 then 3 else 99) + 1 → True := fun _ _ => trivial
      generalize (if v_a s 10 n = 1 then 3 else 99) = z at *
      rcases i_le (x := v) (m := z) (by omega) with ⟨v, hv, rfl⟩ | hx
      · have PV : nI 0 ≤ nI v ∧ nI v < nI (z + 1) := ⟨nI_le (Nat.zero_le _) (by omega), nI_lt (by omega) (by omega)⟩
        rw [if_pos PV, il_in (by omega) (by omega), q_cl (by omega)] at K
        simp (disch := first | omega | assumption | exact own_118 | exact rt_118 | exact pr_0 (by assumption) | exact sr_73 | exact sr_4 | exact q_lt1 (hb _ _) | exact bt_lt _ | fail) only [own_118, rt_118, ab_kl_n, ab_kl_i, ab_kl_r, ab_kl_l, at_118_0, Go_aload_0, at_118_1, Go_getf, fl_7_62, gg_7_9, sh_ref, sh_rf, sr_0, at_118_4, Go_iload_1, at_118_5, cl_7_148, cat_n, cat_i, cat_r, cat_l, tl_i, tl_l, tl_n, sh_same, jt_118_8, q_le, q_lt, q_eq, n_leT, n_leF, n_ltT, n_ltF, n_eqF, n_b0, at_118_11, at_118_12, at_118_15, at_118_16, cl_7_160, jt_118_19, at_118_22, Go_iconst, kc_m1, at_118_23, Go_reti, at_118_24, Go_iload_2, jt_118_25, at_118_28, at_118_29, at_118_30, at_118_33, fl_7_151, gg_3_11, at_118_36, at_118_37, Go_iaload, sh_ln, q_in, q_cl, at_118_38, cl_7_252, jt_118_41, at_118_44, at_118_45, at_118_46, at_118_47, at_118_50, fl_7_163, gg_3_14, at_118_53, at_118_54, at_118_55, Go_istore_3, ab_put_int_3, at_118_56, at_118_57, at_118_60, at_118_63, at_118_64, at_118_65, Go_iastore, sh_seti, at_118_66, Go_iload_3, at_118_67, Nat.reduceAdd, Nat.reduceMul, Nat.reduceLeDiff, Nat.reduceSub, decide_true, decide_false, Bool.toNat_true, Bool.toNat_false, not_true_eq_false, not_false_eq_true, ite_not, true_and, and_true, if_true, if_false, ↓reduceIte, Bool.or_true, Bool.true_or, Bool.or_false, pr_0 hp, pf_11 hp, pr_16 hp, pn_16 hp, e8, pf_14 hp, pr_19 hp, pn_19 hp, e11, s0, s2, s3n, ck, Bool.true_eq_false, s09]
        have hpc := PC_alter (v := v) (n := n) ha0
        have hpg := PG_set (f := 13) (k := n) (v := v) (Or.inl rfl) (o := p + 19) (j := n) (x := nI v) (by omega) hr hg
        rw [p73] at hpc hpg ⊢
        obtain ⟨k1, k2⟩ := SC_a (x := nI v) ok hs (by omega) (by omega) hpc hpg
        exact K _ _ k1 k2
      · rw [if_neg (i_out (by omega) hx), il_out (i_out (by omega) hx)] at K
        have K0 := K _ _ hs Fr_r
        by_cases c : v < nI 0
        · simp (disch := first | omega | assumption | exact own_118 | exact rt_118 | exact pr_0 (by assumption) | exact sr_73 | exact sr_4 | exact q_lt1 (hb _ _) | exact bt_lt _ | fail) only [own_118, rt_118, ab_kl_n, ab_kl_i, ab_kl_r, ab_kl_l, at_118_0, Go_aload_0, at_118_1, Go_getf, fl_7_62, gg_7_9, sh_ref, sh_rf, sr_0, at_118_4, Go_iload_1, at_118_5, cl_7_148, cat_n, cat_i, cat_r, cat_l, tl_i, tl_l, tl_n, sh_same, jt_118_8, q_le, q_lt, q_eq, n_leT, n_leF, n_ltT, n_ltF, n_eqF, n_b0, at_118_11, at_118_12, at_118_15, at_118_16, cl_7_160, jt_118_19, at_118_22, Go_iconst, kc_m1, at_118_23, Go_reti, at_118_24, Go_iload_2, jt_118_25, at_118_28, at_118_29, at_118_30, at_118_33, fl_7_151, gg_3_11, at_118_36, at_118_37, Go_iaload, sh_ln, q_in, q_cl, at_118_38, cl_7_252, jt_118_41, at_118_44, at_118_45, at_118_46, at_118_47, at_118_50, fl_7_163, gg_3_14, at_118_53, at_118_54, at_118_55, Go_istore_3, ab_put_int_3, at_118_56, at_118_57, at_118_60, at_118_63, at_118_64, at_118_65, Go_iastore, sh_seti, at_118_66, Go_iload_3, at_118_67, Nat.reduceAdd, Nat.reduceMul, Nat.reduceLeDiff, Nat.reduceSub, decide_true, decide_false, Bool.toNat_true, Bool.toNat_false, not_true_eq_false, not_false_eq_true, ite_not, true_and, and_true, if_true, if_false, ↓reduceIte, Bool.or_true, Bool.true_or, Bool.or_false, pr_0 hp, pf_11 hp, pr_16 hp, pn_16 hp, e8, pf_14 hp, pr_19 hp, pn_19 hp, e11, s0, s2, ck, c, Bool.true_eq_false, s09]
          exact K0
        · have c2 : ¬ v ≤ nI z := by
            rcases hx with z | z
            · exact absurd z c
            · exact Int32.not_le.mpr z
          simp (disch := first | omega | assumption | exact own_118 | exact rt_118 | exact pr_0 (by assumption) | exact sr_73 | exact sr_4 | exact q_lt1 (hb _ _) | exact bt_lt _ | fail) only [own_118, rt_118, ab_kl_n, ab_kl_i, ab_kl_r, ab_kl_l, at_118_0, Go_aload_0, at_118_1, Go_getf, fl_7_62, gg_7_9, sh_ref, sh_rf, sr_0, at_118_4, Go_iload_1, at_118_5, cl_7_148, cat_n, cat_i, cat_r, cat_l, tl_i, tl_l, tl_n, sh_same, jt_118_8, q_le, q_lt, q_eq, n_leT, n_leF, n_ltT, n_ltF, n_eqF, n_b0, at_118_11, at_118_12, at_118_15, at_118_16, cl_7_160, jt_118_19, at_118_22, Go_iconst, kc_m1, at_118_23, Go_reti, at_118_24, Go_iload_2, jt_118_25, at_118_28, at_118_29, at_118_30, at_118_33, fl_7_151, gg_3_11, at_118_36, at_118_37, Go_iaload, sh_ln, q_in, q_cl, at_118_38, cl_7_252, jt_118_41, at_118_44, at_118_45, at_118_46, at_118_47, at_118_50, fl_7_163, gg_3_14, at_118_53, at_118_54, at_118_55, Go_istore_3, ab_put_int_3, at_118_56, at_118_57, at_118_60, at_118_63, at_118_64, at_118_65, Go_iastore, sh_seti, at_118_66, Go_iload_3, at_118_67, Nat.reduceAdd, Nat.reduceMul, Nat.reduceLeDiff, Nat.reduceSub, decide_true, decide_false, Bool.toNat_true, Bool.toNat_false, not_true_eq_false, not_false_eq_true, ite_not, true_and, and_true, if_true, if_false, ↓reduceIte, Bool.or_true, Bool.true_or, Bool.or_false, pr_0 hp, pf_11 hp, pr_16 hp, pn_16 hp, e8, pf_14 hp, pr_19 hp, pn_19 hp, e11, s0, s2, s3n, ck, c, c2, Bool.true_eq_false, s09]
          exact K0
    · rw [if_neg ck, if_neg ck] at K
      have K0 := K _ _ hs Fr_r
      simp (disch := first | omega | assumption | exact own_118 | exact rt_118 | exact pr_0 (by assumption) | exact sr_73 | exact sr_4 | exact q_lt1 (hb _ _) | exact bt_lt _ | fail) only [own_118, rt_118, ab_kl_n, ab_kl_i, ab_kl_r, ab_kl_l, at_118_0, Go_aload_0, at_118_1, Go_getf, fl_7_62, gg_7_9, sh_ref, sh_rf, sr_0, at_118_4, Go_iload_1, at_118_5, cl_7_148, cat_n, cat_i, cat_r, cat_l, tl_i, tl_l, tl_n, sh_same, jt_118_8, q_le, q_lt, q_eq, n_leT, n_leF, n_ltT, n_ltF, n_eqF, n_b0, at_118_11, at_118_12, at_118_15, at_118_16, cl_7_160, jt_118_19, at_118_22, Go_iconst, kc_m1, at_118_23, Go_reti, at_118_24, Go_iload_2, jt_118_25, at_118_28, at_118_29, at_118_30, at_118_33, fl_7_151, gg_3_11, at_118_36, at_118_37, Go_iaload, sh_ln, q_in, q_cl, at_118_38, cl_7_252, jt_118_41, at_118_44, at_118_45, at_118_46, at_118_47, at_118_50, fl_7_163, gg_3_14, at_118_53, at_118_54, at_118_55, Go_istore_3, ab_put_int_3, at_118_56, at_118_57, at_118_60, at_118_63, at_118_64, at_118_65, Go_iastore, sh_seti, at_118_66, Go_iload_3, at_118_67, Nat.reduceAdd, Nat.reduceMul, Nat.reduceLeDiff, Nat.reduceSub, decide_true, decide_false, Bool.toNat_true, Bool.toNat_false, not_true_eq_false, not_false_eq_true, ite_not, true_and, and_true, if_true, if_false, ↓reduceIte, Bool.or_true, Bool.true_or, Bool.or_false, pr_0 hp, pf_11 hp, pr_16 hp, pn_16 hp, e8, pf_14 hp, pr_19 hp, pn_19 hp, e11, s0, s2, ck, s09]
      exact K0
  · rw [if_neg hx, il_out hx] at K
    have K0 := K _ _ hs Fr_r
    simp (disch := first | omega | assumption | exact own_118 | exact rt_118 | exact pr_0 (by assumption) | exact sr_73 | exact sr_4 | exact q_lt1 (hb _ _) | exact bt_lt _ | fail) only [own_118, rt_118, ab_kl_n, ab_kl_i, ab_kl_r, ab_kl_l, at_118_0, Go_aload_0, at_118_1, Go_getf, fl_7_62, gg_7_9, sh_ref, sh_rf, sr_0, at_118_4, Go_iload_1, at_118_5, cl_7_148, cat_n, cat_i, cat_r, cat_l, tl_i, tl_l, tl_n, sh_same, jt_118_8, q_le, q_lt, q_eq, n_leT, n_leF, n_ltT, n_ltF, n_eqF, n_b0, at_118_11, at_118_12, at_118_15, at_118_16, cl_7_160, jt_118_19, at_118_22, Go_iconst, kc_m1, at_118_23, Go_reti, at_118_24, Go_iload_2, jt_118_25, at_118_28, at_118_29, at_118_30, at_118_33, fl_7_151, gg_3_11, at_118_36, at_118_37, Go_iaload, sh_ln, q_in, q_cl, at_118_38, cl_7_252, jt_118_41, at_118_44, at_118_45, at_118_46, at_118_47, at_118_50, fl_7_163, gg_3_14, at_118_53, at_118_54, at_118_55, Go_istore_3, ab_put_int_3, at_118_56, at_118_57, at_118_60, at_118_63, at_118_64, at_118_65, Go_iastore, sh_seti, at_118_66, Go_iload_3, at_118_67, Nat.reduceAdd, Nat.reduceMul, Nat.reduceLeDiff, Nat.reduceSub, decide_true, decide_false, Bool.toNat_true, Bool.toNat_false, not_true_eq_false, not_false_eq_true, ite_not, true_and, and_true, if_true, if_false, ↓reduceIte, Bool.or_true, Bool.true_or, Bool.or_false, pr_0 hp, pf_11 hp, pr_16 hp, pn_16 hp, e8, pf_14 hp, pr_19 hp, pn_19 hp, e11, s2, hx, s09]
    exact K0
end MSE
