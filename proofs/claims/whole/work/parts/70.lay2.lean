/-! THE CALLS: lay -/
section CLB
variable {I I' : Nat → Nat → Int32} {J J' : Nat → Nat → Int64} {Q : Option Value → ab_H → Prop} {s : VS}
theorem C_lay (ok : OS s) (h : SC s I J) (k i v : Int32) (K : ∀ I' J', SC (n_lay s k i v) I' J' → Fr (fun o => 199 ≤ o) I I' J J' → Q (some (.int (o_lay s k i))) (SH, I', J')) : Ex 123 [.ref 0, .int k, .int i, .int v] (SH, I, J) Q := by
  have hs := h
  obtain ⟨h1, h2, h3, h4, h5, h6, h7⟩ := h
  unfold n_lay o_lay at K
  have d1 : (-10 : Int32) - nI 1 = -11 := by decide
  have d2 : (-10 : Int32) - nI 2 = -12 := by decide
  rw [en_123]
  rcases i_le (x := k) (m := 3) (by omega) with ⟨k, hk, rfl⟩ | hx
  · have PK : nI 0 ≤ nI k ∧ nI k < nI 4 := ⟨nI_le (Nat.zero_le _) (by omega), nI_lt (by omega) (by omega)⟩
    rw [if_pos PK, il_in (by omega) (by omega), q_cl (by omega)] at K
    have s1 := fun Q => x_faultAt (J := J) (Q := Q) (k := k) (by omega) ok h6 i
    cases c : v_sh s k with
    | none =>
      rw [c] at K s1
      have s1 : ∀ Q, Ex 88 [.ref 62, .int (nI k), .int i] (SH, I, J) Q = Q (some (.int (nI 1))) (SH, I, J) := s1
      have K0 := K _ _ hs Fr_r
      simp (disch := first | omega | assumption | exact own_123 | exact rt_123 | exact sr_62 | exact q_lt1 (hb _ _) | exact bt_lt _ | fail) only [own_123, rt_123, ab_kl_n, ab_kl_i, ab_kl_r, ab_kl_l, at_123_0, Go_iload_1, jt_123_1, q_le, q_lt, q_eq, n_leT, n_leF, n_ltT, n_ltF, n_eqF, n_b0, at_123_4, at_123_5, Go_iconst, kc_4, jt_123_6, at_123_9, kc_m1, at_123_10, Go_reti, at_123_11, Go_aload_0, at_123_12, Go_getf, fl_7_43, gg_7_5, sh_ref, sh_rf, sr_0, sf_0_5, sr_62, at_123_15, at_123_16, Go_iload_2, at_123_17, cl_7_269, cat_n, cat_i, cat_r, cat_l, tl_i, tl_l, tl_n, sh_same, at_123_20, Go_istore_4, ab_put_int_4, at_123_22, Go_iload_4, jt_123_24, at_123_27, Go_bipush, kb_m10, at_123_29, at_123_31, Go_isub, q_sub, at_123_32, at_123_33, at_123_34, at_123_37, at_123_38, at_123_39, Go_iload_3, at_123_40, cl_7_272, at_123_43, kc_1, at_123_44, Nat.reduceAdd, Nat.reduceMul, Nat.reduceLeDiff, Nat.reduceSub, decide_true, decide_false, Bool.toNat_true, Bool.toNat_false, not_true_eq_false, not_false_eq_true, ite_not, true_and, and_true, if_true, if_false, ↓reduceIte, Bool.or_true, Bool.true_or, Bool.or_false, s1, d1]
      exact K0
    | some z =>
      obtain ⟨l, n⟩ := z
      have hn := ok.2.2.2.1 k l n c
      rw [c] at K s1
      have s1 : ∀ Q, Ex 88 [.ref 62, .int (nI k), .int i] (SH, I, J) Q = Q (some (.int (if nI 0 ≤ i ∧ i < nI n then nI 0 else nI 2))) (SH, I, J) := s1
      have K : ∀ I' J', SC (if nI 0 ≤ i ∧ i < nI n then w_sh s (v_sh s) (fun j i' => if j = k ∧ i' = i.toNatClampNeg then cv l v else v_ce s j i') else s) I' J' → Fr (fun o => 199 ≤ o) I I' J J' → Q (some (.int (if nI 0 ≤ i ∧ i < nI n then nI 1 else -12))) (SH, I', J') := K
      rcases i_lt (x := i) (N := n) (by omega) with ⟨i, hi, rfl⟩ | hx
      · have P : nI 0 ≤ nI i ∧ nI i < nI n := ⟨nI_le (Nat.zero_le _) (by omega), nI_lt (by omega) (by omega)⟩
        rw [if_pos P, if_pos P, q_cl (by omega)] at K
        rw [if_pos P] at s1
        obtain ⟨g1, g2, g3⟩ := (h6 k (by omega)).2 l n c
        have s2 := fun Q => x_write (J := J) (Q := Q) (k := k) (i := i) (l := l) (n := n) (by omega) (by omega) hn.1 g2 v
        simp (disch := first | omega | assumption | exact own_123 | exact rt_123 | exact sr_62 | exact q_lt1 (hb _ _) | exact bt_lt _ | fail) only [own_123, rt_123, ab_kl_n, ab_kl_i, ab_kl_r, ab_kl_l, at_123_0, Go_iload_1, jt_123_1, q_le, q_lt, q_eq, n_leT, n_leF, n_ltT, n_ltF, n_eqF, n_b0, at_123_4, at_123_5, Go_iconst, kc_4, jt_123_6, at_123_9, kc_m1, at_123_10, Go_reti, at_123_11, Go_aload_0, at_123_12, Go_getf, fl_7_43, gg_7_5, sh_ref, sh_rf, sr_0, sf_0_5, sr_62, at_123_15, at_123_16, Go_iload_2, at_123_17, cl_7_269, cat_n, cat_i, cat_r, cat_l, tl_i, tl_l, tl_n, sh_same, at_123_20, Go_istore_4, ab_put_int_4, at_123_22, Go_iload_4, jt_123_24, at_123_27, Go_bipush, kb_m10, at_123_29, at_123_31, Go_isub, q_sub, at_123_32, at_123_33, at_123_34, at_123_37, at_123_38, at_123_39, Go_iload_3, at_123_40, cl_7_272, at_123_43, kc_1, at_123_44, Nat.reduceAdd, Nat.reduceMul, Nat.reduceLeDiff, Nat.reduceSub, decide_true, decide_false, Bool.toNat_true, Bool.toNat_false, not_true_eq_false, not_false_eq_true, ite_not, true_and, and_true, if_true, if_false, ↓reduceIte, Bool.or_true, Bool.true_or, Bool.or_false, s1, s2]
        refine K _ _ ⟨Ca_eq ok.1 (fun o k' _ _ => fr_seti (by omega)) h1, Ci_eq ok.2.1 (fun o k' _ => fr_seti (by omega)) h2, Ct_eq (fun o k' _ => fr_seti (by omega)) h3, (fr_seti (by omega)).trans h4, Cr_eq (fun k' _ => fr_seti (by omega)) (fun _ => rfl) h5, fun j hj => ?_, (fr_seti (by omega)).trans h7⟩ ⟨fun o k' hk => fr_seti (by omega), fun _ _ _ => rfl⟩
        obtain ⟨q1, q2⟩ := h6 j hj
        refine ⟨fun z => (fr_seti (by omega)).trans (q1 z), fun l' n' z => ?_⟩
        obtain ⟨q3, q4, q5⟩ := q2 l' n' z
        refine ⟨(fr_seti (by omega)).trans q3, (fr_seti (by omega)).trans q4, fun i' hi' => ?_⟩
        show ab_up I (66 + k) i (cv l v) (66 + j) i' = if j = k ∧ i' = i then cv l v else v_ce s j i'
        by_cases y : j = k ∧ i' = i
        · rw [if_pos y, y.1, y.2]; exact fr_sets
        · rw [if_neg y]
          by_cases w : j = k
          · subst w
            rw [fr_setk (fun u => y ⟨rfl, u⟩)]; exact q5 i' hi'
          · rw [fr_seti (by omega)]; exact q5 i' hi'
      · rw [if_neg hx, if_neg hx] at K
        rw [if_neg hx] at s1
        have K0 := K _ _ hs Fr_r
        simp (disch := first | omega | assumption | exact own_123 | exact rt_123 | exact sr_62 | exact q_lt1 (hb _ _) | exact bt_lt _ | fail) only [own_123, rt_123, ab_kl_n, ab_kl_i, ab_kl_r, ab_kl_l, at_123_0, Go_iload_1, jt_123_1, q_le, q_lt, q_eq, n_leT, n_leF, n_ltT, n_ltF, n_eqF, n_b0, at_123_4, at_123_5, Go_iconst, kc_4, jt_123_6, at_123_9, kc_m1, at_123_10, Go_reti, at_123_11, Go_aload_0, at_123_12, Go_getf, fl_7_43, gg_7_5, sh_ref, sh_rf, sr_0, sf_0_5, sr_62, at_123_15, at_123_16, Go_iload_2, at_123_17, cl_7_269, cat_n, cat_i, cat_r, cat_l, tl_i, tl_l, tl_n, sh_same, at_123_20, Go_istore_4, ab_put_int_4, at_123_22, Go_iload_4, jt_123_24, at_123_27, Go_bipush, kb_m10, at_123_29, at_123_31, Go_isub, q_sub, at_123_32, at_123_33, at_123_34, at_123_37, at_123_38, at_123_39, Go_iload_3, at_123_40, cl_7_272, at_123_43, kc_1, at_123_44, Nat.reduceAdd, Nat.reduceMul, Nat.reduceLeDiff, Nat.reduceSub, decide_true, decide_false, Bool.toNat_true, Bool.toNat_false, not_true_eq_false, not_false_eq_true, ite_not, true_and, and_true, if_true, if_false, ↓reduceIte, Bool.or_true, Bool.true_or, Bool.or_false, s1, d2]
        exact K0
  · rw [if_neg (i_out (by omega) hx), il_out (i_out (by omega) hx)] at K
    have K0 := K _ _ hs Fr_r
    by_cases c : k < nI 0
    · simp (disch := first | omega | assumption | exact own_123 | exact rt_123 | exact sr_62 | exact q_lt1 (hb _ _) | exact bt_lt _ | fail) only [own_123, rt_123, ab_kl_n, ab_kl_i, ab_kl_r, ab_kl_l, at_123_0, Go_iload_1, jt_123_1, q_le, q_lt, q_eq, n_leT, n_leF, n_ltT, n_ltF, n_eqF, n_b0, at_123_4, at_123_5, Go_iconst, kc_4, jt_123_6, at_123_9, kc_m1, at_123_10, Go_reti, at_123_11, Go_aload_0, at_123_12, Go_getf, fl_7_43, gg_7_5, sh_ref, sh_rf, sr_0, sf_0_5, sr_62, at_123_15, at_123_16, Go_iload_2, at_123_17, cl_7_269, cat_n, cat_i, cat_r, cat_l, tl_i, tl_l, tl_n, sh_same, at_123_20, Go_istore_4, ab_put_int_4, at_123_22, Go_iload_4, jt_123_24, at_123_27, Go_bipush, kb_m10, at_123_29, at_123_31, Go_isub, q_sub, at_123_32, at_123_33, at_123_34, at_123_37, at_123_38, at_123_39, Go_iload_3, at_123_40, cl_7_272, at_123_43, kc_1, at_123_44, Nat.reduceAdd, Nat.reduceMul, Nat.reduceLeDiff, Nat.reduceSub, decide_true, decide_false, Bool.toNat_true, Bool.toNat_false, not_true_eq_false, not_false_eq_true, ite_not, true_and, and_true, if_true, if_false, ↓reduceIte, Bool.or_true, Bool.true_or, Bool.or_false, c]
      exact K0
    · have c2 : ¬ k < nI 4 := fun y => i_out (by omega) hx ⟨Int32.not_lt.mp c, y⟩
      simp (disch := first | omega | assumption | exact own_123 | exact rt_123 | exact sr_62 | exact q_lt1 (hb _ _) | exact bt_lt _ | fail) only [own_123, rt_123, ab_kl_n, ab_kl_i, ab_kl_r, ab_kl_l, at_123_0, Go_iload_1, jt_123_1, q_le, q_lt, q_eq, n_leT, n_leF, n_ltT, n_ltF, n_eqF, n_b0, at_123_4, at_123_5, Go_iconst, kc_4, jt_123_6, at_123_9, kc_m1, at_123_10, Go_reti, at_123_11, Go_aload_0, at_123_12, Go_getf, fl_7_43, gg_7_5, sh_ref, sh_rf, sr_0, sf_0_5, sr_62, at_123_15, at_123_16, Go_iload_2, at_123_17, cl_7_269, cat_n, cat_i, cat_r, cat_l, tl_i, tl_l, tl_n, sh_same, at_123_20, Go_istore_4, ab_put_int_4, at_123_22, Go_iload_4, jt_123_24, at_123_27, Go_bipush, kb_m10, at_123_29, at_123_31, Go_isub, q_sub, at_123_32, at_123_33, at_123_34, at_123_37, at_123_38, at_123_39, Go_iload_3, at_123_40, cl_7_272, at_123_43, kc_1, at_123_44, Nat.reduceAdd, Nat.reduceMul, Nat.reduceLeDiff, Nat.reduceSub, decide_true, decide_false, Bool.toNat_true, Bool.toNat_false, not_true_eq_false, not_false_eq_true, ite_not, true_and, and_true, if_true, if_false, ↓reduceIte, Bool.or_true, Bool.true_or, Bool.or_false, c, c2]
      exact K0
theorem M_lay (ok : OS s) (h : SM s I J) (k i v : Int32) (K : ∀ I' J', SM (n_lay s k i v) I' J' → Fr (fun o => o < 199) I I' J J' → Q (some (.int (o_lay s k i))) (SH, I', J')) : Ex 211 [.ref 199, .int k, .int i, .int v] (SH, I, J) Q := by
  have hs := h
  obtain ⟨h1, h2, h3, h4, h5, h6, h7⟩ := h
  unfold n_lay o_lay at K
  rw [en_211]
  rcases i_lt (x := k) (N := 4) (by omega) with ⟨k, hk, rfl⟩ | hx
  · have PK : nI 0 ≤ nI k ∧ nI k < nI 4 := ⟨nI_le (Nat.zero_le _) (by omega), nI_lt (by omega) (by omega)⟩
    have wk := inN (m := 3) (by omega) (eq_true PK)
    rw [if_pos PK, il_in (by omega) (by omega), q_cl (by omega)] at K
    cases c : v_sh s k with
    | none =>
      rw [c] at K
      have K0 := K _ _ hs Fr_r
      have g0 := (h6 k hk).1 c
      simp (disch := first | omega | assumption | exact own_211 | exact rt_211 | exact q_lt1 (hb _ _) | exact bt_lt _ | fail) only [own_211, rt_211, ab_kl_n, ab_kl_i, ab_kl_r, ab_kl_l, at_211_0, Go_iload_1, at_211_1, Go_i2l, at_211_2, Go_lconst, kl_0, at_211_3, ldc2_8_323, at_211_6, cl_8_71, cat_n, cat_i, cat_r, cat_l, tl_i, tl_l, tl_n, sh_same, jt_211_9, q_le, q_lt, q_eq, n_leT, n_leF, n_ltT, n_ltF, n_eqF, n_b0, at_211_12, Go_iconst, kc_m1, at_211_13, Go_reti, at_211_14, Go_aload_0, at_211_15, Go_getf, fl_8_60, gg_8_32, sh_ref, sh_rf, sr_199, sf_199_32, sr_216, sn_216, at_211_18, at_211_19, Go_iaload, sh_ln, q_in, q_cl, at_211_20, Go_bipush, kb_m4, jt_211_22, at_211_25, kb_m11, at_211_27, at_211_28, Go_iload_2, at_211_29, at_211_30, at_211_31, at_211_32, fl_8_63, gg_8_33, sf_199_33, sr_217, sn_217, at_211_35, at_211_36, at_211_37, kc_1, at_211_38, Go_isub, q_sub, at_211_39, at_211_40, jt_211_43, at_211_46, kb_m12, at_211_48, at_211_49, at_211_50, fl_8_66, gg_8_34, sf_199_34, sr_218, sn_218, at_211_53, kb_40, at_211_55, at_211_56, Go_imul, q_mul, at_211_57, at_211_58, Go_iadd, q_add, Nat.zero_add, at_211_59, at_211_60, at_211_63, at_211_64, jt_211_65, at_211_68, Go_iload_3, at_211_69, kb_24, at_211_71, Go_ishl, q_shl, at_211_72, at_211_74, Go_ishr, q_hb, jt_211_75, at_211_78, at_211_79, at_211_82, at_211_83, at_211_84, jt_211_85, at_211_88, at_211_89, kb_16, at_211_91, at_211_92, at_211_94, jt_211_95, at_211_98, at_211_99, Go_iastore, sh_seti, at_211_100, at_211_101, Nat.reduceAdd, Nat.reduceMul, Nat.reduceLeDiff, Nat.reduceSub, decide_true, decide_false, Bool.toNat_true, Bool.toNat_false, not_true_eq_false, not_false_eq_true, ite_not, true_and, and_true, if_true, if_false, ↓reduceIte, Bool.or_true, Bool.true_or, Bool.or_false, m_in, wk, g0, Bool.true_eq_false]
      exact K0
    | some z =>
      obtain ⟨l, n⟩ := z
      have hn := ok.2.2.2.1 k l n c
      rw [c] at K
      have K : ∀ I' J', SM (if nI 0 ≤ i ∧ i < nI n then w_sh s (v_sh s) (fun j i' => if j = k ∧ i' = i.toNatClampNeg then cv l v else v_ce s j i') else s) I' J' → Fr (fun o => o < 199) I I' J J' → Q (some (.int (if nI 0 ≤ i ∧ i < nI n then nI 1 else -12))) (SH, I', J') := K
      obtain ⟨g1, g2, g3⟩ := (h6 k hk).2 l n c
      rcases i_lt (x := i) (N := n) (by omega) with ⟨i, hi, rfl⟩ | hx
      · have P : nI 0 ≤ nI i ∧ nI i < nI n := ⟨nI_le (Nat.zero_le _) (by omega), nI_lt (by omega) (by omega)⟩
        have wi : (lN 0 ≤ (nI i).toInt64 ∧ (nI i).toInt64 ≤ (nI (n - 1)).toInt64) = True := by
          rw [q_il (by omega : n - 1 < 2147483648)]
          exact inN (m := n - 1) (by omega) (eq_true ⟨nI_le (Nat.zero_le _) (by omega), nI_lt (by omega) (by omega)⟩)
        rw [if_pos P, if_pos P, q_cl (by omega)] at K
        have fin : ∀ x, x = cv l v → Q (some (.int (nI 1))) (SH, ab_up I 218 (40 * k + i) x, J) := fun x hx => by
          subst hx
          refine K _ _ ⟨Ma_eq ok.1 (fun o k' _ => fr_seti (by omega)) h1, Mi_eq ok.2.1 (fun o k' _ => fr_seti (by omega)) h2, Mt_eq (fun o k' _ => fr_seti (by omega)) h3, (fr_seti (by omega)).trans h4, Mr_eq (fun k' _ _ => fr_seti (by omega)) (fun _ _ => rfl) h5, fun j hj => ?_, (fr_seti (by omega)).trans h7⟩ ⟨fun o k' hk => fr_seti (by omega), fun _ _ _ => rfl⟩
          obtain ⟨q1, q2⟩ := h6 j hj
          refine ⟨fun z => (fr_seti (by omega)).trans (q1 z), fun l' n' z => ?_⟩
          obtain ⟨q3, q4, q5⟩ := q2 l' n' z
          refine ⟨(fr_seti (by omega)).trans q3, (fr_seti (by omega)).trans q4, fun i' hi' => ?_⟩
          show ab_up I 218 (40 * k + i) (cv l v) 218 (40 * j + i') = if j = k ∧ i' = i then cv l v else v_ce s j i'
          by_cases y : j = k ∧ i' = i
          · rw [if_pos y, y.1, y.2]; exact fr_sets
          · rw [if_neg y, fr_setk (by omega)]; exact q5 i' hi'
        have : l = 0 ∨ l = 1 ∨ l = 2 := by omega
        rcases this with rfl | rfl | rfl
        · simp (disch := first | omega | assumption | exact own_211 | exact rt_211 | exact q_lt1 (hb _ _) | exact bt_lt _ | fail) only [own_211, rt_211, ab_kl_n, ab_kl_i, ab_kl_r, ab_kl_l, at_211_0, Go_iload_1, at_211_1, Go_i2l, at_211_2, Go_lconst, kl_0, at_211_3, ldc2_8_323, at_211_6, cl_8_71, cat_n, cat_i, cat_r, cat_l, tl_i, tl_l, tl_n, sh_same, jt_211_9, q_le, q_lt, q_eq, n_leT, n_leF, n_ltT, n_ltF, n_eqF, n_b0, at_211_12, Go_iconst, kc_m1, at_211_13, Go_reti, at_211_14, Go_aload_0, at_211_15, Go_getf, fl_8_60, gg_8_32, sh_ref, sh_rf, sr_199, sf_199_32, sr_216, sn_216, at_211_18, at_211_19, Go_iaload, sh_ln, q_in, q_cl, at_211_20, Go_bipush, kb_m4, jt_211_22, at_211_25, kb_m11, at_211_27, at_211_28, Go_iload_2, at_211_29, at_211_30, at_211_31, at_211_32, fl_8_63, gg_8_33, sf_199_33, sr_217, sn_217, at_211_35, at_211_36, at_211_37, kc_1, at_211_38, Go_isub, q_sub, at_211_39, at_211_40, jt_211_43, at_211_46, kb_m12, at_211_48, at_211_49, at_211_50, fl_8_66, gg_8_34, sf_199_34, sr_218, sn_218, at_211_53, kb_40, at_211_55, at_211_56, Go_imul, q_mul, at_211_57, at_211_58, Go_iadd, q_add, Nat.zero_add, at_211_59, at_211_60, at_211_63, at_211_64, jt_211_65, at_211_68, Go_iload_3, at_211_69, kb_24, at_211_71, Go_ishl, q_shl, at_211_72, at_211_74, Go_ishr, q_hb, jt_211_75, at_211_78, at_211_79, at_211_82, at_211_83, at_211_84, jt_211_85, at_211_88, at_211_89, kb_16, at_211_91, at_211_92, at_211_94, jt_211_95, at_211_98, at_211_99, Go_iastore, sh_seti, at_211_100, at_211_101, Nat.reduceAdd, Nat.reduceMul, Nat.reduceLeDiff, Nat.reduceSub, decide_true, decide_false, Bool.toNat_true, Bool.toNat_false, not_true_eq_false, not_false_eq_true, ite_not, true_and, and_true, if_true, if_false, ↓reduceIte, Bool.or_true, Bool.true_or, Bool.or_false, m_in, wk, wi, g1, g2, q_m4, Bool.true_eq_false]
          exact fin _ (sx8 v)
        · simp (disch := first | omega | assumption | exact own_211 | exact rt_211 | exact q_lt1 (hb _ _) | exact bt_lt _ | fail) only [own_211, rt_211, ab_kl_n, ab_kl_i, ab_kl_r, ab_kl_l, at_211_0, Go_iload_1, at_211_1, Go_i2l, at_211_2, Go_lconst, kl_0, at_211_3, ldc2_8_323, at_211_6, cl_8_71, cat_n, cat_i, cat_r, cat_l, tl_i, tl_l, tl_n, sh_same, jt_211_9, q_le, q_lt, q_eq, n_leT, n_leF, n_ltT, n_ltF, n_eqF, n_b0, at_211_12, Go_iconst, kc_m1, at_211_13, Go_reti, at_211_14, Go_aload_0, at_211_15, Go_getf, fl_8_60, gg_8_32, sh_ref, sh_rf, sr_199, sf_199_32, sr_216, sn_216, at_211_18, at_211_19, Go_iaload, sh_ln, q_in, q_cl, at_211_20, Go_bipush, kb_m4, jt_211_22, at_211_25, kb_m11, at_211_27, at_211_28, Go_iload_2, at_211_29, at_211_30, at_211_31, at_211_32, fl_8_63, gg_8_33, sf_199_33, sr_217, sn_217, at_211_35, at_211_36, at_211_37, kc_1, at_211_38, Go_isub, q_sub, at_211_39, at_211_40, jt_211_43, at_211_46, kb_m12, at_211_48, at_211_49, at_211_50, fl_8_66, gg_8_34, sf_199_34, sr_218, sn_218, at_211_53, kb_40, at_211_55, at_211_56, Go_imul, q_mul, at_211_57, at_211_58, Go_iadd, q_add, Nat.zero_add, at_211_59, at_211_60, at_211_63, at_211_64, jt_211_65, at_211_68, Go_iload_3, at_211_69, kb_24, at_211_71, Go_ishl, q_shl, at_211_72, at_211_74, Go_ishr, q_hb, jt_211_75, at_211_78, at_211_79, at_211_82, at_211_83, at_211_84, jt_211_85, at_211_88, at_211_89, kb_16, at_211_91, at_211_92, at_211_94, jt_211_95, at_211_98, at_211_99, Go_iastore, sh_seti, at_211_100, at_211_101, Nat.reduceAdd, Nat.reduceMul, Nat.reduceLeDiff, Nat.reduceSub, decide_true, decide_false, Bool.toNat_true, Bool.toNat_false, not_true_eq_false, not_false_eq_true, ite_not, true_and, and_true, if_true, if_false, ↓reduceIte, Bool.or_true, Bool.true_or, Bool.or_false, m_in, wk, wi, g1, g2, q_m4, Bool.true_eq_false]
          exact fin _ (sx16 v)
        · simp (disch := first | omega | assumption | exact own_211 | exact rt_211 | exact q_lt1 (hb _ _) | exact bt_lt _ | fail) only [own_211, rt_211, ab_kl_n, ab_kl_i, ab_kl_r, ab_kl_l, at_211_0, Go_iload_1, at_211_1, Go_i2l, at_211_2, Go_lconst, kl_0, at_211_3, ldc2_8_323, at_211_6, cl_8_71, cat_n, cat_i, cat_r, cat_l, tl_i, tl_l, tl_n, sh_same, jt_211_9, q_le, q_lt, q_eq, n_leT, n_leF, n_ltT, n_ltF, n_eqF, n_b0, at_211_12, Go_iconst, kc_m1, at_211_13, Go_reti, at_211_14, Go_aload_0, at_211_15, Go_getf, fl_8_60, gg_8_32, sh_ref, sh_rf, sr_199, sf_199_32, sr_216, sn_216, at_211_18, at_211_19, Go_iaload, sh_ln, q_in, q_cl, at_211_20, Go_bipush, kb_m4, jt_211_22, at_211_25, kb_m11, at_211_27, at_211_28, Go_iload_2, at_211_29, at_211_30, at_211_31, at_211_32, fl_8_63, gg_8_33, sf_199_33, sr_217, sn_217, at_211_35, at_211_36, at_211_37, kc_1, at_211_38, Go_isub, q_sub, at_211_39, at_211_40, jt_211_43, at_211_46, kb_m12, at_211_48, at_211_49, at_211_50, fl_8_66, gg_8_34, sf_199_34, sr_218, sn_218, at_211_53, kb_40, at_211_55, at_211_56, Go_imul, q_mul, at_211_57, at_211_58, Go_iadd, q_add, Nat.zero_add, at_211_59, at_211_60, at_211_63, at_211_64, jt_211_65, at_211_68, Go_iload_3, at_211_69, kb_24, at_211_71, Go_ishl, q_shl, at_211_72, at_211_74, Go_ishr, q_hb, jt_211_75, at_211_78, at_211_79, at_211_82, at_211_83, at_211_84, jt_211_85, at_211_88, at_211_89, kb_16, at_211_91, at_211_92, at_211_94, jt_211_95, at_211_98, at_211_99, Go_iastore, sh_seti, at_211_100, at_211_101, Nat.reduceAdd, Nat.reduceMul, Nat.reduceLeDiff, Nat.reduceSub, decide_true, decide_false, Bool.toNat_true, Bool.toNat_false, not_true_eq_false, not_false_eq_true, ite_not, true_and, and_true, if_true, if_false, ↓reduceIte, Bool.or_true, Bool.true_or, Bool.or_false, m_in, wk, wi, g1, g2, q_m4, Bool.true_eq_false]
          exact fin _ rfl
      · rw [if_neg hx, if_neg hx] at K
        have K0 := K _ _ hs Fr_r
        have wi := @in_lt i n (by omega)
        rw [eq_false hx] at wi
        simp (disch := first | omega | assumption | exact own_211 | exact rt_211 | exact q_lt1 (hb _ _) | exact bt_lt _ | fail) only [own_211, rt_211, ab_kl_n, ab_kl_i, ab_kl_r, ab_kl_l, at_211_0, Go_iload_1, at_211_1, Go_i2l, at_211_2, Go_lconst, kl_0, at_211_3, ldc2_8_323, at_211_6, cl_8_71, cat_n, cat_i, cat_r, cat_l, tl_i, tl_l, tl_n, sh_same, jt_211_9, q_le, q_lt, q_eq, n_leT, n_leF, n_ltT, n_ltF, n_eqF, n_b0, at_211_12, Go_iconst, kc_m1, at_211_13, Go_reti, at_211_14, Go_aload_0, at_211_15, Go_getf, fl_8_60, gg_8_32, sh_ref, sh_rf, sr_199, sf_199_32, sr_216, sn_216, at_211_18, at_211_19, Go_iaload, sh_ln, q_in, q_cl, at_211_20, Go_bipush, kb_m4, jt_211_22, at_211_25, kb_m11, at_211_27, at_211_28, Go_iload_2, at_211_29, at_211_30, at_211_31, at_211_32, fl_8_63, gg_8_33, sf_199_33, sr_217, sn_217, at_211_35, at_211_36, at_211_37, kc_1, at_211_38, Go_isub, q_sub, at_211_39, at_211_40, jt_211_43, at_211_46, kb_m12, at_211_48, at_211_49, at_211_50, fl_8_66, gg_8_34, sf_199_34, sr_218, sn_218, at_211_53, kb_40, at_211_55, at_211_56, Go_imul, q_mul, at_211_57, at_211_58, Go_iadd, q_add, Nat.zero_add, at_211_59, at_211_60, at_211_63, at_211_64, jt_211_65, at_211_68, Go_iload_3, at_211_69, kb_24, at_211_71, Go_ishl, q_shl, at_211_72, at_211_74, Go_ishr, q_hb, jt_211_75, at_211_78, at_211_79, at_211_82, at_211_83, at_211_84, jt_211_85, at_211_88, at_211_89, kb_16, at_211_91, at_211_92, at_211_94, jt_211_95, at_211_98, at_211_99, Go_iastore, sh_seti, at_211_100, at_211_101, Nat.reduceAdd, Nat.reduceMul, Nat.reduceLeDiff, Nat.reduceSub, decide_true, decide_false, Bool.toNat_true, Bool.toNat_false, not_true_eq_false, not_false_eq_true, ite_not, true_and, and_true, if_true, if_false, ↓reduceIte, Bool.or_true, Bool.true_or, Bool.or_false, m_in, wk, wi, g1, g2, q_m4, Bool.true_eq_false]
        exact K0
  · rw [if_neg hx, il_out hx] at K
    have K0 := K _ _ hs Fr_r
    have wk := inN (m := 3) (by omega) (eq_false hx)
    simp (disch := first | omega | assumption | exact own_211 | exact rt_211 | exact q_lt1 (hb _ _) | exact bt_lt _ | fail) only [own_211, rt_211, ab_kl_n, ab_kl_i, ab_kl_r, ab_kl_l, at_211_0, Go_iload_1, at_211_1, Go_i2l, at_211_2, Go_lconst, kl_0, at_211_3, ldc2_8_323, at_211_6, cl_8_71, cat_n, cat_i, cat_r, cat_l, tl_i, tl_l, tl_n, sh_same, jt_211_9, q_le, q_lt, q_eq, n_leT, n_leF, n_ltT, n_ltF, n_eqF, n_b0, at_211_12, Go_iconst, kc_m1, at_211_13, Go_reti, at_211_14, Go_aload_0, at_211_15, Go_getf, fl_8_60, gg_8_32, sh_ref, sh_rf, sr_199, sf_199_32, sr_216, sn_216, at_211_18, at_211_19, Go_iaload, sh_ln, q_in, q_cl, at_211_20, Go_bipush, kb_m4, jt_211_22, at_211_25, kb_m11, at_211_27, at_211_28, Go_iload_2, at_211_29, at_211_30, at_211_31, at_211_32, fl_8_63, gg_8_33, sf_199_33, sr_217, sn_217, at_211_35, at_211_36, at_211_37, kc_1, at_211_38, Go_isub, q_sub, at_211_39, at_211_40, jt_211_43, at_211_46, kb_m12, at_211_48, at_211_49, at_211_50, fl_8_66, gg_8_34, sf_199_34, sr_218, sn_218, at_211_53, kb_40, at_211_55, at_211_56, Go_imul, q_mul, at_211_57, at_211_58, Go_iadd, q_add, Nat.zero_add, at_211_59, at_211_60, at_211_63, at_211_64, jt_211_65, at_211_68, Go_iload_3, at_211_69, kb_24, at_211_71, Go_ishl, q_shl, at_211_72, at_211_74, Go_ishr, q_hb, jt_211_75, at_211_78, at_211_79, at_211_82, at_211_83, at_211_84, jt_211_85, at_211_88, at_211_89, kb_16, at_211_91, at_211_92, at_211_94, jt_211_95, at_211_98, at_211_99, Go_iastore, sh_seti, at_211_100, at_211_101, Nat.reduceAdd, Nat.reduceMul, Nat.reduceLeDiff, Nat.reduceSub, decide_true, decide_false, Bool.toNat_true, Bool.toNat_false, not_true_eq_false, not_false_eq_true, ite_not, true_and, and_true, if_true, if_false, ↓reduceIte, Bool.or_true, Bool.true_or, Bool.or_false, m_in, wk]
    exact K0
end CLB
