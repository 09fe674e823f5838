/-! THE CALLS: images, the reference -/
section MKE
variable {I I' : Nat → Nat → Int32} {J J' : Nat → Nat → Int64} {Q : Option Value → ab_H → Prop} {s : VS}
theorem in01 {x : Int32} {P : Prop} (h : (nI 0 ≤ x ∧ x < nI 2) = P) : (lN 0 ≤ x.toInt64 ∧ x.toInt64 ≤ lN 1) = P := by
  rw [← h, in_le (by omega)]
  rcases i_le (x := x) (m := 1) (by omega) with ⟨v, hv, rfl⟩ | hx
  · exact propext ⟨fun w => ⟨w.1, nI_lt (by omega) (by omega)⟩, fun w => ⟨w.1, nI_le hv (by omega)⟩⟩
  · have := i_out (by omega) hx
    refine propext ⟨fun w => ?_, fun w => absurd w this⟩
    rcases hx with y | y
    · exact absurd y (Int32.not_lt.mpr w.1)
    · exact absurd y (Int32.not_lt.mpr w.2)
theorem WL_OA {A : Nat → Nat → Nat} (h : OA A) : WL A := WL_of h.2.1
theorem M_keep (ok : OS s) (h : SM s I J) (k : Int32) (K : ∀ I' J', SM (n_keep s k) I' J' → Fr (fun o => o < 199) I I' J J' → Q (some (.int (o_keep s k))) (SH, I', J')) : Ex 208 [.ref 199, .int k] (SH, I, J) Q := by
  have hs := h
  obtain ⟨h1, h2, h3, h4, h5, h6, h7⟩ := h
  unfold n_keep o_keep at K
  rw [en_208]
  rcases i_lt (x := k) (N := 2) (by omega) with ⟨k, hk, rfl⟩ | hx
  · have PK : nI 0 ≤ nI k ∧ nI k < nI 2 := ⟨nI_le (Nat.zero_le _) (by omega), nI_lt (by omega) (by omega)⟩
    have w := in01 (eq_true PK)
    rw [if_pos PK, il_in (by omega) (by omega), q_cl (by omega)] at K
    have ik := (h2 k (by omega)).1
    have fin : ∀ v : Nat, v = (v_im s k).isSome.toNat → Go (ab_at 208 27) 208 27 [some (.ref 199), some (.int (nI (k))), some (.int (nI (v)))] []  (SH, I, J) Q := fun v hv => by
      rw [at_208_27]
      simp (disch := first | omega | assumption | exact own_208 | exact rt_208 | exact sr_199 | exact q_lt1 (hb _ _) | exact bt_lt _ | fail) only [own_208, rt_208, ab_kl_n, ab_kl_i, ab_kl_r, ab_kl_l, at_208_0, Go_iload_1, at_208_1, Go_i2l, at_208_2, Go_lconst, kl_0, at_208_3, kl_1, at_208_4, cl_8_71, cat_n, cat_i, cat_r, cat_l, tl_i, tl_l, tl_n, sh_same, jt_208_7, q_le, q_lt, q_eq, n_leT, n_leF, n_ltT, n_ltF, n_eqF, n_b0, at_208_10, Go_iconst, kc_m1, at_208_11, Go_reti, at_208_12, Go_aload_0, at_208_13, Go_getf, fl_8_56, gg_8_31, sh_ref, sh_rf, sr_199, sf_199_31, sr_215, sn_215, at_208_16, at_208_17, Go_baload, sh_ln, q_in, q_cl, jt_208_18, at_208_21, kc_1, jt_208_22, at_208_25, kc_0, at_208_26, Go_istore_2, ab_put_int_2, at_208_27, at_208_28, at_208_29, Go_sipush, ks_238, at_208_32, at_208_33, Go_imul, q_mul, at_208_34, at_208_37, Go_iadd, q_add, Nat.zero_add, at_208_38, cl_8_156, at_208_41, at_208_42, at_208_45, at_208_46, at_208_47, Go_bastore, sh_seti, sh_kd, at_208_48, Go_iload_2, at_208_49, Nat.reduceAdd, Nat.reduceMul, Nat.reduceLeDiff, Nat.reduceSub, decide_true, decide_false, Bool.toNat_true, Bool.toNat_false, not_true_eq_false, not_false_eq_true, ite_not, true_and, and_true, if_true, if_false, ↓reduceIte, Bool.or_true, Bool.true_or, Bool.or_false]
      refine m_copies (g := 0) (g' := 238 * k + 238) (by omega) (by omega) (by omega) (fun I1 f1 f2 => ?_)
      have n1 : vp_nar .boolean (nI 1) = nI 1 := vn1
      have k71 : ab_kd sh_z 215 = 12 := by decide +kernel
      simp (disch := first | omega | assumption | exact own_208 | exact rt_208 | exact sr_199 | exact q_lt1 (hb _ _) | exact bt_lt _ | fail) only [own_208, rt_208, ab_kl_n, ab_kl_i, ab_kl_r, ab_kl_l, at_208_0, Go_iload_1, at_208_1, Go_i2l, at_208_2, Go_lconst, kl_0, at_208_3, kl_1, at_208_4, cl_8_71, cat_n, cat_i, cat_r, cat_l, tl_i, tl_l, tl_n, sh_same, jt_208_7, q_le, q_lt, q_eq, n_leT, n_leF, n_ltT, n_ltF, n_eqF, n_b0, at_208_10, Go_iconst, kc_m1, at_208_11, Go_reti, at_208_12, Go_aload_0, at_208_13, Go_getf, fl_8_56, gg_8_31, sh_ref, sh_rf, sr_199, sf_199_31, sr_215, sn_215, at_208_16, at_208_17, Go_baload, sh_ln, q_in, q_cl, jt_208_18, at_208_21, kc_1, jt_208_22, at_208_25, kc_0, at_208_26, Go_istore_2, ab_put_int_2, at_208_27, at_208_28, at_208_29, Go_sipush, ks_238, at_208_32, at_208_33, Go_imul, q_mul, at_208_34, at_208_37, Go_iadd, q_add, Nat.zero_add, at_208_38, cl_8_156, at_208_41, at_208_42, at_208_45, at_208_46, at_208_47, Go_bastore, sh_seti, sh_kd, at_208_48, Go_iload_2, at_208_49, Nat.reduceAdd, Nat.reduceMul, Nat.reduceLeDiff, Nat.reduceSub, decide_true, decide_false, Bool.toNat_true, Bool.toNat_false, not_true_eq_false, not_false_eq_true, ite_not, true_and, and_true, if_true, if_false, ↓reduceIte, Bool.or_true, Bool.true_or, Bool.or_false, n1, k71]
      rw [hv]
      refine K _ _ ⟨Ma_eq ok.1 (fun o k' _ => by rw [fr_seti (by omega), f1 o k' (by omega)]) h1, fun j hj => ?_, Mt_eq (fun o k' _ => by rw [fr_seti (by omega), f1 o k' (by omega)]) h3, by rw [fr_seti (by omega), f1 _ _ (by omega)]; exact h4, Mr_eq (fun k' _ _ => by rw [fr_seti (by omega), f1 _ _ (by omega)]) (fun _ _ => rfl) h5, Ms_eq (fun o k' _ _ => by rw [fr_seti (by omega), f1 _ _ (by omega)]) h6, by rw [fr_seti (by omega), f1 _ _ (by omega)]; exact h7⟩ ⟨fun o k' hk => by rw [fr_seti (by omega), f1 _ _ (by omega)], fun _ _ _ => rfl⟩
      show ab_up I1 215 k (nI 1) 215 j = nI (if j = k then some (v_a s) else v_im s j).isSome.toNat ∧ ∀ A, (if j = k then some (v_a s) else v_im s j) = some A → PM (238 * j + 238) (ab_up I1 215 k (nI 1)) A
      by_cases z : j = k
      · subst z
        rw [if_pos rfl]
        refine ⟨fr_sets, fun A hA => ?_⟩
        cases hA
        exact PM_of (fun o z1 z2 => by rw [fr_seti (by omega)]) ok.1.2.1 (PM_cp ok.1.2.1 f2 h1.1)
      · rw [if_neg z, fr_setk z, f1 _ _ (by omega)]
        refine ⟨(h2 j hj).1, fun A hA => ?_⟩
        exact PM_of (fun o z1 z2 => by rw [fr_seti (by omega), f1 _ _ (by omega)]) (ok.2.1 j A hA).2.1 ((h2 j hj).2 A hA)
    cases c : (v_im s k).isSome with
    | true =>
      rw [c] at ik
      have fin2 := fin 1 (by rw [c]; rfl)
      simp (disch := first | omega | assumption | exact own_208 | exact rt_208 | exact sr_199 | exact q_lt1 (hb _ _) | exact bt_lt _ | fail) only [own_208, rt_208, ab_kl_n, ab_kl_i, ab_kl_r, ab_kl_l, at_208_0, Go_iload_1, at_208_1, Go_i2l, at_208_2, Go_lconst, kl_0, at_208_3, kl_1, at_208_4, cl_8_71, cat_n, cat_i, cat_r, cat_l, tl_i, tl_l, tl_n, sh_same, jt_208_7, q_le, q_lt, q_eq, n_leT, n_leF, n_ltT, n_ltF, n_eqF, n_b0, at_208_10, Go_iconst, kc_m1, at_208_11, Go_reti, at_208_12, Go_aload_0, at_208_13, Go_getf, fl_8_56, gg_8_31, sh_ref, sh_rf, sr_199, sf_199_31, sr_215, sn_215, at_208_16, at_208_17, Go_baload, sh_ln, q_in, q_cl, jt_208_18, at_208_21, kc_1, jt_208_22, at_208_25, kc_0, at_208_26, Go_istore_2, ab_put_int_2, at_208_28, at_208_29, Go_sipush, ks_238, at_208_32, at_208_33, Go_imul, q_mul, at_208_34, at_208_37, Go_iadd, q_add, Nat.zero_add, at_208_38, cl_8_156, at_208_41, at_208_42, at_208_45, at_208_46, at_208_47, Go_bastore, sh_seti, sh_kd, at_208_48, Go_iload_2, at_208_49, Nat.reduceAdd, Nat.reduceMul, Nat.reduceLeDiff, Nat.reduceSub, decide_true, decide_false, Bool.toNat_true, Bool.toNat_false, not_true_eq_false, not_false_eq_true, ite_not, true_and, and_true, if_true, if_false, ↓reduceIte, Bool.or_true, Bool.true_or, Bool.or_false, ik, m_in, w, Bool.true_eq_false]
      exact fin2
    | false =>
      rw [c] at ik
      have fin2 := fin 0 (by rw [c]; rfl)
      simp (disch := first | omega | assumption | exact own_208 | exact rt_208 | exact sr_199 | exact q_lt1 (hb _ _) | exact bt_lt _ | fail) only [own_208, rt_208, ab_kl_n, ab_kl_i, ab_kl_r, ab_kl_l, at_208_0, Go_iload_1, at_208_1, Go_i2l, at_208_2, Go_lconst, kl_0, at_208_3, kl_1, at_208_4, cl_8_71, cat_n, cat_i, cat_r, cat_l, tl_i, tl_l, tl_n, sh_same, jt_208_7, q_le, q_lt, q_eq, n_leT, n_leF, n_ltT, n_ltF, n_eqF, n_b0, at_208_10, Go_iconst, kc_m1, at_208_11, Go_reti, at_208_12, Go_aload_0, at_208_13, Go_getf, fl_8_56, gg_8_31, sh_ref, sh_rf, sr_199, sf_199_31, sr_215, sn_215, at_208_16, at_208_17, Go_baload, sh_ln, q_in, q_cl, jt_208_18, at_208_21, kc_1, jt_208_22, at_208_25, kc_0, at_208_26, Go_istore_2, ab_put_int_2, at_208_28, at_208_29, Go_sipush, ks_238, at_208_32, at_208_33, Go_imul, q_mul, at_208_34, at_208_37, Go_iadd, q_add, Nat.zero_add, at_208_38, cl_8_156, at_208_41, at_208_42, at_208_45, at_208_46, at_208_47, Go_bastore, sh_seti, sh_kd, at_208_48, Go_iload_2, at_208_49, Nat.reduceAdd, Nat.reduceMul, Nat.reduceLeDiff, Nat.reduceSub, decide_true, decide_false, Bool.toNat_true, Bool.toNat_false, not_true_eq_false, not_false_eq_true, ite_not, true_and, and_true, if_true, if_false, ↓reduceIte, Bool.or_true, Bool.true_or, Bool.or_false, ik, m_in, w, Bool.true_eq_false]
      exact fin2
  · rw [if_neg hx, il_out hx] at K
    have K0 := K _ _ hs Fr_r
    have w := in01 (eq_false hx)
    simp (disch := first | omega | assumption | exact own_208 | exact rt_208 | exact sr_199 | exact q_lt1 (hb _ _) | exact bt_lt _ | fail) only [own_208, rt_208, ab_kl_n, ab_kl_i, ab_kl_r, ab_kl_l, at_208_0, Go_iload_1, at_208_1, Go_i2l, at_208_2, Go_lconst, kl_0, at_208_3, kl_1, at_208_4, cl_8_71, cat_n, cat_i, cat_r, cat_l, tl_i, tl_l, tl_n, sh_same, jt_208_7, q_le, q_lt, q_eq, n_leT, n_leF, n_ltT, n_ltF, n_eqF, n_b0, at_208_10, Go_iconst, kc_m1, at_208_11, Go_reti, at_208_12, Go_aload_0, at_208_13, Go_getf, fl_8_56, gg_8_31, sh_ref, sh_rf, sr_199, sf_199_31, sr_215, sn_215, at_208_16, at_208_17, Go_baload, sh_ln, q_in, q_cl, jt_208_18, at_208_21, kc_1, jt_208_22, at_208_25, kc_0, at_208_26, Go_istore_2, ab_put_int_2, at_208_27, at_208_28, at_208_29, Go_sipush, ks_238, at_208_32, at_208_33, Go_imul, q_mul, at_208_34, at_208_37, Go_iadd, q_add, Nat.zero_add, at_208_38, cl_8_156, at_208_41, at_208_42, at_208_45, at_208_46, at_208_47, Go_bastore, sh_seti, sh_kd, at_208_48, Go_iload_2, at_208_49, Nat.reduceAdd, Nat.reduceMul, Nat.reduceLeDiff, Nat.reduceSub, decide_true, decide_false, Bool.toNat_true, Bool.toNat_false, not_true_eq_false, not_false_eq_true, ite_not, true_and, and_true, if_true, if_false, ↓reduceIte, Bool.or_true, Bool.true_or, Bool.or_false, m_in, w]
    exact K0
theorem M_back (ok : OS s) (h : SM s I J) (k : Int32) (K : ∀ I' J', SM (n_back s k) I' J' → Fr (fun o => o < 199) I I' J J' → Q (some (.int (o_back s k))) (SH, I', J')) : Ex 209 [.ref 199, .int k] (SH, I, J) Q := by
  have hs := h
  obtain ⟨h1, h2, h3, h4, h5, h6, h7⟩ := h
  unfold n_back o_back at K
  rw [en_209]
  rcases i_lt (x := k) (N := 2) (by omega) with ⟨k, hk, rfl⟩ | hx
  · have PK : nI 0 ≤ nI k ∧ nI k < nI 2 := ⟨nI_le (Nat.zero_le _) (by omega), nI_lt (by omega) (by omega)⟩
    have w := in01 (eq_true PK)
    rw [if_pos PK, il_in (by omega) (by omega), q_cl (by omega)] at K
    have ik := (h2 k (by omega)).1
    cases c : v_im s k with
    | none =>
      rw [c] at ik K
      have ik : I 215 k = nI 0 := ik
      have K0 := K _ _ hs Fr_r
      simp (disch := first | omega | assumption | exact own_209 | exact rt_209 | exact sr_199 | exact q_lt1 (hb _ _) | exact bt_lt _ | fail) only [own_209, rt_209, ab_kl_n, ab_kl_i, ab_kl_r, ab_kl_l, at_209_0, Go_iload_1, at_209_1, Go_i2l, at_209_2, Go_lconst, kl_0, at_209_3, kl_1, at_209_4, cl_8_71, cat_n, cat_i, cat_r, cat_l, tl_i, tl_l, tl_n, sh_same, jt_209_7, q_le, q_lt, q_eq, n_leT, n_leF, n_ltT, n_ltF, n_eqF, n_b0, at_209_10, Go_iconst, kc_m1, at_209_11, Go_reti, at_209_12, Go_aload_0, at_209_13, Go_getf, fl_8_56, gg_8_31, sh_ref, sh_rf, sr_199, sf_199_31, sr_215, sn_215, at_209_16, at_209_17, Go_baload, sh_ln, q_in, q_cl, jt_209_18, at_209_21, Go_bipush, kb_m2, at_209_23, at_209_24, at_209_25, Go_sipush, ks_238, at_209_28, at_209_29, Go_imul, q_mul, at_209_30, at_209_33, Go_iadd, q_add, Nat.zero_add, at_209_34, kc_0, at_209_35, cl_8_156, at_209_38, at_209_39, at_209_40, cl_8_153, at_209_43, at_209_44, at_209_45, Go_putf, fl_8_159, gp_8_18, sh_seti, at_209_48, at_209_49, fl_8_7, gg_8_0, sf_199_0, sr_200, sn_200, at_209_52, ks_237, at_209_55, Go_iaload, at_209_56, Nat.reduceAdd, Nat.reduceMul, Nat.reduceLeDiff, Nat.reduceSub, decide_true, decide_false, Bool.toNat_true, Bool.toNat_false, not_true_eq_false, not_false_eq_true, ite_not, true_and, and_true, if_true, if_false, ↓reduceIte, Bool.or_true, Bool.true_or, Bool.or_false, ik, m_in, w, Bool.true_eq_false]
      exact K0
    | some A =>
      rw [c] at ik K
      have ik : I 215 k = nI 1 := ik
      have p1 := (h2 k (by omega)).2 A c
      have oA := ok.2.1 k A c
      simp (disch := first | omega | assumption | exact own_209 | exact rt_209 | exact sr_199 | exact q_lt1 (hb _ _) | exact bt_lt _ | fail) only [own_209, rt_209, ab_kl_n, ab_kl_i, ab_kl_r, ab_kl_l, at_209_0, Go_iload_1, at_209_1, Go_i2l, at_209_2, Go_lconst, kl_0, at_209_3, kl_1, at_209_4, cl_8_71, cat_n, cat_i, cat_r, cat_l, tl_i, tl_l, tl_n, sh_same, jt_209_7, q_le, q_lt, q_eq, n_leT, n_leF, n_ltT, n_ltF, n_eqF, n_b0, at_209_10, Go_iconst, kc_m1, at_209_11, Go_reti, at_209_12, Go_aload_0, at_209_13, Go_getf, fl_8_56, gg_8_31, sh_ref, sh_rf, sr_199, sf_199_31, sr_215, sn_215, at_209_16, at_209_17, Go_baload, sh_ln, q_in, q_cl, jt_209_18, at_209_21, Go_bipush, kb_m2, at_209_23, at_209_24, at_209_25, Go_sipush, ks_238, at_209_28, at_209_29, Go_imul, q_mul, at_209_30, at_209_33, Go_iadd, q_add, Nat.zero_add, at_209_34, kc_0, at_209_35, cl_8_156, at_209_38, at_209_39, at_209_40, cl_8_153, at_209_43, at_209_44, at_209_45, Go_putf, fl_8_159, gp_8_18, sh_seti, at_209_48, at_209_49, fl_8_7, gg_8_0, sf_199_0, sr_200, sn_200, at_209_52, ks_237, at_209_55, Go_iaload, at_209_56, Nat.reduceAdd, Nat.reduceMul, Nat.reduceLeDiff, Nat.reduceSub, decide_true, decide_false, Bool.toNat_true, Bool.toNat_false, not_true_eq_false, not_false_eq_true, ite_not, true_and, and_true, if_true, if_false, ↓reduceIte, Bool.or_true, Bool.true_or, Bool.or_false, ik, m_in, w, Bool.true_eq_false]
      refine m_copies (g := 238 * k + 238) (g' := 0) (by omega) (by omega) (by omega) (fun I1 f1 f2 => ?_)
      have q1 := PM_cp oA.2.1 f2 p1
      simp (disch := first | omega | assumption | exact own_209 | exact rt_209 | exact sr_199 | exact q_lt1 (hb _ _) | exact bt_lt _ | fail) only [own_209, rt_209, ab_kl_n, ab_kl_i, ab_kl_r, ab_kl_l, at_209_0, Go_iload_1, at_209_1, Go_i2l, at_209_2, Go_lconst, kl_0, at_209_3, kl_1, at_209_4, cl_8_71, cat_n, cat_i, cat_r, cat_l, tl_i, tl_l, tl_n, sh_same, jt_209_7, q_le, q_lt, q_eq, n_leT, n_leF, n_ltT, n_ltF, n_eqF, n_b0, at_209_10, Go_iconst, kc_m1, at_209_11, Go_reti, at_209_12, Go_aload_0, at_209_13, Go_getf, fl_8_56, gg_8_31, sh_ref, sh_rf, sr_199, sf_199_31, sr_215, sn_215, at_209_16, at_209_17, Go_baload, sh_ln, q_in, q_cl, jt_209_18, at_209_21, Go_bipush, kb_m2, at_209_23, at_209_24, at_209_25, Go_sipush, ks_238, at_209_28, at_209_29, Go_imul, q_mul, at_209_30, at_209_33, Go_iadd, q_add, Nat.zero_add, at_209_34, kc_0, at_209_35, cl_8_156, at_209_38, at_209_39, at_209_40, cl_8_153, at_209_43, at_209_44, at_209_45, Go_putf, fl_8_159, gp_8_18, sh_seti, at_209_48, at_209_49, fl_8_7, gg_8_0, sf_199_0, sr_200, sn_200, at_209_52, ks_237, at_209_55, Go_iaload, at_209_56, Nat.reduceAdd, Nat.reduceMul, Nat.reduceLeDiff, Nat.reduceSub, decide_true, decide_false, Bool.toNat_true, Bool.toNat_false, not_true_eq_false, not_false_eq_true, ite_not, true_and, and_true, if_true, if_false, ↓reduceIte, Bool.or_true, Bool.true_or, Bool.or_false]
      refine m_shapesOn (A := A) oA.1 (WL_OA oA) q1 (Or.inl rfl) (fun I2 f3 f4 => ?_)
      have q2 := PM_mpk f3 q1
      have e1 : ab_up I2 199 18 (nI 0) 200 237 = nI (A 0 1) := by rw [fr_seti (by omega)]; exact q2.2.1
      simp (disch := first | omega | assumption | exact own_209 | exact rt_209 | exact sr_199 | exact q_lt1 (hb _ _) | exact bt_lt _ | fail) only [own_209, rt_209, ab_kl_n, ab_kl_i, ab_kl_r, ab_kl_l, at_209_0, Go_iload_1, at_209_1, Go_i2l, at_209_2, Go_lconst, kl_0, at_209_3, kl_1, at_209_4, cl_8_71, cat_n, cat_i, cat_r, cat_l, tl_i, tl_l, tl_n, sh_same, jt_209_7, q_le, q_lt, q_eq, n_leT, n_leF, n_ltT, n_ltF, n_eqF, n_b0, at_209_10, Go_iconst, kc_m1, at_209_11, Go_reti, at_209_12, Go_aload_0, at_209_13, Go_getf, fl_8_56, gg_8_31, sh_ref, sh_rf, sr_199, sf_199_31, sr_215, sn_215, at_209_16, at_209_17, Go_baload, sh_ln, q_in, q_cl, jt_209_18, at_209_21, Go_bipush, kb_m2, at_209_23, at_209_24, at_209_25, Go_sipush, ks_238, at_209_28, at_209_29, Go_imul, q_mul, at_209_30, at_209_33, Go_iadd, q_add, Nat.zero_add, at_209_34, kc_0, at_209_35, cl_8_156, at_209_38, at_209_39, at_209_40, cl_8_153, at_209_43, at_209_44, at_209_45, Go_putf, fl_8_159, gp_8_18, sh_seti, at_209_48, at_209_49, fl_8_7, gg_8_0, sf_199_0, sr_200, sn_200, at_209_52, ks_237, at_209_55, Go_iaload, at_209_56, Nat.reduceAdd, Nat.reduceMul, Nat.reduceLeDiff, Nat.reduceSub, decide_true, decide_false, Bool.toNat_true, Bool.toNat_false, not_true_eq_false, not_false_eq_true, ite_not, true_and, and_true, if_true, if_false, ↓reduceIte, Bool.or_true, Bool.true_or, Bool.or_false, bz0, e1]
      have f : ∀ o k', o ≠ 200 → ¬ (204 ≤ o ∧ o ≤ 206) → ¬ (o = 199 ∧ k' = 18) → ab_up I2 199 18 (nI 0) o k' = I o k' := fun o k' z1 z2 z3 => by
        unfold ab_up
        rw [if_neg z3, f3 _ _ z2, f1 _ _ (by omega)]
      refine K _ _ ⟨⟨PM_of (fun k' z1 z2 => by rw [fr_seti (by omega)]) oA.2.1 q2, PW_of (fun o k' z1 z2 => by rw [fr_seti (by omega)]) (PW_MP oA.2.2.2.2 f4)⟩, Mi_eq ok.2.1 (fun o k' z => ?_) h2, Mt_eq (fun o k' z => f o k' (by omega) (by omega) (by omega)) h3, (f _ _ (by omega) (by omega) (by omega)).trans h4, ⟨fr_sets, fun v t g r hv => by cases hv⟩, Ms_eq (fun o k' z1 z2 => f o k' (by omega) (by omega) (by omega)) h6, (f _ _ (by omega) (by omega) (by omega)).trans h7⟩ ⟨fun o k' hk => f o k' (by omega) (by omega) (by omega), fun _ _ _ => rfl⟩
      rcases z with ⟨rfl, z1, z2⟩ | rfl
      · rw [fr_seti (by omega), f3 _ _ (by omega), f1 _ _ (by omega)]
      · exact f _ _ (by omega) (by omega) (by omega)
  · rw [if_neg hx, il_out hx] at K
    have K0 := K _ _ hs Fr_r
    have w := in01 (eq_false hx)
    simp (disch := first | omega | assumption | exact own_209 | exact rt_209 | exact sr_199 | exact q_lt1 (hb _ _) | exact bt_lt _ | fail) only [own_209, rt_209, ab_kl_n, ab_kl_i, ab_kl_r, ab_kl_l, at_209_0, Go_iload_1, at_209_1, Go_i2l, at_209_2, Go_lconst, kl_0, at_209_3, kl_1, at_209_4, cl_8_71, cat_n, cat_i, cat_r, cat_l, tl_i, tl_l, tl_n, sh_same, jt_209_7, q_le, q_lt, q_eq, n_leT, n_leF, n_ltT, n_ltF, n_eqF, n_b0, at_209_10, Go_iconst, kc_m1, at_209_11, Go_reti, at_209_12, Go_aload_0, at_209_13, Go_getf, fl_8_56, gg_8_31, sh_ref, sh_rf, sr_199, sf_199_31, sr_215, sn_215, at_209_16, at_209_17, Go_baload, sh_ln, q_in, q_cl, jt_209_18, at_209_21, Go_bipush, kb_m2, at_209_23, at_209_24, at_209_25, Go_sipush, ks_238, at_209_28, at_209_29, Go_imul, q_mul, at_209_30, at_209_33, Go_iadd, q_add, Nat.zero_add, at_209_34, kc_0, at_209_35, cl_8_156, at_209_38, at_209_39, at_209_40, cl_8_153, at_209_43, at_209_44, at_209_45, Go_putf, fl_8_159, gp_8_18, sh_seti, at_209_48, at_209_49, fl_8_7, gg_8_0, sf_199_0, sr_200, sn_200, at_209_52, ks_237, at_209_55, Go_iaload, at_209_56, Nat.reduceAdd, Nat.reduceMul, Nat.reduceLeDiff, Nat.reduceSub, decide_true, decide_false, Bool.toNat_true, Bool.toNat_false, not_true_eq_false, not_false_eq_true, ite_not, true_and, and_true, if_true, if_false, ↓reduceIte, Bool.or_true, Bool.true_or, Bool.or_false, m_in, w]
    exact K0
end MKE
