/-! THE LAW'S PROGRAM: made, said, taken -/
section PSD
variable {xs : List Int32} {Q : Option Value → ab_H → Prop} {I3 I : Nat → Nat → Int32} {J3 J : Nat → Nat → Int64} {sh b : Nat} {X : Nat → Nat → Nat} {L : List Nat}
theorem y_en (g : GX sh X) (hx : HX sh X I3) (hb : b < X 0 0) (fy : FY I3 I J3 J) (sc : SC (tS L) I J) (hl : ∀ x ∈ L, x < 128) (hL : L.length + 10 ≤ 320) (w11 w13 w14 w15 : Option Value)
    (K : ∀ I' J' w13, FY I3 I' J3 J' → SC (tS (L ++ byts (enL X b))) I' J' → Gy xs (ab_at 145 677) 145 677 [some (.ref 0), some (.ref 2000), some (.int (nI 0)), some (.ref 199), some (.ref 200), some (.ref 201), some (.ref 202), some (.ref 203), some (.ref 204), some (.ref 208), some (.int (nI (X 0 0))), w11, some (.int (nI b)), w13, w14, w15] [] (SH ++ yE, I', J') Q) :
    Gy xs (ab_at 145 589) 145 589 [some (.ref 0), some (.ref 2000), some (.int (nI 0)), some (.ref 199), some (.ref 200), some (.ref 201), some (.ref 202), some (.ref 203), some (.ref 204), some (.ref 208), some (.int (nI (X 0 0))), w11, some (.int (nI b)), w13, w14, w15] [] (SH ++ yE, I, J) Q := by
  have hs := g.2.1
  have x := g.1
  have nb6 := x.1
  obtain ⟨x3, x4, x5⟩ := g.2.2.2.1 b hb
  obtain ⟨t2, t4, t5, t6⟩ := x.2.2.2.2.2.2.2 b hb
  have z0 := (fy.1 199 0 (by decide)).trans hx.1
  have b6 : b < 6 := by omega
  have sE := fun w (hw : w < 8) (h : ab_H) (Q : Option Value → ab_H → Prop) => y_shape (xs := xs) (h := h) (Q := Q) hs b6 hw
  rcases (by omega : X 3 b = 0 ∨ X 3 b = 1 ∨ X 3 b = 2) with c | c | c
  · have e1 : shT sh b 1 = 0 := by rw [← x3]; exact c
    have t4 := t4 (by omega)
    obtain ⟨w1, w2, -, w3, -⟩ := wB_m 9 (by decide)
    have w3 := w3 (by omega)
    obtain ⟨-, -, d2⟩ := dg_m (X 4 b) (by omega)
    have d2 := d2 (by omega)
    simp (disch := first | omega | assumption | exact yrt_145 | exact y_ok yE_ok (by decide) | fail) only [yrt_145, ab_kl_n, ab_kl_i, ab_kl_r, ab_kl_l, at_145_589, Gy_aload_3, at_145_590, Gy_iconst, kc_0, at_145_591, Gy_iaload, q_in, q_cl, at_145_592, Gy_iload_12, at_145_594, kc_1, at_145_595, cy_53, cat_n, cat_i, cat_r, cat_l, tl_i, tl_l, tl_n, y_sh, y_shh, at_145_598, Gy_istore_13, ab_put_int_13, at_145_600, Gy_aload_0, at_145_601, Gy_aload_9, at_145_603, Gy_bipush, kb_9, at_145_605, Gy_iload_13, at_145_607, Gy_iadd, q_add, Nat.zero_add, at_145_608, cy_85, Nat.reduceAdd, Nat.reduceMul, Nat.reduceLeDiff, Nat.reduceSub, decide_true, decide_false, Bool.toNat_true, Bool.toNat_false, not_true_eq_false, not_false_eq_true, ite_not, true_and, and_true, if_true, if_false, ↓reduceIte, Bool.or_true, Bool.true_or, Bool.or_false, ry_199 yE_ok, ny_199 yE_ok, ry_200 yE_ok, ny_200 yE_ok, ry_201 yE_ok, ny_201 yE_ok, ry_202 yE_ok, ny_202 yE_ok, ry_203 yE_ok, ny_203 yE_ok, ry_204 yE_ok, ny_204 yE_ok, Nat.reduceEqDiff, false_and, and_false, z0, sE, e1]
    refine y_line yE_ok (n := 9) (by decide) (by omega) hl sc fun I1 J1 s1 f1 => ?_
    have f1 := FY_t fy f1
    have z1 := (f1.1 199 0 (by decide)).trans hx.1
    simp (disch := first | omega | assumption | exact yrt_145 | exact y_ok yE_ok (by decide) | fail) only [yrt_145, ab_kl_n, ab_kl_i, ab_kl_r, ab_kl_l, at_145_608, cy_85, cat_n, cat_i, cat_r, cat_l, tl_i, tl_l, tl_n, y_sh, y_shh, at_145_611, Gy_iload_13, jy_145_613, q_le, q_lt, q_eq, n_leT, n_leF, n_ltT, n_ltF, n_eqF, n_b0, at_145_616, Gy_aload_0, at_145_617, Gy_aload_9, at_145_619, Gy_aload_8, at_145_621, Gy_iload_12, at_145_623, Gy_iaload, q_in, q_cl, at_145_624, cy_88, at_145_627, at_145_629, Gy_iconst, kc_2, jy_145_630, at_145_633, at_145_634, at_145_636, Gy_aload_3, at_145_637, kc_0, at_145_638, at_145_639, at_145_641, at_145_642, cy_53, at_145_645, Nat.reduceAdd, Nat.reduceMul, Nat.reduceLeDiff, Nat.reduceSub, decide_true, decide_false, Bool.toNat_true, Bool.toNat_false, not_true_eq_false, not_false_eq_true, ite_not, true_and, and_true, if_true, if_false, ↓reduceIte, Bool.or_true, Bool.true_or, Bool.or_false, ry_199 yE_ok, ny_199 yE_ok, ry_200 yE_ok, ny_200 yE_ok, ry_201 yE_ok, ny_201 yE_ok, ry_202 yE_ok, ny_202 yE_ok, ry_203 yE_ok, ny_203 yE_ok, ry_204 yE_ok, ny_204 yE_ok, Nat.reduceEqDiff, false_and, and_false, z1, sE, e1, ← x4]
    refine y_number yE_ok (v := X 4 b) (by omega) (by rw [List.length_append]; omega) (b_app hl w1) s1 fun I2 J2 s2 f2 => ?_
    have f2 := FY_t f1 f2
    simp (disch := first | omega | assumption | exact yrt_145 | exact y_ok yE_ok (by decide) | fail) only [yrt_145, ab_kl_n, ab_kl_i, ab_kl_r, ab_kl_l, at_145_645, cy_88, cat_n, cat_i, cat_r, cat_l, tl_i, tl_l, tl_n, y_sh, y_shh, at_145_648, Gy_iload_13, at_145_650, Gy_iconst, kc_1, jy_145_651, q_le, q_lt, q_eq, n_leT, n_leF, n_ltT, n_ltF, n_eqF, n_b0, at_145_654, Gy_aload_0, at_145_655, Gy_aload_9, at_145_657, Gy_aload_3, at_145_658, kc_0, at_145_659, Gy_iaload, q_in, q_cl, at_145_660, Gy_iload_12, at_145_662, kc_3, at_145_663, cy_53, at_145_666, at_145_669, at_145_670, at_145_672, Gy_bipush, kb_59, at_145_674, cy_15, Nat.reduceAdd, Nat.reduceMul, Nat.reduceLeDiff, Nat.reduceSub, decide_true, decide_false, Bool.toNat_true, Bool.toNat_false, not_true_eq_false, not_false_eq_true, ite_not, true_and, and_true, if_true, if_false, ↓reduceIte, Bool.or_true, Bool.true_or, Bool.or_false, ry_199 yE_ok, ny_199 yE_ok, ry_200 yE_ok, ny_200 yE_ok, ry_201 yE_ok, ny_201 yE_ok, ry_202 yE_ok, ny_202 yE_ok, ry_203 yE_ok, ny_203 yE_ok, ry_204 yE_ok, ny_204 yE_ok, Nat.reduceEqDiff, false_and, and_false]
    refine y_says yE_ok (by decide) (by simp only [List.length_append, List.length_cons]; omega) (b_app (b_app hl w1) (b_num (by omega))) s2 fun I5 J5 s5 f5 => ?_
    simp (disch := first | omega | assumption | exact yrt_145 | fail) only [yrt_145, ab_kl_n, ab_kl_i, ab_kl_r, ab_kl_l, at_145_674, cy_15, cat_n, cat_i, cat_r, cat_l, tl_i, tl_l, tl_n, y_sh, y_shh, Nat.reduceAdd, Nat.reduceMul, Nat.reduceLeDiff, Nat.reduceSub, decide_true, decide_false, Bool.toNat_true, Bool.toNat_false, not_true_eq_false, not_false_eq_true, ite_not, true_and, and_true, if_true, if_false, ↓reduceIte, Bool.or_true, Bool.true_or, Bool.or_false]
    refine K _ _ _ (FY_t f2 f5) ?_
    unfold enL
    rw [if_pos c, byts_w, byts_n, byts_s]
    simpa only [List.append_assoc] using s5
  · have e1 : shT sh b 1 = 1 := by rw [← x3]; exact c
    have t4 := t4 (by omega)
    have t5 := t5 (by omega)
    have t6 := t6 (by omega)
    obtain ⟨w1, w2, -, -, w3, -⟩ := wB_m 10 (by decide)
    have w3 := w3 rfl
    obtain ⟨-, d1, -⟩ := dg_m (X 6 b) (by omega)
    obtain ⟨-, -, d2⟩ := dg_m (X 4 b) (by omega)
    obtain ⟨-, -, d3⟩ := dg_m (X 5 b) (by omega)
    have d2 := d2 (by omega)
    have d3 := d3 (by omega)
    simp (disch := first | omega | assumption | exact yrt_145 | exact y_ok yE_ok (by decide) | fail) only [yrt_145, ab_kl_n, ab_kl_i, ab_kl_r, ab_kl_l, at_145_589, Gy_aload_3, at_145_590, Gy_iconst, kc_0, at_145_591, Gy_iaload, q_in, q_cl, at_145_592, Gy_iload_12, at_145_594, kc_1, at_145_595, cy_53, cat_n, cat_i, cat_r, cat_l, tl_i, tl_l, tl_n, y_sh, y_shh, at_145_598, Gy_istore_13, ab_put_int_13, at_145_600, Gy_aload_0, at_145_601, Gy_aload_9, at_145_603, Gy_bipush, kb_9, at_145_605, Gy_iload_13, at_145_607, Gy_iadd, q_add, Nat.zero_add, at_145_608, cy_85, Nat.reduceAdd, Nat.reduceMul, Nat.reduceLeDiff, Nat.reduceSub, decide_true, decide_false, Bool.toNat_true, Bool.toNat_false, not_true_eq_false, not_false_eq_true, ite_not, true_and, and_true, if_true, if_false, ↓reduceIte, Bool.or_true, Bool.true_or, Bool.or_false, ry_199 yE_ok, ny_199 yE_ok, ry_200 yE_ok, ny_200 yE_ok, ry_201 yE_ok, ny_201 yE_ok, ry_202 yE_ok, ny_202 yE_ok, ry_203 yE_ok, ny_203 yE_ok, ry_204 yE_ok, ny_204 yE_ok, Nat.reduceEqDiff, false_and, and_false, z0, sE, e1]
    refine y_line yE_ok (n := 10) (by decide) (by omega) hl sc fun I1 J1 s1 f1 => ?_
    have f1 := FY_t fy f1
    have z1 := (f1.1 204 b (by decide)).trans (hx.2.2.2 b hb (by omega))
    simp (disch := first | omega | assumption | exact yrt_145 | exact y_ok yE_ok (by decide) | fail) only [yrt_145, ab_kl_n, ab_kl_i, ab_kl_r, ab_kl_l, at_145_608, cy_85, cat_n, cat_i, cat_r, cat_l, tl_i, tl_l, tl_n, y_sh, y_shh, at_145_611, Gy_iload_13, jy_145_613, q_le, q_lt, q_eq, n_leT, n_leF, n_ltT, n_ltF, n_eqF, n_b0, at_145_616, Gy_aload_0, at_145_617, Gy_aload_9, at_145_619, Gy_aload_8, at_145_621, Gy_iload_12, at_145_623, Gy_iaload, q_in, q_cl, at_145_624, cy_88, Nat.reduceAdd, Nat.reduceMul, Nat.reduceLeDiff, Nat.reduceSub, decide_true, decide_false, Bool.toNat_true, Bool.toNat_false, not_true_eq_false, not_false_eq_true, ite_not, true_and, and_true, if_true, if_false, ↓reduceIte, Bool.or_true, Bool.true_or, Bool.or_false, ry_199 yE_ok, ny_199 yE_ok, ry_200 yE_ok, ny_200 yE_ok, ry_201 yE_ok, ny_201 yE_ok, ry_202 yE_ok, ny_202 yE_ok, ry_203 yE_ok, ny_203 yE_ok, ry_204 yE_ok, ny_204 yE_ok, Nat.reduceEqDiff, false_and, and_false, z1, e1]
    refine y_number yE_ok (v := X 6 b) (by omega) (by rw [List.length_append]; omega) (b_app hl w1) s1 fun I2 J2 s2 f2 => ?_
    have f2 := FY_t f1 f2
    have z2 := (f2.1 199 0 (by decide)).trans hx.1
    simp (disch := first | omega | assumption | exact yrt_145 | exact y_ok yE_ok (by decide) | fail) only [yrt_145, ab_kl_n, ab_kl_i, ab_kl_r, ab_kl_l, at_145_624, cy_88, cat_n, cat_i, cat_r, cat_l, tl_i, tl_l, tl_n, y_sh, y_shh, at_145_627, Gy_iload_13, at_145_629, Gy_iconst, kc_2, jy_145_630, q_le, q_lt, q_eq, n_leT, n_leF, n_ltT, n_ltF, n_eqF, n_b0, at_145_633, Gy_aload_0, at_145_634, Gy_aload_9, at_145_636, Gy_aload_3, at_145_637, kc_0, at_145_638, Gy_iaload, q_in, q_cl, at_145_639, Gy_iload_12, at_145_641, at_145_642, cy_53, at_145_645, Nat.reduceAdd, Nat.reduceMul, Nat.reduceLeDiff, Nat.reduceSub, decide_true, decide_false, Bool.toNat_true, Bool.toNat_false, not_true_eq_false, not_false_eq_true, ite_not, true_and, and_true, if_true, if_false, ↓reduceIte, Bool.or_true, Bool.true_or, Bool.or_false, ry_199 yE_ok, ny_199 yE_ok, ry_200 yE_ok, ny_200 yE_ok, ry_201 yE_ok, ny_201 yE_ok, ry_202 yE_ok, ny_202 yE_ok, ry_203 yE_ok, ny_203 yE_ok, ry_204 yE_ok, ny_204 yE_ok, Nat.reduceEqDiff, false_and, and_false, z2, sE, ← x4]
    refine y_number yE_ok (v := X 4 b) (by omega) (by simp only [List.length_append, List.length_cons]; omega) (b_app (b_app hl w1) (b_num (by omega))) s2 fun I3 J3 s3 f3 => ?_
    have f3 := FY_t f2 f3
    have z3 := (f3.1 199 0 (by decide)).trans hx.1
    simp (disch := first | omega | assumption | exact yrt_145 | exact y_ok yE_ok (by decide) | fail) only [yrt_145, ab_kl_n, ab_kl_i, ab_kl_r, ab_kl_l, at_145_645, cy_88, cat_n, cat_i, cat_r, cat_l, tl_i, tl_l, tl_n, y_sh, y_shh, at_145_648, Gy_iload_13, at_145_650, Gy_iconst, kc_1, jy_145_651, q_le, q_lt, q_eq, n_leT, n_leF, n_ltT, n_ltF, n_eqF, n_b0, at_145_654, Gy_aload_0, at_145_655, Gy_aload_9, at_145_657, Gy_aload_3, at_145_658, kc_0, at_145_659, Gy_iaload, q_in, q_cl, at_145_660, Gy_iload_12, at_145_662, kc_3, at_145_663, cy_53, at_145_666, Nat.reduceAdd, Nat.reduceMul, Nat.reduceLeDiff, Nat.reduceSub, decide_true, decide_false, Bool.toNat_true, Bool.toNat_false, not_true_eq_false, not_false_eq_true, ite_not, true_and, and_true, if_true, if_false, ↓reduceIte, Bool.or_true, Bool.true_or, Bool.or_false, ry_199 yE_ok, ny_199 yE_ok, ry_200 yE_ok, ny_200 yE_ok, ry_201 yE_ok, ny_201 yE_ok, ry_202 yE_ok, ny_202 yE_ok, ry_203 yE_ok, ny_203 yE_ok, ry_204 yE_ok, ny_204 yE_ok, Nat.reduceEqDiff, false_and, and_false, z3, sE, ← x5]
    refine y_number yE_ok (v := X 5 b) (by omega) (by simp only [List.length_append, List.length_cons]; omega) (b_app (b_app (b_app hl w1) (b_num (by omega))) (b_num (by omega))) s3 fun I4 J4 s4 f4 => ?_
    have f4 := FY_t f3 f4
    simp (disch := first | omega | assumption | exact yrt_145 | exact y_ok yE_ok (by decide) | fail) only [yrt_145, ab_kl_n, ab_kl_i, ab_kl_r, ab_kl_l, at_145_666, cy_88, cat_n, cat_i, cat_r, cat_l, tl_i, tl_l, tl_n, y_sh, y_shh, at_145_669, Gy_aload_0, at_145_670, Gy_aload_9, at_145_672, Gy_bipush, kb_59, at_145_674, cy_15, Nat.reduceAdd, Nat.reduceMul, Nat.reduceLeDiff, Nat.reduceSub, decide_true, decide_false, Bool.toNat_true, Bool.toNat_false, not_true_eq_false, not_false_eq_true, ite_not, true_and, and_true, if_true, if_false, ↓reduceIte, Bool.or_true, Bool.true_or, Bool.or_false, ry_199 yE_ok, ny_199 yE_ok, ry_200 yE_ok, ny_200 yE_ok, ry_201 yE_ok, ny_201 yE_ok, ry_202 yE_ok, ny_202 yE_ok, ry_203 yE_ok, ny_203 yE_ok, ry_204 yE_ok, ny_204 yE_ok, Nat.reduceEqDiff, false_and, and_false]
    refine y_says yE_ok (by decide) (by simp only [List.length_append, List.length_cons]; omega) (b_app (b_app (b_app (b_app hl w1) (b_num (by omega))) (b_num (by omega))) (b_num (by omega))) s4 fun I5 J5 s5 f5 => ?_
    simp (disch := first | omega | assumption | exact yrt_145 | fail) only [yrt_145, ab_kl_n, ab_kl_i, ab_kl_r, ab_kl_l, at_145_674, cy_15, cat_n, cat_i, cat_r, cat_l, tl_i, tl_l, tl_n, y_sh, y_shh, Nat.reduceAdd, Nat.reduceMul, Nat.reduceLeDiff, Nat.reduceSub, decide_true, decide_false, Bool.toNat_true, Bool.toNat_false, not_true_eq_false, not_false_eq_true, ite_not, true_and, and_true, if_true, if_false, ↓reduceIte, Bool.or_true, Bool.true_or, Bool.or_false]
    refine K _ _ _ (FY_t f4 f5) ?_
    unfold enL
    rw [if_neg (by omega), if_pos c, byts_w, byts_n, byts_n, byts_n, byts_s]
    simpa only [List.append_assoc] using s5
  · have e1 : shT sh b 1 = 2 := by rw [← x3]; exact c
    have t6 := t6 (by omega)
    obtain ⟨w1, w2, -, -, -, w3⟩ := wB_m 11 (by decide)
    have w3 := w3 rfl
    obtain ⟨-, d1, -⟩ := dg_m (X 6 b) (by omega)
    simp (disch := first | omega | assumption | exact yrt_145 | exact y_ok yE_ok (by decide) | fail) only [yrt_145, ab_kl_n, ab_kl_i, ab_kl_r, ab_kl_l, at_145_589, Gy_aload_3, at_145_590, Gy_iconst, kc_0, at_145_591, Gy_iaload, q_in, q_cl, at_145_592, Gy_iload_12, at_145_594, kc_1, at_145_595, cy_53, cat_n, cat_i, cat_r, cat_l, tl_i, tl_l, tl_n, y_sh, y_shh, at_145_598, Gy_istore_13, ab_put_int_13, at_145_600, Gy_aload_0, at_145_601, Gy_aload_9, at_145_603, Gy_bipush, kb_9, at_145_605, Gy_iload_13, at_145_607, Gy_iadd, q_add, Nat.zero_add, at_145_608, cy_85, Nat.reduceAdd, Nat.reduceMul, Nat.reduceLeDiff, Nat.reduceSub, decide_true, decide_false, Bool.toNat_true, Bool.toNat_false, not_true_eq_false, not_false_eq_true, ite_not, true_and, and_true, if_true, if_false, ↓reduceIte, Bool.or_true, Bool.true_or, Bool.or_false, ry_199 yE_ok, ny_199 yE_ok, ry_200 yE_ok, ny_200 yE_ok, ry_201 yE_ok, ny_201 yE_ok, ry_202 yE_ok, ny_202 yE_ok, ry_203 yE_ok, ny_203 yE_ok, ry_204 yE_ok, ny_204 yE_ok, Nat.reduceEqDiff, false_and, and_false, z0, sE, e1]
    refine y_line yE_ok (n := 11) (by decide) (by omega) hl sc fun I1 J1 s1 f1 => ?_
    have f1 := FY_t fy f1
    have z1 := (f1.1 204 b (by decide)).trans (hx.2.2.2 b hb (by omega))
    simp (disch := first | omega | assumption | exact yrt_145 | exact y_ok yE_ok (by decide) | fail) only [yrt_145, ab_kl_n, ab_kl_i, ab_kl_r, ab_kl_l, at_145_608, cy_85, cat_n, cat_i, cat_r, cat_l, tl_i, tl_l, tl_n, y_sh, y_shh, at_145_611, Gy_iload_13, jy_145_613, q_le, q_lt, q_eq, n_leT, n_leF, n_ltT, n_ltF, n_eqF, n_b0, at_145_616, Gy_aload_0, at_145_617, Gy_aload_9, at_145_619, Gy_aload_8, at_145_621, Gy_iload_12, at_145_623, Gy_iaload, q_in, q_cl, at_145_624, cy_88, Nat.reduceAdd, Nat.reduceMul, Nat.reduceLeDiff, Nat.reduceSub, decide_true, decide_false, Bool.toNat_true, Bool.toNat_false, not_true_eq_false, not_false_eq_true, ite_not, true_and, and_true, if_true, if_false, ↓reduceIte, Bool.or_true, Bool.true_or, Bool.or_false, ry_199 yE_ok, ny_199 yE_ok, ry_200 yE_ok, ny_200 yE_ok, ry_201 yE_ok, ny_201 yE_ok, ry_202 yE_ok, ny_202 yE_ok, ry_203 yE_ok, ny_203 yE_ok, ry_204 yE_ok, ny_204 yE_ok, Nat.reduceEqDiff, false_and, and_false, z1, e1]
    refine y_number yE_ok (v := X 6 b) (by omega) (by rw [List.length_append]; omega) (b_app hl w1) s1 fun I2 J2 s2 f2 => ?_
    have f2 := FY_t f1 f2
    simp (disch := first | omega | assumption | exact yrt_145 | exact y_ok yE_ok (by decide) | fail) only [yrt_145, ab_kl_n, ab_kl_i, ab_kl_r, ab_kl_l, at_145_624, cy_88, cat_n, cat_i, cat_r, cat_l, tl_i, tl_l, tl_n, y_sh, y_shh, at_145_627, Gy_iload_13, at_145_629, Gy_iconst, kc_2, jy_145_630, q_le, q_lt, q_eq, n_leT, n_leF, n_ltT, n_ltF, n_eqF, n_b0, at_145_633, Gy_aload_0, at_145_634, Gy_aload_9, at_145_636, Gy_aload_3, at_145_637, kc_0, at_145_638, Gy_iaload, q_in, q_cl, at_145_639, Gy_iload_12, at_145_641, at_145_642, cy_53, at_145_645, at_145_648, at_145_650, kc_1, jy_145_651, at_145_654, at_145_655, at_145_657, at_145_658, at_145_659, at_145_660, at_145_662, kc_3, at_145_663, at_145_666, at_145_669, at_145_670, at_145_672, Gy_bipush, kb_59, at_145_674, cy_15, Nat.reduceAdd, Nat.reduceMul, Nat.reduceLeDiff, Nat.reduceSub, decide_true, decide_false, Bool.toNat_true, Bool.toNat_false, not_true_eq_false, not_false_eq_true, ite_not, true_and, and_true, if_true, if_false, ↓reduceIte, Bool.or_true, Bool.true_or, Bool.or_false, ry_199 yE_ok, ny_199 yE_ok, ry_200 yE_ok, ny_200 yE_ok, ry_201 yE_ok, ny_201 yE_ok, ry_202 yE_ok, ny_202 yE_ok, ry_203 yE_ok, ny_203 yE_ok, ry_204 yE_ok, ny_204 yE_ok, Nat.reduceEqDiff, false_and, and_false]
    refine y_says yE_ok (by decide) (by simp only [List.length_append, List.length_cons]; omega) (b_app (b_app hl w1) (b_num (by omega))) s2 fun I5 J5 s5 f5 => ?_
    simp (disch := first | omega | assumption | exact yrt_145 | fail) only [yrt_145, ab_kl_n, ab_kl_i, ab_kl_r, ab_kl_l, at_145_674, cy_15, cat_n, cat_i, cat_r, cat_l, tl_i, tl_l, tl_n, y_sh, y_shh, Nat.reduceAdd, Nat.reduceMul, Nat.reduceLeDiff, Nat.reduceSub, decide_true, decide_false, Bool.toNat_true, Bool.toNat_false, not_true_eq_false, not_false_eq_true, ite_not, true_and, and_true, if_true, if_false, ↓reduceIte, Bool.or_true, Bool.true_or, Bool.or_false]
    refine K _ _ _ (FY_t f2 f5) ?_
    unfold enL
    rw [if_neg (by omega), if_neg (by omega), byts_w, byts_n, byts_s]
    simpa only [List.append_assoc] using s5
theorem y_blk (g : GX sh X) (hx : HX sh X I3) (w14 w15 : Option Value)
    (K : ∀ I' J' w11 w12 w13, FY I3 I' J3 J' → SC (tS (byts (txT X (X 0 0)))) I' J' → Gy xs (ab_at 145 683) 145 683 [some (.ref 0), some (.ref 2000), some (.int (nI 0)), some (.ref 199), some (.ref 200), some (.ref 201), some (.ref 202), some (.ref 203), some (.ref 204), some (.ref 208), some (.int (nI (X 0 0))), w11, w12, w13, w14, w15] [] (SH ++ yE, I', J') Q) :
    ∀ d c I J w13, c + d = X 0 0 → FY I3 I J3 J → SC (tS (byts (txT X c))) I J → Gy xs (ab_at 145 460) 145 460 [some (.ref 0), some (.ref 2000), some (.int (nI 0)), some (.ref 199), some (.ref 200), some (.ref 201), some (.ref 202), some (.ref 203), some (.ref 204), some (.ref 208), some (.int (nI (X 0 0))), some (.int (nI (fB X c))), some (.int (nI c)), w13, w14, w15] [] (SH ++ yE, I, J) Q := by
  have x := g.1
  have nb6 := x.1
  have n20 := x.2.1
  intro d
  induction d with
  | zero =>
    intro c I J w13 hd f sc
    have e : c = X 0 0 := by omega
    subst e
    rw [at_145_460]
    simp (disch := first | omega | assumption | exact yrt_145 | fail) only [yrt_145, ab_kl_n, ab_kl_i, ab_kl_r, ab_kl_l, Gy_iload_12, at_145_462, Gy_iload_10, jy_145_464, q_le, q_lt, q_eq, n_leT, n_leF, n_ltT, n_ltF, n_eqF, n_b0, Nat.reduceAdd, Nat.reduceMul, Nat.reduceLeDiff, Nat.reduceSub, decide_true, decide_false, Bool.toNat_true, Bool.toNat_false, not_true_eq_false, not_false_eq_true, ite_not, true_and, and_true, if_true, if_false, ↓reduceIte, Bool.or_true, Bool.true_or, Bool.or_false]
    exact K I J _ _ _ f sc
  | succ d ih =>
    intro c I J w13 hd f sc
    have hc : c < X 0 0 := by omega
    obtain ⟨t1, t2⟩ := txT_len x c (by omega)
    have fl := fB_lt (X := X) hc
    have e1 := x.2.2.2.1 c hc
    have e2 := x.2.2.1
    obtain ⟨w1, w2, -⟩ := wB_m 8 (by decide)
    obtain ⟨n1, n2⟩ := nmsT_len x (f := X 1 c) (X 2 c) (by omega)
    rw [at_145_460]
    simp (disch := first | omega | assumption | exact yrt_145 | exact y_ok yE_ok (by decide) | fail) only [yrt_145, ab_kl_n, ab_kl_i, ab_kl_r, ab_kl_l, Gy_iload_12, at_145_462, Gy_iload_10, jy_145_464, q_le, q_lt, q_eq, n_leT, n_leF, n_ltT, n_ltF, n_eqF, n_b0, at_145_467, Gy_aload_0, at_145_468, Gy_aload_9, at_145_470, Gy_bipush, kb_8, at_145_472, cy_85, cat_n, cat_i, cat_r, cat_l, tl_i, tl_l, tl_n, y_sh, y_shh, Nat.reduceAdd, Nat.reduceMul, Nat.reduceLeDiff, Nat.reduceSub, decide_true, decide_false, Bool.toNat_true, Bool.toNat_false, not_true_eq_false, not_false_eq_true, ite_not, true_and, and_true, if_true, if_false, ↓reduceIte, Bool.or_true, Bool.true_or, Bool.or_false, ry_199 yE_ok, ny_199 yE_ok, ry_200 yE_ok, ny_200 yE_ok, ry_201 yE_ok, ny_201 yE_ok, ry_202 yE_ok, ny_202 yE_ok, ry_203 yE_ok, ny_203 yE_ok, ry_204 yE_ok, ny_204 yE_ok, Nat.reduceEqDiff, false_and, and_false]
    refine y_line yE_ok (n := 8) (by decide) (by omega) t2 sc fun I1 J1 s1 f1 => ?_
    have f1 := FY_t f f1
    simp (disch := first | omega | assumption | exact yrt_145 | exact y_ok yE_ok (by decide) | fail) only [yrt_145, ab_kl_n, ab_kl_i, ab_kl_r, ab_kl_l, at_145_472, cy_85, cat_n, cat_i, cat_r, cat_l, tl_i, tl_l, tl_n, y_sh, y_shh, at_145_475, Gy_aload_0, at_145_476, Gy_aload_9, at_145_478, Gy_bipush, kb_59, at_145_480, cy_15, Nat.reduceAdd, Nat.reduceMul, Nat.reduceLeDiff, Nat.reduceSub, decide_true, decide_false, Bool.toNat_true, Bool.toNat_false, not_true_eq_false, not_false_eq_true, ite_not, true_and, and_true, if_true, if_false, ↓reduceIte, Bool.or_true, Bool.true_or, Bool.or_false, ry_199 yE_ok, ny_199 yE_ok, ry_200 yE_ok, ny_200 yE_ok, ry_201 yE_ok, ny_201 yE_ok, ry_202 yE_ok, ny_202 yE_ok, ry_203 yE_ok, ny_203 yE_ok, ry_204 yE_ok, ny_204 yE_ok, Nat.reduceEqDiff, false_and, and_false]
    refine y_says yE_ok (by decide) (by rw [List.length_append]; omega) (b_app t2 w1) s1 fun I2 J2 s2 f2 => ?_
    have f2 := FY_t f1 f2
    simp (disch := first | omega | assumption | exact yrt_145 | fail) only [yrt_145, ab_kl_n, ab_kl_i, ab_kl_r, ab_kl_l, at_145_480, cy_15, cat_n, cat_i, cat_r, cat_l, tl_i, tl_l, tl_n, y_sh, y_shh, Nat.reduceAdd, Nat.reduceMul, Nat.reduceLeDiff, Nat.reduceSub, decide_true, decide_false, Bool.toNat_true, Bool.toNat_false, not_true_eq_false, not_false_eq_true, ite_not, true_and, and_true, if_true, if_false, ↓reduceIte, Bool.or_true, Bool.true_or, Bool.or_false]
    have hd6 := hd_len.1
    have eH : byts (txT X c) ++ wB 8 ++ [59] = byts (txT X c ++ (hdL ++ nmsT X (X 1 c) 0)) := by
      show _ = byts (txT X c ++ (hdL ++ []))
      rw [byts_app, byts_app, byts_nil, List.append_nil, List.append_assoc]
      rfl
    rw [eH] at s2
    rw [← e1]
    refine y_nms g hx hc (by rw [byts_app, List.length_append]; omega) w13 w14 w15 (fun I4 J4 f4 s4 => ?_) (X 2 c) 0 I2 J2 (Nat.zero_add _) f2 s2
    refine y_en g hx hc f4 s4 ?_ ?_ _ _ _ _ fun I5 J5 w13 f5 s5 => ?_
    · rw [byts_app, byts_app]; exact b_app t2 (b_app hd_len.2 n2)
    · rw [byts_app, byts_app, List.length_append, List.length_append]; omega
    · simp (disch := first | omega | assumption | exact yrt_145 | fail) only [yrt_145, ab_kl_n, ab_kl_i, ab_kl_r, ab_kl_l, at_145_677, Gy_iinc_12, ab_put_int_12, kc_1, q_add, jy_145_680, Nat.reduceAdd, Nat.reduceMul, Nat.reduceLeDiff, Nat.reduceSub, decide_true, decide_false, Bool.toNat_true, Bool.toNat_false, not_true_eq_false, not_false_eq_true, ite_not, true_and, and_true, if_true, if_false, ↓reduceIte, Bool.or_true, Bool.true_or, Bool.or_false]
      rw [e1]
      refine ih (c + 1) I5 J5 _ (by omega) f5 ?_
      have e : byts (txT X (c + 1)) = byts (txT X c ++ (hdL ++ nmsT X (X 1 c) (X 2 c))) ++ byts (enL X c) := by
        show byts (txT X c ++ (hdL ++ (nmsT X (X 1 c) (X 2 c) ++ enL X c))) = _
        simp only [byts_app, List.append_assoc]
      rw [e]
      exact s5
/-- a program was taken -/
def PRG (s : VS) : Prop := OS s ∧ OZ (v_a s) ∧ 0 < v_a s 0 1 ∧ (∀ n, n < v_a s 0 1 → v_a s 10 n ≤ 7) ∧ v_im s = (fun _ => none) ∧ v_ru s = none
theorem y_pend (g : GX sh X) (hx : HX sh X I3) (fy : FY I3 I J3 J) (sc : SC (tS (byts (txT X (X 0 0)))) I J) (w11 w12 w13 w14 w15 : Option Value)
    (K : ∀ I' J' s, PRG s → SC s I' J' → FY I3 I' J3 J' → Q (some (.int (nI 1))) (SH ++ yE, I', J')) : Gy xs (ab_at 145 683) 145 683 [some (.ref 0), some (.ref 2000), some (.int (nI 0)), some (.ref 199), some (.ref 200), some (.ref 201), some (.ref 202), some (.ref 203), some (.ref 204), some (.ref 208), some (.int (nI (X 0 0))), w11, w12, w13, w14, w15] [] (SH ++ yE, I, J) Q := by
  have x := g.1
  have nb6 := x.1
  have n20 := x.2.1
  obtain ⟨t1, t2⟩ := txT_len x (X 0 0) (Nat.le_refl _)
  have e2 := x.2.2.1
  have ok := tS_ok (L := byts (txT X (X 0 0))) (by omega) t2
  simp (disch := first | omega | assumption | exact yrt_145 | exact y_ok yE_ok (by decide) | fail) only [yrt_145, ab_kl_n, ab_kl_i, ab_kl_r, ab_kl_l, at_145_683, Gy_aload_0, at_145_684, Gy_aload_9, at_145_686, cy_91, cat_n, cat_i, cat_r, cat_l, tl_i, tl_l, tl_n, y_sh, y_shh, Nat.reduceAdd, Nat.reduceMul, Nat.reduceLeDiff, Nat.reduceSub, decide_true, decide_false, Bool.toNat_true, Bool.toNat_false, not_true_eq_false, not_false_eq_true, ite_not, true_and, and_true, if_true, if_false, ↓reduceIte, Bool.or_true, Bool.true_or, Bool.or_false, ry_199 yE_ok, ny_199 yE_ok, ry_200 yE_ok, ny_200 yE_ok, ry_201 yE_ok, ny_201 yE_ok, ry_202 yE_ok, ny_202 yE_ok, ry_203 yE_ok, ny_203 yE_ok, ry_204 yE_ok, ny_204 yE_ok, Nat.reduceEqDiff, false_and, and_false, ey_137]
  simp (disch := first | omega | assumption | exact yrt_137 | exact y_ref0 | fail) only [yrt_137, ab_kl_n, ab_kl_i, ab_kl_r, ab_kl_l, at_137_0, Gy_aload_1, at_137_1, Gy_iconst, kc_0, at_137_2, at_137_3, Gy_iastore, q_in, q_cl, y_seti, at_137_4, Gy_aload_0, at_137_5, cy_21, cat_n, cat_i, cat_r, cat_l, tl_i, tl_l, tl_n, y_sh, y_shh, Nat.reduceAdd, Nat.reduceMul, Nat.reduceLeDiff, Nat.reduceSub, decide_true, decide_false, Bool.toNat_true, Bool.toNat_false, not_true_eq_false, not_false_eq_true, ite_not, true_and, and_true, if_true, if_false, ↓reduceIte, Bool.or_true, Bool.true_or, Bool.or_false, ry_208 yE_ok, ny_208 yE_ok]
  have sc1 : SC (tS (byts (txT X (X 0 0)))) (ab_up I 208 0 (nI 0)) J := SC_fr ok ⟨fun o k ho => congrFun (ab_up_other _ _ _ (by omega)) k, fun o k ho => rfl⟩ sc
  have fy1 : FY I3 (ab_up I 208 0 (nI 0)) J3 J := FY_t fy ⟨fun o k ho => congrFun (ab_up_other _ _ _ (by omega)) k, fun _ _ _ => rfl⟩
  obtain ⟨B, b1, b2, b3, b4, b5⟩ := text_X g (s := tS (byts (txT X (X 0 0)))) ⟨rfl, rfl⟩ ok
  refine Ey_of (C_text ok sc1 (HW_ok ok.2.2.1.1 ok.2.2.1.2 J) fun I2 J2 s2 f2 => ⟨I2, J2, rfl, ?_⟩)
  have ok2 := OS_text ok
  have f2 := FY_t fy1 ⟨fun o k ho => f2.1 o k ho.1, fun o k ho => f2.2 o k ho.1⟩
  rw [b5]
  simp (disch := first | omega | assumption | exact yrt_137 | fail) only [yrt_137, ab_kl_n, ab_kl_i, ab_kl_r, ab_kl_l, at_137_5, cy_21, cat_n, cat_i, cat_r, cat_l, tl_i, tl_l, tl_n, y_sh, y_shh, at_137_8, Gy_reti, Nat.reduceAdd, Nat.reduceMul, Nat.reduceLeDiff, Nat.reduceSub, decide_true, decide_false, Bool.toNat_true, Bool.toNat_false, not_true_eq_false, not_false_eq_true, ite_not, true_and, and_true, if_true, if_false, ↓reduceIte, Bool.or_true, Bool.true_or, Bool.or_false]
  have g1 := (f2.1 199 1 (by decide)).trans hx.2.1
  simp (disch := first | omega | assumption | exact yrt_145 | exact y_ref0 | fail) only [yrt_145, ab_kl_n, ab_kl_i, ab_kl_r, ab_kl_l, at_145_686, cy_91, cat_n, cat_i, cat_r, cat_l, tl_i, tl_l, tl_n, y_sh, y_shh, at_145_689, Gy_aload_3, at_145_690, Gy_iconst, kc_1, at_145_691, Gy_iaload, q_in, q_cl, jy_145_692, q_le, q_lt, q_eq, n_leT, n_leF, n_ltT, n_ltF, n_eqF, n_b0, at_145_695, Gy_aload_0, at_145_696, cy_95, Nat.reduceAdd, Nat.reduceMul, Nat.reduceLeDiff, Nat.reduceSub, decide_true, decide_false, Bool.toNat_true, Bool.toNat_false, not_true_eq_false, not_false_eq_true, ite_not, true_and, and_true, if_true, if_false, ↓reduceIte, Bool.or_true, Bool.true_or, Bool.or_false, ry_199 yE_ok, ny_199 yE_ok, ry_200 yE_ok, ny_200 yE_ok, ry_201 yE_ok, ny_201 yE_ok, ry_202 yE_ok, ny_202 yE_ok, ry_203 yE_ok, ny_203 yE_ok, ry_204 yE_ok, ny_204 yE_ok, Nat.reduceEqDiff, false_and, and_false, g1]
  refine Ey_of ?_
  have eft : v_ft (n_text (tS (byts (txT X (X 0 0))))) = 0 := by rw [b4]; rfl
  rw [C_fault s2, eft]
  refine ⟨I2, J2, rfl, ?_⟩
  simp (disch := first | omega | assumption | exact yrt_145 | fail) only [yrt_145, ab_kl_n, ab_kl_i, ab_kl_r, ab_kl_l, at_145_696, cy_95, cat_n, cat_i, cat_r, cat_l, tl_i, tl_l, tl_n, y_sh, y_shh, jy_145_699, q_le, q_lt, q_eq, n_leT, n_leF, n_ltT, n_ltF, n_eqF, n_b0, at_145_702, Gy_iconst, kc_1, jy_145_703, at_145_706, kc_0, at_145_707, Gy_retb, Gy_retb0, Gy_retb1, Nat.reduceAdd, Nat.reduceMul, Nat.reduceLeDiff, Nat.reduceSub, decide_true, decide_false, Bool.toNat_true, Bool.toNat_false, not_true_eq_false, not_false_eq_true, ite_not, true_and, and_true, if_true, if_false, ↓reduceIte, Bool.or_true, Bool.true_or, Bool.or_false]
  refine K I2 J2 _ ⟨ok2, ?_, ?_, ?_, ?_, ?_⟩ s2 f2
  · rw [b4]; exact b1
  · rw [b4]; show 0 < B 0 1; rw [b2]; exact g.2.2.2.2.2.2
  · rw [b4]; exact b3
  · rw [b4]; rfl
  · rw [b4]; rfl
end PSD
