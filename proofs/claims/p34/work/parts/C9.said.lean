/-! THE LAW'S PROGRAM: it is said -/
section SPK
variable {xs : List Int32} {Q : Option Value → ab_H → Prop} {I3 I : Nat → Nat → Int32} {J3 J : Nat → Nat → Int64} {sh n b : Nat} {X : Nat → Nat → Nat} {L : List Nat}
theorem y_nm (x : XP X) (hx : HX sh X I3) (hn : n < X 0 1) (fy : FY I3 I J3 J) (sc : SC (tS L) I J) (hb : ∀ x ∈ L, x < 128) (hL : L.length + 11 ≤ 320) (w12 w13 w14 w15 : Option Value)
    (K : ∀ I' J', FY I3 I' J3 J' → SC (tS (L ++ byts (nmL X n))) I' J' → Gy xs (ab_at 145 583) 145 583 [some (.ref 0), some (.ref 2000), some (.int (nI 0)), some (.ref 199), some (.ref 200), some (.ref 201), some (.ref 202), some (.ref 203), some (.ref 204), some (.ref 208), some (.int (nI (X 0 0))), some (.int (nI n)), w12, w13, w14, w15] [] (SH ++ yE, I', J') Q) :
    Gy xs (ab_at 145 501) 145 501 [some (.ref 0), some (.ref 2000), some (.int (nI 0)), some (.ref 199), some (.ref 200), some (.ref 201), some (.ref 202), some (.ref 203), some (.ref 204), some (.ref 208), some (.int (nI (X 0 0))), some (.int (nI n)), w12, w13, w14, w15] [] (SH ++ yE, I, J) Q := by
  obtain ⟨k7, -, -, -, v0, v1, p⟩ := x.2.2.2.2.2.1 n hn
  obtain ⟨z10, -, z13, z14⟩ := hx.2.2.1 n hn
  obtain ⟨w1, -, w2, -⟩ := wB_m (X 10 n) (by omega)
  have w2 := w2 (by omega)
  have n20 := x.2.1
  have g := fy.1 200 n (by decide)
  have l59 : ∀ (M : List Nat), (M ++ [59]).length = M.length + 1 := fun M => by rw [List.length_append]; rfl
  simp (disch := first | omega | assumption | exact yrt_145 | exact y_ok yE_ok (by decide) | fail) only [yrt_145, ab_kl_n, ab_kl_i, ab_kl_r, ab_kl_l, at_145_501, Gy_aload_0, at_145_502, Gy_aload_9, at_145_504, Gy_aload_4, at_145_506, Gy_iload_11, at_145_508, Gy_iaload, q_in, q_cl, at_145_509, cy_85, cat_n, cat_i, cat_r, cat_l, tl_i, tl_l, tl_n, y_sh, y_shh, Nat.reduceAdd, Nat.reduceMul, Nat.reduceLeDiff, Nat.reduceSub, decide_true, decide_false, Bool.toNat_true, Bool.toNat_false, not_true_eq_false, not_false_eq_true, ite_not, true_and, and_true, if_true, if_false, ↓reduceIte, Bool.or_true, Bool.true_or, Bool.or_false, ry_199 yE_ok, ny_199 yE_ok, ry_200 yE_ok, ny_200 yE_ok, ry_201 yE_ok, ny_201 yE_ok, ry_202 yE_ok, ny_202 yE_ok, ry_203 yE_ok, ny_203 yE_ok, ry_204 yE_ok, ny_204 yE_ok, Nat.reduceEqDiff, false_and, and_false, g, z10]
  refine y_line yE_ok (by omega) (by omega) hb sc fun I1 J1 s1 f1 => ?_
  have f1 := FY_t fy f1
  have g1 := f1.1 200 n (by decide)
  by_cases c : X 10 n ≤ 1
  · have hv : X 13 n ≤ 99 := by rcases (by omega : X 10 n = 0 ∨ X 10 n = 1) with z | z; exact v0 z; have := v1 z; omega
    obtain ⟨d1, d2, -⟩ := dg_m _ hv
    have z13 := z13 c
    have g2 := f1.1 202 n (by decide)
    have c1 : X 10 n < 2 := by omega
    have c2 : ¬ 2 ≤ X 10 n := by omega
    have c3 : ¬ 1 < X 10 n := by omega
    simp (disch := first | omega | assumption | exact yrt_145 | exact y_ok yE_ok (by decide) | fail) only [yrt_145, ab_kl_n, ab_kl_i, ab_kl_r, ab_kl_l, at_145_509, cy_85, cat_n, cat_i, cat_r, cat_l, tl_i, tl_l, tl_n, y_sh, y_shh, at_145_512, Gy_aload_0, at_145_513, Gy_aload_9, at_145_515, Gy_aload_4, at_145_517, Gy_iload_11, at_145_519, Gy_iaload, q_in, q_cl, at_145_520, Gy_iconst, kc_2, jy_145_521, q_le, q_lt, q_eq, n_leT, n_leF, n_ltT, n_ltF, n_eqF, n_b0, at_145_524, Gy_aload_6, at_145_526, at_145_528, jy_145_529, at_145_532, Gy_aload_7, at_145_534, at_145_535, at_145_537, Gy_imul, q_mul, at_145_538, at_145_539, cy_88, Nat.reduceAdd, Nat.reduceMul, Nat.reduceLeDiff, Nat.reduceSub, decide_true, decide_false, Bool.toNat_true, Bool.toNat_false, not_true_eq_false, not_false_eq_true, ite_not, true_and, and_true, if_true, if_false, ↓reduceIte, Bool.or_true, Bool.true_or, Bool.or_false, ry_199 yE_ok, ny_199 yE_ok, ry_200 yE_ok, ny_200 yE_ok, ry_201 yE_ok, ny_201 yE_ok, ry_202 yE_ok, ny_202 yE_ok, ry_203 yE_ok, ny_203 yE_ok, ry_204 yE_ok, ny_204 yE_ok, Nat.reduceEqDiff, false_and, and_false, g1, z10, g2, z13, c, c1, c2]
    refine y_number yE_ok hv (by rw [List.length_append]; omega) (b_app hb w1) s1 fun I2 J2 s2 f2 => ?_
    have f2 := FY_t f1 f2
    have g3 := f2.1 200 n (by decide)
    simp (disch := first | omega | assumption | exact yrt_145 | exact y_ok yE_ok (by decide) | fail) only [yrt_145, ab_kl_n, ab_kl_i, ab_kl_r, ab_kl_l, at_145_539, cy_88, cat_n, cat_i, cat_r, cat_l, tl_i, tl_l, tl_n, y_sh, y_shh, at_145_542, Gy_aload_4, at_145_544, Gy_iload_11, at_145_546, Gy_iaload, q_in, q_cl, at_145_547, Gy_iconst, kc_1, jy_145_548, q_le, q_lt, q_eq, n_leT, n_leF, n_ltT, n_ltF, n_eqF, n_b0, at_145_551, at_145_553, at_145_555, at_145_556, kc_4, jy_145_557, at_145_560, Gy_aload_0, at_145_561, Gy_aload_9, at_145_563, Gy_aload_7, at_145_565, kc_2, at_145_566, at_145_568, Gy_imul, q_mul, at_145_569, at_145_570, Gy_iadd, q_add, Nat.zero_add, at_145_571, at_145_572, at_145_575, at_145_576, at_145_578, Gy_bipush, kb_59, at_145_580, cy_15, Nat.reduceAdd, Nat.reduceMul, Nat.reduceLeDiff, Nat.reduceSub, decide_true, decide_false, Bool.toNat_true, Bool.toNat_false, not_true_eq_false, not_false_eq_true, ite_not, true_and, and_true, if_true, if_false, ↓reduceIte, Bool.or_true, Bool.true_or, Bool.or_false, ry_199 yE_ok, ny_199 yE_ok, ry_200 yE_ok, ny_200 yE_ok, ry_201 yE_ok, ny_201 yE_ok, ry_202 yE_ok, ny_202 yE_ok, ry_203 yE_ok, ny_203 yE_ok, ry_204 yE_ok, ny_204 yE_ok, Nat.reduceEqDiff, false_and, and_false, g3, z10, c, c1, c2, c3]
    refine y_says yE_ok (by decide) (by rw [List.length_append, List.length_append, List.length_cons]; omega) (b_app (b_app hb w1) (b_num hv)) s2 fun I4 J4 s4 f4 => ?_
    simp (disch := first | omega | assumption | exact yrt_145 | fail) only [yrt_145, ab_kl_n, ab_kl_i, ab_kl_r, ab_kl_l, at_145_580, cy_15, cat_n, cat_i, cat_r, cat_l, tl_i, tl_l, tl_n, y_sh, y_shh, Nat.reduceAdd, Nat.reduceMul, Nat.reduceLeDiff, Nat.reduceSub, decide_true, decide_false, Bool.toNat_true, Bool.toNat_false, not_true_eq_false, not_false_eq_true, ite_not, true_and, and_true, if_true, if_false, ↓reduceIte, Bool.or_true, Bool.true_or, Bool.or_false]
    refine K _ _ (FY_t f2 f4) ?_
    unfold nmL
    rw [if_pos c, byts_w, byts_n, byts_s]
    simpa only [List.append_assoc] using s4
  · obtain ⟨p0, p1⟩ := p (by omega)
    have z14 := z14 (by omega)
    have q0 := z14 0 (by decide)
    have q1 := z14 1 (by decide)
    rw [Nat.add_zero, Nat.add_zero] at q0
    have g2 := f1.1 203 (2 * n) (by decide)
    obtain ⟨d1, d2, -⟩ := dg_m (X 14 (6 * n)) (by omega)
    obtain ⟨e1, e2, -⟩ := dg_m (X 14 (6 * n + 1)) (by omega)
    have c1 : ¬ X 10 n < 2 := by omega
    have c2 : 2 ≤ X 10 n := by omega
    have c3 : 1 < X 10 n := by omega
    simp (disch := first | omega | assumption | exact yrt_145 | exact y_ok yE_ok (by decide) | fail) only [yrt_145, ab_kl_n, ab_kl_i, ab_kl_r, ab_kl_l, at_145_509, cy_85, cat_n, cat_i, cat_r, cat_l, tl_i, tl_l, tl_n, y_sh, y_shh, at_145_512, Gy_aload_0, at_145_513, Gy_aload_9, at_145_515, Gy_aload_4, at_145_517, Gy_iload_11, at_145_519, Gy_iaload, q_in, q_cl, at_145_520, Gy_iconst, kc_2, jy_145_521, q_le, q_lt, q_eq, n_leT, n_leF, n_ltT, n_ltF, n_eqF, n_b0, at_145_524, Gy_aload_6, at_145_526, at_145_528, jy_145_529, at_145_532, Gy_aload_7, at_145_534, at_145_535, at_145_537, Gy_imul, q_mul, at_145_538, at_145_539, cy_88, Nat.reduceAdd, Nat.reduceMul, Nat.reduceLeDiff, Nat.reduceSub, decide_true, decide_false, Bool.toNat_true, Bool.toNat_false, not_true_eq_false, not_false_eq_true, ite_not, true_and, and_true, if_true, if_false, ↓reduceIte, Bool.or_true, Bool.true_or, Bool.or_false, ry_199 yE_ok, ny_199 yE_ok, ry_200 yE_ok, ny_200 yE_ok, ry_201 yE_ok, ny_201 yE_ok, ry_202 yE_ok, ny_202 yE_ok, ry_203 yE_ok, ny_203 yE_ok, ry_204 yE_ok, ny_204 yE_ok, Nat.reduceEqDiff, false_and, and_false, g1, z10, g2, q0, c, c1, c2]
    refine y_number yE_ok (show X 14 (6 * n) ≤ 99 by omega) (by rw [List.length_append]; omega) (b_app hb w1) s1 fun I2 J2 s2 f2 => ?_
    have f2 := FY_t f1 f2
    have g3 := f2.1 200 n (by decide)
    have g4 := f2.1 203 (2 * n + 1) (by decide)
    by_cases c4 : X 10 n = 4
    · simp (disch := first | omega | assumption | exact yrt_145 | exact y_ok yE_ok (by decide) | fail) only [yrt_145, ab_kl_n, ab_kl_i, ab_kl_r, ab_kl_l, at_145_539, cy_88, cat_n, cat_i, cat_r, cat_l, tl_i, tl_l, tl_n, y_sh, y_shh, at_145_542, Gy_aload_4, at_145_544, Gy_iload_11, at_145_546, Gy_iaload, q_in, q_cl, at_145_547, Gy_iconst, kc_1, jy_145_548, q_le, q_lt, q_eq, n_leT, n_leF, n_ltT, n_ltF, n_eqF, n_b0, at_145_551, at_145_553, at_145_555, at_145_556, kc_4, jy_145_557, at_145_560, Gy_aload_0, at_145_561, Gy_aload_9, at_145_563, Gy_aload_7, at_145_565, kc_2, at_145_566, at_145_568, Gy_imul, q_mul, at_145_569, at_145_570, Gy_iadd, q_add, Nat.zero_add, at_145_571, at_145_572, at_145_575, at_145_576, at_145_578, Gy_bipush, kb_59, at_145_580, cy_15, Nat.reduceAdd, Nat.reduceMul, Nat.reduceLeDiff, Nat.reduceSub, decide_true, decide_false, Bool.toNat_true, Bool.toNat_false, not_true_eq_false, not_false_eq_true, ite_not, true_and, and_true, if_true, if_false, ↓reduceIte, Bool.or_true, Bool.true_or, Bool.or_false, ry_199 yE_ok, ny_199 yE_ok, ry_200 yE_ok, ny_200 yE_ok, ry_201 yE_ok, ny_201 yE_ok, ry_202 yE_ok, ny_202 yE_ok, ry_203 yE_ok, ny_203 yE_ok, ry_204 yE_ok, ny_204 yE_ok, Nat.reduceEqDiff, false_and, and_false, g3, z10, c, c1, c2, c3, c4]
      refine y_says yE_ok (by decide) (by rw [List.length_append, List.length_append, List.length_cons]; omega) (b_app (b_app hb w1) (b_num (by omega))) s2 fun I4 J4 s4 f4 => ?_
      simp (disch := first | omega | assumption | exact yrt_145 | fail) only [yrt_145, ab_kl_n, ab_kl_i, ab_kl_r, ab_kl_l, at_145_580, cy_15, cat_n, cat_i, cat_r, cat_l, tl_i, tl_l, tl_n, y_sh, y_shh, Nat.reduceAdd, Nat.reduceMul, Nat.reduceLeDiff, Nat.reduceSub, decide_true, decide_false, Bool.toNat_true, Bool.toNat_false, not_true_eq_false, not_false_eq_true, ite_not, true_and, and_true, if_true, if_false, ↓reduceIte, Bool.or_true, Bool.true_or, Bool.or_false]
      refine K _ _ (FY_t f2 f4) ?_
      unfold nmL
      rw [if_neg c, if_pos c4, byts_w, byts_n, byts_s]
      simpa only [List.append_assoc] using s4
    · simp (disch := first | omega | assumption | exact yrt_145 | exact y_ok yE_ok (by decide) | fail) only [yrt_145, ab_kl_n, ab_kl_i, ab_kl_r, ab_kl_l, at_145_539, cy_88, cat_n, cat_i, cat_r, cat_l, tl_i, tl_l, tl_n, y_sh, y_shh, at_145_542, Gy_aload_4, at_145_544, Gy_iload_11, at_145_546, Gy_iaload, q_in, q_cl, at_145_547, Gy_iconst, kc_1, jy_145_548, q_le, q_lt, q_eq, n_leT, n_leF, n_ltT, n_ltF, n_eqF, n_b0, at_145_551, at_145_553, at_145_555, at_145_556, kc_4, jy_145_557, at_145_560, Gy_aload_0, at_145_561, Gy_aload_9, at_145_563, Gy_aload_7, at_145_565, kc_2, at_145_566, at_145_568, Gy_imul, q_mul, at_145_569, at_145_570, Gy_iadd, q_add, Nat.zero_add, at_145_571, at_145_572, Nat.reduceAdd, Nat.reduceMul, Nat.reduceLeDiff, Nat.reduceSub, decide_true, decide_false, Bool.toNat_true, Bool.toNat_false, not_true_eq_false, not_false_eq_true, ite_not, true_and, and_true, if_true, if_false, ↓reduceIte, Bool.or_true, Bool.true_or, Bool.or_false, ry_199 yE_ok, ny_199 yE_ok, ry_200 yE_ok, ny_200 yE_ok, ry_201 yE_ok, ny_201 yE_ok, ry_202 yE_ok, ny_202 yE_ok, ry_203 yE_ok, ny_203 yE_ok, ry_204 yE_ok, ny_204 yE_ok, Nat.reduceEqDiff, false_and, and_false, g3, g4, q1, z10, c, c1, c2, c3, c4]
      refine y_number yE_ok (show X 14 (6 * n + 1) ≤ 99 by omega) (by rw [List.length_append, List.length_append, List.length_cons]; omega) (b_app (b_app hb w1) (b_num (by omega))) s2 fun I5 J5 s5 f5 => ?_
      have f5 := FY_t f2 f5
      simp (disch := first | omega | assumption | exact yrt_145 | exact y_ok yE_ok (by decide) | fail) only [yrt_145, ab_kl_n, ab_kl_i, ab_kl_r, ab_kl_l, at_145_572, cy_88, cat_n, cat_i, cat_r, cat_l, tl_i, tl_l, tl_n, y_sh, y_shh, at_145_575, Gy_aload_0, at_145_576, Gy_aload_9, at_145_578, Gy_bipush, kb_59, at_145_580, cy_15, Nat.reduceAdd, Nat.reduceMul, Nat.reduceLeDiff, Nat.reduceSub, decide_true, decide_false, Bool.toNat_true, Bool.toNat_false, not_true_eq_false, not_false_eq_true, ite_not, true_and, and_true, if_true, if_false, ↓reduceIte, Bool.or_true, Bool.true_or, Bool.or_false, ry_199 yE_ok, ny_199 yE_ok, ry_200 yE_ok, ny_200 yE_ok, ry_201 yE_ok, ny_201 yE_ok, ry_202 yE_ok, ny_202 yE_ok, ry_203 yE_ok, ny_203 yE_ok, ry_204 yE_ok, ny_204 yE_ok, Nat.reduceEqDiff, false_and, and_false]
      refine y_says yE_ok (by decide) (by rw [List.length_append, List.length_append, List.length_append, List.length_cons, List.length_cons]; omega) (b_app (b_app (b_app hb w1) (b_num (by omega))) (b_num (by omega))) s5 fun I4 J4 s4 f4 => ?_
      simp (disch := first | omega | assumption | exact yrt_145 | fail) only [yrt_145, ab_kl_n, ab_kl_i, ab_kl_r, ab_kl_l, at_145_580, cy_15, cat_n, cat_i, cat_r, cat_l, tl_i, tl_l, tl_n, y_sh, y_shh, Nat.reduceAdd, Nat.reduceMul, Nat.reduceLeDiff, Nat.reduceSub, decide_true, decide_false, Bool.toNat_true, Bool.toNat_false, not_true_eq_false, not_false_eq_true, ite_not, true_and, and_true, if_true, if_false, ↓reduceIte, Bool.or_true, Bool.true_or, Bool.or_false]
      refine K _ _ (FY_t f5 f4) ?_
      unfold nmL
      rw [if_neg c, if_neg c4, byts_w, byts_n, byts_n, byts_s]
      simpa only [List.append_assoc] using s4
theorem y_nms (g : GX sh X) (hx : HX sh X I3) (hb : b < X 0 0) (hL : (byts (txT X b ++ hdL)).length + 11 * X 2 b ≤ 320) (w13 w14 w15 : Option Value)
    (K : ∀ I' J', FY I3 I' J3 J' → SC (tS (byts (txT X b ++ (hdL ++ nmsT X (X 1 b) (X 2 b))))) I' J' → Gy xs (ab_at 145 589) 145 589 [some (.ref 0), some (.ref 2000), some (.int (nI 0)), some (.ref 199), some (.ref 200), some (.ref 201), some (.ref 202), some (.ref 203), some (.ref 204), some (.ref 208), some (.int (nI (X 0 0))), some (.int (nI (X 1 b + X 2 b))), some (.int (nI b)), w13, w14, w15] [] (SH ++ yE, I', J') Q) :
    ∀ d j I J, j + d = X 2 b → FY I3 I J3 J → SC (tS (byts (txT X b ++ (hdL ++ nmsT X (X 1 b) j)))) I J → Gy xs (ab_at 145 483) 145 483 [some (.ref 0), some (.ref 2000), some (.int (nI 0)), some (.ref 199), some (.ref 200), some (.ref 201), some (.ref 202), some (.ref 203), some (.ref 204), some (.ref 208), some (.int (nI (X 0 0))), some (.int (nI (X 1 b + j))), some (.int (nI b)), w13, w14, w15] [] (SH ++ yE, I, J) Q := by
  have x := g.1
  have e2 := x.2.2.1
  have e1 := x.2.2.2.1 b hb
  have f1 := fB_lt (X := X) hb
  have n20 := x.2.1
  have nb6 := x.1
  intro d
  induction d with
  | zero =>
    intro j I J hj fy sc
    have e : j = X 2 b := by omega
    subst e
    have g0 := fy.1 199 1 (by decide)
    rw [at_145_483]
    by_cases c : X 1 b + X 2 b < X 0 1
    · have g1 := fy.1 201 (X 1 b + X 2 b) (by decide)
      have z := (hx.2.2.1 _ c).2.1
      obtain ⟨r1, r2, r3, -⟩ := g.2.2.2.2.1 _ c
      have ne : ¬ X 11 (X 1 b + X 2 b) = b := fun z => by rw [z] at r3; omega
      have c2 : ¬ X 0 1 ≤ X 1 b + X 2 b := by omega
      simp (disch := first | omega | assumption | exact yrt_145 | fail) only [yrt_145, ab_kl_n, ab_kl_i, ab_kl_r, ab_kl_l, Gy_iload_11, at_145_485, Gy_aload_3, at_145_486, Gy_iconst, kc_1, at_145_487, Gy_iaload, q_in, q_cl, jy_145_488, q_le, q_lt, q_eq, n_leT, n_leF, n_ltT, n_ltF, n_eqF, n_b0, at_145_491, Gy_aload_5, at_145_493, at_145_495, at_145_496, Gy_iload_12, jy_145_498, Nat.reduceAdd, Nat.reduceMul, Nat.reduceLeDiff, Nat.reduceSub, decide_true, decide_false, Bool.toNat_true, Bool.toNat_false, not_true_eq_false, not_false_eq_true, ite_not, true_and, and_true, if_true, if_false, ↓reduceIte, Bool.or_true, Bool.true_or, Bool.or_false, ry_199 yE_ok, ny_199 yE_ok, ry_200 yE_ok, ny_200 yE_ok, ry_201 yE_ok, ny_201 yE_ok, ry_202 yE_ok, ny_202 yE_ok, ry_203 yE_ok, ny_203 yE_ok, ry_204 yE_ok, ny_204 yE_ok, Nat.reduceEqDiff, false_and, and_false, g0, hx.2.1, g1, z, ne, c2]
      exact K I J fy sc
    · have c2 : X 0 1 ≤ X 1 b + X 2 b := by omega
      simp (disch := first | omega | assumption | exact yrt_145 | fail) only [yrt_145, ab_kl_n, ab_kl_i, ab_kl_r, ab_kl_l, Gy_iload_11, at_145_485, Gy_aload_3, at_145_486, Gy_iconst, kc_1, at_145_487, Gy_iaload, q_in, q_cl, jy_145_488, q_le, q_lt, q_eq, n_leT, n_leF, n_ltT, n_ltF, n_eqF, n_b0, at_145_491, Gy_aload_5, at_145_493, at_145_495, at_145_496, Gy_iload_12, jy_145_498, Nat.reduceAdd, Nat.reduceMul, Nat.reduceLeDiff, Nat.reduceSub, decide_true, decide_false, Bool.toNat_true, Bool.toNat_false, not_true_eq_false, not_false_eq_true, ite_not, true_and, and_true, if_true, if_false, ↓reduceIte, Bool.or_true, Bool.true_or, Bool.or_false, ry_199 yE_ok, ny_199 yE_ok, ry_200 yE_ok, ny_200 yE_ok, ry_201 yE_ok, ny_201 yE_ok, ry_202 yE_ok, ny_202 yE_ok, ry_203 yE_ok, ny_203 yE_ok, ry_204 yE_ok, ny_204 yE_ok, Nat.reduceEqDiff, false_and, and_false, g0, hx.2.1, c2]
      exact K I J fy sc
  | succ d ih =>
    intro j I J hj fy sc
    have hn : X 1 b + j < X 0 1 := by omega
    have g0 := fy.1 199 1 (by decide)
    have g1 := fy.1 201 (X 1 b + j) (by decide)
    have z := (hx.2.2.1 _ hn).2.1
    have zb := x.2.2.2.2.1 b (X 1 b + j) hb (by omega) (by omega)
    have c2 : ¬ X 0 1 ≤ X 1 b + j := by omega
    obtain ⟨t1, t2⟩ := txT_len x b (by omega)
    obtain ⟨n1, n2⟩ := nmsT_len x (f := X 1 b) j (by omega)
    rw [at_145_483]
    simp (disch := first | omega | assumption | exact yrt_145 | fail) only [yrt_145, ab_kl_n, ab_kl_i, ab_kl_r, ab_kl_l, Gy_iload_11, at_145_485, Gy_aload_3, at_145_486, Gy_iconst, kc_1, at_145_487, Gy_iaload, q_in, q_cl, jy_145_488, q_le, q_lt, q_eq, n_leT, n_leF, n_ltT, n_ltF, n_eqF, n_b0, at_145_491, Gy_aload_5, at_145_493, at_145_495, at_145_496, Gy_iload_12, jy_145_498, Nat.reduceAdd, Nat.reduceMul, Nat.reduceLeDiff, Nat.reduceSub, decide_true, decide_false, Bool.toNat_true, Bool.toNat_false, not_true_eq_false, not_false_eq_true, ite_not, true_and, and_true, if_true, if_false, ↓reduceIte, Bool.or_true, Bool.true_or, Bool.or_false, ry_199 yE_ok, ny_199 yE_ok, ry_200 yE_ok, ny_200 yE_ok, ry_201 yE_ok, ny_201 yE_ok, ry_202 yE_ok, ny_202 yE_ok, ry_203 yE_ok, ny_203 yE_ok, ry_204 yE_ok, ny_204 yE_ok, Nat.reduceEqDiff, false_and, and_false, g0, hx.2.1, g1, z, zb, c2]
    refine y_nm x hx hn fy sc ?_ ?_ _ _ _ _ fun I1 J1 f1 s1 => ?_
    · rw [byts_app, byts_app]; exact b_app t2 (b_app hd_len.2 n2)
    · rw [byts_app] at hL
      rw [byts_app, byts_app]
      rw [List.length_append] at hL ⊢
      rw [List.length_append]
      have h11 : 11 * j + 11 ≤ 11 * X 2 b := by omega
      omega
    · simp (disch := first | omega | assumption | exact yrt_145 | fail) only [yrt_145, ab_kl_n, ab_kl_i, ab_kl_r, ab_kl_l, at_145_583, Gy_iinc_11, ab_put_int_11, kc_1, q_add, jy_145_586, Nat.reduceAdd, Nat.reduceMul, Nat.reduceLeDiff, Nat.reduceSub, decide_true, decide_false, Bool.toNat_true, Bool.toNat_false, not_true_eq_false, not_false_eq_true, ite_not, true_and, and_true, if_true, if_false, ↓reduceIte, Bool.or_true, Bool.true_or, Bool.or_false]
      refine ih (j + 1) I1 J1 (by omega) f1 ?_
      have e : byts (txT X b ++ (hdL ++ nmsT X (X 1 b) (j + 1))) = byts (txT X b ++ (hdL ++ nmsT X (X 1 b) j)) ++ byts (nmL X (X 1 b + j)) := by
        show byts (txT X b ++ (hdL ++ (nmsT X (X 1 b) j ++ nmL X (X 1 b + j)))) = _
        simp only [byts_app, List.append_assoc]
      rw [e]
      exact s1
end SPK
