/-! THE LAW'S CODE: a turn, and both -/
def yE4 : ab_Sh := (yE ++ [(11, 6, []), (11, 60, [])]) ++ [(11, 6, []), (11, 60, [])]
section LTU
variable {xs : List Int32} {Q : Option Value → ab_H → Prop} {E : ab_Sh} {I I0 I' : Nat → Nat → Int32} {J J0 J' : Nat → Nat → Int64} {s : VS} {A B : Nat → Nat → Nat} {n tn N : Nat}
set_option maxRecDepth 4000 in
theorem f_turn (hx : xs.length ≤ 260) (ht : tn < 2) (o : OZ A) (eN : A 0 1 = N) (h0 : 0 < N) (k7 : ∀ n, n < A 0 1 → A 10 n ≤ 7) (hY : YX E) (hE : E.length ≤ 20) (w : WL8 s A I J I J) (gz : GZ I J) {l13 l14 l15 l16 l17 l18 l19 l20 l21 l22 l23 : Option Value}
    (K : ∀ s A I' J' l13 l14 l15 l16 l17 l18 l19 l20 l21 l22 l23, OZ A → A 0 1 = N → (∀ n, n < A 0 1 → A 10 n ≤ 7) → WL8 s A I' J' I' J' → GZ I' J' → Gy xs (ab_at 146 89) 146 89 [some (.ref 2000), some (.ref 0), some (.ref 199), some (.ref 200), some (.ref 201), some (.ref 202), some (.ref 203), some (.ref 204), some (.ref 205), some (.ref 206), some (.ref 207), some (.int (nI N)), some (.int (nI (tn + 1))), l13, l14, l15, l16, l17, l18, l19, l20, l21, l22, l23] [] (SH ++ (E ++ [(11, 6, []), (11, 60, [])]), I', J') Q) :
    Gy xs (ab_at 146 89) 146 89 [some (.ref 2000), some (.ref 0), some (.ref 199), some (.ref 200), some (.ref 201), some (.ref 202), some (.ref 203), some (.ref 204), some (.ref 205), some (.ref 206), some (.ref 207), some (.int (nI N)), some (.int (nI (tn))), l13, l14, l15, l16, l17, l18, l19, l20, l21, l22, l23] [] (SH ++ E, I, J) Q := by
  have n20 := W_N w
  have t2 : ¬ 2 ≤ tn := by omega
  rw [at_146_89]
  simp (disch := first | omega | assumption | exact yrt_146 | fail) only [yrt_146, ab_kl_n, ab_kl_i, ab_kl_r, ab_kl_l, Gy_iload_12, at_146_91, Gy_iconst, kc_2, jy_146_92, q_le, q_lt, q_eq, n_leT, n_leF, n_ltT, n_ltF, n_eqF, n_b0, at_146_95, Gy_aload_1, at_146_96, kc_0, at_146_97, cat_n, cat_i, cat_r, cat_l, tl_i, tl_l, tl_n, y_sh, y_shh, Nat.reduceAdd, Nat.reduceMul, Nat.reduceLeDiff, Nat.reduceSub, decide_true, decide_false, Bool.toNat_true, Bool.toNat_false, not_true_eq_false, not_false_eq_true, ite_not, true_and, and_true, if_true, if_false, ↓reduceIte, Bool.or_true, Bool.true_or, Bool.or_false, t2]
  refine z_keep w (by simp only [cat_n, cat_i, cat_r, cat_l]; omega) fun s1 I1 J1 k hk im1 w1 => ?_
  have ck : ¬ k < 0 := by omega
  simp (disch := first | omega | assumption | exact yrt_146 | fail) only [yrt_146, ab_kl_n, ab_kl_i, ab_kl_r, ab_kl_l, jy_146_100, q_le, q_lt, q_eq, n_leT, n_leF, n_ltT, n_ltF, n_eqF, n_b0, at_146_103, Gy_iconst, kc_0, at_146_104, Gy_retb, Gy_retb0, Gy_retb1, at_146_105, Gy_aload_1, at_146_106, kc_1, at_146_107, cat_n, cat_i, cat_r, cat_l, tl_i, tl_l, tl_n, y_sh, y_shh, Nat.reduceAdd, Nat.reduceMul, Nat.reduceLeDiff, Nat.reduceSub, decide_true, decide_false, Bool.toNat_true, Bool.toNat_false, not_true_eq_false, not_false_eq_true, ite_not, true_and, and_true, if_true, if_false, ↓reduceIte, Bool.or_true, Bool.true_or, Bool.or_false, ck]
  refine z_cl1 w1 (by simp only [cat_n, cat_i, cat_r, cat_l]; omega) fun I2 J2 w2 => ?_
  simp (disch := first | omega | assumption | exact yrt_146 | fail) only [yrt_146, ab_kl_n, ab_kl_i, ab_kl_r, ab_kl_l, at_146_110, Gy_istore_13, ab_put_int_13, at_146_112, Gy_iconst, kc_0, at_146_113, Gy_istore_14, ab_put_int_14, at_146_115, at_146_116, Gy_istore_15, ab_put_int_15, Nat.reduceAdd, Nat.reduceMul, Nat.reduceLeDiff, Nat.reduceSub, decide_true, decide_false, Bool.toNat_true, Bool.toNat_false, not_true_eq_false, not_false_eq_true, ite_not, true_and, and_true, if_true, if_false, ↓reduceIte, Bool.or_true, Bool.true_or, Bool.or_false]
  subst eN
  refine f_names o h0 (fun I3 J3 l16 l17 l18 l19 l20 l21 l22 l23 ok3 w3 => ?_) _ 0 I2 J2 _ _ _ _ _ _ _ _ (fun z => absurd z (Nat.lt_irrefl 0)) (Nat.zero_add _) w2
  refine f_many o w3 h0 k7 fun I4 J4 w4 => ?_
  have ok17 : OKL [l17, l18] := fun nx => by
    have a := ok3 nx
    simp only [List.all_cons, List.all_nil, Bool.and_eq_true, and_true] at a ⊢
    exact ⟨a.2.1, a.2.2.1⟩
  have ok19 : OKL [l19, l20, l21, l22, l23] := fun nx => by
    have a := ok3 nx
    simp only [List.all_cons, List.all_nil, Bool.and_eq_true, and_true] at a ⊢
    exact a.2.2.2
  refine f_agr hx ht o w4 k7 ok17 fun I5 J5 x15 l17 l18 okl w5 => ?_
  refine f_arr hx ht o hY hE im1 (W_reb w5) (GZ_fr w5.2.2.2 gz) okl ok19 fun s6 I6 J6 l19 l20 im6 w6 gz6 tg6 => ?_
  have h6 : (E ++ [(11, 6, []), (11, 60, [])])[E.length]? = some (11, 6, []) := by
    rw [List.getElem?_append_right (Nat.le_refl _), Nat.sub_self]
    rfl
  have h60 : (E ++ [(11, 6, []), (11, 60, [])])[E.length + 1]? = some (11, 60, []) := by
    rw [List.getElem?_append_right (by omega), show E.length + 1 - E.length = 1 by omega]
    rfl
  refine f_steps hx ht o h6 h60 rfl im6 w6 tg6 fun s7 B7 I7 J7 x18 l19 l20 l21 l22 im7 w7 => ?_
  simp (disch := first | omega | assumption | exact yrt_146 | fail) only [yrt_146, ab_kl_n, ab_kl_i, ab_kl_r, ab_kl_l, at_146_1406, Gy_aload_1, at_146_1407, Gy_iconst, kc_0, Nat.reduceAdd, Nat.reduceMul, Nat.reduceLeDiff, Nat.reduceSub, decide_true, decide_false, Bool.toNat_true, Bool.toNat_false, not_true_eq_false, not_false_eq_true, ite_not, true_and, and_true, if_true, if_false, ↓reduceIte, Bool.or_true, Bool.true_or, Bool.or_false]
  refine z_back w7 im7 (by simp only [cat_n, cat_i, cat_r, cat_l]; omega) fun s8 I8 J8 w8 => ?_
  simp (disch := first | omega | assumption | exact yrt_146 | fail) only [yrt_146, ab_kl_n, ab_kl_i, ab_kl_r, ab_kl_l, at_146_1411, Gy_iload_11, jy_146_1413, q_le, q_lt, q_eq, n_leT, n_leF, n_ltT, n_ltF, n_eqF, n_b0, at_146_1416, Gy_iconst, kc_0, at_146_1417, Gy_retb, Gy_retb0, Gy_retb1, at_146_1418, at_146_1419, Gy_istore_18, ab_put_int_18, Nat.reduceAdd, Nat.reduceMul, Nat.reduceLeDiff, Nat.reduceSub, decide_true, decide_false, Bool.toNat_true, Bool.toNat_false, not_true_eq_false, not_false_eq_true, ite_not, true_and, and_true, if_true, if_false, ↓reduceIte, Bool.or_true, Bool.true_or, Bool.or_false]
  refine f_sets hx ht h0 (fun s9 A9 I9 J9 x18 l19 l20 l21 l22 l23 o9 eN9 k79 w9 => ?_) _ 0 s8 A I8 J8 _ _ _ _ _ (Nat.zero_add _) o rfl k7 w8
  have n29 := W_N w9
  have p1 := pt_lt (v := cellv xs (53 + tn)) h0
  have p2 := pt_lt (v := cellv xs (53 + tn) >>> (nI 4 &&& 31)) (show 0 < 3 by decide)
  simp (disch := first | omega | assumption | exact yrt_146 | exact y_ok2 | fail) only [yrt_146, ab_kl_n, ab_kl_i, ab_kl_r, ab_kl_l, at_146_1568, Gy_aload_0, at_146_1569, Gy_bipush, kb_53, at_146_1571, Gy_iload_12, at_146_1573, Gy_iadd, q_add, Nat.zero_add, at_146_1574, cy_73, cat_n, cat_i, cat_r, cat_l, tl_i, tl_l, tl_n, y_sh, y_shh, at_146_1577, Gy_istore_18, ab_put_int_18, at_146_1579, Gy_aload_1, at_146_1580, Gy_iload_18, at_146_1582, Gy_iload_11, at_146_1584, cy_69, at_146_1587, at_146_1589, Gy_iconst, kc_4, at_146_1590, Gy_ishr, at_146_1591, kc_3, at_146_1592, Nat.reduceAdd, Nat.reduceMul, Nat.reduceLeDiff, Nat.reduceSub, decide_true, decide_false, Bool.toNat_true, Bool.toNat_false, not_true_eq_false, not_false_eq_true, ite_not, true_and, and_true, if_true, if_false, ↓reduceIte, Bool.or_true, Bool.true_or, Bool.or_false, y_cell hx, y_part]
  refine z_alter w9 o9 (by omega) p2 (by simp only [cat_n, cat_i, cat_r, cat_l]; omega) fun s10 A10 I10 J10 x hx2 o10 e10 f10 w10 => ?_
  simp (disch := first | omega | assumption | exact yrt_146 | fail) only [yrt_146, ab_kl_n, ab_kl_i, ab_kl_r, ab_kl_l, at_146_1598, Gy_bipush, kb_m2, jy_146_1600, q_le, q_lt, q_eq, n_leT, n_leF, n_ltT, n_ltF, n_eqF, n_b0, at_146_1603, Gy_iconst, kc_0, at_146_1604, Gy_retb, Gy_retb0, Gy_retb1, at_146_1605, Gy_iinc_12, ab_put_int_12, kc_1, q_add, jy_146_1608, Nat.reduceAdd, Nat.reduceMul, Nat.reduceLeDiff, Nat.reduceSub, decide_true, decide_false, Bool.toNat_true, Bool.toNat_false, not_true_eq_false, not_false_eq_true, ite_not, true_and, and_true, if_true, if_false, ↓reduceIte, Bool.or_true, Bool.true_or, Bool.or_false, hx2]
  exact K s10 A10 I10 J10 _ _ _ _ _ _ _ _ _ _ _ o10 (by omega) (fun n hn => by rw [f10]; exact k79 n (by omega)) (W_reb w10) (GZ_fr w10.2.2.2 gz6)
set_option maxRecDepth 4000 in
theorem f_done (hY : YX E) (gz : GZ I J) (K : Q (some (.int (nI 1))) (SH ++ E, I, J)) {l13 l14 l15 l16 l17 l18 l19 l20 l21 l22 l23 : Option Value} : Gy xs (ab_at 146 89) 146 89 [some (.ref 2000), some (.ref 0), some (.ref 199), some (.ref 200), some (.ref 201), some (.ref 202), some (.ref 203), some (.ref 204), some (.ref 205), some (.ref 206), some (.ref 207), some (.int (nI N)), some (.int (nI (2))), l13, l14, l15, l16, l17, l18, l19, l20, l21, l22, l23] [] (SH ++ E, I, J) Q := by
  obtain ⟨g1, g2, g3⟩ := gz
  rw [at_146_89]
  simp (disch := first | omega | assumption | exact yrt_146 | fail) only [yrt_146, ab_kl_n, ab_kl_i, ab_kl_r, ab_kl_l, Gy_iload_12, at_146_91, Gy_iconst, kc_2, jy_146_92, q_le, q_lt, q_eq, n_leT, n_leF, n_ltT, n_ltF, n_eqF, n_b0, Nat.reduceAdd, Nat.reduceMul, Nat.reduceLeDiff, Nat.reduceSub, decide_true, decide_false, Bool.toNat_true, Bool.toNat_false, not_true_eq_false, not_false_eq_true, ite_not, true_and, and_true, if_true, if_false, ↓reduceIte, Bool.or_true, Bool.true_or, Bool.or_false]
  simp (disch := first | omega | assumption | exact yrt_146 | fail) only [yrt_146, ab_kl_n, ab_kl_i, ab_kl_r, ab_kl_l, at_146_1611, Gy_aload_8, at_146_1613, Gy_iconst, kc_0, at_146_1614, Gy_iaload, q_in, q_cl, jy_146_1615, q_le, q_lt, q_eq, n_leT, n_leF, n_ltT, n_ltF, n_eqF, n_b0, at_146_1618, Gy_aload_9, at_146_1620, at_146_1621, jy_146_1622, at_146_1625, Gy_aload_10, at_146_1627, at_146_1628, Gy_laload, at_146_1629, Gy_lconst, kl_0, at_146_1630, Gy_lcmp, jy_146_1631, at_146_1634, kc_1, jy_146_1635, at_146_1638, at_146_1639, Gy_retb, Gy_retb0, Gy_retb1, Nat.reduceAdd, Nat.reduceMul, Nat.reduceLeDiff, Nat.reduceSub, decide_true, decide_false, Bool.toNat_true, Bool.toNat_false, not_true_eq_false, not_false_eq_true, ite_not, true_and, and_true, if_true, if_false, ↓reduceIte, Bool.or_true, Bool.true_or, Bool.or_false, ry_205 hY, ny_205 hY, ry_206 hY, ny_206 hY, ry_207 hY, ny_207 hY, g1, g2, g3, lc_eq]
  exact K
set_option maxRecDepth 4000 in
theorem f_turns (hx : xs.length ≤ 260) (pr : PRG s) (sc : SC s I J) (gz : GZ I J) (K : ∀ I J, Q (some (.int (nI 1))) (SH ++ yE4, I, J)) {l11 l12 l13 l14 l15 l16 l17 l18 l19 l20 l21 l22 l23 : Option Value} :
    Gy xs (ab_at 146 79) 146 79 [some (.ref 2000), some (.ref 0), some (.ref 199), some (.ref 200), some (.ref 201), some (.ref 202), some (.ref 203), some (.ref 204), some (.ref 205), some (.ref 206), some (.ref 207), l11, l12, l13, l14, l15, l16, l17, l18, l19, l20, l21, l22, l23] [] (SH ++ yE, I, J) Q := by
  obtain ⟨ok, o, h0, k7, -, -⟩ := pr
  have w : WL8 s (v_a s) I J I J := ⟨ok, rfl, sc, Fr_r⟩
  simp (disch := first | omega | assumption | exact yrt_146 | fail) only [yrt_146, ab_kl_n, ab_kl_i, ab_kl_r, ab_kl_l, at_146_79, Gy_aload_1, at_146_80, Gy_iconst, kc_1, at_146_81, cat_n, cat_i, cat_r, cat_l, tl_i, tl_l, tl_n, y_sh, y_shh, at_146_84, Gy_istore_11, ab_put_int_11, at_146_86, kc_0, at_146_87, Gy_istore_12, ab_put_int_12, Nat.reduceAdd, Nat.reduceMul, Nat.reduceLeDiff, Nat.reduceSub, decide_true, decide_false, Bool.toNat_true, Bool.toNat_false, not_true_eq_false, not_false_eq_true, ite_not, true_and, and_true, if_true, if_false, ↓reduceIte, Bool.or_true, Bool.true_or, Bool.or_false, zq_r1 w]
  refine f_turn (N := v_a s 0 1) (tn := 0) hx (by decide) o rfl h0 k7 yE_ok (by decide) w gz fun s1 A1 I1 J1 l13 l14 l15 l16 l17 l18 l19 l20 l21 l22 l23 o1 e1 k71 w1 gz1 => ?_
  refine f_turn (N := v_a s 0 1) (tn := 0 + 1) hx (by decide) o1 e1 h0 k71 (YX_app yE_ok _) (by decide) w1 gz1 fun s2 A2 I2 J2 l13 l14 l15 l16 l17 l18 l19 l20 l21 l22 l23 o2 e2 k72 w2 gz2 => ?_
  exact f_done (YX_app (YX_app yE_ok _) _) gz2 (K _ _)
end LTU
