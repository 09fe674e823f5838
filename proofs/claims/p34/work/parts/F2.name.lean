/-! THE LAW'S CODE: a name's rounds, leader, form -/
def OKL (ls : List (Option Value)) : Prop := ∀ nx, ls.all (fun v => (v.map (ab_ok nx)).getD true) = true
section LWF
variable {xs : List Int32} {Q : Option Value → ab_H → Prop} {E : ab_Sh} {I I0 : Nat → Nat → Int32} {J J0 : Nat → Nat → Int64} {s : VS} {A : Nat → Nat → Nat} {n tn : Nat} {l14 l17 l18 l19 l20 : Option Value} {l21 : Int32}
theorem f_c4in {r : Nat} (hr : r < rc A 100 (P0 A)) (hn : n < A 0 1) (K : ∀ I' J' l23, WL8 s A I0 J0 I' J' → Gy xs (ab_at 146 521) 146 521 [some (.ref 2000), some (.ref 0), some (.ref 199), some (.ref 200), some (.ref 201), some (.ref 202), some (.ref 203), some (.ref 204), some (.ref 205), some (.ref 206), some (.ref 207), some (.int (nI (A 0 1))), some (.int (nI tn)), some (.int (nI (rc A 100 (P0 A)))), l14, some (.int (nI n)), some (.int (nI (PP A n))), l17, l18, l19, l20, some (.int l21), some (.int (nI r)), l23] [] (SH ++ E, I', J') Q) :
    ∀ d m I J, m + d = n → WL8 s A I0 J0 I J → Gy xs (ab_at 146 464) 146 464 [some (.ref 2000), some (.ref 0), some (.ref 199), some (.ref 200), some (.ref 201), some (.ref 202), some (.ref 203), some (.ref 204), some (.ref 205), some (.ref 206), some (.ref 207), some (.int (nI (A 0 1))), some (.int (nI tn)), some (.int (nI (rc A 100 (P0 A)))), l14, some (.int (nI n)), some (.int (nI (PP A n))), l17, l18, l19, l20, some (.int l21), some (.int (nI r)), some (.int (nI m))] [] (SH ++ E, I, J) Q := by
  intro d
  induction d with
  | zero =>
    intro m I J hm w
    have n20 := W_N w
    have e : m = n := by omega
    subst e
    rw [at_146_464]
    simp (disch := first | omega | assumption | exact yrt_146 | fail) only [yrt_146, ab_kl_n, ab_kl_i, ab_kl_r, ab_kl_l, Gy_iload_23, at_146_466, Gy_iload_15, jy_146_468, q_le, q_lt, q_eq, n_leT, n_leF, n_ltT, n_ltF, n_eqF, n_b0, Nat.reduceAdd, Nat.reduceMul, Nat.reduceLeDiff, Nat.reduceSub, decide_true, decide_false, Bool.toNat_true, Bool.toNat_false, not_true_eq_false, not_false_eq_true, ite_not, true_and, and_true, if_true, if_false, ↓reduceIte, Bool.or_true, Bool.true_or, Bool.or_false]
    exact K I J _ w
  | succ d ih =>
    intro m I J hm w
    have n20 := W_N w
    have wr := w.1.1.2.1
    rw [w.2.1] at wr
    have r20 := rc_lt wr
    have hmn : m < n := by omega
    rw [at_146_464]
    simp (disch := first | omega | assumption | exact yrt_146 | fail) only [yrt_146, ab_kl_n, ab_kl_i, ab_kl_r, ab_kl_l, Gy_iload_23, at_146_466, Gy_iload_15, jy_146_468, q_le, q_lt, q_eq, n_leT, n_leF, n_ltT, n_ltF, n_eqF, n_b0, at_146_471, Gy_aload_1, at_146_472, at_146_474, Gy_iload_22, at_146_476, Gy_iconst, kc_1, at_146_477, Gy_iadd, q_add, Nat.zero_add, Nat.reduceAdd, Nat.reduceMul, Nat.reduceLeDiff, Nat.reduceSub, decide_true, decide_false, Bool.toNat_true, Bool.toNat_false, not_true_eq_false, not_false_eq_true, ite_not, true_and, and_true, if_true, if_false, ↓reduceIte, Bool.or_true, Bool.true_or, Bool.or_false]
    refine z_partAt w hn (by omega) (by simp only [cat_n, cat_i, cat_r, cat_l]; omega) fun I1 J1 w1 => ?_
    simp (disch := first | omega | assumption | exact yrt_146 | fail) only [yrt_146, ab_kl_n, ab_kl_i, ab_kl_r, ab_kl_l, at_146_481, Gy_aload_1, at_146_482, Gy_iload_23, at_146_484, Gy_iload_22, at_146_486, Gy_iconst, kc_1, at_146_487, Gy_iadd, q_add, Nat.zero_add, Nat.reduceAdd, Nat.reduceMul, Nat.reduceLeDiff, Nat.reduceSub, decide_true, decide_false, Bool.toNat_true, Bool.toNat_false, not_true_eq_false, not_false_eq_true, ite_not, true_and, and_true, if_true, if_false, ↓reduceIte, Bool.or_true, Bool.true_or, Bool.or_false]
    refine z_partAt w1 (by omega) (by omega) (by simp only [cat_n, cat_i, cat_r, cat_l]; omega) fun I2 J2 w2 => ?_
    have p1 := (rp_PK (r + 1) _ (P0_PK wr)).1 n
    have p2 := (rp_PK (r + 1) _ (P0_PK wr)).1 m
    have p3 := (rp_PK r _ (P0_PK wr)).1 n
    have p4 := (rp_PK r _ (P0_PK wr)).1 m
    by_cases c : rp A (r + 1) (P0 A) n = rp A (r + 1) (P0 A) m
    · have c2 := rp_step r (P0 A) c
      simp (disch := first | omega | assumption | exact yrt_146 | fail) only [yrt_146, ab_kl_n, ab_kl_i, ab_kl_r, ab_kl_l, jy_146_491, q_le, q_lt, q_eq, n_leT, n_leF, n_ltT, n_ltF, n_eqF, n_b0, at_146_494, Gy_aload_1, at_146_495, Gy_iload_15, at_146_497, Gy_iload_22, Nat.reduceAdd, Nat.reduceMul, Nat.reduceLeDiff, Nat.reduceSub, decide_true, decide_false, Bool.toNat_true, Bool.toNat_false, not_true_eq_false, not_false_eq_true, ite_not, true_and, and_true, if_true, if_false, ↓reduceIte, Bool.or_true, Bool.true_or, Bool.or_false, c]
      refine z_partAt w2 hn (by omega) (by simp only [cat_n, cat_i, cat_r, cat_l]; omega) fun I3 J3 w3 => ?_
      simp (disch := first | omega | assumption | exact yrt_146 | fail) only [yrt_146, ab_kl_n, ab_kl_i, ab_kl_r, ab_kl_l, at_146_502, Gy_aload_1, at_146_503, Gy_iload_23, at_146_505, Gy_iload_22, Nat.reduceAdd, Nat.reduceMul, Nat.reduceLeDiff, Nat.reduceSub, decide_true, decide_false, Bool.toNat_true, Bool.toNat_false, not_true_eq_false, not_false_eq_true, ite_not, true_and, and_true, if_true, if_false, ↓reduceIte, Bool.or_true, Bool.true_or, Bool.or_false]
      refine z_partAt w3 (by omega) (by omega) (by simp only [cat_n, cat_i, cat_r, cat_l]; omega) fun I4 J4 w4 => ?_
      simp (disch := first | omega | assumption | exact yrt_146 | fail) only [yrt_146, ab_kl_n, ab_kl_i, ab_kl_r, ab_kl_l, jy_146_510, q_le, q_lt, q_eq, n_leT, n_leF, n_ltT, n_ltF, n_eqF, n_b0, at_146_513, Gy_iconst, kc_0, at_146_514, Gy_retb, Gy_retb0, Gy_retb1, at_146_515, Gy_iinc_23, ab_put_int_23, kc_1, q_add, jy_146_518, Nat.reduceAdd, Nat.reduceMul, Nat.reduceLeDiff, Nat.reduceSub, decide_true, decide_false, Bool.toNat_true, Bool.toNat_false, not_true_eq_false, not_false_eq_true, ite_not, true_and, and_true, if_true, if_false, ↓reduceIte, Bool.or_true, Bool.true_or, Bool.or_false, c2]
      exact ih (m + 1) I4 J4 (by omega) w4
    · simp (disch := first | omega | assumption | exact yrt_146 | fail) only [yrt_146, ab_kl_n, ab_kl_i, ab_kl_r, ab_kl_l, jy_146_491, q_le, q_lt, q_eq, n_leT, n_leF, n_ltT, n_ltF, n_eqF, n_b0, at_146_494, Gy_aload_1, at_146_495, Gy_iload_15, at_146_497, Gy_iload_22, at_146_499, cat_n, cat_i, cat_r, cat_l, tl_i, tl_l, tl_n, y_sh, y_shh, at_146_502, at_146_503, Gy_iload_23, at_146_505, at_146_507, jy_146_510, at_146_513, Gy_iconst, kc_0, at_146_514, Gy_retb, Gy_retb0, Gy_retb1, at_146_515, Gy_iinc_23, ab_put_int_23, kc_1, q_add, jy_146_518, Nat.reduceAdd, Nat.reduceMul, Nat.reduceLeDiff, Nat.reduceSub, decide_true, decide_false, Bool.toNat_true, Bool.toNat_false, not_true_eq_false, not_false_eq_true, ite_not, true_and, and_true, if_true, if_false, ↓reduceIte, Bool.or_true, Bool.true_or, Bool.or_false, c]
      exact ih (m + 1) I2 J2 (by omega) w2
theorem f_c4 (hn : n < A 0 1) (K : ∀ I' J' l22 l23, WL8 s A I0 J0 I' J' → Gy xs (ab_at 146 527) 146 527 [some (.ref 2000), some (.ref 0), some (.ref 199), some (.ref 200), some (.ref 201), some (.ref 202), some (.ref 203), some (.ref 204), some (.ref 205), some (.ref 206), some (.ref 207), some (.int (nI (A 0 1))), some (.int (nI tn)), some (.int (nI (rc A 100 (P0 A)))), l14, some (.int (nI n)), some (.int (nI (PP A n))), l17, l18, l19, l20, some (.int l21), l22, l23] [] (SH ++ E, I', J') Q) :
    ∀ d r I J l23, r + d = rc A 100 (P0 A) → WL8 s A I0 J0 I J → Gy xs (ab_at 146 454) 146 454 [some (.ref 2000), some (.ref 0), some (.ref 199), some (.ref 200), some (.ref 201), some (.ref 202), some (.ref 203), some (.ref 204), some (.ref 205), some (.ref 206), some (.ref 207), some (.int (nI (A 0 1))), some (.int (nI tn)), some (.int (nI (rc A 100 (P0 A)))), l14, some (.int (nI n)), some (.int (nI (PP A n))), l17, l18, l19, l20, some (.int l21), some (.int (nI r)), l23] [] (SH ++ E, I, J) Q := by
  intro d
  induction d with
  | zero =>
    intro r I J l23 hr w
    have wr := w.1.1.2.1
    rw [w.2.1] at wr
    have r20 := rc_lt wr
    have e : r = rc A 100 (P0 A) := by omega
    subst e
    rw [at_146_454]
    simp (disch := first | omega | assumption | exact yrt_146 | fail) only [yrt_146, ab_kl_n, ab_kl_i, ab_kl_r, ab_kl_l, Gy_iload_22, at_146_456, Gy_iload_13, jy_146_458, q_le, q_lt, q_eq, n_leT, n_leF, n_ltT, n_ltF, n_eqF, n_b0, Nat.reduceAdd, Nat.reduceMul, Nat.reduceLeDiff, Nat.reduceSub, decide_true, decide_false, Bool.toNat_true, Bool.toNat_false, not_true_eq_false, not_false_eq_true, ite_not, true_and, and_true, if_true, if_false, ↓reduceIte, Bool.or_true, Bool.true_or, Bool.or_false]
    exact K I J _ _ w
  | succ d ih =>
    intro r I J l23 hr w
    have n20 := W_N w
    have wr := w.1.1.2.1
    rw [w.2.1] at wr
    have r20 := rc_lt wr
    rw [at_146_454]
    simp (disch := first | omega | assumption | exact yrt_146 | fail) only [yrt_146, ab_kl_n, ab_kl_i, ab_kl_r, ab_kl_l, Gy_iload_22, at_146_456, Gy_iload_13, jy_146_458, q_le, q_lt, q_eq, n_leT, n_leF, n_ltT, n_ltF, n_eqF, n_b0, at_146_461, Gy_iconst, kc_0, at_146_462, Gy_istore_23, ab_put_int_23, Nat.reduceAdd, Nat.reduceMul, Nat.reduceLeDiff, Nat.reduceSub, decide_true, decide_false, Bool.toNat_true, Bool.toNat_false, not_true_eq_false, not_false_eq_true, ite_not, true_and, and_true, if_true, if_false, ↓reduceIte, Bool.or_true, Bool.true_or, Bool.or_false]
    refine f_c4in (by omega) hn (fun I1 J1 l23 w1 => ?_) n 0 I J (Nat.zero_add _) w
    simp (disch := first | omega | assumption | exact yrt_146 | fail) only [yrt_146, ab_kl_n, ab_kl_i, ab_kl_r, ab_kl_l, at_146_521, Gy_iinc_22, ab_put_int_22, kc_1, q_add, jy_146_524, Nat.reduceAdd, Nat.reduceMul, Nat.reduceLeDiff, Nat.reduceSub, decide_true, decide_false, Bool.toNat_true, Bool.toNat_false, not_true_eq_false, not_false_eq_true, ite_not, true_and, and_true, if_true, if_false, ↓reduceIte, Bool.or_true, Bool.true_or, Bool.or_false]
    exact ih (r + 1) I1 J1 _ (by omega) w1
theorem f_c5 (w : WL8 s A I0 J0 I J) (hn : n < A 0 1) {l22 l23 : Option Value} (K : ∀ I' J', WL8 s A I0 J0 I' J' → Gy xs (ab_at 146 578) 146 578 [some (.ref 2000), some (.ref 0), some (.ref 199), some (.ref 200), some (.ref 201), some (.ref 202), some (.ref 203), some (.ref 204), some (.ref 205), some (.ref 206), some (.ref 207), some (.int (nI (A 0 1))), some (.int (nI tn)), some (.int (nI (rc A 100 (P0 A)))), l14, some (.int (nI n)), some (.int (nI (PP A n))), l17, l18, l19, l20, some (.int l21), some (.int (nI (LD A n))), l23] [] (SH ++ E, I', J') Q) :
    Gy xs (ab_at 146 527) 146 527 [some (.ref 2000), some (.ref 0), some (.ref 199), some (.ref 200), some (.ref 201), some (.ref 202), some (.ref 203), some (.ref 204), some (.ref 205), some (.ref 206), some (.ref 207), some (.int (nI (A 0 1))), some (.int (nI tn)), some (.int (nI (rc A 100 (P0 A)))), l14, some (.int (nI n)), some (.int (nI (PP A n))), l17, l18, l19, l20, some (.int l21), l22, l23] [] (SH ++ E, I, J) Q := by
  have n20 := W_N w
  have wr := w.1.1.2.1
  have wg := w.1.1.2.2.1
  rw [w.2.1] at wr wg
  have ll := LD_lt (A := A) hn
  obtain ⟨e1, e2⟩ := LD_of wr wg hn
  have e3 := LD_LD wr wg hn
  have pl := PP_le wr n
  simp (disch := first | omega | assumption | exact yrt_146 | fail) only [yrt_146, ab_kl_n, ab_kl_i, ab_kl_r, ab_kl_l, at_146_527, Gy_aload_1, at_146_528, Gy_iload_15, Nat.reduceAdd, Nat.reduceMul, Nat.reduceLeDiff, Nat.reduceSub, decide_true, decide_false, Bool.toNat_true, Bool.toNat_false, not_true_eq_false, not_false_eq_true, ite_not, true_and, and_true, if_true, if_false, ↓reduceIte, Bool.or_true, Bool.true_or, Bool.or_false]
  refine z_leader w hn (by simp only [cat_n, cat_i, cat_r, cat_l]; omega) fun I1 J1 w1 => ?_
  simp (disch := first | omega | assumption | exact yrt_146 | fail) only [yrt_146, ab_kl_n, ab_kl_i, ab_kl_r, ab_kl_l, at_146_533, Gy_istore_22, ab_put_int_22, at_146_535, Gy_aload_1, at_146_536, Gy_iload_22, Nat.reduceAdd, Nat.reduceMul, Nat.reduceLeDiff, Nat.reduceSub, decide_true, decide_false, Bool.toNat_true, Bool.toNat_false, not_true_eq_false, not_false_eq_true, ite_not, true_and, and_true, if_true, if_false, ↓reduceIte, Bool.or_true, Bool.true_or, Bool.or_false]
  refine z_part w1 ll (by simp only [cat_n, cat_i, cat_r, cat_l]; omega) fun I2 J2 w2 => ?_
  have tail : Gy xs (ab_at 146 565) 146 565 [some (.ref 2000), some (.ref 0), some (.ref 199), some (.ref 200), some (.ref 201), some (.ref 202), some (.ref 203), some (.ref 204), some (.ref 205), some (.ref 206), some (.ref 207), some (.int (nI (A 0 1))), some (.int (nI tn)), some (.int (nI (rc A 100 (P0 A)))), l14, some (.int (nI n)), some (.int (nI (PP A n))), l17, l18, l19, l20, some (.int l21), some (.int (nI (LD A n))), l23] [] (SH ++ E, I2, J2) Q := by
    simp (disch := first | omega | assumption | exact yrt_146 | fail) only [yrt_146, ab_kl_n, ab_kl_i, ab_kl_r, ab_kl_l, at_146_565, Gy_aload_1, at_146_566, Gy_iload_22, Nat.reduceAdd, Nat.reduceMul, Nat.reduceLeDiff, Nat.reduceSub, decide_true, decide_false, Bool.toNat_true, Bool.toNat_false, not_true_eq_false, not_false_eq_true, ite_not, true_and, and_true, if_true, if_false, ↓reduceIte, Bool.or_true, Bool.true_or, Bool.or_false]
    refine z_leader w2 ll (by simp only [cat_n, cat_i, cat_r, cat_l]; omega) fun I3 J3 w3 => ?_
    simp (disch := first | omega | assumption | exact yrt_146 | fail) only [yrt_146, ab_kl_n, ab_kl_i, ab_kl_r, ab_kl_l, at_146_571, Gy_iload_22, jy_146_573, q_le, q_lt, q_eq, n_leT, n_leF, n_ltT, n_ltF, n_eqF, n_b0, Nat.reduceAdd, Nat.reduceMul, Nat.reduceLeDiff, Nat.reduceSub, decide_true, decide_false, Bool.toNat_true, Bool.toNat_false, not_true_eq_false, not_false_eq_true, ite_not, true_and, and_true, if_true, if_false, ↓reduceIte, Bool.or_true, Bool.true_or, Bool.or_false, e3]
    exact K I3 J3 w3
  by_cases c : LD A n = n
  · rw [c] at tail
    simp (disch := first | omega | assumption | exact yrt_146 | fail) only [yrt_146, ab_kl_n, ab_kl_i, ab_kl_r, ab_kl_l, at_146_541, Gy_iload_16, jy_146_543, q_le, q_lt, q_eq, n_leT, n_leF, n_ltT, n_ltF, n_eqF, n_b0, at_146_546, Gy_iload_22, at_146_548, Gy_iload_15, jy_146_550, at_146_553, Gy_aload_1, at_146_554, at_146_556, at_146_558, cat_n, cat_i, cat_r, cat_l, tl_i, tl_l, tl_n, y_sh, y_shh, at_146_561, Gy_iconst, kc_1, jy_146_562, Nat.reduceAdd, Nat.reduceMul, Nat.reduceLeDiff, Nat.reduceSub, decide_true, decide_false, Bool.toNat_true, Bool.toNat_false, not_true_eq_false, not_false_eq_true, ite_not, true_and, and_true, if_true, if_false, ↓reduceIte, Bool.or_true, Bool.true_or, Bool.or_false, e1, c]
    exact tail
  · have sn1 := e2.resolve_left c
    simp (disch := first | omega | assumption | exact yrt_146 | fail) only [yrt_146, ab_kl_n, ab_kl_i, ab_kl_r, ab_kl_l, at_146_541, Gy_iload_16, jy_146_543, q_le, q_lt, q_eq, n_leT, n_leF, n_ltT, n_ltF, n_eqF, n_b0, at_146_546, Gy_iload_22, at_146_548, Gy_iload_15, jy_146_550, at_146_553, Gy_aload_1, at_146_554, at_146_556, at_146_558, cat_n, cat_i, cat_r, cat_l, tl_i, tl_l, tl_n, y_sh, y_shh, at_146_561, Gy_iconst, kc_1, jy_146_562, Nat.reduceAdd, Nat.reduceMul, Nat.reduceLeDiff, Nat.reduceSub, decide_true, decide_false, Bool.toNat_true, Bool.toNat_false, not_true_eq_false, not_false_eq_true, ite_not, true_and, and_true, if_true, if_false, ↓reduceIte, Bool.or_true, Bool.true_or, Bool.or_false, e1, c, zq_seen w2, sn1]
    exact tail
theorem f_c6 (hn : n < A 0 1) (K : ∀ I' J' l23, WL8 s A I0 J0 I' J' → Gy xs (ab_at 146 638) 146 638 [some (.ref 2000), some (.ref 0), some (.ref 199), some (.ref 200), some (.ref 201), some (.ref 202), some (.ref 203), some (.ref 204), some (.ref 205), some (.ref 206), some (.ref 207), some (.int (nI (A 0 1))), some (.int (nI tn)), some (.int (nI (rc A 100 (P0 A)))), l14, some (.int (nI n)), some (.int (nI (PP A n))), l17, l18, l19, l20, some (.int l21), some (.int (nI (LD A n))), l23] [] (SH ++ E, I', J') Q) :
    ∀ d m I J, m + d = A 0 1 → WL8 s A I0 J0 I J → Gy xs (ab_at 146 581) 146 581 [some (.ref 2000), some (.ref 0), some (.ref 199), some (.ref 200), some (.ref 201), some (.ref 202), some (.ref 203), some (.ref 204), some (.ref 205), some (.ref 206), some (.ref 207), some (.int (nI (A 0 1))), some (.int (nI tn)), some (.int (nI (rc A 100 (P0 A)))), l14, some (.int (nI n)), some (.int (nI (PP A n))), l17, l18, l19, l20, some (.int l21), some (.int (nI (LD A n))), some (.int (nI m))] [] (SH ++ E, I, J) Q := by
  intro d
  induction d with
  | zero =>
    intro m I J hm w
    have n20 := W_N w
    have e : m = A 0 1 := by omega
    subst e
    rw [at_146_581]
    simp (disch := first | omega | assumption | exact yrt_146 | fail) only [yrt_146, ab_kl_n, ab_kl_i, ab_kl_r, ab_kl_l, Gy_iload_23, at_146_583, Gy_iload_11, jy_146_585, q_le, q_lt, q_eq, n_leT, n_leF, n_ltT, n_ltF, n_eqF, n_b0, Nat.reduceAdd, Nat.reduceMul, Nat.reduceLeDiff, Nat.reduceSub, decide_true, decide_false, Bool.toNat_true, Bool.toNat_false, not_true_eq_false, not_false_eq_true, ite_not, true_and, and_true, if_true, if_false, ↓reduceIte, Bool.or_true, Bool.true_or, Bool.or_false]
    exact K I J _ w
  | succ d ih =>
    intro m I J hm w
    have n20 := W_N w
    have wr := w.1.1.2.1
    have wg := w.1.1.2.2.1
    rw [w.2.1] at wr wg
    have hmn : m < A 0 1 := by omega
    have ll := LD_lt (A := A) hn
    have pl := PP_le wr n
    have pm := PP_le wr m
    rw [at_146_581]
    simp (disch := first | omega | assumption | exact yrt_146 | fail) only [yrt_146, ab_kl_n, ab_kl_i, ab_kl_r, ab_kl_l, Gy_iload_23, at_146_583, Gy_iload_11, jy_146_585, q_le, q_lt, q_eq, n_leT, n_leF, n_ltT, n_ltF, n_eqF, n_b0, at_146_588, Gy_aload_1, at_146_589, Nat.reduceAdd, Nat.reduceMul, Nat.reduceLeDiff, Nat.reduceSub, decide_true, decide_false, Bool.toNat_true, Bool.toNat_false, not_true_eq_false, not_false_eq_true, ite_not, true_and, and_true, if_true, if_false, ↓reduceIte, Bool.or_true, Bool.true_or, Bool.or_false]
    refine z_part w hmn (by simp only [cat_n, cat_i, cat_r, cat_l]; omega) fun I1 J1 w1 => ?_
    have nx : Gy xs (ab_at 146 632) 146 632 [some (.ref 2000), some (.ref 0), some (.ref 199), some (.ref 200), some (.ref 201), some (.ref 202), some (.ref 203), some (.ref 204), some (.ref 205), some (.ref 206), some (.ref 207), some (.int (nI (A 0 1))), some (.int (nI tn)), some (.int (nI (rc A 100 (P0 A)))), l14, some (.int (nI n)), some (.int (nI (PP A n))), l17, l18, l19, l20, some (.int l21), some (.int (nI (LD A n))), some (.int (nI m))] [] (SH ++ E, I1, J1) Q := by
      simp (disch := first | omega | assumption | exact yrt_146 | fail) only [yrt_146, ab_kl_n, ab_kl_i, ab_kl_r, ab_kl_l, at_146_632, Gy_iinc_23, ab_put_int_23, kc_1, q_add, jy_146_635, Nat.reduceAdd, Nat.reduceMul, Nat.reduceLeDiff, Nat.reduceSub, decide_true, decide_false, Bool.toNat_true, Bool.toNat_false, not_true_eq_false, not_false_eq_true, ite_not, true_and, and_true, if_true, if_false, ↓reduceIte, Bool.or_true, Bool.true_or, Bool.or_false]
      exact ih (m + 1) I1 J1 (by omega) w1
    by_cases c : PP A m = PP A n
    · cases hs : sn A m n with
      | false =>
        simp (disch := first | omega | assumption | exact yrt_146 | fail) only [yrt_146, ab_kl_n, ab_kl_i, ab_kl_r, ab_kl_l, at_146_594, Gy_iload_16, jy_146_596, q_le, q_lt, q_eq, n_leT, n_leF, n_ltT, n_ltF, n_eqF, n_b0, at_146_599, Gy_aload_1, at_146_600, Gy_iload_23, at_146_602, Gy_iload_15, at_146_604, cat_n, cat_i, cat_r, cat_l, tl_i, tl_l, tl_n, y_sh, y_shh, at_146_607, Gy_iconst, kc_1, jy_146_608, Nat.reduceAdd, Nat.reduceMul, Nat.reduceLeDiff, Nat.reduceSub, decide_true, decide_false, Bool.toNat_true, Bool.toNat_false, not_true_eq_false, not_false_eq_true, ite_not, true_and, and_true, if_true, if_false, ↓reduceIte, Bool.or_true, Bool.true_or, Bool.or_false, c, zq_seen w1, hs]
        exact nx
      | true =>
        rcases LD_all wr wg hn hmn c (Or.inr hs) with z | z
        · rw [← z] at nx
          simp (disch := first | omega | assumption | exact yrt_146 | fail) only [yrt_146, ab_kl_n, ab_kl_i, ab_kl_r, ab_kl_l, at_146_594, Gy_iload_16, jy_146_596, q_le, q_lt, q_eq, n_leT, n_leF, n_ltT, n_ltF, n_eqF, n_b0, at_146_599, Gy_aload_1, at_146_600, Gy_iload_23, at_146_602, Gy_iload_15, at_146_604, cat_n, cat_i, cat_r, cat_l, tl_i, tl_l, tl_n, y_sh, y_shh, at_146_607, Gy_iconst, kc_1, jy_146_608, at_146_611, at_146_613, Gy_iload_22, jy_146_615, Nat.reduceAdd, Nat.reduceMul, Nat.reduceLeDiff, Nat.reduceSub, decide_true, decide_false, Bool.toNat_true, Bool.toNat_false, not_true_eq_false, not_false_eq_true, ite_not, true_and, and_true, if_true, if_false, ↓reduceIte, Bool.or_true, Bool.true_or, Bool.or_false, c, zq_seen w1, hs, ← z]
          exact nx
        · by_cases z2 : m = LD A n
          · rw [← z2] at nx
            simp (disch := first | omega | assumption | exact yrt_146 | fail) only [yrt_146, ab_kl_n, ab_kl_i, ab_kl_r, ab_kl_l, at_146_594, Gy_iload_16, jy_146_596, q_le, q_lt, q_eq, n_leT, n_leF, n_ltT, n_ltF, n_eqF, n_b0, at_146_599, Gy_aload_1, at_146_600, Gy_iload_23, at_146_602, Gy_iload_15, at_146_604, cat_n, cat_i, cat_r, cat_l, tl_i, tl_l, tl_n, y_sh, y_shh, at_146_607, Gy_iconst, kc_1, jy_146_608, at_146_611, at_146_613, Gy_iload_22, jy_146_615, Nat.reduceAdd, Nat.reduceMul, Nat.reduceLeDiff, Nat.reduceSub, decide_true, decide_false, Bool.toNat_true, Bool.toNat_false, not_true_eq_false, not_false_eq_true, ite_not, true_and, and_true, if_true, if_false, ↓reduceIte, Bool.or_true, Bool.true_or, Bool.or_false, c, zq_seen w1, hs, ← z2]
            exact nx
          · simp (disch := first | omega | assumption | exact yrt_146 | fail) only [yrt_146, ab_kl_n, ab_kl_i, ab_kl_r, ab_kl_l, at_146_594, Gy_iload_16, jy_146_596, q_le, q_lt, q_eq, n_leT, n_leF, n_ltT, n_ltF, n_eqF, n_b0, at_146_599, Gy_aload_1, at_146_600, Gy_iload_23, at_146_602, Gy_iload_15, at_146_604, cat_n, cat_i, cat_r, cat_l, tl_i, tl_l, tl_n, y_sh, y_shh, at_146_607, Gy_iconst, kc_1, jy_146_608, at_146_611, at_146_613, Gy_iload_22, jy_146_615, at_146_618, at_146_619, at_146_621, at_146_623, at_146_626, jy_146_627, Nat.reduceAdd, Nat.reduceMul, Nat.reduceLeDiff, Nat.reduceSub, decide_true, decide_false, Bool.toNat_true, Bool.toNat_false, not_true_eq_false, not_false_eq_true, ite_not, true_and, and_true, if_true, if_false, ↓reduceIte, Bool.or_true, Bool.true_or, Bool.or_false, c, zq_seen w1, hs, z2, z]
            exact nx
    · simp (disch := first | omega | assumption | exact yrt_146 | fail) only [yrt_146, ab_kl_n, ab_kl_i, ab_kl_r, ab_kl_l, at_146_594, Gy_iload_16, jy_146_596, q_le, q_lt, q_eq, n_leT, n_leF, n_ltT, n_ltF, n_eqF, n_b0, Nat.reduceAdd, Nat.reduceMul, Nat.reduceLeDiff, Nat.reduceSub, decide_true, decide_false, Bool.toNat_true, Bool.toNat_false, not_true_eq_false, not_false_eq_true, ite_not, true_and, and_true, if_true, if_false, ↓reduceIte, Bool.or_true, Bool.true_or, Bool.or_false, c]
      exact nx
theorem f_c7 (o : OZ A) (w : WL8 s A I0 J0 I J) (hn : n < A 0 1) {l22 : Int32} {l23 : Option Value} (K : ∀ I' J' x23, WL8 s A I0 J0 I' J' → Gy xs (ab_at 146 702) 146 702 [some (.ref 2000), some (.ref 0), some (.ref 199), some (.ref 200), some (.ref 201), some (.ref 202), some (.ref 203), some (.ref 204), some (.ref 205), some (.ref 206), some (.ref 207), some (.int (nI (A 0 1))), some (.int (nI tn)), some (.int (nI (rc A 100 (P0 A)))), l14, some (.int (nI n)), some (.int (nI (PP A n))), l17, l18, l19, l20, some (.int l21), some (.int l22), some (.int x23)] [] (SH ++ E, I', J') Q) :
    Gy xs (ab_at 146 638) 146 638 [some (.ref 2000), some (.ref 0), some (.ref 199), some (.ref 200), some (.ref 201), some (.ref 202), some (.ref 203), some (.ref 204), some (.ref 205), some (.ref 206), some (.ref 207), some (.int (nI (A 0 1))), some (.int (nI tn)), some (.int (nI (rc A 100 (P0 A)))), l14, some (.int (nI n)), some (.int (nI (PP A n))), l17, l18, l19, l20, some (.int l21), some (.int l22), l23] [] (SH ++ E, I, J) Q := by
  have n20 := W_N w
  have wr := o.1.2.1
  have wg := o.1.2.2.1
  obtain ⟨f1, f2⟩ := F_ok wr wg (ZP_AHD wr o.2) n hn
  simp (disch := first | omega | assumption | exact yrt_146 | fail) only [yrt_146, ab_kl_n, ab_kl_i, ab_kl_r, ab_kl_l, at_146_638, Gy_aload_1, at_146_639, Gy_iload_15, Nat.reduceAdd, Nat.reduceMul, Nat.reduceLeDiff, Nat.reduceSub, decide_true, decide_false, Bool.toNat_true, Bool.toNat_false, not_true_eq_false, not_false_eq_true, ite_not, true_and, and_true, if_true, if_false, ↓reduceIte, Bool.or_true, Bool.true_or, Bool.or_false]
  refine z_form w hn (by simp only [cat_n, cat_i, cat_r, cat_l]; omega) fun I1 J1 w1 => ?_
  cases hf : FF A n with
  | inl f =>
    obtain ⟨g1, g2⟩ := f1 f hf
    have e1 : nmI (Sum.inl f) = nI f := rfl
    have e2 : ¬ f < 0 := by omega
    rw [e1]
    simp (disch := first | omega | assumption | exact yrt_146 | fail) only [yrt_146, ab_kl_n, ab_kl_i, ab_kl_r, ab_kl_l, at_146_644, Gy_istore_23, ab_put_int_23, at_146_646, Gy_iload_23, jy_146_648, q_le, q_lt, q_eq, n_leT, n_leF, n_ltT, n_ltF, n_eqF, n_b0, at_146_651, Gy_iconst, kc_1, jy_146_652, at_146_655, kc_0, at_146_656, Gy_aload_1, at_146_657, Gy_iload_15, Nat.reduceAdd, Nat.reduceMul, Nat.reduceLeDiff, Nat.reduceSub, decide_true, decide_false, Bool.toNat_true, Bool.toNat_false, not_true_eq_false, not_false_eq_true, ite_not, true_and, and_true, if_true, if_false, ↓reduceIte, Bool.or_true, Bool.true_or, Bool.or_false, e2]
    refine z_number w1 hn (by simp only [cat_n, cat_i, cat_r, cat_l]; omega) fun I2 J2 w2 => ?_
    have e3 : nvL (FF A n) = lN 2000000000000 := by rw [hf]; rfl
    rw [e3]
    have g1' : ¬ n < f := by omega
    simp (disch := first | omega | assumption | exact yrt_146 | fail) only [yrt_146, ab_kl_n, ab_kl_i, ab_kl_r, ab_kl_l, at_146_662, ldy2_100, at_146_665, Gy_lcmp, jy_146_666, q_le, q_lt, q_eq, n_leT, n_leF, n_ltT, n_ltF, n_eqF, n_b0, at_146_669, Gy_iconst, kc_1, jy_146_670, at_146_673, kc_0, jy_146_674, at_146_677, Gy_iload_23, at_146_679, Gy_iload_15, jy_146_681, at_146_684, jy_146_686, at_146_689, Gy_aload_1, at_146_690, Nat.reduceAdd, Nat.reduceMul, Nat.reduceLeDiff, Nat.reduceSub, decide_true, decide_false, Bool.toNat_true, Bool.toNat_false, not_true_eq_false, not_false_eq_true, ite_not, true_and, and_true, if_true, if_false, ↓reduceIte, Bool.or_true, Bool.true_or, Bool.or_false, lc_eq, g1', e2]
    refine z_form w2 (by omega) (by simp only [cat_n, cat_i, cat_r, cat_l]; omega) fun I3 J3 w3 => ?_
    have e4 : nmI (FF A f) = nI f := by rw [g2]; rfl
    rw [e4]
    simp (disch := first | omega | assumption | exact yrt_146 | fail) only [yrt_146, ab_kl_n, ab_kl_i, ab_kl_r, ab_kl_l, at_146_695, Gy_iload_23, jy_146_697, q_le, q_lt, q_eq, n_leT, n_leF, n_ltT, n_ltF, n_eqF, n_b0, Nat.reduceAdd, Nat.reduceMul, Nat.reduceLeDiff, Nat.reduceSub, decide_true, decide_false, Bool.toNat_true, Bool.toNat_false, not_true_eq_false, not_false_eq_true, ite_not, true_and, and_true, if_true, if_false, ↓reduceIte, Bool.or_true, Bool.true_or, Bool.or_false]
    exact K I3 J3 _ w3
  | inr v =>
    have g2 : ¬ v = lN 2000000000000 := LG_NOT (f2 v hf)
    have e1 : nmI (Sum.inr v) = -4 := rfl
    have e2 : (-4 : Int32) < nI 0 := by decide
    have e5 : ¬ nI n < -4 := fun z => absurd (Int32.lt_trans z e2) (by rw [q_lt (by omega) (by omega)]; omega)
    rw [e1]
    simp (disch := first | omega | assumption | exact yrt_146 | fail) only [yrt_146, ab_kl_n, ab_kl_i, ab_kl_r, ab_kl_l, at_146_644, Gy_istore_23, ab_put_int_23, at_146_646, Gy_iload_23, jy_146_648, q_le, q_lt, q_eq, n_leT, n_leF, n_ltT, n_ltF, n_eqF, n_b0, at_146_651, Gy_iconst, kc_1, jy_146_652, at_146_655, kc_0, at_146_656, Gy_aload_1, at_146_657, Gy_iload_15, Nat.reduceAdd, Nat.reduceMul, Nat.reduceLeDiff, Nat.reduceSub, decide_true, decide_false, Bool.toNat_true, Bool.toNat_false, not_true_eq_false, not_false_eq_true, ite_not, true_and, and_true, if_true, if_false, ↓reduceIte, Bool.or_true, Bool.true_or, Bool.or_false, e2]
    refine z_number w1 hn (by simp only [cat_n, cat_i, cat_r, cat_l]; omega) fun I2 J2 w2 => ?_
    have e3 : nvL (FF A n) = v := by rw [hf]; rfl
    rw [e3]
    simp (disch := first | omega | assumption | exact yrt_146 | fail) only [yrt_146, ab_kl_n, ab_kl_i, ab_kl_r, ab_kl_l, at_146_662, ldy2_100, at_146_665, Gy_lcmp, jy_146_666, q_le, q_lt, q_eq, n_leT, n_leF, n_ltT, n_ltF, n_eqF, n_b0, at_146_669, Gy_iconst, kc_1, jy_146_670, at_146_673, kc_0, jy_146_674, at_146_677, Gy_iload_23, at_146_679, Gy_iload_15, jy_146_681, at_146_684, jy_146_686, at_146_689, Gy_aload_1, at_146_690, Nat.reduceAdd, Nat.reduceMul, Nat.reduceLeDiff, Nat.reduceSub, decide_true, decide_false, Bool.toNat_true, Bool.toNat_false, not_true_eq_false, not_false_eq_true, ite_not, true_and, and_true, if_true, if_false, ↓reduceIte, Bool.or_true, Bool.true_or, Bool.or_false, lc_eq, g2, e2, e5]
    exact K I2 J2 _ w2
end LWF
