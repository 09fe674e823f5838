/-! THE LAW'S CODE: what is set, altered -/
section LSE
variable {xs : List Int32} {Q : Option Value → ab_H → Prop} {E : ab_Sh} {I I0 I' : Nat → Nat → Int32} {J J0 J' : Nat → Nat → Int64} {s : VS} {A B : Nat → Nat → Nat} {n tn e i m N : Nat} {L : ab_L} {S : List Value} {pc len : Nat}
theorem z_back (w : WL8 s B I0 J0 I J) (im : v_im s 0 = some A) (hc : ab_cat S ≤ 8) (K : ∀ s' I' J', WL8 s' A I0 J0 I' J' → Gy xs (ab_at 146 (pc + 3)) 146 (pc + 3) L (.int (nI (A 0 1)) :: S) (SH ++ E, I', J') Q) : Gy xs (some (.invokevirtual 180, len)) 146 pc L (.int (nI 0) :: .ref 0 :: S) (SH ++ E, I, J) Q := by
  have w0 := w
  obtain ⟨ok, e, h, -⟩ := w
  subst e
  rw [cy_180 y_ref0]
  have e1 : o_back s (nI 0) = nI (A 0 1) := by
    unfold o_back
    rw [il_c (by decide) (by decide), im]
  have e2 : v_a (n_back s (nI 0)) = A := by
    unfold n_back
    rw [if_pos (by decide), show (nI 0).toNatClampNeg = 0 by decide, im]
    rfl
  refine ⟨hc, Ey_of (C_back ok h (nI 0) fun I' J' x y => ⟨I', J', rfl, Or.inl ⟨rfl, rfl⟩, ?_⟩)⟩
  rw [e1]
  exact K _ I' J' (W_step w0 (OS_back ok _) e2 x y)
theorem z_keep (w : WL8 s A I0 J0 I J) (hc : ab_cat S ≤ 8) (K : ∀ s' I' J' k, k ≤ 1 → v_im s' 0 = some A → WL8 s' A I0 J0 I' J' → Gy xs (ab_at 146 (pc + 3)) 146 (pc + 3) L (.int (nI k) :: S) (SH ++ E, I', J') Q) : Gy xs (some (.invokevirtual 138, len)) 146 pc L (.int (nI 0) :: .ref 0 :: S) (SH ++ E, I, J) Q := by
  have w0 := w
  obtain ⟨ok, e, h, -⟩ := w
  subst e
  rw [cy_138 y_ref0]
  have e1 : o_keep s (nI 0) = nI (v_im s 0).isSome.toNat := by
    unfold o_keep
    rw [il_c (by decide) (by decide)]
  have e2 : n_keep s (nI 0) = w_im s (fun j => if j = 0 then some (v_a s) else v_im s j) := by
    unfold n_keep
    rw [if_pos (by decide), show (nI 0).toNatClampNeg = 0 by decide]
  refine ⟨hc, Ey_of (C_keep ok h (nI 0) fun I' J' x y => ⟨I', J', rfl, Or.inl ⟨rfl, rfl⟩, ?_⟩)⟩
  rw [e1]
  have oks := OS_keep ok (nI 0)
  rw [e2] at x oks
  exact K _ I' J' _ (Bool.toNat_le _) rfl (W_step w0 oks rfl x y)
/-- as set: not, not seen, set -/
theorem z_set (w : WL8 s A I0 J0 I J) (o : OZ A) (k7 : ∀ n, n < A 0 1 → A 10 n ≤ 7) (hn : n < A 0 1) (hi : i < 2) (hm : m < A 0 1) (hc : ab_cat S ≤ 8)
    (K1 : ∀ s' I' J', WL8 s' A I0 J0 I' J' → Gy xs (ab_at 146 (pc + 3)) 146 (pc + 3) L (.int (-1) :: S) (SH ++ E, I', J') Q)
    (K2 : so A m n i = false → ∀ s' I' J', WL8 s' A I0 J0 I' J' → Gy xs (ab_at 146 (pc + 3)) 146 (pc + 3) L (.int (-2) :: S) (SH ++ E, I', J') Q)
    (K3 : so A m n i = true → i < A 12 n → ∀ s' I' J', OZ (u1 A 14 (6 * n + i) m) → WL8 s' (u1 A 14 (6 * n + i) m) I0 J0 I' J' → Gy xs (ab_at 146 (pc + 3)) 146 (pc + 3) L (.int (nI (A 14 (6 * n + i))) :: S) (SH ++ E, I', J') Q) :
    Gy xs (some (.invokevirtual 183, len)) 146 pc L (.int (nI m) :: .int (nI i) :: .int (nI n) :: .ref 0 :: S) (SH ++ E, I, J) Q := by
  have n20 := W_N w
  have w0 := w
  obtain ⟨ok, e, h, -⟩ := w
  subst e
  have q1 : ∀ {a N : Nat}, a < N → N < 2147483648 → (nI 0 ≤ nI a ∧ nI a < nI N) := fun h1 h2 => ⟨by rw [q_le (by omega) (by omega)]; omega, by rw [q_lt (by omega) (by omega)]; exact h1⟩
  have a6 := (o.1.2.1.2.2.2 n hn).2.2.1
  have k8 : ¬ v_a s 10 m = 8 := by have := k7 m hm; omega
  rw [cy_183 y_ref0]
  refine ⟨hc, Ey_of (C_set ok h (nI n) (nI i) (nI m) fun I' J' x y => ⟨I', J', rfl, Or.inl ⟨rfl, rfl⟩, ?_⟩)⟩
  by_cases c : i < v_a s 12 n
  · cases hs : so (v_a s) m n i with
    | false =>
      have e1 : o_set (v_a s) (nI n) (nI i) (nI m) = -2 := by
        unfold o_set
        rw [il_c hn (by omega), il_c c (by omega), il_c hm (by omega)]
        exact if_pos (Or.inr hs)
      have e2 : n_set s (nI n) (nI i) (nI m) = s := by
        unfold n_set
        rw [if_pos (q1 hn (by omega)), nI_clamp (by omega), if_pos (q1 c (by omega)), if_pos (q1 hm (by omega)), nI_clamp (by omega), nI_clamp (by omega), if_pos (Or.inr hs)]
      rw [e1]
      rw [e2] at x
      exact K2 hs _ I' J' (W_step w0 ok rfl x y)
    | true =>
      have e1 : o_set (v_a s) (nI n) (nI i) (nI m) = nI (v_a s 14 (6 * n + i)) := by
        unfold o_set
        rw [il_c hn (by omega), il_c c (by omega), il_c hm (by omega)]
        exact if_neg (fun z => z.elim k8 (fun z => by rw [hs] at z; exact absurd z (by decide)))
      have e2 : n_set s (nI n) (nI i) (nI m) = w_a s (u1 (v_a s) 14 (6 * n + i) m) := by
        unfold n_set
        rw [if_pos (q1 hn (by omega)), nI_clamp (by omega), if_pos (q1 c (by omega)), if_pos (q1 hm (by omega)), nI_clamp (by omega), nI_clamp (by omega), if_neg (fun z => z.elim k8 (fun z => by rw [hs] at z; exact absurd z (by decide)))]
      rw [e1]
      have oks := OS_set ok (nI n) (nI i) (nI m)
      rw [e2] at x oks
      exact K3 hs c _ I' J' ⟨OA_set o.1 hm, ZP_set o.1.2.1 o.2 (by omega) hs k8⟩ (W_step w0 oks rfl x y)
  · have nc : ¬ (nI 0 ≤ nI i ∧ nI i < nI (v_a s 12 n)) := fun z => by
      have := z.2
      rw [q_lt (by omega) (by omega)] at this
      exact c this
    have e1 : o_set (v_a s) (nI n) (nI i) (nI m) = -1 := by
      unfold o_set
      rw [il_c hn (by omega), il_out nc]
    have e2 : n_set s (nI n) (nI i) (nI m) = s := by
      unfold n_set
      rw [if_pos (q1 hn (by omega)), nI_clamp (by omega), if_neg nc]
    rw [e1]
    rw [e2] at x
    exact K1 _ I' J' (W_step w0 ok rfl x y)
theorem z_alter {v : Nat} (w : WL8 s A I0 J0 I J) (o : OZ A) (hn : n < A 0 1) (hv : v < 3) (hc : ab_cat S ≤ 8)
    (K : ∀ s' A' I' J' x, x ≠ -2 → OZ A' → A' 0 1 = A 0 1 → A' 10 = A 10 → WL8 s' A' I0 J0 I' J' → Gy xs (ab_at 146 (pc + 3)) 146 (pc + 3) L (.int x :: S) (SH ++ E, I', J') Q) :
    Gy xs (some (.invokevirtual 186, len)) 146 pc L (.int (nI v) :: .int (nI n) :: .ref 0 :: S) (SH ++ E, I, J) Q := by
  have n20 := W_N w
  have w0 := w
  obtain ⟨ok, e, h, -⟩ := w
  subst e
  have q1 : ∀ {a N : Nat}, a < N → N < 2147483648 → (nI 0 ≤ nI a ∧ nI a < nI N) := fun h1 h2 => ⟨by rw [q_le (by omega) (by omega)]; omega, by rw [q_lt (by omega) (by omega)]; exact h1⟩
  rw [cy_186 y_ref0]
  refine ⟨hc, Ey_of (C_alter ok h (nI n) (nI v) fun I' J' x y => ⟨I', J', rfl, Or.inl ⟨rfl, rfl⟩, ?_⟩)⟩
  have hf : v < hiF (v_a s) n ∧ hiF (v_a s) n ≤ 100 := by unfold hiF; split <;> exact ⟨by omega, by omega⟩
  by_cases c : v_a s 10 n ≤ 1
  · have e1 : o_alter (v_a s) (nI n) (nI v) = nI (v_a s 13 n) := by
      unfold o_alter
      rw [il_c hn (by omega), if_pos c, il_c hf.1 (by omega)]
    have e2 : n_alter s (nI n) (nI v) = w_a s (u1 (v_a s) 13 n v) := by
      unfold n_alter
      rw [if_pos (q1 hn (by omega)), nI_clamp (by omega), if_pos c, if_pos (q1 hf.1 (by omega)), nI_clamp (by omega)]
    have b13 : v_a s 13 n ≤ 99 := by
      obtain ⟨-, -, -, -, -, -, -, -, v0, v1, -⟩ := o.1.2.1.2.2.2 n hn
      rcases (by omega : v_a s 10 n = 0 ∨ v_a s 10 n = 1) with z | z
      · exact v0 z
      · have := v1 z; omega
    rw [e1]
    have oks := OS_alter ok (nI n) (nI v)
    rw [e2] at x oks
    refine K _ _ I' J' _ (fun z => ?_) ⟨OA_alter o.1 c hf.1, ZP_alter o.2⟩ rfl rfl (W_step w0 oks rfl x y)
    have e5 : nI 0 ≤ nI (v_a s 13 n) := by rw [q_le (by omega) (by omega)]; omega
    rw [z] at e5
    exact absurd e5 (by decide)
  · have e1 : o_alter (v_a s) (nI n) (nI v) = -1 := by
      unfold o_alter
      rw [il_c hn (by omega), if_neg c]
    have e2 : n_alter s (nI n) (nI v) = s := by
      unfold n_alter
      rw [if_pos (q1 hn (by omega)), nI_clamp (by omega), if_neg c]
    rw [e1]
    rw [e2] at x
    exact K _ _ I' J' _ (by decide) o rfl rfl (W_step w0 ok rfl x y)
set_option maxRecDepth 4000 in
theorem f_sets (hx : xs.length ≤ 260) (ht : tn < 2) (h0 : 0 < N) {l13 l14 l15 l16 : Option Value} {r17 : Nat}
    (K : ∀ s A I' J' x18 l19 l20 l21 l22 l23, OZ A → A 0 1 = N → (∀ n, n < A 0 1 → A 10 n ≤ 7) → WL8 s A I0 J0 I' J' → Gy xs (ab_at 146 1568) 146 1568 [some (.ref 2000), some (.ref 0), some (.ref 199), some (.ref 200), some (.ref 201), some (.ref 202), some (.ref 203), some (.ref 204), some (.ref 205), some (.ref 206), some (.ref 207), some (.int (nI N)), some (.int (nI tn)), l13, l14, l15, l16, some (.ref r17), some (.int x18), l19, l20, l21, l22, l23] [] (SH ++ E, I', J') Q) :
    ∀ d t s A I J l19 l20 l21 l22 l23, t + d = 6 → OZ A → A 0 1 = N → (∀ n, n < A 0 1 → A 10 n ≤ 7) → WL8 s A I0 J0 I J → Gy xs (ab_at 146 1421) 146 1421 [some (.ref 2000), some (.ref 0), some (.ref 199), some (.ref 200), some (.ref 201), some (.ref 202), some (.ref 203), some (.ref 204), some (.ref 205), some (.ref 206), some (.ref 207), some (.int (nI N)), some (.int (nI tn)), l13, l14, l15, l16, some (.ref r17), some (.int (nI t)), l19, l20, l21, l22, l23] [] (SH ++ E, I, J) Q := by
  intro d
  induction d with
  | zero =>
    intro t s A I J l19 l20 l21 l22 l23 hd o eN k7 w
    have e : t = 6 := by omega
    subst e
    rw [at_146_1421]
    simp (disch := first | omega | assumption | exact yrt_146 | fail) only [yrt_146, ab_kl_n, ab_kl_i, ab_kl_r, ab_kl_l, Gy_iload_18, at_146_1423, Gy_bipush, kb_6, jy_146_1425, q_le, q_lt, q_eq, n_leT, n_leF, n_ltT, n_ltF, n_eqF, n_b0, Nat.reduceAdd, Nat.reduceMul, Nat.reduceLeDiff, Nat.reduceSub, decide_true, decide_false, Bool.toNat_true, Bool.toNat_false, not_true_eq_false, not_false_eq_true, ite_not, true_and, and_true, if_true, if_false, ↓reduceIte, Bool.or_true, Bool.true_or, Bool.or_false]
    exact K s A I J _ _ _ _ _ _ o eN k7 w
  | succ d ih =>
    intro t s A I J l19 l20 l21 l22 l23 hd o eN k7 w
    have n20 := W_N w
    have t6 : ¬ 6 ≤ t := by omega
    have hN : N ≤ 20 := by omega
    generalize hX : cellv xs (41 + 6 * tn + t) = X
    have p1 := pt_lt (v := X) h0
    have p2 := pt_lt (v := X >>> (nI 5 &&& 31)) (show 0 < 2 by decide)
    have p3 := pt_lt (v := X >>> (nI 3 &&& 31)) h0
    have nx : ∀ s A I J x19 x20 x21 x22 x23, OZ A → A 0 1 = N → (∀ n, n < A 0 1 → A 10 n ≤ 7) → WL8 s A I0 J0 I J → Gy xs (ab_at 146 1562) 146 1562 [some (.ref 2000), some (.ref 0), some (.ref 199), some (.ref 200), some (.ref 201), some (.ref 202), some (.ref 203), some (.ref 204), some (.ref 205), some (.ref 206), some (.ref 207), some (.int (nI N)), some (.int (nI tn)), l13, l14, l15, l16, some (.ref r17), some (.int (nI t)), some (.int x19), some (.int x20), some (.int x21), some (.int x22), some (.int x23)] [] (SH ++ E, I, J) Q := by
      intro s A I J x19 x20 x21 x22 x23 o eN k7 w
      simp (disch := first | omega | assumption | exact yrt_146 | fail) only [yrt_146, ab_kl_n, ab_kl_i, ab_kl_r, ab_kl_l, at_146_1562, Gy_iinc_18, ab_put_int_18, kc_1, q_add, jy_146_1565, Nat.reduceAdd, Nat.reduceMul, Nat.reduceLeDiff, Nat.reduceSub, decide_true, decide_false, Bool.toNat_true, Bool.toNat_false, not_true_eq_false, not_false_eq_true, ite_not, true_and, and_true, if_true, if_false, ↓reduceIte, Bool.or_true, Bool.true_or, Bool.or_false]
      exact ih (t + 1) s A I J _ _ _ _ _ (by omega) o eN k7 w
    rw [at_146_1421]
    simp (disch := first | omega | assumption | exact yrt_146 | exact y_ok2 | fail) only [yrt_146, ab_kl_n, ab_kl_i, ab_kl_r, ab_kl_l, Gy_iload_18, at_146_1423, Gy_bipush, kb_6, jy_146_1425, q_le, q_lt, q_eq, n_leT, n_leF, n_ltT, n_ltF, n_eqF, n_b0, at_146_1428, Gy_aload_0, at_146_1429, kb_41, at_146_1431, at_146_1433, Gy_iload_12, at_146_1435, Gy_imul, q_mul, at_146_1436, Gy_iadd, q_add, Nat.zero_add, at_146_1437, at_146_1439, at_146_1440, cy_73, cat_n, cat_i, cat_r, cat_l, tl_i, tl_l, tl_n, y_sh, y_shh, at_146_1443, Gy_istore_19, ab_put_int_19, at_146_1445, Gy_iload_19, at_146_1447, Gy_iload_11, at_146_1449, cy_69, at_146_1452, Gy_istore_20, ab_put_int_20, at_146_1454, at_146_1456, Gy_iconst, kc_5, at_146_1457, Gy_ishr, at_146_1458, kc_2, at_146_1459, at_146_1462, Gy_istore_21, ab_put_int_21, at_146_1464, at_146_1466, kc_3, at_146_1467, at_146_1468, at_146_1470, at_146_1473, Gy_istore_22, ab_put_int_22, at_146_1475, Gy_aload_1, at_146_1476, Gy_iload_20, at_146_1478, Gy_iload_21, at_146_1480, Gy_iload_22, Nat.reduceAdd, Nat.reduceMul, Nat.reduceLeDiff, Nat.reduceSub, decide_true, decide_false, Bool.toNat_true, Bool.toNat_false, not_true_eq_false, not_false_eq_true, ite_not, true_and, and_true, if_true, if_false, ↓reduceIte, Bool.or_true, Bool.true_or, Bool.or_false, t6, y_cell hx, y_part, hX]
    have hn : pt X N < A 0 1 := by omega
    have hm : pt (X >>> (nI 3 &&& 31)) N < A 0 1 := by omega
    generalize pt X N = n at hn
    generalize pt (X >>> (nI 5 &&& 31)) 2 = i at p2
    generalize pt (X >>> (nI 3 &&& 31)) N = m at hm
    have k8 := k7 n hn
    refine z_set w o k7 hn p2 hm (by simp only [cat_n, cat_i, cat_r, cat_l]; omega) (fun s1 I1 J1 w1 => ?_) (fun hs s1 I1 J1 w1 => ?_) (fun hs hi s1 I1 J1 o1 w1 => ?_)
    · have c1 : (-1 : Int32) < nI 0 := by decide
      have c2 : ¬ (-1 : Int32) = -2 := by decide
      simp (disch := first | omega | assumption | exact yrt_146 | fail) only [yrt_146, ab_kl_n, ab_kl_i, ab_kl_r, ab_kl_l, at_146_1485, Gy_istore_23, ab_put_int_23, at_146_1487, Gy_iload_23, jy_146_1489, q_le, q_lt, q_eq, n_leT, n_leF, n_ltT, n_ltF, n_eqF, n_b0, at_146_1492, Gy_aload_1, at_146_1493, Gy_iload_20, at_146_1495, Gy_iload_21, at_146_1497, cat_n, cat_i, cat_r, cat_l, tl_i, tl_l, tl_n, y_sh, y_shh, at_146_1500, Gy_iload_22, jy_146_1502, at_146_1505, at_146_1506, at_146_1508, Gy_iconst, kc_0, at_146_1509, at_146_1512, Gy_bipush, kb_7, jy_146_1514, at_146_1517, at_146_1518, at_146_1520, at_146_1522, at_146_1525, kc_1, jy_146_1526, at_146_1529, at_146_1531, kb_m2, jy_146_1533, Nat.reduceAdd, Nat.reduceMul, Nat.reduceLeDiff, Nat.reduceSub, decide_true, decide_false, Bool.toNat_true, Bool.toNat_false, not_true_eq_false, not_false_eq_true, ite_not, true_and, and_true, if_true, if_false, ↓reduceIte, Bool.or_true, Bool.true_or, Bool.or_false, c1, c2]
      exact nx s1 A I1 J1 _ _ _ _ _ o eN k7 w1
    · have c1 : (-2 : Int32) < nI 0 := by decide
      by_cases c7 : A 10 n = 7
      · simp (disch := first | omega | assumption | exact yrt_146 | fail) only [yrt_146, ab_kl_n, ab_kl_i, ab_kl_r, ab_kl_l, at_146_1485, Gy_istore_23, ab_put_int_23, at_146_1487, Gy_iload_23, jy_146_1489, q_le, q_lt, q_eq, n_leT, n_leF, n_ltT, n_ltF, n_eqF, n_b0, at_146_1492, Gy_aload_1, at_146_1493, Gy_iload_20, at_146_1495, Gy_iload_21, at_146_1497, cat_n, cat_i, cat_r, cat_l, tl_i, tl_l, tl_n, y_sh, y_shh, at_146_1500, Gy_iload_22, jy_146_1502, at_146_1505, at_146_1506, at_146_1508, Gy_iconst, kc_0, at_146_1509, at_146_1512, Gy_bipush, kb_7, jy_146_1514, at_146_1517, at_146_1518, at_146_1520, at_146_1522, at_146_1525, kc_1, jy_146_1526, at_146_1529, at_146_1531, kb_m2, jy_146_1533, at_146_1536, at_146_1537, at_146_1539, at_146_1540, at_146_1543, jy_146_1545, at_146_1548, at_146_1549, at_146_1551, at_146_1553, at_146_1556, jy_146_1557, Nat.reduceAdd, Nat.reduceMul, Nat.reduceLeDiff, Nat.reduceSub, decide_true, decide_false, Bool.toNat_true, Bool.toNat_false, not_true_eq_false, not_false_eq_true, ite_not, true_and, and_true, if_true, if_false, ↓reduceIte, Bool.or_true, Bool.true_or, Bool.or_false, c1, zq_n0 w1, c7]
        exact nx s1 A I1 J1 _ _ _ _ _ o eN k7 w1
      · have hsn : sn A m n = false := by
          unfold so at hs
          rw [if_neg c7] at hs
          exact hs
        simp (disch := first | omega | assumption | exact yrt_146 | fail) only [yrt_146, ab_kl_n, ab_kl_i, ab_kl_r, ab_kl_l, at_146_1485, Gy_istore_23, ab_put_int_23, at_146_1487, Gy_iload_23, jy_146_1489, q_le, q_lt, q_eq, n_leT, n_leF, n_ltT, n_ltF, n_eqF, n_b0, at_146_1492, Gy_aload_1, at_146_1493, Gy_iload_20, at_146_1495, Gy_iload_21, at_146_1497, cat_n, cat_i, cat_r, cat_l, tl_i, tl_l, tl_n, y_sh, y_shh, at_146_1500, Gy_iload_22, jy_146_1502, at_146_1505, at_146_1506, at_146_1508, Gy_iconst, kc_0, at_146_1509, at_146_1512, Gy_bipush, kb_7, jy_146_1514, at_146_1517, at_146_1518, at_146_1520, at_146_1522, at_146_1525, kc_1, jy_146_1526, at_146_1529, at_146_1531, kb_m2, jy_146_1533, at_146_1536, at_146_1537, at_146_1539, at_146_1540, at_146_1543, jy_146_1545, at_146_1548, at_146_1549, at_146_1551, at_146_1553, at_146_1556, jy_146_1557, Nat.reduceAdd, Nat.reduceMul, Nat.reduceLeDiff, Nat.reduceSub, decide_true, decide_false, Bool.toNat_true, Bool.toNat_false, not_true_eq_false, not_false_eq_true, ite_not, true_and, and_true, if_true, if_false, ↓reduceIte, Bool.or_true, Bool.true_or, Bool.or_false, c1, zq_n0 w1, c7, zq_seen w1, hsn]
        exact nx s1 A I1 J1 _ _ _ _ _ o eN k7 w1
    · have hA := (o.1.2.1.2.2.2 n hn).2.2.2.2.2.2.2.2.2.2 i hi
      have a6 := (o.1.2.1.2.2.2 n hn).2.2.1
      have c1 : ¬ A 14 (6 * n + i) < 0 := by omega
      have c2 : ¬ nI (A 14 (6 * n + i)) = -2 := fun z => by
        have e5 : nI 0 ≤ nI (A 14 (6 * n + i)) := by rw [q_le (by omega) (by omega)]; omega
        rw [z] at e5
        exact absurd e5 (by decide)
      have d0 : (u1 A 14 (6 * n + i) m) 0 1 = A 0 1 := rfl
      have d10 : ∀ n', (u1 A 14 (6 * n + i) m) 10 n' = A 10 n' := fun _ => rfl
      have d12 : (u1 A 14 (6 * n + i) m) 12 n = A 12 n := rfl
      have d14 : (u1 A 14 (6 * n + i) m) 14 (6 * n + i) = m := if_pos ⟨rfl, rfl⟩
      have dsn : sn (u1 A 14 (6 * n + i) m) m n = sn A m n := rfl
      generalize u1 A 14 (6 * n + i) m = A1 at o1 w1 d0 d10 d12 d14 dsn
      have k71 : ∀ n, n < A1 0 1 → A1 10 n ≤ 7 := fun n' h' => by rw [d10]; exact k7 n' (by omega)
      have dk := d10 n
      by_cases c7 : A 10 n = 7
      · simp (disch := first | omega | assumption | exact yrt_146 | fail) only [yrt_146, ab_kl_n, ab_kl_i, ab_kl_r, ab_kl_l, at_146_1485, Gy_istore_23, ab_put_int_23, at_146_1487, Gy_iload_23, jy_146_1489, q_le, q_lt, q_eq, n_leT, n_leF, n_ltT, n_ltF, n_eqF, n_b0, at_146_1492, Gy_aload_1, at_146_1493, Gy_iload_20, at_146_1495, Gy_iload_21, at_146_1497, cat_n, cat_i, cat_r, cat_l, tl_i, tl_l, tl_n, y_sh, y_shh, at_146_1500, Gy_iload_22, jy_146_1502, at_146_1505, at_146_1506, at_146_1508, Gy_iconst, kc_0, at_146_1509, at_146_1512, Gy_bipush, kb_7, jy_146_1514, at_146_1517, at_146_1518, at_146_1520, at_146_1522, at_146_1525, kc_1, jy_146_1526, at_146_1529, at_146_1531, kb_m2, jy_146_1533, Nat.reduceAdd, Nat.reduceMul, Nat.reduceLeDiff, Nat.reduceSub, decide_true, decide_false, Bool.toNat_true, Bool.toNat_false, not_true_eq_false, not_false_eq_true, ite_not, true_and, and_true, if_true, if_false, ↓reduceIte, Bool.or_true, Bool.true_or, Bool.or_false, c1, c2, zq_n0 w1, zq_op w1, d14, dk, c7]
        exact nx s1 A1 I1 J1 _ _ _ _ _ o1 (by omega) k71 w1
      · have hsn : sn A m n = true := by
          unfold so at hs
          rw [if_neg c7] at hs
          exact hs
        rw [hsn] at dsn
        simp (disch := first | omega | assumption | exact yrt_146 | fail) only [yrt_146, ab_kl_n, ab_kl_i, ab_kl_r, ab_kl_l, at_146_1485, Gy_istore_23, ab_put_int_23, at_146_1487, Gy_iload_23, jy_146_1489, q_le, q_lt, q_eq, n_leT, n_leF, n_ltT, n_ltF, n_eqF, n_b0, at_146_1492, Gy_aload_1, at_146_1493, Gy_iload_20, at_146_1495, Gy_iload_21, at_146_1497, cat_n, cat_i, cat_r, cat_l, tl_i, tl_l, tl_n, y_sh, y_shh, at_146_1500, Gy_iload_22, jy_146_1502, at_146_1505, at_146_1506, at_146_1508, Gy_iconst, kc_0, at_146_1509, at_146_1512, Gy_bipush, kb_7, jy_146_1514, at_146_1517, at_146_1518, at_146_1520, at_146_1522, at_146_1525, kc_1, jy_146_1526, at_146_1529, at_146_1531, kb_m2, jy_146_1533, Nat.reduceAdd, Nat.reduceMul, Nat.reduceLeDiff, Nat.reduceSub, decide_true, decide_false, Bool.toNat_true, Bool.toNat_false, not_true_eq_false, not_false_eq_true, ite_not, true_and, and_true, if_true, if_false, ↓reduceIte, Bool.or_true, Bool.true_or, Bool.or_false, c1, c2, zq_n0 w1, zq_op w1, zq_seen w1, dsn, d14, dk, c7]
        exact nx s1 A1 I1 J1 _ _ _ _ _ o1 (by omega) k71 w1
end LSE
