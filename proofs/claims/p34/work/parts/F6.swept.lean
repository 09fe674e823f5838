/-! THE LAW'S CODE: what runs tell of what was replaced, swept -/
def RV (A B : Nat → Nat → Nat) : Prop := B 0 1 = A 0 1 ∧ ∀ ar, (run0 B ar none 0).2 = (run0 A ar none 0).2 ∧ ∀ n, n < A 0 1 → (run0 B ar none 0).1.1 n = if B 10 n = 8 then NOT else (run0 A ar none 0).1.1 n
section LRV
variable {A B : Nat → Nat → Nat}
theorem RV_refl (o : OZ A) : RV A A := ⟨rfl, fun ar => ⟨rfl, fun n hn => by
  by_cases c : A 10 n = 8
  · rw [if_pos c]
    exact ((run0_all o WOK_none 0 (ar := ar)).2 n hn).1 c
  · rw [if_neg c]⟩⟩
theorem RV_ex (o : OZ B) (h : RV A B) : RV A (exA B (ldA B)) := by
  have e0 : (exA B (ldA B)) 0 = B 0 := funext fun k => ex_0
  have e10 : (exA B (ldA B)) 10 = B 10 := funext fun k => ex_10
  refine ⟨by rw [e0]; exact h.1, fun ar => ?_⟩
  rw [run0_ex o, e10]
  exact h.2 ar
theorem RV_sw (o : OZ B) (h : RV A B) : RV A (swA B) := by
  have e0 : (swA B) 0 = B 0 := swA_o (by omega) (by omega)
  refine ⟨by rw [e0]; exact h.1, fun ar => ?_⟩
  obtain ⟨a, b⟩ := run0_sw o 0 0 (ar := ar)
  obtain ⟨c, d⟩ := h.2 ar
  refine ⟨a.trans c, fun n hn => ?_⟩
  obtain ⟨x, y⟩ := b n (by rw [h.1]; exact hn)
  by_cases z : swA B 10 n = 8
  · rw [if_pos z]; exact y z
  · rw [if_neg z, x z, d n hn]
    have := (swA_k (show n < B 0 1 by rw [h.1]; exact hn) z).2.1
    rw [if_neg (by omega)]
theorem exn_le {ld : Nat → Nat} (n : Nat) : ∀ i, exn A ld n i ≤ i := by
  intro i
  induction i with
  | zero => exact Nat.le_refl _
  | succ i ih =>
    rw [exn_succ]
    have : (decide (¬ ld (A 14 (6 * n + i)) = A 14 (6 * n + i))).toNat ≤ 1 := Bool.toNat_le _
    omega
theorem exc_le (hr : WR A) {ld : Nat → Nat} : ∀ n, n ≤ A 0 1 → exc A ld n ≤ 6 * n := by
  intro n
  induction n with
  | zero => intro _; exact Nat.le_refl _
  | succ n ih =>
    intro h
    rw [exc_succ]
    have := ih (by omega)
    have := exn_le (A := A) (ld := ld) n (A 12 n)
    have := (hr.2.2.2 n h).2.2.1
    omega
theorem sw_gone (o : OZ A) : cn (fun n => decide (swA A 10 n = 8)) (A 0 1) = cn (fun n => decide (A 10 n = 8)) (A 0 1) + swn A (A 0 1) := by
  have key : ∀ N, N ≤ A 0 1 → cn (fun n => decide (swA A 10 n = 8)) N = cn (fun n => decide (A 10 n = 8)) N + swn A N := by
    intro N
    induction N with
    | zero => intro _; rfl
    | succ N ih =>
      intro h
      have i := ih (by omega)
      rw [cn_succ, cn_succ, swn_succ, i, swA_10 h]
      cases hn : need A N with
      | true => simp; omega
      | false =>
        by_cases c : A 10 N = 8
        · simp [c]; omega
        · simp [c]; omega
  exact key _ (Nat.le_refl _)
theorem gone_uses (o : OZ A) {n : Nat} (hn : n < A 0 1) (h8 : A 10 n = 8) : sm (fun m => cn (fun i => decide (A 14 (6 * m + i) = n)) (A 12 m)) (A 0 1) + cn (fun b => decide (¬ A 3 b = 0 ∧ A 6 b = n)) (A 0 0) = 0 := by
  have z := o.2
  have e1 : cn (fun b => decide (¬ A 3 b = 0 ∧ A 6 b = n)) (A 0 0) = 0 := cn_zero _ fun b hb => decide_eq_false fun y => by
    have := (z.2.2.1 b hb y.1).2
    rw [y.2] at this
    exact this h8
  have e2 : ∀ N, N ≤ A 0 1 → sm (fun m => cn (fun i => decide (A 14 (6 * m + i) = n)) (A 12 m)) N = 0 := by
    intro N
    induction N with
    | zero => intro _; rfl
    | succ N ih =>
      intro h
      show sm _ N + cn (fun i => decide (A 14 (6 * N + i) = n)) (A 12 N) = 0
      rw [ih (by omega), cn_zero _ fun i hi => decide_eq_false fun y => by
        have := (z.2.1 N i h hi).2
        rw [y] at this
        exact this h8]
  rw [e1, e2 _ (Nat.le_refl _)]
end LRV
section LCK
variable {xs : List Int32} {Q : Option Value → ab_H → Prop} {E : ab_Sh} {I I0 I' : Nat → Nat → Int32} {J J0 J' : Nat → Nat → Int64} {s : VS} {A B : Nat → Nat → Nat} {n tn e r N : Nat}
set_option maxRecDepth 4000 in
theorem f_ckn (h60 : E[e + 1]? = some (11, 60, [])) (hr : r < 3) (rv : RV A B) (eN : A 0 1 = N) (hru : v_ru s = ruo B (arL xs tn r)) (tg : TG xs A tn e 3 J0) {l13 l14 l22 l23 : Option Value} {x15 x18 x20 : Int32}
    (K : ∀ I' J' x21, WL8 s B I0 J0 I' J' → Gy xs (ab_at 146 1394) 146 1394 [some (.ref 2000), some (.ref 0), some (.ref 199), some (.ref 200), some (.ref 201), some (.ref 202), some (.ref 203), some (.ref 204), some (.ref 205), some (.ref 206), some (.ref 207), some (.int (nI N)), some (.int (nI tn)), l13, l14, some (.int x15), some (.ref (199 + e)), some (.ref (199 + (e + 1))), some (.int x18), some (.int (nI r)), some (.int x20), some (.int x21), l22, l23] [] (SH ++ E, I', J') Q) :
    ∀ d n I J, n + d = N → WL8 s B I0 J0 I J → Gy xs (ab_at 146 1340) 146 1340 [some (.ref 2000), some (.ref 0), some (.ref 199), some (.ref 200), some (.ref 201), some (.ref 202), some (.ref 203), some (.ref 204), some (.ref 205), some (.ref 206), some (.ref 207), some (.int (nI N)), some (.int (nI tn)), l13, l14, some (.int x15), some (.ref (199 + e)), some (.ref (199 + (e + 1))), some (.int x18), some (.int (nI r)), some (.int x20), some (.int (nI n)), l22, l23] [] (SH ++ E, I, J) Q := by
  intro d
  induction d with
  | zero =>
    intro n I J hd w
    have n20 := W_N w
    have eB := rv.1
    have e : n = N := by omega
    subst e
    rw [at_146_1340]
    simp (disch := first | omega | assumption | exact yrt_146 | fail) only [yrt_146, ab_kl_n, ab_kl_i, ab_kl_r, ab_kl_l, Gy_iload_21, at_146_1342, Gy_iload_11, jy_146_1344, q_le, q_lt, q_eq, n_leT, n_leF, n_ltT, n_ltF, n_eqF, n_b0, Nat.reduceAdd, Nat.reduceMul, Nat.reduceLeDiff, Nat.reduceSub, decide_true, decide_false, Bool.toNat_true, Bool.toNat_false, not_true_eq_false, not_false_eq_true, ite_not, true_and, and_true, if_true, if_false, ↓reduceIte, Bool.or_true, Bool.true_or, Bool.or_false]
    exact K I J _ w
  | succ d ih =>
    intro n I J hd w
    have n20 := W_N w
    have eB := rv.1
    have hn : n < B 0 1 := by omega
    have ev := o_val hru w.2.1 hn n20
    have ed := (rv.2 (arL xs tn r)).2 n (by omega)
    have eV : (run0 A (arL xs tn r) none 0).1.1 n = VV xs A tn r n := rfl
    rw [eV] at ed
    rw [ed] at ev
    have hv : J (199 + (e + 1)) (20 * r + n) = VV xs A tn r n := (w.2.2.2.2 _ _ (by omega)).trans ((tg r hr).2.2 n (by omega))
    have nx : Gy xs (ab_at 146 1388) 146 1388 [some (.ref 2000), some (.ref 0), some (.ref 199), some (.ref 200), some (.ref 201), some (.ref 202), some (.ref 203), some (.ref 204), some (.ref 205), some (.ref 206), some (.ref 207), some (.int (nI N)), some (.int (nI tn)), l13, l14, some (.int x15), some (.ref (199 + e)), some (.ref (199 + (e + 1))), some (.int x18), some (.int (nI r)), some (.int x20), some (.int (nI n)), l22, l23] [] (SH ++ E, I, J) Q := by
      simp (disch := first | omega | assumption | exact yrt_146 | fail) only [yrt_146, ab_kl_n, ab_kl_i, ab_kl_r, ab_kl_l, at_146_1388, Gy_iinc_21, ab_put_int_21, kc_1, q_add, jy_146_1391, Nat.reduceAdd, Nat.reduceMul, Nat.reduceLeDiff, Nat.reduceSub, decide_true, decide_false, Bool.toNat_true, Bool.toNat_false, not_true_eq_false, not_false_eq_true, ite_not, true_and, and_true, if_true, if_false, ↓reduceIte, Bool.or_true, Bool.true_or, Bool.or_false]
      exact ih (n + 1) I J (by omega) w
    have k8 : B 10 n ≤ 8 := by
      have wr := w.1.1.2.1
      rw [w.2.1] at wr
      exact (wr.2.2.2 n hn).1
    have eNOT : NOT = lN 2000000000000 := rfl
    rw [at_146_1340]
    by_cases c : B 10 n = 8
    · rw [if_pos c, eNOT] at ev
      simp (disch := first | omega | assumption | exact yrt_146 | fail) only [yrt_146, ab_kl_n, ab_kl_i, ab_kl_r, ab_kl_l, Gy_iload_21, at_146_1342, Gy_iload_11, jy_146_1344, q_le, q_lt, q_eq, n_leT, n_leF, n_ltT, n_ltF, n_eqF, n_b0, at_146_1347, Gy_aload_1, at_146_1348, at_146_1350, cat_n, cat_i, cat_r, cat_l, tl_i, tl_l, tl_n, y_sh, y_shh, at_146_1353, at_146_1354, at_146_1356, Gy_iconst, kc_0, at_146_1357, at_146_1360, Gy_bipush, kb_8, jy_146_1362, at_146_1365, ldy2_100, jy_146_1368, at_146_1371, Gy_aload_17, at_146_1373, kb_20, at_146_1375, Gy_iload_19, at_146_1377, Gy_imul, q_mul, at_146_1378, at_146_1380, Gy_iadd, q_add, Nat.zero_add, at_146_1381, Gy_laload, q_in, q_cl, at_146_1382, Gy_lcmp, jy_146_1383, Nat.reduceAdd, Nat.reduceMul, Nat.reduceLeDiff, Nat.reduceSub, decide_true, decide_false, Bool.toNat_true, Bool.toNat_false, not_true_eq_false, not_false_eq_true, ite_not, true_and, and_true, if_true, if_false, ↓reduceIte, Bool.or_true, Bool.true_or, Bool.or_false, zq_value w, zq_n0 w, ev, c, lc_eq]
      exact nx
    · rw [if_neg c] at ev
      simp (disch := first | omega | assumption | exact yrt_146 | fail) only [yrt_146, ab_kl_n, ab_kl_i, ab_kl_r, ab_kl_l, Gy_iload_21, at_146_1342, Gy_iload_11, jy_146_1344, q_le, q_lt, q_eq, n_leT, n_leF, n_ltT, n_ltF, n_eqF, n_b0, at_146_1347, Gy_aload_1, at_146_1348, at_146_1350, cat_n, cat_i, cat_r, cat_l, tl_i, tl_l, tl_n, y_sh, y_shh, at_146_1353, at_146_1354, at_146_1356, Gy_iconst, kc_0, at_146_1357, at_146_1360, Gy_bipush, kb_8, jy_146_1362, at_146_1365, ldy2_100, jy_146_1368, at_146_1371, Gy_aload_17, at_146_1373, kb_20, at_146_1375, Gy_iload_19, at_146_1377, Gy_imul, q_mul, at_146_1378, at_146_1380, Gy_iadd, q_add, Nat.zero_add, at_146_1381, Gy_laload, q_in, q_cl, at_146_1382, Gy_lcmp, jy_146_1383, Nat.reduceAdd, Nat.reduceMul, Nat.reduceLeDiff, Nat.reduceSub, decide_true, decide_false, Bool.toNat_true, Bool.toNat_false, not_true_eq_false, not_false_eq_true, ite_not, true_and, and_true, if_true, if_false, ↓reduceIte, Bool.or_true, Bool.true_or, Bool.or_false, zq_value w, zq_n0 w, ev, c, lc_eq, y_ref h60, y_lna h60, hv]
      exact nx
set_option maxRecDepth 4000 in
theorem f_chk (hx : xs.length ≤ 260) (ht : tn < 2) (h6 : E[e]? = some (11, 6, [])) (h60 : E[e + 1]? = some (11, 60, [])) (rv : RV A B) (eN : A 0 1 = N) (tg : TG xs A tn e 3 J0) {l13 l14 l22 l23 : Option Value} {x15 x18 : Int32}
    (K : ∀ s I' J' l19 l20 l21, v_im s 0 = some A → WL8 s B I0 J0 I' J' → Gy xs (ab_at 146 1400) 146 1400 [some (.ref 2000), some (.ref 0), some (.ref 199), some (.ref 200), some (.ref 201), some (.ref 202), some (.ref 203), some (.ref 204), some (.ref 205), some (.ref 206), some (.ref 207), some (.int (nI N)), some (.int (nI tn)), l13, l14, some (.int x15), some (.ref (199 + e)), some (.ref (199 + (e + 1))), some (.int x18), some (.int l19), l20, l21, l22, l23] [] (SH ++ E, I', J') Q) :
    ∀ d r s I J l20 l21, r + d = 3 → v_im s 0 = some A → WL8 s B I0 J0 I J → Gy xs (ab_at 146 1231) 146 1231 [some (.ref 2000), some (.ref 0), some (.ref 199), some (.ref 200), some (.ref 201), some (.ref 202), some (.ref 203), some (.ref 204), some (.ref 205), some (.ref 206), some (.ref 207), some (.int (nI N)), some (.int (nI tn)), l13, l14, some (.int x15), some (.ref (199 + e)), some (.ref (199 + (e + 1))), some (.int x18), some (.int (nI r)), l20, l21, l22, l23] [] (SH ++ E, I, J) Q := by
  intro d
  induction d with
  | zero =>
    intro r s I J l20 l21 hd im w
    have e : r = 3 := by omega
    subst e
    rw [at_146_1231]
    simp (disch := first | omega | assumption | exact yrt_146 | fail) only [yrt_146, ab_kl_n, ab_kl_i, ab_kl_r, ab_kl_l, Gy_iload_19, at_146_1233, Gy_iconst, kc_3, jy_146_1234, q_le, q_lt, q_eq, n_leT, n_leF, n_ltT, n_ltF, n_eqF, n_b0, Nat.reduceAdd, Nat.reduceMul, Nat.reduceLeDiff, Nat.reduceSub, decide_true, decide_false, Bool.toNat_true, Bool.toNat_false, not_true_eq_false, not_false_eq_true, ite_not, true_and, and_true, if_true, if_false, ↓reduceIte, Bool.or_true, Bool.true_or, Bool.or_false]
    exact K s I J _ _ _ im w
  | succ d ih =>
    intro r s I J l20 l21 hd im w
    have n20 := W_N w
    have hr : r < 3 := by omega
    have hN : ¬ 3 ≤ r := by omega
    rw [at_146_1231]
    simp (disch := first | omega | assumption | exact yrt_146 | exact y_ok2 | fail) only [yrt_146, ab_kl_n, ab_kl_i, ab_kl_r, ab_kl_l, Gy_iload_19, at_146_1233, Gy_iconst, kc_3, jy_146_1234, q_le, q_lt, q_eq, n_leT, n_leF, n_ltT, n_ltF, n_eqF, n_b0, at_146_1237, Gy_aload_0, at_146_1238, Gy_bipush, kb_35, at_146_1240, at_146_1241, Gy_iload_12, at_146_1243, Gy_imul, q_mul, at_146_1244, Gy_iadd, q_add, Nat.zero_add, at_146_1245, at_146_1247, at_146_1248, cy_73, cat_n, cat_i, cat_r, cat_l, tl_i, tl_l, tl_n, y_sh, y_shh, at_146_1251, Gy_istore_20, ab_put_int_20, at_146_1253, Gy_aload_1, at_146_1254, Gy_iload_20, at_146_1256, kb_9, at_146_1258, cy_69, at_146_1261, kc_4, at_146_1262, Gy_isub, at_146_1263, at_146_1265, kc_2, at_146_1266, Gy_ishr, at_146_1267, at_146_1269, at_146_1272, at_146_1273, at_146_1274, at_146_1276, at_146_1277, at_146_1278, at_146_1280, at_146_1283, at_146_1284, at_146_1285, at_146_1287, kb_6, at_146_1289, at_146_1290, at_146_1292, at_146_1295, at_146_1296, Nat.reduceAdd, Nat.reduceMul, Nat.reduceLeDiff, Nat.reduceSub, decide_true, decide_false, Bool.toNat_true, Bool.toNat_false, not_true_eq_false, not_false_eq_true, ite_not, true_and, and_true, if_true, if_false, ↓reduceIte, Bool.or_true, Bool.true_or, Bool.or_false, hN, y_cell hx, y_part]
    refine z_run w (by simp only [cat_n, cat_i, cat_r, cat_l]; omega) fun I1 J1 w1 => ?_
    have ea : ar4 (nI (pt (cellv xs (35 + 3 * tn + r)) 9) - nI 4) (nI (pt (cellv xs (35 + 3 * tn + r) >>> (nI 2 &&& 31)) 9) - nI 4) (nI (pt (cellv xs (35 + 3 * tn + r) >>> (nI 4 &&& 31)) 9) - nI 4) (nI (pt (cellv xs (35 + 3 * tn + r) >>> (nI 6 &&& 31)) 9) - nI 4) = arL xs tn r := rfl
    rw [ea] at w1 ⊢
    have eR := (rv.2 (arL xs tn r)).1
    have et : toldV (run0 B (arL xs tn r) none 0).2.2 = tld xs A tn r := by rw [eR]; rfl
    rw [et]
    have hru : v_ru (w_ru s (ruo B (arL xs tn r))) = ruo B (arL xs tn r) := rfl
    have t1 : J1 (199 + e) r = tld xs A tn r := (w1.2.2.2.2 _ _ (by omega)).trans (tg r hr).1
    have t2 : J1 (199 + e) (3 + r) = wnt xs A tn r := (w1.2.2.2.2 _ _ (by omega)).trans (tg r hr).2.1
    simp (disch := first | omega | assumption | exact yrt_146 | fail) only [yrt_146, ab_kl_n, ab_kl_i, ab_kl_r, ab_kl_l, at_146_1300, Gy_aload_16, at_146_1302, Gy_iload_19, at_146_1304, Gy_laload, q_in, q_cl, at_146_1305, Gy_lcmp, jy_146_1306, q_le, q_lt, q_eq, n_leT, n_leF, n_ltT, n_ltF, n_eqF, n_b0, at_146_1309, Gy_aload_1, at_146_1310, Gy_iconst, kc_0, at_146_1311, cat_n, cat_i, cat_r, cat_l, tl_i, tl_l, tl_n, y_sh, y_shh, at_146_1314, Gy_bipush, kb_10, at_146_1316, Gy_imul, q_mul, at_146_1317, at_146_1318, kc_2, at_146_1319, at_146_1322, Gy_iadd, q_add, Nat.zero_add, Nat.reduceAdd, Nat.reduceMul, Nat.reduceLeDiff, Nat.reduceSub, decide_true, decide_false, Bool.toNat_true, Bool.toNat_false, not_true_eq_false, not_false_eq_true, ite_not, true_and, and_true, if_true, if_false, ↓reduceIte, Bool.or_true, Bool.true_or, Bool.or_false, y_ref h6, y_lna h6, t1, lc_eq, zq_went w1, o_went0 hru, o_went2 hru, eR]
    have ew : (nI ((run0 A (arL xs tn r) none 0).2.1 * 10 + (run0 A (arL xs tn r) none 0).2.2.isSome.toNat)).toInt64 = wnt xs A tn r := rfl
    simp (disch := first | omega | assumption | exact yrt_146 | fail) only [yrt_146, ab_kl_n, ab_kl_i, ab_kl_r, ab_kl_l, at_146_1323, Gy_i2l, at_146_1324, Gy_aload_16, at_146_1326, Gy_iconst, kc_3, at_146_1327, Gy_iload_19, at_146_1329, Gy_iadd, q_add, Nat.zero_add, at_146_1330, Gy_laload, q_in, q_cl, at_146_1331, Gy_lcmp, jy_146_1332, q_le, q_lt, q_eq, n_leT, n_leF, n_ltT, n_ltF, n_eqF, n_b0, at_146_1335, kc_0, at_146_1336, Gy_retb, Gy_retb0, Gy_retb1, at_146_1337, at_146_1338, Gy_istore_21, ab_put_int_21, Nat.reduceAdd, Nat.reduceMul, Nat.reduceLeDiff, Nat.reduceSub, decide_true, decide_false, Bool.toNat_true, Bool.toNat_false, not_true_eq_false, not_false_eq_true, ite_not, true_and, and_true, if_true, if_false, ↓reduceIte, Bool.or_true, Bool.true_or, Bool.or_false, ew, y_ref h6, y_lna h6, t2, lc_eq]
    refine f_ckn h60 hr rv eN hru tg (fun I3 J3 x21 w3 => ?_) _ 0 I1 J1 (Nat.zero_add _) w1
    simp (disch := first | omega | assumption | exact yrt_146 | fail) only [yrt_146, ab_kl_n, ab_kl_i, ab_kl_r, ab_kl_l, at_146_1394, Gy_iinc_19, ab_put_int_19, kc_1, q_add, jy_146_1397, Nat.reduceAdd, Nat.reduceMul, Nat.reduceLeDiff, Nat.reduceSub, decide_true, decide_false, Bool.toNat_true, Bool.toNat_false, not_true_eq_false, not_false_eq_true, ite_not, true_and, and_true, if_true, if_false, ↓reduceIte, Bool.or_true, Bool.true_or, Bool.or_false]
    exact ih (r + 1) _ I3 J3 _ _ (by omega) (show v_im (w_ru s (ruo B (arL xs tn r))) 0 = some A from im) w3
end LCK
