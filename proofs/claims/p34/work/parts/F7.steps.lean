/-! THE LAW'S CODE: replaced, swept, and back -/
section LST
variable {xs : List Int32} {Q : Option Value → ab_H → Prop} {E : ab_Sh} {I I0 I' : Nat → Nat → Int32} {J J0 J' : Nat → Nat → Int64} {s : VS} {A B : Nat → Nat → Nat} {n tn e r N : Nat} {L : ab_L} {S : List Value} {pc len : Nat}
theorem z_replace (w : WL8 s B I0 J0 I J) (hc : ab_cat S ≤ 8) (K : ∀ I' J' k, k ≤ 126 → WL8 (n_replace s) (exA B (ldA B)) I0 J0 I' J' → Gy xs (ab_at 146 (pc + 3)) 146 (pc + 3) L (.int (nI k) :: S) (SH ++ E, I', J') Q) : Gy xs (some (.invokevirtual 174, len)) 146 pc L (.ref 0 :: S) (SH ++ E, I, J) Q := by
  have w0 := w
  obtain ⟨ok, e, h, -⟩ := w
  subst e
  rw [cy_174 y_ref0]
  refine ⟨hc, Ey_of (C_replace ok h fun I' J' x y => ⟨I', J', rfl, Or.inl ⟨rfl, rfl⟩, ?_⟩)⟩
  refine K I' J' _ ?_ (W_step w0 (OS_replace ok) rfl x y)
  have h1 := exc_le ok.1.2.1 (ld := ldA (v_a s)) _ (Nat.le_refl _)
  have h2 : exb (v_a s) (ldA (v_a s)) (v_a s 0 0) ≤ v_a s 0 0 := cn_le _ _
  have h3 := ok.1.2.1.1
  have h4 := ok.1.2.1.2.1
  omega
theorem z_sweep (w : WL8 s B I0 J0 I J) (hc : ab_cat S ≤ 8) (K : ∀ I' J', WL8 (n_sweep s) (swA B) I0 J0 I' J' → Gy xs (ab_at 146 (pc + 3)) 146 (pc + 3) L (.int (nI (swn B (B 0 1))) :: S) (SH ++ E, I', J') Q) : Gy xs (some (.invokevirtual 177, len)) 146 pc L (.ref 0 :: S) (SH ++ E, I, J) Q := by
  have w0 := w
  obtain ⟨ok, e, h, -⟩ := w
  subst e
  rw [cy_177 y_ref0]
  refine ⟨hc, Ey_of (C_sweep ok h fun I' J' x y => ⟨I', J', rfl, Or.inl ⟨rfl, rfl⟩, ?_⟩)⟩
  exact K I' J' (W_step w0 (OS_sweep ok) rfl x y)
set_option maxRecDepth 4000 in
theorem f_gi (o : OZ B) (eN : B 0 1 = N) (hn : n < N) (w : WL8 s B I0 J0 I J) {l13 l14 l23 : Option Value} {x15 x18 x19 x20 : Int32}
    (K : ∀ x22, Gy xs (ab_at 146 1200) 146 1200 [some (.ref 2000), some (.ref 0), some (.ref 199), some (.ref 200), some (.ref 201), some (.ref 202), some (.ref 203), some (.ref 204), some (.ref 205), some (.ref 206), some (.ref 207), some (.int (nI N)), some (.int (nI tn)), l13, l14, some (.int x15), some (.ref (199 + e)), some (.ref (199 + (e + 1))), some (.int x18), some (.int x19), some (.int x20), some (.int (nI n)), some (.int x22), l23] [] (SH ++ E, I, J) Q) :
    ∀ d i, i + d = B 12 n → Gy xs (ab_at 146 1162) 146 1162 [some (.ref 2000), some (.ref 0), some (.ref 199), some (.ref 200), some (.ref 201), some (.ref 202), some (.ref 203), some (.ref 204), some (.ref 205), some (.ref 206), some (.ref 207), some (.int (nI N)), some (.int (nI tn)), l13, l14, some (.int x15), some (.ref (199 + e)), some (.ref (199 + (e + 1))), some (.int x18), some (.int x19), some (.int x20), some (.int (nI n)), some (.int (nI i)), l23] [] (SH ++ E, I, J) Q := by
  have n20 := W_N w
  have hn' : n < B 0 1 := by omega
  have wr := o.1.2.1
  obtain ⟨-, -, a6, -, -, -, -, -, -, -, op⟩ := wr.2.2.2 n hn'
  intro d
  induction d with
  | zero =>
    intro i hi
    have e : i = B 12 n := by omega
    subst e
    rw [at_146_1162]
    simp (disch := first | omega | assumption | exact yrt_146 | fail) only [yrt_146, ab_kl_n, ab_kl_i, ab_kl_r, ab_kl_l, Gy_iload_22, at_146_1164, Gy_aload_1, at_146_1165, Gy_iload_21, at_146_1167, Gy_iconst, kc_2, at_146_1168, cat_n, cat_i, cat_r, cat_l, tl_i, tl_l, tl_n, y_sh, y_shh, jy_146_1171, q_le, q_lt, q_eq, n_leT, n_leF, n_ltT, n_ltF, n_eqF, n_b0, Nat.reduceAdd, Nat.reduceMul, Nat.reduceLeDiff, Nat.reduceSub, decide_true, decide_false, Bool.toNat_true, Bool.toNat_false, not_true_eq_false, not_false_eq_true, ite_not, true_and, and_true, if_true, if_false, ↓reduceIte, Bool.or_true, Bool.true_or, Bool.or_false, zq_n2 w, Nat.le_refl]
    exact K _
  | succ d ih =>
    intro i hi
    have hin : i < B 12 n := by omega
    have c1 : ¬ B 12 n ≤ i := by omega
    have ho := op i hin
    have k8 := (wr.2.2.2 _ ho).1
    have h8 := (o.2.2.1 n i hn' hin).2
    rw [at_146_1162]
    simp (disch := first | omega | assumption | exact yrt_146 | fail) only [yrt_146, ab_kl_n, ab_kl_i, ab_kl_r, ab_kl_l, Gy_iload_22, at_146_1164, Gy_aload_1, at_146_1165, Gy_iload_21, at_146_1167, Gy_iconst, kc_2, at_146_1168, cat_n, cat_i, cat_r, cat_l, tl_i, tl_l, tl_n, y_sh, y_shh, jy_146_1171, q_le, q_lt, q_eq, n_leT, n_leF, n_ltT, n_ltF, n_eqF, n_b0, at_146_1174, at_146_1175, at_146_1176, at_146_1178, at_146_1180, at_146_1183, kc_0, at_146_1184, at_146_1187, Gy_bipush, kb_8, jy_146_1189, at_146_1192, at_146_1193, Gy_retb, Gy_retb0, Gy_retb1, at_146_1194, Gy_iinc_22, ab_put_int_22, kc_1, q_add, jy_146_1197, Nat.reduceAdd, Nat.reduceMul, Nat.reduceLeDiff, Nat.reduceSub, decide_true, decide_false, Bool.toNat_true, Bool.toNat_false, not_true_eq_false, not_false_eq_true, ite_not, true_and, and_true, if_true, if_false, ↓reduceIte, Bool.or_true, Bool.true_or, Bool.or_false, zq_n2 w, c1, zq_op w, zq_n0 w, h8]
    exact ih (i + 1) (by omega)
set_option maxRecDepth 4000 in
theorem f_gn (o : OZ B) (eN : B 0 1 = N) (w : WL8 s B I0 J0 I J) {l13 l14 l23 : Option Value} {x15 x18 x19 x20 : Int32}
    (K : ∀ x21 l22, Gy xs (ab_at 146 1206) 146 1206 [some (.ref 2000), some (.ref 0), some (.ref 199), some (.ref 200), some (.ref 201), some (.ref 202), some (.ref 203), some (.ref 204), some (.ref 205), some (.ref 206), some (.ref 207), some (.int (nI N)), some (.int (nI tn)), l13, l14, some (.int x15), some (.ref (199 + e)), some (.ref (199 + (e + 1))), some (.int x18), some (.int x19), some (.int x20), some (.int x21), l22, l23] [] (SH ++ E, I, J) Q) :
    ∀ d n l22, n + d = N → Gy xs (ab_at 146 1128) 146 1128 [some (.ref 2000), some (.ref 0), some (.ref 199), some (.ref 200), some (.ref 201), some (.ref 202), some (.ref 203), some (.ref 204), some (.ref 205), some (.ref 206), some (.ref 207), some (.int (nI N)), some (.int (nI tn)), l13, l14, some (.int x15), some (.ref (199 + e)), some (.ref (199 + (e + 1))), some (.int x18), some (.int x19), some (.int x20), some (.int (nI n)), l22, l23] [] (SH ++ E, I, J) Q := by
  have n20 := W_N w
  intro d
  induction d with
  | zero =>
    intro n l22 hd
    have e : n = N := by omega
    subst e
    rw [at_146_1128]
    simp (disch := first | omega | assumption | exact yrt_146 | fail) only [yrt_146, ab_kl_n, ab_kl_i, ab_kl_r, ab_kl_l, Gy_iload_21, at_146_1130, Gy_iload_11, jy_146_1132, q_le, q_lt, q_eq, n_leT, n_leF, n_ltT, n_ltF, n_eqF, n_b0, Nat.reduceAdd, Nat.reduceMul, Nat.reduceLeDiff, Nat.reduceSub, decide_true, decide_false, Bool.toNat_true, Bool.toNat_false, not_true_eq_false, not_false_eq_true, ite_not, true_and, and_true, if_true, if_false, ↓reduceIte, Bool.or_true, Bool.true_or, Bool.or_false]
    exact K _ _
  | succ d ih =>
    intro n l22 hd
    have hn : n < B 0 1 := by omega
    have wr := o.1.2.1
    have k8 := (wr.2.2.2 n hn).1
    have nx : Gy xs (ab_at 146 1162) 146 1162 [some (.ref 2000), some (.ref 0), some (.ref 199), some (.ref 200), some (.ref 201), some (.ref 202), some (.ref 203), some (.ref 204), some (.ref 205), some (.ref 206), some (.ref 207), some (.int (nI N)), some (.int (nI tn)), l13, l14, some (.int x15), some (.ref (199 + e)), some (.ref (199 + (e + 1))), some (.int x18), some (.int x19), some (.int x20), some (.int (nI n)), some (.int (nI 0)), l23] [] (SH ++ E, I, J) Q := by
      refine f_gi o eN (by omega) w (fun x22 => ?_) _ 0 (Nat.zero_add _)
      simp (disch := first | omega | assumption | exact yrt_146 | fail) only [yrt_146, ab_kl_n, ab_kl_i, ab_kl_r, ab_kl_l, at_146_1200, Gy_iinc_21, ab_put_int_21, kc_1, q_add, jy_146_1203, Nat.reduceAdd, Nat.reduceMul, Nat.reduceLeDiff, Nat.reduceSub, decide_true, decide_false, Bool.toNat_true, Bool.toNat_false, not_true_eq_false, not_false_eq_true, ite_not, true_and, and_true, if_true, if_false, ↓reduceIte, Bool.or_true, Bool.true_or, Bool.or_false]
      exact ih (n + 1) _ (by omega)
    rw [at_146_1128]
    by_cases c : B 10 n = 8
    · have gu := gone_uses o hn c
      simp (disch := first | omega | assumption | exact yrt_146 | fail) only [yrt_146, ab_kl_n, ab_kl_i, ab_kl_r, ab_kl_l, Gy_iload_21, at_146_1130, Gy_iload_11, jy_146_1132, q_le, q_lt, q_eq, n_leT, n_leF, n_ltT, n_ltF, n_eqF, n_b0, at_146_1135, Gy_aload_1, at_146_1136, at_146_1138, Gy_iconst, kc_0, at_146_1139, cat_n, cat_i, cat_r, cat_l, tl_i, tl_l, tl_n, y_sh, y_shh, at_146_1142, Gy_bipush, kb_8, jy_146_1144, at_146_1147, at_146_1148, at_146_1150, kc_4, at_146_1151, jy_146_1154, at_146_1157, at_146_1158, Gy_retb, Gy_retb0, Gy_retb1, at_146_1159, at_146_1160, Gy_istore_22, ab_put_int_22, Nat.reduceAdd, Nat.reduceMul, Nat.reduceLeDiff, Nat.reduceSub, decide_true, decide_false, Bool.toNat_true, Bool.toNat_false, not_true_eq_false, not_false_eq_true, ite_not, true_and, and_true, if_true, if_false, ↓reduceIte, Bool.or_true, Bool.true_or, Bool.or_false, zq_n0 w, zq_n4 w, c, gu]
      exact nx
    · simp (disch := first | omega | assumption | exact yrt_146 | fail) only [yrt_146, ab_kl_n, ab_kl_i, ab_kl_r, ab_kl_l, Gy_iload_21, at_146_1130, Gy_iload_11, jy_146_1132, q_le, q_lt, q_eq, n_leT, n_leF, n_ltT, n_ltF, n_eqF, n_b0, at_146_1135, Gy_aload_1, at_146_1136, at_146_1138, Gy_iconst, kc_0, at_146_1139, cat_n, cat_i, cat_r, cat_l, tl_i, tl_l, tl_n, y_sh, y_shh, at_146_1142, Gy_bipush, kb_8, jy_146_1144, at_146_1147, at_146_1148, at_146_1150, kc_4, at_146_1151, jy_146_1154, at_146_1157, at_146_1158, Gy_retb, Gy_retb0, Gy_retb1, at_146_1159, at_146_1160, Gy_istore_22, ab_put_int_22, Nat.reduceAdd, Nat.reduceMul, Nat.reduceLeDiff, Nat.reduceSub, decide_true, decide_false, Bool.toNat_true, Bool.toNat_false, not_true_eq_false, not_false_eq_true, ite_not, true_and, and_true, if_true, if_false, ↓reduceIte, Bool.or_true, Bool.true_or, Bool.or_false, zq_n0 w, c]
      exact nx
set_option maxRecDepth 4000 in
theorem f_steps (hx : xs.length ≤ 260) (ht : tn < 2) (o : OZ A) (h6 : E[e]? = some (11, 6, [])) (h60 : E[e + 1]? = some (11, 60, [])) (eN : A 0 1 = N) (im : v_im s 0 = some A) (w : WL8 s A I0 J0 I J) (tg : TG xs A tn e 3 J0) {l13 l14 l18 l19 l20 l21 l22 l23 : Option Value} {x15 : Int32}
    (K : ∀ s B I' J' x18 l19 l20 l21 l22, v_im s 0 = some A → WL8 s B I0 J0 I' J' → Gy xs (ab_at 146 1406) 146 1406 [some (.ref 2000), some (.ref 0), some (.ref 199), some (.ref 200), some (.ref 201), some (.ref 202), some (.ref 203), some (.ref 204), some (.ref 205), some (.ref 206), some (.ref 207), some (.int (nI N)), some (.int (nI tn)), l13, l14, some (.int x15), some (.ref (199 + e)), some (.ref (199 + (e + 1))), some (.int x18), l19, l20, l21, l22, l23] [] (SH ++ E, I', J') Q) :
    Gy xs (ab_at 146 1061) 146 1061 [some (.ref 2000), some (.ref 0), some (.ref 199), some (.ref 200), some (.ref 201), some (.ref 202), some (.ref 203), some (.ref 204), some (.ref 205), some (.ref 206), some (.ref 207), some (.int (nI N)), some (.int (nI tn)), l13, l14, some (.int x15), some (.ref (199 + e)), some (.ref (199 + (e + 1))), l18, l19, l20, l21, l22, l23] [] (SH ++ E, I, J) Q := by
  have n20 := W_N w
  simp (disch := first | omega | assumption | exact yrt_146 | fail) only [yrt_146, ab_kl_n, ab_kl_i, ab_kl_r, ab_kl_l, at_146_1061, Gy_iconst, kc_0, at_146_1062, Gy_istore_18, ab_put_int_18, Nat.reduceAdd, Nat.reduceMul, Nat.reduceLeDiff, Nat.reduceSub, decide_true, decide_false, Bool.toNat_true, Bool.toNat_false, not_true_eq_false, not_false_eq_true, ite_not, true_and, and_true, if_true, if_false, ↓reduceIte, Bool.or_true, Bool.true_or, Bool.or_false]
  rw [at_146_1064]
  simp (disch := first | omega | assumption | exact yrt_146 | fail) only [yrt_146, ab_kl_n, ab_kl_i, ab_kl_r, ab_kl_l, Gy_iload_18, at_146_1066, Gy_iconst, kc_3, jy_146_1067, q_le, q_lt, q_eq, n_leT, n_leF, n_ltT, n_ltF, n_eqF, n_b0, at_146_1070, jy_146_1072, at_146_1075, Gy_aload_1, Nat.reduceAdd, Nat.reduceMul, Nat.reduceLeDiff, Nat.reduceSub, decide_true, decide_false, Bool.toNat_true, Bool.toNat_false, not_true_eq_false, not_false_eq_true, ite_not, true_and, and_true, if_true, if_false, ↓reduceIte, Bool.or_true, Bool.true_or, Bool.or_false]
  refine z_replace w (by simp only [cat_n, cat_i, cat_r, cat_l]; omega) fun I1 J1 k hk w1 => ?_
  have o1 := OZ_ex o
  have v1 := RV_ex o (RV_refl o)
  generalize exA A (ldA A) = B1 at w1 o1 v1
  have ck : ¬ k < 0 := by omega
  simp (disch := first | omega | assumption | exact yrt_146 | fail) only [yrt_146, ab_kl_n, ab_kl_i, ab_kl_r, ab_kl_l, jy_146_1079, q_le, q_lt, q_eq, n_leT, n_leF, n_ltT, n_ltF, n_eqF, n_b0, at_146_1082, Gy_iconst, kc_0, at_146_1083, Gy_retb, Gy_retb0, Gy_retb1, at_146_1084, Gy_iload_18, at_146_1086, kc_1, jy_146_1087, at_146_1090, Gy_aload_1, at_146_1091, kc_2, at_146_1092, cat_n, cat_i, cat_r, cat_l, tl_i, tl_l, tl_n, y_sh, y_shh, at_146_1095, Gy_istore_19, ab_put_int_19, at_146_1097, at_146_1098, at_146_1101, Gy_istore_20, ab_put_int_20, at_146_1103, at_146_1104, at_146_1105, at_146_1108, Gy_iload_19, at_146_1110, Gy_iload_20, at_146_1112, Gy_iadd, q_add, Nat.zero_add, jy_146_1113, at_146_1116, at_146_1117, jy_146_1120, at_146_1123, at_146_1124, at_146_1125, at_146_1126, Gy_istore_21, ab_put_int_21, Gy_iload_21, at_146_1130, Gy_iload_11, jy_146_1132, at_146_1135, at_146_1136, at_146_1138, at_146_1139, at_146_1142, Gy_bipush, kb_8, jy_146_1144, at_146_1147, at_146_1148, at_146_1150, kc_4, at_146_1151, jy_146_1154, at_146_1157, at_146_1158, at_146_1159, at_146_1160, Gy_istore_22, ab_put_int_22, Gy_iload_22, at_146_1164, at_146_1165, at_146_1167, at_146_1168, jy_146_1171, at_146_1174, at_146_1175, at_146_1176, at_146_1178, at_146_1180, at_146_1183, at_146_1184, at_146_1187, jy_146_1189, at_146_1192, at_146_1193, at_146_1194, Gy_iinc_22, jy_146_1197, at_146_1200, Gy_iinc_21, jy_146_1203, at_146_1206, at_146_1208, jy_146_1209, at_146_1212, at_146_1213, jy_146_1216, at_146_1219, at_146_1220, jy_146_1223, at_146_1226, at_146_1227, at_146_1228, at_146_1229, Nat.reduceAdd, Nat.reduceMul, Nat.reduceLeDiff, Nat.reduceSub, decide_true, decide_false, Bool.toNat_true, Bool.toNat_false, not_true_eq_false, not_false_eq_true, ite_not, true_and, and_true, if_true, if_false, ↓reduceIte, Bool.or_true, Bool.true_or, Bool.or_false, ck]
  refine f_chk hx ht h6 h60 v1 eN tg (fun s2 I2 J2 x19 l20 l21 im2 w2 => ?_) _ 0 (n_replace s) I1 J1 _ _ (Nat.zero_add _) (show v_im (n_replace s) 0 = some A from im) w1
  simp (disch := first | omega | assumption | exact yrt_146 | fail) only [yrt_146, ab_kl_n, ab_kl_i, ab_kl_r, ab_kl_l, at_146_1400, Gy_iinc_18, ab_put_int_18, kc_1, q_add, jy_146_1403, Nat.reduceAdd, Nat.reduceMul, Nat.reduceLeDiff, Nat.reduceSub, decide_true, decide_false, Bool.toNat_true, Bool.toNat_false, not_true_eq_false, not_false_eq_true, ite_not, true_and, and_true, if_true, if_false, ↓reduceIte, Bool.or_true, Bool.true_or, Bool.or_false]
  rw [at_146_1064]
  have n21 := W_N w2
  have sl : swn B1 (B1 0 1) ≤ B1 0 1 := cn_le _ _
  have gl : cn (fun n => decide (B1 10 n = 8)) (B1 0 1) ≤ B1 0 1 := cn_le _ _
  simp (disch := first | omega | assumption | exact yrt_146 | fail) only [yrt_146, ab_kl_n, ab_kl_i, ab_kl_r, ab_kl_l, Gy_iload_18, at_146_1066, Gy_iconst, kc_3, jy_146_1067, q_le, q_lt, q_eq, n_leT, n_leF, n_ltT, n_ltF, n_eqF, n_b0, at_146_1070, jy_146_1072, at_146_1075, Gy_aload_1, at_146_1076, cat_n, cat_i, cat_r, cat_l, tl_i, tl_l, tl_n, y_sh, y_shh, jy_146_1079, at_146_1082, kc_0, at_146_1083, Gy_retb, Gy_retb0, Gy_retb1, at_146_1084, at_146_1086, kc_1, jy_146_1087, at_146_1090, at_146_1091, kc_2, at_146_1092, at_146_1095, Gy_istore_19, ab_put_int_19, at_146_1097, Nat.reduceAdd, Nat.reduceMul, Nat.reduceLeDiff, Nat.reduceSub, decide_true, decide_false, Bool.toNat_true, Bool.toNat_false, not_true_eq_false, not_false_eq_true, ite_not, true_and, and_true, if_true, if_false, ↓reduceIte, Bool.or_true, Bool.true_or, Bool.or_false, zq_r2 w2]
  refine z_sweep w2 (by simp only [cat_n, cat_i, cat_r, cat_l]; omega) fun I3 J3 w3 => ?_
  have o3 := OZ_sw o1
  have v3 := RV_sw o1 v1
  have g3 := sw_gone o1
  have z3 := swn_zero o1
  have eB3 : (swA B1) 0 1 = B1 0 1 := by rw [v3.1, v1.1]
  rw [← eB3] at g3
  generalize swA B1 = B3 at w3 o3 v3 g3 z3 eB3
  rw [eB3] at g3 z3
  have g4 : cn (fun n => decide (B3 10 n = 8)) (B3 0 1) = cn (fun n => decide (B1 10 n = 8)) (B1 0 1) + swn B1 (B1 0 1) := by rw [eB3, g3]
  simp (disch := first | omega | assumption | exact yrt_146 | fail) only [yrt_146, ab_kl_n, ab_kl_i, ab_kl_r, ab_kl_l, at_146_1101, Gy_istore_20, ab_put_int_20, at_146_1103, Gy_aload_1, at_146_1104, Gy_iconst, kc_2, at_146_1105, cat_n, cat_i, cat_r, cat_l, tl_i, tl_l, tl_n, y_sh, y_shh, at_146_1108, Gy_iload_19, at_146_1110, Gy_iload_20, at_146_1112, Gy_iadd, q_add, Nat.zero_add, jy_146_1113, q_le, q_lt, q_eq, n_leT, n_leF, n_ltT, n_ltF, n_eqF, n_b0, at_146_1116, Nat.reduceAdd, Nat.reduceMul, Nat.reduceLeDiff, Nat.reduceSub, decide_true, decide_false, Bool.toNat_true, Bool.toNat_false, not_true_eq_false, not_false_eq_true, ite_not, true_and, and_true, if_true, if_false, ↓reduceIte, Bool.or_true, Bool.true_or, Bool.or_false, zq_r2 w3, g4]
  refine z_sweep w3 (by simp only [cat_n, cat_i, cat_r, cat_l]; omega) fun I4 J4 w4 => ?_
  rw [eB3, z3]
  have o4 := OZ_sw o3
  have v4 := RV_sw o3 v3
  generalize swA B3 = B4 at w4 o4 v4
  simp (disch := first | omega | assumption | exact yrt_146 | fail) only [yrt_146, ab_kl_n, ab_kl_i, ab_kl_r, ab_kl_l, jy_146_1120, q_le, q_lt, q_eq, n_leT, n_leF, n_ltT, n_ltF, n_eqF, n_b0, at_146_1123, Gy_iconst, kc_0, at_146_1124, Gy_retb, Gy_retb0, Gy_retb1, at_146_1125, at_146_1126, Gy_istore_21, ab_put_int_21, Nat.reduceAdd, Nat.reduceMul, Nat.reduceLeDiff, Nat.reduceSub, decide_true, decide_false, Bool.toNat_true, Bool.toNat_false, not_true_eq_false, not_false_eq_true, ite_not, true_and, and_true, if_true, if_false, ↓reduceIte, Bool.or_true, Bool.true_or, Bool.or_false]
  refine f_gn o4 (v4.1.trans eN) w4 (fun x21 l22 => ?_) _ 0 _ (Nat.zero_add _)
  simp (disch := first | omega | assumption | exact yrt_146 | fail) only [yrt_146, ab_kl_n, ab_kl_i, ab_kl_r, ab_kl_l, at_146_1206, Gy_iload_18, at_146_1208, Gy_iconst, kc_2, jy_146_1209, q_le, q_lt, q_eq, n_leT, n_leF, n_ltT, n_ltF, n_eqF, n_b0, at_146_1212, Gy_aload_1, at_146_1213, cat_n, cat_i, cat_r, cat_l, tl_i, tl_l, tl_n, y_sh, y_shh, jy_146_1216, at_146_1219, at_146_1220, jy_146_1223, at_146_1226, kc_0, at_146_1227, Gy_retb, Gy_retb0, Gy_retb1, at_146_1228, at_146_1229, Gy_istore_19, ab_put_int_19, Nat.reduceAdd, Nat.reduceMul, Nat.reduceLeDiff, Nat.reduceSub, decide_true, decide_false, Bool.toNat_true, Bool.toNat_false, not_true_eq_false, not_false_eq_true, ite_not, true_and, and_true, if_true, if_false, ↓reduceIte, Bool.or_true, Bool.true_or, Bool.or_false]
  refine f_chk hx ht h6 h60 v4 eN tg (fun s5 I5 J5 x19 l20 l21 im5 w5 => ?_) _ 0 _ I4 J4 _ _ (Nat.zero_add _) (show v_im (n_sweep (n_sweep s2)) 0 = some A from im2) w4
  simp (disch := first | omega | assumption | exact yrt_146 | fail) only [yrt_146, ab_kl_n, ab_kl_i, ab_kl_r, ab_kl_l, at_146_1400, Gy_iinc_18, ab_put_int_18, kc_1, q_add, jy_146_1403, Nat.reduceAdd, Nat.reduceMul, Nat.reduceLeDiff, Nat.reduceSub, decide_true, decide_false, Bool.toNat_true, Bool.toNat_false, not_true_eq_false, not_false_eq_true, ite_not, true_and, and_true, if_true, if_false, ↓reduceIte, Bool.or_true, Bool.true_or, Bool.or_false]
  rw [at_146_1064]
  simp (disch := first | omega | assumption | exact yrt_146 | fail) only [yrt_146, ab_kl_n, ab_kl_i, ab_kl_r, ab_kl_l, Gy_iload_18, at_146_1066, Gy_iconst, kc_3, jy_146_1067, q_le, q_lt, q_eq, n_leT, n_leF, n_ltT, n_ltF, n_eqF, n_b0, at_146_1070, jy_146_1072, at_146_1075, Gy_aload_1, at_146_1076, cat_n, cat_i, cat_r, cat_l, tl_i, tl_l, tl_n, y_sh, y_shh, jy_146_1079, at_146_1082, kc_0, at_146_1083, Gy_retb, Gy_retb0, Gy_retb1, at_146_1084, at_146_1086, kc_1, jy_146_1087, at_146_1090, at_146_1091, kc_2, at_146_1092, at_146_1095, Gy_istore_19, ab_put_int_19, at_146_1097, at_146_1098, at_146_1101, Gy_istore_20, ab_put_int_20, at_146_1103, at_146_1104, at_146_1105, at_146_1108, Gy_iload_19, at_146_1110, Gy_iload_20, at_146_1112, Gy_iadd, q_add, Nat.zero_add, jy_146_1113, at_146_1116, at_146_1117, jy_146_1120, at_146_1123, at_146_1124, at_146_1125, at_146_1126, Gy_istore_21, ab_put_int_21, Gy_iload_21, at_146_1130, Gy_iload_11, jy_146_1132, at_146_1135, at_146_1136, at_146_1138, at_146_1139, at_146_1142, Gy_bipush, kb_8, jy_146_1144, at_146_1147, at_146_1148, at_146_1150, kc_4, at_146_1151, jy_146_1154, at_146_1157, at_146_1158, at_146_1159, at_146_1160, Gy_istore_22, ab_put_int_22, Gy_iload_22, at_146_1164, at_146_1165, at_146_1167, at_146_1168, jy_146_1171, at_146_1174, at_146_1175, at_146_1176, at_146_1178, at_146_1180, at_146_1183, at_146_1184, at_146_1187, jy_146_1189, at_146_1192, at_146_1193, at_146_1194, Gy_iinc_22, jy_146_1197, at_146_1200, Gy_iinc_21, jy_146_1203, at_146_1206, at_146_1208, jy_146_1209, at_146_1212, Nat.reduceAdd, Nat.reduceMul, Nat.reduceLeDiff, Nat.reduceSub, decide_true, decide_false, Bool.toNat_true, Bool.toNat_false, not_true_eq_false, not_false_eq_true, ite_not, true_and, and_true, if_true, if_false, ↓reduceIte, Bool.or_true, Bool.true_or, Bool.or_false]
  refine z_replace w5 (by simp only [cat_n, cat_i, cat_r, cat_l]; omega) fun I6 J6 k6 hk6 w6 => ?_
  have o6 := OZ_ex o4
  have v6 := RV_ex o4 v4
  generalize exA B4 (ldA B4) = B6 at w6 o6 v6
  have ck6 : ¬ k6 < 0 := by omega
  simp (disch := first | omega | assumption | exact yrt_146 | fail) only [yrt_146, ab_kl_n, ab_kl_i, ab_kl_r, ab_kl_l, jy_146_1216, q_le, q_lt, q_eq, n_leT, n_leF, n_ltT, n_ltF, n_eqF, n_b0, at_146_1219, Gy_aload_1, Nat.reduceAdd, Nat.reduceMul, Nat.reduceLeDiff, Nat.reduceSub, decide_true, decide_false, Bool.toNat_true, Bool.toNat_false, not_true_eq_false, not_false_eq_true, ite_not, true_and, and_true, if_true, if_false, ↓reduceIte, Bool.or_true, Bool.true_or, Bool.or_false, ck6]
  refine z_sweep w6 (by simp only [cat_n, cat_i, cat_r, cat_l]; omega) fun I7 J7 w7 => ?_
  have v7 := RV_sw o6 v6
  have n26 := W_N w6
  have sl6 : swn B6 (B6 0 1) ≤ B6 0 1 := cn_le _ _
  generalize swA B6 = B7 at w7 v7
  simp (disch := first | omega | assumption | exact yrt_146 | fail) only [yrt_146, ab_kl_n, ab_kl_i, ab_kl_r, ab_kl_l, jy_146_1223, q_le, q_lt, q_eq, n_leT, n_leF, n_ltT, n_ltF, n_eqF, n_b0, at_146_1226, Gy_iconst, kc_0, at_146_1227, Gy_retb, Gy_retb0, Gy_retb1, at_146_1228, at_146_1229, Gy_istore_19, ab_put_int_19, Nat.reduceAdd, Nat.reduceMul, Nat.reduceLeDiff, Nat.reduceSub, decide_true, decide_false, Bool.toNat_true, Bool.toNat_false, not_true_eq_false, not_false_eq_true, ite_not, true_and, and_true, if_true, if_false, ↓reduceIte, Bool.or_true, Bool.true_or, Bool.or_false]
  refine f_chk hx ht h6 h60 v7 eN tg (fun s8 I8 J8 x19 l20 l21 im8 w8 => ?_) _ 0 _ I7 J7 _ _ (Nat.zero_add _) (show v_im (n_sweep (n_replace s5)) 0 = some A from im5) w7
  simp (disch := first | omega | assumption | exact yrt_146 | fail) only [yrt_146, ab_kl_n, ab_kl_i, ab_kl_r, ab_kl_l, at_146_1400, Gy_iinc_18, ab_put_int_18, kc_1, q_add, jy_146_1403, Nat.reduceAdd, Nat.reduceMul, Nat.reduceLeDiff, Nat.reduceSub, decide_true, decide_false, Bool.toNat_true, Bool.toNat_false, not_true_eq_false, not_false_eq_true, ite_not, true_and, and_true, if_true, if_false, ↓reduceIte, Bool.or_true, Bool.true_or, Bool.or_false]
  rw [at_146_1064]
  simp (disch := first | omega | assumption | exact yrt_146 | fail) only [yrt_146, ab_kl_n, ab_kl_i, ab_kl_r, ab_kl_l, Gy_iload_18, at_146_1066, Gy_iconst, kc_3, jy_146_1067, q_le, q_lt, q_eq, n_leT, n_leF, n_ltT, n_ltF, n_eqF, n_b0, Nat.reduceAdd, Nat.reduceMul, Nat.reduceLeDiff, Nat.reduceSub, decide_true, decide_false, Bool.toNat_true, Bool.toNat_false, not_true_eq_false, not_false_eq_true, ite_not, true_and, and_true, if_true, if_false, ↓reduceIte, Bool.or_true, Bool.true_or, Bool.or_false]
  exact K s8 B7 I8 J8 _ _ _ _ _ im8 w8
end LST
