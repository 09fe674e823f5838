/-! THE LAW'S CODE: a name's class -/
def mcn (A : Nat → Nat → Nat) (n : Nat) : Nat := cn (fun n => decide (PP A n = n ∧ ¬ A 10 n = 8)) n
def oaI (A : Nat → Nat → Nat) (n i : Nat) : Int32 := if i < A 12 n then nI (PP A (A 14 (6 * n + i))) else -9
theorem kb_m9' : (-9 : Int32) = Int32.ofInt (-9) := by decide
section LWN
variable {xs : List Int32} {Q : Option Value → ab_H → Prop} {E : ab_Sh} {I I0 : Nat → Nat → Int32} {J J0 : Nat → Nat → Int64} {s : VS} {A : Nat → Nat → Nat} {n tn : Nat}
theorem f_c1 (w : WL8 s A I0 J0 I J) (hn : n < A 0 1) {l16 l17 l18 l19 l20 l21 l22 l23 : Option Value}
    (K : ∀ I' J', WL8 s A I0 J0 I' J' → Gy xs (ab_at 146 166) 146 166 [some (.ref 2000), some (.ref 0), some (.ref 199), some (.ref 200), some (.ref 201), some (.ref 202), some (.ref 203), some (.ref 204), some (.ref 205), some (.ref 206), some (.ref 207), some (.int (nI (A 0 1))), some (.int (nI tn)), some (.int (nI (rc A 100 (P0 A)))), some (.int (nI (mcn A (n + 1)))), some (.int (nI n)), some (.int (nI (PP A n))), some (.int (nI (A 10 n))), l18, l19, l20, l21, l22, l23] [] (SH ++ E, I', J') Q) :
    Gy xs (ab_at 146 118) 146 118 [some (.ref 2000), some (.ref 0), some (.ref 199), some (.ref 200), some (.ref 201), some (.ref 202), some (.ref 203), some (.ref 204), some (.ref 205), some (.ref 206), some (.ref 207), some (.int (nI (A 0 1))), some (.int (nI tn)), some (.int (nI (rc A 100 (P0 A)))), some (.int (nI (mcn A n))), some (.int (nI n)), l16, l17, l18, l19, l20, l21, l22, l23] [] (SH ++ E, I, J) Q := by
  have n20 := W_N w
  have wr := w.1.1.2.1
  rw [w.2.1] at wr
  have k8 := (wr.2.2.2 n hn).1
  have pl := PP_le wr n
  rw [at_146_118]
  simp (disch := first | omega | assumption | exact yrt_146 | fail) only [yrt_146, ab_kl_n, ab_kl_i, ab_kl_r, ab_kl_l, Gy_iload_15, at_146_120, Gy_iload_11, jy_146_122, q_le, q_lt, q_eq, n_leT, n_leF, n_ltT, n_ltF, n_eqF, n_b0, at_146_125, Gy_aload_1, at_146_126, Nat.reduceAdd, Nat.reduceMul, Nat.reduceLeDiff, Nat.reduceSub, decide_true, decide_false, Bool.toNat_true, Bool.toNat_false, not_true_eq_false, not_false_eq_true, ite_not, true_and, and_true, if_true, if_false, ↓reduceIte, Bool.or_true, Bool.true_or, Bool.or_false]
  refine z_part w hn (by simp only [cat_n, cat_i, cat_r, cat_l]; omega) fun I1 J1 w1 => ?_
  have es : mcn A (n + 1) = mcn A n + (decide (PP A n = n ∧ ¬ A 10 n = 8)).toNat := rfl
  have ml := cn_le (fun n => decide (PP A n = n ∧ ¬ A 10 n = 8)) n
  have ml : mcn A n ≤ n := ml
  by_cases c : PP A n = n
  · by_cases c8 : A 10 n = 8
    · have e : mcn A (n + 1) = mcn A n := by rw [es, decide_eq_false (fun z => z.2 c8)]; rfl
      have K1 := K I1 J1 w1
      rw [e] at K1
      simp (disch := first | omega | assumption | exact yrt_146 | fail) only [yrt_146, ab_kl_n, ab_kl_i, ab_kl_r, ab_kl_l, at_146_131, Gy_istore_16, ab_put_int_16, at_146_133, Gy_aload_1, at_146_134, Gy_iload_15, at_146_136, Gy_iconst, kc_0, at_146_137, cat_n, cat_i, cat_r, cat_l, tl_i, tl_l, tl_n, y_sh, y_shh, at_146_140, Gy_istore_17, ab_put_int_17, at_146_142, Gy_iload_14, at_146_144, Gy_iload_16, at_146_146, jy_146_148, q_le, q_lt, q_eq, n_leT, n_leF, n_ltT, n_ltF, n_eqF, n_b0, at_146_151, Gy_iload_17, at_146_153, Gy_bipush, kb_8, jy_146_155, at_146_158, kc_1, jy_146_159, at_146_162, at_146_163, Gy_iadd, q_add, Nat.zero_add, at_146_164, Gy_istore_14, ab_put_int_14, Nat.reduceAdd, Nat.reduceMul, Nat.reduceLeDiff, Nat.reduceSub, decide_true, decide_false, Bool.toNat_true, Bool.toNat_false, not_true_eq_false, not_false_eq_true, ite_not, true_and, and_true, if_true, if_false, ↓reduceIte, Bool.or_true, Bool.true_or, Bool.or_false, zq_n0 w1, c, c8, Nat.add_zero]
      rw [c, c8] at K1
      exact K1
    · have e : mcn A (n + 1) = mcn A n + 1 := by rw [es, decide_eq_true ⟨c, c8⟩]; rfl
      have K1 := K I1 J1 w1
      rw [e] at K1
      simp (disch := first | omega | assumption | exact yrt_146 | fail) only [yrt_146, ab_kl_n, ab_kl_i, ab_kl_r, ab_kl_l, at_146_131, Gy_istore_16, ab_put_int_16, at_146_133, Gy_aload_1, at_146_134, Gy_iload_15, at_146_136, Gy_iconst, kc_0, at_146_137, cat_n, cat_i, cat_r, cat_l, tl_i, tl_l, tl_n, y_sh, y_shh, at_146_140, Gy_istore_17, ab_put_int_17, at_146_142, Gy_iload_14, at_146_144, Gy_iload_16, at_146_146, jy_146_148, q_le, q_lt, q_eq, n_leT, n_leF, n_ltT, n_ltF, n_eqF, n_b0, at_146_151, Gy_iload_17, at_146_153, Gy_bipush, kb_8, jy_146_155, at_146_158, kc_1, jy_146_159, at_146_162, at_146_163, Gy_iadd, q_add, Nat.zero_add, at_146_164, Gy_istore_14, ab_put_int_14, Nat.reduceAdd, Nat.reduceMul, Nat.reduceLeDiff, Nat.reduceSub, decide_true, decide_false, Bool.toNat_true, Bool.toNat_false, not_true_eq_false, not_false_eq_true, ite_not, true_and, and_true, if_true, if_false, ↓reduceIte, Bool.or_true, Bool.true_or, Bool.or_false, zq_n0 w1, c, c8]
      rw [c] at K1
      exact K1
  · have e : mcn A (n + 1) = mcn A n := by rw [es, decide_eq_false (fun z => c z.1)]; rfl
    have K1 := K I1 J1 w1
    rw [e] at K1
    simp (disch := first | omega | assumption | exact yrt_146 | fail) only [yrt_146, ab_kl_n, ab_kl_i, ab_kl_r, ab_kl_l, at_146_131, Gy_istore_16, ab_put_int_16, at_146_133, Gy_aload_1, at_146_134, Gy_iload_15, at_146_136, Gy_iconst, kc_0, at_146_137, cat_n, cat_i, cat_r, cat_l, tl_i, tl_l, tl_n, y_sh, y_shh, at_146_140, Gy_istore_17, ab_put_int_17, at_146_142, Gy_iload_14, at_146_144, Gy_iload_16, at_146_146, jy_146_148, q_le, q_lt, q_eq, n_leT, n_leF, n_ltT, n_ltF, n_eqF, n_b0, at_146_151, Gy_iload_17, at_146_153, Gy_bipush, kb_8, jy_146_155, at_146_158, kc_1, jy_146_159, at_146_162, at_146_163, Gy_iadd, q_add, Nat.zero_add, at_146_164, Gy_istore_14, ab_put_int_14, Nat.reduceAdd, Nat.reduceMul, Nat.reduceLeDiff, Nat.reduceSub, decide_true, decide_false, Bool.toNat_true, Bool.toNat_false, not_true_eq_false, not_false_eq_true, ite_not, true_and, and_true, if_true, if_false, ↓reduceIte, Bool.or_true, Bool.true_or, Bool.or_false, zq_n0 w1, c, Nat.add_zero]
    exact K1
theorem f_c2 (w : WL8 s A I0 J0 I J) (hn : n < A 0 1) {l14 l18 l19 l20 l21 l22 l23 : Option Value}
    (K : ∀ I' J', WL8 s A I0 J0 I' J' → Gy xs (ab_at 146 295) 146 295 [some (.ref 2000), some (.ref 0), some (.ref 199), some (.ref 200), some (.ref 201), some (.ref 202), some (.ref 203), some (.ref 204), some (.ref 205), some (.ref 206), some (.ref 207), some (.int (nI (A 0 1))), some (.int (nI tn)), some (.int (nI (rc A 100 (P0 A)))), l14, some (.int (nI n)), some (.int (nI (PP A n))), some (.int (nI (A 10 n))), l18, l19, l20, l21, l22, l23] [] (SH ++ E, I', J') Q) :
    Gy xs (ab_at 146 166) 146 166 [some (.ref 2000), some (.ref 0), some (.ref 199), some (.ref 200), some (.ref 201), some (.ref 202), some (.ref 203), some (.ref 204), some (.ref 205), some (.ref 206), some (.ref 207), some (.int (nI (A 0 1))), some (.int (nI tn)), some (.int (nI (rc A 100 (P0 A)))), l14, some (.int (nI n)), some (.int (nI (PP A n))), some (.int (nI (A 10 n))), l18, l19, l20, l21, l22, l23] [] (SH ++ E, I, J) Q := by
  have n20 := W_N w
  have wr := w.1.1.2.1
  rw [w.2.1] at wr
  have k8 := (wr.2.2.2 n hn).1
  have pl := PP_le wr n
  have pn : PP A n < A 0 1 := by omega
  have pi : PP A (PP A n) = PP A n := PP_IDM wr n hn
  obtain ⟨h1, h2, h3⟩ := PP_h0 pi
  have r20 := rc_lt wr
  have a0 : rp A (rc A 100 (P0 A)) (P0 A) n = PP A n := congrFun (PP_at wr (Nat.le_refl _)) n
  have a1 : rp A (rc A 100 (P0 A) + 1) (P0 A) n = PP A n := congrFun (PP_at wr (Nat.le_succ _)) n
  have np : ¬ n < PP A n := by omega
  simp (disch := first | omega | assumption | exact yrt_146 | fail) only [yrt_146, ab_kl_n, ab_kl_i, ab_kl_r, ab_kl_l, at_146_166, Gy_iload_16, at_146_168, Gy_iload_15, jy_146_170, q_le, q_lt, q_eq, n_leT, n_leF, n_ltT, n_ltF, n_eqF, n_b0, at_146_173, Gy_aload_1, at_146_174, at_146_176, cat_n, cat_i, cat_r, cat_l, tl_i, tl_l, tl_n, y_sh, y_shh, Nat.reduceAdd, Nat.reduceMul, Nat.reduceLeDiff, Nat.reduceSub, decide_true, decide_false, Bool.toNat_true, Bool.toNat_false, not_true_eq_false, not_false_eq_true, ite_not, true_and, and_true, if_true, if_false, ↓reduceIte, Bool.or_true, Bool.true_or, Bool.or_false, np]
  refine z_part w pn (by simp only [cat_n, cat_i, cat_r, cat_l]; omega) fun I1 J1 w1 => ?_
  have tail : Gy xs (ab_at 146 265) 146 265 [some (.ref 2000), some (.ref 0), some (.ref 199), some (.ref 200), some (.ref 201), some (.ref 202), some (.ref 203), some (.ref 204), some (.ref 205), some (.ref 206), some (.ref 207), some (.int (nI (A 0 1))), some (.int (nI tn)), some (.int (nI (rc A 100 (P0 A)))), l14, some (.int (nI n)), some (.int (nI (PP A n))), some (.int (nI (A 10 n))), l18, l19, l20, l21, l22, l23] [] (SH ++ E, I1, J1) Q := by
    simp (disch := first | omega | assumption | exact yrt_146 | fail) only [yrt_146, ab_kl_n, ab_kl_i, ab_kl_r, ab_kl_l, at_146_265, Gy_aload_1, at_146_266, Gy_iload_15, at_146_268, Gy_iload_13, Nat.reduceAdd, Nat.reduceMul, Nat.reduceLeDiff, Nat.reduceSub, decide_true, decide_false, Bool.toNat_true, Bool.toNat_false, not_true_eq_false, not_false_eq_true, ite_not, true_and, and_true, if_true, if_false, ↓reduceIte, Bool.or_true, Bool.true_or, Bool.or_false]
    refine z_partAt w1 hn (by omega) (by simp only [cat_n, cat_i, cat_r, cat_l]; omega) fun I2 J2 w2 => ?_
    simp (disch := first | omega | assumption | exact yrt_146 | fail) only [yrt_146, ab_kl_n, ab_kl_i, ab_kl_r, ab_kl_l, at_146_273, Gy_iload_16, jy_146_275, q_le, q_lt, q_eq, n_leT, n_leF, n_ltT, n_ltF, n_eqF, n_b0, at_146_278, Gy_aload_1, at_146_279, Gy_iload_15, at_146_281, Gy_iload_13, at_146_283, Gy_iconst, kc_1, at_146_284, Gy_iadd, q_add, Nat.zero_add, Nat.reduceAdd, Nat.reduceMul, Nat.reduceLeDiff, Nat.reduceSub, decide_true, decide_false, Bool.toNat_true, Bool.toNat_false, not_true_eq_false, not_false_eq_true, ite_not, true_and, and_true, if_true, if_false, ↓reduceIte, Bool.or_true, Bool.true_or, Bool.or_false, a0]
    refine z_partAt w2 hn (by omega) (by simp only [cat_n, cat_i, cat_r, cat_l]; omega) fun I3 J3 w3 => ?_
    simp (disch := first | omega | assumption | exact yrt_146 | fail) only [yrt_146, ab_kl_n, ab_kl_i, ab_kl_r, ab_kl_l, at_146_288, Gy_iload_16, jy_146_290, q_le, q_lt, q_eq, n_leT, n_leF, n_ltT, n_ltF, n_eqF, n_b0, Nat.reduceAdd, Nat.reduceMul, Nat.reduceLeDiff, Nat.reduceSub, decide_true, decide_false, Bool.toNat_true, Bool.toNat_false, not_true_eq_false, not_false_eq_true, ite_not, true_and, and_true, if_true, if_false, ↓reduceIte, Bool.or_true, Bool.true_or, Bool.or_false, a1]
    exact K I3 J3 w3
  have pi' : PP A (PP A n) = PP A n := pi
  rcases (by omega : A 10 n = 0 ∨ A 10 n = 1 ∨ A 10 n = 7 ∨ (A 10 n ≠ 0 ∧ A 10 n ≠ 1 ∧ A 10 n ≠ 7)) with c | c | c | ⟨c0, c1, c7⟩
  · have c1 : A 10 n ≤ 1 := by omega
    have d1 : A 10 (PP A n) ≤ 1 := by omega
    have ev := h2 d1
    rw [c] at tail
    simp (disch := first | omega | assumption | exact yrt_146 | fail) only [yrt_146, ab_kl_n, ab_kl_i, ab_kl_r, ab_kl_l, at_146_179, Gy_iload_16, jy_146_181, q_le, q_lt, q_eq, n_leT, n_leF, n_ltT, n_ltF, n_eqF, n_b0, at_146_184, Gy_aload_1, at_146_185, at_146_187, Gy_iconst, kc_0, at_146_188, cat_n, cat_i, cat_r, cat_l, tl_i, tl_l, tl_n, y_sh, y_shh, at_146_191, Gy_iload_17, jy_146_193, at_146_196, jy_146_198, at_146_201, at_146_202, at_146_204, kc_3, at_146_205, at_146_208, at_146_209, Gy_iload_15, at_146_211, at_146_212, jy_146_215, at_146_218, at_146_220, kc_1, jy_146_221, at_146_224, at_146_225, at_146_227, at_146_228, at_146_231, at_146_232, at_146_234, at_146_235, jy_146_238, at_146_241, at_146_243, Gy_bipush, kb_7, jy_146_245, at_146_248, at_146_249, at_146_251, at_146_252, at_146_255, at_146_256, at_146_258, at_146_259, jy_146_262, Nat.reduceAdd, Nat.reduceMul, Nat.reduceLeDiff, Nat.reduceSub, decide_true, decide_false, Bool.toNat_true, Bool.toNat_false, not_true_eq_false, not_false_eq_true, ite_not, true_and, and_true, if_true, if_false, ↓reduceIte, Bool.or_true, Bool.true_or, Bool.or_false, zq_n0 w1, zq_n1 w1, zq_n3 w1, h1, c, ev, pi']
    exact tail
  · have c1 : A 10 n ≤ 1 := by omega
    have d1 : A 10 (PP A n) ≤ 1 := by omega
    have ev := h2 d1
    rw [c] at tail
    simp (disch := first | omega | assumption | exact yrt_146 | fail) only [yrt_146, ab_kl_n, ab_kl_i, ab_kl_r, ab_kl_l, at_146_179, Gy_iload_16, jy_146_181, q_le, q_lt, q_eq, n_leT, n_leF, n_ltT, n_ltF, n_eqF, n_b0, at_146_184, Gy_aload_1, at_146_185, at_146_187, Gy_iconst, kc_0, at_146_188, cat_n, cat_i, cat_r, cat_l, tl_i, tl_l, tl_n, y_sh, y_shh, at_146_191, Gy_iload_17, jy_146_193, at_146_196, jy_146_198, at_146_201, at_146_202, at_146_204, kc_3, at_146_205, at_146_208, at_146_209, Gy_iload_15, at_146_211, at_146_212, jy_146_215, at_146_218, at_146_220, kc_1, jy_146_221, at_146_224, at_146_225, at_146_227, at_146_228, at_146_231, at_146_232, at_146_234, at_146_235, jy_146_238, at_146_241, at_146_243, Gy_bipush, kb_7, jy_146_245, at_146_248, at_146_249, at_146_251, at_146_252, at_146_255, at_146_256, at_146_258, at_146_259, jy_146_262, Nat.reduceAdd, Nat.reduceMul, Nat.reduceLeDiff, Nat.reduceSub, decide_true, decide_false, Bool.toNat_true, Bool.toNat_false, not_true_eq_false, not_false_eq_true, ite_not, true_and, and_true, if_true, if_false, ↓reduceIte, Bool.or_true, Bool.true_or, Bool.or_false, zq_n0 w1, zq_n1 w1, zq_n3 w1, h1, c, ev, pi']
    exact tail
  · have ev := h3 (by omega)
    rw [c] at tail
    simp (disch := first | omega | assumption | exact yrt_146 | fail) only [yrt_146, ab_kl_n, ab_kl_i, ab_kl_r, ab_kl_l, at_146_179, Gy_iload_16, jy_146_181, q_le, q_lt, q_eq, n_leT, n_leF, n_ltT, n_ltF, n_eqF, n_b0, at_146_184, Gy_aload_1, at_146_185, at_146_187, Gy_iconst, kc_0, at_146_188, cat_n, cat_i, cat_r, cat_l, tl_i, tl_l, tl_n, y_sh, y_shh, at_146_191, Gy_iload_17, jy_146_193, at_146_196, jy_146_198, at_146_201, at_146_202, at_146_204, kc_3, at_146_205, at_146_208, at_146_209, Gy_iload_15, at_146_211, at_146_212, jy_146_215, at_146_218, at_146_220, kc_1, jy_146_221, at_146_224, at_146_225, at_146_227, at_146_228, at_146_231, at_146_232, at_146_234, at_146_235, jy_146_238, at_146_241, at_146_243, Gy_bipush, kb_7, jy_146_245, at_146_248, at_146_249, at_146_251, at_146_252, at_146_255, at_146_256, at_146_258, at_146_259, jy_146_262, Nat.reduceAdd, Nat.reduceMul, Nat.reduceLeDiff, Nat.reduceSub, decide_true, decide_false, Bool.toNat_true, Bool.toNat_false, not_true_eq_false, not_false_eq_true, ite_not, true_and, and_true, if_true, if_false, ↓reduceIte, Bool.or_true, Bool.true_or, Bool.or_false, zq_n0 w1, zq_n1 w1, zq_n3 w1, h1, c, ev, pi']
    exact tail
  · simp (disch := first | omega | assumption | exact yrt_146 | fail) only [yrt_146, ab_kl_n, ab_kl_i, ab_kl_r, ab_kl_l, at_146_179, Gy_iload_16, jy_146_181, q_le, q_lt, q_eq, n_leT, n_leF, n_ltT, n_ltF, n_eqF, n_b0, at_146_184, Gy_aload_1, at_146_185, at_146_187, Gy_iconst, kc_0, at_146_188, cat_n, cat_i, cat_r, cat_l, tl_i, tl_l, tl_n, y_sh, y_shh, at_146_191, Gy_iload_17, jy_146_193, at_146_196, jy_146_198, at_146_201, at_146_202, at_146_204, kc_3, at_146_205, at_146_208, at_146_209, Gy_iload_15, at_146_211, at_146_212, jy_146_215, at_146_218, at_146_220, kc_1, jy_146_221, at_146_224, at_146_225, at_146_227, at_146_228, at_146_231, at_146_232, at_146_234, at_146_235, jy_146_238, at_146_241, at_146_243, Gy_bipush, kb_7, jy_146_245, at_146_248, at_146_249, at_146_251, at_146_252, at_146_255, at_146_256, at_146_258, at_146_259, jy_146_262, Nat.reduceAdd, Nat.reduceMul, Nat.reduceLeDiff, Nat.reduceSub, decide_true, decide_false, Bool.toNat_true, Bool.toNat_false, not_true_eq_false, not_false_eq_true, ite_not, true_and, and_true, if_true, if_false, ↓reduceIte, Bool.or_true, Bool.true_or, Bool.or_false, zq_n0 w1, zq_n1 w1, zq_n3 w1, h1, c0, c1, c7, pi']
    exact tail
theorem f_c3a (w : WL8 s A I0 J0 I J) (hn : n < A 0 1) {l14 l19 l20 l21 l22 l23 : Option Value} {l16 l17 : Int32} {l18 : Option Value}
    (K : ∀ I' J', WL8 s A I0 J0 I' J' → Gy xs (ab_at 146 352) 146 352 [some (.ref 2000), some (.ref 0), some (.ref 199), some (.ref 200), some (.ref 201), some (.ref 202), some (.ref 203), some (.ref 204), some (.ref 205), some (.ref 206), some (.ref 207), some (.int (nI (A 0 1))), some (.int (nI tn)), some (.int (nI (rc A 100 (P0 A)))), l14, some (.int (nI n)), some (.int l16), some (.int l17), some (.int (oaI A n 0)), some (.int (oaI A n 1)), l20, l21, l22, l23] [] (SH ++ E, I', J') Q) :
    Gy xs (ab_at 146 295) 146 295 [some (.ref 2000), some (.ref 0), some (.ref 199), some (.ref 200), some (.ref 201), some (.ref 202), some (.ref 203), some (.ref 204), some (.ref 205), some (.ref 206), some (.ref 207), some (.int (nI (A 0 1))), some (.int (nI tn)), some (.int (nI (rc A 100 (P0 A)))), l14, some (.int (nI n)), some (.int l16), some (.int l17), l18, l19, l20, l21, l22, l23] [] (SH ++ E, I, J) Q := by
  have n20 := W_N w
  have wr := w.1.1.2.1
  rw [w.2.1] at wr
  obtain ⟨-, -, a6, -, -, -, -, -, -, -, op⟩ := wr.2.2.2 n hn
  have s2 : ∀ I J l18, l18 = some (.int (oaI A n 0)) → WL8 s A I0 J0 I J → Gy xs (ab_at 146 323) 146 323 [some (.ref 2000), some (.ref 0), some (.ref 199), some (.ref 200), some (.ref 201), some (.ref 202), some (.ref 203), some (.ref 204), some (.ref 205), some (.ref 206), some (.ref 207), some (.int (nI (A 0 1))), some (.int (nI tn)), some (.int (nI (rc A 100 (P0 A)))), l14, some (.int (nI n)), some (.int l16), some (.int l17), l18, l19, l20, l21, l22, l23] [] (SH ++ E, I, J) Q := by
    rintro I J l18 rfl w
    by_cases c : 1 < A 12 n
    · have c2 : ¬ A 12 n ≤ 1 := by omega
      have e : oaI A n 1 = nI (PP A (A 14 (6 * n + 1))) := if_pos c
      simp (disch := first | omega | assumption | exact yrt_146 | fail) only [yrt_146, ab_kl_n, ab_kl_i, ab_kl_r, ab_kl_l, at_146_323, Gy_aload_1, at_146_324, Gy_iload_15, at_146_326, Gy_iconst, kc_2, at_146_327, cat_n, cat_i, cat_r, cat_l, tl_i, tl_l, tl_n, y_sh, y_shh, at_146_330, kc_1, jy_146_331, q_le, q_lt, q_eq, n_leT, n_leF, n_ltT, n_ltF, n_eqF, n_b0, at_146_334, at_146_335, at_146_336, at_146_338, at_146_339, Nat.reduceAdd, Nat.reduceMul, Nat.reduceLeDiff, Nat.reduceSub, decide_true, decide_false, Bool.toNat_true, Bool.toNat_false, not_true_eq_false, not_false_eq_true, ite_not, true_and, and_true, if_true, if_false, ↓reduceIte, Bool.or_true, Bool.true_or, Bool.or_false, zq_n2 w, zq_op w, c, c2]
      refine z_part w (op 1 c) (by simp only [cat_n, cat_i, cat_r, cat_l]; omega) fun I1 J1 w1 => ?_
      have K1 := K I1 J1 w1
      rw [e] at K1
      simp (disch := first | omega | assumption | exact yrt_146 | fail) only [yrt_146, ab_kl_n, ab_kl_i, ab_kl_r, ab_kl_l, jy_146_345, at_146_348, Gy_bipush, kb_m9, at_146_350, Gy_istore_19, ab_put_int_19, Nat.reduceAdd, Nat.reduceMul, Nat.reduceLeDiff, Nat.reduceSub, decide_true, decide_false, Bool.toNat_true, Bool.toNat_false, not_true_eq_false, not_false_eq_true, ite_not, true_and, and_true, if_true, if_false, ↓reduceIte, Bool.or_true, Bool.true_or, Bool.or_false]
      exact K1
    · have c2 : A 12 n ≤ 1 := by omega
      have e : oaI A n 1 = -9 := if_neg c
      have K1 := K I J w
      rw [e] at K1
      simp (disch := first | omega | assumption | exact yrt_146 | fail) only [yrt_146, ab_kl_n, ab_kl_i, ab_kl_r, ab_kl_l, at_146_323, Gy_aload_1, at_146_324, Gy_iload_15, at_146_326, Gy_iconst, kc_2, at_146_327, cat_n, cat_i, cat_r, cat_l, tl_i, tl_l, tl_n, y_sh, y_shh, at_146_330, kc_1, jy_146_331, q_le, q_lt, q_eq, n_leT, n_leF, n_ltT, n_ltF, n_eqF, n_b0, at_146_334, at_146_335, at_146_336, at_146_338, at_146_339, at_146_342, jy_146_345, at_146_348, Gy_bipush, kb_m9, at_146_350, Gy_istore_19, ab_put_int_19, Nat.reduceAdd, Nat.reduceMul, Nat.reduceLeDiff, Nat.reduceSub, decide_true, decide_false, Bool.toNat_true, Bool.toNat_false, not_true_eq_false, not_false_eq_true, ite_not, true_and, and_true, if_true, if_false, ↓reduceIte, Bool.or_true, Bool.true_or, Bool.or_false, zq_n2 w, zq_op w, c, c2]
      exact K1
  by_cases c : 0 < A 12 n
  · have c2 : ¬ A 12 n ≤ 0 := by omega
    have e : oaI A n 0 = nI (PP A (A 14 (6 * n + 0))) := if_pos c
    simp (disch := first | omega | assumption | exact yrt_146 | fail) only [yrt_146, ab_kl_n, ab_kl_i, ab_kl_r, ab_kl_l, at_146_295, Gy_aload_1, at_146_296, Gy_iload_15, at_146_298, Gy_iconst, kc_2, at_146_299, cat_n, cat_i, cat_r, cat_l, tl_i, tl_l, tl_n, y_sh, y_shh, jy_146_302, q_le, q_lt, q_eq, n_leT, n_leF, n_ltT, n_ltF, n_eqF, n_b0, at_146_305, at_146_306, at_146_307, at_146_309, kc_0, at_146_310, Nat.reduceAdd, Nat.reduceMul, Nat.reduceLeDiff, Nat.reduceSub, decide_true, decide_false, Bool.toNat_true, Bool.toNat_false, not_true_eq_false, not_false_eq_true, ite_not, true_and, and_true, if_true, if_false, ↓reduceIte, Bool.or_true, Bool.true_or, Bool.or_false, zq_n2 w, zq_op w, c, c2]
    refine z_part w (op 0 c) (by simp only [cat_n, cat_i, cat_r, cat_l]; omega) fun I1 J1 w1 => ?_
    have K1 := s2 I1 J1 _ rfl w1
    rw [e] at K1
    simp (disch := first | omega | assumption | exact yrt_146 | fail) only [yrt_146, ab_kl_n, ab_kl_i, ab_kl_r, ab_kl_l, jy_146_316, at_146_319, Gy_bipush, kb_m9, at_146_321, Gy_istore_18, ab_put_int_18, Nat.reduceAdd, Nat.reduceMul, Nat.reduceLeDiff, Nat.reduceSub, decide_true, decide_false, Bool.toNat_true, Bool.toNat_false, not_true_eq_false, not_false_eq_true, ite_not, true_and, and_true, if_true, if_false, ↓reduceIte, Bool.or_true, Bool.true_or, Bool.or_false]
    exact K1
  · have c2 : A 12 n ≤ 0 := by omega
    have e : oaI A n 0 = -9 := if_neg c
    have K1 := s2 I J _ rfl w
    rw [e] at K1
    simp (disch := first | omega | assumption | exact yrt_146 | fail) only [yrt_146, ab_kl_n, ab_kl_i, ab_kl_r, ab_kl_l, at_146_295, Gy_aload_1, at_146_296, Gy_iload_15, at_146_298, Gy_iconst, kc_2, at_146_299, cat_n, cat_i, cat_r, cat_l, tl_i, tl_l, tl_n, y_sh, y_shh, jy_146_302, q_le, q_lt, q_eq, n_leT, n_leF, n_ltT, n_ltF, n_eqF, n_b0, at_146_305, at_146_306, at_146_307, at_146_309, kc_0, at_146_310, at_146_313, jy_146_316, at_146_319, Gy_bipush, kb_m9, at_146_321, Gy_istore_18, ab_put_int_18, Nat.reduceAdd, Nat.reduceMul, Nat.reduceLeDiff, Nat.reduceSub, decide_true, decide_false, Bool.toNat_true, Bool.toNat_false, not_true_eq_false, not_false_eq_true, ite_not, true_and, and_true, if_true, if_false, ↓reduceIte, Bool.or_true, Bool.true_or, Bool.or_false, zq_n2 w, zq_op w, c, c2]
    exact K1
theorem f_c3b (w : WL8 s A I0 J0 I J) {c : Nat} (hc : c < A 0 1) {l14 l20 l21 l22 l23 : Option Value} {l15 l17 l18 l19 : Int32}
    (K : ∀ I' J', WL8 s A I0 J0 I' J' → Gy xs (ab_at 146 409) 146 409 [some (.ref 2000), some (.ref 0), some (.ref 199), some (.ref 200), some (.ref 201), some (.ref 202), some (.ref 203), some (.ref 204), some (.ref 205), some (.ref 206), some (.ref 207), some (.int (nI (A 0 1))), some (.int (nI tn)), some (.int (nI (rc A 100 (P0 A)))), l14, some (.int l15), some (.int (nI c)), some (.int l17), some (.int l18), some (.int l19), some (.int (oaI A c 0)), some (.int (oaI A c 1)), l22, l23] [] (SH ++ E, I', J') Q) :
    Gy xs (ab_at 146 352) 146 352 [some (.ref 2000), some (.ref 0), some (.ref 199), some (.ref 200), some (.ref 201), some (.ref 202), some (.ref 203), some (.ref 204), some (.ref 205), some (.ref 206), some (.ref 207), some (.int (nI (A 0 1))), some (.int (nI tn)), some (.int (nI (rc A 100 (P0 A)))), l14, some (.int l15), some (.int (nI c)), some (.int l17), some (.int l18), some (.int l19), l20, l21, l22, l23] [] (SH ++ E, I, J) Q := by
  have n20 := W_N w
  have wr := w.1.1.2.1
  rw [w.2.1] at wr
  obtain ⟨-, -, a6, -, -, -, -, -, -, -, op⟩ := wr.2.2.2 c hc
  have s2 : ∀ I J l20, l20 = some (.int (oaI A c 0)) → WL8 s A I0 J0 I J → Gy xs (ab_at 146 380) 146 380 [some (.ref 2000), some (.ref 0), some (.ref 199), some (.ref 200), some (.ref 201), some (.ref 202), some (.ref 203), some (.ref 204), some (.ref 205), some (.ref 206), some (.ref 207), some (.int (nI (A 0 1))), some (.int (nI tn)), some (.int (nI (rc A 100 (P0 A)))), l14, some (.int l15), some (.int (nI c)), some (.int l17), some (.int l18), some (.int l19), l20, l21, l22, l23] [] (SH ++ E, I, J) Q := by
    rintro I J l20 rfl w
    by_cases d : 1 < A 12 c
    · have d2 : ¬ A 12 c ≤ 1 := by omega
      have e : oaI A c 1 = nI (PP A (A 14 (6 * c + 1))) := if_pos d
      simp (disch := first | omega | assumption | exact yrt_146 | fail) only [yrt_146, ab_kl_n, ab_kl_i, ab_kl_r, ab_kl_l, at_146_380, Gy_aload_1, at_146_381, Gy_iload_16, at_146_383, Gy_iconst, kc_2, at_146_384, cat_n, cat_i, cat_r, cat_l, tl_i, tl_l, tl_n, y_sh, y_shh, at_146_387, kc_1, jy_146_388, q_le, q_lt, q_eq, n_leT, n_leF, n_ltT, n_ltF, n_eqF, n_b0, at_146_391, at_146_392, at_146_393, at_146_395, at_146_396, Nat.reduceAdd, Nat.reduceMul, Nat.reduceLeDiff, Nat.reduceSub, decide_true, decide_false, Bool.toNat_true, Bool.toNat_false, not_true_eq_false, not_false_eq_true, ite_not, true_and, and_true, if_true, if_false, ↓reduceIte, Bool.or_true, Bool.true_or, Bool.or_false, zq_n2 w, zq_op w, d, d2]
      refine z_part w (op 1 d) (by simp only [cat_n, cat_i, cat_r, cat_l]; omega) fun I1 J1 w1 => ?_
      have K1 := K I1 J1 w1
      rw [e] at K1
      simp (disch := first | omega | assumption | exact yrt_146 | fail) only [yrt_146, ab_kl_n, ab_kl_i, ab_kl_r, ab_kl_l, jy_146_402, at_146_405, Gy_bipush, kb_m9, at_146_407, Gy_istore_21, ab_put_int_21, Nat.reduceAdd, Nat.reduceMul, Nat.reduceLeDiff, Nat.reduceSub, decide_true, decide_false, Bool.toNat_true, Bool.toNat_false, not_true_eq_false, not_false_eq_true, ite_not, true_and, and_true, if_true, if_false, ↓reduceIte, Bool.or_true, Bool.true_or, Bool.or_false]
      exact K1
    · have d2 : A 12 c ≤ 1 := by omega
      have e : oaI A c 1 = -9 := if_neg d
      have K1 := K I J w
      rw [e] at K1
      simp (disch := first | omega | assumption | exact yrt_146 | fail) only [yrt_146, ab_kl_n, ab_kl_i, ab_kl_r, ab_kl_l, at_146_380, Gy_aload_1, at_146_381, Gy_iload_16, at_146_383, Gy_iconst, kc_2, at_146_384, cat_n, cat_i, cat_r, cat_l, tl_i, tl_l, tl_n, y_sh, y_shh, at_146_387, kc_1, jy_146_388, q_le, q_lt, q_eq, n_leT, n_leF, n_ltT, n_ltF, n_eqF, n_b0, at_146_391, at_146_392, at_146_393, at_146_395, at_146_396, at_146_399, jy_146_402, at_146_405, Gy_bipush, kb_m9, at_146_407, Gy_istore_21, ab_put_int_21, Nat.reduceAdd, Nat.reduceMul, Nat.reduceLeDiff, Nat.reduceSub, decide_true, decide_false, Bool.toNat_true, Bool.toNat_false, not_true_eq_false, not_false_eq_true, ite_not, true_and, and_true, if_true, if_false, ↓reduceIte, Bool.or_true, Bool.true_or, Bool.or_false, zq_n2 w, zq_op w, d, d2]
      exact K1
  by_cases d : 0 < A 12 c
  · have d2 : ¬ A 12 c ≤ 0 := by omega
    have e : oaI A c 0 = nI (PP A (A 14 (6 * c + 0))) := if_pos d
    simp (disch := first | omega | assumption | exact yrt_146 | fail) only [yrt_146, ab_kl_n, ab_kl_i, ab_kl_r, ab_kl_l, at_146_352, Gy_aload_1, at_146_353, Gy_iload_16, at_146_355, Gy_iconst, kc_2, at_146_356, cat_n, cat_i, cat_r, cat_l, tl_i, tl_l, tl_n, y_sh, y_shh, jy_146_359, q_le, q_lt, q_eq, n_leT, n_leF, n_ltT, n_ltF, n_eqF, n_b0, at_146_362, at_146_363, at_146_364, at_146_366, kc_0, at_146_367, Nat.reduceAdd, Nat.reduceMul, Nat.reduceLeDiff, Nat.reduceSub, decide_true, decide_false, Bool.toNat_true, Bool.toNat_false, not_true_eq_false, not_false_eq_true, ite_not, true_and, and_true, if_true, if_false, ↓reduceIte, Bool.or_true, Bool.true_or, Bool.or_false, zq_n2 w, zq_op w, d, d2]
    refine z_part w (op 0 d) (by simp only [cat_n, cat_i, cat_r, cat_l]; omega) fun I1 J1 w1 => ?_
    have K1 := s2 I1 J1 _ rfl w1
    rw [e] at K1
    simp (disch := first | omega | assumption | exact yrt_146 | fail) only [yrt_146, ab_kl_n, ab_kl_i, ab_kl_r, ab_kl_l, jy_146_373, at_146_376, Gy_bipush, kb_m9, at_146_378, Gy_istore_20, ab_put_int_20, Nat.reduceAdd, Nat.reduceMul, Nat.reduceLeDiff, Nat.reduceSub, decide_true, decide_false, Bool.toNat_true, Bool.toNat_false, not_true_eq_false, not_false_eq_true, ite_not, true_and, and_true, if_true, if_false, ↓reduceIte, Bool.or_true, Bool.true_or, Bool.or_false]
    exact K1
  · have d2 : A 12 c ≤ 0 := by omega
    have e : oaI A c 0 = -9 := if_neg d
    have K1 := s2 I J _ rfl w
    rw [e] at K1
    simp (disch := first | omega | assumption | exact yrt_146 | fail) only [yrt_146, ab_kl_n, ab_kl_i, ab_kl_r, ab_kl_l, at_146_352, Gy_aload_1, at_146_353, Gy_iload_16, at_146_355, Gy_iconst, kc_2, at_146_356, cat_n, cat_i, cat_r, cat_l, tl_i, tl_l, tl_n, y_sh, y_shh, jy_146_359, q_le, q_lt, q_eq, n_leT, n_leF, n_ltT, n_ltF, n_eqF, n_b0, at_146_362, at_146_363, at_146_364, at_146_366, kc_0, at_146_367, at_146_370, jy_146_373, at_146_376, Gy_bipush, kb_m9, at_146_378, Gy_istore_20, ab_put_int_20, Nat.reduceAdd, Nat.reduceMul, Nat.reduceLeDiff, Nat.reduceSub, decide_true, decide_false, Bool.toNat_true, Bool.toNat_false, not_true_eq_false, not_false_eq_true, ite_not, true_and, and_true, if_true, if_false, ↓reduceIte, Bool.or_true, Bool.true_or, Bool.or_false, zq_n2 w, zq_op w, d, d2]
    exact K1
theorem f_c3c {k : Nat} {a b x y : Int32} (hk : k ≤ 8) (h : (a = x ∧ b = y) ∨ ((k = 2 ∨ k = 3) ∧ a = y ∧ b = x)) {h0 : ab_H} {l13 l14 l15 l16 l22 l23 : Option Value}
    (K : Gy xs (ab_at 146 451) 146 451 [some (.ref 2000), some (.ref 0), some (.ref 199), some (.ref 200), some (.ref 201), some (.ref 202), some (.ref 203), some (.ref 204), some (.ref 205), some (.ref 206), some (.ref 207), some (.int (nI (A 0 1))), some (.int (nI tn)), l13, l14, l15, l16, some (.int (nI k)), some (.int a), some (.int b), some (.int x), some (.int y), l22, l23] [] h0 Q) :
    Gy xs (ab_at 146 409) 146 409 [some (.ref 2000), some (.ref 0), some (.ref 199), some (.ref 200), some (.ref 201), some (.ref 202), some (.ref 203), some (.ref 204), some (.ref 205), some (.ref 206), some (.ref 207), some (.int (nI (A 0 1))), some (.int (nI tn)), l13, l14, l15, l16, some (.int (nI k)), some (.int a), some (.int b), some (.int x), some (.int y), l22, l23] [] h0 Q := by
  by_cases c1 : a = x
  · subst c1
    by_cases c2 : b = y
    · subst c2
      simp (disch := first | omega | assumption | exact yrt_146 | fail) only [yrt_146, ab_kl_n, ab_kl_i, ab_kl_r, ab_kl_l, at_146_409, Gy_iload_18, at_146_411, Gy_iload_20, jy_146_413, q_le, q_lt, q_eq, n_leT, n_leF, n_ltT, n_ltF, n_eqF, n_b0, at_146_416, Gy_iload_19, at_146_418, Gy_iload_21, jy_146_420, at_146_423, Gy_iload_17, at_146_425, Gy_iconst, kc_2, jy_146_426, at_146_429, at_146_431, kc_3, jy_146_432, at_146_435, at_146_437, jy_146_439, at_146_442, at_146_444, jy_146_446, Nat.reduceAdd, Nat.reduceMul, Nat.reduceLeDiff, Nat.reduceSub, decide_true, decide_false, Bool.toNat_true, Bool.toNat_false, not_true_eq_false, not_false_eq_true, ite_not, true_and, and_true, if_true, if_false, ↓reduceIte, Bool.or_true, Bool.true_or, Bool.or_false]
      exact K
    · rcases h with ⟨-, z⟩ | ⟨k2, e1, e2⟩
      · exact absurd z c2
      · exact absurd (e2.trans e1) c2
  · rcases h with ⟨z, -⟩ | ⟨k2 | k2, e1, e2⟩
    · exact absurd z c1
    · subst k2 e1 e2
      simp (disch := first | omega | assumption | exact yrt_146 | fail) only [yrt_146, ab_kl_n, ab_kl_i, ab_kl_r, ab_kl_l, at_146_409, Gy_iload_18, at_146_411, Gy_iload_20, jy_146_413, q_le, q_lt, q_eq, n_leT, n_leF, n_ltT, n_ltF, n_eqF, n_b0, at_146_416, Gy_iload_19, at_146_418, Gy_iload_21, jy_146_420, at_146_423, Gy_iload_17, at_146_425, Gy_iconst, kc_2, jy_146_426, at_146_429, at_146_431, kc_3, jy_146_432, at_146_435, at_146_437, jy_146_439, at_146_442, at_146_444, jy_146_446, Nat.reduceAdd, Nat.reduceMul, Nat.reduceLeDiff, Nat.reduceSub, decide_true, decide_false, Bool.toNat_true, Bool.toNat_false, not_true_eq_false, not_false_eq_true, ite_not, true_and, and_true, if_true, if_false, ↓reduceIte, Bool.or_true, Bool.true_or, Bool.or_false, c1]
      exact K
    · subst k2 e1 e2
      simp (disch := first | omega | assumption | exact yrt_146 | fail) only [yrt_146, ab_kl_n, ab_kl_i, ab_kl_r, ab_kl_l, at_146_409, Gy_iload_18, at_146_411, Gy_iload_20, jy_146_413, q_le, q_lt, q_eq, n_leT, n_leF, n_ltT, n_ltF, n_eqF, n_b0, at_146_416, Gy_iload_19, at_146_418, Gy_iload_21, jy_146_420, at_146_423, Gy_iload_17, at_146_425, Gy_iconst, kc_2, jy_146_426, at_146_429, at_146_431, kc_3, jy_146_432, at_146_435, at_146_437, jy_146_439, at_146_442, at_146_444, jy_146_446, Nat.reduceAdd, Nat.reduceMul, Nat.reduceLeDiff, Nat.reduceSub, decide_true, decide_false, Bool.toNat_true, Bool.toNat_false, not_true_eq_false, not_false_eq_true, ite_not, true_and, and_true, if_true, if_false, ↓reduceIte, Bool.or_true, Bool.true_or, Bool.or_false, c1]
      exact K
theorem oaI_h (wr : WR A) (hz : ZP A) (hn : n < A 0 1) : (oaI A n 0 = oaI A (PP A n) 0 ∧ oaI A n 1 = oaI A (PP A n) 1) ∨ ((A 10 n = 2 ∨ A 10 n = 3) ∧ oaI A n 0 = oaI A (PP A n) 1 ∧ oaI A n 1 = oaI A (PP A n) 0) := by
  have pl := PP_le wr n
  have pn : PP A n < A 0 1 := by omega
  obtain ⟨e, h⟩ := PP_ops wr hn pn (PP_IDM wr n hn).symm
  have k2 := (wr.2.2.2 n hn).2.2.2.2.2.2.1
  unfold oaI
  rw [← e]
  rcases h with h | ⟨k, h1, h2⟩
  · left
    constructor
    · by_cases c : 0 < A 12 n
      · rw [if_pos c, if_pos c, h 0 c]
      · rw [if_neg c, if_neg c]
    · by_cases c : 1 < A 12 n
      · rw [if_pos c, if_pos c, h 1 c]
      · rw [if_neg c, if_neg c]
  · right
    have := k2 (by omega) (by omega) (by omega)
    refine ⟨k, ?_, ?_⟩
    · rw [if_pos (by omega), if_pos (by omega), Nat.add_zero, h1]
    · rw [if_pos (by omega), if_pos (by omega), h2]; rfl
end LWN
