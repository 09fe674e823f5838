/-! THE TEXT: numbers and ends of lines, the reference -/
/-- at the token that starts at a, not broken -/
def MK (tp : Nat → Nat) (tl a : Nat) (I : Nat → Nat → Int32) : Prop := I 199 7 = nI a ∧ I 199 6 = nI (tE tp tl a) ∧ I 199 8 = nI (tT tp tl a) ∧ I 199 9 = nI (tV tp tl a) ∧ I 199 4 = nI 0
/-- broken there, so -/
def MB (c a : Nat) (I : Nat → Nat → Int32) : Prop := I 199 4 = nI c ∧ I 199 5 = nI a
def Fk (I I' : Nat → Nat → Int32) : Prop := ∀ o k, ¬ (o = 199 ∧ 4 ≤ k ∧ k ≤ 9) → I' o k = I o k
section MNU
variable {I I' : Nat → Nat → Int32} {J J' : Nat → Nat → Int64} {Q : Option Value → ab_H → Prop} {tp : Nat → Nat} {tl : Nat}
theorem tE_le {a : Nat} (ha : a ≤ tl) : a ≤ tE tp tl a ∧ tE tp tl a ≤ tl := by
  unfold tE
  by_cases c : a = tl
  · rw [if_pos c]; omega
  · rw [if_neg c]
    split
    · have := re_spec (tp := tp) (lo := 97) (hi := 122) ha; exact ⟨this.1, this.2.1⟩
    · split
      · have := re_spec (tp := tp) (lo := 48) (hi := 57) ha; exact ⟨this.1, this.2.1⟩
      · omega
theorem tA_le {q : Nat} (hq : q ≤ tl) : q ≤ tA tp tl q ∧ tA tp tl q ≤ tl := by
  have := re_spec (tp := tp) (lo := 32) (hi := 32) hq
  exact ⟨this.1, this.2.1⟩
/-- one on -/
theorem m_on (h : Mt tp tl I) (ht : tl ≤ 320) (hb : ∀ i, tp i < 128) {a : Nat} (ha : a ≤ tl) (hk : MK tp tl a I) (K1 : ∀ I', Fk I I' → tB tp tl (tA tp tl (tE tp tl a)) = false → MK tp tl (tA tp tl (tE tp tl a)) I' → Q none (SH, I', J)) (K2 : ∀ I', Fk I I' → tB tp tl (tA tp tl (tE tp tl a)) = true → MB 1 (tA tp tl (tE tp tl a)) I' → Q none (SH, I', J)) : Ex 139 [.ref 199] (SH, I, J) Q := by
  obtain ⟨h7, h6, h8, h9, h4⟩ := hk
  refine m_readsOn h ht hb (tE_le ha).2 h4 h6 (fun I' f1 k7 k6 k8 k9 k4 k5 => ?_)
  cases c : tB tp tl (tA tp tl (tE tp tl a)) with
  | true =>
    rw [c] at k4
    exact K2 I' f1 c ⟨k4, k5 c⟩
  | false =>
    rw [c] at k4
    exact K1 I' f1 c ⟨k7, k6, k8, k9, k4⟩
theorem m_offB {c a : Nat} (hc : 0 < c) (hc2 : c < 1000) (h : MB c a I) : Ex 139 [.ref 199] (SH, I, J) Q = Q none (SH, I, J) := by
  have h4 := h.1
  have hc' : ¬ c ≤ 0 := by omega
  rw [en_139]
  simp (disch := first | omega | assumption | exact own_139 | exact rt_139 | exact sr_199 | exact q_lt1 (hb _ _) | exact bt_lt _ | fail) only [own_139, rt_139, ab_kl_n, ab_kl_i, ab_kl_r, ab_kl_l, at_139_0, Go_aload_0, at_139_1, Go_getf, fl_8_79, gg_8_4, sh_ref, sh_rf, sr_199, jt_139_4, q_le, q_lt, q_eq, n_leT, n_leF, n_ltT, n_ltF, n_eqF, n_b0, at_139_7, Go_return, at_139_9, at_139_10, fl_8_91, gg_8_6, at_139_13, cl_8_94, cat_n, cat_i, cat_r, cat_l, tl_i, tl_l, tl_n, sh_same, at_139_16, Go_bipush, kb_32, jt_139_18, at_139_21, at_139_22, Go_dup_int, Go_dup_ref, at_139_23, at_139_26, Go_iconst, kc_1, at_139_27, Go_iadd, q_add, Nat.zero_add, at_139_28, Go_putf, gp_8_6, sh_seti, jt_139_31, at_139_34, at_139_35, at_139_36, at_139_39, fl_8_82, gp_8_7, at_139_42, at_139_43, at_139_44, at_139_47, at_139_50, Go_istore_1, ab_put_int_1, at_139_51, at_139_52, kc_0, at_139_53, fl_8_98, gp_8_9, at_139_56, Go_iload_1, at_139_57, kb_m4, jt_139_59, at_139_62, at_139_63, at_139_64, fl_8_88, gp_8_8, jt_139_67, at_139_70, at_139_71, Go_i2l, at_139_72, ldc2_8_101, at_139_75, ldc2_8_103, at_139_78, cl_8_71, jt_139_81, at_139_85, at_139_86, at_139_89, at_139_92, at_139_93, at_139_96, at_139_99, jt_139_102, at_139_105, at_139_106, at_139_107, at_139_110, at_139_111, at_139_112, jt_139_115, at_139_118, at_139_119, at_139_120, jt_139_123, at_139_126, at_139_127, at_139_128, ldc2_8_105, at_139_131, ldc2_8_107, at_139_134, jt_139_137, at_139_141, at_139_142, at_139_145, at_139_148, at_139_149, at_139_152, at_139_155, jt_139_158, at_139_161, at_139_162, at_139_163, at_139_166, at_139_167, gg_8_7, at_139_170, Go_isub, q_sub, at_139_171, kc_2, jt_139_172, at_139_175, kb_10, at_139_177, at_139_178, gg_8_9, at_139_181, Go_imul, q_mul, at_139_182, at_139_183, at_139_184, at_139_187, at_139_190, at_139_191, kb_48, at_139_193, jt_139_194, at_139_197, at_139_198, at_139_201, at_139_204, at_139_205, at_139_206, at_139_209, at_139_210, at_139_211, jt_139_214, at_139_217, at_139_218, at_139_219, at_139_222, at_139_223, at_139_226, at_139_227, at_139_230, at_139_231, jt_139_232, at_139_235, at_139_236, at_139_237, cl_8_109, jt_139_240, at_139_243, at_139_244, kc_3, at_139_245, at_139_248, at_139_249, at_139_250, at_139_253, at_139_254, at_139_255, at_139_258, at_139_259, kb_59, jt_139_261, at_139_264, at_139_265, at_139_266, at_139_269, Nat.reduceAdd, Nat.reduceMul, Nat.reduceLeDiff, Nat.reduceSub, decide_true, decide_false, Bool.toNat_true, Bool.toNat_false, not_true_eq_false, not_false_eq_true, ite_not, true_and, and_true, if_true, if_false, ↓reduceIte, Bool.or_true, Bool.true_or, Bool.or_false, h4, hc']
theorem vN_lt (hb : ∀ i, tp i < 128) (a k : Nat) : vN tp a k < 100000 := by
  have := hb (a + 1)
  have := hb a
  unfold vN
  split
  · omega
  · split <;> omega
theorem tV_lt (hb : ∀ i, tp i < 128) (a : Nat) : tV tp tl a < 100000 := by
  unfold tV
  split
  · exact vN_lt hb _ _
  · omega
theorem tT_lt (a : Nat) : tT tp tl a < 4 := by
  unfold tT
  split
  · omega
  · split
    · omega
    · split <;> omega
theorem m_endsLineB {c a : Nat} (hc : 0 < c) (hc2 : c < 1000) (h : MB c a I) : Ex 141 [.ref 199] (SH, I, J) Q = Q none (SH, I, J) := by
  have h4 := h.1
  have hc' : ¬ c = 0 := by omega
  have s1 := fun Q => m_offB (J := J) (Q := Q) hc hc2 h
  rw [en_141]
  simp (disch := first | omega | assumption | exact own_141 | exact rt_141 | exact sr_199 | exact q_lt1 (hb _ _) | exact bt_lt _ | fail) only [own_141, rt_141, ab_kl_n, ab_kl_i, ab_kl_r, ab_kl_l, at_141_0, Go_aload_0, at_141_1, Go_getf, fl_8_79, gg_8_4, sh_ref, sh_rf, sr_199, jt_141_4, q_le, q_lt, q_eq, n_leT, n_leF, n_ltT, n_ltF, n_eqF, n_b0, at_141_7, at_141_8, fl_8_88, gg_8_8, at_141_11, Go_iconst, kc_3, jt_141_12, at_141_15, at_141_16, kc_2, at_141_17, cl_8_109, cat_n, cat_i, cat_r, cat_l, tl_i, tl_l, tl_n, sh_same, at_141_20, at_141_21, cl_8_113, at_141_24, Go_return, Nat.reduceAdd, Nat.reduceMul, Nat.reduceLeDiff, Nat.reduceSub, decide_true, decide_false, Bool.toNat_true, Bool.toNat_false, not_true_eq_false, not_false_eq_true, ite_not, true_and, and_true, if_true, if_false, ↓reduceIte, Bool.or_true, Bool.true_or, Bool.or_false, h4, hc', s1]
theorem m_endsLine (h : Mt tp tl I) (ht : tl ≤ 320) (hb : ∀ i, tp i < 128) {a : Nat} (ha : a ≤ tl) (hk : MK tp tl a I) (K1 : ∀ I', Fk I I' → tT tp tl a = 3 → tB tp tl (tA tp tl (tE tp tl a)) = false → MK tp tl (tA tp tl (tE tp tl a)) I' → Q none (SH, I', J)) (K2 : ∀ I', Fk I I' → tT tp tl a = 3 → tB tp tl (tA tp tl (tE tp tl a)) = true → MB 1 (tA tp tl (tE tp tl a)) I' → Q none (SH, I', J)) (K3 : ∀ I', Fk I I' → tT tp tl a ≠ 3 → MB 2 a I' → Q none (SH, I', J)) : Ex 141 [.ref 199] (SH, I, J) Q := by
  have hk0 := hk
  obtain ⟨h7, h6, h8, h9, h4⟩ := hk
  have tt := @tT_lt tp tl a
  rw [en_141]
  by_cases c : tT tp tl a = 3
  · simp (disch := first | omega | assumption | exact own_141 | exact rt_141 | exact sr_199 | exact q_lt1 (hb _ _) | exact bt_lt _ | fail) only [own_141, rt_141, ab_kl_n, ab_kl_i, ab_kl_r, ab_kl_l, at_141_0, Go_aload_0, at_141_1, Go_getf, fl_8_79, gg_8_4, sh_ref, sh_rf, sr_199, jt_141_4, q_le, q_lt, q_eq, n_leT, n_leF, n_ltT, n_ltF, n_eqF, n_b0, at_141_7, at_141_8, fl_8_88, gg_8_8, at_141_11, Go_iconst, kc_3, jt_141_12, at_141_15, at_141_16, kc_2, at_141_17, cl_8_109, cat_n, cat_i, cat_r, cat_l, tl_i, tl_l, tl_n, sh_same, at_141_20, at_141_21, cl_8_113, at_141_24, Go_return, Nat.reduceAdd, Nat.reduceMul, Nat.reduceLeDiff, Nat.reduceSub, decide_true, decide_false, Bool.toNat_true, Bool.toNat_false, not_true_eq_false, not_false_eq_true, ite_not, true_and, and_true, if_true, if_false, ↓reduceIte, Bool.or_true, Bool.true_or, Bool.or_false, h4, h8, c]
    refine m_on h ht hb ha hk0 (fun I' f1 c1 k1 => ?_) (fun I' f1 c1 k1 => ?_)
    · simp (disch := first | omega | assumption | exact own_141 | exact rt_141 | exact sr_199 | exact q_lt1 (hb _ _) | exact bt_lt _ | fail) only [own_141, rt_141, ab_kl_n, ab_kl_i, ab_kl_r, ab_kl_l, at_141_0, Go_aload_0, at_141_1, Go_getf, fl_8_79, gg_8_4, sh_ref, sh_rf, sr_199, jt_141_4, q_le, q_lt, q_eq, n_leT, n_leF, n_ltT, n_ltF, n_eqF, n_b0, at_141_7, at_141_8, fl_8_88, gg_8_8, at_141_11, Go_iconst, kc_3, jt_141_12, at_141_15, at_141_16, kc_2, at_141_17, cl_8_109, cat_n, cat_i, cat_r, cat_l, tl_i, tl_l, tl_n, sh_same, at_141_20, at_141_21, cl_8_113, at_141_24, Go_return, Nat.reduceAdd, Nat.reduceMul, Nat.reduceLeDiff, Nat.reduceSub, decide_true, decide_false, Bool.toNat_true, Bool.toNat_false, not_true_eq_false, not_false_eq_true, ite_not, true_and, and_true, if_true, if_false, ↓reduceIte, Bool.or_true, Bool.true_or, Bool.or_false]
      exact K1 I' f1 c c1 k1
    · simp (disch := first | omega | assumption | exact own_141 | exact rt_141 | exact sr_199 | exact q_lt1 (hb _ _) | exact bt_lt _ | fail) only [own_141, rt_141, ab_kl_n, ab_kl_i, ab_kl_r, ab_kl_l, at_141_0, Go_aload_0, at_141_1, Go_getf, fl_8_79, gg_8_4, sh_ref, sh_rf, sr_199, jt_141_4, q_le, q_lt, q_eq, n_leT, n_leF, n_ltT, n_ltF, n_eqF, n_b0, at_141_7, at_141_8, fl_8_88, gg_8_8, at_141_11, Go_iconst, kc_3, jt_141_12, at_141_15, at_141_16, kc_2, at_141_17, cl_8_109, cat_n, cat_i, cat_r, cat_l, tl_i, tl_l, tl_n, sh_same, at_141_20, at_141_21, cl_8_113, at_141_24, Go_return, Nat.reduceAdd, Nat.reduceMul, Nat.reduceLeDiff, Nat.reduceSub, decide_true, decide_false, Bool.toNat_true, Bool.toNat_false, not_true_eq_false, not_false_eq_true, ite_not, true_and, and_true, if_true, if_false, ↓reduceIte, Bool.or_true, Bool.true_or, Bool.or_false]
      exact K2 I' f1 c c1 k1
  · simp (disch := first | omega | assumption | exact own_141 | exact rt_141 | exact sr_199 | exact q_lt1 (hb _ _) | exact bt_lt _ | fail) only [own_141, rt_141, ab_kl_n, ab_kl_i, ab_kl_r, ab_kl_l, at_141_0, Go_aload_0, at_141_1, Go_getf, fl_8_79, gg_8_4, sh_ref, sh_rf, sr_199, jt_141_4, q_le, q_lt, q_eq, n_leT, n_leF, n_ltT, n_ltF, n_eqF, n_b0, at_141_7, at_141_8, fl_8_88, gg_8_8, at_141_11, Go_iconst, kc_3, jt_141_12, at_141_15, at_141_16, kc_2, at_141_17, cl_8_109, cat_n, cat_i, cat_r, cat_l, tl_i, tl_l, tl_n, sh_same, at_141_20, at_141_21, cl_8_113, at_141_24, Go_return, Nat.reduceAdd, Nat.reduceMul, Nat.reduceLeDiff, Nat.reduceSub, decide_true, decide_false, Bool.toNat_true, Bool.toNat_false, not_true_eq_false, not_false_eq_true, ite_not, true_and, and_true, if_true, if_false, ↓reduceIte, Bool.or_true, Bool.true_or, Bool.or_false, h4, h8, c]
    rw [m_fails 2 h4]
    have mb : MB 2 a (ab_up (ab_up I 199 4 (nI 2)) 199 5 (I 199 7)) := ⟨by simp [upk], by rw [h7]; exact fr_sets⟩
    have s1 := fun Q => m_offB (J := J) (Q := Q) (by omega) (by omega) mb
    simp (disch := first | omega | assumption | exact own_141 | exact rt_141 | exact sr_199 | exact q_lt1 (hb _ _) | exact bt_lt _ | fail) only [own_141, rt_141, ab_kl_n, ab_kl_i, ab_kl_r, ab_kl_l, at_141_0, Go_aload_0, at_141_1, Go_getf, fl_8_79, gg_8_4, sh_ref, sh_rf, sr_199, jt_141_4, q_le, q_lt, q_eq, n_leT, n_leF, n_ltT, n_ltF, n_eqF, n_b0, at_141_7, at_141_8, fl_8_88, gg_8_8, at_141_11, Go_iconst, kc_3, jt_141_12, at_141_15, at_141_16, kc_2, at_141_17, cl_8_109, cat_n, cat_i, cat_r, cat_l, tl_i, tl_l, tl_n, sh_same, at_141_20, at_141_21, cl_8_113, at_141_24, Go_return, Nat.reduceAdd, Nat.reduceMul, Nat.reduceLeDiff, Nat.reduceSub, decide_true, decide_false, Bool.toNat_true, Bool.toNat_false, not_true_eq_false, not_false_eq_true, ite_not, true_and, and_true, if_true, if_false, ↓reduceIte, Bool.or_true, Bool.true_or, Bool.or_false, s1]
    exact K3 _ (fun o k z => by rw [upn (by omega), upn (by omega)]) c mb
end MNU
