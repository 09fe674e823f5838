/-! THE TEXT: one token, the reference -/
def tA (tp : Nat → Nat) (tl q : Nat) : Nat := re tp tl 32 32 q
def tE (tp : Nat → Nat) (tl a : Nat) : Nat := if a = tl then a else if hs tp tl 97 122 a then re tp tl 97 122 a else if hs tp tl 48 57 a then re tp tl 48 57 a else a + 1
def tT (tp : Nat → Nat) (tl a : Nat) : Nat := if a = tl then 0 else if hs tp tl 97 122 a then 1 else if hs tp tl 48 57 a then 2 else 3
def vN (tp : Nat → Nat) (a k : Nat) : Nat := if k = 0 then 0 else if k = 1 then tp a - 48 else 10 * (tp a - 48) + (tp (a + 1) - 48)
def tV (tp : Nat → Nat) (tl a : Nat) : Nat := if tT tp tl a = 2 then vN tp a (tE tp tl a - a) else 0
def tB (tp : Nat → Nat) (tl a : Nat) : Bool := if tT tp tl a = 2 then decide (2 < tE tp tl a - a) else if tT tp tl a = 3 then !decide (tp a = 59) else false
section MTK
variable {I I' : Nat → Nat → Int32} {J J' : Nat → Nat → Int64} {Q : Option Value → ab_H → Prop} {tp : Nat → Nat} {tl : Nat}
theorem Mt_fr (h : Mt tp tl I) (f : ∀ o k, ¬ (o = 199 ∧ 4 ≤ k ∧ k ≤ 9) → I' o k = I o k) : Mt tp tl I' := Mt_eq (fun o k z => f o k (by omega)) h
theorem m_fails (c : Nat) (h : I 199 4 = nI 0) : Ex 137 [.ref 199, .int (nI c)] (SH, I, J) Q = Q none (SH, ab_up (ab_up I 199 4 (nI c)) 199 5 (I 199 7), J) := by
  have e : ab_up I 199 4 (nI c) 199 7 = I 199 7 := fr_setk (by omega)
  rw [en_137]
  simp (disch := first | omega | assumption | exact own_137 | exact rt_137 | exact q_lt1 (hb _ _) | exact bt_lt _ | fail) only [own_137, rt_137, ab_kl_n, ab_kl_i, ab_kl_r, ab_kl_l, at_137_0, Go_aload_0, at_137_1, Go_getf, fl_8_79, gg_8_4, sh_ref, sh_rf, sr_199, jt_137_4, q_le, q_lt, q_eq, n_leT, n_leF, n_ltT, n_ltF, n_eqF, n_b0, at_137_7, at_137_8, Go_iload_1, at_137_9, Go_putf, gp_8_4, sh_seti, at_137_12, at_137_13, at_137_14, fl_8_82, gg_8_7, at_137_17, fl_8_85, gp_8_5, at_137_20, Go_return, Nat.reduceAdd, Nat.reduceMul, Nat.reduceLeDiff, Nat.reduceSub, decide_true, decide_false, Bool.toNat_true, Bool.toNat_false, not_true_eq_false, not_false_eq_true, ite_not, true_and, and_true, if_true, if_false, ↓reduceIte, Bool.or_true, Bool.true_or, Bool.or_false, h, e]
theorem i32 {tp : Nat → Nat} {tl a lo hi : Nat} (hlo : 0 < lo) (hhi : hi < 1000) (hb : ∀ i, tp i < 128) : (lN lo ≤ (if a < tl then nI (tp a) else -4).toInt64 ∧ (if a < tl then nI (tp a) else -4).toInt64 ≤ lN hi) = (hs tp tl lo hi a = true) := by
  have := hb a
  unfold hs
  rw [decide_eq_true_eq]
  by_cases c : a < tl
  · rw [if_pos c, q_il (by omega), Int64.le_iff_toInt_le, Int64.le_iff_toInt_le, lN_toInt (by omega), lN_toInt (by omega), lN_toInt (by omega)]
    exact propext ⟨fun z => ⟨c, by omega, by omega⟩, fun z => ⟨by omega, by omega⟩⟩
  · rw [if_neg c, Int64.le_iff_toInt_le, Int64.le_iff_toInt_le, Int32.toInt_toInt64, lN_toInt (by omega), lN_toInt (by omega)]
    have e : (-4 : Int32).toInt = -4 := by decide
    rw [e]
    exact propext ⟨fun z => by omega, fun z => absurd z.1 c⟩
theorem i_sp {tp : Nat → Nat} {tl a v : Nat} (hv : v < 1000) (hb : ∀ i, tp i < 128) : ((if a < tl then nI (tp a) else -4) = nI v) = (a < tl ∧ tp a = v) := by
  have := hb a
  by_cases c : a < tl
  · rw [if_pos c, q_eq (by omega) (by omega)]
    exact propext ⟨fun z => ⟨c, z⟩, fun z => z.2⟩
  · rw [if_neg c, q_m4' (by omega)]
    exact propext ⟨fun z => z.elim, fun z => absurd z.1 c⟩
theorem m_readsOn (h : Mt tp tl I) (ht : tl ≤ 320) (hb : ∀ i, tp i < 128) {q : Nat} (hq : q ≤ tl) (h4 : I 199 4 = nI 0) (h6 : I 199 6 = nI q) (K : ∀ I', (∀ o k, ¬ (o = 199 ∧ 4 ≤ k ∧ k ≤ 9) → I' o k = I o k) → I' 199 7 = nI (tA tp tl q) → I' 199 6 = nI (tE tp tl (tA tp tl q)) → I' 199 8 = nI (tT tp tl (tA tp tl q)) → I' 199 9 = nI (tV tp tl (tA tp tl q)) → I' 199 4 = nI (tB tp tl (tA tp tl q)).toNat → (tB tp tl (tA tp tl q) = true → I' 199 5 = nI (tA tp tl q)) → Q none (SH, I', J)) : Ex 139 [.ref 199] (SH, I, J) Q := by
  obtain ⟨a1, a2, a3, a4⟩ := re_spec (tp := tp) (lo := 32) (hi := 32) hq
  have ea : tA tp tl q = re tp tl 32 32 q := rfl
  rw [← ea] at a1 a2 a3 a4
  generalize tA tp tl q = a at *
  rw [en_139]
  simp (disch := first | omega | assumption | exact own_139 | exact rt_139 | exact sr_199 | exact q_lt1 (hb _ _) | exact bt_lt _ | fail) only [own_139, rt_139, ab_kl_n, ab_kl_i, ab_kl_r, ab_kl_l, at_139_0, Go_aload_0, at_139_1, Go_getf, fl_8_79, gg_8_4, sh_ref, sh_rf, sr_199, jt_139_4, q_le, q_lt, q_eq, n_leT, n_leF, n_ltT, n_ltF, n_eqF, n_b0, at_139_7, Go_return, at_139_9, at_139_10, fl_8_91, gg_8_6, at_139_13, cl_8_94, cat_n, cat_i, cat_r, cat_l, tl_i, tl_l, tl_n, sh_same, at_139_16, Go_bipush, kb_32, jt_139_18, at_139_21, at_139_22, Go_dup_int, Go_dup_ref, at_139_23, at_139_26, Go_iconst, kc_1, at_139_27, Go_iadd, q_add, Nat.zero_add, at_139_28, Go_putf, gp_8_6, sh_seti, jt_139_31, at_139_34, at_139_35, at_139_36, at_139_39, fl_8_82, gp_8_7, at_139_42, at_139_43, at_139_44, at_139_47, at_139_50, Go_istore_1, ab_put_int_1, at_139_51, at_139_52, kc_0, at_139_53, fl_8_98, gp_8_9, at_139_56, Go_iload_1, at_139_57, kb_m4, jt_139_59, at_139_62, at_139_63, at_139_64, fl_8_88, gp_8_8, jt_139_67, at_139_70, at_139_71, Go_i2l, at_139_72, ldc2_8_101, at_139_75, ldc2_8_103, at_139_78, cl_8_71, jt_139_81, at_139_85, at_139_86, at_139_89, at_139_92, at_139_93, at_139_96, at_139_99, jt_139_102, at_139_105, at_139_106, at_139_107, at_139_110, at_139_111, at_139_112, jt_139_115, at_139_118, at_139_119, at_139_120, jt_139_123, at_139_126, at_139_127, at_139_128, ldc2_8_105, at_139_131, ldc2_8_107, at_139_134, jt_139_137, at_139_141, at_139_142, at_139_145, at_139_148, at_139_149, at_139_152, at_139_155, jt_139_158, at_139_161, at_139_162, at_139_163, at_139_166, at_139_167, gg_8_7, at_139_170, Go_isub, q_sub, at_139_171, kc_2, jt_139_172, at_139_175, kb_10, at_139_177, at_139_178, gg_8_9, at_139_181, Go_imul, q_mul, at_139_182, at_139_183, at_139_184, at_139_187, at_139_190, at_139_191, kb_48, at_139_193, jt_139_194, at_139_197, at_139_198, at_139_201, at_139_204, at_139_205, at_139_206, at_139_209, at_139_210, at_139_211, jt_139_214, at_139_217, at_139_218, at_139_219, at_139_222, at_139_223, at_139_226, at_139_227, at_139_230, at_139_231, jt_139_232, at_139_235, at_139_236, at_139_237, cl_8_109, jt_139_240, at_139_243, at_139_244, kc_3, at_139_245, at_139_248, at_139_249, at_139_250, at_139_253, at_139_254, at_139_255, at_139_258, at_139_259, kb_59, jt_139_261, at_139_264, at_139_265, at_139_266, at_139_269, Nat.reduceAdd, Nat.reduceMul, Nat.reduceLeDiff, Nat.reduceSub, decide_true, decide_false, Bool.toNat_true, Bool.toNat_false, not_true_eq_false, not_false_eq_true, ite_not, true_and, and_true, if_true, if_false, ↓reduceIte, Bool.or_true, Bool.true_or, Bool.or_false, h4]
  suffices hs34 : ∀ I1 : Nat → Nat → Int32, (∀ o k, ¬ (o = 199 ∧ k = 6) → I1 o k = I o k) → I1 199 6 = nI a → Go (ab_at 139 34) 139 34 [some (.ref 199), none] []  (SH, I1, J) Q by
    obtain ⟨d, hd⟩ : ∃ d, a = q + d := ⟨a - q, by omega⟩
    refine lp_wp (a := 0) (N := d) (Nat.zero_le _) (fun i => ∀ I1 : Nat → Nat → Int32, (∀ o k, ¬ (o = 199 ∧ k = 6) → I1 o k = I o k) → I1 199 6 = nI (q + i) → Go (ab_at 139 8) 139 8 [some (.ref 199), none] []  (SH, I1, J) Q) (fun I1 f1 f2 => ?_) (fun i _ hi' ih I1 f1 f2 => ?_) I (fun _ _ _ => rfl) h6
    · have mt := Mt_fr h (fun o k z => f1 o k (by omega))
      have sb := fun Q => m_byteAt (J := J) (Q := Q) mt ht (a := a) (by omega)
      rw [← hd] at f2
      have ns : ¬ (a < tl ∧ tp a = 32) := fun z => by
        have := of_decide_eq_false a4
        omega
      have e := @i_sp tp tl a 32 (by omega) hb
      rw [eq_false ns] at e
      have fin := hs34 I1 f1 f2
      rw [at_139_8]
      simp (disch := first | omega | assumption | exact own_139 | exact rt_139 | exact sr_199 | exact q_lt1 (hb _ _) | exact bt_lt _ | fail) only [own_139, rt_139, ab_kl_n, ab_kl_i, ab_kl_r, ab_kl_l, at_139_0, Go_aload_0, at_139_1, Go_getf, fl_8_79, gg_8_4, sh_ref, sh_rf, sr_199, jt_139_4, q_le, q_lt, q_eq, n_leT, n_leF, n_ltT, n_ltF, n_eqF, n_b0, at_139_7, Go_return, at_139_9, at_139_10, fl_8_91, gg_8_6, at_139_13, cl_8_94, cat_n, cat_i, cat_r, cat_l, tl_i, tl_l, tl_n, sh_same, at_139_16, Go_bipush, kb_32, jt_139_18, at_139_21, at_139_22, Go_dup_int, Go_dup_ref, at_139_23, at_139_26, Go_iconst, kc_1, at_139_27, Go_iadd, q_add, Nat.zero_add, at_139_28, Go_putf, gp_8_6, sh_seti, jt_139_31, at_139_35, at_139_36, at_139_39, fl_8_82, gp_8_7, at_139_42, at_139_43, at_139_44, at_139_47, at_139_50, Go_istore_1, ab_put_int_1, at_139_51, at_139_52, kc_0, at_139_53, fl_8_98, gp_8_9, at_139_56, Go_iload_1, at_139_57, kb_m4, jt_139_59, at_139_62, at_139_63, at_139_64, fl_8_88, gp_8_8, jt_139_67, at_139_70, at_139_71, Go_i2l, at_139_72, ldc2_8_101, at_139_75, ldc2_8_103, at_139_78, cl_8_71, jt_139_81, at_139_85, at_139_86, at_139_89, at_139_92, at_139_93, at_139_96, at_139_99, jt_139_102, at_139_105, at_139_106, at_139_107, at_139_110, at_139_111, at_139_112, jt_139_115, at_139_118, at_139_119, at_139_120, jt_139_123, at_139_126, at_139_127, at_139_128, ldc2_8_105, at_139_131, ldc2_8_107, at_139_134, jt_139_137, at_139_141, at_139_142, at_139_145, at_139_148, at_139_149, at_139_152, at_139_155, jt_139_158, at_139_161, at_139_162, at_139_163, at_139_166, at_139_167, gg_8_7, at_139_170, Go_isub, q_sub, at_139_171, kc_2, jt_139_172, at_139_175, kb_10, at_139_177, at_139_178, gg_8_9, at_139_181, Go_imul, q_mul, at_139_182, at_139_183, at_139_184, at_139_187, at_139_190, at_139_191, kb_48, at_139_193, jt_139_194, at_139_197, at_139_198, at_139_201, at_139_204, at_139_205, at_139_206, at_139_209, at_139_210, at_139_211, jt_139_214, at_139_217, at_139_218, at_139_219, at_139_222, at_139_223, at_139_226, at_139_227, at_139_230, at_139_231, jt_139_232, at_139_235, at_139_236, at_139_237, cl_8_109, jt_139_240, at_139_243, at_139_244, kc_3, at_139_245, at_139_248, at_139_249, at_139_250, at_139_253, at_139_254, at_139_255, at_139_258, at_139_259, kb_59, jt_139_261, at_139_264, at_139_265, at_139_266, at_139_269, Nat.reduceAdd, Nat.reduceMul, Nat.reduceLeDiff, Nat.reduceSub, decide_true, decide_false, Bool.toNat_true, Bool.toNat_false, not_true_eq_false, not_false_eq_true, ite_not, true_and, and_true, if_true, if_false, ↓reduceIte, Bool.or_true, Bool.true_or, Bool.or_false, f2, sb, e]
      exact fin
    · have mt := Mt_fr h (fun o k z => f1 o k (by omega))
      have sb := fun Q => m_byteAt (J := J) (Q := Q) mt ht (a := q + i) (by omega)
      have hsi := of_decide_eq_true (a3 (q + i) (by omega) (by omega))
      have e := @i_sp tp tl (q + i) 32 (by omega) hb
      rw [eq_true (⟨hsi.1, by omega⟩ : q + i < tl ∧ tp (q + i) = 32)] at e
      rw [at_139_8]
      simp (disch := first | omega | assumption | exact own_139 | exact rt_139 | exact sr_199 | exact q_lt1 (hb _ _) | exact bt_lt _ | fail) only [own_139, rt_139, ab_kl_n, ab_kl_i, ab_kl_r, ab_kl_l, at_139_0, Go_aload_0, at_139_1, Go_getf, fl_8_79, gg_8_4, sh_ref, sh_rf, sr_199, jt_139_4, q_le, q_lt, q_eq, n_leT, n_leF, n_ltT, n_ltF, n_eqF, n_b0, at_139_7, Go_return, at_139_9, at_139_10, fl_8_91, gg_8_6, at_139_13, cl_8_94, cat_n, cat_i, cat_r, cat_l, tl_i, tl_l, tl_n, sh_same, at_139_16, Go_bipush, kb_32, jt_139_18, at_139_21, at_139_22, Go_dup_int, Go_dup_ref, at_139_23, at_139_26, Go_iconst, kc_1, at_139_27, Go_iadd, q_add, Nat.zero_add, at_139_28, Go_putf, gp_8_6, sh_seti, jt_139_31, at_139_35, at_139_36, at_139_39, fl_8_82, gp_8_7, at_139_42, at_139_43, at_139_44, at_139_47, at_139_50, Go_istore_1, ab_put_int_1, at_139_51, at_139_52, kc_0, at_139_53, fl_8_98, gp_8_9, at_139_56, Go_iload_1, at_139_57, kb_m4, jt_139_59, at_139_62, at_139_63, at_139_64, fl_8_88, gp_8_8, jt_139_67, at_139_70, at_139_71, Go_i2l, at_139_72, ldc2_8_101, at_139_75, ldc2_8_103, at_139_78, cl_8_71, jt_139_81, at_139_85, at_139_86, at_139_89, at_139_92, at_139_93, at_139_96, at_139_99, jt_139_102, at_139_105, at_139_106, at_139_107, at_139_110, at_139_111, at_139_112, jt_139_115, at_139_118, at_139_119, at_139_120, jt_139_123, at_139_126, at_139_127, at_139_128, ldc2_8_105, at_139_131, ldc2_8_107, at_139_134, jt_139_137, at_139_141, at_139_142, at_139_145, at_139_148, at_139_149, at_139_152, at_139_155, jt_139_158, at_139_161, at_139_162, at_139_163, at_139_166, at_139_167, gg_8_7, at_139_170, Go_isub, q_sub, at_139_171, kc_2, jt_139_172, at_139_175, kb_10, at_139_177, at_139_178, gg_8_9, at_139_181, Go_imul, q_mul, at_139_182, at_139_183, at_139_184, at_139_187, at_139_190, at_139_191, kb_48, at_139_193, jt_139_194, at_139_197, at_139_198, at_139_201, at_139_204, at_139_205, at_139_206, at_139_209, at_139_210, at_139_211, jt_139_214, at_139_217, at_139_218, at_139_219, at_139_222, at_139_223, at_139_226, at_139_227, at_139_230, at_139_231, jt_139_232, at_139_235, at_139_236, at_139_237, cl_8_109, jt_139_240, at_139_243, at_139_244, kc_3, at_139_245, at_139_248, at_139_249, at_139_250, at_139_253, at_139_254, at_139_255, at_139_258, at_139_259, kb_59, jt_139_261, at_139_264, at_139_265, at_139_266, at_139_269, Nat.reduceAdd, Nat.reduceMul, Nat.reduceLeDiff, Nat.reduceSub, decide_true, decide_false, Bool.toNat_true, Bool.toNat_false, not_true_eq_false, not_false_eq_true, ite_not, true_and, and_true, if_true, if_false, ↓reduceIte, Bool.or_true, Bool.true_or, Bool.or_false, f2, sb, e]
      refine ih _ (fun o k hk => ?_) ?_
      · unfold ab_up
        rw [if_neg hk]
        exact f1 o k hk
      · rw [show q + (i + 1) = q + i + 1 by omega]
        exact fr_sets
  sorry
end MTK
