/-! COPIES -/
def cpy (I : Nat → Nat → Int32) (s d c : Nat) : Nat → Nat → Int32 := fun o => if o = d then va_cpy (I s) (I d) 0 0 c else I o
theorem cp_ne {I : Nat → Nat → Int32} {s d c o k : Nat} (h : o ≠ d) : cpy I s d c o k = I o k := by
  unfold cpy
  rw [if_neg h]
theorem cp_eq {I : Nat → Nat → Int32} {s d c k : Nat} (h : k < c) : cpy I s d c d k = I s k := by
  unfold cpy
  rw [if_pos rfl]
  unfold va_cpy
  rw [if_pos (by omega), Nat.zero_add, Nat.sub_zero]
def CPY (p q : Nat) (I I' : Nat → Nat → Int32) : Prop := I' p 0 = I q 0 ∧ I' p 1 = I q 1 ∧ (∀ d k, 1 ≤ d → d ≤ 15 → d ≠ 8 → k < 6 → I' (p + d) k = I (q + d) k) ∧ (∀ d k, 16 ≤ d → d ≤ 19 → k < 20 → I' (p + d) k = I (q + d) k) ∧ (∀ d k, 21 ≤ d → d ≤ 40 → k < 6 → I' (p + d) k = I (q + d) k)
section CPS
variable {mi pc len : Nat} {L : ab_L} {S : List Value} {I : Nat → Nat → Int32} {J : Nat → Nat → Int64} {Q : Option Value → ab_H → Prop} {A : Nat → Nat → Nat} {p q : Nat}
theorem Go_cpz {a0 a1 c : Nat} (ho : ab_own mi = 3) (h0 : ab_ref sh_z a0 10 = true) (h1 : ab_ref sh_z a1 10 = true) (hc : c < 1000) (l0 : ab_ln sh_z a0 = c) (l1 : ab_ln sh_z a1 = c) : Go (some (.invokestatic 67, len)) mi pc L (.int (nI c) :: .int (nI 0) :: .ref a1 :: .int (nI 0) :: .ref a0 :: []) (SH, I, J) Q = Go (ab_at mi (pc + 3)) mi (pc + 3) L [] (SH, cpy I a0 a1 c, J) Q := @Go_cpy mi pc len L [] I J Q 67 0 a0 a1 0 0 c (by rw [ho]; rfl) h0 h1 (by omega) (by omega) hc (by omega) (by omega) (by decide)
theorem PC_cp {I' : Nat → Nat → Int32} (hr : WR A) (hc : CPY p q I I') (h : PC q I A) : PC p I' A := by
  obtain ⟨c0, c1, c2, c3, c4⟩ := hc
  obtain ⟨e0, e1, e2, e3, e4, e5, e6, e7, e8, e9, e10, e11, e12⟩ := h
  have r1 := hr.1
  have r2 := hr.2.1
  refine ⟨c0.trans e0, c1.trans e1, fun b hb => ?_, fun b hb => ?_, fun b hb => ?_, fun b hb hx => ?_, fun b hb hx => ?_, fun b hb hx => ?_, fun n hn => ?_, fun n hn => ?_, fun n hn => ?_, fun n hn hx => ?_, fun n i hn hi => ?_⟩
  · rw [c2 1 b (by omega) (by omega) (by omega) (by omega)]; exact e2 b hb
  · rw [c2 2 b (by omega) (by omega) (by omega) (by omega)]; exact e3 b hb
  · rw [c2 3 b (by omega) (by omega) (by omega) (by omega)]; exact e4 b hb
  · rw [c2 4 b (by omega) (by omega) (by omega) (by omega)]; exact e5 b hb hx
  · rw [c2 5 b (by omega) (by omega) (by omega) (by omega)]; exact e6 b hb hx
  · rw [c2 6 b (by omega) (by omega) (by omega) (by omega)]; exact e7 b hb hx
  · rw [c3 16 n (by omega) (by omega) (by omega)]; exact e8 n hn
  · rw [c3 17 n (by omega) (by omega) (by omega)]; exact e9 n hn
  · rw [c3 18 n (by omega) (by omega) (by omega)]; exact e10 n hn
  · rw [c3 19 n (by omega) (by omega) (by omega)]; exact e11 n hn hx
  · have := (hr.2.2.2 n hn).2.2.1
    rw [show p + 21 + n = p + (21 + n) by omega, c4 (21 + n) i (by omega) (by omega) (by omega), show q + (21 + n) = q + 21 + n by omega]
    exact e12 n i hn hi
theorem PG_cp {I' : Nat → Nat → Int32} (hr : WR A) (hc : CPY p q I I') (h : PG q I A) : PG p I' A := by
  obtain ⟨c0, c1, c2, c3, c4⟩ := hc
  obtain ⟨g1, g2, g3⟩ := h
  have r1 := hr.1
  refine ⟨fun b hb => ?_, fun b i hb hi => ?_, fun b hb => ?_⟩
  · rw [c2 7 b (by omega) (by omega) (by omega) (by omega)]; exact g1 b hb
  · have := (hr.2.2.1 b hb).2.2.2.2.2.1
    rw [show p + 9 + b = p + (9 + b) by omega, c2 (9 + b) i (by omega) (by omega) (by omega) (by omega), show q + (9 + b) = q + 9 + b by omega]
    exact g2 b i hb hi
  · rw [c2 15 b (by omega) (by omega) (by omega) (by omega)]; exact g3 b hb
theorem x_copyFrom (hp : isP p) (hq : isP q) (hpq : p ≠ q) (K : ∀ I', (∀ o k, ¬ (p ≤ o ∧ o ≤ p + 41) → I' o k = I o k) → CPY p q I I' → Q none (SH, I', J)) : Ex 44 [.ref p, .ref q] (SH, I, J) Q := by
  have hpp : p = 4 ∨ p = 73 ∨ p = 115 ∨ p = 157 := hp
  have hqq : q = 4 ∨ q = 73 ∨ q = 115 ∨ q = 157 := hq
  have hp2 := p_lt hp
  have hq2 := p_lt hq
  rw [en_44]
  simp (disch := first | omega | assumption | exact own_44 | exact rt_44 | exact pr_1 hp | exact pr_2 hp | exact pr_3 hp | exact pr_4 hp | exact pr_5 hp | exact pr_6 hp | exact pr_7 hp | exact pr_15 hp | exact pr_16 hp | exact pr_17 hp | exact pr_18 hp | exact pr_19 hp | exact pr_1 hq | exact pr_2 hq | exact pr_3 hq | exact pr_4 hq | exact pr_5 hq | exact pr_6 hq | exact pr_7 hq | exact pr_15 hq | exact pr_16 hq | exact pr_17 hq | exact pr_18 hq | exact pr_19 hq | exact pn_1 hp | exact pn_2 hp | exact pn_3 hp | exact pn_4 hp | exact pn_5 hp | exact pn_6 hp | exact pn_7 hp | exact pn_15 hp | exact pn_16 hp | exact pn_17 hp | exact pn_18 hp | exact pn_19 hp | exact pn_1 hq | exact pn_2 hq | exact pn_3 hq | exact pn_4 hq | exact pn_5 hq | exact pn_6 hq | exact pn_7 hq | exact pn_15 hq | exact pn_16 hq | exact pn_17 hq | exact pn_18 hq | exact pn_19 hq | exact q_lt1 (hb _ _) | exact bt_lt _ | fail) only [own_44, rt_44, ab_kl_n, ab_kl_i, ab_kl_r, ab_kl_l, at_44_0, Go_aload_0, at_44_1, Go_aload_1, at_44_2, Go_getf, fl_3_60, gg_3_0, sh_ref, sh_rf, at_44_5, Go_putf, gp_3_0, sh_seti, at_44_8, at_44_9, at_44_10, fl_3_64, gg_3_1, at_44_13, gp_3_1, at_44_16, at_44_17, fl_3_9, gg_3_2, at_44_20, Go_iconst, kc_0, at_44_21, at_44_22, at_44_25, at_44_26, Go_bipush, kb_6, at_44_28, at_44_31, at_44_32, fl_3_15, gg_3_3, at_44_35, at_44_36, at_44_37, at_44_40, at_44_41, at_44_43, at_44_46, at_44_47, fl_3_18, gg_3_4, at_44_50, at_44_51, at_44_52, at_44_55, at_44_56, at_44_58, at_44_61, at_44_62, fl_3_21, gg_3_5, at_44_65, at_44_66, at_44_67, at_44_70, at_44_71, at_44_73, at_44_76, at_44_77, fl_3_24, gg_3_6, at_44_80, at_44_81, at_44_82, at_44_85, at_44_86, at_44_88, at_44_91, at_44_92, fl_3_27, gg_3_7, at_44_95, at_44_96, at_44_97, at_44_100, at_44_101, at_44_103, at_44_106, at_44_107, fl_3_30, gg_3_8, at_44_110, at_44_111, at_44_112, at_44_115, at_44_116, at_44_118, at_44_121, at_44_122, fl_3_38, gg_3_10, at_44_125, at_44_126, at_44_127, at_44_130, at_44_131, at_44_133, at_44_136, at_44_137, fl_3_41, gg_3_11, at_44_140, at_44_141, at_44_142, at_44_145, at_44_146, kb_20, at_44_148, at_44_151, at_44_152, fl_3_44, gg_3_12, at_44_155, at_44_156, at_44_157, at_44_160, at_44_161, at_44_163, at_44_166, at_44_167, fl_3_47, gg_3_13, at_44_170, at_44_171, at_44_172, at_44_175, at_44_176, at_44_178, at_44_181, at_44_182, fl_3_50, gg_3_14, at_44_185, at_44_186, at_44_187, at_44_190, at_44_191, at_44_193, at_44_196, at_44_197, Go_istore_2, ab_put_int_2, Go_iload_2, at_44_199, jt_44_201, q_le, q_lt, q_eq, n_leT, n_leF, n_ltT, n_ltF, n_eqF, n_b0, at_44_204, at_44_205, fl_3_35, gg_3_9, at_44_208, at_44_209, Go_aaload, sh_ln, q_in, q_cl, at_44_210, at_44_211, at_44_212, at_44_215, at_44_216, at_44_217, at_44_218, at_44_220, at_44_223, Go_iinc_2, kc_1, q_add, jt_44_226, at_44_229, at_44_230, at_44_232, jt_44_234, at_44_237, at_44_238, fl_3_53, gg_3_15, at_44_241, at_44_242, at_44_243, at_44_244, at_44_245, at_44_248, at_44_249, at_44_250, at_44_251, at_44_253, at_44_256, jt_44_259, at_44_262, Go_return, Nat.reduceAdd, Nat.reduceMul, Nat.reduceLeDiff, Nat.reduceSub, decide_true, decide_false, Bool.toNat_true, Bool.toNat_false, not_true_eq_false, not_false_eq_true, ite_not, true_and, and_true, if_true, if_false, ↓reduceIte, Bool.or_true, Bool.true_or, Bool.or_false, Go_cpz, pr_0 hp, pf_2 hp, pf_3 hp, pf_4 hp, pf_5 hp, pf_6 hp, pf_7 hp, pf_8 hp, pf_10 hp, pf_11 hp, pf_12 hp, pf_13 hp, pf_14 hp, pr_0 hq, pf_2 hq, pf_3 hq, pf_4 hq, pf_5 hq, pf_6 hq, pf_7 hq, pf_8 hq, pf_10 hq, pf_11 hq, pf_12 hq, pf_13 hq, pf_14 hq]
  suffices hs : ∀ I1 : Nat → Nat → Int32, (∀ o k, ¬ (p ≤ o ∧ o ≤ p + 41) → I1 o k = I o k) → I1 p 0 = I q 0 → I1 p 1 = I q 1 →
      (∀ k, k < 6 → I1 (p + 1) k = I (q + 1) k) →
      (∀ k, k < 6 → I1 (p + 2) k = I (q + 2) k) →
      (∀ k, k < 6 → I1 (p + 3) k = I (q + 3) k) →
      (∀ k, k < 6 → I1 (p + 4) k = I (q + 4) k) →
      (∀ k, k < 6 → I1 (p + 5) k = I (q + 5) k) →
      (∀ k, k < 6 → I1 (p + 6) k = I (q + 6) k) →
      (∀ k, k < 6 → I1 (p + 7) k = I (q + 7) k) →
      (∀ k, k < 6 → I1 (p + 15) k = I (q + 15) k) →
      (∀ k, k < 20 → I1 (p + 16) k = I (q + 16) k) →
      (∀ k, k < 20 → I1 (p + 17) k = I (q + 17) k) →
      (∀ k, k < 20 → I1 (p + 18) k = I (q + 18) k) →
      (∀ k, k < 20 → I1 (p + 19) k = I (q + 19) k) →
      Go (ab_at 44 198) 44 198 [some (.ref p), some (.ref q), some (.int (nI (0)))] []  (SH, I1, J) Q by
    refine hs _ (fun o k hk => ?_) ?_ ?_ (fun k hk => ?_) (fun k hk => ?_) (fun k hk => ?_) (fun k hk => ?_) (fun k hk => ?_) (fun k hk => ?_) (fun k hk => ?_) (fun k hk => ?_) (fun k hk => ?_) (fun k hk => ?_) (fun k hk => ?_) (fun k hk => ?_)
    all_goals simp (disch := omega) only [cp_ne, cp_eq, fr_seti, fr_setk, fr_sets]
  intro I1 hf c0 c1 d1 d2 d3 d4 d5 d6 d7 d15 d16 d17 d18 d19
  refine lp_wp (a := 0) (N := 6) (Nat.zero_le _) (fun b => ∀ I2 : Nat → Nat → Int32, (∀ o k, (∀ c, c < b → o ≠ p + 9 + c) → I2 o k = I1 o k) → (∀ c k, c < b → k < 6 → I2 (p + 9 + c) k = I (q + 9 + c) k) → Go (ab_at 44 198) 44 198 [some (.ref p), some (.ref q), some (.int (nI (b)))] []  (SH, I2, J) Q) (fun I2 hf2 hr2 => ?_) (fun b _ hb ih I2 hf2 hr2 => ?_) I1 (fun _ _ _ => rfl) (fun c k hc _ => absurd hc (Nat.not_lt_zero c))
  · rw [at_44_198]
    simp (disch := first | omega | assumption | exact own_44 | exact rt_44 | exact q_lt1 (hb _ _) | exact bt_lt _ | fail) only [own_44, rt_44, ab_kl_n, ab_kl_i, ab_kl_r, ab_kl_l, at_44_0, Go_aload_0, at_44_1, Go_aload_1, at_44_2, Go_getf, fl_3_60, gg_3_0, sh_ref, sh_rf, at_44_5, Go_putf, gp_3_0, sh_seti, at_44_8, at_44_9, at_44_10, fl_3_64, gg_3_1, at_44_13, gp_3_1, at_44_16, at_44_17, fl_3_9, gg_3_2, at_44_20, Go_iconst, kc_0, at_44_21, at_44_22, at_44_25, at_44_26, Go_bipush, kb_6, at_44_28, at_44_31, at_44_32, fl_3_15, gg_3_3, at_44_35, at_44_36, at_44_37, at_44_40, at_44_41, at_44_43, at_44_46, at_44_47, fl_3_18, gg_3_4, at_44_50, at_44_51, at_44_52, at_44_55, at_44_56, at_44_58, at_44_61, at_44_62, fl_3_21, gg_3_5, at_44_65, at_44_66, at_44_67, at_44_70, at_44_71, at_44_73, at_44_76, at_44_77, fl_3_24, gg_3_6, at_44_80, at_44_81, at_44_82, at_44_85, at_44_86, at_44_88, at_44_91, at_44_92, fl_3_27, gg_3_7, at_44_95, at_44_96, at_44_97, at_44_100, at_44_101, at_44_103, at_44_106, at_44_107, fl_3_30, gg_3_8, at_44_110, at_44_111, at_44_112, at_44_115, at_44_116, at_44_118, at_44_121, at_44_122, fl_3_38, gg_3_10, at_44_125, at_44_126, at_44_127, at_44_130, at_44_131, at_44_133, at_44_136, at_44_137, fl_3_41, gg_3_11, at_44_140, at_44_141, at_44_142, at_44_145, at_44_146, kb_20, at_44_148, at_44_151, at_44_152, fl_3_44, gg_3_12, at_44_155, at_44_156, at_44_157, at_44_160, at_44_161, at_44_163, at_44_166, at_44_167, fl_3_47, gg_3_13, at_44_170, at_44_171, at_44_172, at_44_175, at_44_176, at_44_178, at_44_181, at_44_182, fl_3_50, gg_3_14, at_44_185, at_44_186, at_44_187, at_44_190, at_44_191, at_44_193, at_44_196, at_44_197, Go_istore_2, ab_put_int_2, Go_iload_2, at_44_199, jt_44_201, q_le, q_lt, q_eq, n_leT, n_leF, n_ltT, n_ltF, n_eqF, n_b0, at_44_204, at_44_205, fl_3_35, gg_3_9, at_44_208, at_44_209, Go_aaload, sh_ln, q_in, q_cl, at_44_210, at_44_211, at_44_212, at_44_215, at_44_216, at_44_217, at_44_218, at_44_220, at_44_223, Go_iinc_2, kc_1, q_add, jt_44_226, at_44_229, at_44_230, at_44_232, jt_44_234, at_44_237, at_44_238, fl_3_53, gg_3_15, at_44_241, at_44_242, at_44_243, at_44_244, at_44_245, at_44_248, at_44_249, at_44_250, at_44_251, at_44_253, at_44_256, jt_44_259, at_44_262, Go_return, Nat.reduceAdd, Nat.reduceMul, Nat.reduceLeDiff, Nat.reduceSub, decide_true, decide_false, Bool.toNat_true, Bool.toNat_false, not_true_eq_false, not_false_eq_true, ite_not, true_and, and_true, if_true, if_false, ↓reduceIte, Bool.or_true, Bool.true_or, Bool.or_false]
    refine lp_wp (a := 0) (N := 20) (Nat.zero_le _) (fun n => ∀ I3 : Nat → Nat → Int32, (∀ o k, (∀ c, c < n → o ≠ p + 21 + c) → I3 o k = I2 o k) → (∀ c k, c < n → k < 6 → I3 (p + 21 + c) k = I (q + 21 + c) k) → Go (ab_at 44 231) 44 231 [some (.ref p), some (.ref q), some (.int (nI (n)))] []  (SH, I3, J) Q) (fun I3 hf3 hr3 => ?_) (fun n _ hn ih I3 hf3 hr3 => ?_) I2 (fun _ _ _ => rfl) (fun c k hc _ => absurd hc (Nat.not_lt_zero c))
    · rw [at_44_231]
      simp (disch := first | omega | assumption | exact own_44 | exact rt_44 | exact q_lt1 (hb _ _) | exact bt_lt _ | fail) only [own_44, rt_44, ab_kl_n, ab_kl_i, ab_kl_r, ab_kl_l, at_44_0, Go_aload_0, at_44_1, Go_aload_1, at_44_2, Go_getf, fl_3_60, gg_3_0, sh_ref, sh_rf, at_44_5, Go_putf, gp_3_0, sh_seti, at_44_8, at_44_9, at_44_10, fl_3_64, gg_3_1, at_44_13, gp_3_1, at_44_16, at_44_17, fl_3_9, gg_3_2, at_44_20, Go_iconst, kc_0, at_44_21, at_44_22, at_44_25, at_44_26, Go_bipush, kb_6, at_44_28, at_44_31, at_44_32, fl_3_15, gg_3_3, at_44_35, at_44_36, at_44_37, at_44_40, at_44_41, at_44_43, at_44_46, at_44_47, fl_3_18, gg_3_4, at_44_50, at_44_51, at_44_52, at_44_55, at_44_56, at_44_58, at_44_61, at_44_62, fl_3_21, gg_3_5, at_44_65, at_44_66, at_44_67, at_44_70, at_44_71, at_44_73, at_44_76, at_44_77, fl_3_24, gg_3_6, at_44_80, at_44_81, at_44_82, at_44_85, at_44_86, at_44_88, at_44_91, at_44_92, fl_3_27, gg_3_7, at_44_95, at_44_96, at_44_97, at_44_100, at_44_101, at_44_103, at_44_106, at_44_107, fl_3_30, gg_3_8, at_44_110, at_44_111, at_44_112, at_44_115, at_44_116, at_44_118, at_44_121, at_44_122, fl_3_38, gg_3_10, at_44_125, at_44_126, at_44_127, at_44_130, at_44_131, at_44_133, at_44_136, at_44_137, fl_3_41, gg_3_11, at_44_140, at_44_141, at_44_142, at_44_145, at_44_146, kb_20, at_44_148, at_44_151, at_44_152, fl_3_44, gg_3_12, at_44_155, at_44_156, at_44_157, at_44_160, at_44_161, at_44_163, at_44_166, at_44_167, fl_3_47, gg_3_13, at_44_170, at_44_171, at_44_172, at_44_175, at_44_176, at_44_178, at_44_181, at_44_182, fl_3_50, gg_3_14, at_44_185, at_44_186, at_44_187, at_44_190, at_44_191, at_44_193, at_44_196, at_44_197, Go_istore_2, ab_put_int_2, Go_iload_2, at_44_199, jt_44_201, q_le, q_lt, q_eq, n_leT, n_leF, n_ltT, n_ltF, n_eqF, n_b0, at_44_204, at_44_205, fl_3_35, gg_3_9, at_44_208, at_44_209, Go_aaload, sh_ln, q_in, q_cl, at_44_210, at_44_211, at_44_212, at_44_215, at_44_216, at_44_217, at_44_218, at_44_220, at_44_223, Go_iinc_2, kc_1, q_add, jt_44_226, at_44_229, at_44_230, at_44_232, jt_44_234, at_44_237, at_44_238, fl_3_53, gg_3_15, at_44_241, at_44_242, at_44_243, at_44_244, at_44_245, at_44_248, at_44_249, at_44_250, at_44_251, at_44_253, at_44_256, jt_44_259, at_44_262, Go_return, Nat.reduceAdd, Nat.reduceMul, Nat.reduceLeDiff, Nat.reduceSub, decide_true, decide_false, Bool.toNat_true, Bool.toNat_false, not_true_eq_false, not_false_eq_true, ite_not, true_and, and_true, if_true, if_false, ↓reduceIte, Bool.or_true, Bool.true_or, Bool.or_false]
      have g3 : ∀ o k, (∀ c, c < 20 → o ≠ p + 21 + c) → (∀ c, c < 6 → o ≠ p + 9 + c) → I3 o k = I1 o k := fun o k h1 h2 => (hf3 o k h1).trans (hf2 o k h2)
      refine K I3 (fun o k hk => ?_) ⟨?_, ?_, fun d k h1 h2 h3 hk => ?_, fun d k h1 h2 hk => ?_, fun d k h1 h2 hk => ?_⟩
      · rw [g3 o k (fun c hc => by omega) (fun c hc => by omega)]
        exact hf o k hk
      · rw [g3 _ _ (fun c hc => by omega) (fun c hc => by omega)]; exact c0
      · rw [g3 _ _ (fun c hc => by omega) (fun c hc => by omega)]; exact c1
      · by_cases y : 9 ≤ d ∧ d ≤ 14
        · have := hr2 (d - 9) k (by omega) hk
          rw [show p + 9 + (d - 9) = p + d by omega, show q + 9 + (d - 9) = q + d by omega] at this
          rw [hf3 _ _ (fun c hc => by omega)]
          exact this
        · rw [g3 _ _ (fun c hc => by omega) (fun c hc => by omega)]
          rcases (by omega : d = 1 ∨ d = 2 ∨ d = 3 ∨ d = 4 ∨ d = 5 ∨ d = 6 ∨ d = 7 ∨ d = 15) with rfl | rfl | rfl | rfl | rfl | rfl | rfl | rfl
          · exact d1 k hk
          · exact d2 k hk
          · exact d3 k hk
          · exact d4 k hk
          · exact d5 k hk
          · exact d6 k hk
          · exact d7 k hk
          · exact d15 k hk
      · rw [g3 _ _ (fun c hc => by omega) (fun c hc => by omega)]
        rcases (by omega : d = 16 ∨ d = 17 ∨ d = 18 ∨ d = 19) with rfl | rfl | rfl | rfl
        · exact d16 k hk
        · exact d17 k hk
        · exact d18 k hk
        · exact d19 k hk
      · have := hr3 (d - 21) k (by omega) hk
        rw [show p + 21 + (d - 21) = p + d by omega, show q + 21 + (d - 21) = q + d by omega] at this
        exact this
    · have s1 := fun {mi pc len L Q} (ho : ab_own mi = 3) => @Go_cpz mi pc len L I3 J Q (q + 21 + n) (p + 21 + n) 6 ho (orow_r hq hn) (orow_r hp hn) (by omega) (orow_n hq hn) (orow_n hp hn)
      rw [at_44_231]
      simp (disch := first | omega | assumption | exact own_44 | exact rt_44 | exact q_lt1 (hb _ _) | exact bt_lt _ | fail) only [own_44, rt_44, ab_kl_n, ab_kl_i, ab_kl_r, ab_kl_l, at_44_0, Go_aload_0, at_44_1, Go_aload_1, at_44_2, Go_getf, fl_3_60, gg_3_0, sh_ref, sh_rf, at_44_5, Go_putf, gp_3_0, sh_seti, at_44_8, at_44_9, at_44_10, fl_3_64, gg_3_1, at_44_13, gp_3_1, at_44_16, at_44_17, fl_3_9, gg_3_2, at_44_20, Go_iconst, kc_0, at_44_21, at_44_22, at_44_25, at_44_26, Go_bipush, kb_6, at_44_28, at_44_31, at_44_32, fl_3_15, gg_3_3, at_44_35, at_44_36, at_44_37, at_44_40, at_44_41, at_44_43, at_44_46, at_44_47, fl_3_18, gg_3_4, at_44_50, at_44_51, at_44_52, at_44_55, at_44_56, at_44_58, at_44_61, at_44_62, fl_3_21, gg_3_5, at_44_65, at_44_66, at_44_67, at_44_70, at_44_71, at_44_73, at_44_76, at_44_77, fl_3_24, gg_3_6, at_44_80, at_44_81, at_44_82, at_44_85, at_44_86, at_44_88, at_44_91, at_44_92, fl_3_27, gg_3_7, at_44_95, at_44_96, at_44_97, at_44_100, at_44_101, at_44_103, at_44_106, at_44_107, fl_3_30, gg_3_8, at_44_110, at_44_111, at_44_112, at_44_115, at_44_116, at_44_118, at_44_121, at_44_122, fl_3_38, gg_3_10, at_44_125, at_44_126, at_44_127, at_44_130, at_44_131, at_44_133, at_44_136, at_44_137, fl_3_41, gg_3_11, at_44_140, at_44_141, at_44_142, at_44_145, at_44_146, kb_20, at_44_148, at_44_151, at_44_152, fl_3_44, gg_3_12, at_44_155, at_44_156, at_44_157, at_44_160, at_44_161, at_44_163, at_44_166, at_44_167, fl_3_47, gg_3_13, at_44_170, at_44_171, at_44_172, at_44_175, at_44_176, at_44_178, at_44_181, at_44_182, fl_3_50, gg_3_14, at_44_185, at_44_186, at_44_187, at_44_190, at_44_191, at_44_193, at_44_196, at_44_197, Go_istore_2, ab_put_int_2, Go_iload_2, at_44_199, jt_44_201, q_le, q_lt, q_eq, n_leT, n_leF, n_ltT, n_ltF, n_eqF, n_b0, at_44_204, at_44_205, fl_3_35, gg_3_9, at_44_208, at_44_209, Go_aaload, sh_ln, q_in, q_cl, at_44_210, at_44_211, at_44_212, at_44_215, at_44_216, at_44_217, at_44_218, at_44_220, at_44_223, Go_iinc_2, kc_1, q_add, jt_44_226, at_44_229, at_44_230, at_44_232, jt_44_234, at_44_237, at_44_238, fl_3_53, gg_3_15, at_44_241, at_44_242, at_44_243, at_44_244, at_44_245, at_44_248, at_44_249, at_44_250, at_44_251, at_44_253, at_44_256, jt_44_259, at_44_262, Go_return, Nat.reduceAdd, Nat.reduceMul, Nat.reduceLeDiff, Nat.reduceSub, decide_true, decide_false, Bool.toNat_true, Bool.toNat_false, not_true_eq_false, not_false_eq_true, ite_not, true_and, and_true, if_true, if_false, ↓reduceIte, Bool.or_true, Bool.true_or, Bool.or_false, s1, pr_0 hp, pf_15 hp, pr_20 hp, pn_20 hp, orow hp, pr_0 hq, pf_15 hq, pr_20 hq, pn_20 hq, orow hq]
      refine ih _ (fun o k hc => ?_) (fun c k hc hk => ?_)
      · rw [cp_ne (hc n (by omega))]
        exact hf3 o k (fun c hc2 => hc c (by omega))
      · by_cases z : c = n
        · subst z
          rw [cp_eq hk, hf3 _ _ (fun c hc => by omega), hf2 _ _ (fun c hc => by omega)]
          exact hf _ _ (by omega)
        · rw [cp_ne (by omega)]
          exact hr3 c k (by omega) hk
  · have s1 := fun {mi pc len L Q} (ho : ab_own mi = 3) => @Go_cpz mi pc len L I2 J Q (q + 9 + b) (p + 9 + b) 6 ho (prow_r hq hb) (prow_r hp hb) (by omega) (prow_n hq hb) (prow_n hp hb)
    rw [at_44_198]
    simp (disch := first | omega | assumption | exact own_44 | exact rt_44 | exact q_lt1 (hb _ _) | exact bt_lt _ | fail) only [own_44, rt_44, ab_kl_n, ab_kl_i, ab_kl_r, ab_kl_l, at_44_0, Go_aload_0, at_44_1, Go_aload_1, at_44_2, Go_getf, fl_3_60, gg_3_0, sh_ref, sh_rf, at_44_5, Go_putf, gp_3_0, sh_seti, at_44_8, at_44_9, at_44_10, fl_3_64, gg_3_1, at_44_13, gp_3_1, at_44_16, at_44_17, fl_3_9, gg_3_2, at_44_20, Go_iconst, kc_0, at_44_21, at_44_22, at_44_25, at_44_26, Go_bipush, kb_6, at_44_28, at_44_31, at_44_32, fl_3_15, gg_3_3, at_44_35, at_44_36, at_44_37, at_44_40, at_44_41, at_44_43, at_44_46, at_44_47, fl_3_18, gg_3_4, at_44_50, at_44_51, at_44_52, at_44_55, at_44_56, at_44_58, at_44_61, at_44_62, fl_3_21, gg_3_5, at_44_65, at_44_66, at_44_67, at_44_70, at_44_71, at_44_73, at_44_76, at_44_77, fl_3_24, gg_3_6, at_44_80, at_44_81, at_44_82, at_44_85, at_44_86, at_44_88, at_44_91, at_44_92, fl_3_27, gg_3_7, at_44_95, at_44_96, at_44_97, at_44_100, at_44_101, at_44_103, at_44_106, at_44_107, fl_3_30, gg_3_8, at_44_110, at_44_111, at_44_112, at_44_115, at_44_116, at_44_118, at_44_121, at_44_122, fl_3_38, gg_3_10, at_44_125, at_44_126, at_44_127, at_44_130, at_44_131, at_44_133, at_44_136, at_44_137, fl_3_41, gg_3_11, at_44_140, at_44_141, at_44_142, at_44_145, at_44_146, kb_20, at_44_148, at_44_151, at_44_152, fl_3_44, gg_3_12, at_44_155, at_44_156, at_44_157, at_44_160, at_44_161, at_44_163, at_44_166, at_44_167, fl_3_47, gg_3_13, at_44_170, at_44_171, at_44_172, at_44_175, at_44_176, at_44_178, at_44_181, at_44_182, fl_3_50, gg_3_14, at_44_185, at_44_186, at_44_187, at_44_190, at_44_191, at_44_193, at_44_196, at_44_197, Go_istore_2, ab_put_int_2, Go_iload_2, at_44_199, jt_44_201, q_le, q_lt, q_eq, n_leT, n_leF, n_ltT, n_ltF, n_eqF, n_b0, at_44_204, at_44_205, fl_3_35, gg_3_9, at_44_208, at_44_209, Go_aaload, sh_ln, q_in, q_cl, at_44_210, at_44_211, at_44_212, at_44_215, at_44_216, at_44_217, at_44_218, at_44_220, at_44_223, Go_iinc_2, kc_1, q_add, jt_44_226, at_44_229, at_44_230, at_44_232, jt_44_234, at_44_237, at_44_238, fl_3_53, gg_3_15, at_44_241, at_44_242, at_44_243, at_44_244, at_44_245, at_44_248, at_44_249, at_44_250, at_44_251, at_44_253, at_44_256, jt_44_259, at_44_262, Go_return, Nat.reduceAdd, Nat.reduceMul, Nat.reduceLeDiff, Nat.reduceSub, decide_true, decide_false, Bool.toNat_true, Bool.toNat_false, not_true_eq_false, not_false_eq_true, ite_not, true_and, and_true, if_true, if_false, ↓reduceIte, Bool.or_true, Bool.true_or, Bool.or_false, s1, pr_0 hp, pf_9 hp, pr_8 hp, pn_8 hp, prow hp, pr_0 hq, pf_9 hq, pr_8 hq, pn_8 hq, prow hq]
    refine ih _ (fun o k hc => ?_) (fun c k hc hk => ?_)
    · rw [cp_ne (hc b (by omega))]
      exact hf2 o k (fun c hc2 => hc c (by omega))
    · by_cases z : c = b
      · subst z
        rw [cp_eq hk, hf2 _ _ (fun c hc => by omega)]
        exact hf _ _ (by omega)
      · rw [cp_ne (by omega)]
        exact hr2 c k (by omega) hk
end CPS
