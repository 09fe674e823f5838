theorem q_n4 : (nI 0 ≤ (-4 : Int32)) = False := by decide
section RNE
variable {I : Nat → Nat → Int32} {J : Nat → Nat → Int64} {Q : Option Value → ab_H → Prop} {A : Nat → Nat → Nat} {p o : Nat} {R : Prop} {ar : Nat → Int32} {w : WT} {s : RS}
theorem x_passPhis0 {f l : Nat} : Ex 31 [.ref o, .ref p, .int (-4), .int (nI f), .int (nI l)] (SH, I, J) Q = Q none (SH, I, J) := by
  rw [en_31]
  simp (disch := first | omega | assumption | exact own_31 | exact rt_31 | exact mr_0 hm | exact q_lt1 (hb _ _) | exact bt_lt _ | fail) only [own_31, rt_31, ab_kl_n, ab_kl_i, ab_kl_r, ab_kl_l, at_31_0, Go_iload_2, jt_31_1, q_le, q_lt, q_eq, n_leT, n_leF, n_ltT, n_ltF, n_eqF, n_b0, at_31_4, Go_return, at_31_5, Go_iconst, kc_0, at_31_6, Go_istore_5, ab_put_int_5, at_31_8, Go_iload_3, at_31_9, Go_istore_6, ab_put_int_6, Go_iload_6, at_31_13, Go_iload_4, jt_31_15, at_31_18, Go_aload_1, at_31_19, Go_getf, fl_2_90, gg_3_11, sh_ref, sh_rf, at_31_22, at_31_24, Go_iaload, sh_ln, q_in, q_cl, at_31_25, Go_bipush, kb_7, jt_31_27, at_31_30, Go_aload_0, at_31_31, fl_2_19, gg_2_7, sr_49, sf_49_7, sr_52, sn_52, sr_53, sf_53_7, sr_56, sn_56, at_31_34, at_31_36, at_31_37, fl_2_15, gg_2_1, sf_49_1, sr_51, sn_51, sf_53_1, sr_55, sn_55, at_31_40, at_31_41, fl_2_100, gg_3_15, at_31_44, at_31_46, Go_aaload, at_31_47, at_31_48, at_31_49, Go_laload, at_31_50, Go_lastore, sh_setl, at_31_51, Go_iinc_6, kc_1, q_add, jt_31_54, at_31_57, at_31_58, at_31_62, jt_31_64, at_31_67, at_31_68, at_31_71, at_31_73, at_31_74, jt_31_76, jt_31_79, at_31_82, at_31_83, at_31_86, at_31_88, at_31_89, at_31_92, at_31_94, at_31_95, at_31_96, at_31_97, Go_dup_int, Go_dup_ref, at_31_98, fl_2_42, gg_2_5, at_31_101, at_31_102, Go_iadd, Nat.zero_add, at_31_103, Go_putf, gp_2_5, sh_seti, at_31_106, at_31_108, at_31_109, fl_2_22, gg_2_8, jt_31_112, at_31_115, at_31_116, at_31_118, jt_31_121, at_31_124, Go_iload_5, jt_31_126, at_31_129, at_31_130, cl_2_97, cat_n, cat_i, cat_r, cat_l, tl_i, tl_l, tl_n, sh_same, at_31_133, Nat.reduceAdd, Nat.reduceMul, Nat.reduceLeDiff, Nat.reduceSub, decide_true, decide_false, Bool.toNat_true, Bool.toNat_false, not_true_eq_false, not_false_eq_true, ite_not, true_and, and_true, if_true, if_false, ↓reduceIte, Bool.or_true, Bool.true_or, Bool.or_false, q_n4]
theorem cn_zero {f : Nat → Bool} : ∀ n, (∀ i, i < n → f i = false) → cn f n = 0 := by
  intro n
  induction n with
  | zero => intro _; rfl
  | succ n ih =>
    intro h
    show cn f n + (f n).toNat = 0
    rw [ih (fun i hi => h i (by omega)), h n (by omega)]
    rfl
theorem p1_id {r f c : Nat} (h7 : ∀ n, f ≤ n → n < f + c → A 10 n ≠ 7) : p1 A w r f c s = s := by
  obtain ⟨V, g, D⟩ := s
  have e1 : p1V A r f (f + c) V = V := by
    funext n
    unfold p1V
    rw [if_neg (fun z => h7 n z.1 z.2.1 z.2.2)]
  have e2 : cn (fun j => decide (A 10 (f + j) = 7)) c = 0 := cn_zero c (fun i hi => decide_eq_false (h7 _ (by omega) (by omega)))
  have e3 : p1m A w f (f + c) = false := by
    cases w with
    | none => rfl
    | some km =>
      show decide (f ≤ km.2 ∧ km.2 < f + c ∧ A 10 km.2 = 7) = false
      exact decide_eq_false (fun z => h7 _ z.1 z.2.1 z.2.2)
  unfold p1
  rw [e3, e1, e2]
  rfl
theorem ps_skip {f j : Nat} (h : A 10 (f + j) = 7 ∨ A 10 (f + j) = 8) : ps A ar w f (j + 1) s = ps A ar w f j s := by
  show (if _ then _ else _) = _
  rw [if_pos h]
theorem ps_do {f j : Nat} (h : ¬ (A 10 (f + j) = 7 ∨ A 10 (f + j) = 8)) : ps A ar w f (j + 1) s = ((fun q => if q = f + j then vo A ar (ps A ar w f j s).1 (f + j) else (ps A ar w f j s).1 q), (ps A ar w f j s).2.1 + 1, wq w (f + j) (fun q => if q = f + j then vo A ar (ps A ar w f j s).1 (f + j) else (ps A ar w f j s).1 q) (ps A ar w f j s).2.2) := by
  show (if _ then _ else _) = _
  rw [if_neg h]
theorem x_pass2 (hp : isP p) (hb : WB A) (hr : WR A) (h : PC p I A) (hg : PG p I A) (hm : isM o) {b : Nat} (hb' : b < A 0 0) {x : Int32} (hA : MA o I ar) (hw : MW o I A w)
    (K : ∀ (I' : Nat → Nat → Int32) (J' : Nat → Nat → Int64), (∀ o' k, ¬ (o' = o ∧ (k = 5 ∨ k = 6)) → I' o' k = I o' k) → (∀ o' k, o' ≠ o + 2 → o' ≠ o + 3 → J' o' k = J o' k) → MV o I' J' (ps A ar w (A 1 b) (A 2 b) s) → Q none (SH, I', J')) :
    ∀ d i (I' : Nat → Nat → Int32) (J' : Nat → Nat → Int64), i + d = A 2 b → (∀ o' k, ¬ (o' = o ∧ (k = 5 ∨ k = 6)) → I' o' k = I o' k) → (∀ o' k, o' ≠ o + 2 → o' ≠ o + 3 → J' o' k = J o' k) → MV o I' J' (ps A ar w (A 1 b) i s) → Go (ab_at 30 42) 30 42 [some (.ref o), some (.ref p), some (.int (x)), some (.int (nI (b))), some (.int (nI (A 1 b + A 2 b))), some (.int (nI (A 1 b + i)))] []  (SH, I', J') Q := by
  have hpp : p = 4 ∨ p = 73 ∨ p = 115 ∨ p = 157 := hp
  have hm2 := isM_lt hm
  have hbb := hr.2.2.1 b hb'
  have hN := hr.2.1
  intro d
  induction d with
  | zero =>
    intro i I' J' hi hf hg2 hV
    have : i = A 2 b := by omega
    subst this
    rw [at_30_42]
    simp (disch := first | omega | assumption | exact own_30 | exact rt_30 | exact mr_0 hm | exact pr_0 (by assumption) | exact q_lt1 (hb _ _) | exact bt_lt _ | fail) only [own_30, rt_30, ab_kl_n, ab_kl_i, ab_kl_r, ab_kl_l, at_30_0, Go_aload_1, at_30_1, Go_getf, fl_2_76, gg_3_2, sh_ref, sh_rf, at_30_4, Go_iload_3, at_30_5, Go_iaload, sh_ln, q_in, q_cl, at_30_6, at_30_7, fl_2_79, gg_3_3, at_30_10, at_30_11, at_30_12, Go_iadd, q_add, Nat.zero_add, at_30_13, Go_istore_4, ab_put_int_4, at_30_15, Go_aload_0, at_30_16, at_30_17, at_30_18, Go_iload_2, at_30_19, at_30_20, cl_2_82, cat_n, cat_i, cat_r, cat_l, tl_i, tl_l, tl_n, sh_same, at_30_23, at_30_24, at_30_27, at_30_28, at_30_29, Go_iload_4, at_30_31, cl_2_86, at_30_34, at_30_35, at_30_38, at_30_39, at_30_40, Go_istore_5, ab_put_int_5, Go_iload_5, at_30_44, jt_30_46, q_le, q_lt, q_eq, n_leT, n_leF, n_ltT, n_ltF, n_eqF, n_b0, at_30_49, at_30_50, fl_2_90, gg_3_11, at_30_53, at_30_55, at_30_56, Go_bipush, kb_7, jt_30_58, at_30_61, at_30_62, at_30_65, at_30_67, at_30_68, kb_8, jt_30_70, jt_30_73, at_30_76, at_30_77, fl_2_15, gg_2_1, sr_49, sf_49_1, sr_51, sn_51, sr_53, sf_53_1, sr_55, sn_55, at_30_80, at_30_82, at_30_83, at_30_84, at_30_86, cl_2_93, at_30_89, Go_lastore, sh_setl, at_30_90, at_30_91, Go_dup_int, Go_dup_ref, at_30_92, fl_2_42, gg_2_5, at_30_95, Go_iconst, kc_1, at_30_96, at_30_97, Go_putf, gp_2_5, sh_seti, at_30_100, at_30_102, at_30_103, fl_2_22, gg_2_8, jt_30_106, at_30_109, at_30_110, cl_2_97, at_30_113, Go_iinc_5, jt_30_116, at_30_119, Go_return, Nat.reduceAdd, Nat.reduceMul, Nat.reduceLeDiff, Nat.reduceSub, decide_true, decide_false, Bool.toNat_true, Bool.toNat_false, not_true_eq_false, not_false_eq_true, ite_not, true_and, and_true, if_true, if_false, ↓reduceIte, Bool.or_true, Bool.true_or, Bool.or_false]
    exact K I' J' hf hg2 hV
  | succ d ih =>
    intro i I' J' hi hf hg2 hV
    have h' := PC_fr (I' := I') (fun o' k h1 h2 => hf o' k (by omega)) hr h
    have hg' := PG_fr (I' := I') (fun o' k h1 h2 => hf o' k (by omega)) hr hg
    have e8' := h'.2.2.2.2.2.2.2.2.1
    have hA' : MA o I' ar := fun j hj => by rw [hf _ _ (by omega)]; exact hA j hj
    have hin : A 1 b + i < A 0 1 := by omega
    have q0 := (hr.2.2.2 _ hin).1
    rw [at_30_42]
    by_cases c7 : A 10 (A 1 b + i) = 7
    · have ih2 := ih (i + 1) I' J' (by omega) hf hg2 (by rw [ps_skip (Or.inl c7)]; exact hV)
      simp (disch := first | omega | assumption | exact own_30 | exact rt_30 | exact mr_0 hm | exact pr_0 (by assumption) | exact q_lt1 (hb _ _) | exact bt_lt _ | fail) only [own_30, rt_30, ab_kl_n, ab_kl_i, ab_kl_r, ab_kl_l, at_30_0, Go_aload_1, at_30_1, Go_getf, fl_2_76, gg_3_2, sh_ref, sh_rf, at_30_4, Go_iload_3, at_30_5, Go_iaload, sh_ln, q_in, q_cl, at_30_6, at_30_7, fl_2_79, gg_3_3, at_30_10, at_30_11, at_30_12, Go_iadd, q_add, Nat.zero_add, at_30_13, Go_istore_4, ab_put_int_4, at_30_15, Go_aload_0, at_30_16, at_30_17, at_30_18, Go_iload_2, at_30_19, at_30_20, cl_2_82, cat_n, cat_i, cat_r, cat_l, tl_i, tl_l, tl_n, sh_same, at_30_23, at_30_24, at_30_27, at_30_28, at_30_29, Go_iload_4, at_30_31, cl_2_86, at_30_34, at_30_35, at_30_38, at_30_39, at_30_40, Go_istore_5, ab_put_int_5, Go_iload_5, at_30_44, jt_30_46, q_le, q_lt, q_eq, n_leT, n_leF, n_ltT, n_ltF, n_eqF, n_b0, at_30_49, at_30_50, fl_2_90, gg_3_11, at_30_53, at_30_55, at_30_56, Go_bipush, kb_7, jt_30_58, at_30_61, at_30_62, at_30_65, at_30_67, at_30_68, kb_8, jt_30_70, jt_30_73, at_30_76, at_30_77, fl_2_15, gg_2_1, sr_49, sf_49_1, sr_51, sn_51, sr_53, sf_53_1, sr_55, sn_55, at_30_80, at_30_82, at_30_83, at_30_84, at_30_86, cl_2_93, at_30_89, Go_lastore, sh_setl, at_30_90, at_30_91, Go_dup_int, Go_dup_ref, at_30_92, fl_2_42, gg_2_5, at_30_95, Go_iconst, kc_1, at_30_96, at_30_97, Go_putf, gp_2_5, sh_seti, at_30_100, at_30_102, at_30_103, fl_2_22, gg_2_8, jt_30_106, at_30_109, at_30_110, cl_2_97, at_30_113, Go_iinc_5, jt_30_116, at_30_119, Go_return, Nat.reduceAdd, Nat.reduceMul, Nat.reduceLeDiff, Nat.reduceSub, decide_true, decide_false, Bool.toNat_true, Bool.toNat_false, not_true_eq_false, not_false_eq_true, ite_not, true_and, and_true, if_true, if_false, ↓reduceIte, Bool.or_true, Bool.true_or, Bool.or_false, e8', pf_11 hp, pr_16 hp, pn_16 hp, pr_0 hp, c7]
      exact ih2
    · by_cases c8 : A 10 (A 1 b + i) = 8
      · have ih2 := ih (i + 1) I' J' (by omega) hf hg2 (by rw [ps_skip (Or.inr c8)]; exact hV)
        simp (disch := first | omega | assumption | exact own_30 | exact rt_30 | exact mr_0 hm | exact pr_0 (by assumption) | exact q_lt1 (hb _ _) | exact bt_lt _ | fail) only [own_30, rt_30, ab_kl_n, ab_kl_i, ab_kl_r, ab_kl_l, at_30_0, Go_aload_1, at_30_1, Go_getf, fl_2_76, gg_3_2, sh_ref, sh_rf, at_30_4, Go_iload_3, at_30_5, Go_iaload, sh_ln, q_in, q_cl, at_30_6, at_30_7, fl_2_79, gg_3_3, at_30_10, at_30_11, at_30_12, Go_iadd, q_add, Nat.zero_add, at_30_13, Go_istore_4, ab_put_int_4, at_30_15, Go_aload_0, at_30_16, at_30_17, at_30_18, Go_iload_2, at_30_19, at_30_20, cl_2_82, cat_n, cat_i, cat_r, cat_l, tl_i, tl_l, tl_n, sh_same, at_30_23, at_30_24, at_30_27, at_30_28, at_30_29, Go_iload_4, at_30_31, cl_2_86, at_30_34, at_30_35, at_30_38, at_30_39, at_30_40, Go_istore_5, ab_put_int_5, Go_iload_5, at_30_44, jt_30_46, q_le, q_lt, q_eq, n_leT, n_leF, n_ltT, n_ltF, n_eqF, n_b0, at_30_49, at_30_50, fl_2_90, gg_3_11, at_30_53, at_30_55, at_30_56, Go_bipush, kb_7, jt_30_58, at_30_61, at_30_62, at_30_65, at_30_67, at_30_68, kb_8, jt_30_70, jt_30_73, at_30_76, at_30_77, fl_2_15, gg_2_1, sr_49, sf_49_1, sr_51, sn_51, sr_53, sf_53_1, sr_55, sn_55, at_30_80, at_30_82, at_30_83, at_30_84, at_30_86, cl_2_93, at_30_89, Go_lastore, sh_setl, at_30_90, at_30_91, Go_dup_int, Go_dup_ref, at_30_92, fl_2_42, gg_2_5, at_30_95, Go_iconst, kc_1, at_30_96, at_30_97, Go_putf, gp_2_5, sh_seti, at_30_100, at_30_102, at_30_103, fl_2_22, gg_2_8, jt_30_106, at_30_109, at_30_110, cl_2_97, at_30_113, Go_iinc_5, jt_30_116, at_30_119, Go_return, Nat.reduceAdd, Nat.reduceMul, Nat.reduceLeDiff, Nat.reduceSub, decide_true, decide_false, Bool.toNat_true, Bool.toNat_false, not_true_eq_false, not_false_eq_true, ite_not, true_and, and_true, if_true, if_false, ↓reduceIte, Bool.or_true, Bool.true_or, Bool.or_false, e8', pf_11 hp, pr_16 hp, pn_16 hp, pr_0 hp, c8, Nat.reduceEqDiff]
        exact ih2
      · have sb := fun Q => x_bringOf (Q := Q) hp hb hr h' hg' hm hV hA' hin (by omega)
        have edo := ps_do (ar := ar) (w := w) (s := s) (fun z => z.elim c7 c8 : ¬ (A 10 (A 1 b + i) = 7 ∨ A 10 (A 1 b + i) = 8))
        generalize ps A ar w (A 1 b) i s = S at *
        obtain ⟨V, g, D⟩ := S
        obtain ⟨v1, v2, v3⟩ := hV
        simp only at v1 v2 v3 edo sb
        generalize hval : vo A ar V (A 1 b + i) = val at *
        generalize hn : A 1 b + i = n at *
        have mv2 : MV o (ab_up I' o 5 (nI (g + 1))) (ab_up J' (o + 2) n val) ((fun q => if q = n then val else V q), g + 1, D) := by
          refine ⟨fun q hq => ?_, fr_sets, by rw [fr_setk (by omega)]; exact v3⟩
          show ab_up J' (o + 2) n val (o + 2) q = if q = n then val else V q
          by_cases z : q = n
          · subst z; rw [fr_setls, if_pos rfl]
          · rw [fr_setlk z, if_neg z]; exact v1 q hq
        have hfI : ∀ o' k, ¬ (o' = o ∧ (k = 5 ∨ k = 6)) → ab_up I' o 5 (nI (g + 1)) o' k = I o' k := fun o' k hk => by
          unfold ab_up
          rw [if_neg (by omega)]
          exact hf _ _ hk
        have hfJ : ∀ o' k, o' ≠ o + 2 → o' ≠ o + 3 → ab_up J' (o + 2) n val o' k = J o' k := fun o' k k1 k2 => by
          rw [fr_setlo k1]; exact hg2 _ _ k1 k2
        have hw8 : ab_up I' o 5 (nI (g + 1)) o 8 = I o 8 := hfI _ _ (by omega)
        have hin2 : n + 1 = A 1 b + (i + 1) := by omega
        cases w with
        | none =>
          have hw0 : I o 8 = -4 := hw
          rw [hw0] at hw8
          have ih2 := ih (i + 1) _ _ (by omega) hfI hfJ (by rw [edo]; exact mv2)
          simp (disch := first | omega | assumption | exact own_30 | exact rt_30 | exact mr_0 hm | exact mr_0 hm | exact pr_0 (by assumption) | exact q_lt1 (hb _ _) | exact bt_lt _ | fail) only [own_30, rt_30, ab_kl_n, ab_kl_i, ab_kl_r, ab_kl_l, at_30_0, Go_aload_1, at_30_1, Go_getf, fl_2_76, gg_3_2, sh_ref, sh_rf, at_30_4, Go_iload_3, at_30_5, Go_iaload, sh_ln, q_in, q_cl, at_30_6, at_30_7, fl_2_79, gg_3_3, at_30_10, at_30_11, at_30_12, Go_iadd, q_add, Nat.zero_add, at_30_13, Go_istore_4, ab_put_int_4, at_30_15, Go_aload_0, at_30_16, at_30_17, at_30_18, Go_iload_2, at_30_19, at_30_20, cl_2_82, cat_n, cat_i, cat_r, cat_l, tl_i, tl_l, tl_n, sh_same, at_30_23, at_30_24, at_30_27, at_30_28, at_30_29, Go_iload_4, at_30_31, cl_2_86, at_30_34, at_30_35, at_30_38, at_30_39, at_30_40, Go_istore_5, ab_put_int_5, Go_iload_5, at_30_44, jt_30_46, q_le, q_lt, q_eq, n_leT, n_leF, n_ltT, n_ltF, n_eqF, n_b0, at_30_49, at_30_50, fl_2_90, gg_3_11, at_30_53, at_30_55, at_30_56, Go_bipush, kb_7, jt_30_58, at_30_61, at_30_62, at_30_65, at_30_67, at_30_68, kb_8, jt_30_70, jt_30_73, at_30_76, at_30_77, fl_2_15, gg_2_1, sr_49, sf_49_1, sr_51, sn_51, sr_53, sf_53_1, sr_55, sn_55, at_30_80, at_30_82, at_30_83, at_30_84, at_30_86, cl_2_93, at_30_89, Go_lastore, sh_setl, at_30_90, at_30_91, Go_dup_int, Go_dup_ref, at_30_92, fl_2_42, gg_2_5, at_30_95, Go_iconst, kc_1, at_30_96, at_30_97, Go_putf, gp_2_5, sh_seti, at_30_100, at_30_102, at_30_103, fl_2_22, gg_2_8, jt_30_106, at_30_109, at_30_110, cl_2_97, at_30_113, Go_iinc_5, jt_30_116, at_30_119, Go_return, Nat.reduceAdd, Nat.reduceMul, Nat.reduceLeDiff, Nat.reduceSub, decide_true, decide_false, Bool.toNat_true, Bool.toNat_false, not_true_eq_false, not_false_eq_true, ite_not, true_and, and_true, if_true, if_false, ↓reduceIte, Bool.or_true, Bool.true_or, Bool.or_false, mf_0 hm, mf_1 hm, mf_7 hm, mr_0 hm, mr_1 hm, mr_2 hm, mr_3 hm, mn_1 hm, mn_2 hm, mn_3 hm, e8', pf_11 hp, pr_16 hp, pn_16 hp, pr_0 hp, c7, c8, sb, v2, hw8, q_m4]
          rw [hin2]
          exact ih2
        | some km =>
          obtain ⟨k, m⟩ := km
          obtain ⟨w1, w2, w3, w4⟩ := hw
          rw [w1] at hw8
          by_cases y : n = m
          · have mw2 : MW o (ab_up I' o 5 (nI (g + 1))) A (some (k, m)) := ⟨by rw [hfI _ _ (by omega)]; exact w1, by rw [hfI _ _ (by omega)]; exact w2, w3, w4⟩
            have sc := fun Q => x_compare (Q := Q) hm hN mv2 mw2
            have hwq : wq (some (k, m)) n (fun q => if q = n then val else V q) D = cmq (fun q => if q = n then val else V q) k m D := if_pos y
            rw [hwq] at edo
            rw [← y] at hw8
            generalize hV2 : (fun q => if q = n then val else V q) = V2 at *
            simp only at sc
            by_cases dd : ¬ V2 k = NOT ∧ ¬ V2 k = V2 m
            · have e2 : cmq V2 k m D = D + nI 1 := if_pos dd
              have sc2 : ∀ Q, Ex 33 [.ref o] (SH, ab_up I' o 5 (nI (g + 1)), ab_up J' (o + 2) n val) Q = Q none (SH, ab_up (ab_up I' o 5 (nI (g + 1))) o 6 (D + nI 1), ab_up J' (o + 2) n val) := fun Q => by rw [sc, if_pos dd]
              rw [e2] at edo
              obtain ⟨z1, z2, z3⟩ := mv2
              have ih2 := ih (i + 1) (ab_up (ab_up I' o 5 (nI (g + 1))) o 6 (D + nI 1)) _ (by omega) (fun o' k hk => by
                rw [← hfI o' k hk]
                unfold ab_up
                rw [if_neg (by omega)]) hfJ (by
                rw [edo]
                exact ⟨z1, by rw [fr_setk (by omega)]; exact z2, fr_sets⟩)
              simp (disch := first | omega | assumption | exact own_30 | exact rt_30 | exact mr_0 hm | exact mr_0 hm | exact pr_0 (by assumption) | exact q_lt1 (hb _ _) | exact bt_lt _ | fail) only [own_30, rt_30, ab_kl_n, ab_kl_i, ab_kl_r, ab_kl_l, at_30_0, Go_aload_1, at_30_1, Go_getf, fl_2_76, gg_3_2, sh_ref, sh_rf, at_30_4, Go_iload_3, at_30_5, Go_iaload, sh_ln, q_in, q_cl, at_30_6, at_30_7, fl_2_79, gg_3_3, at_30_10, at_30_11, at_30_12, Go_iadd, q_add, Nat.zero_add, at_30_13, Go_istore_4, ab_put_int_4, at_30_15, Go_aload_0, at_30_16, at_30_17, at_30_18, Go_iload_2, at_30_19, at_30_20, cl_2_82, cat_n, cat_i, cat_r, cat_l, tl_i, tl_l, tl_n, sh_same, at_30_23, at_30_24, at_30_27, at_30_28, at_30_29, Go_iload_4, at_30_31, cl_2_86, at_30_34, at_30_35, at_30_38, at_30_39, at_30_40, Go_istore_5, ab_put_int_5, Go_iload_5, at_30_44, jt_30_46, q_le, q_lt, q_eq, n_leT, n_leF, n_ltT, n_ltF, n_eqF, n_b0, at_30_49, at_30_50, fl_2_90, gg_3_11, at_30_53, at_30_55, at_30_56, Go_bipush, kb_7, jt_30_58, at_30_61, at_30_62, at_30_65, at_30_67, at_30_68, kb_8, jt_30_70, jt_30_73, at_30_76, at_30_77, fl_2_15, gg_2_1, sr_49, sf_49_1, sr_51, sn_51, sr_53, sf_53_1, sr_55, sn_55, at_30_80, at_30_82, at_30_83, at_30_84, at_30_86, cl_2_93, at_30_89, Go_lastore, sh_setl, at_30_90, at_30_91, Go_dup_int, Go_dup_ref, at_30_92, fl_2_42, gg_2_5, at_30_95, Go_iconst, kc_1, at_30_96, at_30_97, Go_putf, gp_2_5, sh_seti, at_30_100, at_30_102, at_30_103, fl_2_22, gg_2_8, jt_30_106, at_30_109, at_30_110, cl_2_97, at_30_113, Go_iinc_5, jt_30_116, at_30_119, Go_return, Nat.reduceAdd, Nat.reduceMul, Nat.reduceLeDiff, Nat.reduceSub, decide_true, decide_false, Bool.toNat_true, Bool.toNat_false, not_true_eq_false, not_false_eq_true, ite_not, true_and, and_true, if_true, if_false, ↓reduceIte, Bool.or_true, Bool.true_or, Bool.or_false, mf_0 hm, mf_1 hm, mf_7 hm, mr_0 hm, mr_1 hm, mr_2 hm, mr_3 hm, mn_1 hm, mn_2 hm, mn_3 hm, e8', pf_11 hp, pr_16 hp, pn_16 hp, pr_0 hp, c7, c8, sb, v2, hw8, sc2]
              rw [hin2]
              exact ih2
            · have e2 : cmq V2 k m D = D := if_neg dd
              have sc2 : ∀ Q, Ex 33 [.ref o] (SH, ab_up I' o 5 (nI (g + 1)), ab_up J' (o + 2) n val) Q = Q none (SH, ab_up I' o 5 (nI (g + 1)), ab_up J' (o + 2) n val) := fun Q => by rw [sc, if_neg dd]
              rw [e2] at edo
              have ih2 := ih (i + 1) _ _ (by omega) hfI hfJ (by rw [edo]; exact mv2)
              simp (disch := first | omega | assumption | exact own_30 | exact rt_30 | exact mr_0 hm | exact mr_0 hm | exact pr_0 (by assumption) | exact q_lt1 (hb _ _) | exact bt_lt _ | fail) only [own_30, rt_30, ab_kl_n, ab_kl_i, ab_kl_r, ab_kl_l, at_30_0, Go_aload_1, at_30_1, Go_getf, fl_2_76, gg_3_2, sh_ref, sh_rf, at_30_4, Go_iload_3, at_30_5, Go_iaload, sh_ln, q_in, q_cl, at_30_6, at_30_7, fl_2_79, gg_3_3, at_30_10, at_30_11, at_30_12, Go_iadd, q_add, Nat.zero_add, at_30_13, Go_istore_4, ab_put_int_4, at_30_15, Go_aload_0, at_30_16, at_30_17, at_30_18, Go_iload_2, at_30_19, at_30_20, cl_2_82, cat_n, cat_i, cat_r, cat_l, tl_i, tl_l, tl_n, sh_same, at_30_23, at_30_24, at_30_27, at_30_28, at_30_29, Go_iload_4, at_30_31, cl_2_86, at_30_34, at_30_35, at_30_38, at_30_39, at_30_40, Go_istore_5, ab_put_int_5, Go_iload_5, at_30_44, jt_30_46, q_le, q_lt, q_eq, n_leT, n_leF, n_ltT, n_ltF, n_eqF, n_b0, at_30_49, at_30_50, fl_2_90, gg_3_11, at_30_53, at_30_55, at_30_56, Go_bipush, kb_7, jt_30_58, at_30_61, at_30_62, at_30_65, at_30_67, at_30_68, kb_8, jt_30_70, jt_30_73, at_30_76, at_30_77, fl_2_15, gg_2_1, sr_49, sf_49_1, sr_51, sn_51, sr_53, sf_53_1, sr_55, sn_55, at_30_80, at_30_82, at_30_83, at_30_84, at_30_86, cl_2_93, at_30_89, Go_lastore, sh_setl, at_30_90, at_30_91, Go_dup_int, Go_dup_ref, at_30_92, fl_2_42, gg_2_5, at_30_95, Go_iconst, kc_1, at_30_96, at_30_97, Go_putf, gp_2_5, sh_seti, at_30_100, at_30_102, at_30_103, fl_2_22, gg_2_8, jt_30_106, at_30_109, at_30_110, cl_2_97, at_30_113, Go_iinc_5, jt_30_116, at_30_119, Go_return, Nat.reduceAdd, Nat.reduceMul, Nat.reduceLeDiff, Nat.reduceSub, decide_true, decide_false, Bool.toNat_true, Bool.toNat_false, not_true_eq_false, not_false_eq_true, ite_not, true_and, and_true, if_true, if_false, ↓reduceIte, Bool.or_true, Bool.true_or, Bool.or_false, mf_0 hm, mf_1 hm, mf_7 hm, mr_0 hm, mr_1 hm, mr_2 hm, mr_3 hm, mn_1 hm, mn_2 hm, mn_3 hm, e8', pf_11 hp, pr_16 hp, pn_16 hp, pr_0 hp, c7, c8, sb, v2, hw8, sc2]
              rw [hin2]
              exact ih2
          · have hwq : wq (some (k, m)) n (fun q => if q = n then val else V q) D = D := if_neg y
            rw [hwq] at edo
            have ih2 := ih (i + 1) _ _ (by omega) hfI hfJ (by rw [edo]; exact mv2)
            simp (disch := first | omega | assumption | exact own_30 | exact rt_30 | exact mr_0 hm | exact mr_0 hm | exact pr_0 (by assumption) | exact q_lt1 (hb _ _) | exact bt_lt _ | fail) only [own_30, rt_30, ab_kl_n, ab_kl_i, ab_kl_r, ab_kl_l, at_30_0, Go_aload_1, at_30_1, Go_getf, fl_2_76, gg_3_2, sh_ref, sh_rf, at_30_4, Go_iload_3, at_30_5, Go_iaload, sh_ln, q_in, q_cl, at_30_6, at_30_7, fl_2_79, gg_3_3, at_30_10, at_30_11, at_30_12, Go_iadd, q_add, Nat.zero_add, at_30_13, Go_istore_4, ab_put_int_4, at_30_15, Go_aload_0, at_30_16, at_30_17, at_30_18, Go_iload_2, at_30_19, at_30_20, cl_2_82, cat_n, cat_i, cat_r, cat_l, tl_i, tl_l, tl_n, sh_same, at_30_23, at_30_24, at_30_27, at_30_28, at_30_29, Go_iload_4, at_30_31, cl_2_86, at_30_34, at_30_35, at_30_38, at_30_39, at_30_40, Go_istore_5, ab_put_int_5, Go_iload_5, at_30_44, jt_30_46, q_le, q_lt, q_eq, n_leT, n_leF, n_ltT, n_ltF, n_eqF, n_b0, at_30_49, at_30_50, fl_2_90, gg_3_11, at_30_53, at_30_55, at_30_56, Go_bipush, kb_7, jt_30_58, at_30_61, at_30_62, at_30_65, at_30_67, at_30_68, kb_8, jt_30_70, jt_30_73, at_30_76, at_30_77, fl_2_15, gg_2_1, sr_49, sf_49_1, sr_51, sn_51, sr_53, sf_53_1, sr_55, sn_55, at_30_80, at_30_82, at_30_83, at_30_84, at_30_86, cl_2_93, at_30_89, Go_lastore, sh_setl, at_30_90, at_30_91, Go_dup_int, Go_dup_ref, at_30_92, fl_2_42, gg_2_5, at_30_95, Go_iconst, kc_1, at_30_96, at_30_97, Go_putf, gp_2_5, sh_seti, at_30_100, at_30_102, at_30_103, fl_2_22, gg_2_8, jt_30_106, at_30_109, at_30_110, cl_2_97, at_30_113, Go_iinc_5, jt_30_116, at_30_119, Go_return, Nat.reduceAdd, Nat.reduceMul, Nat.reduceLeDiff, Nat.reduceSub, decide_true, decide_false, Bool.toNat_true, Bool.toNat_false, not_true_eq_false, not_false_eq_true, ite_not, true_and, and_true, if_true, if_false, ↓reduceIte, Bool.or_true, Bool.true_or, Bool.or_false, mf_0 hm, mf_1 hm, mf_7 hm, mr_0 hm, mr_1 hm, mr_2 hm, mr_3 hm, mn_1 hm, mn_2 hm, mn_3 hm, e8', pf_11 hp, pr_16 hp, pn_16 hp, pr_0 hp, c7, c8, sb, v2, hw8, y]
            rw [hin2]
            exact ih2
theorem x_pass (hp : isP p) (hb : WB A) (hr : WR A) (h : PC p I A) (hg : PG p I A) (hwg : WG A) (hwh : WH A) (hm : isM o) (hV : MV o I J s) (hw : MW o I A w) (hA : MA o I ar) {b r : Nat} (hb' : b < A 0 0) {x ρ : Int32} (hro : ∀ Q, Ex 54 [.ref p, .int x, .int (nI b)] (SH, I, J) Q = Q (some (.int ρ)) (SH, I, J)) (hc : (ρ = nI r ∧ r < A 7 b) ∨ (ρ = -4 ∧ A 7 b = 0))
    (K : ∀ (I' : Nat → Nat → Int32) (J' : Nat → Nat → Int64), (∀ o' k, ¬ (o' = o ∧ (k = 5 ∨ k = 6)) → I' o' k = I o' k) → (∀ o' k, o' ≠ o + 2 → o' ≠ o + 3 → J' o' k = J o' k) → MV o I' J' (pa A ar w r b s) → Q none (SH, I', J')) : Ex 30 [.ref o, .ref p, .int x, .int (nI b)] (SH, I, J) Q := by
  have hpp : p = 4 ∨ p = 73 ∨ p = 115 ∨ p = 157 := hp
  have hm2 := isM_lt hm
  have hbb := hr.2.2.1 b hb'
  have hN := hr.2.1
  have e2' := h.2.2.1
  have e3' := h.2.2.2.1
  have hr0 := hr.1
  have fin : ∀ (I' : Nat → Nat → Int32) (J' : Nat → Nat → Int64), (∀ o' k, ¬ (o' = o ∧ (k = 5 ∨ k = 6)) → I' o' k = I o' k) → (∀ o' k, o' ≠ o + 2 → o' ≠ o + 3 → J' o' k = J o' k) → MV o I' J' (p1 A w r (A 1 b) (A 2 b) s) → Go (ab_at 30 42) 30 42 [some (.ref o), some (.ref p), some (.int (x)), some (.int (nI (b))), some (.int (nI (A 1 b + A 2 b))), some (.int (nI (A 1 b)))] []  (SH, I', J') Q := by
    intro I' J' hf hg2 hV2
    have h' := PC_fr (I' := I') (fun o' k h1 h2 => hf o' k (by omega)) hr h
    have hg' := PG_fr (I' := I') (fun o' k h1 h2 => hf o' k (by omega)) hr hg
    have hA' : MA o I' ar := fun j hj => by rw [hf _ _ (by omega)]; exact hA j hj
    have hw' : MW o I' A w := by
      cases w with
      | none => exact (hf _ _ (by omega)).trans hw
      | some km => exact ⟨(hf _ _ (by omega)).trans hw.1, (hf _ _ (by omega)).trans hw.2.1, hw.2.2⟩
    exact x_pass2 (s := p1 A w r (A 1 b) (A 2 b) s) hp hb hr h' hg' hm hb' hA' hw' (fun I2 J2 k1 k2 k3 => K I2 J2 (fun o' k hk => (k1 o' k hk).trans (hf o' k hk)) (fun o' k z1 z2 => (k2 o' k z1 z2).trans (hg2 o' k z1 z2)) k3) (A 2 b) 0 I' J' (by omega) (fun _ _ _ => rfl) (fun _ _ _ _ => rfl) hV2
  rw [en_30]
  rcases hc with ⟨rfl, hc⟩ | ⟨rfl, hc⟩
  · simp (disch := first | omega | assumption | exact own_30 | exact rt_30 | exact mr_0 hm | exact mr_0 hm | exact pr_0 (by assumption) | exact q_lt1 (hb _ _) | exact bt_lt _ | fail) only [own_30, rt_30, ab_kl_n, ab_kl_i, ab_kl_r, ab_kl_l, at_30_0, Go_aload_1, at_30_1, Go_getf, fl_2_76, gg_3_2, sh_ref, sh_rf, at_30_4, Go_iload_3, at_30_5, Go_iaload, sh_ln, q_in, q_cl, at_30_6, at_30_7, fl_2_79, gg_3_3, at_30_10, at_30_11, at_30_12, Go_iadd, q_add, Nat.zero_add, at_30_13, Go_istore_4, ab_put_int_4, at_30_15, Go_aload_0, at_30_16, at_30_17, at_30_18, Go_iload_2, at_30_19, at_30_20, cl_2_82, cat_n, cat_i, cat_r, cat_l, tl_i, tl_l, tl_n, sh_same, at_30_23, at_30_24, at_30_27, at_30_28, at_30_29, Go_iload_4, at_30_31, cl_2_86, at_30_34, at_30_35, at_30_38, at_30_39, at_30_40, Go_istore_5, ab_put_int_5, Go_iload_5, at_30_44, jt_30_46, q_le, q_lt, q_eq, n_leT, n_leF, n_ltT, n_ltF, n_eqF, n_b0, at_30_49, at_30_50, fl_2_90, gg_3_11, at_30_53, at_30_55, at_30_56, Go_bipush, kb_7, jt_30_58, at_30_61, at_30_62, at_30_65, at_30_67, at_30_68, kb_8, jt_30_70, jt_30_73, at_30_76, at_30_77, fl_2_15, gg_2_1, sr_49, sf_49_1, sr_51, sn_51, sr_53, sf_53_1, sr_55, sn_55, at_30_80, at_30_82, at_30_83, at_30_84, at_30_86, cl_2_93, at_30_89, Go_lastore, sh_setl, at_30_90, at_30_91, Go_dup_int, Go_dup_ref, at_30_92, fl_2_42, gg_2_5, at_30_95, Go_iconst, kc_1, at_30_96, at_30_97, Go_putf, gp_2_5, sh_seti, at_30_100, at_30_102, at_30_103, fl_2_22, gg_2_8, jt_30_106, at_30_109, at_30_110, cl_2_97, at_30_113, Go_iinc_5, jt_30_116, at_30_119, Go_return, Nat.reduceAdd, Nat.reduceMul, Nat.reduceLeDiff, Nat.reduceSub, decide_true, decide_false, Bool.toNat_true, Bool.toNat_false, not_true_eq_false, not_false_eq_true, ite_not, true_and, and_true, if_true, if_false, ↓reduceIte, Bool.or_true, Bool.true_or, Bool.or_false, mf_0 hm, mf_1 hm, mf_7 hm, mr_0 hm, mr_1 hm, mr_2 hm, mr_3 hm, mn_1 hm, mn_2 hm, mn_3 hm, e2', e3', pf_2 hp, pr_1 hp, pn_1 hp, pf_3 hp, pr_2 hp, pn_2 hp, pr_0 hp, hro]
    refine x_passPhis hp hb hr h hg hm hV hw hbb.1 (by omega) (fun n h1 h2 h7 => ?_) (fun I' J' hf hg2 hV2 => ?_)
    · rw [(hr.2.2.2 n (by omega)).2.2.2.2.2.2.2.1 h7, hwh b n hb' h1 h2]
      exact hc
    · have e2'' := (PC_fr (I' := I') (fun o' k h1 h2 => hf o' k (by omega)) hr h).2.2.1
      simp (disch := first | omega | assumption | exact own_30 | exact rt_30 | exact mr_0 hm | exact mr_0 hm | exact pr_0 (by assumption) | exact q_lt1 (hb _ _) | exact bt_lt _ | fail) only [own_30, rt_30, ab_kl_n, ab_kl_i, ab_kl_r, ab_kl_l, at_30_0, Go_aload_1, at_30_1, Go_getf, fl_2_76, gg_3_2, sh_ref, sh_rf, at_30_4, Go_iload_3, at_30_5, Go_iaload, sh_ln, q_in, q_cl, at_30_6, at_30_7, fl_2_79, gg_3_3, at_30_10, at_30_11, at_30_12, Go_iadd, q_add, Nat.zero_add, at_30_13, Go_istore_4, ab_put_int_4, at_30_15, Go_aload_0, at_30_16, at_30_17, at_30_18, Go_iload_2, at_30_19, at_30_20, cl_2_82, cat_n, cat_i, cat_r, cat_l, tl_i, tl_l, tl_n, sh_same, at_30_23, at_30_24, at_30_27, at_30_28, at_30_29, Go_iload_4, at_30_31, cl_2_86, at_30_34, at_30_35, at_30_38, at_30_39, at_30_40, Go_istore_5, ab_put_int_5, Go_iload_5, at_30_44, jt_30_46, q_le, q_lt, q_eq, n_leT, n_leF, n_ltT, n_ltF, n_eqF, n_b0, at_30_49, at_30_50, fl_2_90, gg_3_11, at_30_53, at_30_55, at_30_56, Go_bipush, kb_7, jt_30_58, at_30_61, at_30_62, at_30_65, at_30_67, at_30_68, kb_8, jt_30_70, jt_30_73, at_30_76, at_30_77, fl_2_15, gg_2_1, sr_49, sf_49_1, sr_51, sn_51, sr_53, sf_53_1, sr_55, sn_55, at_30_80, at_30_82, at_30_83, at_30_84, at_30_86, cl_2_93, at_30_89, Go_lastore, sh_setl, at_30_90, at_30_91, Go_dup_int, Go_dup_ref, at_30_92, fl_2_42, gg_2_5, at_30_95, Go_iconst, kc_1, at_30_96, at_30_97, Go_putf, gp_2_5, sh_seti, at_30_100, at_30_102, at_30_103, fl_2_22, gg_2_8, jt_30_106, at_30_109, at_30_110, cl_2_97, at_30_113, Go_iinc_5, jt_30_116, at_30_119, Go_return, Nat.reduceAdd, Nat.reduceMul, Nat.reduceLeDiff, Nat.reduceSub, decide_true, decide_false, Bool.toNat_true, Bool.toNat_false, not_true_eq_false, not_false_eq_true, ite_not, true_and, and_true, if_true, if_false, ↓reduceIte, Bool.or_true, Bool.true_or, Bool.or_false, mf_0 hm, mf_1 hm, mf_7 hm, mr_0 hm, mr_1 hm, mr_2 hm, mr_3 hm, mn_1 hm, mn_2 hm, mn_3 hm, e2'', pf_2 hp, pr_1 hp, pn_1 hp, pr_0 hp]
      exact fin I' J' hf hg2 hV2
  · have fin2 := fin I J (fun _ _ _ => rfl) (fun _ _ _ _ => rfl) (by
      rw [p1_id (fun n h1 h2 h7 => ?_)]
      · exact hV
      · have q1 := (hr.2.2.2 n (by omega)).2.2.2.2.2.2.2.1 h7
        have q2 := hwg.2.2.2.1 n (by omega) h7
        rw [hwh b n hb' h1 h2] at q1
        omega)
    simp (disch := first | omega | assumption | exact own_30 | exact rt_30 | exact mr_0 hm | exact mr_0 hm | exact pr_0 (by assumption) | exact q_lt1 (hb _ _) | exact bt_lt _ | fail) only [own_30, rt_30, ab_kl_n, ab_kl_i, ab_kl_r, ab_kl_l, at_30_0, Go_aload_1, at_30_1, Go_getf, fl_2_76, gg_3_2, sh_ref, sh_rf, at_30_4, Go_iload_3, at_30_5, Go_iaload, sh_ln, q_in, q_cl, at_30_6, at_30_7, fl_2_79, gg_3_3, at_30_10, at_30_11, at_30_12, Go_iadd, q_add, Nat.zero_add, at_30_13, Go_istore_4, ab_put_int_4, at_30_15, Go_aload_0, at_30_16, at_30_17, at_30_18, Go_iload_2, at_30_19, at_30_20, cl_2_82, cat_n, cat_i, cat_r, cat_l, tl_i, tl_l, tl_n, sh_same, at_30_23, at_30_24, at_30_27, at_30_28, at_30_29, Go_iload_4, at_30_31, cl_2_86, at_30_34, at_30_35, at_30_38, at_30_39, at_30_40, Go_istore_5, ab_put_int_5, Go_iload_5, at_30_44, jt_30_46, q_le, q_lt, q_eq, n_leT, n_leF, n_ltT, n_ltF, n_eqF, n_b0, at_30_49, at_30_50, fl_2_90, gg_3_11, at_30_53, at_30_55, at_30_56, Go_bipush, kb_7, jt_30_58, at_30_61, at_30_62, at_30_65, at_30_67, at_30_68, kb_8, jt_30_70, jt_30_73, at_30_76, at_30_77, fl_2_15, gg_2_1, sr_49, sf_49_1, sr_51, sn_51, sr_53, sf_53_1, sr_55, sn_55, at_30_80, at_30_82, at_30_83, at_30_84, at_30_86, cl_2_93, at_30_89, Go_lastore, sh_setl, at_30_90, at_30_91, Go_dup_int, Go_dup_ref, at_30_92, fl_2_42, gg_2_5, at_30_95, Go_iconst, kc_1, at_30_96, at_30_97, Go_putf, gp_2_5, sh_seti, at_30_100, at_30_102, at_30_103, fl_2_22, gg_2_8, jt_30_106, at_30_109, at_30_110, cl_2_97, at_30_113, Go_iinc_5, jt_30_116, at_30_119, Go_return, Nat.reduceAdd, Nat.reduceMul, Nat.reduceLeDiff, Nat.reduceSub, decide_true, decide_false, Bool.toNat_true, Bool.toNat_false, not_true_eq_false, not_false_eq_true, ite_not, true_and, and_true, if_true, if_false, ↓reduceIte, Bool.or_true, Bool.true_or, Bool.or_false, mf_0 hm, mf_1 hm, mf_7 hm, mr_0 hm, mr_1 hm, mr_2 hm, mr_3 hm, mn_1 hm, mn_2 hm, mn_3 hm, e2', e3', pf_2 hp, pr_1 hp, pn_1 hp, pf_3 hp, pr_2 hp, pn_2 hp, pr_0 hp, hro, x_passPhis0]
    exact fin2
end RNE
