/-! THE TEXT: scan -/
section SCO
variable {I I' : Nat → Nat → Int32} {J J' : Nat → Nat → Int64} {Q : Option Value → ab_H → Prop} {tp : Nat → Nat} {tl : Nat} {wk : Nat → Nat → Nat}
def Fs (I I' : Nat → Nat → Int32) : Prop := ∀ o k, o ≠ 46 → o ≠ 47 → o ≠ 48 → ¬ (o = 1 ∧ k = 8) → I' o k = I o k
def HW (tp : Nat → Nat) (tl : Nat) (wk : Nat → Nat → Nat) (J : Nat → Nat → Int64) : Prop := ∀ (I : Nat → Nat → Int32) (Q : Option Value → ab_H → Prop) (a : Nat), Ct tp tl I → tT tp tl a = 1 → I 1 8 = nI (tE tp tl a) → Ex 84 [.ref 1, .int (nI a)] (SH, I, J) Q = Q (some (.int (nI (wk a (tE tp tl a))))) (SH, I, J)
theorem x_scan (h : Ct tp tl I) (ht : tl ≤ 320) (hb : ∀ i, tp i < 128) (hwk : ∀ a e, wk a e ≤ 21) (hw : HW tp tl wk J)
    (K : ∀ I' N, Fs I I' → N ≤ 320 → endK (cK tp tl wk (tk tp tl N)) → (∀ j, j < N → ¬ endK (cK tp tl wk (tk tp tl j))) → CTo tp tl wk (N + 1) I' → Q none (SH, I', J)) : Ex 80 [.ref 1] (SH, I, J) Q := by
  rw [en_80]
  simp (disch := first | omega | assumption | exact own_80 | exact rt_80 | exact sr_1 | exact q_lt1 (hb _ _) | exact bt_lt _ | fail) only [own_80, rt_80, ab_kl_n, ab_kl_i, ab_kl_r, ab_kl_l, at_80_0, Go_aload_0, at_80_1, Go_iconst, kc_0, at_80_2, Go_putf, fl_4_123, gp_4_8, sh_ref, sh_rf, sh_seti, sr_1, at_80_5, Go_bipush, kb_23, at_80_7, Go_istore_1, ab_put_int_1, at_80_8, at_80_9, Go_istore_2, ab_put_int_2, Go_iload_2, at_80_11, Go_sipush, ks_320, jt_80_14, q_le, q_lt, q_eq, n_leT, n_leF, n_ltT, n_ltF, n_eqF, n_b0, at_80_17, Go_iload_1, at_80_18, kb_24, jt_80_20, at_80_23, at_80_24, kb_25, jt_80_26, at_80_29, at_80_30, kb_32, at_80_32, at_80_34, cl_4_126, cat_n, cat_i, cat_r, cat_l, tl_i, tl_l, tl_n, sh_same, at_80_37, at_80_38, Go_getf, fl_4_29, gg_4_5, sf_1_5, sr_47, sn_47, at_80_41, at_80_42, at_80_43, gg_4_8, at_80_46, Go_iastore, sh_ln, q_in, q_cl, at_80_47, at_80_48, fl_4_32, gg_4_6, sf_1_6, sr_48, sn_48, at_80_51, at_80_52, at_80_53, at_80_54, at_80_55, at_80_56, at_80_59, cl_4_130, at_80_62, at_80_63, at_80_64, fl_4_25, gg_4_4, sf_1_4, sr_46, sn_46, at_80_67, at_80_68, at_80_69, at_80_70, at_80_71, kb_22, jt_80_73, at_80_76, at_80_77, at_80_80, at_80_81, at_80_82, at_80_83, at_80_86, at_80_87, Go_iaload, at_80_88, cl_4_133, at_80_91, at_80_92, Go_iinc_2, kc_1, q_add, jt_80_95, at_80_98, Go_return, Nat.reduceAdd, Nat.reduceMul, Nat.reduceLeDiff, Nat.reduceSub, decide_true, decide_false, Bool.toNat_true, Bool.toNat_false, not_true_eq_false, not_false_eq_true, ite_not, true_and, and_true, if_true, if_false, ↓reduceIte, Bool.or_true, Bool.true_or, Bool.or_false]
  suffices hl : ∀ d i, i + d = 321 → ∀ (I1 : Nat → Nat → Int32) (last : Nat), Fs I I1 → (∀ j, j < i → ¬ endK (cK tp tl wk (tk tp tl j))) → last < 24 → I1 1 8 = nI (qs tp tl i) → CTo tp tl wk i I1 → Go (ab_at 80 10) 80 10 [some (.ref 1), some (.int (nI (last))), some (.int (nI (i)))] []  (SH, I1, J) Q by
    exact hl 321 0 (by omega) _ 23 (fun o k z1 z2 z3 z4 => upn z4) (fun j hj => absurd hj (Nat.not_lt_zero j)) (by omega) fr_sets (fun j hj => absurd hj (Nat.not_lt_zero j))
  intro d
  induction d with
  | zero =>
    intro i hi I1 last f1 hj hl h8 hc
    have q1 := qs_ge hwk i hj
    have q2 := qs_le (tp := tp) (tl := tl) i
    omega
  | succ d ih =>
    intro i hi I1 last f1 hj hl h8 hc
    have q1 := qs_ge hwk i hj
    have q2 := qs_le (tp := tp) (tl := tl) i
    have i320 : ¬ 320 < i := by omega
    have l24 : ¬ last = 24 := by omega
    have l25 : ¬ last = 25 := by omega
    have ct1 : Ct tp tl I1 := Ct_eq (fun o k _ => f1 o k (by omega) (by omega) (by omega) (by omega)) h
    rw [at_80_10]
    simp (disch := first | omega | assumption | exact own_80 | exact rt_80 | exact sr_1 | exact q_lt1 (hb _ _) | exact bt_lt _ | fail) only [own_80, rt_80, ab_kl_n, ab_kl_i, ab_kl_r, ab_kl_l, at_80_0, Go_aload_0, at_80_1, Go_iconst, kc_0, at_80_2, Go_putf, fl_4_123, gp_4_8, sh_ref, sh_rf, sh_seti, sr_1, at_80_5, Go_bipush, kb_23, at_80_7, Go_istore_1, ab_put_int_1, at_80_8, at_80_9, Go_istore_2, ab_put_int_2, Go_iload_2, at_80_11, Go_sipush, ks_320, jt_80_14, q_le, q_lt, q_eq, n_leT, n_leF, n_ltT, n_ltF, n_eqF, n_b0, at_80_17, Go_iload_1, at_80_18, kb_24, jt_80_20, at_80_23, at_80_24, kb_25, jt_80_26, at_80_29, at_80_30, kb_32, at_80_32, at_80_34, cl_4_126, cat_n, cat_i, cat_r, cat_l, tl_i, tl_l, tl_n, sh_same, at_80_37, at_80_38, Go_getf, fl_4_29, gg_4_5, sf_1_5, sr_47, sn_47, at_80_41, at_80_42, at_80_43, gg_4_8, at_80_46, Go_iastore, sh_ln, q_in, q_cl, at_80_47, at_80_48, fl_4_32, gg_4_6, sf_1_6, sr_48, sn_48, at_80_51, at_80_52, at_80_53, at_80_54, at_80_55, at_80_56, at_80_59, cl_4_130, at_80_62, at_80_63, at_80_64, fl_4_25, gg_4_4, sf_1_4, sr_46, sn_46, at_80_67, at_80_68, at_80_69, at_80_70, at_80_71, kb_22, jt_80_73, at_80_76, at_80_77, at_80_80, at_80_81, at_80_82, at_80_83, at_80_86, at_80_87, Go_iaload, at_80_88, cl_4_133, at_80_91, at_80_92, Go_iinc_2, kc_1, q_add, jt_80_95, at_80_98, Go_return, Nat.reduceAdd, Nat.reduceMul, Nat.reduceLeDiff, Nat.reduceSub, decide_true, decide_false, Bool.toNat_true, Bool.toNat_false, not_true_eq_false, not_false_eq_true, ite_not, true_and, and_true, if_true, if_false, ↓reduceIte, Bool.or_true, Bool.true_or, Bool.or_false, i320, l24, l25]
    refine x_skip ct1 ht hb q2 h8 (by omega) (by omega) (fun I2 f2 g8 => ?_)
    have g8 : I2 1 8 = nI (tk tp tl i) := g8
    have g8' : ∀ x, ab_up I2 47 i x 1 8 = nI (tk tp tl i) := fun x => by rw [upn (by omega)]; exact g8
    have g8'' : ∀ x y, ab_up (ab_up I2 47 i x) 48 i y 1 8 = nI (tk tp tl i) := fun x y => by rw [upn (by omega), upn (by omega)]; exact g8
    have tkl : tk tp tl i ≤ tl := (tA_le q2).2
    simp (disch := first | omega | assumption | exact own_80 | exact rt_80 | exact sr_1 | exact q_lt1 (hb _ _) | exact bt_lt _ | fail) only [own_80, rt_80, ab_kl_n, ab_kl_i, ab_kl_r, ab_kl_l, at_80_0, Go_aload_0, at_80_1, Go_iconst, kc_0, at_80_2, Go_putf, fl_4_123, gp_4_8, sh_ref, sh_rf, sh_seti, sr_1, at_80_5, Go_bipush, kb_23, at_80_7, Go_istore_1, ab_put_int_1, at_80_8, at_80_9, Go_istore_2, ab_put_int_2, Go_iload_2, at_80_11, Go_sipush, ks_320, jt_80_14, q_le, q_lt, q_eq, n_leT, n_leF, n_ltT, n_ltF, n_eqF, n_b0, at_80_17, Go_iload_1, at_80_18, kb_24, jt_80_20, at_80_23, at_80_24, kb_25, jt_80_26, at_80_29, at_80_30, kb_32, at_80_32, at_80_34, cl_4_126, cat_n, cat_i, cat_r, cat_l, tl_i, tl_l, tl_n, sh_same, at_80_37, at_80_38, Go_getf, fl_4_29, gg_4_5, sf_1_5, sr_47, sn_47, at_80_41, at_80_42, at_80_43, gg_4_8, at_80_46, Go_iastore, sh_ln, q_in, q_cl, at_80_47, at_80_48, fl_4_32, gg_4_6, sf_1_6, sr_48, sn_48, at_80_51, at_80_52, at_80_53, at_80_54, at_80_55, at_80_56, at_80_59, cl_4_130, at_80_62, at_80_63, at_80_64, fl_4_25, gg_4_4, sf_1_4, sr_46, sn_46, at_80_67, at_80_68, at_80_69, at_80_70, at_80_71, kb_22, jt_80_73, at_80_76, at_80_77, at_80_80, at_80_81, at_80_82, at_80_83, at_80_86, at_80_87, Go_iaload, at_80_88, cl_4_133, at_80_91, at_80_92, Go_iinc_2, kc_1, q_add, jt_80_95, at_80_98, Go_return, Nat.reduceAdd, Nat.reduceMul, Nat.reduceLeDiff, Nat.reduceSub, decide_true, decide_false, Bool.toNat_true, Bool.toNat_false, not_true_eq_false, not_false_eq_true, ite_not, true_and, and_true, if_true, if_false, ↓reduceIte, Bool.or_true, Bool.true_or, Bool.or_false, g8, g8', g8'']
    have cl := cK_le (tp := tp) (tl := tl) hwk (tk tp tl i)
    refine x_scanToken (wk := wk) (Ct_eq (fun o k _ => by rw [upn (by omega), upn (by omega)]; exact f2 o k (by omega)) ct1) ht hb tkl (g8'' _ _) (fun I' Q f3 t1 t8 => hw I' Q _ (Ct_eq (fun o k _ => by rw [f3 o k (by omega), upn (by omega), upn (by omega)]; exact f2 o k (by omega)) ct1) t1 t8) (fun I3 f3 t8 => ?_)
    have f3' : ∀ o k, ¬ (o = 1 ∧ k = 8) → ¬ (o = 47 ∧ k = i) → ¬ (o = 48 ∧ k = i) → I3 o k = I1 o k := fun o k z1 z2 z3 => by rw [f3 o k z1, upn z3, upn z2]; exact f2 o k z1
    have g47 : ∀ x, ab_up I3 46 i x 47 i = nI (tk tp tl i) := fun x => by rw [upn (by omega), f3 _ _ (by omega), upn (by omega)]; exact fr_sets
    have fin : ∀ I4 : Nat → Nat → Int32, (∀ o k, ¬ (o = 46 ∧ k = i) → ¬ (o = 48 ∧ k = i) → I4 o k = I3 o k) → I4 46 i = nI (cK tp tl wk (tk tp tl i)) → (cK tp tl wk (tk tp tl i) = 22 → I4 48 i = nI (tV tp tl (tk tp tl i))) → Go (ab_at 80 10) 80 10 [some (.ref 1), some (.int (nI (cK tp tl wk (tk tp tl i)))), some (.int (nI ((i + 1))))] []  (SH, I4, J) Q := fun I4 f4 p1 p2 => by
      have fs4 : Fs I I4 := fun o k z1 z2 z3 z4 => by rw [f4 o k (by omega) (by omega), f3' o k z4 (by omega) (by omega)]; exact f1 o k z1 z2 z3 z4
      have ct4 : CTo tp tl wk (i + 1) I4 := fun j hj' => by
        by_cases y : j = i
        · subst y
          refine ⟨p1, ?_, p2⟩
          rw [f4 _ _ (by omega) (by omega), f3 _ _ (by omega), upn (by omega)]
          exact fr_sets
        · obtain ⟨c1, c2, c3⟩ := hc j (by omega)
          have e : ∀ o, I4 o j = I1 o j ∨ (o = 1 ∧ j = 8) := fun o => by
            by_cases w : o = 1 ∧ j = 8
            · exact Or.inr w
            · left
              rw [f4 _ _ (by omega) (by omega), f3' _ _ w (by omega) (by omega)]
          refine ⟨?_, ?_, fun z => ?_⟩
          · rcases e 46 with w | w
            · rw [w]; exact c1
            · omega
          · rcases e 47 with w | w
            · rw [w]; exact c2
            · omega
          · rcases e 48 with w | w
            · rw [w]; exact c3 z
            · omega
      by_cases ce : endK (cK tp tl wk (tk tp tl i))
      · have K0 := K I4 i fs4 (by omega) ce hj ct4
        rw [at_80_10]
        by_cases c9 : 320 < i + 1
        · simp (disch := first | omega | assumption | exact own_80 | exact rt_80 | exact sr_1 | exact q_lt1 (hb _ _) | exact bt_lt _ | fail) only [own_80, rt_80, ab_kl_n, ab_kl_i, ab_kl_r, ab_kl_l, at_80_0, Go_aload_0, at_80_1, Go_iconst, kc_0, at_80_2, Go_putf, fl_4_123, gp_4_8, sh_ref, sh_rf, sh_seti, sr_1, at_80_5, Go_bipush, kb_23, at_80_7, Go_istore_1, ab_put_int_1, at_80_8, at_80_9, Go_istore_2, ab_put_int_2, Go_iload_2, at_80_11, Go_sipush, ks_320, jt_80_14, q_le, q_lt, q_eq, n_leT, n_leF, n_ltT, n_ltF, n_eqF, n_b0, at_80_17, Go_iload_1, at_80_18, kb_24, jt_80_20, at_80_23, at_80_24, kb_25, jt_80_26, at_80_29, at_80_30, kb_32, at_80_32, at_80_34, cl_4_126, cat_n, cat_i, cat_r, cat_l, tl_i, tl_l, tl_n, sh_same, at_80_37, at_80_38, Go_getf, fl_4_29, gg_4_5, sf_1_5, sr_47, sn_47, at_80_41, at_80_42, at_80_43, gg_4_8, at_80_46, Go_iastore, sh_ln, q_in, q_cl, at_80_47, at_80_48, fl_4_32, gg_4_6, sf_1_6, sr_48, sn_48, at_80_51, at_80_52, at_80_53, at_80_54, at_80_55, at_80_56, at_80_59, cl_4_130, at_80_62, at_80_63, at_80_64, fl_4_25, gg_4_4, sf_1_4, sr_46, sn_46, at_80_67, at_80_68, at_80_69, at_80_70, at_80_71, kb_22, jt_80_73, at_80_76, at_80_77, at_80_80, at_80_81, at_80_82, at_80_83, at_80_86, at_80_87, Go_iaload, at_80_88, cl_4_133, at_80_91, at_80_92, Go_iinc_2, kc_1, q_add, jt_80_95, at_80_98, Go_return, Nat.reduceAdd, Nat.reduceMul, Nat.reduceLeDiff, Nat.reduceSub, decide_true, decide_false, Bool.toNat_true, Bool.toNat_false, not_true_eq_false, not_false_eq_true, ite_not, true_and, and_true, if_true, if_false, ↓reduceIte, Bool.or_true, Bool.true_or, Bool.or_false, c9]
          exact K0
        · rcases ce with ce | ce
          · rw [ce]
            simp (disch := first | omega | assumption | exact own_80 | exact rt_80 | exact sr_1 | exact q_lt1 (hb _ _) | exact bt_lt _ | fail) only [own_80, rt_80, ab_kl_n, ab_kl_i, ab_kl_r, ab_kl_l, at_80_0, Go_aload_0, at_80_1, Go_iconst, kc_0, at_80_2, Go_putf, fl_4_123, gp_4_8, sh_ref, sh_rf, sh_seti, sr_1, at_80_5, Go_bipush, kb_23, at_80_7, Go_istore_1, ab_put_int_1, at_80_8, at_80_9, Go_istore_2, ab_put_int_2, Go_iload_2, at_80_11, Go_sipush, ks_320, jt_80_14, q_le, q_lt, q_eq, n_leT, n_leF, n_ltT, n_ltF, n_eqF, n_b0, at_80_17, Go_iload_1, at_80_18, kb_24, jt_80_20, at_80_23, at_80_24, kb_25, jt_80_26, at_80_29, at_80_30, kb_32, at_80_32, at_80_34, cl_4_126, cat_n, cat_i, cat_r, cat_l, tl_i, tl_l, tl_n, sh_same, at_80_37, at_80_38, Go_getf, fl_4_29, gg_4_5, sf_1_5, sr_47, sn_47, at_80_41, at_80_42, at_80_43, gg_4_8, at_80_46, Go_iastore, sh_ln, q_in, q_cl, at_80_47, at_80_48, fl_4_32, gg_4_6, sf_1_6, sr_48, sn_48, at_80_51, at_80_52, at_80_53, at_80_54, at_80_55, at_80_56, at_80_59, cl_4_130, at_80_62, at_80_63, at_80_64, fl_4_25, gg_4_4, sf_1_4, sr_46, sn_46, at_80_67, at_80_68, at_80_69, at_80_70, at_80_71, kb_22, jt_80_73, at_80_76, at_80_77, at_80_80, at_80_81, at_80_82, at_80_83, at_80_86, at_80_87, Go_iaload, at_80_88, cl_4_133, at_80_91, at_80_92, Go_iinc_2, kc_1, q_add, jt_80_95, at_80_98, Go_return, Nat.reduceAdd, Nat.reduceMul, Nat.reduceLeDiff, Nat.reduceSub, decide_true, decide_false, Bool.toNat_true, Bool.toNat_false, not_true_eq_false, not_false_eq_true, ite_not, true_and, and_true, if_true, if_false, ↓reduceIte, Bool.or_true, Bool.true_or, Bool.or_false, c9]
            exact K0
          · rw [ce]
            simp (disch := first | omega | assumption | exact own_80 | exact rt_80 | exact sr_1 | exact q_lt1 (hb _ _) | exact bt_lt _ | fail) only [own_80, rt_80, ab_kl_n, ab_kl_i, ab_kl_r, ab_kl_l, at_80_0, Go_aload_0, at_80_1, Go_iconst, kc_0, at_80_2, Go_putf, fl_4_123, gp_4_8, sh_ref, sh_rf, sh_seti, sr_1, at_80_5, Go_bipush, kb_23, at_80_7, Go_istore_1, ab_put_int_1, at_80_8, at_80_9, Go_istore_2, ab_put_int_2, Go_iload_2, at_80_11, Go_sipush, ks_320, jt_80_14, q_le, q_lt, q_eq, n_leT, n_leF, n_ltT, n_ltF, n_eqF, n_b0, at_80_17, Go_iload_1, at_80_18, kb_24, jt_80_20, at_80_23, at_80_24, kb_25, jt_80_26, at_80_29, at_80_30, kb_32, at_80_32, at_80_34, cl_4_126, cat_n, cat_i, cat_r, cat_l, tl_i, tl_l, tl_n, sh_same, at_80_37, at_80_38, Go_getf, fl_4_29, gg_4_5, sf_1_5, sr_47, sn_47, at_80_41, at_80_42, at_80_43, gg_4_8, at_80_46, Go_iastore, sh_ln, q_in, q_cl, at_80_47, at_80_48, fl_4_32, gg_4_6, sf_1_6, sr_48, sn_48, at_80_51, at_80_52, at_80_53, at_80_54, at_80_55, at_80_56, at_80_59, cl_4_130, at_80_62, at_80_63, at_80_64, fl_4_25, gg_4_4, sf_1_4, sr_46, sn_46, at_80_67, at_80_68, at_80_69, at_80_70, at_80_71, kb_22, jt_80_73, at_80_76, at_80_77, at_80_80, at_80_81, at_80_82, at_80_83, at_80_86, at_80_87, Go_iaload, at_80_88, cl_4_133, at_80_91, at_80_92, Go_iinc_2, kc_1, q_add, jt_80_95, at_80_98, Go_return, Nat.reduceAdd, Nat.reduceMul, Nat.reduceLeDiff, Nat.reduceSub, decide_true, decide_false, Bool.toNat_true, Bool.toNat_false, not_true_eq_false, not_false_eq_true, ite_not, true_and, and_true, if_true, if_false, ↓reduceIte, Bool.or_true, Bool.true_or, Bool.or_false, c9]
            exact K0
      · have ne25 : cK tp tl wk (tk tp tl i) ≠ 25 := fun z => ce (Or.inr z)
        have ne24 : cK tp tl wk (tk tp tl i) ≠ 24 := fun z => ce (Or.inl z)
        exact ih (i + 1) (by omega) I4 _ fs4 (fun j hj' => by
          by_cases y : j = i
          · subst y; exact ce
          · exact hj j (by omega)) (by omega) (by rw [f4 _ _ (by omega) (by omega)]; exact t8 ne25) ct4
    by_cases c22 : cK tp tl wk (tk tp tl i) = 22
    · obtain ⟨t2, tb⟩ := cK_22 hwk c22
      have atl : tk tp tl i < tl := by
        by_cases y : tk tp tl i = tl
        · unfold tT at t2; rw [if_pos y] at t2; omega
        · omega
      have tg := tE_gt (tp := tp) atl
      have te := (tE_le (tp := tp) tkl).2
      have le2 : ¬ 2 < tE tp tl (tk tp tl i) - tk tp tl i := by
        unfold tB at tb
        rw [t2, if_pos rfl] at tb
        exact of_decide_eq_false tb
      have dig : hs tp tl 48 57 (tk tp tl i) = true ∧ hs tp tl 97 122 (tk tp tl i) = false := by
        unfold tT at t2
        rw [if_neg (by omega)] at t2
        cases y : hs tp tl 97 122 (tk tp tl i) with
        | true => rw [y] at t2; simp at t2
        | false =>
          cases z : hs tp tl 48 57 (tk tp tl i) with
          | true => exact ⟨rfl, rfl⟩
          | false => rw [y, z] at t2; simp at t2
      have er : tE tp tl (tk tp tl i) = re tp tl 48 57 (tk tp tl i) := by unfold tE; rw [if_neg (by omega), if_neg (by rw [dig.2]; decide), if_pos dig.1]
      have hd : ∀ j, tk tp tl i ≤ j → j < tE tp tl (tk tp tl i) → hs tp tl 48 57 j = true := by
        rw [er]
        exact (re_spec (tp := tp) (lo := 48) (hi := 57) tkl).2.2.1
      have ev : tV tp tl (tk tp tl i) = vN tp (tk tp tl i) (tE tp tl (tk tp tl i) - tk tp tl i) := if_pos t2
      have t8' := t8 (by omega)
      have ct5 : ∀ x, Ct tp tl (ab_up I3 46 i x) := fun x => Ct_eq (fun o k _ => by rw [upn (by omega), f3 o k (by omega), upn (by omega), upn (by omega)]; exact f2 o k (by omega)) ct1
      have s5 := fun x Q => x_figureFrom (J := J) (Q := Q) (ct5 x) ht hb te (by omega) hd (by rw [upn (by omega)]; exact t8')
      rw [← ev] at s5
      have c22T := eq_true c22
      simp (disch := first | omega | assumption | exact own_80 | exact rt_80 | exact sr_1 | exact q_lt1 (hb _ _) | exact bt_lt _ | fail) only [own_80, rt_80, ab_kl_n, ab_kl_i, ab_kl_r, ab_kl_l, at_80_0, Go_aload_0, at_80_1, Go_iconst, kc_0, at_80_2, Go_putf, fl_4_123, gp_4_8, sh_ref, sh_rf, sh_seti, sr_1, at_80_5, Go_bipush, kb_23, at_80_7, Go_istore_1, ab_put_int_1, at_80_8, at_80_9, Go_istore_2, ab_put_int_2, Go_iload_2, at_80_11, Go_sipush, ks_320, jt_80_14, q_le, q_lt, q_eq, n_leT, n_leF, n_ltT, n_ltF, n_eqF, n_b0, at_80_17, Go_iload_1, at_80_18, kb_24, jt_80_20, at_80_23, at_80_24, kb_25, jt_80_26, at_80_29, at_80_30, kb_32, at_80_32, at_80_34, cl_4_126, cat_n, cat_i, cat_r, cat_l, tl_i, tl_l, tl_n, sh_same, at_80_37, at_80_38, Go_getf, fl_4_29, gg_4_5, sf_1_5, sr_47, sn_47, at_80_41, at_80_42, at_80_43, gg_4_8, at_80_46, Go_iastore, sh_ln, q_in, q_cl, at_80_47, at_80_48, fl_4_32, gg_4_6, sf_1_6, sr_48, sn_48, at_80_51, at_80_52, at_80_53, at_80_54, at_80_55, at_80_56, at_80_59, cl_4_130, at_80_62, at_80_63, at_80_64, fl_4_25, gg_4_4, sf_1_4, sr_46, sn_46, at_80_67, at_80_68, at_80_69, at_80_70, at_80_71, kb_22, jt_80_73, at_80_76, at_80_77, at_80_80, at_80_81, at_80_82, at_80_83, at_80_86, at_80_87, Go_iaload, at_80_88, cl_4_133, at_80_91, at_80_92, Go_iinc_2, kc_1, q_add, jt_80_95, at_80_98, Go_return, Nat.reduceAdd, Nat.reduceMul, Nat.reduceLeDiff, Nat.reduceSub, decide_true, decide_false, Bool.toNat_true, Bool.toNat_false, not_true_eq_false, not_false_eq_true, ite_not, true_and, and_true, if_true, if_false, ↓reduceIte, Bool.or_true, Bool.true_or, Bool.or_false, g47, c22T, s5]
      exact fin _ (fun o k z1 z2 => by rw [upn z2, upn z1]) (by rw [upn (by omega)]; exact fr_sets) (fun _ => fr_sets)
    · have c22F := eq_false c22
      simp (disch := first | omega | assumption | exact own_80 | exact rt_80 | exact sr_1 | exact q_lt1 (hb _ _) | exact bt_lt _ | fail) only [own_80, rt_80, ab_kl_n, ab_kl_i, ab_kl_r, ab_kl_l, at_80_0, Go_aload_0, at_80_1, Go_iconst, kc_0, at_80_2, Go_putf, fl_4_123, gp_4_8, sh_ref, sh_rf, sh_seti, sr_1, at_80_5, Go_bipush, kb_23, at_80_7, Go_istore_1, ab_put_int_1, at_80_8, at_80_9, Go_istore_2, ab_put_int_2, Go_iload_2, at_80_11, Go_sipush, ks_320, jt_80_14, q_le, q_lt, q_eq, n_leT, n_leF, n_ltT, n_ltF, n_eqF, n_b0, at_80_17, Go_iload_1, at_80_18, kb_24, jt_80_20, at_80_23, at_80_24, kb_25, jt_80_26, at_80_29, at_80_30, kb_32, at_80_32, at_80_34, cl_4_126, cat_n, cat_i, cat_r, cat_l, tl_i, tl_l, tl_n, sh_same, at_80_37, at_80_38, Go_getf, fl_4_29, gg_4_5, sf_1_5, sr_47, sn_47, at_80_41, at_80_42, at_80_43, gg_4_8, at_80_46, Go_iastore, sh_ln, q_in, q_cl, at_80_47, at_80_48, fl_4_32, gg_4_6, sf_1_6, sr_48, sn_48, at_80_51, at_80_52, at_80_53, at_80_54, at_80_55, at_80_56, at_80_59, cl_4_130, at_80_62, at_80_63, at_80_64, fl_4_25, gg_4_4, sf_1_4, sr_46, sn_46, at_80_67, at_80_68, at_80_69, at_80_70, at_80_71, kb_22, jt_80_73, at_80_76, at_80_77, at_80_80, at_80_81, at_80_82, at_80_83, at_80_86, at_80_87, Go_iaload, at_80_88, cl_4_133, at_80_91, at_80_92, Go_iinc_2, kc_1, q_add, jt_80_95, at_80_98, Go_return, Nat.reduceAdd, Nat.reduceMul, Nat.reduceLeDiff, Nat.reduceSub, decide_true, decide_false, Bool.toNat_true, Bool.toNat_false, not_true_eq_false, not_false_eq_true, ite_not, true_and, and_true, if_true, if_false, ↓reduceIte, Bool.or_true, Bool.true_or, Bool.or_false, g47, c22F]
      exact fin _ (fun o k z1 z2 => upn z1) fr_sets (fun z => absurd z c22)
end SCO
