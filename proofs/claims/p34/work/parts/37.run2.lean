section RND
variable {I : Nat → Nat → Int32} {J : Nat → Nat → Int64} {Q : Option Value → ab_H → Prop} {A : Nat → Nat → Nat} {p o : Nat} {R : Prop} {ar : Nat → Int32} {w : WT} {s : RS}
theorem cn_succ (f : Nat → Bool) (n : Nat) : cn f (n + 1) = cn f n + (f n).toNat := rfl
theorem x_passPhis (hp : isP p) (hb : WB A) (hr : WR A) (h : PC p I A) (hg : PG p I A) (hm : isM o) (hV : MV o I J s) (hw : MW o I A w) {r f c : Nat} (hl : f + c ≤ A 0 1) (hr1 : r < 1000) (hr7 : ∀ n, f ≤ n → n < f + c → A 10 n = 7 → r < A 12 n)
    (K : ∀ (I' : Nat → Nat → Int32) (J' : Nat → Nat → Int64), (∀ o' k, ¬ (o' = o ∧ (k = 5 ∨ k = 6)) → I' o' k = I o' k) → (∀ o' k, o' ≠ o + 2 → o' ≠ o + 3 → J' o' k = J o' k) → MV o I' J' (p1 A w r f c s) → Q none (SH, I', J')) : Ex 31 [.ref o, .ref p, .int (nI r), .int (nI f), .int (nI (f + c))] (SH, I, J) Q := by
  have hr0 := hr
  have h00 := h
  have hp2 := p_lt hp
  obtain ⟨r1, r2, r3, r4⟩ := hr
  obtain ⟨e0, e1, e2, e3, e4, e5, e6, e7, e8, e9, e10, e11, e12⟩ := h
  obtain ⟨g1, g2, g3⟩ := hg
  have hm2 := isM_lt hm
  have hV0 := hV
  obtain ⟨v1, v2, v3⟩ := hV
  rw [en_31]
  simp (disch := first | omega | assumption | exact own_31 | exact rt_31 | exact mr_0 hm | exact mr_0 hm | exact q_lt1 (hb _ _) | exact bt_lt _ | fail) only [own_31, rt_31, ab_kl_n, ab_kl_i, ab_kl_r, ab_kl_l, at_31_0, Go_iload_2, jt_31_1, q_le, q_lt, q_eq, n_leT, n_leF, n_ltT, n_ltF, n_eqF, n_b0, at_31_4, Go_return, at_31_5, Go_iconst, kc_0, at_31_6, Go_istore_5, ab_put_int_5, at_31_8, Go_iload_3, at_31_9, Go_istore_6, ab_put_int_6, Go_iload_6, at_31_13, Go_iload_4, jt_31_15, at_31_18, Go_aload_1, at_31_19, Go_getf, fl_2_90, gg_3_11, sh_ref, sh_rf, at_31_22, at_31_24, Go_iaload, sh_ln, q_in, q_cl, at_31_25, Go_bipush, kb_7, jt_31_27, at_31_30, Go_aload_0, at_31_31, fl_2_19, gg_2_7, sr_49, sf_49_7, sr_52, sn_52, sr_53, sf_53_7, sr_56, sn_56, at_31_34, at_31_36, at_31_37, fl_2_15, gg_2_1, sf_49_1, sr_51, sn_51, sf_53_1, sr_55, sn_55, at_31_40, at_31_41, fl_2_100, gg_3_15, at_31_44, at_31_46, Go_aaload, at_31_47, at_31_48, at_31_49, Go_laload, at_31_50, Go_lastore, sh_setl, at_31_51, Go_iinc_6, kc_1, q_add, jt_31_54, at_31_57, at_31_58, at_31_62, jt_31_64, at_31_67, at_31_68, at_31_71, at_31_73, at_31_74, jt_31_76, jt_31_79, at_31_82, at_31_83, at_31_86, at_31_88, at_31_89, at_31_92, at_31_94, at_31_95, at_31_96, at_31_97, Go_dup_int, Go_dup_ref, at_31_98, fl_2_42, gg_2_5, at_31_101, at_31_102, Go_iadd, Nat.zero_add, at_31_103, Go_putf, gp_2_5, sh_seti, at_31_106, at_31_108, at_31_109, fl_2_22, gg_2_8, jt_31_112, at_31_115, at_31_116, at_31_118, jt_31_121, at_31_124, Go_iload_5, jt_31_126, at_31_129, at_31_130, cl_2_97, cat_n, cat_i, cat_r, cat_l, tl_i, tl_l, tl_n, sh_same, at_31_133, Nat.reduceAdd, Nat.reduceMul, Nat.reduceLeDiff, Nat.reduceSub, decide_true, decide_false, Bool.toNat_true, Bool.toNat_false, not_true_eq_false, not_false_eq_true, ite_not, true_and, and_true, if_true, if_false, ↓reduceIte, Bool.or_true, Bool.true_or, Bool.or_false, pr_0 hp, pf_11 hp, pr_16 hp, pn_16 hp, e8, pf_15 hp, pr_20 hp, pn_20 hp, e12, orow hp, orow_r hp, orow_n hp, mf_0 hm, mf_1 hm, mf_7 hm, mr_0 hm, mr_1 hm, mr_2 hm, mr_3 hm, mn_1 hm, mn_2 hm, mn_3 hm]
  refine lp_wp (a := f) (N := f + c) (Nat.le_add_right _ _) (fun i => ∀ J' : Nat → Nat → Int64, (∀ o' k, o' ≠ o + 3 → J' o' k = J o' k) → (∀ n, f ≤ n → n < i → A 10 n = 7 → J' (o + 3) n = s.1 (A 14 (6 * n + r))) → Go (ab_at 31 11) 31 11 [some (.ref o), some (.ref p), some (.int (nI (r))), some (.int (nI (f))), some (.int (nI (f + c))), some (.int (nI (0))), some (.int (nI (i)))] []  (SH, I, J') Q) (fun J' hf hn => ?_) (fun i hfi hi ih J' hf hn => ?_) J (fun _ _ _ => rfl) (fun n h1 h2 => by omega)
  · rw [at_31_11]
    simp (disch := first | omega | assumption | exact own_31 | exact rt_31 | exact mr_0 hm | exact mr_0 hm | exact q_lt1 (hb _ _) | exact bt_lt _ | fail) only [own_31, rt_31, ab_kl_n, ab_kl_i, ab_kl_r, ab_kl_l, at_31_0, Go_iload_2, jt_31_1, q_le, q_lt, q_eq, n_leT, n_leF, n_ltT, n_ltF, n_eqF, n_b0, at_31_4, Go_return, at_31_5, Go_iconst, kc_0, at_31_6, Go_istore_5, ab_put_int_5, at_31_8, Go_iload_3, at_31_9, Go_istore_6, ab_put_int_6, Go_iload_6, at_31_13, Go_iload_4, jt_31_15, at_31_18, Go_aload_1, at_31_19, Go_getf, fl_2_90, gg_3_11, sh_ref, sh_rf, at_31_22, at_31_24, Go_iaload, sh_ln, q_in, q_cl, at_31_25, Go_bipush, kb_7, jt_31_27, at_31_30, Go_aload_0, at_31_31, fl_2_19, gg_2_7, sr_49, sf_49_7, sr_52, sn_52, sr_53, sf_53_7, sr_56, sn_56, at_31_34, at_31_36, at_31_37, fl_2_15, gg_2_1, sf_49_1, sr_51, sn_51, sf_53_1, sr_55, sn_55, at_31_40, at_31_41, fl_2_100, gg_3_15, at_31_44, at_31_46, Go_aaload, at_31_47, at_31_48, at_31_49, Go_laload, at_31_50, Go_lastore, sh_setl, at_31_51, Go_iinc_6, kc_1, q_add, jt_31_54, at_31_57, at_31_58, at_31_62, jt_31_64, at_31_67, at_31_68, at_31_71, at_31_73, at_31_74, jt_31_76, jt_31_79, at_31_82, at_31_83, at_31_86, at_31_88, at_31_89, at_31_92, at_31_94, at_31_95, at_31_96, at_31_97, Go_dup_int, Go_dup_ref, at_31_98, fl_2_42, gg_2_5, at_31_101, at_31_102, Go_iadd, Nat.zero_add, at_31_103, Go_putf, gp_2_5, sh_seti, at_31_106, at_31_108, at_31_109, fl_2_22, gg_2_8, jt_31_112, at_31_115, at_31_116, at_31_118, jt_31_121, at_31_124, Go_iload_5, jt_31_126, at_31_129, at_31_130, cl_2_97, cat_n, cat_i, cat_r, cat_l, tl_i, tl_l, tl_n, sh_same, at_31_133, Nat.reduceAdd, Nat.reduceMul, Nat.reduceLeDiff, Nat.reduceSub, decide_true, decide_false, Bool.toNat_true, Bool.toNat_false, not_true_eq_false, not_false_eq_true, ite_not, true_and, and_true, if_true, if_false, ↓reduceIte, Bool.or_true, Bool.true_or, Bool.or_false, pr_0 hp, pf_11 hp, pr_16 hp, pn_16 hp, e8, pf_15 hp, pr_20 hp, pn_20 hp, e12, orow hp, orow_r hp, orow_n hp, mf_0 hm, mf_1 hm, mf_7 hm, mr_0 hm, mr_1 hm, mr_2 hm, mr_3 hm, mn_1 hm, mn_2 hm, mn_3 hm]
    have e0 : (p1m A w f f).toNat = 0 := by
      cases w with
      | none => rfl
      | some km =>
        show (decide (f ≤ km.2 ∧ km.2 < f ∧ A 10 km.2 = 7)).toNat = 0
        rw [decide_eq_false (by omega)]
        rfl
    rw [show nI 0 = nI (p1m A w f f).toNat from by rw [e0]]
    refine lp_wp (a := f) (N := f + c) (Nat.le_add_right _ _) (fun i => ∀ (I' : Nat → Nat → Int32) (J2 : Nat → Nat → Int64), (∀ o' k, ¬ (o' = o ∧ k = 5) → I' o' k = I o' k) → (∀ o' k, o' ≠ o + 2 → J2 o' k = J' o' k) → (∀ n, n < 20 → J2 (o + 2) n = p1V A r f i s.1 n) → I' o 5 = nI (s.2.1 + cn (fun j => decide (A 10 (f + j) = 7)) (i - f)) → Go (ab_at 31 60) 31 60 [some (.ref o), some (.ref p), some (.int (nI (r))), some (.int (nI (f))), some (.int (nI (f + c))), some (.int (nI ((p1m A w f i).toNat))), some (.int (nI (i)))] []  (SH, I', J2) Q) (fun I' J2 hf2 hg2 hV2 h52 => ?_) (fun i hfi hi ih I' J2 hf2 hg2 hV2 h52 => ?_) I J' ?_ ?_ ?_ ?_
    · rw [at_31_60]
      rw [Nat.add_sub_cancel_left] at h52
      have hd : I' o 6 = s.2.2 := by rw [hf2 _ _ (by omega)]; exact v3
      have hKJ : ∀ o' k, o' ≠ o + 2 → o' ≠ o + 3 → J2 o' k = J o' k := fun o' k k1 k2 => by rw [hg2 _ _ k1]; exact hf _ _ k2
      cases hmet : p1m A w f (f + c) with
      | false =>
        have e : p1 A w r f c s = (p1V A r f (f + c) s.1, s.2.1 + cn (fun j => decide (A 10 (f + j) = 7)) c, s.2.2) := by
          unfold p1
          rw [hmet]
          rfl
        rw [e] at K
        have K2 := K I' J2 (fun o' k hk => hf2 _ _ (by omega)) hKJ ⟨hV2, h52, hd⟩
        simp (disch := first | omega | assumption | exact own_31 | exact rt_31 | exact mr_0 hm | exact mr_0 hm | exact q_lt1 (hb _ _) | exact bt_lt _ | fail) only [own_31, rt_31, ab_kl_n, ab_kl_i, ab_kl_r, ab_kl_l, at_31_0, Go_iload_2, jt_31_1, q_le, q_lt, q_eq, n_leT, n_leF, n_ltT, n_ltF, n_eqF, n_b0, at_31_4, Go_return, at_31_5, Go_iconst, kc_0, at_31_6, Go_istore_5, ab_put_int_5, at_31_8, Go_iload_3, at_31_9, Go_istore_6, ab_put_int_6, Go_iload_6, at_31_13, Go_iload_4, jt_31_15, at_31_18, Go_aload_1, at_31_19, Go_getf, fl_2_90, gg_3_11, sh_ref, sh_rf, at_31_22, at_31_24, Go_iaload, sh_ln, q_in, q_cl, at_31_25, Go_bipush, kb_7, jt_31_27, at_31_30, Go_aload_0, at_31_31, fl_2_19, gg_2_7, sr_49, sf_49_7, sr_52, sn_52, sr_53, sf_53_7, sr_56, sn_56, at_31_34, at_31_36, at_31_37, fl_2_15, gg_2_1, sf_49_1, sr_51, sn_51, sf_53_1, sr_55, sn_55, at_31_40, at_31_41, fl_2_100, gg_3_15, at_31_44, at_31_46, Go_aaload, at_31_47, at_31_48, at_31_49, Go_laload, at_31_50, Go_lastore, sh_setl, at_31_51, Go_iinc_6, kc_1, q_add, jt_31_54, at_31_57, at_31_58, at_31_62, jt_31_64, at_31_67, at_31_68, at_31_71, at_31_73, at_31_74, jt_31_76, jt_31_79, at_31_82, at_31_83, at_31_86, at_31_88, at_31_89, at_31_92, at_31_94, at_31_95, at_31_96, at_31_97, Go_dup_int, Go_dup_ref, at_31_98, fl_2_42, gg_2_5, at_31_101, at_31_102, Go_iadd, Nat.zero_add, at_31_103, Go_putf, gp_2_5, sh_seti, at_31_106, at_31_108, at_31_109, fl_2_22, gg_2_8, jt_31_112, at_31_115, at_31_116, at_31_118, jt_31_121, at_31_124, Go_iload_5, jt_31_126, at_31_129, at_31_130, cl_2_97, cat_n, cat_i, cat_r, cat_l, tl_i, tl_l, tl_n, sh_same, at_31_133, Nat.reduceAdd, Nat.reduceMul, Nat.reduceLeDiff, Nat.reduceSub, decide_true, decide_false, Bool.toNat_true, Bool.toNat_false, not_true_eq_false, not_false_eq_true, ite_not, true_and, and_true, if_true, if_false, ↓reduceIte, Bool.or_true, Bool.true_or, Bool.or_false, pr_0 hp, pf_11 hp, pr_16 hp, pn_16 hp, e8, pf_15 hp, pr_20 hp, pn_20 hp, e12, orow hp, orow_r hp, orow_n hp, mf_0 hm, mf_1 hm, mf_7 hm, mr_0 hm, mr_1 hm, mr_2 hm, mr_3 hm, mn_1 hm, mn_2 hm, mn_3 hm]
        exact K2
      | true =>
        cases w with
        | none => cases hmet
        | some km =>
          obtain ⟨k, m⟩ := km
          have e : p1 A (some (k, m)) r f c s = (p1V A r f (f + c) s.1, s.2.1 + cn (fun j => decide (A 10 (f + j) = 7)) c, cmq (p1V A r f (f + c) s.1) k m s.2.2) := by
            unfold p1
            rw [hmet]
            rfl
          rw [e] at K
          obtain ⟨w1, w2, w3, w4⟩ := hw
          have mv2 : MV o I' J2 (p1V A r f (f + c) s.1, s.2.1 + cn (fun j => decide (A 10 (f + j) = 7)) c, s.2.2) := ⟨hV2, h52, hd⟩
          have mw2 : MW o I' A (some (k, m)) := ⟨by rw [hf2 _ _ (by omega)]; exact w1, by rw [hf2 _ _ (by omega)]; exact w2, w3, w4⟩
          have sc := fun Q => x_compare (Q := Q) hm r2 mv2 mw2
          by_cases d : ¬ p1V A r f (f + c) s.1 k = NOT ∧ ¬ p1V A r f (f + c) s.1 k = p1V A r f (f + c) s.1 m
          · have e2 : cmq (p1V A r f (f + c) s.1) k m s.2.2 = s.2.2 + nI 1 := if_pos d
            have sc2 : ∀ Q, Ex 33 [.ref o] (SH, I', J2) Q = Q none (SH, ab_up I' o 6 (s.2.2 + nI 1), J2) := fun Q => by rw [sc, if_pos d]
            rw [e2] at K
            have K2 := K (ab_up I' o 6 (s.2.2 + nI 1)) J2 (fun o' k hk => by unfold ab_up; rw [if_neg (by omega)]; exact hf2 _ _ (by omega)) hKJ ⟨hV2, by rw [fr_setk (by omega)]; exact h52, fr_sets⟩
            simp (disch := first | omega | assumption | exact own_31 | exact rt_31 | exact mr_0 hm | exact mr_0 hm | exact q_lt1 (hb _ _) | exact bt_lt _ | fail) only [own_31, rt_31, ab_kl_n, ab_kl_i, ab_kl_r, ab_kl_l, at_31_0, Go_iload_2, jt_31_1, q_le, q_lt, q_eq, n_leT, n_leF, n_ltT, n_ltF, n_eqF, n_b0, at_31_4, Go_return, at_31_5, Go_iconst, kc_0, at_31_6, Go_istore_5, ab_put_int_5, at_31_8, Go_iload_3, at_31_9, Go_istore_6, ab_put_int_6, Go_iload_6, at_31_13, Go_iload_4, jt_31_15, at_31_18, Go_aload_1, at_31_19, Go_getf, fl_2_90, gg_3_11, sh_ref, sh_rf, at_31_22, at_31_24, Go_iaload, sh_ln, q_in, q_cl, at_31_25, Go_bipush, kb_7, jt_31_27, at_31_30, Go_aload_0, at_31_31, fl_2_19, gg_2_7, sr_49, sf_49_7, sr_52, sn_52, sr_53, sf_53_7, sr_56, sn_56, at_31_34, at_31_36, at_31_37, fl_2_15, gg_2_1, sf_49_1, sr_51, sn_51, sf_53_1, sr_55, sn_55, at_31_40, at_31_41, fl_2_100, gg_3_15, at_31_44, at_31_46, Go_aaload, at_31_47, at_31_48, at_31_49, Go_laload, at_31_50, Go_lastore, sh_setl, at_31_51, Go_iinc_6, kc_1, q_add, jt_31_54, at_31_57, at_31_58, at_31_62, jt_31_64, at_31_67, at_31_68, at_31_71, at_31_73, at_31_74, jt_31_76, jt_31_79, at_31_82, at_31_83, at_31_86, at_31_88, at_31_89, at_31_92, at_31_94, at_31_95, at_31_96, at_31_97, Go_dup_int, Go_dup_ref, at_31_98, fl_2_42, gg_2_5, at_31_101, at_31_102, Go_iadd, Nat.zero_add, at_31_103, Go_putf, gp_2_5, sh_seti, at_31_106, at_31_108, at_31_109, fl_2_22, gg_2_8, jt_31_112, at_31_115, at_31_116, at_31_118, jt_31_121, at_31_124, Go_iload_5, jt_31_126, at_31_129, at_31_130, cl_2_97, cat_n, cat_i, cat_r, cat_l, tl_i, tl_l, tl_n, sh_same, at_31_133, Nat.reduceAdd, Nat.reduceMul, Nat.reduceLeDiff, Nat.reduceSub, decide_true, decide_false, Bool.toNat_true, Bool.toNat_false, not_true_eq_false, not_false_eq_true, ite_not, true_and, and_true, if_true, if_false, ↓reduceIte, Bool.or_true, Bool.true_or, Bool.or_false, pr_0 hp, pf_11 hp, pr_16 hp, pn_16 hp, e8, pf_15 hp, pr_20 hp, pn_20 hp, e12, orow hp, orow_r hp, orow_n hp, mf_0 hm, mf_1 hm, mf_7 hm, mr_0 hm, mr_1 hm, mr_2 hm, mr_3 hm, mn_1 hm, mn_2 hm, mn_3 hm, sc2]
            exact K2
          · have e2 : cmq (p1V A r f (f + c) s.1) k m s.2.2 = s.2.2 := if_neg d
            have sc2 : ∀ Q, Ex 33 [.ref o] (SH, I', J2) Q = Q none (SH, I', J2) := fun Q => by rw [sc, if_neg d]
            rw [e2] at K
            have K2 := K I' J2 (fun o' k hk => hf2 _ _ (by omega)) hKJ ⟨hV2, h52, hd⟩
            simp (disch := first | omega | assumption | exact own_31 | exact rt_31 | exact mr_0 hm | exact mr_0 hm | exact q_lt1 (hb _ _) | exact bt_lt _ | fail) only [own_31, rt_31, ab_kl_n, ab_kl_i, ab_kl_r, ab_kl_l, at_31_0, Go_iload_2, jt_31_1, q_le, q_lt, q_eq, n_leT, n_leF, n_ltT, n_ltF, n_eqF, n_b0, at_31_4, Go_return, at_31_5, Go_iconst, kc_0, at_31_6, Go_istore_5, ab_put_int_5, at_31_8, Go_iload_3, at_31_9, Go_istore_6, ab_put_int_6, Go_iload_6, at_31_13, Go_iload_4, jt_31_15, at_31_18, Go_aload_1, at_31_19, Go_getf, fl_2_90, gg_3_11, sh_ref, sh_rf, at_31_22, at_31_24, Go_iaload, sh_ln, q_in, q_cl, at_31_25, Go_bipush, kb_7, jt_31_27, at_31_30, Go_aload_0, at_31_31, fl_2_19, gg_2_7, sr_49, sf_49_7, sr_52, sn_52, sr_53, sf_53_7, sr_56, sn_56, at_31_34, at_31_36, at_31_37, fl_2_15, gg_2_1, sf_49_1, sr_51, sn_51, sf_53_1, sr_55, sn_55, at_31_40, at_31_41, fl_2_100, gg_3_15, at_31_44, at_31_46, Go_aaload, at_31_47, at_31_48, at_31_49, Go_laload, at_31_50, Go_lastore, sh_setl, at_31_51, Go_iinc_6, kc_1, q_add, jt_31_54, at_31_57, at_31_58, at_31_62, jt_31_64, at_31_67, at_31_68, at_31_71, at_31_73, at_31_74, jt_31_76, jt_31_79, at_31_82, at_31_83, at_31_86, at_31_88, at_31_89, at_31_92, at_31_94, at_31_95, at_31_96, at_31_97, Go_dup_int, Go_dup_ref, at_31_98, fl_2_42, gg_2_5, at_31_101, at_31_102, Go_iadd, Nat.zero_add, at_31_103, Go_putf, gp_2_5, sh_seti, at_31_106, at_31_108, at_31_109, fl_2_22, gg_2_8, jt_31_112, at_31_115, at_31_116, at_31_118, jt_31_121, at_31_124, Go_iload_5, jt_31_126, at_31_129, at_31_130, cl_2_97, cat_n, cat_i, cat_r, cat_l, tl_i, tl_l, tl_n, sh_same, at_31_133, Nat.reduceAdd, Nat.reduceMul, Nat.reduceLeDiff, Nat.reduceSub, decide_true, decide_false, Bool.toNat_true, Bool.toNat_false, not_true_eq_false, not_false_eq_true, ite_not, true_and, and_true, if_true, if_false, ↓reduceIte, Bool.or_true, Bool.true_or, Bool.or_false, pr_0 hp, pf_11 hp, pr_16 hp, pn_16 hp, e8, pf_15 hp, pr_20 hp, pn_20 hp, e12, orow hp, orow_r hp, orow_n hp, mf_0 hm, mf_1 hm, mf_7 hm, mr_0 hm, mr_1 hm, mr_2 hm, mr_3 hm, mn_1 hm, mn_2 hm, mn_3 hm, sc2]
            exact K2
    · have e8' := (PC_fr (I' := I') (fun o' k h1 h2 => hf2 o' k (by have : p = 4 ∨ p = 73 ∨ p = 115 ∨ p = 157 := hp; omega)) hr0 h00).2.2.2.2.2.2.2.2.1
      rw [at_31_60]
      have e3 : i + 1 - f = (i - f) + 1 := by omega
      have e4 : f + (i - f) = i := by omega
      by_cases c7 : A 10 i = 7
      · have hj := hn i hfi hi c7
        have hj2 : J2 (o + 3) i = s.1 (A 14 (6 * i + r)) := by rw [hg2 _ _ (by omega)]; exact hj
        have ih2 := ih (ab_up I' o 5 (nI (s.2.1 + cn (fun j => decide (A 10 (f + j) = 7)) (i - f) + 1))) (ab_up J2 (o + 2) i (s.1 (A 14 (6 * i + r)))) (fun o' k hk => by unfold ab_up; rw [if_neg hk]; exact hf2 _ _ hk) (fun o' k hk => by rw [fr_setlo hk]; exact hg2 _ _ hk) (fun n hn2 => by
          by_cases z : n = i
          · subst z
            rw [fr_setls]
            unfold p1V
            rw [if_pos ⟨hfi, by omega, c7⟩]
          · rw [fr_setlk z, hV2 n hn2]
            unfold p1V
            by_cases y : f ≤ n ∧ n < i ∧ A 10 n = 7
            · rw [if_pos y, if_pos ⟨y.1, by omega, y.2.2⟩]
            · rw [if_neg y, if_neg (fun x => y ⟨x.1, by omega, x.2.2⟩)]) (by
          rw [fr_sets, e3, cn_succ, e4, decide_eq_true c7]
          rfl)
        have hw8 : ab_up I' o 5 (nI (s.2.1 + cn (fun j => decide (A 10 (f + j) = 7)) (i - f) + 1)) o 8 = I o 8 := by rw [fr_setk (by omega)]; exact hf2 _ _ (by omega)
        cases w with
        | none =>
          have hw0 : I o 8 = -4 := hw
          rw [hw0] at hw8
          simp (disch := first | omega | assumption | exact own_31 | exact rt_31 | exact mr_0 hm | exact mr_0 hm | exact q_lt1 (hb _ _) | exact bt_lt _ | fail) only [own_31, rt_31, ab_kl_n, ab_kl_i, ab_kl_r, ab_kl_l, at_31_0, Go_iload_2, jt_31_1, q_le, q_lt, q_eq, n_leT, n_leF, n_ltT, n_ltF, n_eqF, n_b0, at_31_4, Go_return, at_31_5, Go_iconst, kc_0, at_31_6, Go_istore_5, ab_put_int_5, at_31_8, Go_iload_3, at_31_9, Go_istore_6, ab_put_int_6, Go_iload_6, at_31_13, Go_iload_4, jt_31_15, at_31_18, Go_aload_1, at_31_19, Go_getf, fl_2_90, gg_3_11, sh_ref, sh_rf, at_31_22, at_31_24, Go_iaload, sh_ln, q_in, q_cl, at_31_25, Go_bipush, kb_7, jt_31_27, at_31_30, Go_aload_0, at_31_31, fl_2_19, gg_2_7, sr_49, sf_49_7, sr_52, sn_52, sr_53, sf_53_7, sr_56, sn_56, at_31_34, at_31_36, at_31_37, fl_2_15, gg_2_1, sf_49_1, sr_51, sn_51, sf_53_1, sr_55, sn_55, at_31_40, at_31_41, fl_2_100, gg_3_15, at_31_44, at_31_46, Go_aaload, at_31_47, at_31_48, at_31_49, Go_laload, at_31_50, Go_lastore, sh_setl, at_31_51, Go_iinc_6, kc_1, q_add, jt_31_54, at_31_57, at_31_58, at_31_62, jt_31_64, at_31_67, at_31_68, at_31_71, at_31_73, at_31_74, jt_31_76, jt_31_79, at_31_82, at_31_83, at_31_86, at_31_88, at_31_89, at_31_92, at_31_94, at_31_95, at_31_96, at_31_97, Go_dup_int, Go_dup_ref, at_31_98, fl_2_42, gg_2_5, at_31_101, at_31_102, Go_iadd, Nat.zero_add, at_31_103, Go_putf, gp_2_5, sh_seti, at_31_106, at_31_108, at_31_109, fl_2_22, gg_2_8, jt_31_112, at_31_115, at_31_116, at_31_118, jt_31_121, at_31_124, Go_iload_5, jt_31_126, at_31_129, at_31_130, cl_2_97, cat_n, cat_i, cat_r, cat_l, tl_i, tl_l, tl_n, sh_same, at_31_133, Nat.reduceAdd, Nat.reduceMul, Nat.reduceLeDiff, Nat.reduceSub, decide_true, decide_false, Bool.toNat_true, Bool.toNat_false, not_true_eq_false, not_false_eq_true, ite_not, true_and, and_true, if_true, if_false, ↓reduceIte, Bool.or_true, Bool.true_or, Bool.or_false, mf_0 hm, mf_1 hm, mf_7 hm, mr_0 hm, mr_1 hm, mr_2 hm, mr_3 hm, mn_1 hm, mn_2 hm, mn_3 hm, e8', pf_11 hp, pr_16 hp, pn_16 hp, pr_0 hp, c7, hj2, h52, hw8, q_m4]
          exact ih2
        | some km =>
          obtain ⟨k, m⟩ := km
          obtain ⟨w1, w2, w3, w4⟩ := hw
          rw [w1] at hw8
          have e5' : p1m A (some (k, m)) f (i + 1) = (p1m A (some (k, m)) f i || decide (i = m)) := by
            unfold p1m
            rw [Bool.eq_iff_iff, Bool.or_eq_true]
            simp only [decide_eq_true_eq]
            constructor
            · rintro ⟨x1, x2, x3⟩
              by_cases y : i = m
              · exact Or.inr y
              · exact Or.inl ⟨x1, by omega, x3⟩
            · rintro (⟨x1, x2, x3⟩ | x)
              · exact ⟨x1, by omega, x3⟩
              · subst x; exact ⟨hfi, by omega, c7⟩
          rw [e5'] at ih2
          by_cases y : i = m
          · rw [decide_eq_true y, Bool.or_true] at ih2
            rw [← y] at hw8
            simp (disch := first | omega | assumption | exact own_31 | exact rt_31 | exact mr_0 hm | exact mr_0 hm | exact q_lt1 (hb _ _) | exact bt_lt _ | fail) only [own_31, rt_31, ab_kl_n, ab_kl_i, ab_kl_r, ab_kl_l, at_31_0, Go_iload_2, jt_31_1, q_le, q_lt, q_eq, n_leT, n_leF, n_ltT, n_ltF, n_eqF, n_b0, at_31_4, Go_return, at_31_5, Go_iconst, kc_0, at_31_6, Go_istore_5, ab_put_int_5, at_31_8, Go_iload_3, at_31_9, Go_istore_6, ab_put_int_6, Go_iload_6, at_31_13, Go_iload_4, jt_31_15, at_31_18, Go_aload_1, at_31_19, Go_getf, fl_2_90, gg_3_11, sh_ref, sh_rf, at_31_22, at_31_24, Go_iaload, sh_ln, q_in, q_cl, at_31_25, Go_bipush, kb_7, jt_31_27, at_31_30, Go_aload_0, at_31_31, fl_2_19, gg_2_7, sr_49, sf_49_7, sr_52, sn_52, sr_53, sf_53_7, sr_56, sn_56, at_31_34, at_31_36, at_31_37, fl_2_15, gg_2_1, sf_49_1, sr_51, sn_51, sf_53_1, sr_55, sn_55, at_31_40, at_31_41, fl_2_100, gg_3_15, at_31_44, at_31_46, Go_aaload, at_31_47, at_31_48, at_31_49, Go_laload, at_31_50, Go_lastore, sh_setl, at_31_51, Go_iinc_6, kc_1, q_add, jt_31_54, at_31_57, at_31_58, at_31_62, jt_31_64, at_31_67, at_31_68, at_31_71, at_31_73, at_31_74, jt_31_76, jt_31_79, at_31_82, at_31_83, at_31_86, at_31_88, at_31_89, at_31_92, at_31_94, at_31_95, at_31_96, at_31_97, Go_dup_int, Go_dup_ref, at_31_98, fl_2_42, gg_2_5, at_31_101, at_31_102, Go_iadd, Nat.zero_add, at_31_103, Go_putf, gp_2_5, sh_seti, at_31_106, at_31_108, at_31_109, fl_2_22, gg_2_8, jt_31_112, at_31_115, at_31_116, at_31_118, jt_31_121, at_31_124, Go_iload_5, jt_31_126, at_31_129, at_31_130, cl_2_97, cat_n, cat_i, cat_r, cat_l, tl_i, tl_l, tl_n, sh_same, at_31_133, Nat.reduceAdd, Nat.reduceMul, Nat.reduceLeDiff, Nat.reduceSub, decide_true, decide_false, Bool.toNat_true, Bool.toNat_false, not_true_eq_false, not_false_eq_true, ite_not, true_and, and_true, if_true, if_false, ↓reduceIte, Bool.or_true, Bool.true_or, Bool.or_false, mf_0 hm, mf_1 hm, mf_7 hm, mr_0 hm, mr_1 hm, mr_2 hm, mr_3 hm, mn_1 hm, mn_2 hm, mn_3 hm, e8', pf_11 hp, pr_16 hp, pn_16 hp, pr_0 hp, c7, hj2, h52, hw8]
            exact ih2
          · rw [decide_eq_false y, Bool.or_false] at ih2
            simp (disch := first | omega | assumption | exact own_31 | exact rt_31 | exact mr_0 hm | exact mr_0 hm | exact q_lt1 (hb _ _) | exact bt_lt _ | fail) only [own_31, rt_31, ab_kl_n, ab_kl_i, ab_kl_r, ab_kl_l, at_31_0, Go_iload_2, jt_31_1, q_le, q_lt, q_eq, n_leT, n_leF, n_ltT, n_ltF, n_eqF, n_b0, at_31_4, Go_return, at_31_5, Go_iconst, kc_0, at_31_6, Go_istore_5, ab_put_int_5, at_31_8, Go_iload_3, at_31_9, Go_istore_6, ab_put_int_6, Go_iload_6, at_31_13, Go_iload_4, jt_31_15, at_31_18, Go_aload_1, at_31_19, Go_getf, fl_2_90, gg_3_11, sh_ref, sh_rf, at_31_22, at_31_24, Go_iaload, sh_ln, q_in, q_cl, at_31_25, Go_bipush, kb_7, jt_31_27, at_31_30, Go_aload_0, at_31_31, fl_2_19, gg_2_7, sr_49, sf_49_7, sr_52, sn_52, sr_53, sf_53_7, sr_56, sn_56, at_31_34, at_31_36, at_31_37, fl_2_15, gg_2_1, sf_49_1, sr_51, sn_51, sf_53_1, sr_55, sn_55, at_31_40, at_31_41, fl_2_100, gg_3_15, at_31_44, at_31_46, Go_aaload, at_31_47, at_31_48, at_31_49, Go_laload, at_31_50, Go_lastore, sh_setl, at_31_51, Go_iinc_6, kc_1, q_add, jt_31_54, at_31_57, at_31_58, at_31_62, jt_31_64, at_31_67, at_31_68, at_31_71, at_31_73, at_31_74, jt_31_76, jt_31_79, at_31_82, at_31_83, at_31_86, at_31_88, at_31_89, at_31_92, at_31_94, at_31_95, at_31_96, at_31_97, Go_dup_int, Go_dup_ref, at_31_98, fl_2_42, gg_2_5, at_31_101, at_31_102, Go_iadd, Nat.zero_add, at_31_103, Go_putf, gp_2_5, sh_seti, at_31_106, at_31_108, at_31_109, fl_2_22, gg_2_8, jt_31_112, at_31_115, at_31_116, at_31_118, jt_31_121, at_31_124, Go_iload_5, jt_31_126, at_31_129, at_31_130, cl_2_97, cat_n, cat_i, cat_r, cat_l, tl_i, tl_l, tl_n, sh_same, at_31_133, Nat.reduceAdd, Nat.reduceMul, Nat.reduceLeDiff, Nat.reduceSub, decide_true, decide_false, Bool.toNat_true, Bool.toNat_false, not_true_eq_false, not_false_eq_true, ite_not, true_and, and_true, if_true, if_false, ↓reduceIte, Bool.or_true, Bool.true_or, Bool.or_false, mf_0 hm, mf_1 hm, mf_7 hm, mr_0 hm, mr_1 hm, mr_2 hm, mr_3 hm, mn_1 hm, mn_2 hm, mn_3 hm, e8', pf_11 hp, pr_16 hp, pn_16 hp, pr_0 hp, c7, hj2, h52, hw8, y]
            exact ih2
      · have ih2 := ih I' J2 hf2 hg2 (fun n hn2 => by
          rw [hV2 n hn2]
          unfold p1V
          by_cases y : f ≤ n ∧ n < i ∧ A 10 n = 7
          · rw [if_pos y, if_pos ⟨y.1, by omega, y.2.2⟩]
          · rw [if_neg y, if_neg (fun x => y ⟨x.1, by
              rcases Nat.lt_or_ge n i with z | z
              · exact z
              · have : n = i := by omega
                subst this
                exact absurd x.2.2 c7, x.2.2⟩)]) (by
          rw [h52, e3, cn_succ, e4, decide_eq_false c7]
          rfl)
        have e5' : p1m A w f (i + 1) = p1m A w f i := by
          cases w with
          | none => rfl
          | some km =>
            unfold p1m
            rw [Bool.eq_iff_iff]
            simp only [decide_eq_true_eq]
            constructor
            · rintro ⟨x1, x2, x3⟩
              refine ⟨x1, ?_, x3⟩
              rcases Nat.lt_or_ge km.2 i with z | z
              · exact z
              · have : km.2 = i := by omega
                rw [this] at x3
                exact absurd x3 c7
            · rintro ⟨x1, x2, x3⟩
              exact ⟨x1, by omega, x3⟩
        rw [e5'] at ih2
        simp (disch := first | omega | assumption | exact own_31 | exact rt_31 | exact mr_0 hm | exact mr_0 hm | exact q_lt1 (hb _ _) | exact bt_lt _ | fail) only [own_31, rt_31, ab_kl_n, ab_kl_i, ab_kl_r, ab_kl_l, at_31_0, Go_iload_2, jt_31_1, q_le, q_lt, q_eq, n_leT, n_leF, n_ltT, n_ltF, n_eqF, n_b0, at_31_4, Go_return, at_31_5, Go_iconst, kc_0, at_31_6, Go_istore_5, ab_put_int_5, at_31_8, Go_iload_3, at_31_9, Go_istore_6, ab_put_int_6, Go_iload_6, at_31_13, Go_iload_4, jt_31_15, at_31_18, Go_aload_1, at_31_19, Go_getf, fl_2_90, gg_3_11, sh_ref, sh_rf, at_31_22, at_31_24, Go_iaload, sh_ln, q_in, q_cl, at_31_25, Go_bipush, kb_7, jt_31_27, at_31_30, Go_aload_0, at_31_31, fl_2_19, gg_2_7, sr_49, sf_49_7, sr_52, sn_52, sr_53, sf_53_7, sr_56, sn_56, at_31_34, at_31_36, at_31_37, fl_2_15, gg_2_1, sf_49_1, sr_51, sn_51, sf_53_1, sr_55, sn_55, at_31_40, at_31_41, fl_2_100, gg_3_15, at_31_44, at_31_46, Go_aaload, at_31_47, at_31_48, at_31_49, Go_laload, at_31_50, Go_lastore, sh_setl, at_31_51, Go_iinc_6, kc_1, q_add, jt_31_54, at_31_57, at_31_58, at_31_62, jt_31_64, at_31_67, at_31_68, at_31_71, at_31_73, at_31_74, jt_31_76, jt_31_79, at_31_82, at_31_83, at_31_86, at_31_88, at_31_89, at_31_92, at_31_94, at_31_95, at_31_96, at_31_97, Go_dup_int, Go_dup_ref, at_31_98, fl_2_42, gg_2_5, at_31_101, at_31_102, Go_iadd, Nat.zero_add, at_31_103, Go_putf, gp_2_5, sh_seti, at_31_106, at_31_108, at_31_109, fl_2_22, gg_2_8, jt_31_112, at_31_115, at_31_116, at_31_118, jt_31_121, at_31_124, Go_iload_5, jt_31_126, at_31_129, at_31_130, cl_2_97, cat_n, cat_i, cat_r, cat_l, tl_i, tl_l, tl_n, sh_same, at_31_133, Nat.reduceAdd, Nat.reduceMul, Nat.reduceLeDiff, Nat.reduceSub, decide_true, decide_false, Bool.toNat_true, Bool.toNat_false, not_true_eq_false, not_false_eq_true, ite_not, true_and, and_true, if_true, if_false, ↓reduceIte, Bool.or_true, Bool.true_or, Bool.or_false, mf_0 hm, mf_1 hm, mf_7 hm, mr_0 hm, mr_1 hm, mr_2 hm, mr_3 hm, mn_1 hm, mn_2 hm, mn_3 hm, e8', pf_11 hp, pr_16 hp, pn_16 hp, pr_0 hp, c7]
        exact ih2
    · intro o' k _; rfl
    · intro o' k _; rfl
    · intro n hn2
      rw [hf _ _ (by omega), v1 n hn2]
      unfold p1V
      rw [if_neg (by omega)]
    · rw [v2, Nat.sub_self]
      rfl
  · rw [at_31_11]
    by_cases c7 : A 10 i = 7
    · have hra := hr7 i hfi hi c7
      have q10 := (r4 i (by omega)).2.2.2.2.2.2.2.2.2.2 r hra
      have q6 := (r4 i (by omega)).2.2.1
      have hv : J' (o + 2) (A 14 (6 * i + r)) = s.1 (A 14 (6 * i + r)) := by rw [hf _ _ (by omega)]; exact v1 _ (by omega)
      have ih2 := ih (ab_up J' (o + 3) i (s.1 (A 14 (6 * i + r)))) (fun o' k hk => by rw [fr_setlo hk]; exact hf _ _ hk) (fun n h1 h2 h3 => by
        by_cases z : n = i
        · subst z; rw [fr_setls]
        · rw [fr_setlk z]; exact hn n h1 (by omega) h3)
      simp (disch := first | omega | assumption | exact own_31 | exact rt_31 | exact mr_0 hm | exact mr_0 hm | exact q_lt1 (hb _ _) | exact bt_lt _ | fail) only [own_31, rt_31, ab_kl_n, ab_kl_i, ab_kl_r, ab_kl_l, at_31_0, Go_iload_2, jt_31_1, q_le, q_lt, q_eq, n_leT, n_leF, n_ltT, n_ltF, n_eqF, n_b0, at_31_4, Go_return, at_31_5, Go_iconst, kc_0, at_31_6, Go_istore_5, ab_put_int_5, at_31_8, Go_iload_3, at_31_9, Go_istore_6, ab_put_int_6, Go_iload_6, at_31_13, Go_iload_4, jt_31_15, at_31_18, Go_aload_1, at_31_19, Go_getf, fl_2_90, gg_3_11, sh_ref, sh_rf, at_31_22, at_31_24, Go_iaload, sh_ln, q_in, q_cl, at_31_25, Go_bipush, kb_7, jt_31_27, at_31_30, Go_aload_0, at_31_31, fl_2_19, gg_2_7, sr_49, sf_49_7, sr_52, sn_52, sr_53, sf_53_7, sr_56, sn_56, at_31_34, at_31_36, at_31_37, fl_2_15, gg_2_1, sf_49_1, sr_51, sn_51, sf_53_1, sr_55, sn_55, at_31_40, at_31_41, fl_2_100, gg_3_15, at_31_44, at_31_46, Go_aaload, at_31_47, at_31_48, at_31_49, Go_laload, at_31_50, Go_lastore, sh_setl, at_31_51, Go_iinc_6, kc_1, q_add, jt_31_54, at_31_57, at_31_58, at_31_62, jt_31_64, at_31_67, at_31_68, at_31_71, at_31_73, at_31_74, jt_31_76, jt_31_79, at_31_82, at_31_83, at_31_86, at_31_88, at_31_89, at_31_92, at_31_94, at_31_95, at_31_96, at_31_97, Go_dup_int, Go_dup_ref, at_31_98, fl_2_42, gg_2_5, at_31_101, at_31_102, Go_iadd, Nat.zero_add, at_31_103, Go_putf, gp_2_5, sh_seti, at_31_106, at_31_108, at_31_109, fl_2_22, gg_2_8, jt_31_112, at_31_115, at_31_116, at_31_118, jt_31_121, at_31_124, Go_iload_5, jt_31_126, at_31_129, at_31_130, cl_2_97, cat_n, cat_i, cat_r, cat_l, tl_i, tl_l, tl_n, sh_same, at_31_133, Nat.reduceAdd, Nat.reduceMul, Nat.reduceLeDiff, Nat.reduceSub, decide_true, decide_false, Bool.toNat_true, Bool.toNat_false, not_true_eq_false, not_false_eq_true, ite_not, true_and, and_true, if_true, if_false, ↓reduceIte, Bool.or_true, Bool.true_or, Bool.or_false, pr_0 hp, pf_11 hp, pr_16 hp, pn_16 hp, e8, pf_15 hp, pr_20 hp, pn_20 hp, e12, orow hp, orow_r hp, orow_n hp, mf_0 hm, mf_1 hm, mf_7 hm, mr_0 hm, mr_1 hm, mr_2 hm, mr_3 hm, mn_1 hm, mn_2 hm, mn_3 hm, c7, hv]
      exact ih2
    · simp (disch := first | omega | assumption | exact own_31 | exact rt_31 | exact mr_0 hm | exact mr_0 hm | exact q_lt1 (hb _ _) | exact bt_lt _ | fail) only [own_31, rt_31, ab_kl_n, ab_kl_i, ab_kl_r, ab_kl_l, at_31_0, Go_iload_2, jt_31_1, q_le, q_lt, q_eq, n_leT, n_leF, n_ltT, n_ltF, n_eqF, n_b0, at_31_4, Go_return, at_31_5, Go_iconst, kc_0, at_31_6, Go_istore_5, ab_put_int_5, at_31_8, Go_iload_3, at_31_9, Go_istore_6, ab_put_int_6, Go_iload_6, at_31_13, Go_iload_4, jt_31_15, at_31_18, Go_aload_1, at_31_19, Go_getf, fl_2_90, gg_3_11, sh_ref, sh_rf, at_31_22, at_31_24, Go_iaload, sh_ln, q_in, q_cl, at_31_25, Go_bipush, kb_7, jt_31_27, at_31_30, Go_aload_0, at_31_31, fl_2_19, gg_2_7, sr_49, sf_49_7, sr_52, sn_52, sr_53, sf_53_7, sr_56, sn_56, at_31_34, at_31_36, at_31_37, fl_2_15, gg_2_1, sf_49_1, sr_51, sn_51, sf_53_1, sr_55, sn_55, at_31_40, at_31_41, fl_2_100, gg_3_15, at_31_44, at_31_46, Go_aaload, at_31_47, at_31_48, at_31_49, Go_laload, at_31_50, Go_lastore, sh_setl, at_31_51, Go_iinc_6, kc_1, q_add, jt_31_54, at_31_57, at_31_58, at_31_62, jt_31_64, at_31_67, at_31_68, at_31_71, at_31_73, at_31_74, jt_31_76, jt_31_79, at_31_82, at_31_83, at_31_86, at_31_88, at_31_89, at_31_92, at_31_94, at_31_95, at_31_96, at_31_97, Go_dup_int, Go_dup_ref, at_31_98, fl_2_42, gg_2_5, at_31_101, at_31_102, Go_iadd, Nat.zero_add, at_31_103, Go_putf, gp_2_5, sh_seti, at_31_106, at_31_108, at_31_109, fl_2_22, gg_2_8, jt_31_112, at_31_115, at_31_116, at_31_118, jt_31_121, at_31_124, Go_iload_5, jt_31_126, at_31_129, at_31_130, cl_2_97, cat_n, cat_i, cat_r, cat_l, tl_i, tl_l, tl_n, sh_same, at_31_133, Nat.reduceAdd, Nat.reduceMul, Nat.reduceLeDiff, Nat.reduceSub, decide_true, decide_false, Bool.toNat_true, Bool.toNat_false, not_true_eq_false, not_false_eq_true, ite_not, true_and, and_true, if_true, if_false, ↓reduceIte, Bool.or_true, Bool.true_or, Bool.or_false, pr_0 hp, pf_11 hp, pr_16 hp, pn_16 hp, e8, pf_15 hp, pr_20 hp, pn_20 hp, e12, orow hp, orow_r hp, orow_n hp, mf_0 hm, mf_1 hm, mf_7 hm, mr_0 hm, mr_1 hm, mr_2 hm, mr_3 hm, mn_1 hm, mn_2 hm, mn_3 hm, c7]
      exact ih J' hf (fun n h1 h2 h3 => by
        rcases Nat.lt_or_ge n i with z | z
        · exact hn n h1 z h3
        · have : n = i := by omega
          subst this
          exact absurd h3 c7)
end RND
