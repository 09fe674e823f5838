theorem bz0 : ((nI 0 : Int32) = 0 ∨ (nI 0 : Int32) = 1) = True := by decide
theorem bz1 : ((nI 1 : Int32) = 0 ∨ (nI 1 : Int32) = 1) = True := by decide
section RNF
variable {I : Nat → Nat → Int32} {J : Nat → Nat → Int64} {Q : Option Value → ab_H → Prop} {A : Nat → Nat → Nat} {p o : Nat} {R : Prop} {ar : Nat → Int32} {w : WT} {s : RS}
theorem nx_ed (hr : WR A) {V : Nat → Int64} {b : Nat} (hb : b < A 0 0) (h2 : A 3 b ≠ 2) : ed A b (nx A V b) := by
  have h3 := (hr.2.2.1 b hb).2.1
  unfold nx
  refine ⟨hb, ?_⟩
  by_cases c0 : A 3 b = 0
  · rw [if_pos c0]; exact Or.inl ⟨h2, rfl⟩
  · rw [if_neg c0]
    split
    · exact Or.inl ⟨h2, rfl⟩
    · exact Or.inr ⟨by omega, rfl⟩
theorem rt_lt (hr : WR A) (hwg : WG A) {c b : Nat} (he : ed A c b) : rt A c b < A 7 b := by
  have hb := ed_lt hr he
  obtain ⟨i, hi, e⟩ := (hwg.2.2.1 b c hb he.1).mp he
  obtain ⟨-, h2, h3, h4⟩ := fu_spec (fun i => decide (A 8 (6 * b + i) = c)) (A 7 b) 0
  unfold rt
  rcases Nat.lt_or_ge (fu (fun i => decide (A 8 (6 * b + i) = c)) (A 7 b) 0) (A 7 b) with z | z
  · exact z
  · have := h3 i (Nat.zero_le _) (by omega)
    rw [decide_eq_true e] at this
    cases this
theorem dec_lt {b N : Nat} (hb : b < N) (hN : N < 2147483648) : decide (nI 0 ≤ nI b ∧ nI b < nI N) = true := decide_eq_true ⟨nI_le (Nat.zero_le _) (by omega), nI_lt hb hN⟩
theorem rn_ret {u r b t : Nat} (h : A 3 b = 2) : rn A ar w (u + 1) r b s t = (pa A ar w r b s, t + 1, some ((pa A ar w r b s).1 (A 6 b))) := by
  show (if _ then _ else _) = _
  rw [if_pos h]
theorem rn_on {u r b t : Nat} (h : A 3 b ≠ 2) : rn A ar w (u + 1) r b s t = rn A ar w u (rt A b (nx A (pa A ar w r b s).1 b)) (nx A (pa A ar w r b s).1 b) (pa A ar w r b s) (t + 1) := by
  show (if _ then _ else _) = _
  rw [if_neg h]
theorem x_goL (hp : isP p) (hb : WB A) (hr : WR A) (h : PC p I A) (hg : PG p I A) (hwg : WG A) (hwh : WH A) (hm : isM o) (hw : MW o I A w) (hA : MA o I ar) {res : RS × Nat × Option Int64}
    (K : ∀ (I' : Nat → Nat → Int32) (J' : Nat → Nat → Int64), (∀ o' k, ¬ (o' = o ∧ 2 ≤ k ∧ k ≤ 6) → I' o' k = I o' k) → (∀ o' k, o' ≠ o + 2 → o' ≠ o + 3 → J' o' k = J o' k) → MV o I' J' res.1 → I' o 4 = nI res.2.1 → I' o 3 = nI res.2.2.isSome.toNat → I' o 2 = nI 1 → Q (some (.long (toldV res.2.2))) (SH, I', J')) :
    ∀ u i r b x s t (I' : Nat → Nat → Int32) (J' : Nat → Nat → Int64), i + u = 200 → rn A ar w u r b s t = res → (∀ o' k, ¬ (o' = o ∧ 2 ≤ k ∧ k ≤ 6) → I' o' k = I o' k) → (∀ o' k, o' ≠ o + 2 → o' ≠ o + 3 → J' o' k = J o' k) → MV o I' J' s → I' o 4 = nI t → I' o 3 = nI 0 → I' o 2 = nI 1 → b < A 0 0 → ((x = -4 ∧ A 7 b = 0) ∨ ∃ c, x = nI c ∧ ed A c b ∧ r = rt A c b) →
      Go (ab_at 28 51) 28 51 [some (.ref o), some (.ref p), some (.int (x)), some (.int (nI (b))), some (.int (nI (i)))] []  (SH, I', J') Q := by
  have hpp : p = 4 ∨ p = 73 ∨ p = 115 ∨ p = 157 := hp
  have hp2 := p_lt hp
  have hm2 := isM_lt hm
  have hN := hr.2.1
  have hB := hr.1
  intro u
  induction u with
  | zero =>
    intro i r b x s t I' J' hi he hf hg2 hV h4 h3 h2 hb' hx
    have e : i = 200 := by omega
    subst e
    have e2 : res = (s, t, none) := he.symm
    subst e2
    rw [at_28_51]
    simp (disch := first | omega | assumption | exact own_28 | exact rt_28 | exact mr_0 hm | exact pr_0 (by assumption) | exact q_lt1 (hb _ _) | exact bt_lt _ | fail) only [own_28, rt_28, ab_kl_n, ab_kl_i, ab_kl_r, ab_kl_l, at_28_0, Go_iconst, kc_0, at_28_1, Go_istore_2, ab_put_int_2, Go_iload_2, at_28_3, Go_bipush, kb_20, jt_28_5, q_le, q_lt, q_eq, n_leT, n_leF, n_ltT, n_ltF, n_eqF, n_b0, at_28_8, Go_aload_0, at_28_9, Go_getf, fl_2_15, gg_2_1, sh_ref, sh_rf, sr_49, sf_49_1, sr_51, sn_51, sr_53, sf_53_1, sr_55, sn_55, at_28_12, at_28_13, ldc2_2_37, at_28_16, Go_lastore, sh_ln, q_in, q_cl, sh_setl, at_28_17, Go_iinc_2, kc_1, q_add, jt_28_20, at_28_23, at_28_24, at_28_25, Go_putf, fl_2_29, gp_2_2, sh_seti, at_28_28, at_28_29, at_28_30, fl_2_39, gp_2_3, at_28_33, at_28_34, at_28_35, fl_2_42, gp_2_5, at_28_38, at_28_39, at_28_40, fl_2_45, gp_2_4, at_28_43, kb_m4, at_28_45, at_28_46, at_28_47, Go_istore_3, ab_put_int_3, at_28_48, at_28_49, Go_istore_4, ab_put_int_4, Go_iload_4, at_28_53, Go_sipush, ks_200, jt_28_56, at_28_59, Go_aload_1, at_28_60, Go_iload_3, at_28_61, cl_2_48, cat_n, cat_i, cat_r, cat_l, tl_i, tl_l, tl_n, sh_same, jt_28_64, at_28_67, at_28_68, at_28_69, at_28_70, at_28_71, cl_2_54, at_28_74, at_28_75, Go_dup_int, Go_dup_ref, at_28_76, gg_2_4, at_28_79, at_28_80, Go_iadd, Nat.zero_add, at_28_81, at_28_84, at_28_85, fl_2_58, gg_3_4, at_28_88, at_28_89, Go_iaload, at_28_90, kc_2, jt_28_91, at_28_94, at_28_95, at_28_96, at_28_99, at_28_100, at_28_103, at_28_104, fl_2_61, gg_3_7, at_28_107, at_28_108, at_28_109, Go_laload, at_28_110, Go_lreturn, at_28_111, at_28_112, at_28_113, at_28_114, at_28_115, at_28_116, cl_2_64, at_28_119, at_28_120, Go_iinc_4, jt_28_123, at_28_126, at_28_129, Nat.reduceAdd, Nat.reduceMul, Nat.reduceLeDiff, Nat.reduceSub, decide_true, decide_false, Bool.toNat_true, Bool.toNat_false, not_true_eq_false, not_false_eq_true, ite_not, true_and, and_true, if_true, if_false, ↓reduceIte, Bool.or_true, Bool.true_or, Bool.or_false]
    exact K I' J' hf hg2 hV h4 h3 h2
  | succ u ih =>
    intro i r b x s t I' J' hi he hf hg2 hV h4 h3 h2 hb' hx
    have h' := PC_fr (I' := I') (fun o' k h1 h2 => hf o' k (by omega)) hr h
    have hg' := PG_fr (I' := I') (fun o' k h1 h2 => hf o' k (by omega)) hr hg
    have hA' : MA o I' ar := fun j hj => by rw [hf _ _ (by omega)]; exact hA j hj
    have hw' : MW o I' A w := by
      cases w with
      | none => exact (hf _ _ (by omega)).trans hw
      | some km => exact ⟨(hf _ _ (by omega)).trans hw.1, (hf _ _ (by omega)).trans hw.2.1, hw.2.2⟩
    have shb := fun Q => x_hasBlock (J := J') (Q := Q) hp hb hr h' hg' (nI b)
    rw [dec_lt hb' (by omega)] at shb
    have hbb := hr.2.2.1 b hb'
    rw [at_28_51]
    simp (disch := first | omega | assumption | exact own_28 | exact rt_28 | exact pr_0 hp | exact mr_0 hm | exact pr_0 (by assumption) | exact q_lt1 (hb _ _) | exact bt_lt _ | fail) only [own_28, rt_28, ab_kl_n, ab_kl_i, ab_kl_r, ab_kl_l, at_28_0, Go_iconst, kc_0, at_28_1, Go_istore_2, ab_put_int_2, Go_iload_2, at_28_3, Go_bipush, kb_20, jt_28_5, q_le, q_lt, q_eq, n_leT, n_leF, n_ltT, n_ltF, n_eqF, n_b0, at_28_8, Go_aload_0, at_28_9, Go_getf, fl_2_15, gg_2_1, sh_ref, sh_rf, sr_49, sf_49_1, sr_51, sn_51, sr_53, sf_53_1, sr_55, sn_55, at_28_12, at_28_13, ldc2_2_37, at_28_16, Go_lastore, sh_ln, q_in, q_cl, sh_setl, at_28_17, Go_iinc_2, kc_1, q_add, jt_28_20, at_28_23, at_28_24, at_28_25, Go_putf, fl_2_29, gp_2_2, sh_seti, at_28_28, at_28_29, at_28_30, fl_2_39, gp_2_3, at_28_33, at_28_34, at_28_35, fl_2_42, gp_2_5, at_28_38, at_28_39, at_28_40, fl_2_45, gp_2_4, at_28_43, kb_m4, at_28_45, at_28_46, at_28_47, Go_istore_3, ab_put_int_3, at_28_48, at_28_49, Go_istore_4, ab_put_int_4, Go_iload_4, at_28_53, Go_sipush, ks_200, jt_28_56, at_28_59, Go_aload_1, at_28_60, Go_iload_3, at_28_61, cl_2_48, cat_n, cat_i, cat_r, cat_l, tl_i, tl_l, tl_n, sh_same, jt_28_64, at_28_67, at_28_68, at_28_69, at_28_70, at_28_71, cl_2_54, at_28_74, at_28_75, Go_dup_int, Go_dup_ref, at_28_76, gg_2_4, at_28_79, at_28_80, Go_iadd, Nat.zero_add, at_28_81, at_28_84, at_28_85, fl_2_58, gg_3_4, at_28_88, at_28_89, Go_iaload, at_28_90, kc_2, jt_28_91, at_28_94, at_28_95, at_28_96, at_28_99, at_28_100, at_28_103, at_28_104, fl_2_61, gg_3_7, at_28_107, at_28_108, at_28_109, Go_laload, at_28_110, Go_lreturn, at_28_111, at_28_112, at_28_113, at_28_114, at_28_115, at_28_116, cl_2_64, at_28_119, at_28_120, Go_iinc_4, jt_28_123, at_28_126, at_28_129, Nat.reduceAdd, Nat.reduceMul, Nat.reduceLeDiff, Nat.reduceSub, decide_true, decide_false, Bool.toNat_true, Bool.toNat_false, not_true_eq_false, not_false_eq_true, ite_not, true_and, and_true, if_true, if_false, ↓reduceIte, Bool.or_true, Bool.true_or, Bool.or_false, shb]
    have hro : ∃ ρ : Int32, (∀ Q, Ex 54 [.ref p, .int x, .int (nI b)] (SH, I', J') Q = Q (some (.int ρ)) (SH, I', J')) ∧ ((ρ = nI r ∧ r < A 7 b) ∨ (ρ = -4 ∧ A 7 b = 0)) := by
      rcases hx with ⟨rfl, hx⟩ | ⟨c, rfl, hx, rfl⟩
      · exact ⟨-4, fun Q => x_routeFrom0 hp hb hr h' hg' hb' hx, Or.inr ⟨rfl, hx⟩⟩
      · have hl := rt_lt hr hwg hx
        refine ⟨nI (rt A c b), fun Q => ?_, Or.inl ⟨rfl, hl⟩⟩
        have := x_routeFrom (J := J') (Q := Q) hp hb hr h' hg' hb' hx.1
        unfold rt at hl
        rw [if_pos hl] at this
        exact this
    obtain ⟨ρ, hro1, hro2⟩ := hro
    clear hx
    refine x_pass hp hb hr h' hg' hwg hwh hm hV hw' hA' hb' hro1 hro2 (fun I2 J2 hf2 hg22 hV2 => ?_)
    have h'' := PC_fr (I' := I2) (fun o' k h1 h2 => by rw [hf2 _ _ (by omega)]; exact hf o' k (by omega)) hr h
    have hg'' := PG_fr (I' := I2) (fun o' k h1 h2 => by rw [hf2 _ _ (by omega)]; exact hf o' k (by omega)) hr hg
    have h42 : I2 o 4 = nI t := by rw [hf2 _ _ (by omega)]; exact h4
    have e4' := h''.2.2.2.2.1
    have b4 : ab_up I2 o 4 (nI (t + 1)) (p + 3) b = nI (A 3 b) := by rw [fr_seti (by omega)]; exact e4' b hb'
    by_cases c2 : A 3 b = 2
    · rw [rn_ret c2] at he
      subst he
      have f6 := h''.2.2.2.2.2.2.2.1 b hb' (by omega)
      have b7 := hbb.2.2.2.2.1 (by omega)
      have f6' : ab_up (ab_up I2 o 4 (nI (t + 1))) o 3 (nI 1) (p + 6) b = nI (A 6 b) := by rw [fr_seti (by omega), fr_seti (by omega)]; exact f6
      have v6 := hV2.1 (A 6 b) (by omega)
      have K2 := K (ab_up (ab_up I2 o 4 (nI (t + 1))) o 3 (nI 1)) J2 (fun o' k hk => by
        unfold ab_up
        rw [if_neg (by omega), if_neg (by omega), hf2 _ _ (by omega)]
        exact hf _ _ hk) (fun o' k k1 k2 => by rw [hg22 _ _ k1 k2]; exact hg2 _ _ k1 k2) ⟨hV2.1, by rw [fr_setk (by omega), fr_setk (by omega)]; exact hV2.2.1, by rw [fr_setk (by omega), fr_setk (by omega)]; exact hV2.2.2⟩ (by rw [fr_setk (by omega), fr_sets]) fr_sets (by rw [fr_setk (by omega), fr_setk (by omega), hf2 _ _ (by omega)]; exact h2)
      simp (disch := first | omega | assumption | exact own_28 | exact rt_28 | exact mr_0 hm | exact mr_0 hm | exact pr_0 (by assumption) | exact q_lt1 (hb _ _) | exact bt_lt _ | fail) only [own_28, rt_28, ab_kl_n, ab_kl_i, ab_kl_r, ab_kl_l, at_28_0, Go_iconst, kc_0, at_28_1, Go_istore_2, ab_put_int_2, Go_iload_2, at_28_3, Go_bipush, kb_20, jt_28_5, q_le, q_lt, q_eq, n_leT, n_leF, n_ltT, n_ltF, n_eqF, n_b0, at_28_8, Go_aload_0, at_28_9, Go_getf, fl_2_15, gg_2_1, sh_ref, sh_rf, sr_49, sf_49_1, sr_51, sn_51, sr_53, sf_53_1, sr_55, sn_55, at_28_12, at_28_13, ldc2_2_37, at_28_16, Go_lastore, sh_ln, q_in, q_cl, sh_setl, at_28_17, Go_iinc_2, kc_1, q_add, jt_28_20, at_28_23, at_28_24, at_28_25, Go_putf, fl_2_29, gp_2_2, sh_seti, at_28_28, at_28_29, at_28_30, fl_2_39, gp_2_3, at_28_33, at_28_34, at_28_35, fl_2_42, gp_2_5, at_28_38, at_28_39, at_28_40, fl_2_45, gp_2_4, at_28_43, kb_m4, at_28_45, at_28_46, at_28_47, Go_istore_3, ab_put_int_3, at_28_48, at_28_49, Go_istore_4, ab_put_int_4, Go_iload_4, at_28_53, Go_sipush, ks_200, jt_28_56, at_28_59, Go_aload_1, at_28_60, Go_iload_3, at_28_61, cl_2_48, cat_n, cat_i, cat_r, cat_l, tl_i, tl_l, tl_n, sh_same, jt_28_64, at_28_67, at_28_68, at_28_69, at_28_70, at_28_71, cl_2_54, at_28_74, at_28_75, Go_dup_int, Go_dup_ref, at_28_76, gg_2_4, at_28_79, at_28_80, Go_iadd, Nat.zero_add, at_28_81, at_28_84, at_28_85, fl_2_58, gg_3_4, at_28_88, at_28_89, Go_iaload, at_28_90, kc_2, jt_28_91, at_28_94, at_28_95, at_28_96, at_28_99, at_28_100, at_28_103, at_28_104, fl_2_61, gg_3_7, at_28_107, at_28_108, at_28_109, Go_laload, at_28_110, Go_lreturn, at_28_111, at_28_112, at_28_113, at_28_114, at_28_115, at_28_116, cl_2_64, at_28_119, at_28_120, Go_iinc_4, jt_28_123, at_28_126, at_28_129, Nat.reduceAdd, Nat.reduceMul, Nat.reduceLeDiff, Nat.reduceSub, decide_true, decide_false, Bool.toNat_true, Bool.toNat_false, not_true_eq_false, not_false_eq_true, ite_not, true_and, and_true, if_true, if_false, ↓reduceIte, Bool.or_true, Bool.true_or, Bool.or_false, mf_0 hm, mf_1 hm, mf_7 hm, mr_0 hm, mr_1 hm, mr_2 hm, mr_3 hm, mn_1 hm, mn_2 hm, mn_3 hm, bz1, h42, b4, c2, f6', v6, pf_4 hp, pr_3 hp, pn_3 hp, pf_7 hp, pr_6 hp, pn_6 hp, pr_0 hp]
      exact K2
    · rw [rn_on c2] at he
      have hed := nx_ed hr (V := (pa A ar w r b s).1) hb' c2
      have hnl := ed_lt hr hed
      have mv3 : MV o (ab_up I2 o 4 (nI (t + 1))) J2 (pa A ar w r b s) := ⟨hV2.1, by rw [fr_setk (by omega)]; exact hV2.2.1, by rw [fr_setk (by omega)]; exact hV2.2.2⟩
      have h3p := PC_fr (I' := ab_up I2 o 4 (nI (t + 1))) (fun o' k h1 h2 => by rw [fr_seti (by omega)]) hr h''
      have h3g := PG_fr (I' := ab_up I2 o 4 (nI (t + 1))) (fun o' k h1 h2 => by rw [fr_seti (by omega)]) hr hg''
      have snb := fun Q => x_nextBlock (Q := Q) hp hb hr h3p h3g hm mv3 hb' c2
      have ih2 := ih (i + 1) (rt A b (nx A (pa A ar w r b s).1 b)) (nx A (pa A ar w r b s).1 b) (nI b) (pa A ar w r b s) (t + 1) (ab_up I2 o 4 (nI (t + 1))) J2 (by omega) he (fun o' k hk => by
        unfold ab_up
        rw [if_neg (by omega), hf2 _ _ (by omega)]
        exact hf _ _ hk) (fun o' k k1 k2 => by rw [hg22 _ _ k1 k2]; exact hg2 _ _ k1 k2) mv3 fr_sets (by rw [fr_setk (by omega), hf2 _ _ (by omega)]; exact h3) (by rw [fr_setk (by omega), hf2 _ _ (by omega)]; exact h2) hnl (Or.inr ⟨b, rfl, hed, rfl⟩)
      simp (disch := first | omega | assumption | exact own_28 | exact rt_28 | exact mr_0 hm | exact mr_0 hm | exact pr_0 (by assumption) | exact q_lt1 (hb _ _) | exact bt_lt _ | fail) only [own_28, rt_28, ab_kl_n, ab_kl_i, ab_kl_r, ab_kl_l, at_28_0, Go_iconst, kc_0, at_28_1, Go_istore_2, ab_put_int_2, Go_iload_2, at_28_3, Go_bipush, kb_20, jt_28_5, q_le, q_lt, q_eq, n_leT, n_leF, n_ltT, n_ltF, n_eqF, n_b0, at_28_8, Go_aload_0, at_28_9, Go_getf, fl_2_15, gg_2_1, sh_ref, sh_rf, sr_49, sf_49_1, sr_51, sn_51, sr_53, sf_53_1, sr_55, sn_55, at_28_12, at_28_13, ldc2_2_37, at_28_16, Go_lastore, sh_ln, q_in, q_cl, sh_setl, at_28_17, Go_iinc_2, kc_1, q_add, jt_28_20, at_28_23, at_28_24, at_28_25, Go_putf, fl_2_29, gp_2_2, sh_seti, at_28_28, at_28_29, at_28_30, fl_2_39, gp_2_3, at_28_33, at_28_34, at_28_35, fl_2_42, gp_2_5, at_28_38, at_28_39, at_28_40, fl_2_45, gp_2_4, at_28_43, kb_m4, at_28_45, at_28_46, at_28_47, Go_istore_3, ab_put_int_3, at_28_48, at_28_49, Go_istore_4, ab_put_int_4, Go_iload_4, at_28_53, Go_sipush, ks_200, jt_28_56, at_28_59, Go_aload_1, at_28_60, Go_iload_3, at_28_61, cl_2_48, cat_n, cat_i, cat_r, cat_l, tl_i, tl_l, tl_n, sh_same, jt_28_64, at_28_67, at_28_68, at_28_69, at_28_70, at_28_71, cl_2_54, at_28_74, at_28_75, Go_dup_int, Go_dup_ref, at_28_76, gg_2_4, at_28_79, at_28_80, Go_iadd, Nat.zero_add, at_28_81, at_28_84, at_28_85, fl_2_58, gg_3_4, at_28_88, at_28_89, Go_iaload, at_28_90, kc_2, jt_28_91, at_28_94, at_28_95, at_28_96, at_28_99, at_28_100, at_28_103, at_28_104, fl_2_61, gg_3_7, at_28_107, at_28_108, at_28_109, Go_laload, at_28_110, Go_lreturn, at_28_111, at_28_112, at_28_113, at_28_114, at_28_115, at_28_116, cl_2_64, at_28_119, at_28_120, Go_iinc_4, jt_28_123, at_28_126, at_28_129, Nat.reduceAdd, Nat.reduceMul, Nat.reduceLeDiff, Nat.reduceSub, decide_true, decide_false, Bool.toNat_true, Bool.toNat_false, not_true_eq_false, not_false_eq_true, ite_not, true_and, and_true, if_true, if_false, ↓reduceIte, Bool.or_true, Bool.true_or, Bool.or_false, mf_0 hm, mf_1 hm, mf_7 hm, mr_0 hm, mr_1 hm, mr_2 hm, mr_3 hm, mn_1 hm, mn_2 hm, mn_3 hm, bz1, h42, b4, c2, snb, pf_4 hp, pr_3 hp, pn_3 hp, pr_0 hp]
      exact ih2
theorem x_go (hp : isP p) (hb : WB A) (hr : WR A) (h : PC p I A) (hg : PG p I A) (hwg : WG A) (hwh : WH A) (hm : isM o) (hw : MW o I A w) (hA : MA o I ar)
    (K : ∀ (I' : Nat → Nat → Int32) (J' : Nat → Nat → Int64), (∀ o' k, ¬ (o' = o ∧ 2 ≤ k ∧ k ≤ 6) → I' o' k = I o' k) → (∀ o' k, o' ≠ o + 2 → o' ≠ o + 3 → J' o' k = J o' k) → MV o I' J' (run0 A ar w (I o 6)).1 → I' o 4 = nI (run0 A ar w (I o 6)).2.1 → I' o 3 = nI (run0 A ar w (I o 6)).2.2.isSome.toNat → I' o 2 = nI 1 → Q (some (.long (toldV (run0 A ar w (I o 6)).2.2))) (SH, I', J')) : Ex 28 [.ref o, .ref p] (SH, I, J) Q := by
  have hpp : p = 4 ∨ p = 73 ∨ p = 115 ∨ p = 157 := hp
  have hp2 := p_lt hp
  have hm2 := isM_lt hm
  rw [en_28]
  simp (disch := first | omega | assumption | exact own_28 | exact rt_28 | exact mr_0 hm | exact mr_0 hm | exact pr_0 (by assumption) | exact q_lt1 (hb _ _) | exact bt_lt _ | fail) only [own_28, rt_28, ab_kl_n, ab_kl_i, ab_kl_r, ab_kl_l, at_28_0, Go_iconst, kc_0, at_28_1, Go_istore_2, ab_put_int_2, Go_iload_2, at_28_3, Go_bipush, kb_20, jt_28_5, q_le, q_lt, q_eq, n_leT, n_leF, n_ltT, n_ltF, n_eqF, n_b0, at_28_8, Go_aload_0, at_28_9, Go_getf, fl_2_15, gg_2_1, sh_ref, sh_rf, sr_49, sf_49_1, sr_51, sn_51, sr_53, sf_53_1, sr_55, sn_55, at_28_12, at_28_13, ldc2_2_37, at_28_16, Go_lastore, sh_ln, q_in, q_cl, sh_setl, at_28_17, Go_iinc_2, kc_1, q_add, jt_28_20, at_28_23, at_28_24, at_28_25, Go_putf, fl_2_29, gp_2_2, sh_seti, at_28_28, at_28_29, at_28_30, fl_2_39, gp_2_3, at_28_33, at_28_34, at_28_35, fl_2_42, gp_2_5, at_28_38, at_28_39, at_28_40, fl_2_45, gp_2_4, at_28_43, kb_m4, at_28_45, at_28_46, at_28_47, Go_istore_3, ab_put_int_3, at_28_48, at_28_49, Go_istore_4, ab_put_int_4, Go_iload_4, at_28_53, Go_sipush, ks_200, jt_28_56, at_28_59, Go_aload_1, at_28_60, Go_iload_3, at_28_61, cl_2_48, cat_n, cat_i, cat_r, cat_l, tl_i, tl_l, tl_n, sh_same, jt_28_64, at_28_67, at_28_68, at_28_69, at_28_70, at_28_71, cl_2_54, at_28_74, at_28_75, Go_dup_int, Go_dup_ref, at_28_76, gg_2_4, at_28_79, at_28_80, Go_iadd, Nat.zero_add, at_28_81, at_28_84, at_28_85, fl_2_58, gg_3_4, at_28_88, at_28_89, Go_iaload, at_28_90, kc_2, jt_28_91, at_28_94, at_28_95, at_28_96, at_28_99, at_28_100, at_28_103, at_28_104, fl_2_61, gg_3_7, at_28_107, at_28_108, at_28_109, Go_laload, at_28_110, Go_lreturn, at_28_111, at_28_112, at_28_113, at_28_114, at_28_115, at_28_116, cl_2_64, at_28_119, at_28_120, Go_iinc_4, jt_28_123, at_28_126, at_28_129, Nat.reduceAdd, Nat.reduceMul, Nat.reduceLeDiff, Nat.reduceSub, decide_true, decide_false, Bool.toNat_true, Bool.toNat_false, not_true_eq_false, not_false_eq_true, ite_not, true_and, and_true, if_true, if_false, ↓reduceIte, Bool.or_true, Bool.true_or, Bool.or_false, mf_0 hm, mf_1 hm, mf_7 hm, mr_0 hm, mr_1 hm, mr_2 hm, mr_3 hm, mn_1 hm, mn_2 hm, mn_3 hm]
  refine lp_wp (a := 0) (N := 20) (Nat.zero_le _) (fun i => ∀ J' : Nat → Nat → Int64, (∀ o' k, o' ≠ o + 2 → J' o' k = J o' k) → (∀ n, n < i → J' (o + 2) n = NOT) → Go (ab_at 28 2) 28 2 [some (.ref o), some (.ref p), some (.int (nI (i))), none, none] []  (SH, I, J') Q) (fun J' hf hn => ?_) (fun i _ hi ih J' hf hn => ?_) J (fun _ _ _ => rfl) (fun n hn => absurd hn (Nat.not_lt_zero n))
  · rw [at_28_2]
    simp (disch := first | omega | assumption | exact own_28 | exact rt_28 | exact mr_0 hm | exact mr_0 hm | exact pr_0 (by assumption) | exact q_lt1 (hb _ _) | exact bt_lt _ | fail) only [own_28, rt_28, ab_kl_n, ab_kl_i, ab_kl_r, ab_kl_l, at_28_0, Go_iconst, kc_0, at_28_1, Go_istore_2, ab_put_int_2, Go_iload_2, at_28_3, Go_bipush, kb_20, jt_28_5, q_le, q_lt, q_eq, n_leT, n_leF, n_ltT, n_ltF, n_eqF, n_b0, at_28_8, Go_aload_0, at_28_9, Go_getf, fl_2_15, gg_2_1, sh_ref, sh_rf, sr_49, sf_49_1, sr_51, sn_51, sr_53, sf_53_1, sr_55, sn_55, at_28_12, at_28_13, ldc2_2_37, at_28_16, Go_lastore, sh_ln, q_in, q_cl, sh_setl, at_28_17, Go_iinc_2, kc_1, q_add, jt_28_20, at_28_23, at_28_24, at_28_25, Go_putf, fl_2_29, gp_2_2, sh_seti, at_28_28, at_28_29, at_28_30, fl_2_39, gp_2_3, at_28_33, at_28_34, at_28_35, fl_2_42, gp_2_5, at_28_38, at_28_39, at_28_40, fl_2_45, gp_2_4, at_28_43, kb_m4, at_28_45, at_28_46, at_28_47, Go_istore_3, ab_put_int_3, at_28_48, at_28_49, Go_istore_4, ab_put_int_4, Go_iload_4, at_28_53, Go_sipush, ks_200, jt_28_56, at_28_59, Go_aload_1, at_28_60, Go_iload_3, at_28_61, cl_2_48, cat_n, cat_i, cat_r, cat_l, tl_i, tl_l, tl_n, sh_same, jt_28_64, at_28_67, at_28_68, at_28_69, at_28_70, at_28_71, cl_2_54, at_28_74, at_28_75, Go_dup_int, Go_dup_ref, at_28_76, gg_2_4, at_28_79, at_28_80, Go_iadd, Nat.zero_add, at_28_81, at_28_84, at_28_85, fl_2_58, gg_3_4, at_28_88, at_28_89, Go_iaload, at_28_90, kc_2, jt_28_91, at_28_94, at_28_95, at_28_96, at_28_99, at_28_100, at_28_103, at_28_104, fl_2_61, gg_3_7, at_28_107, at_28_108, at_28_109, Go_laload, at_28_110, Go_lreturn, at_28_111, at_28_112, at_28_113, at_28_114, at_28_115, at_28_116, cl_2_64, at_28_119, at_28_120, Go_iinc_4, jt_28_123, at_28_126, at_28_129, Nat.reduceAdd, Nat.reduceMul, Nat.reduceLeDiff, Nat.reduceSub, decide_true, decide_false, Bool.toNat_true, Bool.toNat_false, not_true_eq_false, not_false_eq_true, ite_not, true_and, and_true, if_true, if_false, ↓reduceIte, Bool.or_true, Bool.true_or, Bool.or_false, mf_0 hm, mf_1 hm, mf_7 hm, mr_0 hm, mr_1 hm, mr_2 hm, mr_3 hm, mn_1 hm, mn_2 hm, mn_3 hm, bz0, bz1]
    have hf4 : ∀ o' k, ¬ (o' = o ∧ 2 ≤ k ∧ k ≤ 6) → ab_up (ab_up (ab_up (ab_up I o 2 (nI 1)) o 3 (nI 0)) o 5 (nI 0)) o 4 (nI 0) o' k = I o' k := fun o' k hk => by
      unfold ab_up
      rw [if_neg (by omega), if_neg (by omega), if_neg (by omega), if_neg (by omega)]
    have mv0 : MV o (ab_up (ab_up (ab_up (ab_up I o 2 (nI 1)) o 3 (nI 0)) o 5 (nI 0)) o 4 (nI 0)) J' (V0, 0, I o 6) := ⟨hn, by rw [fr_setk (by omega), fr_sets], by rw [fr_setk (by omega), fr_setk (by omega), fr_setk (by omega), fr_setk (by omega)]⟩
    have h42 : ab_up (ab_up (ab_up (ab_up I o 2 (nI 1)) o 3 (nI 0)) o 5 (nI 0)) o 4 (nI 0) o 4 = nI 0 := fr_sets
    have h32 : ab_up (ab_up (ab_up (ab_up I o 2 (nI 1)) o 3 (nI 0)) o 5 (nI 0)) o 4 (nI 0) o 3 = nI 0 := by rw [fr_setk (by omega), fr_setk (by omega), fr_sets]
    have h22 : ab_up (ab_up (ab_up (ab_up I o 2 (nI 1)) o 3 (nI 0)) o 5 (nI 0)) o 4 (nI 0) o 2 = nI 1 := by rw [fr_setk (by omega), fr_setk (by omega), fr_setk (by omega), fr_sets]
    by_cases c0 : A 0 0 = 0
    · have er : run0 A ar w (I o 6) = ((V0, 0, I o 6), 0, none) := if_pos c0
      rw [er] at K
      have h' := PC_fr (I' := ab_up (ab_up (ab_up (ab_up I o 2 (nI 1)) o 3 (nI 0)) o 5 (nI 0)) o 4 (nI 0)) (fun o' k h1 h2 => hf4 o' k (by omega)) hr h
      have hg' := PG_fr (I' := ab_up (ab_up (ab_up (ab_up I o 2 (nI 1)) o 3 (nI 0)) o 5 (nI 0)) o 4 (nI 0)) (fun o' k h1 h2 => hf4 o' k (by omega)) hr hg
      have shb := fun Q => x_hasBlock (J := J') (Q := Q) hp hb hr h' hg' (nI 0)
      rw [c0, decide_eq_false (by decide)] at shb
      rw [at_28_51]
      simp (disch := first | omega | assumption | exact own_28 | exact rt_28 | exact pr_0 hp | exact mr_0 hm | exact pr_0 (by assumption) | exact q_lt1 (hb _ _) | exact bt_lt _ | fail) only [own_28, rt_28, ab_kl_n, ab_kl_i, ab_kl_r, ab_kl_l, at_28_0, Go_iconst, kc_0, at_28_1, Go_istore_2, ab_put_int_2, Go_iload_2, at_28_3, Go_bipush, kb_20, jt_28_5, q_le, q_lt, q_eq, n_leT, n_leF, n_ltT, n_ltF, n_eqF, n_b0, at_28_8, Go_aload_0, at_28_9, Go_getf, fl_2_15, gg_2_1, sh_ref, sh_rf, sr_49, sf_49_1, sr_51, sn_51, sr_53, sf_53_1, sr_55, sn_55, at_28_12, at_28_13, ldc2_2_37, at_28_16, Go_lastore, sh_ln, q_in, q_cl, sh_setl, at_28_17, Go_iinc_2, kc_1, q_add, jt_28_20, at_28_23, at_28_24, at_28_25, Go_putf, fl_2_29, gp_2_2, sh_seti, at_28_28, at_28_29, at_28_30, fl_2_39, gp_2_3, at_28_33, at_28_34, at_28_35, fl_2_42, gp_2_5, at_28_38, at_28_39, at_28_40, fl_2_45, gp_2_4, at_28_43, kb_m4, at_28_45, at_28_46, at_28_47, Go_istore_3, ab_put_int_3, at_28_48, at_28_49, Go_istore_4, ab_put_int_4, Go_iload_4, at_28_53, Go_sipush, ks_200, jt_28_56, at_28_59, Go_aload_1, at_28_60, Go_iload_3, at_28_61, cl_2_48, cat_n, cat_i, cat_r, cat_l, tl_i, tl_l, tl_n, sh_same, jt_28_64, at_28_67, at_28_68, at_28_69, at_28_70, at_28_71, cl_2_54, at_28_74, at_28_75, Go_dup_int, Go_dup_ref, at_28_76, gg_2_4, at_28_79, at_28_80, Go_iadd, Nat.zero_add, at_28_81, at_28_84, at_28_85, fl_2_58, gg_3_4, at_28_88, at_28_89, Go_iaload, at_28_90, kc_2, jt_28_91, at_28_94, at_28_95, at_28_96, at_28_99, at_28_100, at_28_103, at_28_104, fl_2_61, gg_3_7, at_28_107, at_28_108, at_28_109, Go_laload, at_28_110, Go_lreturn, at_28_111, at_28_112, at_28_113, at_28_114, at_28_115, at_28_116, cl_2_64, at_28_119, at_28_120, Go_iinc_4, jt_28_123, at_28_126, at_28_129, Nat.reduceAdd, Nat.reduceMul, Nat.reduceLeDiff, Nat.reduceSub, decide_true, decide_false, Bool.toNat_true, Bool.toNat_false, not_true_eq_false, not_false_eq_true, ite_not, true_and, and_true, if_true, if_false, ↓reduceIte, Bool.or_true, Bool.true_or, Bool.or_false, shb]
      exact K _ J' hf4 (fun o' k k1 k2 => hf _ _ k1) mv0 h42 h32 h22
    · have er : run0 A ar w (I o 6) = rn A ar w 200 0 0 (V0, 0, I o 6) 0 := if_neg c0
      rw [er] at K
      exact x_goL (res := rn A ar w 200 0 0 (V0, 0, I o 6) 0) hp hb hr h hg hwg hwh hm hw hA K 200 0 0 0 (-4) (V0, 0, I o 6) 0 _ J' (by omega) rfl hf4 (fun o' k k1 k2 => hf _ _ k1) mv0 h42 h32 h22 (by omega) (Or.inl ⟨rfl, hwg.2.2.2.2.1 (by omega)⟩)
  · rw [at_28_2]
    simp (disch := first | omega | assumption | exact own_28 | exact rt_28 | exact mr_0 hm | exact mr_0 hm | exact pr_0 (by assumption) | exact q_lt1 (hb _ _) | exact bt_lt _ | fail) only [own_28, rt_28, ab_kl_n, ab_kl_i, ab_kl_r, ab_kl_l, at_28_0, Go_iconst, kc_0, at_28_1, Go_istore_2, ab_put_int_2, Go_iload_2, at_28_3, Go_bipush, kb_20, jt_28_5, q_le, q_lt, q_eq, n_leT, n_leF, n_ltT, n_ltF, n_eqF, n_b0, at_28_8, Go_aload_0, at_28_9, Go_getf, fl_2_15, gg_2_1, sh_ref, sh_rf, sr_49, sf_49_1, sr_51, sn_51, sr_53, sf_53_1, sr_55, sn_55, at_28_12, at_28_13, ldc2_2_37, at_28_16, Go_lastore, sh_ln, q_in, q_cl, sh_setl, at_28_17, Go_iinc_2, kc_1, q_add, jt_28_20, at_28_23, at_28_24, at_28_25, Go_putf, fl_2_29, gp_2_2, sh_seti, at_28_28, at_28_29, at_28_30, fl_2_39, gp_2_3, at_28_33, at_28_34, at_28_35, fl_2_42, gp_2_5, at_28_38, at_28_39, at_28_40, fl_2_45, gp_2_4, at_28_43, kb_m4, at_28_45, at_28_46, at_28_47, Go_istore_3, ab_put_int_3, at_28_48, at_28_49, Go_istore_4, ab_put_int_4, Go_iload_4, at_28_53, Go_sipush, ks_200, jt_28_56, at_28_59, Go_aload_1, at_28_60, Go_iload_3, at_28_61, cl_2_48, cat_n, cat_i, cat_r, cat_l, tl_i, tl_l, tl_n, sh_same, jt_28_64, at_28_67, at_28_68, at_28_69, at_28_70, at_28_71, cl_2_54, at_28_74, at_28_75, Go_dup_int, Go_dup_ref, at_28_76, gg_2_4, at_28_79, at_28_80, Go_iadd, Nat.zero_add, at_28_81, at_28_84, at_28_85, fl_2_58, gg_3_4, at_28_88, at_28_89, Go_iaload, at_28_90, kc_2, jt_28_91, at_28_94, at_28_95, at_28_96, at_28_99, at_28_100, at_28_103, at_28_104, fl_2_61, gg_3_7, at_28_107, at_28_108, at_28_109, Go_laload, at_28_110, Go_lreturn, at_28_111, at_28_112, at_28_113, at_28_114, at_28_115, at_28_116, cl_2_64, at_28_119, at_28_120, Go_iinc_4, jt_28_123, at_28_126, at_28_129, Nat.reduceAdd, Nat.reduceMul, Nat.reduceLeDiff, Nat.reduceSub, decide_true, decide_false, Bool.toNat_true, Bool.toNat_false, not_true_eq_false, not_false_eq_true, ite_not, true_and, and_true, if_true, if_false, ↓reduceIte, Bool.or_true, Bool.true_or, Bool.or_false, mf_0 hm, mf_1 hm, mf_7 hm, mr_0 hm, mr_1 hm, mr_2 hm, mr_3 hm, mn_1 hm, mn_2 hm, mn_3 hm]
    exact ih _ (fun o' k hk => by rw [fr_setlo hk]; exact hf _ _ hk) (fun n hn2 => by
      by_cases z : n = i
      · subst z; rw [fr_setls]; rfl
      · rw [fr_setlk z]; exact hn n (by omega))
end RNF
