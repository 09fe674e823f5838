/-! THE CALLS: tape, runs as told, counts -/
def w_tp (s : VS) (tp : Nat → Nat) (tl : Nat) : VS := (v_a s, v_im s, tp, tl, v_ft s, v_ru s, v_sh s, v_ce s, v_tn s)
def n_feed (s : VS) (x : Int32) : VS := if nI 0 ≤ x ∧ x < nI 128 then (if v_tl s < 320 then w_tp s (fun i => if i = v_tl s then x.toNatClampNeg else v_tp s i) (v_tl s + 1) else s) else s
def o_feed (s : VS) (x : Int32) : Int32 := if nI 0 ≤ x ∧ x < nI 128 then (if v_tl s < 320 then nI (v_tl s + 1) else -3) else -1
section CFE
variable {I : Nat → Nat → Int32} {J : Nat → Nat → Int64} {Q : Option Value → ab_H → Prop} {s : VS}
theorem Fr_r {c : Nat → Prop} : Fr c I I J J := ⟨fun _ _ _ => rfl, fun _ _ _ => rfl⟩
theorem i2b_lt : ∀ a, a < 128 → (nI a).toInt8.toInt32 = nI a := by decide +kernel
theorem x_push {t a : Nat} (h3 : I 2 1 = nI t) (ht : t ≤ 320) (ha : a < 128) : Ex 93 [.ref 2, .int (nI a)] (SH, I, J) Q = if t < 320 then Q (some (.int (nI 1))) (SH, ab_up (ab_up I 3 t (nI a)) 2 1 (nI (t + 1)), J) else Q (some (.int (nI 0))) (SH, I, J) := by
  have nb : vp_nar .byte ((nI a).toInt8.toInt32) = nI a := by rw [i2b_lt a ha]; exact i2b_lt a ha
  have e1 : ∀ x, ab_up I 3 t x 2 1 = nI t := fun x => by rw [fr_seti (by omega)]; exact h3
  have k3 : ab_kd sh_z 3 = 13 := by decide +kernel
  have n12 : ((13 : Nat) = 12) = False := by decide
  rw [en_93]
  by_cases c : t < 320
  · rw [if_pos c]
    simp (disch := first | omega | assumption | exact own_93 | exact rt_93 | exact q_lt1 (hb _ _) | exact bt_lt _ | fail) only [own_93, rt_93, ab_kl_n, ab_kl_i, ab_kl_r, ab_kl_l, at_93_0, Go_aload_0, at_93_1, Go_getf, fl_6_15, gg_6_1, sh_ref, sh_rf, sr_2, at_93_4, Go_sipush, ks_320, jt_93_7, q_le, q_lt, q_eq, n_leT, n_leF, n_ltT, n_ltF, n_eqF, n_b0, at_93_10, Go_iconst, kc_0, at_93_11, Go_retb, Go_retb0, Go_retb1, at_93_12, at_93_13, fl_6_9, gg_6_0, sf_2_0, sr_3, sn_3, at_93_16, at_93_17, at_93_20, Go_iload_1, at_93_21, Go_i2b, at_93_22, Go_bastore, sh_ln, q_in, q_cl, sh_seti, sh_kd, at_93_23, at_93_24, Go_dup_int, Go_dup_ref, at_93_25, at_93_28, kc_1, at_93_29, Go_iadd, q_add, Nat.zero_add, at_93_30, Go_putf, gp_6_1, at_93_33, at_93_34, Nat.reduceAdd, Nat.reduceMul, Nat.reduceLeDiff, Nat.reduceSub, decide_true, decide_false, Bool.toNat_true, Bool.toNat_false, not_true_eq_false, not_false_eq_true, ite_not, true_and, and_true, if_true, if_false, ↓reduceIte, Bool.or_true, Bool.true_or, Bool.or_false, h3, e1, nb, k3, n12]
  · rw [if_neg c]
    simp (disch := first | omega | assumption | exact own_93 | exact rt_93 | exact q_lt1 (hb _ _) | exact bt_lt _ | fail) only [own_93, rt_93, ab_kl_n, ab_kl_i, ab_kl_r, ab_kl_l, at_93_0, Go_aload_0, at_93_1, Go_getf, fl_6_15, gg_6_1, sh_ref, sh_rf, sr_2, at_93_4, Go_sipush, ks_320, jt_93_7, q_le, q_lt, q_eq, n_leT, n_leF, n_ltT, n_ltF, n_eqF, n_b0, at_93_10, Go_iconst, kc_0, at_93_11, Go_retb, Go_retb0, Go_retb1, at_93_12, at_93_13, fl_6_9, gg_6_0, sf_2_0, sr_3, sn_3, at_93_16, at_93_17, at_93_20, Go_iload_1, at_93_21, Go_i2b, at_93_22, Go_bastore, sh_ln, q_in, q_cl, sh_seti, sh_kd, at_93_23, at_93_24, Go_dup_int, Go_dup_ref, at_93_25, at_93_28, kc_1, at_93_29, Go_iadd, q_add, Nat.zero_add, at_93_30, Go_putf, gp_6_1, at_93_33, at_93_34, Nat.reduceAdd, Nat.reduceMul, Nat.reduceLeDiff, Nat.reduceSub, decide_true, decide_false, Bool.toNat_true, Bool.toNat_false, not_true_eq_false, not_false_eq_true, ite_not, true_and, and_true, if_true, if_false, ↓reduceIte, Bool.or_true, Bool.true_or, Bool.or_false, h3, c]
theorem C_feed (ok : OS s) (h : SC s I J) (x : Int32) (K : ∀ I' J', SC (n_feed s x) I' J' → Fr (fun o => 199 ≤ o) I I' J J' → Q (some (.int (o_feed s x))) (SH, I', J')) : Ex 96 [.ref 0, .int x] (SH, I, J) Q := by
  obtain ⟨ht, hT⟩ := ok.2.2.1
  have h0 := h
  obtain ⟨h1, h2, ⟨h3, h3b⟩, h4, h5, h6, h7⟩ := h
  unfold n_feed o_feed at K
  rw [en_96]
  rcases i_le (x := x) (m := 127) (by omega) with ⟨a, ha, rfl⟩ | hx
  · have P : nI 0 ≤ nI a ∧ nI a < nI 128 := ⟨nI_le (Nat.zero_le _) (by omega), nI_lt (by omega) (by omega)⟩
    rw [if_pos P, if_pos P] at K
    have s1 := fun Q => x_push (J := J) (Q := Q) h3 ht (a := a) (by omega)
    by_cases c : v_tl s < 320
    · rw [if_pos c, if_pos c] at K
      have e1 : ab_up (ab_up I 3 (v_tl s) (nI a)) 2 1 (nI (v_tl s + 1)) 2 1 = nI (v_tl s + 1) := fr_sets
      simp (disch := first | omega | assumption | exact own_96 | exact rt_96 | exact sr_2 | exact q_lt1 (hb _ _) | exact bt_lt _ | fail) only [own_96, rt_96, ab_kl_n, ab_kl_i, ab_kl_r, ab_kl_l, at_96_0, Go_iload_1, jt_96_1, q_le, q_lt, q_eq, n_leT, n_leF, n_ltT, n_ltF, n_eqF, n_b0, at_96_4, at_96_5, Go_bipush, kb_127, jt_96_7, at_96_10, Go_iconst, kc_m1, at_96_11, Go_reti, at_96_12, Go_aload_0, at_96_13, Go_getf, fl_7_10, gg_7_0, sh_ref, sh_rf, sr_0, sf_0_0, sr_1, at_96_16, fl_7_66, gg_4_0, sf_1_0, sr_2, at_96_19, at_96_20, cl_7_70, cat_n, cat_i, cat_r, cat_l, tl_i, tl_l, tl_n, sh_same, jt_96_23, at_96_26, at_96_27, at_96_30, at_96_33, fl_7_76, gg_6_1, jt_96_36, at_96_39, kb_m3, at_96_41, Nat.reduceAdd, Nat.reduceMul, Nat.reduceLeDiff, Nat.reduceSub, decide_true, decide_false, Bool.toNat_true, Bool.toNat_false, not_true_eq_false, not_false_eq_true, ite_not, true_and, and_true, if_true, if_false, ↓reduceIte, Bool.or_true, Bool.true_or, Bool.or_false, s1, c, e1]
      refine K _ _ ⟨Ca_eq ok.1 (fun o k _ _ => by rw [fr_seti (by omega), fr_seti (by omega)]) h1, Ci_eq ok.2.1 (fun o k _ => by rw [fr_seti (by omega), fr_seti (by omega)]) h2, ⟨fr_sets, fun i hi => ?_⟩, ?_, Cr_eq (fun k _ => by rw [fr_seti (by omega), fr_seti (by omega)]) (fun _ => rfl) h5, Cs_eq (fun o k _ => by rw [fr_seti (by omega), fr_seti (by omega)]) h6, ?_⟩ ⟨fun o k hk => by rw [fr_seti (by omega), fr_seti (by omega)], fun _ _ _ => rfl⟩
      · show ab_up (ab_up I 3 (v_tl s) (nI a)) 2 1 (nI (v_tl s + 1)) 3 i = nI (if i = v_tl s then (nI a).toNatClampNeg else v_tp s i)
        have hi : i < v_tl s + 1 := hi
        rw [fr_seti (by omega), q_cl (by omega)]
        by_cases z : i = v_tl s
        · subst z; rw [fr_sets, if_pos rfl]
        · rw [fr_setk z, if_neg z]; exact h3b i (by omega)
      · rw [fr_seti (by omega), fr_seti (by omega)]; exact h4
      · rw [fr_seti (by omega), fr_seti (by omega)]; exact h7
    · rw [if_neg c, if_neg c] at K
      simp (disch := first | omega | assumption | exact own_96 | exact rt_96 | exact sr_2 | exact q_lt1 (hb _ _) | exact bt_lt _ | fail) only [own_96, rt_96, ab_kl_n, ab_kl_i, ab_kl_r, ab_kl_l, at_96_0, Go_iload_1, jt_96_1, q_le, q_lt, q_eq, n_leT, n_leF, n_ltT, n_ltF, n_eqF, n_b0, at_96_4, at_96_5, Go_bipush, kb_127, jt_96_7, at_96_10, Go_iconst, kc_m1, at_96_11, Go_reti, at_96_12, Go_aload_0, at_96_13, Go_getf, fl_7_10, gg_7_0, sh_ref, sh_rf, sr_0, sf_0_0, sr_1, at_96_16, fl_7_66, gg_4_0, sf_1_0, sr_2, at_96_19, at_96_20, cl_7_70, cat_n, cat_i, cat_r, cat_l, tl_i, tl_l, tl_n, sh_same, jt_96_23, at_96_26, at_96_27, at_96_30, at_96_33, fl_7_76, gg_6_1, jt_96_36, at_96_39, kb_m3, at_96_41, Nat.reduceAdd, Nat.reduceMul, Nat.reduceLeDiff, Nat.reduceSub, decide_true, decide_false, Bool.toNat_true, Bool.toNat_false, not_true_eq_false, not_false_eq_true, ite_not, true_and, and_true, if_true, if_false, ↓reduceIte, Bool.or_true, Bool.true_or, Bool.or_false, s1, c]
      exact K _ _ h0 Fr_r
  · have P : ¬ (nI 0 ≤ x ∧ x < nI 128) := i_out (by omega) hx
    rw [if_neg P, if_neg P] at K
    have K2 := K _ _ h0 Fr_r
    by_cases c : x < nI 0
    · simp (disch := first | omega | assumption | exact own_96 | exact rt_96 | exact sr_2 | exact q_lt1 (hb _ _) | exact bt_lt _ | fail) only [own_96, rt_96, ab_kl_n, ab_kl_i, ab_kl_r, ab_kl_l, at_96_0, Go_iload_1, jt_96_1, q_le, q_lt, q_eq, n_leT, n_leF, n_ltT, n_ltF, n_eqF, n_b0, at_96_4, at_96_5, Go_bipush, kb_127, jt_96_7, at_96_10, Go_iconst, kc_m1, at_96_11, Go_reti, at_96_12, Go_aload_0, at_96_13, Go_getf, fl_7_10, gg_7_0, sh_ref, sh_rf, sr_0, sf_0_0, sr_1, at_96_16, fl_7_66, gg_4_0, sf_1_0, sr_2, at_96_19, at_96_20, cl_7_70, cat_n, cat_i, cat_r, cat_l, tl_i, tl_l, tl_n, sh_same, jt_96_23, at_96_26, at_96_27, at_96_30, at_96_33, fl_7_76, gg_6_1, jt_96_36, at_96_39, kb_m3, at_96_41, Nat.reduceAdd, Nat.reduceMul, Nat.reduceLeDiff, Nat.reduceSub, decide_true, decide_false, Bool.toNat_true, Bool.toNat_false, not_true_eq_false, not_false_eq_true, ite_not, true_and, and_true, if_true, if_false, ↓reduceIte, Bool.or_true, Bool.true_or, Bool.or_false, c]
      exact K2
    · have c2 : ¬ x ≤ nI 127 := by
        rcases hx with z | z
        · exact absurd z c
        · exact Int32.not_le.mpr z
      simp (disch := first | omega | assumption | exact own_96 | exact rt_96 | exact sr_2 | exact q_lt1 (hb _ _) | exact bt_lt _ | fail) only [own_96, rt_96, ab_kl_n, ab_kl_i, ab_kl_r, ab_kl_l, at_96_0, Go_iload_1, jt_96_1, q_le, q_lt, q_eq, n_leT, n_leF, n_ltT, n_ltF, n_eqF, n_b0, at_96_4, at_96_5, Go_bipush, kb_127, jt_96_7, at_96_10, Go_iconst, kc_m1, at_96_11, Go_reti, at_96_12, Go_aload_0, at_96_13, Go_getf, fl_7_10, gg_7_0, sh_ref, sh_rf, sr_0, sf_0_0, sr_1, at_96_16, fl_7_66, gg_4_0, sf_1_0, sr_2, at_96_19, at_96_20, cl_7_70, cat_n, cat_i, cat_r, cat_l, tl_i, tl_l, tl_n, sh_same, jt_96_23, at_96_26, at_96_27, at_96_30, at_96_33, fl_7_76, gg_6_1, jt_96_36, at_96_39, kb_m3, at_96_41, Nat.reduceAdd, Nat.reduceMul, Nat.reduceLeDiff, Nat.reduceSub, decide_true, decide_false, Bool.toNat_true, Bool.toNat_false, not_true_eq_false, not_false_eq_true, ite_not, true_and, and_true, if_true, if_false, ↓reduceIte, Bool.or_true, Bool.true_or, Bool.or_false, c, c2]
      exact K2
end CFE
