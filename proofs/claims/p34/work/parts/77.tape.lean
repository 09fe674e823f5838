/-! THE TEXT: bytes, runs of them -/
def hs (tp : Nat → Nat) (tl lo hi a : Nat) : Bool := decide (a < tl ∧ lo ≤ tp a ∧ tp a ≤ hi)
def re (tp : Nat → Nat) (tl lo hi q : Nat) : Nat := fu (fun j => !hs tp tl lo hi j) (tl - q) q
theorem re_spec {tp : Nat → Nat} {tl lo hi q : Nat} (hq : q ≤ tl) : q ≤ re tp tl lo hi q ∧ re tp tl lo hi q ≤ tl ∧ (∀ j, q ≤ j → j < re tp tl lo hi q → hs tp tl lo hi j = true) ∧ hs tp tl lo hi (re tp tl lo hi q) = false := by
  obtain ⟨h1, h2, h3, h4⟩ := fu_spec (fun j => !hs tp tl lo hi j) (tl - q) q
  refine ⟨h1, by show fu _ _ _ ≤ tl; omega, fun j z1 z2 => by simpa using h3 j z1 z2, ?_⟩
  by_cases c : re tp tl lo hi q < tl
  · have t2 : (!hs tp tl lo hi (re tp tl lo hi q)) = true := h4 (by show re tp tl lo hi q < _; omega)
    simpa using t2
  · exact decide_eq_false (fun z => c z.1)
section TPE
variable {I I' : Nat → Nat → Int32} {J J' : Nat → Nat → Int64} {Q : Option Value → ab_H → Prop} {tp : Nat → Nat} {tl : Nat}
theorem x_has (h : Ct tp tl I) (ht : tl ≤ 320) (hb : ∀ i, tp i < 128) {a lo hi : Nat} (ha : a < 1000) (hlo : lo < 1000) (hhi : hi < 1000) : Ex 94 [.ref 2, .int (nI a), .int (nI lo), .int (nI hi)] (SH, I, J) Q = Q (some (.int (nI (hs tp tl lo hi a).toNat))) (SH, I, J) := by
  obtain ⟨h1, h2⟩ := h
  have hba := hb a
  unfold hs
  rw [en_94]
  by_cases c1 : a < tl
  · have h2a := h2 a c1
    by_cases c2 : lo ≤ tp a
    · have c2' : ¬ tp a < lo := by omega
      by_cases c3 : tp a ≤ hi
      · have c3' : ¬ hi < tp a := by omega
        rw [decide_eq_true ⟨c1, c2, c3⟩]
        simp (disch := first | omega | assumption | exact own_94 | exact rt_94 | exact q_lt1 (hb _ _) | exact bt_lt _ | fail) only [own_94, rt_94, ab_kl_n, ab_kl_i, ab_kl_r, ab_kl_l, at_94_0, Go_iload_1, jt_94_1, q_le, q_lt, q_eq, n_leT, n_leF, n_ltT, n_ltF, n_eqF, n_b0, at_94_4, at_94_5, Go_aload_0, at_94_6, Go_getf, fl_6_15, gg_6_1, sh_ref, sh_rf, sr_2, jt_94_9, at_94_12, at_94_13, fl_6_9, gg_6_0, sf_2_0, sr_3, sn_3, at_94_16, at_94_17, Go_baload, sh_ln, q_in, q_cl, at_94_18, Go_iload_2, jt_94_19, at_94_22, at_94_23, at_94_26, at_94_27, at_94_28, Go_iload_3, jt_94_29, at_94_32, Go_iconst, kc_1, jt_94_33, at_94_36, kc_0, at_94_37, Go_retb, Go_retb0, Go_retb1, Nat.reduceAdd, Nat.reduceMul, Nat.reduceLeDiff, Nat.reduceSub, decide_true, decide_false, Bool.toNat_true, Bool.toNat_false, not_true_eq_false, not_false_eq_true, ite_not, true_and, and_true, if_true, if_false, ↓reduceIte, Bool.or_true, Bool.true_or, Bool.or_false, h1, h2a, c1, c2', c3, c3']
      · have c3' : hi < tp a := by omega
        rw [decide_eq_false (fun z => c3 z.2.2)]
        simp (disch := first | omega | assumption | exact own_94 | exact rt_94 | exact q_lt1 (hb _ _) | exact bt_lt _ | fail) only [own_94, rt_94, ab_kl_n, ab_kl_i, ab_kl_r, ab_kl_l, at_94_0, Go_iload_1, jt_94_1, q_le, q_lt, q_eq, n_leT, n_leF, n_ltT, n_ltF, n_eqF, n_b0, at_94_4, at_94_5, Go_aload_0, at_94_6, Go_getf, fl_6_15, gg_6_1, sh_ref, sh_rf, sr_2, jt_94_9, at_94_12, at_94_13, fl_6_9, gg_6_0, sf_2_0, sr_3, sn_3, at_94_16, at_94_17, Go_baload, sh_ln, q_in, q_cl, at_94_18, Go_iload_2, jt_94_19, at_94_22, at_94_23, at_94_26, at_94_27, at_94_28, Go_iload_3, jt_94_29, at_94_32, Go_iconst, kc_1, jt_94_33, at_94_36, kc_0, at_94_37, Go_retb, Go_retb0, Go_retb1, Nat.reduceAdd, Nat.reduceMul, Nat.reduceLeDiff, Nat.reduceSub, decide_true, decide_false, Bool.toNat_true, Bool.toNat_false, not_true_eq_false, not_false_eq_true, ite_not, true_and, and_true, if_true, if_false, ↓reduceIte, Bool.or_true, Bool.true_or, Bool.or_false, h1, h2a, c1, c2', c3, c3']
    · have c2' : tp a < lo := by omega
      rw [decide_eq_false (fun z => c2 z.2.1)]
      simp (disch := first | omega | assumption | exact own_94 | exact rt_94 | exact q_lt1 (hb _ _) | exact bt_lt _ | fail) only [own_94, rt_94, ab_kl_n, ab_kl_i, ab_kl_r, ab_kl_l, at_94_0, Go_iload_1, jt_94_1, q_le, q_lt, q_eq, n_leT, n_leF, n_ltT, n_ltF, n_eqF, n_b0, at_94_4, at_94_5, Go_aload_0, at_94_6, Go_getf, fl_6_15, gg_6_1, sh_ref, sh_rf, sr_2, jt_94_9, at_94_12, at_94_13, fl_6_9, gg_6_0, sf_2_0, sr_3, sn_3, at_94_16, at_94_17, Go_baload, sh_ln, q_in, q_cl, at_94_18, Go_iload_2, jt_94_19, at_94_22, at_94_23, at_94_26, at_94_27, at_94_28, Go_iload_3, jt_94_29, at_94_32, Go_iconst, kc_1, jt_94_33, at_94_36, kc_0, at_94_37, Go_retb, Go_retb0, Go_retb1, Nat.reduceAdd, Nat.reduceMul, Nat.reduceLeDiff, Nat.reduceSub, decide_true, decide_false, Bool.toNat_true, Bool.toNat_false, not_true_eq_false, not_false_eq_true, ite_not, true_and, and_true, if_true, if_false, ↓reduceIte, Bool.or_true, Bool.true_or, Bool.or_false, h1, h2a, c1, c2']
  · have c1' : tl ≤ a := by omega
    rw [decide_eq_false (fun z => c1 z.1)]
    simp (disch := first | omega | assumption | exact own_94 | exact rt_94 | exact q_lt1 (hb _ _) | exact bt_lt _ | fail) only [own_94, rt_94, ab_kl_n, ab_kl_i, ab_kl_r, ab_kl_l, at_94_0, Go_iload_1, jt_94_1, q_le, q_lt, q_eq, n_leT, n_leF, n_ltT, n_ltF, n_eqF, n_b0, at_94_4, at_94_5, Go_aload_0, at_94_6, Go_getf, fl_6_15, gg_6_1, sh_ref, sh_rf, sr_2, jt_94_9, at_94_12, at_94_13, fl_6_9, gg_6_0, sf_2_0, sr_3, sn_3, at_94_16, at_94_17, Go_baload, sh_ln, q_in, q_cl, at_94_18, Go_iload_2, jt_94_19, at_94_22, at_94_23, at_94_26, at_94_27, at_94_28, Go_iload_3, jt_94_29, at_94_32, Go_iconst, kc_1, jt_94_33, at_94_36, kc_0, at_94_37, Go_retb, Go_retb0, Go_retb1, Nat.reduceAdd, Nat.reduceMul, Nat.reduceLeDiff, Nat.reduceSub, decide_true, decide_false, Bool.toNat_true, Bool.toNat_false, not_true_eq_false, not_false_eq_true, ite_not, true_and, and_true, if_true, if_false, ↓reduceIte, Bool.or_true, Bool.true_or, Bool.or_false, h1, c1, c1']
theorem x_skip (h : Ct tp tl I) (ht : tl ≤ 320) (hb : ∀ i, tp i < 128) {q lo hi : Nat} (hq : q ≤ tl) (hI : I 1 8 = nI q) (hlo : lo < 1000) (hhi : hi < 1000) (K : ∀ I', (∀ o k, ¬ (o = 1 ∧ k = 8) → I' o k = I o k) → I' 1 8 = nI (re tp tl lo hi q) → Q none (SH, I', J)) : Ex 82 [.ref 1, .int (nI lo), .int (nI hi)] (SH, I, J) Q := by
  obtain ⟨s1, s2, s3, s4⟩ := re_spec (tp := tp) (lo := lo) (hi := hi) hq
  generalize re tp tl lo hi q = z at *
  rw [en_82]
  simp (disch := first | omega | assumption | exact own_82 | exact rt_82 | exact sr_2 | exact q_lt1 (hb _ _) | exact bt_lt _ | fail) only [own_82, rt_82, ab_kl_n, ab_kl_i, ab_kl_r, ab_kl_l, at_82_0, Go_iconst, kc_0, at_82_1, Go_istore_3, ab_put_int_3, Go_iload_3, at_82_3, Go_sipush, ks_320, jt_82_6, q_le, q_lt, q_eq, n_leT, n_leF, n_ltT, n_ltF, n_eqF, n_b0, at_82_9, Go_aload_0, at_82_10, Go_getf, fl_4_12, gg_4_0, sh_ref, sh_rf, sr_1, sf_1_0, sr_2, at_82_13, at_82_14, fl_4_123, gg_4_8, at_82_17, Go_iload_1, at_82_18, Go_iload_2, at_82_19, cl_4_139, cat_n, cat_i, cat_r, cat_l, tl_i, tl_l, tl_n, sh_same, jt_82_22, at_82_25, at_82_26, Go_dup_int, Go_dup_ref, at_82_27, at_82_30, kc_1, at_82_31, Go_iadd, q_add, Nat.zero_add, at_82_32, Go_putf, gp_4_8, sh_seti, at_82_35, Go_iinc_3, jt_82_38, at_82_41, Go_return, Nat.reduceAdd, Nat.reduceMul, Nat.reduceLeDiff, Nat.reduceSub, decide_true, decide_false, Bool.toNat_true, Bool.toNat_false, not_true_eq_false, not_false_eq_true, ite_not, true_and, and_true, if_true, if_false, ↓reduceIte, Bool.or_true, Bool.true_or, Bool.or_false]
  refine lp_wp (a := 0) (N := z - q) (Nat.zero_le _) (fun i => ∀ I1 : Nat → Nat → Int32, (∀ o k, ¬ (o = 1 ∧ k = 8) → I1 o k = I o k) → I1 1 8 = nI (q + i) → Go (ab_at 82 2) 82 2 [some (.ref 1), some (.int (nI (lo))), some (.int (nI (hi))), some (.int (nI (i)))] []  (SH, I1, J) Q) (fun I1 f1 f2 => ?_) (fun i _ hi' ih I1 f1 f2 => ?_) I (fun _ _ _ => rfl) hI
  · have e : q + (z - q) = z := by omega
    rw [e] at f2
    have sh := fun Q => x_has (J := J) (Q := Q) (I := I1) (lo := lo) (hi := hi) (a := z) ⟨(f1 _ _ (by omega)).trans h.1, fun i hi => (f1 _ _ (by omega)).trans (h.2 i hi)⟩ ht hb (by omega) hlo hhi
    rw [s4] at sh
    rw [at_82_2]
    by_cases c : z - q < 320
    · have c' : ¬ 320 ≤ z - q := by omega
      simp (disch := first | omega | assumption | exact own_82 | exact rt_82 | exact sr_2 | exact q_lt1 (hb _ _) | exact bt_lt _ | fail) only [own_82, rt_82, ab_kl_n, ab_kl_i, ab_kl_r, ab_kl_l, at_82_0, Go_iconst, kc_0, at_82_1, Go_istore_3, ab_put_int_3, Go_iload_3, at_82_3, Go_sipush, ks_320, jt_82_6, q_le, q_lt, q_eq, n_leT, n_leF, n_ltT, n_ltF, n_eqF, n_b0, at_82_9, Go_aload_0, at_82_10, Go_getf, fl_4_12, gg_4_0, sh_ref, sh_rf, sr_1, sf_1_0, sr_2, at_82_13, at_82_14, fl_4_123, gg_4_8, at_82_17, Go_iload_1, at_82_18, Go_iload_2, at_82_19, cl_4_139, cat_n, cat_i, cat_r, cat_l, tl_i, tl_l, tl_n, sh_same, jt_82_22, at_82_25, at_82_26, Go_dup_int, Go_dup_ref, at_82_27, at_82_30, kc_1, at_82_31, Go_iadd, q_add, Nat.zero_add, at_82_32, Go_putf, gp_4_8, sh_seti, at_82_35, Go_iinc_3, jt_82_38, at_82_41, Go_return, Nat.reduceAdd, Nat.reduceMul, Nat.reduceLeDiff, Nat.reduceSub, decide_true, decide_false, Bool.toNat_true, Bool.toNat_false, not_true_eq_false, not_false_eq_true, ite_not, true_and, and_true, if_true, if_false, ↓reduceIte, Bool.or_true, Bool.true_or, Bool.or_false, f2, sh, c, c']
      exact K I1 f1 f2
    · have c' : 320 ≤ z - q := by omega
      simp (disch := first | omega | assumption | exact own_82 | exact rt_82 | exact sr_2 | exact q_lt1 (hb _ _) | exact bt_lt _ | fail) only [own_82, rt_82, ab_kl_n, ab_kl_i, ab_kl_r, ab_kl_l, at_82_0, Go_iconst, kc_0, at_82_1, Go_istore_3, ab_put_int_3, Go_iload_3, at_82_3, Go_sipush, ks_320, jt_82_6, q_le, q_lt, q_eq, n_leT, n_leF, n_ltT, n_ltF, n_eqF, n_b0, at_82_9, Go_aload_0, at_82_10, Go_getf, fl_4_12, gg_4_0, sh_ref, sh_rf, sr_1, sf_1_0, sr_2, at_82_13, at_82_14, fl_4_123, gg_4_8, at_82_17, Go_iload_1, at_82_18, Go_iload_2, at_82_19, cl_4_139, cat_n, cat_i, cat_r, cat_l, tl_i, tl_l, tl_n, sh_same, jt_82_22, at_82_25, at_82_26, Go_dup_int, Go_dup_ref, at_82_27, at_82_30, kc_1, at_82_31, Go_iadd, q_add, Nat.zero_add, at_82_32, Go_putf, gp_4_8, sh_seti, at_82_35, Go_iinc_3, jt_82_38, at_82_41, Go_return, Nat.reduceAdd, Nat.reduceMul, Nat.reduceLeDiff, Nat.reduceSub, decide_true, decide_false, Bool.toNat_true, Bool.toNat_false, not_true_eq_false, not_false_eq_true, ite_not, true_and, and_true, if_true, if_false, ↓reduceIte, Bool.or_true, Bool.true_or, Bool.or_false, f2, c, c']
      exact K I1 f1 f2
  · have sh := fun Q => x_has (J := J) (Q := Q) (I := I1) (lo := lo) (hi := hi) (a := q + i) ⟨(f1 _ _ (by omega)).trans h.1, fun i hi => (f1 _ _ (by omega)).trans (h.2 i hi)⟩ ht hb (by omega) hlo hhi
    rw [s3 (q + i) (by omega) (by omega)] at sh
    have c' : ¬ 320 ≤ i := by omega
    rw [at_82_2]
    simp (disch := first | omega | assumption | exact own_82 | exact rt_82 | exact sr_2 | exact q_lt1 (hb _ _) | exact bt_lt _ | fail) only [own_82, rt_82, ab_kl_n, ab_kl_i, ab_kl_r, ab_kl_l, at_82_0, Go_iconst, kc_0, at_82_1, Go_istore_3, ab_put_int_3, Go_iload_3, at_82_3, Go_sipush, ks_320, jt_82_6, q_le, q_lt, q_eq, n_leT, n_leF, n_ltT, n_ltF, n_eqF, n_b0, at_82_9, Go_aload_0, at_82_10, Go_getf, fl_4_12, gg_4_0, sh_ref, sh_rf, sr_1, sf_1_0, sr_2, at_82_13, at_82_14, fl_4_123, gg_4_8, at_82_17, Go_iload_1, at_82_18, Go_iload_2, at_82_19, cl_4_139, cat_n, cat_i, cat_r, cat_l, tl_i, tl_l, tl_n, sh_same, jt_82_22, at_82_25, at_82_26, Go_dup_int, Go_dup_ref, at_82_27, at_82_30, kc_1, at_82_31, Go_iadd, q_add, Nat.zero_add, at_82_32, Go_putf, gp_4_8, sh_seti, at_82_35, Go_iinc_3, jt_82_38, at_82_41, Go_return, Nat.reduceAdd, Nat.reduceMul, Nat.reduceLeDiff, Nat.reduceSub, decide_true, decide_false, Bool.toNat_true, Bool.toNat_false, not_true_eq_false, not_false_eq_true, ite_not, true_and, and_true, if_true, if_false, ↓reduceIte, Bool.or_true, Bool.true_or, Bool.or_false, f2, sh, c', Bool.true_eq_false]
    refine ih _ (fun o k hk => ?_) ?_
    · unfold ab_up
      rw [if_neg hk]
      exact f1 o k hk
    · rw [show q + (i + 1) = q + i + 1 by omega]
      exact fr_sets
end TPE
