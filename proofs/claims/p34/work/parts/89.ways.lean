/-! WAYS of drafts: of names nothing is asked -/
def PB (p : Nat) (I : Nat → Nat → Int32) (A : Nat → Nat → Nat) : Prop := I p 0 = nI (A 0 0) ∧ (∀ b, b < A 0 0 → I (p + 3) b = nI (A 3 b)) ∧ (∀ b, b < A 0 0 → A 3 b ≠ 2 → I (p + 4) b = nI (A 4 b)) ∧ (∀ b, b < A 0 0 → A 3 b = 1 → I (p + 5) b = nI (A 5 b))
def PN (g : Nat) (I : Nat → Nat → Int32) (A : Nat → Nat → Nat) : Prop := I 200 (g + 236) = nI (A 0 0) ∧ (∀ b, b < A 0 0 → I 200 (g + 12 + b) = nI (A 3 b)) ∧ (∀ b, b < A 0 0 → I 200 (g + 18 + b) = if A 3 b = 2 then -4 else nI (A 4 b)) ∧ (∀ b, b < A 0 0 → I 200 (g + 24 + b) = if A 3 b = 1 then nI (A 5 b) else -4)
theorem PB_of {p : Nat} {I I' : Nat → Nat → Int32} {A : Nat → Nat → Nat} (hf : ∀ o k, o = p ∨ (p + 3 ≤ o ∧ o ≤ p + 5) → I' o k = I o k) (h : PB p I A) : PB p I' A := by
  obtain ⟨e0, e4, e5, e6⟩ := h
  exact ⟨(hf _ _ (by omega)).trans e0, fun b hb => (hf _ _ (by omega)).trans (e4 b hb), fun b hb hx => (hf _ _ (by omega)).trans (e5 b hb hx), fun b hb hx => (hf _ _ (by omega)).trans (e6 b hb hx)⟩
section CSZ
variable {I : Nat → Nat → Int32} {J : Nat → Nat → Int64} {Q : Option Value → ab_H → Prop} {A : Nat → Nat → Nat} {p : Nat} {R : Prop}
theorem z_succ (hp : isP p) (hb : WB A) (hl : WB6 A) (h : PB p I A) {b : Nat} (hn : b < A 0 0) : Ex 49 [.ref p, .int (nI b)] (SH, I, J) Q = Q (some (.int (nI (scs A b)))) (SH, I, J) := by
  have hp2 := p_lt hp
  obtain ⟨e0, e4, e5, e6⟩ := h
  obtain ⟨l1, l2⟩ := hl
  obtain ⟨b1, b2, b3⟩ := l2 b hn
  rw [en_49]
  unfold scs
  by_cases c1 : A 3 b = 2
  · simp (disch := first | omega | assumption | exact own_49 | exact rt_49 | exact q_lt1 (hb _ _) | exact bt_lt _ | fail) only [own_49, rt_49, ab_kl_n, ab_kl_i, ab_kl_r, ab_kl_l, at_49_0, Go_aload_0, at_49_1, Go_getf, fl_3_18, gg_3_4, sh_ref, sh_rf, at_49_4, Go_iload_1, at_49_5, Go_iaload, sh_ln, q_in, q_cl, at_49_6, Go_iconst, kc_2, jt_49_7, q_le, q_lt, q_eq, n_leT, n_leF, n_ltT, n_ltF, n_eqF, n_b0, at_49_10, kc_0, at_49_11, Go_reti, at_49_12, at_49_13, at_49_16, at_49_17, jt_49_18, at_49_21, kc_1, at_49_22, at_49_23, fl_3_21, gg_3_5, at_49_26, at_49_27, at_49_28, Go_ishl, q_shl, jt_49_29, at_49_32, at_49_33, at_49_34, at_49_37, at_49_38, at_49_39, at_49_40, at_49_41, at_49_42, fl_3_24, gg_3_6, at_49_45, at_49_46, at_49_47, at_49_48, Go_ior, q_or, at_49_49, Nat.reduceAdd, Nat.reduceMul, Nat.reduceLeDiff, Nat.reduceSub, decide_true, decide_false, Bool.toNat_true, Bool.toNat_false, not_true_eq_false, not_false_eq_true, ite_not, true_and, and_true, if_true, if_false, ↓reduceIte, Bool.or_true, Bool.true_or, Bool.or_false, pr_0 hp, pf_4 hp, pr_3 hp, pn_3 hp, e4, pf_5 hp, pr_4 hp, pn_4 hp, e5, pf_6 hp, pr_5 hp, pn_5 hp, e6, c1]
  · have b4 := b2 c1
    have e5b := e5 b hn c1
    by_cases c2 : A 3 b = 0
    · simp (disch := first | omega | assumption | exact own_49 | exact rt_49 | exact q_lt1 (hb _ _) | exact bt_lt _ | fail) only [own_49, rt_49, ab_kl_n, ab_kl_i, ab_kl_r, ab_kl_l, at_49_0, Go_aload_0, at_49_1, Go_getf, fl_3_18, gg_3_4, sh_ref, sh_rf, at_49_4, Go_iload_1, at_49_5, Go_iaload, sh_ln, q_in, q_cl, at_49_6, Go_iconst, kc_2, jt_49_7, q_le, q_lt, q_eq, n_leT, n_leF, n_ltT, n_ltF, n_eqF, n_b0, at_49_10, kc_0, at_49_11, Go_reti, at_49_12, at_49_13, at_49_16, at_49_17, jt_49_18, at_49_21, kc_1, at_49_22, at_49_23, fl_3_21, gg_3_5, at_49_26, at_49_27, at_49_28, Go_ishl, q_shl, jt_49_29, at_49_32, at_49_33, at_49_34, at_49_37, at_49_38, at_49_39, at_49_40, at_49_41, at_49_42, fl_3_24, gg_3_6, at_49_45, at_49_46, at_49_47, at_49_48, Go_ior, q_or, at_49_49, Nat.reduceAdd, Nat.reduceMul, Nat.reduceLeDiff, Nat.reduceSub, decide_true, decide_false, Bool.toNat_true, Bool.toNat_false, not_true_eq_false, not_false_eq_true, ite_not, true_and, and_true, if_true, if_false, ↓reduceIte, Bool.or_true, Bool.true_or, Bool.or_false, pr_0 hp, pf_4 hp, pr_3 hp, pn_3 hp, e4, pf_5 hp, pr_4 hp, pn_4 hp, e5, pf_6 hp, pr_5 hp, pn_5 hp, e6, c1, c2, e5b]
    · have e6b := e6 b hn (by omega)
      have b5 := b3 (by omega)
      simp (disch := first | omega | assumption | exact own_49 | exact rt_49 | exact q_lt1 (hb _ _) | exact bt_lt _ | fail) only [own_49, rt_49, ab_kl_n, ab_kl_i, ab_kl_r, ab_kl_l, at_49_0, Go_aload_0, at_49_1, Go_getf, fl_3_18, gg_3_4, sh_ref, sh_rf, at_49_4, Go_iload_1, at_49_5, Go_iaload, sh_ln, q_in, q_cl, at_49_6, Go_iconst, kc_2, jt_49_7, q_le, q_lt, q_eq, n_leT, n_leF, n_ltT, n_ltF, n_eqF, n_b0, at_49_10, kc_0, at_49_11, Go_reti, at_49_12, at_49_13, at_49_16, at_49_17, jt_49_18, at_49_21, kc_1, at_49_22, at_49_23, fl_3_21, gg_3_5, at_49_26, at_49_27, at_49_28, Go_ishl, q_shl, jt_49_29, at_49_32, at_49_33, at_49_34, at_49_37, at_49_38, at_49_39, at_49_40, at_49_41, at_49_42, fl_3_24, gg_3_6, at_49_45, at_49_46, at_49_47, at_49_48, Go_ior, q_or, at_49_49, Nat.reduceAdd, Nat.reduceMul, Nat.reduceLeDiff, Nat.reduceSub, decide_true, decide_false, Bool.toNat_true, Bool.toNat_false, not_true_eq_false, not_false_eq_true, ite_not, true_and, and_true, if_true, if_false, ↓reduceIte, Bool.or_true, Bool.true_or, Bool.or_false, pr_0 hp, pf_4 hp, pr_3 hp, pn_3 hp, e4, pf_5 hp, pr_4 hp, pn_4 hp, e5, pf_6 hp, pr_5 hp, pn_5 hp, e6, c1, c2, e5b, e6b]
theorem z_reach (hp : isP p) (hb : WB A) (hl : WL A) (h : PB p I A) {X : Nat} (hX : X < 64) (K : ∀ M, M < 64 → (∀ q, M.testBit q = reach A (fun x => X.testBit x) q) → Q (some (.int (nI M))) (SH, I, J)) : Ex 50 [.ref p, .int (nI X)] (SH, I, J) Q := by
  have hp2 := p_lt hp
  have hl6 := WB6_of hl
  have ss := fun b hn Q => z_succ (J := J) (Q := Q) (b := b) hp hb hl6 h hn
  have sl := fun b hn => scs_lt (A := A) hl6 (b := b) hn
  have e0 := h.1
  have r1 := hl.1
  rw [en_50]
  by_cases c0 : A 0 0 = 0
  · have K0 := K 0 (by omega) (fun q => by unfold reach; rw [if_pos (Or.inl c0), Nat.zero_testBit])
    simp (disch := first | omega | assumption | exact own_50 | exact rt_50 | exact pr_0 (by assumption) | exact q_lt1 (hb _ _) | exact bt_lt _ | fail) only [own_50, rt_50, ab_kl_n, ab_kl_i, ab_kl_r, ab_kl_l, at_50_0, Go_aload_0, at_50_1, Go_getf, fl_3_60, gg_3_0, sh_ref, sh_rf, jt_50_4, q_le, q_lt, q_eq, n_leT, n_leF, n_ltT, n_ltF, n_eqF, n_b0, at_50_7, Go_iload_1, at_50_8, Go_iconst, kc_0, at_50_9, cl_3_77, cat_n, cat_i, cat_r, cat_l, tl_i, tl_l, tl_n, sh_same, jt_50_12, at_50_15, at_50_16, Go_reti, at_50_17, kc_1, at_50_18, Go_istore_2, ab_put_int_2, at_50_19, at_50_20, Go_istore_3, ab_put_int_3, Go_iload_3, at_50_22, at_50_23, jt_50_26, at_50_29, at_50_30, Go_istore_4, ab_put_int_4, Go_iload_4, at_50_34, at_50_35, jt_50_38, at_50_41, Go_iload_2, at_50_42, at_50_44, jt_50_47, at_50_50, at_50_51, at_50_52, at_50_54, cl_3_81, at_50_57, at_50_58, kc_m1, at_50_59, Go_ixor, q_bd, at_50_60, Go_iand, at_50_61, Go_ior, q_or, at_50_62, at_50_63, Go_iinc_4, q_add, jt_50_66, at_50_69, Go_iinc_3, jt_50_72, at_50_75, at_50_76, Nat.reduceAdd, Nat.reduceMul, Nat.reduceLeDiff, Nat.reduceSub, decide_true, decide_false, Bool.toNat_true, Bool.toNat_false, not_true_eq_false, not_false_eq_true, ite_not, true_and, and_true, if_true, if_false, ↓reduceIte, Bool.or_true, Bool.true_or, Bool.or_false, e0, c0, pr_0 hp]
    exact K0
  · cases c1 : X.testBit 0 with
    | true =>
      have K0 := K 0 (by omega) (fun q => by unfold reach; rw [if_pos (Or.inr c1), Nat.zero_testBit])
      simp (disch := first | omega | assumption | exact own_50 | exact rt_50 | exact pr_0 (by assumption) | exact q_lt1 (hb _ _) | exact bt_lt _ | fail) only [own_50, rt_50, ab_kl_n, ab_kl_i, ab_kl_r, ab_kl_l, at_50_0, Go_aload_0, at_50_1, Go_getf, fl_3_60, gg_3_0, sh_ref, sh_rf, jt_50_4, q_le, q_lt, q_eq, n_leT, n_leF, n_ltT, n_ltF, n_eqF, n_b0, at_50_7, Go_iload_1, at_50_8, Go_iconst, kc_0, at_50_9, cl_3_77, cat_n, cat_i, cat_r, cat_l, tl_i, tl_l, tl_n, sh_same, jt_50_12, at_50_15, at_50_16, Go_reti, at_50_17, kc_1, at_50_18, Go_istore_2, ab_put_int_2, at_50_19, at_50_20, Go_istore_3, ab_put_int_3, Go_iload_3, at_50_22, at_50_23, jt_50_26, at_50_29, at_50_30, Go_istore_4, ab_put_int_4, Go_iload_4, at_50_34, at_50_35, jt_50_38, at_50_41, Go_iload_2, at_50_42, at_50_44, jt_50_47, at_50_50, at_50_51, at_50_52, at_50_54, cl_3_81, at_50_57, at_50_58, kc_m1, at_50_59, Go_ixor, q_bd, at_50_60, Go_iand, at_50_61, Go_ior, q_or, at_50_62, at_50_63, Go_iinc_4, q_add, jt_50_66, at_50_69, Go_iinc_3, jt_50_72, at_50_75, at_50_76, Nat.reduceAdd, Nat.reduceMul, Nat.reduceLeDiff, Nat.reduceSub, decide_true, decide_false, Bool.toNat_true, Bool.toNat_false, not_true_eq_false, not_false_eq_true, ite_not, true_and, and_true, if_true, if_false, ↓reduceIte, Bool.or_true, Bool.true_or, Bool.or_false, e0, c0, x_hasBit, c1, pr_0 hp]
      exact K0
    | false =>
      have hr : ∀ q, reach A (fun x => X.testBit x) q = itf (mR A (fun x => X.testBit x) (A 0 0)) (A 0 0) S0 q := fun q => by
        unfold reach
        rw [if_neg (fun z => z.elim c0 (fun y => by have y2 : X.testBit 0 = true := y; rw [c1] at y2; cases y2))]
      simp only [hr] at K
      have m64 : ∀ M : Nat, (∀ q, M.testBit q = true → q < A 0 0) → M < 64 := fun M hM => Nat.lt_pow_two_of_testBit (n := 6) M (fun i hi => by
        cases hq : M.testBit i with
        | false => rfl
        | true => have := hM i hq; omega)
      have inR : ∀ k q, itf (mR A (fun x => X.testBit x) (A 0 0)) k S0 q = true → q < A 0 0 := by
        intro k
        induction k with
        | zero =>
          intro q hq
          have : q = 0 := by simpa [itf, S0] using hq
          omega
        | succ k ih =>
          intro q hq
          rcases mR_in hl _ q _ (Nat.le_refl _) hq with z | z
          · exact ih q z
          · exact z
      simp (disch := first | omega | assumption | exact own_50 | exact rt_50 | exact pr_0 (by assumption) | exact q_lt1 (hb _ _) | exact bt_lt _ | fail) only [own_50, rt_50, ab_kl_n, ab_kl_i, ab_kl_r, ab_kl_l, at_50_0, Go_aload_0, at_50_1, Go_getf, fl_3_60, gg_3_0, sh_ref, sh_rf, jt_50_4, q_le, q_lt, q_eq, n_leT, n_leF, n_ltT, n_ltF, n_eqF, n_b0, at_50_7, Go_iload_1, at_50_8, Go_iconst, kc_0, at_50_9, cl_3_77, cat_n, cat_i, cat_r, cat_l, tl_i, tl_l, tl_n, sh_same, jt_50_12, at_50_15, at_50_16, Go_reti, at_50_17, kc_1, at_50_18, Go_istore_2, ab_put_int_2, at_50_19, at_50_20, Go_istore_3, ab_put_int_3, Go_iload_3, at_50_22, at_50_23, jt_50_26, at_50_29, at_50_30, Go_istore_4, ab_put_int_4, Go_iload_4, at_50_34, at_50_35, jt_50_38, at_50_41, Go_iload_2, at_50_42, at_50_44, jt_50_47, at_50_50, at_50_51, at_50_52, at_50_54, cl_3_81, at_50_57, at_50_58, kc_m1, at_50_59, Go_ixor, q_bd, at_50_60, Go_iand, at_50_61, Go_ior, q_or, at_50_62, at_50_63, Go_iinc_4, q_add, jt_50_66, at_50_69, Go_iinc_3, jt_50_72, at_50_75, at_50_76, Nat.reduceAdd, Nat.reduceMul, Nat.reduceLeDiff, Nat.reduceSub, decide_true, decide_false, Bool.toNat_true, Bool.toNat_false, not_true_eq_false, not_false_eq_true, ite_not, true_and, and_true, if_true, if_false, ↓reduceIte, Bool.or_true, Bool.true_or, Bool.or_false, e0, c0, x_hasBit, c1, pr_0 hp]
      refine lp_wp (a := 0) (N := A 0 0) (Nat.zero_le _) (fun k => ∀ (M : Nat) (v : Option Value), (∀ q, M.testBit q = itf (mR A (fun x => X.testBit x) (A 0 0)) k S0 q) → Go (ab_at 50 21) 50 21 [some (.ref p), some (.int (nI (X))), some (.int (nI (M))), some (.int (nI (k))), v] []  (SH, I, J) Q) (fun M v hM => ?_) (fun k _ hk ih M v hM => ?_) 1 none (fun q => ?_)
      · rw [at_50_21]
        simp (disch := first | omega | assumption | exact own_50 | exact rt_50 | exact pr_0 (by assumption) | exact q_lt1 (hb _ _) | exact bt_lt _ | fail) only [own_50, rt_50, ab_kl_n, ab_kl_i, ab_kl_r, ab_kl_l, at_50_0, Go_aload_0, at_50_1, Go_getf, fl_3_60, gg_3_0, sh_ref, sh_rf, jt_50_4, q_le, q_lt, q_eq, n_leT, n_leF, n_ltT, n_ltF, n_eqF, n_b0, at_50_7, Go_iload_1, at_50_8, Go_iconst, kc_0, at_50_9, cl_3_77, cat_n, cat_i, cat_r, cat_l, tl_i, tl_l, tl_n, sh_same, jt_50_12, at_50_15, at_50_16, Go_reti, at_50_17, kc_1, at_50_18, Go_istore_2, ab_put_int_2, at_50_19, at_50_20, Go_istore_3, ab_put_int_3, Go_iload_3, at_50_22, at_50_23, jt_50_26, at_50_29, at_50_30, Go_istore_4, ab_put_int_4, Go_iload_4, at_50_34, at_50_35, jt_50_38, at_50_41, Go_iload_2, at_50_42, at_50_44, jt_50_47, at_50_50, at_50_51, at_50_52, at_50_54, cl_3_81, at_50_57, at_50_58, kc_m1, at_50_59, Go_ixor, q_bd, at_50_60, Go_iand, at_50_61, Go_ior, q_or, at_50_62, at_50_63, Go_iinc_4, q_add, jt_50_66, at_50_69, Go_iinc_3, jt_50_72, at_50_75, at_50_76, Nat.reduceAdd, Nat.reduceMul, Nat.reduceLeDiff, Nat.reduceSub, decide_true, decide_false, Bool.toNat_true, Bool.toNat_false, not_true_eq_false, not_false_eq_true, ite_not, true_and, and_true, if_true, if_false, ↓reduceIte, Bool.or_true, Bool.true_or, Bool.or_false, e0, pr_0 hp]
        exact K M (m64 M (fun q hq => inR _ q (by rw [← hM q]; exact hq))) hM
      · rw [at_50_21]
        simp (disch := first | omega | assumption | exact own_50 | exact rt_50 | exact pr_0 (by assumption) | exact q_lt1 (hb _ _) | exact bt_lt _ | fail) only [own_50, rt_50, ab_kl_n, ab_kl_i, ab_kl_r, ab_kl_l, at_50_0, Go_aload_0, at_50_1, Go_getf, fl_3_60, gg_3_0, sh_ref, sh_rf, jt_50_4, q_le, q_lt, q_eq, n_leT, n_leF, n_ltT, n_ltF, n_eqF, n_b0, at_50_7, Go_iload_1, at_50_8, Go_iconst, kc_0, at_50_9, cl_3_77, cat_n, cat_i, cat_r, cat_l, tl_i, tl_l, tl_n, sh_same, jt_50_12, at_50_15, at_50_16, Go_reti, at_50_17, kc_1, at_50_18, Go_istore_2, ab_put_int_2, at_50_19, at_50_20, Go_istore_3, ab_put_int_3, Go_iload_3, at_50_22, at_50_23, jt_50_26, at_50_29, at_50_30, Go_istore_4, ab_put_int_4, Go_iload_4, at_50_34, at_50_35, jt_50_38, at_50_41, Go_iload_2, at_50_42, at_50_44, jt_50_47, at_50_50, at_50_51, at_50_52, at_50_54, cl_3_81, at_50_57, at_50_58, kc_m1, at_50_59, Go_ixor, q_bd, at_50_60, Go_iand, at_50_61, Go_ior, q_or, at_50_62, at_50_63, Go_iinc_4, q_add, jt_50_66, at_50_69, Go_iinc_3, jt_50_72, at_50_75, at_50_76, Nat.reduceAdd, Nat.reduceMul, Nat.reduceLeDiff, Nat.reduceSub, decide_true, decide_false, Bool.toNat_true, Bool.toNat_false, not_true_eq_false, not_false_eq_true, ite_not, true_and, and_true, if_true, if_false, ↓reduceIte, Bool.or_true, Bool.true_or, Bool.or_false, e0, pr_0 hp]
        refine lp_wp (a := 0) (N := A 0 0) (Nat.zero_le _) (fun b => ∀ (M : Nat), (∀ q, M.testBit q = mR A (fun x => X.testBit x) b (itf (mR A (fun x => X.testBit x) (A 0 0)) k S0) q) → Go (ab_at 50 32) 50 32 [some (.ref p), some (.int (nI (X))), some (.int (nI (M))), some (.int (nI (k))), some (.int (nI (b)))] []  (SH, I, J) Q) (fun M hM => ?_) (fun b _ hb' ih2 M hM => ?_) M hM
        · rw [at_50_32]
          simp (disch := first | omega | assumption | exact own_50 | exact rt_50 | exact pr_0 (by assumption) | exact q_lt1 (hb _ _) | exact bt_lt _ | fail) only [own_50, rt_50, ab_kl_n, ab_kl_i, ab_kl_r, ab_kl_l, at_50_0, Go_aload_0, at_50_1, Go_getf, fl_3_60, gg_3_0, sh_ref, sh_rf, jt_50_4, q_le, q_lt, q_eq, n_leT, n_leF, n_ltT, n_ltF, n_eqF, n_b0, at_50_7, Go_iload_1, at_50_8, Go_iconst, kc_0, at_50_9, cl_3_77, cat_n, cat_i, cat_r, cat_l, tl_i, tl_l, tl_n, sh_same, jt_50_12, at_50_15, at_50_16, Go_reti, at_50_17, kc_1, at_50_18, Go_istore_2, ab_put_int_2, at_50_19, at_50_20, Go_istore_3, ab_put_int_3, Go_iload_3, at_50_22, at_50_23, jt_50_26, at_50_29, at_50_30, Go_istore_4, ab_put_int_4, Go_iload_4, at_50_34, at_50_35, jt_50_38, at_50_41, Go_iload_2, at_50_42, at_50_44, jt_50_47, at_50_50, at_50_51, at_50_52, at_50_54, cl_3_81, at_50_57, at_50_58, kc_m1, at_50_59, Go_ixor, q_bd, at_50_60, Go_iand, at_50_61, Go_ior, q_or, at_50_62, at_50_63, Go_iinc_4, q_add, jt_50_66, at_50_69, Go_iinc_3, jt_50_72, at_50_75, at_50_76, Nat.reduceAdd, Nat.reduceMul, Nat.reduceLeDiff, Nat.reduceSub, decide_true, decide_false, Bool.toNat_true, Bool.toNat_false, not_true_eq_false, not_false_eq_true, ite_not, true_and, and_true, if_true, if_false, ↓reduceIte, Bool.or_true, Bool.true_or, Bool.or_false, e0, pr_0 hp]
          exact ih M _ hM
        · have hlt : M < 64 := m64 M (fun q hq => by
            rw [hM q] at hq
            rcases mR_in hl _ q b (by omega) hq with z | z
            · exact inR k q z
            · exact z)
          have s0 := hM b
          rw [at_50_32]
          cases c : mR A (fun x => X.testBit x) b (itf (mR A (fun x => X.testBit x) (A 0 0)) k S0) b with
          | true =>
            rw [c] at s0
            have ih3 := ih2 (M ||| (scs A b &&& (scs A b ^^^ X))) (fun q => by
              rw [Nat.testBit_or, Nat.testBit_and, Nat.testBit_xor, hM q]
              show _ = (mR A (fun x => X.testBit x) b (itf (mR A (fun x => X.testBit x) (A 0 0)) k S0) q || (mR A (fun x => X.testBit x) b (itf (mR A (fun x => X.testBit x) (A 0 0)) k S0) b && (edb A b q && !X.testBit q)))
              rw [c, Bool.true_and]
              unfold edb
              cases (scs A b).testBit q <;> cases X.testBit q <;> rfl)
            simp (disch := first | omega | assumption | exact own_50 | exact rt_50 | exact pr_0 (by assumption) | exact q_lt1 (hb _ _) | exact bt_lt _ | fail) only [own_50, rt_50, ab_kl_n, ab_kl_i, ab_kl_r, ab_kl_l, at_50_0, Go_aload_0, at_50_1, Go_getf, fl_3_60, gg_3_0, sh_ref, sh_rf, jt_50_4, q_le, q_lt, q_eq, n_leT, n_leF, n_ltT, n_ltF, n_eqF, n_b0, at_50_7, Go_iload_1, at_50_8, Go_iconst, kc_0, at_50_9, cl_3_77, cat_n, cat_i, cat_r, cat_l, tl_i, tl_l, tl_n, sh_same, jt_50_12, at_50_15, at_50_16, Go_reti, at_50_17, kc_1, at_50_18, Go_istore_2, ab_put_int_2, at_50_19, at_50_20, Go_istore_3, ab_put_int_3, Go_iload_3, at_50_22, at_50_23, jt_50_26, at_50_29, at_50_30, Go_istore_4, ab_put_int_4, Go_iload_4, at_50_34, at_50_35, jt_50_38, at_50_41, Go_iload_2, at_50_42, at_50_44, jt_50_47, at_50_50, at_50_51, at_50_52, at_50_54, cl_3_81, at_50_57, at_50_58, kc_m1, at_50_59, Go_ixor, q_bd, at_50_60, Go_iand, at_50_61, Go_ior, q_or, at_50_62, at_50_63, Go_iinc_4, q_add, jt_50_66, at_50_69, Go_iinc_3, jt_50_72, at_50_75, at_50_76, Nat.reduceAdd, Nat.reduceMul, Nat.reduceLeDiff, Nat.reduceSub, decide_true, decide_false, Bool.toNat_true, Bool.toNat_false, not_true_eq_false, not_false_eq_true, ite_not, true_and, and_true, if_true, if_false, ↓reduceIte, Bool.or_true, Bool.true_or, Bool.or_false, e0, x_hasBit, s0, ss, pr_0 hp]
            exact ih3
          | false =>
            rw [c] at s0
            have ih3 := ih2 M (fun q => by
              rw [hM q]
              show _ = (mR A (fun x => X.testBit x) b (itf (mR A (fun x => X.testBit x) (A 0 0)) k S0) q || (mR A (fun x => X.testBit x) b (itf (mR A (fun x => X.testBit x) (A 0 0)) k S0) b && (edb A b q && !X.testBit q)))
              rw [c, Bool.false_and, Bool.or_false])
            simp (disch := first | omega | assumption | exact own_50 | exact rt_50 | exact pr_0 (by assumption) | exact q_lt1 (hb _ _) | exact bt_lt _ | fail) only [own_50, rt_50, ab_kl_n, ab_kl_i, ab_kl_r, ab_kl_l, at_50_0, Go_aload_0, at_50_1, Go_getf, fl_3_60, gg_3_0, sh_ref, sh_rf, jt_50_4, q_le, q_lt, q_eq, n_leT, n_leF, n_ltT, n_ltF, n_eqF, n_b0, at_50_7, Go_iload_1, at_50_8, Go_iconst, kc_0, at_50_9, cl_3_77, cat_n, cat_i, cat_r, cat_l, tl_i, tl_l, tl_n, sh_same, jt_50_12, at_50_15, at_50_16, Go_reti, at_50_17, kc_1, at_50_18, Go_istore_2, ab_put_int_2, at_50_19, at_50_20, Go_istore_3, ab_put_int_3, Go_iload_3, at_50_22, at_50_23, jt_50_26, at_50_29, at_50_30, Go_istore_4, ab_put_int_4, Go_iload_4, at_50_34, at_50_35, jt_50_38, at_50_41, Go_iload_2, at_50_42, at_50_44, jt_50_47, at_50_50, at_50_51, at_50_52, at_50_54, cl_3_81, at_50_57, at_50_58, kc_m1, at_50_59, Go_ixor, q_bd, at_50_60, Go_iand, at_50_61, Go_ior, q_or, at_50_62, at_50_63, Go_iinc_4, q_add, jt_50_66, at_50_69, Go_iinc_3, jt_50_72, at_50_75, at_50_76, Nat.reduceAdd, Nat.reduceMul, Nat.reduceLeDiff, Nat.reduceSub, decide_true, decide_false, Bool.toNat_true, Bool.toNat_false, not_true_eq_false, not_false_eq_true, ite_not, true_and, and_true, if_true, if_false, ↓reduceIte, Bool.or_true, Bool.true_or, Bool.or_false, e0, x_hasBit, s0, pr_0 hp]
            exact ih3
      · show (1 : Nat).testBit q = decide (q = 0)
        by_cases z : q = 0
        · subst z; rfl
        · rw [tb1 z, decide_eq_false z]
theorem z_findDominators (hp : isP p) (hb : WB A) (hl : WL A) (h : PB p I A) (K : ∀ I', (∀ o k, o ≠ p + 15 → I' o k = I o k) → (∀ b, b < A 0 0 → ∃ M, M < 64 ∧ I' (p + 15) b = nI M ∧ domBits A b M) → Q none (SH, I', J)) : Ex 51 [.ref p] (SH, I, J) Q := by
  have hp2 := p_lt hp
  have r1 := hl.1
  have PCf : ∀ I', (∀ o k, o ≠ p + 15 → I' o k = I o k) → PB p I' A := fun I' hf => PB_of (fun o k z => hf o k (by omega)) h
  rw [en_51]
  simp (disch := first | omega | assumption | exact own_51 | exact rt_51 | exact pr_0 (by assumption) | exact q_lt1 (hb _ _) | exact bt_lt _ | fail) only [own_51, rt_51, ab_kl_n, ab_kl_i, ab_kl_r, ab_kl_l, at_51_0, Go_iconst, kc_0, at_51_1, Go_istore_1, ab_put_int_1, Go_iload_1, at_51_3, Go_aload_0, at_51_4, Go_getf, fl_3_60, gg_3_0, sh_ref, sh_rf, jt_51_7, q_le, q_lt, q_eq, n_leT, n_leF, n_ltT, n_ltF, n_eqF, n_b0, at_51_10, at_51_11, fl_3_38, gg_3_10, at_51_14, at_51_15, at_51_16, Go_iastore, sh_ln, q_in, q_cl, sh_seti, at_51_17, Go_iinc_1, kc_1, q_add, jt_51_20, at_51_23, at_51_24, at_51_26, at_51_27, jt_51_30, at_51_33, at_51_34, at_51_35, at_51_36, Go_ishl, q_shl, at_51_37, cl_3_85, cat_n, cat_i, cat_r, cat_l, tl_i, tl_l, tl_n, sh_same, at_51_40, Go_istore_2, ab_put_int_2, at_51_41, at_51_42, Go_istore_3, ab_put_int_3, Go_iload_3, at_51_44, at_51_45, jt_51_48, at_51_51, Go_iload_2, at_51_52, at_51_53, cl_3_77, jt_51_56, at_51_59, at_51_60, at_51_63, at_51_64, Go_dup2, at_51_65, Go_iaload, at_51_66, at_51_67, at_51_68, at_51_69, Go_ior, q_or, at_51_70, at_51_71, Go_iinc_3, jt_51_74, at_51_77, jt_51_80, at_51_83, Go_return, Nat.reduceAdd, Nat.reduceMul, Nat.reduceLeDiff, Nat.reduceSub, decide_true, decide_false, Bool.toNat_true, Bool.toNat_false, not_true_eq_false, not_false_eq_true, ite_not, true_and, and_true, if_true, if_false, ↓reduceIte, Bool.or_true, Bool.true_or, Bool.or_false]
  refine lp_wp (a := 0) (N := A 0 0) (Nat.zero_le _) (fun b => ∀ I', (∀ o k, o ≠ p + 15 → I' o k = I o k) → (∀ c, c < b → I' (p + 15) c = nI 0) → Go (ab_at 51 2) 51 2 [some (.ref p), some (.int (nI (b))), none, none] []  (SH, I', J) Q) (fun I' hf hz => ?_) (fun b _ hb' ih I' hf hz => ?_) I (fun _ _ _ => rfl) (fun c hc => absurd hc (Nat.not_lt_zero c))
  · have e0 := (PCf I' hf).1
    rw [at_51_2]
    simp (disch := first | omega | assumption | exact own_51 | exact rt_51 | exact pr_0 (by assumption) | exact q_lt1 (hb _ _) | exact bt_lt _ | fail) only [own_51, rt_51, ab_kl_n, ab_kl_i, ab_kl_r, ab_kl_l, at_51_0, Go_iconst, kc_0, at_51_1, Go_istore_1, ab_put_int_1, Go_iload_1, at_51_3, Go_aload_0, at_51_4, Go_getf, fl_3_60, gg_3_0, sh_ref, sh_rf, jt_51_7, q_le, q_lt, q_eq, n_leT, n_leF, n_ltT, n_ltF, n_eqF, n_b0, at_51_10, at_51_11, fl_3_38, gg_3_10, at_51_14, at_51_15, at_51_16, Go_iastore, sh_ln, q_in, q_cl, sh_seti, at_51_17, Go_iinc_1, kc_1, q_add, jt_51_20, at_51_23, at_51_24, at_51_26, at_51_27, jt_51_30, at_51_33, at_51_34, at_51_35, at_51_36, Go_ishl, q_shl, at_51_37, cl_3_85, cat_n, cat_i, cat_r, cat_l, tl_i, tl_l, tl_n, sh_same, at_51_40, Go_istore_2, ab_put_int_2, at_51_41, at_51_42, Go_istore_3, ab_put_int_3, Go_iload_3, at_51_44, at_51_45, jt_51_48, at_51_51, Go_iload_2, at_51_52, at_51_53, cl_3_77, jt_51_56, at_51_59, at_51_60, at_51_63, at_51_64, Go_dup2, at_51_65, Go_iaload, at_51_66, at_51_67, at_51_68, at_51_69, Go_ior, q_or, at_51_70, at_51_71, Go_iinc_3, jt_51_74, at_51_77, jt_51_80, at_51_83, Go_return, Nat.reduceAdd, Nat.reduceMul, Nat.reduceLeDiff, Nat.reduceSub, decide_true, decide_false, Bool.toNat_true, Bool.toNat_false, not_true_eq_false, not_false_eq_true, ite_not, true_and, and_true, if_true, if_false, ↓reduceIte, Bool.or_true, Bool.true_or, Bool.or_false, e0, pr_0 hp]
    refine lp_wp (a := 0) (N := A 0 0) (Nat.zero_le _) (fun d => ∀ (I' : Nat → Nat → Int32) (v2 v3 : Option Value), (∀ o k, o ≠ p + 15 → I' o k = I o k) → (∀ b, b < A 0 0 → ∃ M, M < 64 ∧ I' (p + 15) b = nI M ∧ ∀ x, M.testBit x = true ↔ x < d ∧ ¬ RE A (fun y => y = x) b) → Go (ab_at 51 25) 51 25 [some (.ref p), some (.int (nI (d))), v2, v3] []  (SH, I', J) Q) (fun I' v2 v3 hf hM => ?_) (fun d _ hd ih I' v2 v3 hf hM => ?_) I' none none hf (fun b hb' => ⟨0, by omega, hz b hb', fun x => by rw [Nat.zero_testBit]; exact ⟨fun z => (by cases z), fun z => absurd z.1 (Nat.not_lt_zero x)⟩⟩)
    · have e0 := (PCf I' hf).1
      rw [at_51_25]
      simp (disch := first | omega | assumption | exact own_51 | exact rt_51 | exact pr_0 (by assumption) | exact q_lt1 (hb _ _) | exact bt_lt _ | fail) only [own_51, rt_51, ab_kl_n, ab_kl_i, ab_kl_r, ab_kl_l, at_51_0, Go_iconst, kc_0, at_51_1, Go_istore_1, ab_put_int_1, Go_iload_1, at_51_3, Go_aload_0, at_51_4, Go_getf, fl_3_60, gg_3_0, sh_ref, sh_rf, jt_51_7, q_le, q_lt, q_eq, n_leT, n_leF, n_ltT, n_ltF, n_eqF, n_b0, at_51_10, at_51_11, fl_3_38, gg_3_10, at_51_14, at_51_15, at_51_16, Go_iastore, sh_ln, q_in, q_cl, sh_seti, at_51_17, Go_iinc_1, kc_1, q_add, jt_51_20, at_51_23, at_51_24, at_51_26, at_51_27, jt_51_30, at_51_33, at_51_34, at_51_35, at_51_36, Go_ishl, q_shl, at_51_37, cl_3_85, cat_n, cat_i, cat_r, cat_l, tl_i, tl_l, tl_n, sh_same, at_51_40, Go_istore_2, ab_put_int_2, at_51_41, at_51_42, Go_istore_3, ab_put_int_3, Go_iload_3, at_51_44, at_51_45, jt_51_48, at_51_51, Go_iload_2, at_51_52, at_51_53, cl_3_77, jt_51_56, at_51_59, at_51_60, at_51_63, at_51_64, Go_dup2, at_51_65, Go_iaload, at_51_66, at_51_67, at_51_68, at_51_69, Go_ior, q_or, at_51_70, at_51_71, Go_iinc_3, jt_51_74, at_51_77, jt_51_80, at_51_83, Go_return, Nat.reduceAdd, Nat.reduceMul, Nat.reduceLeDiff, Nat.reduceSub, decide_true, decide_false, Bool.toNat_true, Bool.toNat_false, not_true_eq_false, not_false_eq_true, ite_not, true_and, and_true, if_true, if_false, ↓reduceIte, Bool.or_true, Bool.true_or, Bool.or_false, e0, pr_0 hp]
      exact K I' hf hM
    · have h' := PCf I' hf
      have e0 := h'.1
      have dl : 1 <<< d < 64 := (by decide : ∀ g, g < 6 → 1 <<< g < 64) d (by omega)
      rw [at_51_25]
      simp (disch := first | omega | assumption | exact own_51 | exact rt_51 | exact pr_0 (by assumption) | exact q_lt1 (hb _ _) | exact bt_lt _ | fail) only [own_51, rt_51, ab_kl_n, ab_kl_i, ab_kl_r, ab_kl_l, at_51_0, Go_iconst, kc_0, at_51_1, Go_istore_1, ab_put_int_1, Go_iload_1, at_51_3, Go_aload_0, at_51_4, Go_getf, fl_3_60, gg_3_0, sh_ref, sh_rf, jt_51_7, q_le, q_lt, q_eq, n_leT, n_leF, n_ltT, n_ltF, n_eqF, n_b0, at_51_10, at_51_11, fl_3_38, gg_3_10, at_51_14, at_51_15, at_51_16, Go_iastore, sh_ln, q_in, q_cl, sh_seti, at_51_17, Go_iinc_1, kc_1, q_add, jt_51_20, at_51_23, at_51_24, at_51_26, at_51_27, jt_51_30, at_51_33, at_51_34, at_51_35, at_51_36, Go_ishl, q_shl, at_51_37, cl_3_85, cat_n, cat_i, cat_r, cat_l, tl_i, tl_l, tl_n, sh_same, at_51_40, Go_istore_2, ab_put_int_2, at_51_41, at_51_42, Go_istore_3, ab_put_int_3, Go_iload_3, at_51_44, at_51_45, jt_51_48, at_51_51, Go_iload_2, at_51_52, at_51_53, cl_3_77, jt_51_56, at_51_59, at_51_60, at_51_63, at_51_64, Go_dup2, at_51_65, Go_iaload, at_51_66, at_51_67, at_51_68, at_51_69, Go_ior, q_or, at_51_70, at_51_71, Go_iinc_3, jt_51_74, at_51_77, jt_51_80, at_51_83, Go_return, Nat.reduceAdd, Nat.reduceMul, Nat.reduceLeDiff, Nat.reduceSub, decide_true, decide_false, Bool.toNat_true, Bool.toNat_false, not_true_eq_false, not_false_eq_true, ite_not, true_and, and_true, if_true, if_false, ↓reduceIte, Bool.or_true, Bool.true_or, Bool.or_false, e0, pr_0 hp]
      refine z_reach hp hb hl h' dl (fun Z hZ hZq => ?_)
      simp (disch := first | omega | assumption | exact own_51 | exact rt_51 | exact pr_0 (by assumption) | exact q_lt1 (hb _ _) | exact bt_lt _ | fail) only [own_51, rt_51, ab_kl_n, ab_kl_i, ab_kl_r, ab_kl_l, at_51_0, Go_iconst, kc_0, at_51_1, Go_istore_1, ab_put_int_1, Go_iload_1, at_51_3, Go_aload_0, at_51_4, Go_getf, fl_3_60, gg_3_0, sh_ref, sh_rf, jt_51_7, q_le, q_lt, q_eq, n_leT, n_leF, n_ltT, n_ltF, n_eqF, n_b0, at_51_10, at_51_11, fl_3_38, gg_3_10, at_51_14, at_51_15, at_51_16, Go_iastore, sh_ln, q_in, q_cl, sh_seti, at_51_17, Go_iinc_1, kc_1, q_add, jt_51_20, at_51_23, at_51_24, at_51_26, at_51_27, jt_51_30, at_51_33, at_51_34, at_51_35, at_51_36, Go_ishl, q_shl, at_51_37, cl_3_85, cat_n, cat_i, cat_r, cat_l, tl_i, tl_l, tl_n, sh_same, at_51_40, Go_istore_2, ab_put_int_2, at_51_41, at_51_42, Go_istore_3, ab_put_int_3, Go_iload_3, at_51_44, at_51_45, jt_51_48, at_51_51, Go_iload_2, at_51_52, at_51_53, cl_3_77, jt_51_56, at_51_59, at_51_60, at_51_63, at_51_64, Go_dup2, at_51_65, Go_iaload, at_51_66, at_51_67, at_51_68, at_51_69, Go_ior, q_or, at_51_70, at_51_71, Go_iinc_3, jt_51_74, at_51_77, jt_51_80, at_51_83, Go_return, Nat.reduceAdd, Nat.reduceMul, Nat.reduceLeDiff, Nat.reduceSub, decide_true, decide_false, Bool.toNat_true, Bool.toNat_false, not_true_eq_false, not_false_eq_true, ite_not, true_and, and_true, if_true, if_false, ↓reduceIte, Bool.or_true, Bool.true_or, Bool.or_false]
      refine lp_wp (a := 0) (N := A 0 0) (Nat.zero_le _) (fun b => ∀ (I' : Nat → Nat → Int32), (∀ o k, o ≠ p + 15 → I' o k = I o k) → (∀ c, c < A 0 0 → ∃ M, M < 64 ∧ I' (p + 15) c = nI M ∧ ∀ x, M.testBit x = true ↔ (x < d ∨ (x = d ∧ c < b)) ∧ ¬ RE A (fun y => y = x) c) → Go (ab_at 51 43) 51 43 [some (.ref p), some (.int (nI (d))), some (.int (nI (Z))), some (.int (nI (b)))] []  (SH, I', J) Q) (fun I' hf hM => ?_) (fun b _ hb' ih2 I' hf hM => ?_) I' hf (fun c hc => ?_)
      · have e0 := (PCf I' hf).1
        rw [at_51_43]
        simp (disch := first | omega | assumption | exact own_51 | exact rt_51 | exact pr_0 (by assumption) | exact q_lt1 (hb _ _) | exact bt_lt _ | fail) only [own_51, rt_51, ab_kl_n, ab_kl_i, ab_kl_r, ab_kl_l, at_51_0, Go_iconst, kc_0, at_51_1, Go_istore_1, ab_put_int_1, Go_iload_1, at_51_3, Go_aload_0, at_51_4, Go_getf, fl_3_60, gg_3_0, sh_ref, sh_rf, jt_51_7, q_le, q_lt, q_eq, n_leT, n_leF, n_ltT, n_ltF, n_eqF, n_b0, at_51_10, at_51_11, fl_3_38, gg_3_10, at_51_14, at_51_15, at_51_16, Go_iastore, sh_ln, q_in, q_cl, sh_seti, at_51_17, Go_iinc_1, kc_1, q_add, jt_51_20, at_51_23, at_51_24, at_51_26, at_51_27, jt_51_30, at_51_33, at_51_34, at_51_35, at_51_36, Go_ishl, q_shl, at_51_37, cl_3_85, cat_n, cat_i, cat_r, cat_l, tl_i, tl_l, tl_n, sh_same, at_51_40, Go_istore_2, ab_put_int_2, at_51_41, at_51_42, Go_istore_3, ab_put_int_3, Go_iload_3, at_51_44, at_51_45, jt_51_48, at_51_51, Go_iload_2, at_51_52, at_51_53, cl_3_77, jt_51_56, at_51_59, at_51_60, at_51_63, at_51_64, Go_dup2, at_51_65, Go_iaload, at_51_66, at_51_67, at_51_68, at_51_69, Go_ior, q_or, at_51_70, at_51_71, Go_iinc_3, jt_51_74, at_51_77, jt_51_80, at_51_83, Go_return, Nat.reduceAdd, Nat.reduceMul, Nat.reduceLeDiff, Nat.reduceSub, decide_true, decide_false, Bool.toNat_true, Bool.toNat_false, not_true_eq_false, not_false_eq_true, ite_not, true_and, and_true, if_true, if_false, ↓reduceIte, Bool.or_true, Bool.true_or, Bool.or_false, e0, pr_0 hp]
        refine ih I' _ _ hf (fun c hc => ?_)
        obtain ⟨M, h1, h2, h3⟩ := hM c hc
        exact ⟨M, h1, h2, fun x => (h3 x).trans ⟨fun z => ⟨by have := z.1; omega, z.2⟩, fun z => ⟨by have := z.1; omega, z.2⟩⟩⟩
      · have e0 := (PCf I' hf).1
        obtain ⟨M, h1, h2, h3⟩ := hM b hb'
        have zb := hZq b
        rw [at_51_43]
        cases c : Z.testBit b with
        | true =>
          rw [c] at zb
          have hre := (reach_iff hl hb').mp zb.symm
          simp (disch := first | omega | assumption | exact own_51 | exact rt_51 | exact pr_0 (by assumption) | exact q_lt1 (hb _ _) | exact bt_lt _ | fail) only [own_51, rt_51, ab_kl_n, ab_kl_i, ab_kl_r, ab_kl_l, at_51_0, Go_iconst, kc_0, at_51_1, Go_istore_1, ab_put_int_1, Go_iload_1, at_51_3, Go_aload_0, at_51_4, Go_getf, fl_3_60, gg_3_0, sh_ref, sh_rf, jt_51_7, q_le, q_lt, q_eq, n_leT, n_leF, n_ltT, n_ltF, n_eqF, n_b0, at_51_10, at_51_11, fl_3_38, gg_3_10, at_51_14, at_51_15, at_51_16, Go_iastore, sh_ln, q_in, q_cl, sh_seti, at_51_17, Go_iinc_1, kc_1, q_add, jt_51_20, at_51_23, at_51_24, at_51_26, at_51_27, jt_51_30, at_51_33, at_51_34, at_51_35, at_51_36, Go_ishl, q_shl, at_51_37, cl_3_85, cat_n, cat_i, cat_r, cat_l, tl_i, tl_l, tl_n, sh_same, at_51_40, Go_istore_2, ab_put_int_2, at_51_41, at_51_42, Go_istore_3, ab_put_int_3, Go_iload_3, at_51_44, at_51_45, jt_51_48, at_51_51, Go_iload_2, at_51_52, at_51_53, cl_3_77, jt_51_56, at_51_59, at_51_60, at_51_63, at_51_64, Go_dup2, at_51_65, Go_iaload, at_51_66, at_51_67, at_51_68, at_51_69, Go_ior, q_or, at_51_70, at_51_71, Go_iinc_3, jt_51_74, at_51_77, jt_51_80, at_51_83, Go_return, Nat.reduceAdd, Nat.reduceMul, Nat.reduceLeDiff, Nat.reduceSub, decide_true, decide_false, Bool.toNat_true, Bool.toNat_false, not_true_eq_false, not_false_eq_true, ite_not, true_and, and_true, if_true, if_false, ↓reduceIte, Bool.or_true, Bool.true_or, Bool.or_false, e0, x_hasBit, c, pr_0 hp, Bool.true_eq_false]
          refine ih2 I' hf (fun c' hc' => ?_)
          obtain ⟨M', k1, k2, k3⟩ := hM c' hc'
          refine ⟨M', k1, k2, fun x => (k3 x).trans ⟨fun z => ⟨by have := z.1; omega, z.2⟩, fun z => ⟨?_, z.2⟩⟩⟩
          rcases z.1 with y | ⟨y1, y2⟩
          · exact Or.inl y
          · by_cases w : c' = b
            · subst w; subst y1; exact absurd hre z.2
            · exact Or.inr ⟨y1, by omega⟩
        | false =>
          rw [c] at zb
          have hre : ¬ RE A (fun y => y = d) b := fun z => by
            have := (reach_iff hl hb').mpr z
            rw [← zb] at this
            cases this
          simp (disch := first | omega | assumption | exact own_51 | exact rt_51 | exact pr_0 (by assumption) | exact q_lt1 (hb _ _) | exact bt_lt _ | fail) only [own_51, rt_51, ab_kl_n, ab_kl_i, ab_kl_r, ab_kl_l, at_51_0, Go_iconst, kc_0, at_51_1, Go_istore_1, ab_put_int_1, Go_iload_1, at_51_3, Go_aload_0, at_51_4, Go_getf, fl_3_60, gg_3_0, sh_ref, sh_rf, jt_51_7, q_le, q_lt, q_eq, n_leT, n_leF, n_ltT, n_ltF, n_eqF, n_b0, at_51_10, at_51_11, fl_3_38, gg_3_10, at_51_14, at_51_15, at_51_16, Go_iastore, sh_ln, q_in, q_cl, sh_seti, at_51_17, Go_iinc_1, kc_1, q_add, jt_51_20, at_51_23, at_51_24, at_51_26, at_51_27, jt_51_30, at_51_33, at_51_34, at_51_35, at_51_36, Go_ishl, q_shl, at_51_37, cl_3_85, cat_n, cat_i, cat_r, cat_l, tl_i, tl_l, tl_n, sh_same, at_51_40, Go_istore_2, ab_put_int_2, at_51_41, at_51_42, Go_istore_3, ab_put_int_3, Go_iload_3, at_51_44, at_51_45, jt_51_48, at_51_51, Go_iload_2, at_51_52, at_51_53, cl_3_77, jt_51_56, at_51_59, at_51_60, at_51_63, at_51_64, Go_dup2, at_51_65, Go_iaload, at_51_66, at_51_67, at_51_68, at_51_69, Go_ior, q_or, at_51_70, at_51_71, Go_iinc_3, jt_51_74, at_51_77, jt_51_80, at_51_83, Go_return, Nat.reduceAdd, Nat.reduceMul, Nat.reduceLeDiff, Nat.reduceSub, decide_true, decide_false, Bool.toNat_true, Bool.toNat_false, not_true_eq_false, not_false_eq_true, ite_not, true_and, and_true, if_true, if_false, ↓reduceIte, Bool.or_true, Bool.true_or, Bool.or_false, e0, x_hasBit, c, h2, pf_10 hp, pr_15 hp, pn_15 hp, pr_0 hp]
          refine ih2 _ (fun o k ho => by rw [fr_seti ho]; exact hf o k ho) (fun c' hc' => ?_)
          by_cases w : c' = b
          · subst w
            refine ⟨M ||| 1 <<< d, Nat.or_lt_two_pow (n := 6) h1 dl, fr_sets, fun x => ?_⟩
            rw [Nat.testBit_or, Bool.or_eq_true, h3 x, tb_shl, decide_eq_true_eq]
            constructor
            · rintro (⟨z1, z2⟩ | rfl)
              · exact ⟨by omega, z2⟩
              · exact ⟨Or.inr ⟨rfl, by omega⟩, hre⟩
            · rintro ⟨z1, z2⟩
              by_cases y : d = x
              · exact Or.inr y
              · exact Or.inl ⟨by omega, z2⟩
          · obtain ⟨M', k1, k2, k3⟩ := hM c' hc'
            refine ⟨M', k1, by rw [fr_setk w]; exact k2, fun x => (k3 x).trans ⟨fun z => ⟨by have := z.1; omega, z.2⟩, fun z => ⟨by have := z.1; omega, z.2⟩⟩⟩
      · obtain ⟨M, h1, h2, h3⟩ := hM c hc
        exact ⟨M, h1, h2, fun x => (h3 x).trans ⟨fun z => ⟨Or.inl z.1, z.2⟩, fun z => ⟨by have := z.1; omega, z.2⟩⟩⟩
  · have e0 := (PCf I' hf).1
    rw [at_51_2]
    simp (disch := first | omega | assumption | exact own_51 | exact rt_51 | exact pr_0 (by assumption) | exact q_lt1 (hb _ _) | exact bt_lt _ | fail) only [own_51, rt_51, ab_kl_n, ab_kl_i, ab_kl_r, ab_kl_l, at_51_0, Go_iconst, kc_0, at_51_1, Go_istore_1, ab_put_int_1, Go_iload_1, at_51_3, Go_aload_0, at_51_4, Go_getf, fl_3_60, gg_3_0, sh_ref, sh_rf, jt_51_7, q_le, q_lt, q_eq, n_leT, n_leF, n_ltT, n_ltF, n_eqF, n_b0, at_51_10, at_51_11, fl_3_38, gg_3_10, at_51_14, at_51_15, at_51_16, Go_iastore, sh_ln, q_in, q_cl, sh_seti, at_51_17, Go_iinc_1, kc_1, q_add, jt_51_20, at_51_23, at_51_24, at_51_26, at_51_27, jt_51_30, at_51_33, at_51_34, at_51_35, at_51_36, Go_ishl, q_shl, at_51_37, cl_3_85, cat_n, cat_i, cat_r, cat_l, tl_i, tl_l, tl_n, sh_same, at_51_40, Go_istore_2, ab_put_int_2, at_51_41, at_51_42, Go_istore_3, ab_put_int_3, Go_iload_3, at_51_44, at_51_45, jt_51_48, at_51_51, Go_iload_2, at_51_52, at_51_53, cl_3_77, jt_51_56, at_51_59, at_51_60, at_51_63, at_51_64, Go_dup2, at_51_65, Go_iaload, at_51_66, at_51_67, at_51_68, at_51_69, Go_ior, q_or, at_51_70, at_51_71, Go_iinc_3, jt_51_74, at_51_77, jt_51_80, at_51_83, Go_return, Nat.reduceAdd, Nat.reduceMul, Nat.reduceLeDiff, Nat.reduceSub, decide_true, decide_false, Bool.toNat_true, Bool.toNat_false, not_true_eq_false, not_false_eq_true, ite_not, true_and, and_true, if_true, if_false, ↓reduceIte, Bool.or_true, Bool.true_or, Bool.or_false, e0, pf_10 hp, pr_15 hp, pn_15 hp, pr_0 hp]
    exact ih _ (fun o k ho => by rw [fr_seti ho]; exact hf o k ho) (fun c hc => by
      by_cases z : c = b
      · subst z; exact fr_sets
      · rw [fr_setk z]; exact hz c (by omega))
end CSZ
theorem PB_fpk {p : Nat} {I I' : Nat → Nat → Int32} {A : Nat → Nat → Nat} (hf : FPk p I I') (h : PB p I A) : PB p I' A := PB_of (fun o k z => hf o k (by omega) (fun c hc => by omega)) h
section CSY
variable {I : Nat → Nat → Int32} {J : Nat → Nat → Int64} {Q : Option Value → ab_H → Prop} {A : Nat → Nat → Nat} {p : Nat}
theorem z_findPreds (hp : isP p) (hb : WB A) (hl : WL A) (h : PB p I A) (K : ∀ I', FPk p I I' → (∀ b, b < A 0 0 → FP A p I' b (A 0 0)) → Q none (SH, I', J)) : Ex 52 [.ref p] (SH, I, J) Q := by
  have hp2 := p_lt hp
  have r1 := hl.1
  have hl6 := WB6_of hl
  have sl := fun b hn => scs_lt (A := A) hl6 (b := b) hn
  rw [en_52]
  simp (disch := first | omega | assumption | exact own_52 | exact rt_52 | exact pr_0 (by assumption) | exact q_lt1 (hb _ _) | exact bt_lt _ | fail) only [own_52, rt_52, ab_kl_n, ab_kl_i, ab_kl_r, ab_kl_l, at_52_0, Go_iconst, kc_0, at_52_1, Go_istore_1, ab_put_int_1, Go_iload_1, at_52_3, Go_aload_0, at_52_4, Go_getf, fl_3_60, gg_3_0, sh_ref, sh_rf, jt_52_7, q_le, q_lt, q_eq, n_leT, n_leF, n_ltT, n_ltF, n_eqF, n_b0, at_52_10, at_52_11, fl_3_30, gg_3_8, at_52_14, at_52_15, at_52_16, Go_iastore, sh_ln, q_in, q_cl, sh_seti, at_52_17, at_52_18, Go_istore_2, ab_put_int_2, Go_iload_2, at_52_20, at_52_21, jt_52_24, at_52_27, at_52_28, at_52_29, cl_3_81, cat_n, cat_i, cat_r, cat_l, tl_i, tl_l, tl_n, sh_same, at_52_32, at_52_33, cl_3_77, jt_52_36, at_52_39, at_52_40, fl_3_35, gg_3_9, at_52_43, at_52_44, Go_aaload, at_52_45, at_52_46, at_52_49, at_52_50, Go_iaload, at_52_51, at_52_52, at_52_53, at_52_54, at_52_57, at_52_58, Go_dup2, at_52_59, at_52_60, kc_1, at_52_61, Go_iadd, q_add, Nat.zero_add, at_52_62, at_52_63, Go_iinc_2, jt_52_66, at_52_69, Go_iinc_1, jt_52_72, at_52_75, Go_return, Nat.reduceAdd, Nat.reduceMul, Nat.reduceLeDiff, Nat.reduceSub, decide_true, decide_false, Bool.toNat_true, Bool.toNat_false, not_true_eq_false, not_false_eq_true, ite_not, true_and, and_true, if_true, if_false, ↓reduceIte, Bool.or_true, Bool.true_or, Bool.or_false]
  refine lp_wp (a := 0) (N := A 0 0) (Nat.zero_le _) (fun b => ∀ (I' : Nat → Nat → Int32) (v : Option Value), FPk p I I' → (∀ c, c < b → FP A p I' c (A 0 0)) → Go (ab_at 52 2) 52 2 [some (.ref p), some (.int (nI (b))), v] []  (SH, I', J) Q) (fun I' v hf hz => ?_) (fun b _ hb' ih I' v hf hz => ?_) I none (fun _ _ _ _ => rfl) (fun c hc => absurd hc (Nat.not_lt_zero c))
  · have e0 := (PB_fpk hf h).1
    rw [at_52_2]
    simp (disch := first | omega | assumption | exact own_52 | exact rt_52 | exact pr_0 (by assumption) | exact q_lt1 (hb _ _) | exact bt_lt _ | fail) only [own_52, rt_52, ab_kl_n, ab_kl_i, ab_kl_r, ab_kl_l, at_52_0, Go_iconst, kc_0, at_52_1, Go_istore_1, ab_put_int_1, Go_iload_1, at_52_3, Go_aload_0, at_52_4, Go_getf, fl_3_60, gg_3_0, sh_ref, sh_rf, jt_52_7, q_le, q_lt, q_eq, n_leT, n_leF, n_ltT, n_ltF, n_eqF, n_b0, at_52_10, at_52_11, fl_3_30, gg_3_8, at_52_14, at_52_15, at_52_16, Go_iastore, sh_ln, q_in, q_cl, sh_seti, at_52_17, at_52_18, Go_istore_2, ab_put_int_2, Go_iload_2, at_52_20, at_52_21, jt_52_24, at_52_27, at_52_28, at_52_29, cl_3_81, cat_n, cat_i, cat_r, cat_l, tl_i, tl_l, tl_n, sh_same, at_52_32, at_52_33, cl_3_77, jt_52_36, at_52_39, at_52_40, fl_3_35, gg_3_9, at_52_43, at_52_44, Go_aaload, at_52_45, at_52_46, at_52_49, at_52_50, Go_iaload, at_52_51, at_52_52, at_52_53, at_52_54, at_52_57, at_52_58, Go_dup2, at_52_59, at_52_60, kc_1, at_52_61, Go_iadd, q_add, Nat.zero_add, at_52_62, at_52_63, Go_iinc_2, jt_52_66, at_52_69, Go_iinc_1, jt_52_72, at_52_75, Go_return, Nat.reduceAdd, Nat.reduceMul, Nat.reduceLeDiff, Nat.reduceSub, decide_true, decide_false, Bool.toNat_true, Bool.toNat_false, not_true_eq_false, not_false_eq_true, ite_not, true_and, and_true, if_true, if_false, ↓reduceIte, Bool.or_true, Bool.true_or, Bool.or_false, e0, pr_0 hp]
    exact K I' hf hz
  · have e0 := (PB_fpk hf h).1
    rw [at_52_2]
    simp (disch := first | omega | assumption | exact own_52 | exact rt_52 | exact pr_0 (by assumption) | exact q_lt1 (hb _ _) | exact bt_lt _ | fail) only [own_52, rt_52, ab_kl_n, ab_kl_i, ab_kl_r, ab_kl_l, at_52_0, Go_iconst, kc_0, at_52_1, Go_istore_1, ab_put_int_1, Go_iload_1, at_52_3, Go_aload_0, at_52_4, Go_getf, fl_3_60, gg_3_0, sh_ref, sh_rf, jt_52_7, q_le, q_lt, q_eq, n_leT, n_leF, n_ltT, n_ltF, n_eqF, n_b0, at_52_10, at_52_11, fl_3_30, gg_3_8, at_52_14, at_52_15, at_52_16, Go_iastore, sh_ln, q_in, q_cl, sh_seti, at_52_17, at_52_18, Go_istore_2, ab_put_int_2, Go_iload_2, at_52_20, at_52_21, jt_52_24, at_52_27, at_52_28, at_52_29, cl_3_81, cat_n, cat_i, cat_r, cat_l, tl_i, tl_l, tl_n, sh_same, at_52_32, at_52_33, cl_3_77, jt_52_36, at_52_39, at_52_40, fl_3_35, gg_3_9, at_52_43, at_52_44, Go_aaload, at_52_45, at_52_46, at_52_49, at_52_50, Go_iaload, at_52_51, at_52_52, at_52_53, at_52_54, at_52_57, at_52_58, Go_dup2, at_52_59, at_52_60, kc_1, at_52_61, Go_iadd, q_add, Nat.zero_add, at_52_62, at_52_63, Go_iinc_2, jt_52_66, at_52_69, Go_iinc_1, jt_52_72, at_52_75, Go_return, Nat.reduceAdd, Nat.reduceMul, Nat.reduceLeDiff, Nat.reduceSub, decide_true, decide_false, Bool.toNat_true, Bool.toNat_false, not_true_eq_false, not_false_eq_true, ite_not, true_and, and_true, if_true, if_false, ↓reduceIte, Bool.or_true, Bool.true_or, Bool.or_false, e0, pf_8 hp, pr_7 hp, pn_7 hp, pr_0 hp]
    refine lp_wp (a := 0) (N := A 0 0) (Nat.zero_le _) (fun n => ∀ (I' : Nat → Nat → Int32), FPk p I I' → (∀ c, c < b → FP A p I' c (A 0 0)) → FP A p I' b n → Go (ab_at 52 19) 52 19 [some (.ref p), some (.int (nI (b))), some (.int (nI (n)))] []  (SH, I', J) Q) (fun I' hf hz hn => ?_) (fun n _ hn' ih2 I' hf hz hn => ?_) _ (fun o k h1 h2 => by rw [fr_seti h1]; exact hf o k h1 h2) (fun c hc => ?_) ⟨fr_sets, fun c hc => absurd hc (Nat.not_lt_zero c)⟩
    · have e0 := (PB_fpk hf h).1
      rw [at_52_19]
      simp (disch := first | omega | assumption | exact own_52 | exact rt_52 | exact pr_0 (by assumption) | exact q_lt1 (hb _ _) | exact bt_lt _ | fail) only [own_52, rt_52, ab_kl_n, ab_kl_i, ab_kl_r, ab_kl_l, at_52_0, Go_iconst, kc_0, at_52_1, Go_istore_1, ab_put_int_1, Go_iload_1, at_52_3, Go_aload_0, at_52_4, Go_getf, fl_3_60, gg_3_0, sh_ref, sh_rf, jt_52_7, q_le, q_lt, q_eq, n_leT, n_leF, n_ltT, n_ltF, n_eqF, n_b0, at_52_10, at_52_11, fl_3_30, gg_3_8, at_52_14, at_52_15, at_52_16, Go_iastore, sh_ln, q_in, q_cl, sh_seti, at_52_17, at_52_18, Go_istore_2, ab_put_int_2, Go_iload_2, at_52_20, at_52_21, jt_52_24, at_52_27, at_52_28, at_52_29, cl_3_81, cat_n, cat_i, cat_r, cat_l, tl_i, tl_l, tl_n, sh_same, at_52_32, at_52_33, cl_3_77, jt_52_36, at_52_39, at_52_40, fl_3_35, gg_3_9, at_52_43, at_52_44, Go_aaload, at_52_45, at_52_46, at_52_49, at_52_50, Go_iaload, at_52_51, at_52_52, at_52_53, at_52_54, at_52_57, at_52_58, Go_dup2, at_52_59, at_52_60, kc_1, at_52_61, Go_iadd, q_add, Nat.zero_add, at_52_62, at_52_63, Go_iinc_2, jt_52_66, at_52_69, Go_iinc_1, jt_52_72, at_52_75, Go_return, Nat.reduceAdd, Nat.reduceMul, Nat.reduceLeDiff, Nat.reduceSub, decide_true, decide_false, Bool.toNat_true, Bool.toNat_false, not_true_eq_false, not_false_eq_true, ite_not, true_and, and_true, if_true, if_false, ↓reduceIte, Bool.or_true, Bool.true_or, Bool.or_false, e0, pr_0 hp]
      refine ih I' _ hf (fun c hc => ?_)
      by_cases z : c = b
      · subst z; exact hn
      · exact hz c (by omega)
    · have hpc := PB_fpk hf h
      have e0 := hpc.1
      have s1 := @z_succ I' J
      have s2 := fun Q => @s1 Q A p hp hb hl6 hpc n hn'
      have sln := sl n hn'
      have cl : cn (fun c => edb A c b) n < 6 := by have := cn_le (fun c => edb A c b) n; omega
      obtain ⟨n1, n2⟩ := hn
      have es := cn_succ (fun c => edb A c b) n
      rw [at_52_19]
      cases c : edb A n b with
      | false =>
        have c' : (scs A n).testBit b = false := c
        have es2 : cn (fun c => edb A c b) (n + 1) = cn (fun c => edb A c b) n := by rw [es]; show _ + (edb A n b).toNat = _; rw [c]; rfl
        simp (disch := first | omega | assumption | exact own_52 | exact rt_52 | exact pr_0 (by assumption) | exact q_lt1 (hb _ _) | exact bt_lt _ | fail) only [own_52, rt_52, ab_kl_n, ab_kl_i, ab_kl_r, ab_kl_l, at_52_0, Go_iconst, kc_0, at_52_1, Go_istore_1, ab_put_int_1, Go_iload_1, at_52_3, Go_aload_0, at_52_4, Go_getf, fl_3_60, gg_3_0, sh_ref, sh_rf, jt_52_7, q_le, q_lt, q_eq, n_leT, n_leF, n_ltT, n_ltF, n_eqF, n_b0, at_52_10, at_52_11, fl_3_30, gg_3_8, at_52_14, at_52_15, at_52_16, Go_iastore, sh_ln, q_in, q_cl, sh_seti, at_52_17, at_52_18, Go_istore_2, ab_put_int_2, Go_iload_2, at_52_20, at_52_21, jt_52_24, at_52_27, at_52_28, at_52_29, cl_3_81, cat_n, cat_i, cat_r, cat_l, tl_i, tl_l, tl_n, sh_same, at_52_32, at_52_33, cl_3_77, jt_52_36, at_52_39, at_52_40, fl_3_35, gg_3_9, at_52_43, at_52_44, Go_aaload, at_52_45, at_52_46, at_52_49, at_52_50, Go_iaload, at_52_51, at_52_52, at_52_53, at_52_54, at_52_57, at_52_58, Go_dup2, at_52_59, at_52_60, kc_1, at_52_61, Go_iadd, q_add, Nat.zero_add, at_52_62, at_52_63, Go_iinc_2, jt_52_66, at_52_69, Go_iinc_1, jt_52_72, at_52_75, Go_return, Nat.reduceAdd, Nat.reduceMul, Nat.reduceLeDiff, Nat.reduceSub, decide_true, decide_false, Bool.toNat_true, Bool.toNat_false, not_true_eq_false, not_false_eq_true, ite_not, true_and, and_true, if_true, if_false, ↓reduceIte, Bool.or_true, Bool.true_or, Bool.or_false, e0, s2, x_hasBit, c', pr_0 hp]
        refine ih2 I' hf hz ⟨n1.trans (by rw [es2]), fun d hd hx => ?_⟩
        by_cases z : d = n
        · subst z; rw [c] at hx; cases hx
        · exact n2 d (by omega) hx
      | true =>
        have c' : (scs A n).testBit b = true := c
        have es2 : cn (fun c => edb A c b) (n + 1) = cn (fun c => edb A c b) n + 1 := by rw [es]; show _ + (edb A n b).toNat = _; rw [c]; rfl
        have n1' : ∀ x, ab_up I' (p + 9 + b) (cn (fun c => edb A c b) n) x (p + 7) b = nI (cn (fun c => edb A c b) n) := fun x => by rw [fr_seti (by omega)]; exact n1
        simp (disch := first | omega | assumption | exact own_52 | exact rt_52 | exact pr_0 (by assumption) | exact q_lt1 (hb _ _) | exact bt_lt _ | fail) only [own_52, rt_52, ab_kl_n, ab_kl_i, ab_kl_r, ab_kl_l, at_52_0, Go_iconst, kc_0, at_52_1, Go_istore_1, ab_put_int_1, Go_iload_1, at_52_3, Go_aload_0, at_52_4, Go_getf, fl_3_60, gg_3_0, sh_ref, sh_rf, jt_52_7, q_le, q_lt, q_eq, n_leT, n_leF, n_ltT, n_ltF, n_eqF, n_b0, at_52_10, at_52_11, fl_3_30, gg_3_8, at_52_14, at_52_15, at_52_16, Go_iastore, sh_ln, q_in, q_cl, sh_seti, at_52_17, at_52_18, Go_istore_2, ab_put_int_2, Go_iload_2, at_52_20, at_52_21, jt_52_24, at_52_27, at_52_28, at_52_29, cl_3_81, cat_n, cat_i, cat_r, cat_l, tl_i, tl_l, tl_n, sh_same, at_52_32, at_52_33, cl_3_77, jt_52_36, at_52_39, at_52_40, fl_3_35, gg_3_9, at_52_43, at_52_44, Go_aaload, at_52_45, at_52_46, at_52_49, at_52_50, Go_iaload, at_52_51, at_52_52, at_52_53, at_52_54, at_52_57, at_52_58, Go_dup2, at_52_59, at_52_60, kc_1, at_52_61, Go_iadd, q_add, Nat.zero_add, at_52_62, at_52_63, Go_iinc_2, jt_52_66, at_52_69, Go_iinc_1, jt_52_72, at_52_75, Go_return, Nat.reduceAdd, Nat.reduceMul, Nat.reduceLeDiff, Nat.reduceSub, decide_true, decide_false, Bool.toNat_true, Bool.toNat_false, not_true_eq_false, not_false_eq_true, ite_not, true_and, and_true, if_true, if_false, ↓reduceIte, Bool.or_true, Bool.true_or, Bool.or_false, e0, s2, x_hasBit, c', n1, n1', pf_8 hp, pr_7 hp, pn_7 hp, pf_9 hp, pr_8 hp, pn_8 hp, prow hp, prow_r hp, prow_n hp, pr_0 hp]
        refine ih2 _ (fun o k h1 h2 => ?_) (fun d hd => ⟨?_, fun e he hx => ?_⟩) ⟨?_, fun d hd hx => ?_⟩
        · rw [fr_seti h1, fr_seti (h2 b (by omega))]
          exact hf o k h1 h2
        · rw [fr_setk (by omega), fr_seti (by omega)]
          exact (hz d hd).1
        · rw [fr_seti (by omega), fr_seti (by omega)]
          exact (hz d hd).2 e he hx
        · rw [fr_sets, es2]
        · rw [fr_seti (by omega)]
          by_cases z : d = n
          · subst z; exact fr_sets
          · have : cn (fun c => edb A c b) d < cn (fun c => edb A c b) n := by
              have := cn_le_of (f := fun c => edb A c b) (a := d + 1) (b := n) (by omega)
              rw [cn_succ] at this
              rw [hx] at this
              simp at this
              omega
            rw [fr_setk (by omega)]
            exact n2 d (by omega) hx
    · obtain ⟨k1, k2⟩ := hz c hc
      exact ⟨by rw [fr_setk (by omega)]; exact k1, fun e he hx => by rw [fr_seti (by omega)]; exact k2 e he hx⟩
end CSY
