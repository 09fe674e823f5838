/-! WAYS, found: preds of the class -/
def FP (A : Nat → Nat → Nat) (p : Nat) (I : Nat → Nat → Int32) (b n : Nat) : Prop := I (p + 7) b = nI (cn (fun c => edb A c b) n) ∧ ∀ c, c < n → edb A c b = true → I (p + 9 + b) (cn (fun c => edb A c b) c) = nI c
def FPk (p : Nat) (I I' : Nat → Nat → Int32) : Prop := ∀ o k, o ≠ p + 7 → (∀ c, c < 6 → o ≠ p + 9 + c) → I' o k = I o k
theorem PC_fpk {p : Nat} {I I' : Nat → Nat → Int32} {A : Nat → Nat → Nat} (hf : FPk p I I') (h : PC p I A) : PC p I' A := by
  obtain ⟨e0, e1, e2, e3, e4, e5, e6, e7, e8, e9, e10, e11, e12⟩ := h
  have f : ∀ d k, d < 7 ∨ 15 ≤ d → I' (p + d) k = I (p + d) k := fun d k hd => hf _ _ (by omega) (fun c hc => by omega)
  exact ⟨(f 0 0 (by omega)).trans e0, (f 0 1 (by omega)).trans e1, fun b hb => (f 1 b (by omega)).trans (e2 b hb), fun b hb => (f 2 b (by omega)).trans (e3 b hb), fun b hb => (f 3 b (by omega)).trans (e4 b hb), fun b hb hx => (f 4 b (by omega)).trans (e5 b hb hx), fun b hb hx => (f 5 b (by omega)).trans (e6 b hb hx), fun b hb hx => (f 6 b (by omega)).trans (e7 b hb hx), fun n hn => (f 16 n (by omega)).trans (e8 n hn), fun n hn => (f 17 n (by omega)).trans (e9 n hn), fun n hn => (f 18 n (by omega)).trans (e10 n hn), fun n hn hx => (f 19 n (by omega)).trans (e11 n hn hx), fun n i hn hi => (hf _ _ (by omega) (fun c hc => by omega)).trans (e12 n i hn hi)⟩
theorem cn_le_of {f : Nat → Bool} {a b : Nat} (h : a ≤ b) : cn f a ≤ cn f b := by
  induction b with
  | zero => rw [show a = 0 by omega]; exact Nat.le_refl _
  | succ b ih =>
    by_cases z : a = b + 1
    · rw [z]; exact Nat.le_refl _
    · have := ih (by omega)
      rw [cn_succ]
      omega
section CSP
variable {I : Nat → Nat → Int32} {J : Nat → Nat → Int64} {Q : Option Value → ab_H → Prop} {A : Nat → Nat → Nat} {p : Nat}
theorem x_findPreds (hp : isP p) (hb : WB A) (hl : WL A) (h : PC p I A) (K : ∀ I', FPk p I I' → (∀ b, b < A 0 0 → FP A p I' b (A 0 0)) → Q none (SH, I', J)) : Ex 52 [.ref p] (SH, I, J) Q := by
  have hp2 := p_lt hp
  have r1 := hl.1
  have hl6 := WB6_of hl
  have sl := fun b hn => scs_lt (A := A) hl6 (b := b) hn
  rw [en_52]
  simp (disch := first | omega | assumption | exact own_52 | exact rt_52 | exact pr_0 (by assumption) | exact q_lt1 (hb _ _) | exact bt_lt _ | fail) only [own_52, rt_52, ab_kl_n, ab_kl_i, ab_kl_r, ab_kl_l, at_52_0, Go_iconst, kc_0, at_52_1, Go_istore_1, ab_put_int_1, Go_iload_1, at_52_3, Go_aload_0, at_52_4, Go_getf, fl_3_60, gg_3_0, sh_ref, sh_rf, jt_52_7, q_le, q_lt, q_eq, n_leT, n_leF, n_ltT, n_ltF, n_eqF, n_b0, at_52_10, at_52_11, fl_3_30, gg_3_8, at_52_14, at_52_15, at_52_16, Go_iastore, sh_ln, q_in, q_cl, sh_seti, at_52_17, at_52_18, Go_istore_2, ab_put_int_2, Go_iload_2, at_52_20, at_52_21, jt_52_24, at_52_27, at_52_28, at_52_29, cl_3_81, cat_n, cat_i, cat_r, cat_l, tl_i, tl_l, tl_n, sh_same, at_52_32, at_52_33, cl_3_77, jt_52_36, at_52_39, at_52_40, fl_3_35, gg_3_9, at_52_43, at_52_44, Go_aaload, at_52_45, at_52_46, at_52_49, at_52_50, Go_iaload, at_52_51, at_52_52, at_52_53, at_52_54, at_52_57, at_52_58, Go_dup2, at_52_59, at_52_60, kc_1, at_52_61, Go_iadd, q_add, Nat.zero_add, at_52_62, at_52_63, Go_iinc_2, jt_52_66, at_52_69, Go_iinc_1, jt_52_72, at_52_75, Go_return, Nat.reduceAdd, Nat.reduceMul, Nat.reduceLeDiff, Nat.reduceSub, decide_true, decide_false, Bool.toNat_true, Bool.toNat_false, not_true_eq_false, not_false_eq_true, ite_not, true_and, and_true, if_true, if_false, ↓reduceIte, Bool.or_true, Bool.true_or, Bool.or_false]
  refine lp_wp (a := 0) (N := A 0 0) (Nat.zero_le _) (fun b => ∀ (I' : Nat → Nat → Int32) (v : Option Value), FPk p I I' → (∀ c, c < b → FP A p I' c (A 0 0)) → Go (ab_at 52 2) 52 2 [some (.ref p), some (.int (nI (b))), v] []  (SH, I', J) Q) (fun I' v hf hz => ?_) (fun b _ hb' ih I' v hf hz => ?_) I none (fun _ _ _ _ => rfl) (fun c hc => absurd hc (Nat.not_lt_zero c))
  · have e0 := (PC_fpk hf h).1
    rw [at_52_2]
    simp (disch := first | omega | assumption | exact own_52 | exact rt_52 | exact pr_0 (by assumption) | exact q_lt1 (hb _ _) | exact bt_lt _ | fail) only [own_52, rt_52, ab_kl_n, ab_kl_i, ab_kl_r, ab_kl_l, at_52_0, Go_iconst, kc_0, at_52_1, Go_istore_1, ab_put_int_1, Go_iload_1, at_52_3, Go_aload_0, at_52_4, Go_getf, fl_3_60, gg_3_0, sh_ref, sh_rf, jt_52_7, q_le, q_lt, q_eq, n_leT, n_leF, n_ltT, n_ltF, n_eqF, n_b0, at_52_10, at_52_11, fl_3_30, gg_3_8, at_52_14, at_52_15, at_52_16, Go_iastore, sh_ln, q_in, q_cl, sh_seti, at_52_17, at_52_18, Go_istore_2, ab_put_int_2, Go_iload_2, at_52_20, at_52_21, jt_52_24, at_52_27, at_52_28, at_52_29, cl_3_81, cat_n, cat_i, cat_r, cat_l, tl_i, tl_l, tl_n, sh_same, at_52_32, at_52_33, cl_3_77, jt_52_36, at_52_39, at_52_40, fl_3_35, gg_3_9, at_52_43, at_52_44, Go_aaload, at_52_45, at_52_46, at_52_49, at_52_50, Go_iaload, at_52_51, at_52_52, at_52_53, at_52_54, at_52_57, at_52_58, Go_dup2, at_52_59, at_52_60, kc_1, at_52_61, Go_iadd, q_add, Nat.zero_add, at_52_62, at_52_63, Go_iinc_2, jt_52_66, at_52_69, Go_iinc_1, jt_52_72, at_52_75, Go_return, Nat.reduceAdd, Nat.reduceMul, Nat.reduceLeDiff, Nat.reduceSub, decide_true, decide_false, Bool.toNat_true, Bool.toNat_false, not_true_eq_false, not_false_eq_true, ite_not, true_and, and_true, if_true, if_false, ↓reduceIte, Bool.or_true, Bool.true_or, Bool.or_false, e0, pr_0 hp]
    exact K I' hf hz
  · have e0 := (PC_fpk hf h).1
    rw [at_52_2]
    simp (disch := first | omega | assumption | exact own_52 | exact rt_52 | exact pr_0 (by assumption) | exact q_lt1 (hb _ _) | exact bt_lt _ | fail) only [own_52, rt_52, ab_kl_n, ab_kl_i, ab_kl_r, ab_kl_l, at_52_0, Go_iconst, kc_0, at_52_1, Go_istore_1, ab_put_int_1, Go_iload_1, at_52_3, Go_aload_0, at_52_4, Go_getf, fl_3_60, gg_3_0, sh_ref, sh_rf, jt_52_7, q_le, q_lt, q_eq, n_leT, n_leF, n_ltT, n_ltF, n_eqF, n_b0, at_52_10, at_52_11, fl_3_30, gg_3_8, at_52_14, at_52_15, at_52_16, Go_iastore, sh_ln, q_in, q_cl, sh_seti, at_52_17, at_52_18, Go_istore_2, ab_put_int_2, Go_iload_2, at_52_20, at_52_21, jt_52_24, at_52_27, at_52_28, at_52_29, cl_3_81, cat_n, cat_i, cat_r, cat_l, tl_i, tl_l, tl_n, sh_same, at_52_32, at_52_33, cl_3_77, jt_52_36, at_52_39, at_52_40, fl_3_35, gg_3_9, at_52_43, at_52_44, Go_aaload, at_52_45, at_52_46, at_52_49, at_52_50, Go_iaload, at_52_51, at_52_52, at_52_53, at_52_54, at_52_57, at_52_58, Go_dup2, at_52_59, at_52_60, kc_1, at_52_61, Go_iadd, q_add, Nat.zero_add, at_52_62, at_52_63, Go_iinc_2, jt_52_66, at_52_69, Go_iinc_1, jt_52_72, at_52_75, Go_return, Nat.reduceAdd, Nat.reduceMul, Nat.reduceLeDiff, Nat.reduceSub, decide_true, decide_false, Bool.toNat_true, Bool.toNat_false, not_true_eq_false, not_false_eq_true, ite_not, true_and, and_true, if_true, if_false, ↓reduceIte, Bool.or_true, Bool.true_or, Bool.or_false, e0, pf_8 hp, pr_7 hp, pn_7 hp, pr_0 hp]
    refine lp_wp (a := 0) (N := A 0 0) (Nat.zero_le _) (fun n => ∀ (I' : Nat → Nat → Int32), FPk p I I' → (∀ c, c < b → FP A p I' c (A 0 0)) → FP A p I' b n → Go (ab_at 52 19) 52 19 [some (.ref p), some (.int (nI (b))), some (.int (nI (n)))] []  (SH, I', J) Q) (fun I' hf hz hn => ?_) (fun n _ hn' ih2 I' hf hz hn => ?_) _ (fun o k h1 h2 => by rw [fr_seti h1]; exact hf o k h1 h2) (fun c hc => ?_) ⟨fr_sets, fun c hc => absurd hc (Nat.not_lt_zero c)⟩
    · have e0 := (PC_fpk hf h).1
      rw [at_52_19]
      simp (disch := first | omega | assumption | exact own_52 | exact rt_52 | exact pr_0 (by assumption) | exact q_lt1 (hb _ _) | exact bt_lt _ | fail) only [own_52, rt_52, ab_kl_n, ab_kl_i, ab_kl_r, ab_kl_l, at_52_0, Go_iconst, kc_0, at_52_1, Go_istore_1, ab_put_int_1, Go_iload_1, at_52_3, Go_aload_0, at_52_4, Go_getf, fl_3_60, gg_3_0, sh_ref, sh_rf, jt_52_7, q_le, q_lt, q_eq, n_leT, n_leF, n_ltT, n_ltF, n_eqF, n_b0, at_52_10, at_52_11, fl_3_30, gg_3_8, at_52_14, at_52_15, at_52_16, Go_iastore, sh_ln, q_in, q_cl, sh_seti, at_52_17, at_52_18, Go_istore_2, ab_put_int_2, Go_iload_2, at_52_20, at_52_21, jt_52_24, at_52_27, at_52_28, at_52_29, cl_3_81, cat_n, cat_i, cat_r, cat_l, tl_i, tl_l, tl_n, sh_same, at_52_32, at_52_33, cl_3_77, jt_52_36, at_52_39, at_52_40, fl_3_35, gg_3_9, at_52_43, at_52_44, Go_aaload, at_52_45, at_52_46, at_52_49, at_52_50, Go_iaload, at_52_51, at_52_52, at_52_53, at_52_54, at_52_57, at_52_58, Go_dup2, at_52_59, at_52_60, kc_1, at_52_61, Go_iadd, q_add, Nat.zero_add, at_52_62, at_52_63, Go_iinc_2, jt_52_66, at_52_69, Go_iinc_1, jt_52_72, at_52_75, Go_return, Nat.reduceAdd, Nat.reduceMul, Nat.reduceLeDiff, Nat.reduceSub, decide_true, decide_false, Bool.toNat_true, Bool.toNat_false, not_true_eq_false, not_false_eq_true, ite_not, true_and, and_true, if_true, if_false, ↓reduceIte, Bool.or_true, Bool.true_or, Bool.or_false, e0, pr_0 hp]
      refine ih I' _ hf (fun c hc => ?_)
      by_cases z : c = b
      · subst z; exact hn
      · exact hz c (by omega)
    · have hpc := PC_fpk hf h
      have e0 := hpc.1
      have s1 := @x_succ I' J
      have s2 := fun Q => @s1 Q A p hp hb hl6 hpc n hn'
      have sln := sl n hn'
      have cl : cn (fun c => edb A c b) n < 6 := by have := cn_le (fun c => edb A c b) n; omega
      obtain ⟨n1, n2⟩ := hn
      have es := cn_succ (fun c => edb A c b) n
      rw [at_52_19]
      cases c : edb A n b with
      | false =>
        have c' : (scs A n).testBit b = false := c
        have es2 : cn (fun c => edb A c b) (n + 1) = cn (fun c => edb A c b) n := by rw [es]; show _ + (edb A n b).toNat = _; rw [c]; rfl
        simp (disch := first | omega | assumption | exact own_52 | exact rt_52 | exact pr_0 (by assumption) | exact q_lt1 (hb _ _) | exact bt_lt _ | fail) only [own_52, rt_52, ab_kl_n, ab_kl_i, ab_kl_r, ab_kl_l, at_52_0, Go_iconst, kc_0, at_52_1, Go_istore_1, ab_put_int_1, Go_iload_1, at_52_3, Go_aload_0, at_52_4, Go_getf, fl_3_60, gg_3_0, sh_ref, sh_rf, jt_52_7, q_le, q_lt, q_eq, n_leT, n_leF, n_ltT, n_ltF, n_eqF, n_b0, at_52_10, at_52_11, fl_3_30, gg_3_8, at_52_14, at_52_15, at_52_16, Go_iastore, sh_ln, q_in, q_cl, sh_seti, at_52_17, at_52_18, Go_istore_2, ab_put_int_2, Go_iload_2, at_52_20, at_52_21, jt_52_24, at_52_27, at_52_28, at_52_29, cl_3_81, cat_n, cat_i, cat_r, cat_l, tl_i, tl_l, tl_n, sh_same, at_52_32, at_52_33, cl_3_77, jt_52_36, at_52_39, at_52_40, fl_3_35, gg_3_9, at_52_43, at_52_44, Go_aaload, at_52_45, at_52_46, at_52_49, at_52_50, Go_iaload, at_52_51, at_52_52, at_52_53, at_52_54, at_52_57, at_52_58, Go_dup2, at_52_59, at_52_60, kc_1, at_52_61, Go_iadd, q_add, Nat.zero_add, at_52_62, at_52_63, Go_iinc_2, jt_52_66, at_52_69, Go_iinc_1, jt_52_72, at_52_75, Go_return, Nat.reduceAdd, Nat.reduceMul, Nat.reduceLeDiff, Nat.reduceSub, decide_true, decide_false, Bool.toNat_true, Bool.toNat_false, not_true_eq_false, not_false_eq_true, ite_not, true_and, and_true, if_true, if_false, ↓reduceIte, Bool.or_true, Bool.true_or, Bool.or_false, e0, s2, x_hasBit, c', pr_0 hp]
        refine ih2 I' hf hz ⟨n1.trans (by rw [es2]), fun d hd hx => ?_⟩
        by_cases z : d = n
        · subst z; rw [c] at hx; cases hx
        · exact n2 d (by omega) hx
      | true =>
        have c' : (scs A n).testBit b = true := c
        have es2 : cn (fun c => edb A c b) (n + 1) = cn (fun c => edb A c b) n + 1 := by rw [es]; show _ + (edb A n b).toNat = _; rw [c]; rfl
        have n1' : ∀ x, ab_up I' (p + 9 + b) (cn (fun c => edb A c b) n) x (p + 7) b = nI (cn (fun c => edb A c b) n) := fun x => by rw [fr_seti (by omega)]; exact n1
        simp (disch := first | omega | assumption | exact own_52 | exact rt_52 | exact pr_0 (by assumption) | exact q_lt1 (hb _ _) | exact bt_lt _ | fail) only [own_52, rt_52, ab_kl_n, ab_kl_i, ab_kl_r, ab_kl_l, at_52_0, Go_iconst, kc_0, at_52_1, Go_istore_1, ab_put_int_1, Go_iload_1, at_52_3, Go_aload_0, at_52_4, Go_getf, fl_3_60, gg_3_0, sh_ref, sh_rf, jt_52_7, q_le, q_lt, q_eq, n_leT, n_leF, n_ltT, n_ltF, n_eqF, n_b0, at_52_10, at_52_11, fl_3_30, gg_3_8, at_52_14, at_52_15, at_52_16, Go_iastore, sh_ln, q_in, q_cl, sh_seti, at_52_17, at_52_18, Go_istore_2, ab_put_int_2, Go_iload_2, at_52_20, at_52_21, jt_52_24, at_52_27, at_52_28, at_52_29, cl_3_81, cat_n, cat_i, cat_r, cat_l, tl_i, tl_l, tl_n, sh_same, at_52_32, at_52_33, cl_3_77, jt_52_36, at_52_39, at_52_40, fl_3_35, gg_3_9, at_52_43, at_52_44, Go_aaload, at_52_45, at_52_46, at_52_49, at_52_50, Go_iaload, at_52_51, at_52_52, at_52_53, at_52_54, at_52_57, at_52_58, Go_dup2, at_52_59, at_52_60, kc_1, at_52_61, Go_iadd, q_add, Nat.zero_add, at_52_62, at_52_63, Go_iinc_2, jt_52_66, at_52_69, Go_iinc_1, jt_52_72, at_52_75, Go_return, Nat.reduceAdd, Nat.reduceMul, Nat.reduceLeDiff, Nat.reduceSub, decide_true, decide_false, Bool.toNat_true, Bool.toNat_false, not_true_eq_false, not_false_eq_true, ite_not, true_and, and_true, if_true, if_false, ↓reduceIte, Bool.or_true, Bool.true_or, Bool.or_false, e0, s2, x_hasBit, c', n1, n1', pf_8 hp, pr_7 hp, pn_7 hp, pf_9 hp, pr_8 hp, pn_8 hp, prow hp, prow_r hp, prow_n hp, pr_0 hp]
        refine ih2 _ (fun o k h1 h2 => ?_) (fun d hd => ⟨?_, fun e he hx => ?_⟩) ⟨?_, fun d hd hx => ?_⟩
        · rw [fr_seti h1, fr_seti (h2 b (by omega))]
          exact hf o k h1 h2
        · rw [fr_setk (by omega), fr_seti (by omega)]
          exact (hz d hd).1
        · rw [fr_seti (by omega), fr_seti (by omega)]
          exact (hz d hd).2 e he hx
        · rw [fr_sets, es2]
        · rw [fr_seti (by omega)]
          by_cases z : d = n
          · subst z; exact fr_sets
          · have : cn (fun c => edb A c b) d < cn (fun c => edb A c b) n := by
              have := cn_le_of (f := fun c => edb A c b) (a := d + 1) (b := n) (by omega)
              rw [cn_succ] at this
              rw [hx] at this
              simp at this
              omega
            rw [fr_setk (by omega)]
            exact n2 d (by omega) hx
    · obtain ⟨k1, k2⟩ := hz c hc
      exact ⟨by rw [fr_setk (by omega)]; exact k1, fun e he hx => by rw [fr_seti (by omega)]; exact k2 e he hx⟩
end CSP
