section SPM
variable {I : Nat → Nat → Int32} {J : Nat → Nat → Int64} {Q : Option Value → ab_H → Prop} {A : Nat → Nat → Nat} {P : Nat → Nat} {p : Nat} {R : Prop}
theorem PK_1000 {A : Nat → Nat → Nat} {P : Nat → Nat} (hr : WR A) (hPK : PK A P) : ∀ n, n < A 0 1 → P n < 1000 := fun n hn => by
  have := P_1000 hr hPK hn
  omega
theorem chg_F {A : Nat → Nat → Nat} {P : Nat → Nat} (h : chg A P = false) : ∀ n, n < A 0 1 → st A P n = P n := by
  intro n hn
  refine Decidable.byContradiction fun c => ?_
  have : chg A P = true := (ay_iff _ _).mpr ⟨n, hn, decide_eq_true c⟩
  rw [h] at this
  cases this
theorem rp_T {A : Nat → Nat → Nat} {P : Nat → Nat} {k : Nat} (h : chg A P = true) : rp A (k + 1) P = rp A k (st A P) := by
  show (if _ then _ else _) = _
  rw [if_pos h]
theorem rp_F {A : Nat → Nat → Nat} {P : Nat → Nat} {k : Nat} (h : chg A P = false) : rp A (k + 1) P = P := by
  show (if _ then _ else _) = _
  rw [if_neg (by rw [h]; decide)]
theorem rc_T {A : Nat → Nat → Nat} {P : Nat → Nat} {k : Nat} (h : chg A P = true) : rc A (k + 1) P = rc A k (st A P) + 1 := by
  show (if _ then _ else _) = _
  rw [if_pos h]
theorem rc_F {A : Nat → Nat → Nat} {P : Nat → Nat} {k : Nat} (h : chg A P = false) : rc A (k + 1) P = 0 := by
  show (if _ then _ else _) = _
  rw [if_neg (by rw [h]; decide)]
theorem x_splitL (hp : isP p) (hb : WB A) (hr : WR A) (h : PC p I A) (hg : PG p I A) {most : Nat} (hm : most ≤ 100) (K : ∀ I', (∀ o k, o ≠ 57 → o ≠ 58 → o ≠ 59 → I' o k = I o k) → (∀ n, n < A 0 1 → I' 58 n = nI (rp A most (P0 A) n)) → I' 57 1 = nI (rc A most (P0 A)) → Q none (SH, I', J)) : ∀ d r P I', r + d = most → PK A P → rp A d P = rp A most (P0 A) → rc A d P + r = rc A most (P0 A) → (∀ o k, o ≠ 57 → o ≠ 58 → o ≠ 59 → I' o k = I o k) → (∀ n, n < A 0 1 → I' 58 n = nI (P n)) → I' 57 1 = nI r → Go (ab_at 1 35) 1 35 [some (.ref 57), some (.ref p), some (.int (nI (most))), some (.int (nI (r)))] []  (SH, I', J) Q := by
  have hpp : p = 4 ∨ p = 73 ∨ p = 115 ∨ p = 157 := hp
  have hp2 := p_lt hp
  intro d
  induction d with
  | zero =>
    intro r P I' hd hPK h1 h2 hf hF hrr
    rw [at_1_35]
    simp (disch := first | omega | assumption | exact own_1 | exact rt_1 | exact sr_57 | exact q_lt1 (hb _ _) | exact bt_lt _ | fail) only [own_1, rt_1, ab_kl_n, ab_kl_i, ab_kl_r, ab_kl_l, at_1_0, Go_iconst, kc_0, at_1_1, Go_istore_3, ab_put_int_3, Go_iload_3, at_1_3, Go_aload_1, at_1_4, Go_getf, fl_0_18, gg_3_1, sh_ref, sh_rf, jt_1_7, q_le, q_lt, q_eq, n_leT, n_leF, n_ltT, n_ltF, n_eqF, n_b0, at_1_10, Go_aload_0, at_1_11, fl_0_9, gg_0_0, sr_57, sf_57_0, sr_58, sn_58, at_1_14, at_1_15, at_1_16, at_1_17, at_1_18, cl_0_24, cat_n, cat_i, cat_r, cat_l, tl_i, tl_l, tl_n, sh_same, at_1_21, Go_iastore, sh_ln, q_in, q_cl, sh_seti, at_1_22, Go_iinc_3, kc_1, q_add, jt_1_25, at_1_28, at_1_29, at_1_30, Go_putf, fl_0_28, gp_0_1, at_1_33, at_1_34, at_1_36, Go_iload_2, jt_1_37, at_1_40, at_1_41, at_1_42, cl_0_31, jt_1_45, at_1_48, at_1_49, Go_dup_int, Go_dup_ref, at_1_50, gg_0_1, at_1_53, at_1_54, Go_iadd, Nat.zero_add, at_1_55, at_1_58, jt_1_61, at_1_64, Go_return, Nat.reduceAdd, Nat.reduceMul, Nat.reduceLeDiff, Nat.reduceSub, decide_true, decide_false, Bool.toNat_true, Bool.toNat_false, not_true_eq_false, not_false_eq_true, ite_not, true_and, and_true, if_true, if_false, reduceIte, Bool.or_true, Bool.true_or, Bool.or_false]
    refine K I' hf (fun n hn => ?_) ?_
    · rw [← h1]; exact hF n hn
    · rw [← h2, hrr]; simp [rc]
  | succ d ih =>
    intro r P I' hd hPK h1 h2 hf hF hrr
    rw [at_1_35]
    simp (disch := first | omega | assumption | exact own_1 | exact rt_1 | exact sr_57 | exact q_lt1 (hb _ _) | exact bt_lt _ | fail) only [own_1, rt_1, ab_kl_n, ab_kl_i, ab_kl_r, ab_kl_l, at_1_0, Go_iconst, kc_0, at_1_1, Go_istore_3, ab_put_int_3, Go_iload_3, at_1_3, Go_aload_1, at_1_4, Go_getf, fl_0_18, gg_3_1, sh_ref, sh_rf, jt_1_7, q_le, q_lt, q_eq, n_leT, n_leF, n_ltT, n_ltF, n_eqF, n_b0, at_1_10, Go_aload_0, at_1_11, fl_0_9, gg_0_0, sr_57, sf_57_0, sr_58, sn_58, at_1_14, at_1_15, at_1_16, at_1_17, at_1_18, cl_0_24, cat_n, cat_i, cat_r, cat_l, tl_i, tl_l, tl_n, sh_same, at_1_21, Go_iastore, sh_ln, q_in, q_cl, sh_seti, at_1_22, Go_iinc_3, kc_1, q_add, jt_1_25, at_1_28, at_1_29, at_1_30, Go_putf, fl_0_28, gp_0_1, at_1_33, at_1_34, at_1_36, Go_iload_2, jt_1_37, at_1_40, at_1_41, at_1_42, cl_0_31, jt_1_45, at_1_48, at_1_49, Go_dup_int, Go_dup_ref, at_1_50, gg_0_1, at_1_53, at_1_54, Go_iadd, Nat.zero_add, at_1_55, at_1_58, jt_1_61, at_1_64, Go_return, Nat.reduceAdd, Nat.reduceMul, Nat.reduceLeDiff, Nat.reduceSub, decide_true, decide_false, Bool.toNat_true, Bool.toNat_false, not_true_eq_false, not_false_eq_true, ite_not, true_and, and_true, if_true, if_false, reduceIte, Bool.or_true, Bool.true_or, Bool.or_false]
    have h' := PC_fr (I' := I') (fun o k h1 h2 => hf o k (by omega) (by omega) (by omega)) hr h
    have hg' := PG_fr (I' := I') (fun o k h1 h2 => hf o k (by omega) (by omega) (by omega)) hr hg
    refine x_splitOnce hp hb hr h' hg' hPK (PK_1000 hr hPK) hF (fun I2 hf2 hF2 => ?_)
    have e571 : I2 57 1 = nI r := by rw [hf2 _ _ (by omega) (by omega)]; exact hrr
    cases hc : chg A P with
    | true =>
      rw [rp_T hc] at h1
      rw [rc_T hc] at h2
      have ih2 := ih (r + 1) (st A P) (ab_up I2 57 1 (nI (r + 1))) (by omega) (st_PK hPK) h1 (by omega) (fun o k k1 k2 k3 => by rw [fr_seti k1, hf2 _ _ k2 k3]; exact hf o k k1 k2 k3) (fun n hn => by rw [fr_seti (by omega)]; exact hF2 n hn) fr_sets
      simp (disch := first | omega | assumption | exact own_1 | exact rt_1 | exact sr_57 | exact q_lt1 (hb _ _) | exact bt_lt _ | fail) only [own_1, rt_1, ab_kl_n, ab_kl_i, ab_kl_r, ab_kl_l, at_1_0, Go_iconst, kc_0, at_1_1, Go_istore_3, ab_put_int_3, Go_iload_3, at_1_3, Go_aload_1, at_1_4, Go_getf, fl_0_18, gg_3_1, sh_ref, sh_rf, jt_1_7, q_le, q_lt, q_eq, n_leT, n_leF, n_ltT, n_ltF, n_eqF, n_b0, at_1_10, Go_aload_0, at_1_11, fl_0_9, gg_0_0, sr_57, sf_57_0, sr_58, sn_58, at_1_14, at_1_15, at_1_16, at_1_17, at_1_18, cl_0_24, cat_n, cat_i, cat_r, cat_l, tl_i, tl_l, tl_n, sh_same, at_1_21, Go_iastore, sh_ln, q_in, q_cl, sh_seti, at_1_22, Go_iinc_3, kc_1, q_add, jt_1_25, at_1_28, at_1_29, at_1_30, Go_putf, fl_0_28, gp_0_1, at_1_33, at_1_34, at_1_36, Go_iload_2, jt_1_37, at_1_40, at_1_41, at_1_42, cl_0_31, jt_1_45, at_1_48, at_1_49, Go_dup_int, Go_dup_ref, at_1_50, gg_0_1, at_1_53, at_1_54, Go_iadd, Nat.zero_add, at_1_55, at_1_58, jt_1_61, at_1_64, Go_return, Nat.reduceAdd, Nat.reduceMul, Nat.reduceLeDiff, Nat.reduceSub, decide_true, decide_false, Bool.toNat_true, Bool.toNat_false, not_true_eq_false, not_false_eq_true, ite_not, true_and, and_true, if_true, if_false, reduceIte, Bool.or_true, Bool.true_or, Bool.or_false, e571]
      exact ih2
    | false =>
      rw [rp_F hc] at h1
      rw [rc_F hc] at h2
      simp (disch := first | omega | assumption | exact own_1 | exact rt_1 | exact sr_57 | exact q_lt1 (hb _ _) | exact bt_lt _ | fail) only [own_1, rt_1, ab_kl_n, ab_kl_i, ab_kl_r, ab_kl_l, at_1_0, Go_iconst, kc_0, at_1_1, Go_istore_3, ab_put_int_3, Go_iload_3, at_1_3, Go_aload_1, at_1_4, Go_getf, fl_0_18, gg_3_1, sh_ref, sh_rf, jt_1_7, q_le, q_lt, q_eq, n_leT, n_leF, n_ltT, n_ltF, n_eqF, n_b0, at_1_10, Go_aload_0, at_1_11, fl_0_9, gg_0_0, sr_57, sf_57_0, sr_58, sn_58, at_1_14, at_1_15, at_1_16, at_1_17, at_1_18, cl_0_24, cat_n, cat_i, cat_r, cat_l, tl_i, tl_l, tl_n, sh_same, at_1_21, Go_iastore, sh_ln, q_in, q_cl, sh_seti, at_1_22, Go_iinc_3, kc_1, q_add, jt_1_25, at_1_28, at_1_29, at_1_30, Go_putf, fl_0_28, gp_0_1, at_1_33, at_1_34, at_1_36, Go_iload_2, jt_1_37, at_1_40, at_1_41, at_1_42, cl_0_31, jt_1_45, at_1_48, at_1_49, Go_dup_int, Go_dup_ref, at_1_50, gg_0_1, at_1_53, at_1_54, Go_iadd, Nat.zero_add, at_1_55, at_1_58, jt_1_61, at_1_64, Go_return, Nat.reduceAdd, Nat.reduceMul, Nat.reduceLeDiff, Nat.reduceSub, decide_true, decide_false, Bool.toNat_true, Bool.toNat_false, not_true_eq_false, not_false_eq_true, ite_not, true_and, and_true, if_true, if_false, reduceIte, Bool.or_true, Bool.true_or, Bool.or_false]
      refine K I2 (fun o k k1 k2 k3 => by rw [hf2 _ _ k2 k3]; exact hf o k k1 k2 k3) (fun n hn => ?_) ?_
      · rw [← h1, ← chg_F hc n hn]; exact hF2 n hn
      · rw [← h2, e571, Nat.zero_add]
theorem x_split (hp : isP p) (hb : WB A) (hr : WR A) (h : PC p I A) (hg : PG p I A) {most : Nat} (hm : most ≤ 100) (K : ∀ I', (∀ o k, o ≠ 57 → o ≠ 58 → o ≠ 59 → I' o k = I o k) → (∀ n, n < A 0 1 → I' 58 n = nI (rp A most (P0 A) n)) → I' 57 1 = nI (rc A most (P0 A)) → Q none (SH, I', J)) : Ex 1 [.ref 57, .ref p, .int (nI most)] (SH, I, J) Q := by
  have hpp : p = 4 ∨ p = 73 ∨ p = 115 ∨ p = 157 := hp
  have hp2 := p_lt hp
  have hN := hr.2.1
  rw [en_1]
  simp (disch := first | omega | assumption | exact own_1 | exact rt_1 | exact sr_57 | exact q_lt1 (hb _ _) | exact bt_lt _ | fail) only [own_1, rt_1, ab_kl_n, ab_kl_i, ab_kl_r, ab_kl_l, at_1_0, Go_iconst, kc_0, at_1_1, Go_istore_3, ab_put_int_3, Go_iload_3, at_1_3, Go_aload_1, at_1_4, Go_getf, fl_0_18, gg_3_1, sh_ref, sh_rf, jt_1_7, q_le, q_lt, q_eq, n_leT, n_leF, n_ltT, n_ltF, n_eqF, n_b0, at_1_10, Go_aload_0, at_1_11, fl_0_9, gg_0_0, sr_57, sf_57_0, sr_58, sn_58, at_1_14, at_1_15, at_1_16, at_1_17, at_1_18, cl_0_24, cat_n, cat_i, cat_r, cat_l, tl_i, tl_l, tl_n, sh_same, at_1_21, Go_iastore, sh_ln, q_in, q_cl, sh_seti, at_1_22, Go_iinc_3, kc_1, q_add, jt_1_25, at_1_28, at_1_29, at_1_30, Go_putf, fl_0_28, gp_0_1, at_1_33, at_1_34, at_1_36, Go_iload_2, jt_1_37, at_1_40, at_1_41, at_1_42, cl_0_31, jt_1_45, at_1_48, at_1_49, Go_dup_int, Go_dup_ref, at_1_50, gg_0_1, at_1_53, at_1_54, Go_iadd, Nat.zero_add, at_1_55, at_1_58, jt_1_61, at_1_64, Go_return, Nat.reduceAdd, Nat.reduceMul, Nat.reduceLeDiff, Nat.reduceSub, decide_true, decide_false, Bool.toNat_true, Bool.toNat_false, not_true_eq_false, not_false_eq_true, ite_not, true_and, and_true, if_true, if_false, reduceIte, Bool.or_true, Bool.true_or, Bool.or_false]
  refine lp_wp (a := 0) (N := A 0 1) (Nat.zero_le _) (fun i => ∀ I', (∀ o k, o ≠ 58 → I' o k = I o k) → (∀ n, n < i → I' 58 n = nI (P0 A n)) → Go (ab_at 1 2) 1 2 [some (.ref 57), some (.ref p), some (.int (nI (most))), some (.int (nI (i)))] []  (SH, I', J) Q) (fun I' hf hn => ?_) (fun i _ hi ih I' hf hn => ?_) I (fun _ _ _ => rfl) (fun n hn => absurd hn (Nat.not_lt_zero n))
  · have e1 := (PC_fr (I' := I') (fun o k h1 h2 => hf o k (by omega)) hr h).2.1
    rw [at_1_2]
    simp (disch := first | omega | assumption | exact own_1 | exact rt_1 | exact sr_57 | exact q_lt1 (hb _ _) | exact bt_lt _ | fail) only [own_1, rt_1, ab_kl_n, ab_kl_i, ab_kl_r, ab_kl_l, at_1_0, Go_iconst, kc_0, at_1_1, Go_istore_3, ab_put_int_3, Go_iload_3, at_1_3, Go_aload_1, at_1_4, Go_getf, fl_0_18, gg_3_1, sh_ref, sh_rf, jt_1_7, q_le, q_lt, q_eq, n_leT, n_leF, n_ltT, n_ltF, n_eqF, n_b0, at_1_10, Go_aload_0, at_1_11, fl_0_9, gg_0_0, sr_57, sf_57_0, sr_58, sn_58, at_1_14, at_1_15, at_1_16, at_1_17, at_1_18, cl_0_24, cat_n, cat_i, cat_r, cat_l, tl_i, tl_l, tl_n, sh_same, at_1_21, Go_iastore, sh_ln, q_in, q_cl, sh_seti, at_1_22, Go_iinc_3, kc_1, q_add, jt_1_25, at_1_28, at_1_29, at_1_30, Go_putf, fl_0_28, gp_0_1, at_1_33, at_1_34, at_1_36, Go_iload_2, jt_1_37, at_1_40, at_1_41, at_1_42, cl_0_31, jt_1_45, at_1_48, at_1_49, Go_dup_int, Go_dup_ref, at_1_50, gg_0_1, at_1_53, at_1_54, Go_iadd, Nat.zero_add, at_1_55, at_1_58, jt_1_61, at_1_64, Go_return, Nat.reduceAdd, Nat.reduceMul, Nat.reduceLeDiff, Nat.reduceSub, decide_true, decide_false, Bool.toNat_true, Bool.toNat_false, not_true_eq_false, not_false_eq_true, ite_not, true_and, and_true, if_true, if_false, reduceIte, Bool.or_true, Bool.true_or, Bool.or_false, pr_0 hp, e1]
    exact x_splitL hp hb hr h hg hm K most 0 (P0 A) _ (by omega) (P0_PK hr) rfl rfl (fun o k k1 k2 k3 => by rw [fr_seti k1]; exact hf o k k2) (fun n hn2 => by rw [fr_seti (by omega)]; exact hn n hn2) fr_sets
  · have h' := PC_fr (I' := I') (fun o k h1 h2 => hf o k (by omega)) hr h
    have hg' := PG_fr (I' := I') (fun o k h1 h2 => hf o k (by omega)) hr hg
    have e1 := h'.2.1
    have s1 := fun Q => x_firstAtStart (J := J) (Q := Q) hp hb hr h' hg' hi
    rw [at_1_2]
    simp (disch := first | omega | assumption | exact own_1 | exact rt_1 | exact sr_57 | exact q_lt1 (hb _ _) | exact bt_lt _ | fail) only [own_1, rt_1, ab_kl_n, ab_kl_i, ab_kl_r, ab_kl_l, at_1_0, Go_iconst, kc_0, at_1_1, Go_istore_3, ab_put_int_3, Go_iload_3, at_1_3, Go_aload_1, at_1_4, Go_getf, fl_0_18, gg_3_1, sh_ref, sh_rf, jt_1_7, q_le, q_lt, q_eq, n_leT, n_leF, n_ltT, n_ltF, n_eqF, n_b0, at_1_10, Go_aload_0, at_1_11, fl_0_9, gg_0_0, sr_57, sf_57_0, sr_58, sn_58, at_1_14, at_1_15, at_1_16, at_1_17, at_1_18, cl_0_24, cat_n, cat_i, cat_r, cat_l, tl_i, tl_l, tl_n, sh_same, at_1_21, Go_iastore, sh_ln, q_in, q_cl, sh_seti, at_1_22, Go_iinc_3, kc_1, q_add, jt_1_25, at_1_28, at_1_29, at_1_30, Go_putf, fl_0_28, gp_0_1, at_1_33, at_1_34, at_1_36, Go_iload_2, jt_1_37, at_1_40, at_1_41, at_1_42, cl_0_31, jt_1_45, at_1_48, at_1_49, Go_dup_int, Go_dup_ref, at_1_50, gg_0_1, at_1_53, at_1_54, Go_iadd, Nat.zero_add, at_1_55, at_1_58, jt_1_61, at_1_64, Go_return, Nat.reduceAdd, Nat.reduceMul, Nat.reduceLeDiff, Nat.reduceSub, decide_true, decide_false, Bool.toNat_true, Bool.toNat_false, not_true_eq_false, not_false_eq_true, ite_not, true_and, and_true, if_true, if_false, reduceIte, Bool.or_true, Bool.true_or, Bool.or_false, pr_0 hp, e1, s1]
    exact ih _ (fun o k ho => by rw [fr_seti ho]; exact hf o k ho) (fun n hn2 => by
      rcases Nat.lt_or_ge n i with c | c
      · rw [fr_setk (by omega)]; exact hn n c
      · rw [show n = i by omega]; exact fr_sets)
/-- how many of a CLASS -/
def sz (A : Nat → Nat → Nat) (P : Nat → Nat) (n : Nat) : Nat := cn (fun m => decide (P m = n)) (A 0 1)
def mx (f : Nat → Nat) : Nat → Nat
  | 0 => 0
  | n + 1 => max (mx f n) (f n)
theorem mx_le (f : Nat → Nat) (b : Nat) (h : ∀ i, f i ≤ b) : ∀ n, mx f n ≤ b := by
  intro n
  induction n with
  | zero => exact Nat.zero_le _
  | succ n ih => exact Nat.max_le.mpr ⟨ih, h n⟩
theorem x_sizeOf (hp : isP p) (hb : WB A) (hr : WR A) (h : PC p I A) (hg : PG p I A) (hP : ∀ n, n < A 0 1 → P n < 1000) (hF : ∀ n, n < A 0 1 → I 58 n = nI (P n)) {n : Nat} (hn : n < A 0 1) : Ex 9 [.ref 57, .ref p, .int (nI n)] (SH, I, J) Q = Q (some (.int (nI (sz A P n)))) (SH, I, J) := by
  have hp2 := p_lt hp
  obtain ⟨r1, r2, r3, r4⟩ := hr
  obtain ⟨e0, e1, e2, e3, e4, e5, e6, e7, e8, e9, e10, e11, e12⟩ := h
  obtain ⟨g1, g2, g3⟩ := hg
  rw [en_9]
  unfold sz
  simp (disch := first | omega | assumption | exact own_9 | exact rt_9 | exact q_lt1 (hb _ _) | exact bt_lt _ | fail) only [own_9, rt_9, ab_kl_n, ab_kl_i, ab_kl_r, ab_kl_l, at_9_0, Go_iconst, kc_0, at_9_1, Go_istore_3, ab_put_int_3, at_9_2, at_9_3, Go_istore_4, ab_put_int_4, Go_iload_4, at_9_7, Go_aload_1, at_9_8, Go_getf, fl_0_18, gg_3_1, sh_ref, sh_rf, jt_9_11, q_le, q_lt, q_eq, n_leT, n_leF, n_ltT, n_ltF, n_eqF, n_b0, at_9_14, Go_aload_0, at_9_15, fl_0_9, gg_0_0, sr_57, sf_57_0, sr_58, sn_58, at_9_18, at_9_20, Go_iaload, sh_ln, q_in, q_cl, at_9_21, Go_iload_2, jt_9_22, at_9_25, Go_iinc_3, kc_1, q_add, at_9_28, Go_iinc_4, jt_9_31, at_9_34, Go_iload_3, at_9_35, Go_reti, Nat.reduceAdd, Nat.reduceMul, Nat.reduceLeDiff, Nat.reduceSub, decide_true, decide_false, Bool.toNat_true, Bool.toNat_false, not_true_eq_false, not_false_eq_true, ite_not, true_and, and_true, if_true, if_false, reduceIte, Bool.or_true, Bool.true_or, Bool.or_false, pr_0 hp, e1]
  refine lp_eq (N := A 0 1) (fun i => Go (ab_at 9 5) 9 5 [some (.ref 57), some (.ref p), some (.int (nI (n))), some (.int (nI (cn (fun m => decide (P m = n)) i))), some (.int (nI (i)))] [] (SH, I, J) Q) ?_ (fun i hi => ?_)
  · refine Eq.trans (show Go (ab_at 9 5) 9 5 _ _ _ _ = Go (some (.iload 4, 2)) 9 5 _ _ _ _ from by rw [at_9_5]) ?_
    simp (disch := first | omega | assumption | exact own_9 | exact rt_9 | exact q_lt1 (hb _ _) | exact bt_lt _ | fail) only [own_9, rt_9, ab_kl_n, ab_kl_i, ab_kl_r, ab_kl_l, at_9_0, Go_iconst, kc_0, at_9_1, Go_istore_3, ab_put_int_3, at_9_2, at_9_3, Go_istore_4, ab_put_int_4, Go_iload_4, at_9_7, Go_aload_1, at_9_8, Go_getf, fl_0_18, gg_3_1, sh_ref, sh_rf, jt_9_11, q_le, q_lt, q_eq, n_leT, n_leF, n_ltT, n_ltF, n_eqF, n_b0, at_9_14, Go_aload_0, at_9_15, fl_0_9, gg_0_0, sr_57, sf_57_0, sr_58, sn_58, at_9_18, at_9_20, Go_iaload, sh_ln, q_in, q_cl, at_9_21, Go_iload_2, jt_9_22, at_9_25, Go_iinc_3, kc_1, q_add, at_9_28, Go_iinc_4, jt_9_31, at_9_34, Go_iload_3, at_9_35, Go_reti, Nat.reduceAdd, Nat.reduceMul, Nat.reduceLeDiff, Nat.reduceSub, decide_true, decide_false, Bool.toNat_true, Bool.toNat_false, not_true_eq_false, not_false_eq_true, ite_not, true_and, and_true, if_true, if_false, reduceIte, Bool.or_true, Bool.true_or, Bool.or_false, pr_0 hp, e1]
  · refine Eq.trans (show Go (ab_at 9 5) 9 5 _ _ _ _ = Go (some (.iload 4, 2)) 9 5 _ _ _ _ from by rw [at_9_5]) ?_
    simp (disch := first | omega | assumption | exact own_9 | exact rt_9 | exact q_lt1 (hP _ (by omega)) | exact q_lt1 (hb _ _) | exact bt_lt _ | fail) only [own_9, rt_9, ab_kl_n, ab_kl_i, ab_kl_r, ab_kl_l, at_9_0, Go_iconst, kc_0, at_9_1, Go_istore_3, ab_put_int_3, at_9_2, at_9_3, Go_istore_4, ab_put_int_4, Go_iload_4, at_9_7, Go_aload_1, at_9_8, Go_getf, fl_0_18, gg_3_1, sh_ref, sh_rf, jt_9_11, q_le, q_lt, q_eq, n_leT, n_leF, n_ltT, n_ltF, n_eqF, n_b0, at_9_14, Go_aload_0, at_9_15, fl_0_9, gg_0_0, sr_57, sf_57_0, sr_58, sn_58, at_9_18, at_9_20, Go_iaload, sh_ln, q_in, q_cl, at_9_21, Go_iload_2, jt_9_22, at_9_25, Go_iinc_3, kc_1, q_add, at_9_28, Go_iinc_4, jt_9_31, at_9_34, Go_iload_3, at_9_35, Go_reti, Nat.reduceAdd, Nat.reduceMul, Nat.reduceLeDiff, Nat.reduceSub, decide_true, decide_false, Bool.toNat_true, Bool.toNat_false, not_true_eq_false, not_false_eq_true, ite_not, true_and, and_true, if_true, if_false, reduceIte, Bool.or_true, Bool.true_or, Bool.or_false, pr_0 hp, e1, hF]
    by_cases c : P i = n <;> simp [c, cn]
theorem x_countClasses (hp : isP p) (hb : WB A) (hr : WR A) (h : PC p I A) (hg : PG p I A) (hP : ∀ n, n < A 0 1 → P n < 1000) (hF : ∀ n, n < A 0 1 → I 58 n = nI (P n)) : Ex 7 [.ref 57, .ref p] (SH, I, J) Q = Q (some (.int (nI (cn (fun n => decide (P n = n ∧ ¬ A 10 n = 8)) (A 0 1))))) (SH, I, J) := by
  have hp2 := p_lt hp
  obtain ⟨r1, r2, r3, r4⟩ := hr
  obtain ⟨e0, e1, e2, e3, e4, e5, e6, e7, e8, e9, e10, e11, e12⟩ := h
  obtain ⟨g1, g2, g3⟩ := hg
  rw [en_7]
  simp (disch := first | omega | assumption | exact own_7 | exact rt_7 | exact q_lt1 (hb _ _) | exact bt_lt _ | fail) only [own_7, rt_7, ab_kl_n, ab_kl_i, ab_kl_r, ab_kl_l, at_7_0, Go_iconst, kc_0, at_7_1, Go_istore_2, ab_put_int_2, at_7_2, at_7_3, Go_istore_3, ab_put_int_3, Go_iload_3, at_7_5, Go_aload_1, at_7_6, Go_getf, fl_0_18, gg_3_1, sh_ref, sh_rf, jt_7_9, q_le, q_lt, q_eq, n_leT, n_leF, n_ltT, n_ltF, n_eqF, n_b0, at_7_12, Go_aload_0, at_7_13, fl_0_9, gg_0_0, sr_57, sf_57_0, sr_58, sn_58, at_7_16, at_7_17, Go_iaload, sh_ln, q_in, q_cl, at_7_18, jt_7_19, at_7_22, at_7_23, fl_0_39, gg_3_11, at_7_26, at_7_27, at_7_28, Go_bipush, kb_8, jt_7_30, at_7_33, Go_iinc_2, kc_1, q_add, at_7_36, Go_iinc_3, jt_7_39, at_7_42, Go_iload_2, at_7_43, Go_reti, Nat.reduceAdd, Nat.reduceMul, Nat.reduceLeDiff, Nat.reduceSub, decide_true, decide_false, Bool.toNat_true, Bool.toNat_false, not_true_eq_false, not_false_eq_true, ite_not, true_and, and_true, if_true, if_false, reduceIte, Bool.or_true, Bool.true_or, Bool.or_false, pr_0 hp, e1, pf_11 hp, pr_16 hp, pn_16 hp, e8]
  refine lp_eq (N := A 0 1) (fun i => Go (ab_at 7 4) 7 4 [some (.ref 57), some (.ref p), some (.int (nI (cn (fun n => decide (P n = n ∧ ¬ A 10 n = 8)) i))), some (.int (nI (i)))] [] (SH, I, J) Q) ?_ (fun i hi => ?_)
  · refine Eq.trans (show Go (ab_at 7 4) 7 4 _ _ _ _ = Go (some (.iload_n 3, 1)) 7 4 _ _ _ _ from by rw [at_7_4]) ?_
    simp (disch := first | omega | assumption | exact own_7 | exact rt_7 | exact q_lt1 (hb _ _) | exact bt_lt _ | fail) only [own_7, rt_7, ab_kl_n, ab_kl_i, ab_kl_r, ab_kl_l, at_7_0, Go_iconst, kc_0, at_7_1, Go_istore_2, ab_put_int_2, at_7_2, at_7_3, Go_istore_3, ab_put_int_3, Go_iload_3, at_7_5, Go_aload_1, at_7_6, Go_getf, fl_0_18, gg_3_1, sh_ref, sh_rf, jt_7_9, q_le, q_lt, q_eq, n_leT, n_leF, n_ltT, n_ltF, n_eqF, n_b0, at_7_12, Go_aload_0, at_7_13, fl_0_9, gg_0_0, sr_57, sf_57_0, sr_58, sn_58, at_7_16, at_7_17, Go_iaload, sh_ln, q_in, q_cl, at_7_18, jt_7_19, at_7_22, at_7_23, fl_0_39, gg_3_11, at_7_26, at_7_27, at_7_28, Go_bipush, kb_8, jt_7_30, at_7_33, Go_iinc_2, kc_1, q_add, at_7_36, Go_iinc_3, jt_7_39, at_7_42, Go_iload_2, at_7_43, Go_reti, Nat.reduceAdd, Nat.reduceMul, Nat.reduceLeDiff, Nat.reduceSub, decide_true, decide_false, Bool.toNat_true, Bool.toNat_false, not_true_eq_false, not_false_eq_true, ite_not, true_and, and_true, if_true, if_false, reduceIte, Bool.or_true, Bool.true_or, Bool.or_false, pr_0 hp, e1, pf_11 hp, pr_16 hp, pn_16 hp, e8]
  · refine Eq.trans (show Go (ab_at 7 4) 7 4 _ _ _ _ = Go (some (.iload_n 3, 1)) 7 4 _ _ _ _ from by rw [at_7_4]) ?_
    simp (disch := first | omega | assumption | exact own_7 | exact rt_7 | exact q_lt1 (hP _ (by omega)) | exact q_lt1 (hb _ _) | exact bt_lt _ | fail) only [own_7, rt_7, ab_kl_n, ab_kl_i, ab_kl_r, ab_kl_l, at_7_0, Go_iconst, kc_0, at_7_1, Go_istore_2, ab_put_int_2, at_7_2, at_7_3, Go_istore_3, ab_put_int_3, Go_iload_3, at_7_5, Go_aload_1, at_7_6, Go_getf, fl_0_18, gg_3_1, sh_ref, sh_rf, jt_7_9, q_le, q_lt, q_eq, n_leT, n_leF, n_ltT, n_ltF, n_eqF, n_b0, at_7_12, Go_aload_0, at_7_13, fl_0_9, gg_0_0, sr_57, sf_57_0, sr_58, sn_58, at_7_16, at_7_17, Go_iaload, sh_ln, q_in, q_cl, at_7_18, jt_7_19, at_7_22, at_7_23, fl_0_39, gg_3_11, at_7_26, at_7_27, at_7_28, Go_bipush, kb_8, jt_7_30, at_7_33, Go_iinc_2, kc_1, q_add, at_7_36, Go_iinc_3, jt_7_39, at_7_42, Go_iload_2, at_7_43, Go_reti, Nat.reduceAdd, Nat.reduceMul, Nat.reduceLeDiff, Nat.reduceSub, decide_true, decide_false, Bool.toNat_true, Bool.toNat_false, not_true_eq_false, not_false_eq_true, ite_not, true_and, and_true, if_true, if_false, reduceIte, Bool.or_true, Bool.true_or, Bool.or_false, pr_0 hp, e1, pf_11 hp, pr_16 hp, pn_16 hp, e8, hF]
    by_cases c : P i = i <;> by_cases c2 : A 10 i = 8 <;> simp [c, c2, cn]
theorem x_greatestClass (hp : isP p) (hb : WB A) (hr : WR A) (h : PC p I A) (hg : PG p I A) (hP : ∀ n, n < A 0 1 → P n < 1000) (hF : ∀ n, n < A 0 1 → I 58 n = nI (P n)) : Ex 8 [.ref 57, .ref p] (SH, I, J) Q = Q (some (.int (nI (mx (fun n => if A 10 n = 8 then 0 else sz A P n) (A 0 1))))) (SH, I, J) := by
  have s1 := fun n hn Q => x_sizeOf (J := J) (Q := Q) (n := n) hp hb hr h hg hP hF hn
  have hp2 := p_lt hp
  obtain ⟨r1, r2, r3, r4⟩ := hr
  obtain ⟨e0, e1, e2, e3, e4, e5, e6, e7, e8, e9, e10, e11, e12⟩ := h
  obtain ⟨g1, g2, g3⟩ := hg
  have mm := fun {mi pc len L S x y} (ho : ab_own mi = 0) (hS : ab_cat S ≤ 8) => @Go_max mi pc len L S I J Q 75 0 x y (by rw [ho]; rfl) hS
  have hs20 : ∀ n, sz A P n ≤ 20 := fun n => Nat.le_trans (cn_le _ _) r2
  rw [en_8]
  simp (disch := first | omega | assumption | exact own_8 | exact rt_8 | exact sr_57 | exact q_lt1 (hb _ _) | exact bt_lt _ | fail) only [own_8, rt_8, ab_kl_n, ab_kl_i, ab_kl_r, ab_kl_l, at_8_0, Go_iconst, kc_0, at_8_1, Go_istore_2, ab_put_int_2, at_8_2, at_8_3, Go_istore_3, ab_put_int_3, Go_iload_3, at_8_5, Go_aload_1, at_8_6, Go_getf, fl_0_18, gg_3_1, sh_ref, sh_rf, jt_8_9, q_le, q_lt, q_eq, n_leT, n_leF, n_ltT, n_ltF, n_eqF, n_b0, at_8_12, at_8_13, fl_0_39, gg_3_11, at_8_16, at_8_17, Go_iaload, sh_ln, q_in, q_cl, at_8_18, Go_bipush, kb_8, jt_8_20, at_8_23, Go_iload_2, at_8_24, Go_aload_0, at_8_25, at_8_26, at_8_27, cl_0_72, cat_n, cat_i, cat_r, cat_l, tl_i, tl_l, tl_n, sh_same, at_8_30, at_8_33, at_8_34, Go_iinc_3, kc_1, q_add, jt_8_37, at_8_40, at_8_41, Go_reti, Nat.reduceAdd, Nat.reduceMul, Nat.reduceLeDiff, Nat.reduceSub, decide_true, decide_false, Bool.toNat_true, Bool.toNat_false, not_true_eq_false, not_false_eq_true, ite_not, true_and, and_true, if_true, if_false, reduceIte, Bool.or_true, Bool.true_or, Bool.or_false, pr_0 hp, e1, pf_11 hp, pr_16 hp, pn_16 hp, e8]
  refine lp_eq (N := A 0 1) (fun i => Go (ab_at 8 4) 8 4 [some (.ref 57), some (.ref p), some (.int (nI (mx (fun n => if A 10 n = 8 then 0 else sz A P n) i))), some (.int (nI (i)))] [] (SH, I, J) Q) ?_ (fun i hi => ?_)
  · refine Eq.trans (show Go (ab_at 8 4) 8 4 _ _ _ _ = Go (some (.iload_n 3, 1)) 8 4 _ _ _ _ from by rw [at_8_4]) ?_
    simp (disch := first | omega | assumption | exact own_8 | exact rt_8 | exact sr_57 | exact q_lt1 (hb _ _) | exact bt_lt _ | fail) only [own_8, rt_8, ab_kl_n, ab_kl_i, ab_kl_r, ab_kl_l, at_8_0, Go_iconst, kc_0, at_8_1, Go_istore_2, ab_put_int_2, at_8_2, at_8_3, Go_istore_3, ab_put_int_3, Go_iload_3, at_8_5, Go_aload_1, at_8_6, Go_getf, fl_0_18, gg_3_1, sh_ref, sh_rf, jt_8_9, q_le, q_lt, q_eq, n_leT, n_leF, n_ltT, n_ltF, n_eqF, n_b0, at_8_12, at_8_13, fl_0_39, gg_3_11, at_8_16, at_8_17, Go_iaload, sh_ln, q_in, q_cl, at_8_18, Go_bipush, kb_8, jt_8_20, at_8_23, Go_iload_2, at_8_24, Go_aload_0, at_8_25, at_8_26, at_8_27, cl_0_72, cat_n, cat_i, cat_r, cat_l, tl_i, tl_l, tl_n, sh_same, at_8_30, at_8_33, at_8_34, Go_iinc_3, kc_1, q_add, jt_8_37, at_8_40, at_8_41, Go_reti, Nat.reduceAdd, Nat.reduceMul, Nat.reduceLeDiff, Nat.reduceSub, decide_true, decide_false, Bool.toNat_true, Bool.toNat_false, not_true_eq_false, not_false_eq_true, ite_not, true_and, and_true, if_true, if_false, reduceIte, Bool.or_true, Bool.true_or, Bool.or_false, pr_0 hp, e1, pf_11 hp, pr_16 hp, pn_16 hp, e8]
  · refine Eq.trans (show Go (ab_at 8 4) 8 4 _ _ _ _ = Go (some (.iload_n 3, 1)) 8 4 _ _ _ _ from by rw [at_8_4]) ?_
    have hm20 := mx_le (fun n => if A 10 n = 8 then 0 else sz A P n) 20 (fun n => by show (if A 10 n = 8 then 0 else sz A P n) ≤ 20; split; omega; exact hs20 n) i
    by_cases c2 : A 10 i = 8
    · simp (disch := first | omega | assumption | exact own_8 | exact rt_8 | exact sr_57 | exact q_lt1 (hb _ _) | exact bt_lt _ | fail) only [own_8, rt_8, ab_kl_n, ab_kl_i, ab_kl_r, ab_kl_l, at_8_0, Go_iconst, kc_0, at_8_1, Go_istore_2, ab_put_int_2, at_8_2, at_8_3, Go_istore_3, ab_put_int_3, Go_iload_3, at_8_5, Go_aload_1, at_8_6, Go_getf, fl_0_18, gg_3_1, sh_ref, sh_rf, jt_8_9, q_le, q_lt, q_eq, n_leT, n_leF, n_ltT, n_ltF, n_eqF, n_b0, at_8_12, at_8_13, fl_0_39, gg_3_11, at_8_16, at_8_17, Go_iaload, sh_ln, q_in, q_cl, at_8_18, Go_bipush, kb_8, jt_8_20, at_8_23, Go_iload_2, at_8_24, Go_aload_0, at_8_25, at_8_26, at_8_27, cl_0_72, cat_n, cat_i, cat_r, cat_l, tl_i, tl_l, tl_n, sh_same, at_8_30, at_8_33, at_8_34, Go_iinc_3, kc_1, q_add, jt_8_37, at_8_40, at_8_41, Go_reti, Nat.reduceAdd, Nat.reduceMul, Nat.reduceLeDiff, Nat.reduceSub, decide_true, decide_false, Bool.toNat_true, Bool.toNat_false, not_true_eq_false, not_false_eq_true, ite_not, true_and, and_true, if_true, if_false, reduceIte, Bool.or_true, Bool.true_or, Bool.or_false, pr_0 hp, e1, pf_11 hp, pr_16 hp, pn_16 hp, e8, c2]
      have e : mx (fun n => if A 10 n = 8 then 0 else sz A P n) (i + 1) = mx (fun n => if A 10 n = 8 then 0 else sz A P n) i := by
        show max _ (if A 10 i = 8 then 0 else sz A P i) = _
        rw [if_pos c2]
        exact Nat.max_eq_left (Nat.zero_le _)
      rw [e]
    · have hsi := hs20 i
      simp (disch := first | omega | assumption | exact own_8 | exact rt_8 | exact cat8_0 | exact sr_57 | exact q_lt1 (hb _ _) | exact bt_lt _ | fail) only [own_8, rt_8, ab_kl_n, ab_kl_i, ab_kl_r, ab_kl_l, at_8_0, Go_iconst, kc_0, at_8_1, Go_istore_2, ab_put_int_2, at_8_2, at_8_3, Go_istore_3, ab_put_int_3, Go_iload_3, at_8_5, Go_aload_1, at_8_6, Go_getf, fl_0_18, gg_3_1, sh_ref, sh_rf, jt_8_9, q_le, q_lt, q_eq, n_leT, n_leF, n_ltT, n_ltF, n_eqF, n_b0, at_8_12, at_8_13, fl_0_39, gg_3_11, at_8_16, at_8_17, Go_iaload, sh_ln, q_in, q_cl, at_8_18, Go_bipush, kb_8, jt_8_20, at_8_23, Go_iload_2, at_8_24, Go_aload_0, at_8_25, at_8_26, at_8_27, cl_0_72, cat_n, cat_i, cat_r, cat_l, tl_i, tl_l, tl_n, sh_same, at_8_30, at_8_33, at_8_34, Go_iinc_3, kc_1, q_add, jt_8_37, at_8_40, at_8_41, Go_reti, Nat.reduceAdd, Nat.reduceMul, Nat.reduceLeDiff, Nat.reduceSub, decide_true, decide_false, Bool.toNat_true, Bool.toNat_false, not_true_eq_false, not_false_eq_true, ite_not, true_and, and_true, if_true, if_false, reduceIte, Bool.or_true, Bool.true_or, Bool.or_false, pr_0 hp, e1, pf_11 hp, pr_16 hp, pn_16 hp, e8, c2, s1, mm]
      have e : mx (fun n => if A 10 n = 8 then 0 else sz A P n) (i + 1) = max (mx (fun n => if A 10 n = 8 then 0 else sz A P n) i) (sz A P i) := by
        show max _ (if A 10 i = 8 then 0 else sz A P i) = _
        rw [if_neg c2]
      rw [e]
      by_cases c3 : mx (fun n => if A 10 n = 8 then 0 else sz A P n) i < sz A P i
      · rw [if_pos c3, Nat.max_eq_right (Nat.le_of_lt c3)]
      · rw [if_neg c3, Nat.max_eq_left (Nat.not_lt.mp c3)]
/-- the LEADER, as the class finds it -/
def ldc (A : Nat → Nat → Nat) (P : Nat → Nat) (n : Nat) : Nat → Nat
  | 0 => n
  | m + 1 => if P m = P n ∧ sn A m n = true ∧ sn A m (ldc A P n m) = true then m else ldc A P n m
theorem ldc_lt {A : Nat → Nat → Nat} {P : Nat → Nat} {n N : Nat} (hn : n < N) : ∀ m, m ≤ N → ldc A P n m < N := by
  intro m
  induction m with
  | zero => intro _; exact hn
  | succ m ih =>
    intro hm
    unfold ldc
    split
    · omega
    · exact ih (by omega)
theorem x_leaderOf (hp : isP p) (hb : WB A) (hr : WR A) (h : PC p I A) (hg : PG p I A) (hP : ∀ n, n < A 0 1 → P n < 1000) (hF : ∀ n, n < A 0 1 → I 58 n = nI (P n)) {n : Nat} (hn : n < A 0 1) : Ex 10 [.ref 57, .ref p, .int (nI n)] (SH, I, J) Q = Q (some (.int (nI (ldc A P n (A 0 1))))) (SH, I, J) := by
  have s1 := fun n m hn hm Q => x_isSeen (J := J) (Q := Q) (n := n) (m := m) hp hb hr h hg hn hm
  have hp2 := p_lt hp
  obtain ⟨r1, r2, r3, r4⟩ := hr
  obtain ⟨e0, e1, e2, e3, e4, e5, e6, e7, e8, e9, e10, e11, e12⟩ := h
  obtain ⟨g1, g2, g3⟩ := hg
  rw [en_10]
  simp (disch := first | omega | assumption | exact own_10 | exact rt_10 | exact pr_0 (by assumption) | exact q_lt1 (hb _ _) | exact bt_lt _ | fail) only [own_10, rt_10, ab_kl_n, ab_kl_i, ab_kl_r, ab_kl_l, at_10_0, Go_iload_2, at_10_1, Go_istore_3, ab_put_int_3, at_10_2, Go_iconst, kc_0, at_10_3, Go_istore_4, ab_put_int_4, Go_iload_4, at_10_7, Go_aload_1, at_10_8, Go_getf, fl_0_18, gg_3_1, sh_ref, sh_rf, jt_10_11, q_le, q_lt, q_eq, n_leT, n_leF, n_ltT, n_ltF, n_eqF, n_b0, at_10_14, Go_aload_0, at_10_15, fl_0_9, gg_0_0, sr_57, sf_57_0, sr_58, sn_58, at_10_18, at_10_20, Go_iaload, sh_ln, q_in, q_cl, at_10_21, at_10_22, at_10_25, at_10_26, jt_10_27, at_10_30, at_10_31, at_10_33, at_10_34, cl_0_81, cat_n, cat_i, cat_r, cat_l, tl_i, tl_l, tl_n, sh_same, jt_10_37, at_10_40, at_10_41, at_10_43, Go_iload_3, at_10_44, jt_10_47, at_10_50, at_10_52, at_10_53, Go_iinc_4, kc_1, q_add, jt_10_56, at_10_59, at_10_60, Go_reti, Nat.reduceAdd, Nat.reduceMul, Nat.reduceLeDiff, Nat.reduceSub, decide_true, decide_false, Bool.toNat_true, Bool.toNat_false, not_true_eq_false, not_false_eq_true, ite_not, true_and, and_true, if_true, if_false, reduceIte, Bool.or_true, Bool.true_or, Bool.or_false, pr_0 hp, e1]
  refine lp_eq (N := A 0 1) (fun i => Go (ab_at 10 5) 10 5 [some (.ref 57), some (.ref p), some (.int (nI (n))), some (.int (nI (ldc A P n i))), some (.int (nI (i)))] [] (SH, I, J) Q) ?_ (fun i hi => ?_)
  · refine Eq.trans (show Go (ab_at 10 5) 10 5 _ _ _ _ = Go (some (.iload 4, 2)) 10 5 _ _ _ _ from by rw [at_10_5]) ?_
    simp (disch := first | omega | assumption | exact own_10 | exact rt_10 | exact pr_0 (by assumption) | exact q_lt1 (hb _ _) | exact bt_lt _ | fail) only [own_10, rt_10, ab_kl_n, ab_kl_i, ab_kl_r, ab_kl_l, at_10_0, Go_iload_2, at_10_1, Go_istore_3, ab_put_int_3, at_10_2, Go_iconst, kc_0, at_10_3, Go_istore_4, ab_put_int_4, Go_iload_4, at_10_7, Go_aload_1, at_10_8, Go_getf, fl_0_18, gg_3_1, sh_ref, sh_rf, jt_10_11, q_le, q_lt, q_eq, n_leT, n_leF, n_ltT, n_ltF, n_eqF, n_b0, at_10_14, Go_aload_0, at_10_15, fl_0_9, gg_0_0, sr_57, sf_57_0, sr_58, sn_58, at_10_18, at_10_20, Go_iaload, sh_ln, q_in, q_cl, at_10_21, at_10_22, at_10_25, at_10_26, jt_10_27, at_10_30, at_10_31, at_10_33, at_10_34, cl_0_81, cat_n, cat_i, cat_r, cat_l, tl_i, tl_l, tl_n, sh_same, jt_10_37, at_10_40, at_10_41, at_10_43, Go_iload_3, at_10_44, jt_10_47, at_10_50, at_10_52, at_10_53, Go_iinc_4, kc_1, q_add, jt_10_56, at_10_59, at_10_60, Go_reti, Nat.reduceAdd, Nat.reduceMul, Nat.reduceLeDiff, Nat.reduceSub, decide_true, decide_false, Bool.toNat_true, Bool.toNat_false, not_true_eq_false, not_false_eq_true, ite_not, true_and, and_true, if_true, if_false, reduceIte, Bool.or_true, Bool.true_or, Bool.or_false, pr_0 hp, e1]
  · refine Eq.trans (show Go (ab_at 10 5) 10 5 _ _ _ _ = Go (some (.iload 4, 2)) 10 5 _ _ _ _ from by rw [at_10_5]) ?_
    have hl := ldc_lt (A := A) (P := P) hn i (by omega)
    simp (disch := first | omega | assumption | exact own_10 | exact rt_10 | exact q_lt1 (hP _ (by omega)) | exact pr_0 (by assumption) | exact q_lt1 (hb _ _) | exact bt_lt _ | fail) only [own_10, rt_10, ab_kl_n, ab_kl_i, ab_kl_r, ab_kl_l, at_10_0, Go_iload_2, at_10_1, Go_istore_3, ab_put_int_3, at_10_2, Go_iconst, kc_0, at_10_3, Go_istore_4, ab_put_int_4, Go_iload_4, at_10_7, Go_aload_1, at_10_8, Go_getf, fl_0_18, gg_3_1, sh_ref, sh_rf, jt_10_11, q_le, q_lt, q_eq, n_leT, n_leF, n_ltT, n_ltF, n_eqF, n_b0, at_10_14, Go_aload_0, at_10_15, fl_0_9, gg_0_0, sr_57, sf_57_0, sr_58, sn_58, at_10_18, at_10_20, Go_iaload, sh_ln, q_in, q_cl, at_10_21, at_10_22, at_10_25, at_10_26, jt_10_27, at_10_30, at_10_31, at_10_33, at_10_34, cl_0_81, cat_n, cat_i, cat_r, cat_l, tl_i, tl_l, tl_n, sh_same, jt_10_37, at_10_40, at_10_41, at_10_43, Go_iload_3, at_10_44, jt_10_47, at_10_50, at_10_52, at_10_53, Go_iinc_4, kc_1, q_add, jt_10_56, at_10_59, at_10_60, Go_reti, Nat.reduceAdd, Nat.reduceMul, Nat.reduceLeDiff, Nat.reduceSub, decide_true, decide_false, Bool.toNat_true, Bool.toNat_false, not_true_eq_false, not_false_eq_true, ite_not, true_and, and_true, if_true, if_false, reduceIte, Bool.or_true, Bool.true_or, Bool.or_false, pr_0 hp, e1, hF, s1]
    have e : ldc A P n (i + 1) = if P i = P n ∧ sn A i n = true ∧ sn A i (ldc A P n i) = true then i else ldc A P n i := rfl
    rw [e]
    by_cases c : P i = P n <;> cases c2 : sn A i n <;> cases c3 : sn A i (ldc A P n i) <;> simp [c]
end SPM
