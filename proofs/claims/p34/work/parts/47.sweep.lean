/-! WHAT IS NEEDED -/
theorem vn0 : vp_nar .boolean (nI 0) = nI 0 := by decide
theorem vn1 : vp_nar .boolean (nI 1) = nI 1 := by decide
theorem pk_41 {p : Nat} (h : isP p) : ab_kd sh_z (p + 41) = 12 := by rcases h with rfl | rfl | rfl | rfl <;> decide +kernel
def opn (A : Nat → Nat → Nat) (n : Nat) (q : Nat) : Bool := ay (fun i => decide (A 14 (6 * n + i) = q)) (A 12 n)
def mkN (A : Nat → Nat → Nat) : Nat → (Nat → Bool) → (Nat → Bool)
  | 0, S => S
  | n + 1, S => fun q => mkN A n S q || (mkN A n S n && opn A n q)
def itN (A : Nat → Nat → Nat) : Nat → (Nat → Bool) → (Nat → Bool)
  | 0, S => S
  | k + 1, S => mkN A (A 0 1) (itN A k S)
def nd0 (A : Nat → Nat → Nat) (b : Nat) (q : Nat) : Bool := ay (fun b => decide (¬ A 3 b = 0 ∧ A 6 b = q)) b
def need (A : Nat → Nat → Nat) : Nat → Bool := itN A 20 (nd0 A (A 0 0))
section NED
variable {A : Nat → Nat → Nat}
theorem mkN_up (n : Nat) (S : Nat → Bool) (q : Nat) (h : S q = true) : mkN A n S q = true := by
  induction n with
  | zero => exact h
  | succ n ih =>
    show (mkN A n S q || (mkN A n S n && opn A n q)) = true
    rw [ih, Bool.true_or]
theorem mkN_in (hr : WR A) (S : Nat → Bool) (q : Nat) : ∀ n, n ≤ A 0 1 → mkN A n S q = true → S q = true ∨ q < A 0 1 := by
  intro n
  induction n with
  | zero => intro _ h; exact Or.inl h
  | succ n ih =>
    intro hn h
    have h : (mkN A n S q || (mkN A n S n && opn A n q)) = true := h
    rw [Bool.or_eq_true, Bool.and_eq_true] at h
    rcases h with h | ⟨-, h⟩
    · exact ih (by omega) h
    · obtain ⟨i, hi, e⟩ := (ay_iff _ _).mp h
      rw [decide_eq_true_eq] at e
      have := (hr.2.2.2 n (by omega)).2.2.2.2.2.2.2.2.2.2 i hi
      exact Or.inr (by omega)
theorem cn_full {f : Nat → Bool} : ∀ n, cn f n = n → ∀ i, i < n → f i = true := by
  intro n
  induction n with
  | zero => intro _ i hi; omega
  | succ n ih =>
    intro h i hi
    have h1 := cn_le f n
    have h2 := Bool.toNat_le (f n)
    have h3 : cn f n + (f n).toNat = n + 1 := h
    rcases Nat.lt_or_ge i n with c | c
    · exact ih (by omega) i c
    · have : i = n := by omega
      subst this
      cases hf : f i with
      | true => rfl
      | false => rw [hf] at h3; simp at h3; omega
theorem itN_stable (S : Nat → Bool) {j : Nat} (h : itN A (j + 1) S = itN A j S) : ∀ d, itN A (j + d) S = itN A j S := by
  intro d
  induction d with
  | zero => rfl
  | succ d ih =>
    show mkN A (A 0 1) (itN A (j + d) S) = _
    rw [ih]
    exact h
theorem itN_same (hr : WR A) (S : Nat → Bool) : itN A (A 0 1) S = itN A 20 S := by
  have r2 := hr.2.1
  have key : ∀ k, (∃ j, j ≤ k ∧ itN A (j + 1) S = itN A j S) ∨ k + 1 ≤ cn (itN A (k + 1) S) (A 0 1) := by
    intro k
    induction k with
    | zero =>
      by_cases e : itN A 1 S = itN A 0 S
      · exact Or.inl ⟨0, Nat.le_refl _, e⟩
      · right
        have : ∃ q, itN A 1 S q ≠ itN A 0 S q := Classical.byContradiction fun z => e (funext fun q => Classical.byContradiction fun y => z ⟨q, y⟩)
        obtain ⟨q, hq⟩ := this
        have hf : itN A 0 S q = false := by
          cases hz : itN A 0 S q with
          | false => rfl
          | true => exact absurd ((mkN_up (A 0 1) _ q hz).trans hz.symm) hq
        have ht : itN A 1 S q = true := by
          cases hz : itN A 1 S q with
          | true => rfl
          | false => exact absurd (hz.trans hf.symm) hq
        rcases mkN_in hr _ q _ (Nat.le_refl _) ht with z | z
        · have z2 : itN A 0 S q = true := z
          rw [hf] at z2
          cases z2
        · exact cn_pos z ht
    | succ k ih =>
      rcases ih with ⟨j, hj, e⟩ | ih
      · exact Or.inl ⟨j, by omega, e⟩
      · by_cases e : itN A (k + 1 + 1) S = itN A (k + 1) S
        · exact Or.inl ⟨k + 1, Nat.le_refl _, e⟩
        · right
          have : ∃ q, itN A (k + 1 + 1) S q ≠ itN A (k + 1) S q := Classical.byContradiction fun z => e (funext fun q => Classical.byContradiction fun y => z ⟨q, y⟩)
          obtain ⟨q, hq⟩ := this
          have hf : itN A (k + 1) S q = false := by
            cases hz : itN A (k + 1) S q with
            | false => rfl
            | true => exact absurd ((mkN_up (A 0 1) _ q hz).trans hz.symm) hq
          have ht : itN A (k + 1 + 1) S q = true := by
            cases hz : itN A (k + 1 + 1) S q with
            | true => rfl
            | false => exact absurd (hz.trans hf.symm) hq
          rcases mkN_in hr _ q _ (Nat.le_refl _) ht with z | z
          · have z2 : itN A (k + 1) S q = true := z
            rw [hf] at z2
            cases z2
          · have := cn_lt (f := itN A (k + 1) S) (g := itN A (k + 1 + 1) S) (A 0 1) (fun i _ hi => mkN_up (A 0 1) _ i hi) ⟨q, z, hf, ht⟩
            omega
  have st : ∃ j, j ≤ A 0 1 ∧ itN A (j + 1) S = itN A j S := by
    rcases Nat.eq_zero_or_pos (A 0 1) with z | z
    · refine ⟨0, by omega, ?_⟩
      show mkN A (A 0 1) S = S
      rw [z]
      rfl
    · rcases key (A 0 1 - 1) with ⟨j, hj, e⟩ | h
      · exact ⟨j, by omega, e⟩
      · have e2 : A 0 1 - 1 + 1 = A 0 1 := by omega
        rw [e2] at h
        have full := cn_full (f := itN A (A 0 1) S) (A 0 1) (by have := cn_le (itN A (A 0 1) S) (A 0 1); omega)
        refine ⟨A 0 1, Nat.le_refl _, funext fun q => ?_⟩
        show mkN A (A 0 1) (itN A (A 0 1) S) q = itN A (A 0 1) S q
        cases hz : itN A (A 0 1) S q with
        | true => exact mkN_up _ _ _ hz
        | false =>
          cases hw : mkN A (A 0 1) (itN A (A 0 1) S) q with
          | false => rfl
          | true =>
            rcases mkN_in hr _ q _ (Nat.le_refl _) hw with y | y
            · rw [hz] at y; cases y
            · rw [full q y] at hz; cases hz
  obtain ⟨j, hj, e⟩ := st
  have s1 := itN_stable S e (A 0 1 - j)
  have s2 := itN_stable S e (20 - j)
  rw [show j + (A 0 1 - j) = A 0 1 by omega] at s1
  rw [show j + (20 - j) = 20 by omega] at s2
  rw [s1, s2]
end NED
section SWC
variable {I : Nat → Nat → Int32} {J : Nat → Nat → Int64} {Q : Option Value → ab_H → Prop} {A : Nat → Nat → Nat} {p : Nat} {R : Prop} {S : Nat → Bool}
def NS (p : Nat) (I : Nat → Nat → Int32) (A : Nat → Nat → Nat) (S : Nat → Bool) : Prop := ∀ q, q < A 0 1 → I (p + 41) q = nI (S q).toNat
theorem PC_fr2 {I' : Nat → Nat → Int32} (hf : ∀ o k, o ≠ p + 41 → I' o k = I o k) (hr : WR A) (h : PC p I A) : PC p I' A := by
  obtain ⟨e0, e1, e2, e3, e4, e5, e6, e7, e8, e9, e10, e11, e12⟩ := h
  have hN := hr.2.1
  refine ⟨?_, ?_, fun b hb => ?_, fun b hb => ?_, fun b hb => ?_, fun b hb hc => ?_, fun b hb hc => ?_, fun b hb hc => ?_, fun n hn => ?_, fun n hn => ?_, fun n hn => ?_, fun n hn hc => ?_, fun n i hn hi => ?_⟩ <;> rw [hf _ _ (by omega)]
  · exact e0
  · exact e1
  · exact e2 b hb
  · exact e3 b hb
  · exact e4 b hb
  · exact e5 b hb hc
  · exact e6 b hb hc
  · exact e7 b hb hc
  · exact e8 n hn
  · exact e9 n hn
  · exact e10 n hn
  · exact e11 n hn hc
  · exact e12 n i hn hi
theorem PG_fr4 {I' : Nat → Nat → Int32} (hf : ∀ o k, o ≠ p + 41 → I' o k = I o k) (hr : WR A) (h : PG p I A) : PG p I' A := by
  obtain ⟨g1, g2, g3⟩ := h
  have hN := hr.1
  refine ⟨fun b hb => ?_, fun b i hb hi => ?_, fun b hb => ?_⟩ <;> rw [hf _ _ (by omega)]
  · exact g1 b hb
  · exact g2 b i hb hi
  · exact g3 b hb
theorem x_markOperands (hp : isP p) (hb : WB A) (hr : WR A) (h : PC p I A) (hg : PG p I A) {n : Nat} (hn : n < A 0 1) (hS : NS p I A S) (K : ∀ I', (∀ o k, o ≠ p + 41 → I' o k = I o k) → NS p I' A (fun q => S q || opn A n q) → Q none (SH, I', J)) : Ex 68 [.ref p, .int (nI n)] (SH, I, J) Q := by
  have hp2 := p_lt hp
  have r1 := hr.1
  have r2 := hr.2.1
  have a2 := (hr.2.2.2 n hn).2.2.1
  have a10 := (hr.2.2.2 n hn).2.2.2.2.2.2.2.2.2.2
  rw [en_68]
  simp (disch := first | omega | assumption | exact own_68 | exact rt_68 | exact q_lt1 (hb _ _) | exact bt_lt _ | fail) only [own_68, rt_68, ab_kl_n, ab_kl_i, ab_kl_r, ab_kl_l, at_68_0, Go_iconst, kc_0, at_68_1, Go_istore_2, ab_put_int_2, Go_iload_2, at_68_3, Go_aload_0, at_68_4, Go_getf, fl_3_47, gg_3_13, sh_ref, sh_rf, at_68_7, Go_iload_1, at_68_8, Go_iaload, sh_ln, q_in, q_cl, jt_68_9, q_le, q_lt, q_eq, n_leT, n_leF, n_ltT, n_ltF, n_eqF, n_b0, at_68_12, at_68_13, fl_3_56, gg_3_16, at_68_16, at_68_17, fl_3_53, gg_3_15, at_68_20, at_68_21, Go_aaload, at_68_22, at_68_23, at_68_24, kc_1, at_68_25, Go_bastore, sh_seti, sh_kd, at_68_26, Go_iinc_2, q_add, jt_68_29, at_68_32, Go_return, Nat.reduceAdd, Nat.reduceMul, Nat.reduceLeDiff, Nat.reduceSub, decide_true, decide_false, Bool.toNat_true, Bool.toNat_false, not_true_eq_false, not_false_eq_true, ite_not, true_and, and_true, if_true, if_false, ↓reduceIte, Bool.or_true, Bool.true_or, Bool.or_false]
  refine lp_wp (a := 0) (N := A 12 n) (Nat.zero_le _) (fun i => ∀ I', (∀ o k, o ≠ p + 41 → I' o k = I o k) → NS p I' A (fun q => S q || ay (fun i => decide (A 14 (6 * n + i) = q)) i) → Go (ab_at 68 2) 68 2 [some (.ref p), some (.int (nI (n))), some (.int (nI (i)))] []  (SH, I', J) Q) (fun I' hf hn2 => ?_) (fun i _ hi ih I' hf hn2 => ?_) I (fun _ _ _ => rfl) (fun q hq => by rw [hS q hq]; show _ = nI (S q || false).toNat; rw [Bool.or_false])
  · have h' := PC_fr2 (I' := I') hf hr h
    have e10 := h'.2.2.2.2.2.2.2.2.2.2.1
    rw [at_68_2]
    simp (disch := first | omega | assumption | exact own_68 | exact rt_68 | exact q_lt1 (hb _ _) | exact bt_lt _ | fail) only [own_68, rt_68, ab_kl_n, ab_kl_i, ab_kl_r, ab_kl_l, at_68_0, Go_iconst, kc_0, at_68_1, Go_istore_2, ab_put_int_2, Go_iload_2, at_68_3, Go_aload_0, at_68_4, Go_getf, fl_3_47, gg_3_13, sh_ref, sh_rf, at_68_7, Go_iload_1, at_68_8, Go_iaload, sh_ln, q_in, q_cl, jt_68_9, q_le, q_lt, q_eq, n_leT, n_leF, n_ltT, n_ltF, n_eqF, n_b0, at_68_12, at_68_13, fl_3_56, gg_3_16, at_68_16, at_68_17, fl_3_53, gg_3_15, at_68_20, at_68_21, Go_aaload, at_68_22, at_68_23, at_68_24, kc_1, at_68_25, Go_bastore, sh_seti, sh_kd, at_68_26, Go_iinc_2, q_add, jt_68_29, at_68_32, Go_return, Nat.reduceAdd, Nat.reduceMul, Nat.reduceLeDiff, Nat.reduceSub, decide_true, decide_false, Bool.toNat_true, Bool.toNat_false, not_true_eq_false, not_false_eq_true, ite_not, true_and, and_true, if_true, if_false, ↓reduceIte, Bool.or_true, Bool.true_or, Bool.or_false, e10, pf_13 hp, pr_18 hp, pn_18 hp, pr_0 hp]
    exact K I' hf hn2
  · have h' := PC_fr2 (I' := I') hf hr h
    have e10 := h'.2.2.2.2.2.2.2.2.2.2.1
    have w0 := h'.2.2.2.2.2.2.2.2.2.2.2.2 n i hn hi
    have o1 := a10 i hi
    rw [at_68_2]
    simp (disch := first | omega | assumption | exact own_68 | exact rt_68 | exact q_lt1 (hb _ _) | exact bt_lt _ | fail) only [own_68, rt_68, ab_kl_n, ab_kl_i, ab_kl_r, ab_kl_l, at_68_0, Go_iconst, kc_0, at_68_1, Go_istore_2, ab_put_int_2, Go_iload_2, at_68_3, Go_aload_0, at_68_4, Go_getf, fl_3_47, gg_3_13, sh_ref, sh_rf, at_68_7, Go_iload_1, at_68_8, Go_iaload, sh_ln, q_in, q_cl, jt_68_9, q_le, q_lt, q_eq, n_leT, n_leF, n_ltT, n_ltF, n_eqF, n_b0, at_68_12, at_68_13, fl_3_56, gg_3_16, at_68_16, at_68_17, fl_3_53, gg_3_15, at_68_20, at_68_21, Go_aaload, at_68_22, at_68_23, at_68_24, kc_1, at_68_25, Go_bastore, sh_seti, sh_kd, at_68_26, Go_iinc_2, q_add, jt_68_29, at_68_32, Go_return, Nat.reduceAdd, Nat.reduceMul, Nat.reduceLeDiff, Nat.reduceSub, decide_true, decide_false, Bool.toNat_true, Bool.toNat_false, not_true_eq_false, not_false_eq_true, ite_not, true_and, and_true, if_true, if_false, ↓reduceIte, Bool.or_true, Bool.true_or, Bool.or_false, e10, w0, pf_13 hp, pr_18 hp, pn_18 hp, pf_15 hp, pr_20 hp, pn_20 hp, orow hp, orow_r hp, orow_n hp, pf_16 hp, pr_41 hp, pn_41 hp, pk_41 hp, vn1, pr_0 hp]
    refine ih _ (fun o k ho => by rw [fr_seti ho]; exact hf o k ho) (fun q hq => ?_)
    show _ = nI (S q || (ay (fun i => decide (A 14 (6 * n + i) = q)) i || decide (A 14 (6 * n + i) = q))).toNat
    have hh : I' (p + 41) q = nI (S q || ay (fun i => decide (A 14 (6 * n + i) = q)) i).toNat := hn2 q hq
    by_cases z : q = A 14 (6 * n + i)
    · rw [z, fr_sets, decide_eq_true rfl, Bool.or_true, Bool.or_true]
      rfl
    · rw [fr_setk z, hh, decide_eq_false (fun y => z y.symm), Bool.or_false]
theorem x_findNeeded (hp : isP p) (hb : WB A) (hr : WR A) (h : PC p I A) (hg : PG p I A) (K : ∀ I', (∀ o k, o ≠ p + 41 → I' o k = I o k) → NS p I' A (need A) → Q none (SH, I', J)) : Ex 67 [.ref p] (SH, I, J) Q := by
  have hpp : p = 4 ∨ p = 73 ∨ p = 115 ∨ p = 157 := hp
  have hp2 := p_lt hp
  have r1 := hr.1
  have r2 := hr.2.1
  rw [en_67]
  simp (disch := first | omega | assumption | exact own_67 | exact rt_67 | exact pr_0 (by assumption) | exact q_lt1 (hb _ _) | exact bt_lt _ | fail) only [own_67, rt_67, ab_kl_n, ab_kl_i, ab_kl_r, ab_kl_l, at_67_0, Go_iconst, kc_0, at_67_1, Go_istore_1, ab_put_int_1, Go_iload_1, at_67_3, Go_aload_0, at_67_4, Go_getf, fl_3_64, gg_3_1, sh_ref, sh_rf, jt_67_7, q_le, q_lt, q_eq, n_leT, n_leF, n_ltT, n_ltF, n_eqF, n_b0, at_67_10, at_67_11, fl_3_56, gg_3_16, at_67_14, at_67_15, at_67_16, Go_bastore, sh_ln, q_in, q_cl, sh_seti, sh_kd, at_67_17, Go_iinc_1, kc_1, q_add, jt_67_20, at_67_23, at_67_24, at_67_26, at_67_27, fl_3_60, gg_3_0, jt_67_30, at_67_33, at_67_34, fl_3_18, gg_3_4, at_67_37, at_67_38, Go_iaload, jt_67_39, at_67_42, at_67_43, at_67_46, at_67_47, fl_3_27, gg_3_7, at_67_50, at_67_51, at_67_52, at_67_53, at_67_54, jt_67_57, at_67_60, at_67_61, at_67_63, at_67_64, jt_67_67, at_67_70, at_67_71, Go_istore_2, ab_put_int_2, Go_iload_2, at_67_73, at_67_74, jt_67_77, at_67_80, at_67_81, at_67_84, at_67_85, Go_baload, jt_67_86, at_67_89, at_67_90, at_67_91, cl_3_115, cat_n, cat_i, cat_r, cat_l, tl_i, tl_l, tl_n, sh_same, at_67_94, Go_iinc_2, jt_67_97, at_67_100, jt_67_103, at_67_106, Go_return, Nat.reduceAdd, Nat.reduceMul, Nat.reduceLeDiff, Nat.reduceSub, decide_true, decide_false, Bool.toNat_true, Bool.toNat_false, not_true_eq_false, not_false_eq_true, ite_not, true_and, and_true, if_true, if_false, ↓reduceIte, Bool.or_true, Bool.true_or, Bool.or_false]
  refine lp_wp (a := 0) (N := A 0 1) (Nat.zero_le _) (fun i => ∀ I', (∀ o k, o ≠ p + 41 → I' o k = I o k) → (∀ q, q < i → I' (p + 41) q = nI 0) → Go (ab_at 67 2) 67 2 [some (.ref p), some (.int (nI (i))), none] []  (SH, I', J) Q) (fun I' hf hz => ?_) (fun i _ hi ih I' hf hz => ?_) I (fun _ _ _ => rfl) (fun q hq => absurd hq (Nat.not_lt_zero q))
  · have e1 := (PC_fr2 (I' := I') hf hr h).2.1
    rw [at_67_2]
    simp (disch := first | omega | assumption | exact own_67 | exact rt_67 | exact pr_0 (by assumption) | exact q_lt1 (hb _ _) | exact bt_lt _ | fail) only [own_67, rt_67, ab_kl_n, ab_kl_i, ab_kl_r, ab_kl_l, at_67_0, Go_iconst, kc_0, at_67_1, Go_istore_1, ab_put_int_1, Go_iload_1, at_67_3, Go_aload_0, at_67_4, Go_getf, fl_3_64, gg_3_1, sh_ref, sh_rf, jt_67_7, q_le, q_lt, q_eq, n_leT, n_leF, n_ltT, n_ltF, n_eqF, n_b0, at_67_10, at_67_11, fl_3_56, gg_3_16, at_67_14, at_67_15, at_67_16, Go_bastore, sh_ln, q_in, q_cl, sh_seti, sh_kd, at_67_17, Go_iinc_1, kc_1, q_add, jt_67_20, at_67_23, at_67_24, at_67_26, at_67_27, fl_3_60, gg_3_0, jt_67_30, at_67_33, at_67_34, fl_3_18, gg_3_4, at_67_37, at_67_38, Go_iaload, jt_67_39, at_67_42, at_67_43, at_67_46, at_67_47, fl_3_27, gg_3_7, at_67_50, at_67_51, at_67_52, at_67_53, at_67_54, jt_67_57, at_67_60, at_67_61, at_67_63, at_67_64, jt_67_67, at_67_70, at_67_71, Go_istore_2, ab_put_int_2, Go_iload_2, at_67_73, at_67_74, jt_67_77, at_67_80, at_67_81, at_67_84, at_67_85, Go_baload, jt_67_86, at_67_89, at_67_90, at_67_91, cl_3_115, cat_n, cat_i, cat_r, cat_l, tl_i, tl_l, tl_n, sh_same, at_67_94, Go_iinc_2, jt_67_97, at_67_100, jt_67_103, at_67_106, Go_return, Nat.reduceAdd, Nat.reduceMul, Nat.reduceLeDiff, Nat.reduceSub, decide_true, decide_false, Bool.toNat_true, Bool.toNat_false, not_true_eq_false, not_false_eq_true, ite_not, true_and, and_true, if_true, if_false, ↓reduceIte, Bool.or_true, Bool.true_or, Bool.or_false, e1, pr_0 hp]
    refine lp_wp (a := 0) (N := A 0 0) (Nat.zero_le _) (fun b => ∀ I', (∀ o k, o ≠ p + 41 → I' o k = I o k) → NS p I' A (nd0 A b) → Go (ab_at 67 25) 67 25 [some (.ref p), some (.int (nI (b))), none] []  (SH, I', J) Q) (fun I' hf hS => ?_) (fun b _ hb' ih I' hf hS => ?_) I' hf (fun q hq => hz q hq)
    · have h' := PC_fr2 (I' := I') hf hr h
      have e0 := h'.1
      rw [at_67_25]
      simp (disch := first | omega | assumption | exact own_67 | exact rt_67 | exact pr_0 (by assumption) | exact q_lt1 (hb _ _) | exact bt_lt _ | fail) only [own_67, rt_67, ab_kl_n, ab_kl_i, ab_kl_r, ab_kl_l, at_67_0, Go_iconst, kc_0, at_67_1, Go_istore_1, ab_put_int_1, Go_iload_1, at_67_3, Go_aload_0, at_67_4, Go_getf, fl_3_64, gg_3_1, sh_ref, sh_rf, jt_67_7, q_le, q_lt, q_eq, n_leT, n_leF, n_ltT, n_ltF, n_eqF, n_b0, at_67_10, at_67_11, fl_3_56, gg_3_16, at_67_14, at_67_15, at_67_16, Go_bastore, sh_ln, q_in, q_cl, sh_seti, sh_kd, at_67_17, Go_iinc_1, kc_1, q_add, jt_67_20, at_67_23, at_67_24, at_67_26, at_67_27, fl_3_60, gg_3_0, jt_67_30, at_67_33, at_67_34, fl_3_18, gg_3_4, at_67_37, at_67_38, Go_iaload, jt_67_39, at_67_42, at_67_43, at_67_46, at_67_47, fl_3_27, gg_3_7, at_67_50, at_67_51, at_67_52, at_67_53, at_67_54, jt_67_57, at_67_60, at_67_61, at_67_63, at_67_64, jt_67_67, at_67_70, at_67_71, Go_istore_2, ab_put_int_2, Go_iload_2, at_67_73, at_67_74, jt_67_77, at_67_80, at_67_81, at_67_84, at_67_85, Go_baload, jt_67_86, at_67_89, at_67_90, at_67_91, cl_3_115, cat_n, cat_i, cat_r, cat_l, tl_i, tl_l, tl_n, sh_same, at_67_94, Go_iinc_2, jt_67_97, at_67_100, jt_67_103, at_67_106, Go_return, Nat.reduceAdd, Nat.reduceMul, Nat.reduceLeDiff, Nat.reduceSub, decide_true, decide_false, Bool.toNat_true, Bool.toNat_false, not_true_eq_false, not_false_eq_true, ite_not, true_and, and_true, if_true, if_false, ↓reduceIte, Bool.or_true, Bool.true_or, Bool.or_false, e0, pr_0 hp]
      refine lp_wp (a := 0) (N := A 0 1) (Nat.zero_le _) (fun k => ∀ (I' : Nat → Nat → Int32) (v : Option Value), (∀ o k, o ≠ p + 41 → I' o k = I o k) → NS p I' A (itN A k (nd0 A (A 0 0))) → Go (ab_at 67 62) 67 62 [some (.ref p), some (.int (nI (k))), v] []  (SH, I', J) Q) (fun I' v hf hS => ?_) (fun k _ hk ih I' v hf hS => ?_) I' none hf hS
      · have e1 := (PC_fr2 (I' := I') hf hr h).2.1
        rw [at_67_62]
        simp (disch := first | omega | assumption | exact own_67 | exact rt_67 | exact pr_0 (by assumption) | exact q_lt1 (hb _ _) | exact bt_lt _ | fail) only [own_67, rt_67, ab_kl_n, ab_kl_i, ab_kl_r, ab_kl_l, at_67_0, Go_iconst, kc_0, at_67_1, Go_istore_1, ab_put_int_1, Go_iload_1, at_67_3, Go_aload_0, at_67_4, Go_getf, fl_3_64, gg_3_1, sh_ref, sh_rf, jt_67_7, q_le, q_lt, q_eq, n_leT, n_leF, n_ltT, n_ltF, n_eqF, n_b0, at_67_10, at_67_11, fl_3_56, gg_3_16, at_67_14, at_67_15, at_67_16, Go_bastore, sh_ln, q_in, q_cl, sh_seti, sh_kd, at_67_17, Go_iinc_1, kc_1, q_add, jt_67_20, at_67_23, at_67_24, at_67_26, at_67_27, fl_3_60, gg_3_0, jt_67_30, at_67_33, at_67_34, fl_3_18, gg_3_4, at_67_37, at_67_38, Go_iaload, jt_67_39, at_67_42, at_67_43, at_67_46, at_67_47, fl_3_27, gg_3_7, at_67_50, at_67_51, at_67_52, at_67_53, at_67_54, jt_67_57, at_67_60, at_67_61, at_67_63, at_67_64, jt_67_67, at_67_70, at_67_71, Go_istore_2, ab_put_int_2, Go_iload_2, at_67_73, at_67_74, jt_67_77, at_67_80, at_67_81, at_67_84, at_67_85, Go_baload, jt_67_86, at_67_89, at_67_90, at_67_91, cl_3_115, cat_n, cat_i, cat_r, cat_l, tl_i, tl_l, tl_n, sh_same, at_67_94, Go_iinc_2, jt_67_97, at_67_100, jt_67_103, at_67_106, Go_return, Nat.reduceAdd, Nat.reduceMul, Nat.reduceLeDiff, Nat.reduceSub, decide_true, decide_false, Bool.toNat_true, Bool.toNat_false, not_true_eq_false, not_false_eq_true, ite_not, true_and, and_true, if_true, if_false, ↓reduceIte, Bool.or_true, Bool.true_or, Bool.or_false, e1, pr_0 hp]
        rw [itN_same hr] at hS
        exact K I' hf hS
      · have e1 := (PC_fr2 (I' := I') hf hr h).2.1
        rw [at_67_62]
        simp (disch := first | omega | assumption | exact own_67 | exact rt_67 | exact pr_0 (by assumption) | exact q_lt1 (hb _ _) | exact bt_lt _ | fail) only [own_67, rt_67, ab_kl_n, ab_kl_i, ab_kl_r, ab_kl_l, at_67_0, Go_iconst, kc_0, at_67_1, Go_istore_1, ab_put_int_1, Go_iload_1, at_67_3, Go_aload_0, at_67_4, Go_getf, fl_3_64, gg_3_1, sh_ref, sh_rf, jt_67_7, q_le, q_lt, q_eq, n_leT, n_leF, n_ltT, n_ltF, n_eqF, n_b0, at_67_10, at_67_11, fl_3_56, gg_3_16, at_67_14, at_67_15, at_67_16, Go_bastore, sh_ln, q_in, q_cl, sh_seti, sh_kd, at_67_17, Go_iinc_1, kc_1, q_add, jt_67_20, at_67_23, at_67_24, at_67_26, at_67_27, fl_3_60, gg_3_0, jt_67_30, at_67_33, at_67_34, fl_3_18, gg_3_4, at_67_37, at_67_38, Go_iaload, jt_67_39, at_67_42, at_67_43, at_67_46, at_67_47, fl_3_27, gg_3_7, at_67_50, at_67_51, at_67_52, at_67_53, at_67_54, jt_67_57, at_67_60, at_67_61, at_67_63, at_67_64, jt_67_67, at_67_70, at_67_71, Go_istore_2, ab_put_int_2, Go_iload_2, at_67_73, at_67_74, jt_67_77, at_67_80, at_67_81, at_67_84, at_67_85, Go_baload, jt_67_86, at_67_89, at_67_90, at_67_91, cl_3_115, cat_n, cat_i, cat_r, cat_l, tl_i, tl_l, tl_n, sh_same, at_67_94, Go_iinc_2, jt_67_97, at_67_100, jt_67_103, at_67_106, Go_return, Nat.reduceAdd, Nat.reduceMul, Nat.reduceLeDiff, Nat.reduceSub, decide_true, decide_false, Bool.toNat_true, Bool.toNat_false, not_true_eq_false, not_false_eq_true, ite_not, true_and, and_true, if_true, if_false, ↓reduceIte, Bool.or_true, Bool.true_or, Bool.or_false, e1, pr_0 hp]
        refine lp_wp (a := 0) (N := A 0 1) (Nat.zero_le _) (fun n => ∀ (I' : Nat → Nat → Int32), (∀ o k, o ≠ p + 41 → I' o k = I o k) → NS p I' A (mkN A n (itN A k (nd0 A (A 0 0)))) → Go (ab_at 67 72) 67 72 [some (.ref p), some (.int (nI (k))), some (.int (nI (n)))] []  (SH, I', J) Q) (fun I' hf hS => ?_) (fun n _ hn ih2 I' hf hS => ?_) I' hf hS
        · have e1 := (PC_fr2 (I' := I') hf hr h).2.1
          rw [at_67_72]
          simp (disch := first | omega | assumption | exact own_67 | exact rt_67 | exact pr_0 (by assumption) | exact q_lt1 (hb _ _) | exact bt_lt _ | fail) only [own_67, rt_67, ab_kl_n, ab_kl_i, ab_kl_r, ab_kl_l, at_67_0, Go_iconst, kc_0, at_67_1, Go_istore_1, ab_put_int_1, Go_iload_1, at_67_3, Go_aload_0, at_67_4, Go_getf, fl_3_64, gg_3_1, sh_ref, sh_rf, jt_67_7, q_le, q_lt, q_eq, n_leT, n_leF, n_ltT, n_ltF, n_eqF, n_b0, at_67_10, at_67_11, fl_3_56, gg_3_16, at_67_14, at_67_15, at_67_16, Go_bastore, sh_ln, q_in, q_cl, sh_seti, sh_kd, at_67_17, Go_iinc_1, kc_1, q_add, jt_67_20, at_67_23, at_67_24, at_67_26, at_67_27, fl_3_60, gg_3_0, jt_67_30, at_67_33, at_67_34, fl_3_18, gg_3_4, at_67_37, at_67_38, Go_iaload, jt_67_39, at_67_42, at_67_43, at_67_46, at_67_47, fl_3_27, gg_3_7, at_67_50, at_67_51, at_67_52, at_67_53, at_67_54, jt_67_57, at_67_60, at_67_61, at_67_63, at_67_64, jt_67_67, at_67_70, at_67_71, Go_istore_2, ab_put_int_2, Go_iload_2, at_67_73, at_67_74, jt_67_77, at_67_80, at_67_81, at_67_84, at_67_85, Go_baload, jt_67_86, at_67_89, at_67_90, at_67_91, cl_3_115, cat_n, cat_i, cat_r, cat_l, tl_i, tl_l, tl_n, sh_same, at_67_94, Go_iinc_2, jt_67_97, at_67_100, jt_67_103, at_67_106, Go_return, Nat.reduceAdd, Nat.reduceMul, Nat.reduceLeDiff, Nat.reduceSub, decide_true, decide_false, Bool.toNat_true, Bool.toNat_false, not_true_eq_false, not_false_eq_true, ite_not, true_and, and_true, if_true, if_false, ↓reduceIte, Bool.or_true, Bool.true_or, Bool.or_false, e1, pr_0 hp]
          exact ih I' _ hf hS
        · have h' := PC_fr2 (I' := I') hf hr h
          have hg' := PG_fr4 (I' := I') hf hr hg
          have e1 := h'.2.1
          have s0 := hS n hn
          rw [at_67_72]
          cases c : mkN A n (itN A k (nd0 A (A 0 0))) n with
          | true =>
            rw [c] at s0
            simp (disch := first | omega | assumption | exact own_67 | exact rt_67 | exact pr_0 (by assumption) | exact q_lt1 (hb _ _) | exact bt_lt _ | fail) only [own_67, rt_67, ab_kl_n, ab_kl_i, ab_kl_r, ab_kl_l, at_67_0, Go_iconst, kc_0, at_67_1, Go_istore_1, ab_put_int_1, Go_iload_1, at_67_3, Go_aload_0, at_67_4, Go_getf, fl_3_64, gg_3_1, sh_ref, sh_rf, jt_67_7, q_le, q_lt, q_eq, n_leT, n_leF, n_ltT, n_ltF, n_eqF, n_b0, at_67_10, at_67_11, fl_3_56, gg_3_16, at_67_14, at_67_15, at_67_16, Go_bastore, sh_ln, q_in, q_cl, sh_seti, sh_kd, at_67_17, Go_iinc_1, kc_1, q_add, jt_67_20, at_67_23, at_67_24, at_67_26, at_67_27, fl_3_60, gg_3_0, jt_67_30, at_67_33, at_67_34, fl_3_18, gg_3_4, at_67_37, at_67_38, Go_iaload, jt_67_39, at_67_42, at_67_43, at_67_46, at_67_47, fl_3_27, gg_3_7, at_67_50, at_67_51, at_67_52, at_67_53, at_67_54, jt_67_57, at_67_60, at_67_61, at_67_63, at_67_64, jt_67_67, at_67_70, at_67_71, Go_istore_2, ab_put_int_2, Go_iload_2, at_67_73, at_67_74, jt_67_77, at_67_80, at_67_81, at_67_84, at_67_85, Go_baload, jt_67_86, at_67_89, at_67_90, at_67_91, cl_3_115, cat_n, cat_i, cat_r, cat_l, tl_i, tl_l, tl_n, sh_same, at_67_94, Go_iinc_2, jt_67_97, at_67_100, jt_67_103, at_67_106, Go_return, Nat.reduceAdd, Nat.reduceMul, Nat.reduceLeDiff, Nat.reduceSub, decide_true, decide_false, Bool.toNat_true, Bool.toNat_false, not_true_eq_false, not_false_eq_true, ite_not, true_and, and_true, if_true, if_false, ↓reduceIte, Bool.or_true, Bool.true_or, Bool.or_false, e1, s0, pf_16 hp, pr_41 hp, pn_41 hp, pr_0 hp]
            refine x_markOperands hp hb hr h' hg' hn hS (fun I2 hf2 hS2 => ?_)
            simp (disch := first | omega | assumption | exact own_67 | exact rt_67 | exact pr_0 (by assumption) | exact q_lt1 (hb _ _) | exact bt_lt _ | fail) only [own_67, rt_67, ab_kl_n, ab_kl_i, ab_kl_r, ab_kl_l, at_67_0, Go_iconst, kc_0, at_67_1, Go_istore_1, ab_put_int_1, Go_iload_1, at_67_3, Go_aload_0, at_67_4, Go_getf, fl_3_64, gg_3_1, sh_ref, sh_rf, jt_67_7, q_le, q_lt, q_eq, n_leT, n_leF, n_ltT, n_ltF, n_eqF, n_b0, at_67_10, at_67_11, fl_3_56, gg_3_16, at_67_14, at_67_15, at_67_16, Go_bastore, sh_ln, q_in, q_cl, sh_seti, sh_kd, at_67_17, Go_iinc_1, kc_1, q_add, jt_67_20, at_67_23, at_67_24, at_67_26, at_67_27, fl_3_60, gg_3_0, jt_67_30, at_67_33, at_67_34, fl_3_18, gg_3_4, at_67_37, at_67_38, Go_iaload, jt_67_39, at_67_42, at_67_43, at_67_46, at_67_47, fl_3_27, gg_3_7, at_67_50, at_67_51, at_67_52, at_67_53, at_67_54, jt_67_57, at_67_60, at_67_61, at_67_63, at_67_64, jt_67_67, at_67_70, at_67_71, Go_istore_2, ab_put_int_2, Go_iload_2, at_67_73, at_67_74, jt_67_77, at_67_80, at_67_81, at_67_84, at_67_85, Go_baload, jt_67_86, at_67_89, at_67_90, at_67_91, cl_3_115, cat_n, cat_i, cat_r, cat_l, tl_i, tl_l, tl_n, sh_same, at_67_94, Go_iinc_2, jt_67_97, at_67_100, jt_67_103, at_67_106, Go_return, Nat.reduceAdd, Nat.reduceMul, Nat.reduceLeDiff, Nat.reduceSub, decide_true, decide_false, Bool.toNat_true, Bool.toNat_false, not_true_eq_false, not_false_eq_true, ite_not, true_and, and_true, if_true, if_false, ↓reduceIte, Bool.or_true, Bool.true_or, Bool.or_false]
            refine ih2 I2 (fun o k ho => by rw [hf2 o k ho]; exact hf o k ho) (fun q hq => ?_)
            rw [hS2 q hq]
            show _ = nI (mkN A n (itN A k (nd0 A (A 0 0))) q || (mkN A n (itN A k (nd0 A (A 0 0))) n && opn A n q)).toNat
            rw [c, Bool.true_and]
          | false =>
            rw [c] at s0
            simp (disch := first | omega | assumption | exact own_67 | exact rt_67 | exact pr_0 (by assumption) | exact q_lt1 (hb _ _) | exact bt_lt _ | fail) only [own_67, rt_67, ab_kl_n, ab_kl_i, ab_kl_r, ab_kl_l, at_67_0, Go_iconst, kc_0, at_67_1, Go_istore_1, ab_put_int_1, Go_iload_1, at_67_3, Go_aload_0, at_67_4, Go_getf, fl_3_64, gg_3_1, sh_ref, sh_rf, jt_67_7, q_le, q_lt, q_eq, n_leT, n_leF, n_ltT, n_ltF, n_eqF, n_b0, at_67_10, at_67_11, fl_3_56, gg_3_16, at_67_14, at_67_15, at_67_16, Go_bastore, sh_ln, q_in, q_cl, sh_seti, sh_kd, at_67_17, Go_iinc_1, kc_1, q_add, jt_67_20, at_67_23, at_67_24, at_67_26, at_67_27, fl_3_60, gg_3_0, jt_67_30, at_67_33, at_67_34, fl_3_18, gg_3_4, at_67_37, at_67_38, Go_iaload, jt_67_39, at_67_42, at_67_43, at_67_46, at_67_47, fl_3_27, gg_3_7, at_67_50, at_67_51, at_67_52, at_67_53, at_67_54, jt_67_57, at_67_60, at_67_61, at_67_63, at_67_64, jt_67_67, at_67_70, at_67_71, Go_istore_2, ab_put_int_2, Go_iload_2, at_67_73, at_67_74, jt_67_77, at_67_80, at_67_81, at_67_84, at_67_85, Go_baload, jt_67_86, at_67_89, at_67_90, at_67_91, cl_3_115, cat_n, cat_i, cat_r, cat_l, tl_i, tl_l, tl_n, sh_same, at_67_94, Go_iinc_2, jt_67_97, at_67_100, jt_67_103, at_67_106, Go_return, Nat.reduceAdd, Nat.reduceMul, Nat.reduceLeDiff, Nat.reduceSub, decide_true, decide_false, Bool.toNat_true, Bool.toNat_false, not_true_eq_false, not_false_eq_true, ite_not, true_and, and_true, if_true, if_false, ↓reduceIte, Bool.or_true, Bool.true_or, Bool.or_false, e1, s0, pf_16 hp, pr_41 hp, pn_41 hp, pr_0 hp]
            refine ih2 I' hf (fun q hq => ?_)
            rw [hS q hq]
            show _ = nI (mkN A n (itN A k (nd0 A (A 0 0))) q || (mkN A n (itN A k (nd0 A (A 0 0))) n && opn A n q)).toNat
            rw [c, Bool.false_and, Bool.or_false]
    · have h' := PC_fr2 (I' := I') hf hr h
      have e0 := h'.1
      have e4 := h'.2.2.2.2.1
      rw [at_67_25]
      by_cases c0 : A 3 b = 0
      · simp (disch := first | omega | assumption | exact own_67 | exact rt_67 | exact pr_0 (by assumption) | exact q_lt1 (hb _ _) | exact bt_lt _ | fail) only [own_67, rt_67, ab_kl_n, ab_kl_i, ab_kl_r, ab_kl_l, at_67_0, Go_iconst, kc_0, at_67_1, Go_istore_1, ab_put_int_1, Go_iload_1, at_67_3, Go_aload_0, at_67_4, Go_getf, fl_3_64, gg_3_1, sh_ref, sh_rf, jt_67_7, q_le, q_lt, q_eq, n_leT, n_leF, n_ltT, n_ltF, n_eqF, n_b0, at_67_10, at_67_11, fl_3_56, gg_3_16, at_67_14, at_67_15, at_67_16, Go_bastore, sh_ln, q_in, q_cl, sh_seti, sh_kd, at_67_17, Go_iinc_1, kc_1, q_add, jt_67_20, at_67_23, at_67_24, at_67_26, at_67_27, fl_3_60, gg_3_0, jt_67_30, at_67_33, at_67_34, fl_3_18, gg_3_4, at_67_37, at_67_38, Go_iaload, jt_67_39, at_67_42, at_67_43, at_67_46, at_67_47, fl_3_27, gg_3_7, at_67_50, at_67_51, at_67_52, at_67_53, at_67_54, jt_67_57, at_67_60, at_67_61, at_67_63, at_67_64, jt_67_67, at_67_70, at_67_71, Go_istore_2, ab_put_int_2, Go_iload_2, at_67_73, at_67_74, jt_67_77, at_67_80, at_67_81, at_67_84, at_67_85, Go_baload, jt_67_86, at_67_89, at_67_90, at_67_91, cl_3_115, cat_n, cat_i, cat_r, cat_l, tl_i, tl_l, tl_n, sh_same, at_67_94, Go_iinc_2, jt_67_97, at_67_100, jt_67_103, at_67_106, Go_return, Nat.reduceAdd, Nat.reduceMul, Nat.reduceLeDiff, Nat.reduceSub, decide_true, decide_false, Bool.toNat_true, Bool.toNat_false, not_true_eq_false, not_false_eq_true, ite_not, true_and, and_true, if_true, if_false, ↓reduceIte, Bool.or_true, Bool.true_or, Bool.or_false, e0, e4, c0, pf_4 hp, pr_3 hp, pn_3 hp, pr_0 hp]
        refine ih I' hf (fun q hq => ?_)
        rw [hS q hq]
        show _ = nI (nd0 A b q || decide (¬ A 3 b = 0 ∧ A 6 b = q)).toNat
        rw [decide_eq_false (fun z => z.1 c0), Bool.or_false]
      · have f7 := h'.2.2.2.2.2.2.2.1 b hb' c0
        have b7 := (hr.2.2.1 b hb').2.2.2.2.1 c0
        simp (disch := first | omega | assumption | exact own_67 | exact rt_67 | exact pr_0 (by assumption) | exact q_lt1 (hb _ _) | exact bt_lt _ | fail) only [own_67, rt_67, ab_kl_n, ab_kl_i, ab_kl_r, ab_kl_l, at_67_0, Go_iconst, kc_0, at_67_1, Go_istore_1, ab_put_int_1, Go_iload_1, at_67_3, Go_aload_0, at_67_4, Go_getf, fl_3_64, gg_3_1, sh_ref, sh_rf, jt_67_7, q_le, q_lt, q_eq, n_leT, n_leF, n_ltT, n_ltF, n_eqF, n_b0, at_67_10, at_67_11, fl_3_56, gg_3_16, at_67_14, at_67_15, at_67_16, Go_bastore, sh_ln, q_in, q_cl, sh_seti, sh_kd, at_67_17, Go_iinc_1, kc_1, q_add, jt_67_20, at_67_23, at_67_24, at_67_26, at_67_27, fl_3_60, gg_3_0, jt_67_30, at_67_33, at_67_34, fl_3_18, gg_3_4, at_67_37, at_67_38, Go_iaload, jt_67_39, at_67_42, at_67_43, at_67_46, at_67_47, fl_3_27, gg_3_7, at_67_50, at_67_51, at_67_52, at_67_53, at_67_54, jt_67_57, at_67_60, at_67_61, at_67_63, at_67_64, jt_67_67, at_67_70, at_67_71, Go_istore_2, ab_put_int_2, Go_iload_2, at_67_73, at_67_74, jt_67_77, at_67_80, at_67_81, at_67_84, at_67_85, Go_baload, jt_67_86, at_67_89, at_67_90, at_67_91, cl_3_115, cat_n, cat_i, cat_r, cat_l, tl_i, tl_l, tl_n, sh_same, at_67_94, Go_iinc_2, jt_67_97, at_67_100, jt_67_103, at_67_106, Go_return, Nat.reduceAdd, Nat.reduceMul, Nat.reduceLeDiff, Nat.reduceSub, decide_true, decide_false, Bool.toNat_true, Bool.toNat_false, not_true_eq_false, not_false_eq_true, ite_not, true_and, and_true, if_true, if_false, ↓reduceIte, Bool.or_true, Bool.true_or, Bool.or_false, e0, e4, c0, f7, pf_4 hp, pr_3 hp, pn_3 hp, pf_7 hp, pr_6 hp, pn_6 hp, pf_16 hp, pr_41 hp, pn_41 hp, pk_41 hp, vn1, pr_0 hp]
        refine ih _ (fun o k ho => by rw [fr_seti ho]; exact hf o k ho) (fun q hq => ?_)
        show _ = nI (nd0 A b q || decide (¬ A 3 b = 0 ∧ A 6 b = q)).toNat
        by_cases z : q = A 6 b
        · subst z
          rw [fr_sets, decide_eq_true ⟨c0, rfl⟩, Bool.or_true]
          rfl
        · rw [fr_setk z, hS q hq, decide_eq_false (fun y => z y.2.symm), Bool.or_false]
  · have e1 := (PC_fr2 (I' := I') hf hr h).2.1
    rw [at_67_2]
    simp (disch := first | omega | assumption | exact own_67 | exact rt_67 | exact pr_0 (by assumption) | exact q_lt1 (hb _ _) | exact bt_lt _ | fail) only [own_67, rt_67, ab_kl_n, ab_kl_i, ab_kl_r, ab_kl_l, at_67_0, Go_iconst, kc_0, at_67_1, Go_istore_1, ab_put_int_1, Go_iload_1, at_67_3, Go_aload_0, at_67_4, Go_getf, fl_3_64, gg_3_1, sh_ref, sh_rf, jt_67_7, q_le, q_lt, q_eq, n_leT, n_leF, n_ltT, n_ltF, n_eqF, n_b0, at_67_10, at_67_11, fl_3_56, gg_3_16, at_67_14, at_67_15, at_67_16, Go_bastore, sh_ln, q_in, q_cl, sh_seti, sh_kd, at_67_17, Go_iinc_1, kc_1, q_add, jt_67_20, at_67_23, at_67_24, at_67_26, at_67_27, fl_3_60, gg_3_0, jt_67_30, at_67_33, at_67_34, fl_3_18, gg_3_4, at_67_37, at_67_38, Go_iaload, jt_67_39, at_67_42, at_67_43, at_67_46, at_67_47, fl_3_27, gg_3_7, at_67_50, at_67_51, at_67_52, at_67_53, at_67_54, jt_67_57, at_67_60, at_67_61, at_67_63, at_67_64, jt_67_67, at_67_70, at_67_71, Go_istore_2, ab_put_int_2, Go_iload_2, at_67_73, at_67_74, jt_67_77, at_67_80, at_67_81, at_67_84, at_67_85, Go_baload, jt_67_86, at_67_89, at_67_90, at_67_91, cl_3_115, cat_n, cat_i, cat_r, cat_l, tl_i, tl_l, tl_n, sh_same, at_67_94, Go_iinc_2, jt_67_97, at_67_100, jt_67_103, at_67_106, Go_return, Nat.reduceAdd, Nat.reduceMul, Nat.reduceLeDiff, Nat.reduceSub, decide_true, decide_false, Bool.toNat_true, Bool.toNat_false, not_true_eq_false, not_false_eq_true, ite_not, true_and, and_true, if_true, if_false, ↓reduceIte, Bool.or_true, Bool.true_or, Bool.or_false, e1, pf_16 hp, pr_41 hp, pn_41 hp, pk_41 hp, vn0, pr_0 hp]
    exact ih _ (fun o k ho => by rw [fr_seti ho]; exact hf o k ho) (fun q hq => by
      by_cases z : q = i
      · subst z; exact fr_sets
      · rw [fr_setk z]; exact hz q (by omega))
end SWC
