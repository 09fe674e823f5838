/-! THE TEXT: all lines of the class -/
section CLI
variable {I I' I1 : Nat → Nat → Int32} {J J' : Nat → Nat → Int64} {Q : Option Value → ab_H → Prop} {tp : Nat → Nat} {tl : Nat} {wk : Nat → Nat → Nat} {K V : Nat → Nat} {N : Nat} {A : DD} {i : Nat} {ib ph : Bool}
theorem y_readLine (x : TX tp tl wk K V N) (hc : CTo tp tl wk (N + 1) I) (w : DW ib A) (d : DC ib A I) (hi : i ≤ N) (h7 : I 1 7 = nI i) (h10 : I 1 10 = nI ib.toNat) (h11 : ib = true → I 1 11 = nI ph.toNat)
    (K1 : ∀ ib' ph' i' A' I', stp K V ib ph i A = .inr (ib', ph', i', A') → FL I I' → I' 1 7 = nI i' → I' 1 10 = nI ib'.toNat → (ib' = true → I' 1 11 = nI ph'.toNat) → DC ib' A' I' → Q (some (.int (nI 1))) (SH, I', J))
    (K2 : ∀ c j I', stp K V ib ph i A = .inl (c, j) → FB I I' → I' 1 2 = nI c → I' 1 3 = nI (tk tp tl j) → Q (some (.int (nI 0))) (SH, I', J)) : Ex 72 [.ref 1] (SH, I, J) Q := by
  have x0 := x
  obtain ⟨x1, x2, x3, x4, x5, x6, x7⟩ := x
  obtain ⟨t1, t2, t3⟩ := hc i (by omega)
  rw [x1] at t1
  have k25 := TX_le x0 i
  rw [en_72]
  cases ib with
  | false =>
    simp (disch := first | omega | assumption | exact own_72 | exact rt_72 | exact sr_1 | exact q_lt1 (hb _ _) | exact bt_lt _ | fail) only [own_72, rt_72, ab_kl_n, ab_kl_i, ab_kl_r, ab_kl_l, at_72_0, Go_aload_0, at_72_1, Go_getf, fl_4_48, gg_4_10, sh_ref, sh_rf, sr_1, jt_72_4, q_le, q_lt, q_eq, n_leT, n_leF, n_ltT, n_ltF, n_eqF, n_b0, at_72_7, at_72_8, cl_4_66, cat_n, cat_i, cat_r, cat_l, tl_i, tl_l, tl_n, sh_same, at_72_11, Go_retb, Go_retb0, Go_retb1, at_72_12, at_72_13, fl_4_25, gg_4_4, sf_1_4, sr_46, sn_46, at_72_16, at_72_17, fl_4_45, gg_4_7, at_72_20, Go_iaload, sh_ln, q_in, q_cl, at_72_21, Go_bipush, kb_7, jt_72_23, at_72_26, at_72_27, cl_4_69, jt_72_30, at_72_33, at_72_34, cl_4_72, at_72_37, Nat.reduceAdd, Nat.reduceMul, Nat.reduceLeDiff, Nat.reduceSub, decide_true, decide_false, Bool.toNat_true, Bool.toNat_false, not_true_eq_false, not_false_eq_true, ite_not, true_and, and_true, if_true, if_false, ↓reduceIte, Bool.or_true, Bool.true_or, Bool.or_false, h10]
    refine y_readHead (ph := ph) x0 hc w d hi h7 (fun I' f q7 q10 q11 d' e => ?_) (fun c j I' e f g1 g2 => ?_)
    · simp (disch := first | omega | assumption | exact own_72 | exact rt_72 | exact sr_1 | exact q_lt1 (hb _ _) | exact bt_lt _ | fail) only [own_72, rt_72, ab_kl_n, ab_kl_i, ab_kl_r, ab_kl_l, at_72_0, Go_aload_0, at_72_1, Go_getf, fl_4_48, gg_4_10, sh_ref, sh_rf, sr_1, jt_72_4, q_le, q_lt, q_eq, n_leT, n_leF, n_ltT, n_ltF, n_eqF, n_b0, at_72_7, at_72_8, cl_4_66, cat_n, cat_i, cat_r, cat_l, tl_i, tl_l, tl_n, sh_same, at_72_11, Go_retb, Go_retb0, Go_retb1, at_72_12, at_72_13, fl_4_25, gg_4_4, sf_1_4, sr_46, sn_46, at_72_16, at_72_17, fl_4_45, gg_4_7, at_72_20, Go_iaload, sh_ln, q_in, q_cl, at_72_21, Go_bipush, kb_7, jt_72_23, at_72_26, at_72_27, cl_4_69, jt_72_30, at_72_33, at_72_34, cl_4_72, at_72_37, Nat.reduceAdd, Nat.reduceMul, Nat.reduceLeDiff, Nat.reduceSub, decide_true, decide_false, Bool.toNat_true, Bool.toNat_false, not_true_eq_false, not_false_eq_true, ite_not, true_and, and_true, if_true, if_false, ↓reduceIte, Bool.or_true, Bool.true_or, Bool.or_false]
      exact K1 _ _ _ _ I' e f q7 q10 (fun _ => q11) d'
    · simp (disch := first | omega | assumption | exact own_72 | exact rt_72 | exact sr_1 | exact q_lt1 (hb _ _) | exact bt_lt _ | fail) only [own_72, rt_72, ab_kl_n, ab_kl_i, ab_kl_r, ab_kl_l, at_72_0, Go_aload_0, at_72_1, Go_getf, fl_4_48, gg_4_10, sh_ref, sh_rf, sr_1, jt_72_4, q_le, q_lt, q_eq, n_leT, n_leF, n_ltT, n_ltF, n_eqF, n_b0, at_72_7, at_72_8, cl_4_66, cat_n, cat_i, cat_r, cat_l, tl_i, tl_l, tl_n, sh_same, at_72_11, Go_retb, Go_retb0, Go_retb1, at_72_12, at_72_13, fl_4_25, gg_4_4, sf_1_4, sr_46, sn_46, at_72_16, at_72_17, fl_4_45, gg_4_7, at_72_20, Go_iaload, sh_ln, q_in, q_cl, at_72_21, Go_bipush, kb_7, jt_72_23, at_72_26, at_72_27, cl_4_69, jt_72_30, at_72_33, at_72_34, cl_4_72, at_72_37, Nat.reduceAdd, Nat.reduceMul, Nat.reduceLeDiff, Nat.reduceSub, decide_true, decide_false, Bool.toNat_true, Bool.toNat_false, not_true_eq_false, not_false_eq_true, ite_not, true_and, and_true, if_true, if_false, ↓reduceIte, Bool.or_true, Bool.true_or, Bool.or_false]
      exact K2 c j I' e f g1 g2
  | true =>
    have h11 := h11 rfl
    by_cases c1 : K i ≤ 7
    · simp (disch := first | omega | assumption | exact own_72 | exact rt_72 | exact sr_1 | exact q_lt1 (hb _ _) | exact bt_lt _ | fail) only [own_72, rt_72, ab_kl_n, ab_kl_i, ab_kl_r, ab_kl_l, at_72_0, Go_aload_0, at_72_1, Go_getf, fl_4_48, gg_4_10, sh_ref, sh_rf, sr_1, jt_72_4, q_le, q_lt, q_eq, n_leT, n_leF, n_ltT, n_ltF, n_eqF, n_b0, at_72_7, at_72_8, cl_4_66, cat_n, cat_i, cat_r, cat_l, tl_i, tl_l, tl_n, sh_same, at_72_11, Go_retb, Go_retb0, Go_retb1, at_72_12, at_72_13, fl_4_25, gg_4_4, sf_1_4, sr_46, sn_46, at_72_16, at_72_17, fl_4_45, gg_4_7, at_72_20, Go_iaload, sh_ln, q_in, q_cl, at_72_21, Go_bipush, kb_7, jt_72_23, at_72_26, at_72_27, cl_4_69, jt_72_30, at_72_33, at_72_34, cl_4_72, at_72_37, Nat.reduceAdd, Nat.reduceMul, Nat.reduceLeDiff, Nat.reduceSub, decide_true, decide_false, Bool.toNat_true, Bool.toNat_false, not_true_eq_false, not_false_eq_true, ite_not, true_and, and_true, if_true, if_false, ↓reduceIte, Bool.or_true, Bool.true_or, Bool.or_false, h10, h7, t1, c1]
      refine y_readName (ph := ph) x0 hc w d hi c1 h7 h10 h11 (fun I' f q7 q10 q11 d' e => ?_) (fun c j I' e f g1 g2 => ?_)
      · simp (disch := first | omega | assumption | exact own_72 | exact rt_72 | exact sr_1 | exact q_lt1 (hb _ _) | exact bt_lt _ | fail) only [own_72, rt_72, ab_kl_n, ab_kl_i, ab_kl_r, ab_kl_l, at_72_0, Go_aload_0, at_72_1, Go_getf, fl_4_48, gg_4_10, sh_ref, sh_rf, sr_1, jt_72_4, q_le, q_lt, q_eq, n_leT, n_leF, n_ltT, n_ltF, n_eqF, n_b0, at_72_7, at_72_8, cl_4_66, cat_n, cat_i, cat_r, cat_l, tl_i, tl_l, tl_n, sh_same, at_72_11, Go_retb, Go_retb0, Go_retb1, at_72_12, at_72_13, fl_4_25, gg_4_4, sf_1_4, sr_46, sn_46, at_72_16, at_72_17, fl_4_45, gg_4_7, at_72_20, Go_iaload, sh_ln, q_in, q_cl, at_72_21, Go_bipush, kb_7, jt_72_23, at_72_26, at_72_27, cl_4_69, jt_72_30, at_72_33, at_72_34, cl_4_72, at_72_37, Nat.reduceAdd, Nat.reduceMul, Nat.reduceLeDiff, Nat.reduceSub, decide_true, decide_false, Bool.toNat_true, Bool.toNat_false, not_true_eq_false, not_false_eq_true, ite_not, true_and, and_true, if_true, if_false, ↓reduceIte, Bool.or_true, Bool.true_or, Bool.or_false]
        exact K1 _ _ _ _ I' e f q7 q10 (fun _ => q11) d'
      · simp (disch := first | omega | assumption | exact own_72 | exact rt_72 | exact sr_1 | exact q_lt1 (hb _ _) | exact bt_lt _ | fail) only [own_72, rt_72, ab_kl_n, ab_kl_i, ab_kl_r, ab_kl_l, at_72_0, Go_aload_0, at_72_1, Go_getf, fl_4_48, gg_4_10, sh_ref, sh_rf, sr_1, jt_72_4, q_le, q_lt, q_eq, n_leT, n_leF, n_ltT, n_ltF, n_eqF, n_b0, at_72_7, at_72_8, cl_4_66, cat_n, cat_i, cat_r, cat_l, tl_i, tl_l, tl_n, sh_same, at_72_11, Go_retb, Go_retb0, Go_retb1, at_72_12, at_72_13, fl_4_25, gg_4_4, sf_1_4, sr_46, sn_46, at_72_16, at_72_17, fl_4_45, gg_4_7, at_72_20, Go_iaload, sh_ln, q_in, q_cl, at_72_21, Go_bipush, kb_7, jt_72_23, at_72_26, at_72_27, cl_4_69, jt_72_30, at_72_33, at_72_34, cl_4_72, at_72_37, Nat.reduceAdd, Nat.reduceMul, Nat.reduceLeDiff, Nat.reduceSub, decide_true, decide_false, Bool.toNat_true, Bool.toNat_false, not_true_eq_false, not_false_eq_true, ite_not, true_and, and_true, if_true, if_false, ↓reduceIte, Bool.or_true, Bool.true_or, Bool.or_false]
        exact K2 c j I' e f g1 g2
    · simp (disch := first | omega | assumption | exact own_72 | exact rt_72 | exact sr_1 | exact q_lt1 (hb _ _) | exact bt_lt _ | fail) only [own_72, rt_72, ab_kl_n, ab_kl_i, ab_kl_r, ab_kl_l, at_72_0, Go_aload_0, at_72_1, Go_getf, fl_4_48, gg_4_10, sh_ref, sh_rf, sr_1, jt_72_4, q_le, q_lt, q_eq, n_leT, n_leF, n_ltT, n_ltF, n_eqF, n_b0, at_72_7, at_72_8, cl_4_66, cat_n, cat_i, cat_r, cat_l, tl_i, tl_l, tl_n, sh_same, at_72_11, Go_retb, Go_retb0, Go_retb1, at_72_12, at_72_13, fl_4_25, gg_4_4, sf_1_4, sr_46, sn_46, at_72_16, at_72_17, fl_4_45, gg_4_7, at_72_20, Go_iaload, sh_ln, q_in, q_cl, at_72_21, Go_bipush, kb_7, jt_72_23, at_72_26, at_72_27, cl_4_69, jt_72_30, at_72_33, at_72_34, cl_4_72, at_72_37, Nat.reduceAdd, Nat.reduceMul, Nat.reduceLeDiff, Nat.reduceSub, decide_true, decide_false, Bool.toNat_true, Bool.toNat_false, not_true_eq_false, not_false_eq_true, ite_not, true_and, and_true, if_true, if_false, ↓reduceIte, Bool.or_true, Bool.true_or, Bool.or_false, h10, h7, t1, c1]
      refine y_readEnd (ph := ph) x0 hc w d hi (by omega) h7 (fun I' f q7 q10 d' e => ?_) (fun c j I' e f g1 g2 => ?_)
      · simp (disch := first | omega | assumption | exact own_72 | exact rt_72 | exact sr_1 | exact q_lt1 (hb _ _) | exact bt_lt _ | fail) only [own_72, rt_72, ab_kl_n, ab_kl_i, ab_kl_r, ab_kl_l, at_72_0, Go_aload_0, at_72_1, Go_getf, fl_4_48, gg_4_10, sh_ref, sh_rf, sr_1, jt_72_4, q_le, q_lt, q_eq, n_leT, n_leF, n_ltT, n_ltF, n_eqF, n_b0, at_72_7, at_72_8, cl_4_66, cat_n, cat_i, cat_r, cat_l, tl_i, tl_l, tl_n, sh_same, at_72_11, Go_retb, Go_retb0, Go_retb1, at_72_12, at_72_13, fl_4_25, gg_4_4, sf_1_4, sr_46, sn_46, at_72_16, at_72_17, fl_4_45, gg_4_7, at_72_20, Go_iaload, sh_ln, q_in, q_cl, at_72_21, Go_bipush, kb_7, jt_72_23, at_72_26, at_72_27, cl_4_69, jt_72_30, at_72_33, at_72_34, cl_4_72, at_72_37, Nat.reduceAdd, Nat.reduceMul, Nat.reduceLeDiff, Nat.reduceSub, decide_true, decide_false, Bool.toNat_true, Bool.toNat_false, not_true_eq_false, not_false_eq_true, ite_not, true_and, and_true, if_true, if_false, ↓reduceIte, Bool.or_true, Bool.true_or, Bool.or_false]
        exact K1 _ _ _ _ I' e f q7 q10 (fun z => by cases z) d'
      · simp (disch := first | omega | assumption | exact own_72 | exact rt_72 | exact sr_1 | exact q_lt1 (hb _ _) | exact bt_lt _ | fail) only [own_72, rt_72, ab_kl_n, ab_kl_i, ab_kl_r, ab_kl_l, at_72_0, Go_aload_0, at_72_1, Go_getf, fl_4_48, gg_4_10, sh_ref, sh_rf, sr_1, jt_72_4, q_le, q_lt, q_eq, n_leT, n_leF, n_ltT, n_ltF, n_eqF, n_b0, at_72_7, at_72_8, cl_4_66, cat_n, cat_i, cat_r, cat_l, tl_i, tl_l, tl_n, sh_same, at_72_11, Go_retb, Go_retb0, Go_retb1, at_72_12, at_72_13, fl_4_25, gg_4_4, sf_1_4, sr_46, sn_46, at_72_16, at_72_17, fl_4_45, gg_4_7, at_72_20, Go_iaload, sh_ln, q_in, q_cl, at_72_21, Go_bipush, kb_7, jt_72_23, at_72_26, at_72_27, cl_4_69, jt_72_30, at_72_33, at_72_34, cl_4_72, at_72_37, Nat.reduceAdd, Nat.reduceMul, Nat.reduceLeDiff, Nat.reduceSub, decide_true, decide_false, Bool.toNat_true, Bool.toNat_false, not_true_eq_false, not_false_eq_true, ite_not, true_and, and_true, if_true, if_false, ↓reduceIte, Bool.or_true, Bool.true_or, Bool.or_false]
        exact K2 c j I' e f g1 g2
theorem rW_5 (w : Nat) (hw : 0 < w) (hw2 : w ≤ 6) : 0 < rW K i w ∧ rW K i w ≤ 6 := by
  unfold rW
  split <;> omega
theorem fN_5 {lo hi c j : Nat} (h : fN K V lo hi i = some (c, j)) : 0 < c ∧ c ≤ 6 := by
  unfold fN at h
  split at h
  · split at h
    · cases h
    · cases h; omega
  · cases h; exact rW_5 2 (by omega) (by omega)
theorem fS_5 {c j : Nat} (h : fS K i = some (c, j)) : 0 < c ∧ c ≤ 6 := by
  unfold fS at h
  split at h
  · cases h
  · cases h; exact rW_5 2 (by omega) (by omega)
theorem oo_some {a b : Option (Nat × Nat)} {x : Nat × Nat} (h : oo a b = some x) : a = some x ∨ b = some x := by
  cases a with
  | none => exact Or.inr h
  | some y => exact Or.inl h
theorem fNs_5 {hi c j : Nat} : ∀ m i, fNs K V hi m i = some (c, j) → 0 < c ∧ c ≤ 6 := by
  intro m
  induction m with
  | zero => intro i h; cases h
  | succ m ih =>
    intro i h
    rcases oo_some h with z | z
    · exact fN_5 z
    · exact ih _ z
theorem fName_5 {c j : Nat} (h : fName K V i = some (c, j)) : 0 < c ∧ c ≤ 6 := by
  rcases oo_some h with z | z
  · exact fNs_5 _ _ z
  · exact fS_5 z
theorem fEnd_5 {c j : Nat} (h : fEnd K V i = some (c, j)) : 0 < c ∧ c ≤ 6 := by
  unfold fEnd at h
  split at h
  · rcases oo_some h with z | z
    · exact fN_5 z
    · exact fS_5 z
  · split at h
    · rcases oo_some h with z | z
      · exact fN_5 z
      · rcases oo_some z with z | z
        · exact fN_5 z
        · rcases oo_some z with z | z
          · exact fN_5 z
          · exact fS_5 z
    · rcases oo_some h with z | z
      · exact fN_5 z
      · exact fS_5 z
theorem stp_5 {c j : Nat} (h : stp K V ib ph i A = .inl (c, j)) : 0 < c ∧ c ≤ 6 := by
  cases ib with
  | false =>
    rw [stp_f] at h; unfold stF at h
    split at h
    · split at h
      · cases e : fS K (i + 1) with
        | none => rw [e] at h; cases h
        | some y => rw [e] at h; cases h; exact fS_5 e
      · cases h; omega
    · cases h; exact rW_5 2 (by omega) (by omega)
  | true =>
    rw [stp_t] at h; unfold stT at h
    split at h
    · split at h
      · cases h; omega
      · split at h
        · cases e : fName K V i with
          | none => rw [e] at h; cases h
          | some y => rw [e] at h; cases h; exact fName_5 e
        · cases h; omega
    · split at h
      · cases e : fEnd K V i with
        | none => rw [e] at h; cases h
        | some y => rw [e] at h; cases h; exact fEnd_5 e
      · cases h; exact rW_5 2 (by omega) (by omega)
theorem y_lines (x : TX tp tl wk K V N) (hc : CTo tp tl wk (N + 1) I) :
    ∀ u t, t + u = 321 → ∀ (ib ph : Bool) (i : Nat) (A : DD) (I1 : Nat → Nat → Int32), FL I I1 → DW ib A → DC ib A I1 → i ≤ N → t ≤ i → I1 1 7 = nI i → I1 1 10 = nI ib.toNat → (ib = true → I1 1 11 = nI ph.toNat) → I1 1 2 = nI 0 →
    (∀ (I' : Nat → Nat → Int32) (A' : DD) j v, rd2 K V u ib ph i A = ((0, j), A') → FL I I' → DW false A' → DC false A' I' → K j = 24 → j ≤ N → I' 1 7 = nI j → I' 1 2 = nI 0 → Go (ab_at 70 73) 70 73 [some (.ref 1), some (.int (nI (1))), v] []  (SH, I', J) Q) →
    (∀ (I' : Nat → Nat → Int32) (A' : DD) c j v, rd2 K V u ib ph i A = ((c, j), A') → 0 < c → FB I I' → I' 1 2 = nI c → I' 1 3 = nI (tk tp tl j) → Go (ab_at 70 73) 70 73 [some (.ref 1), some (.int (nI (0))), v] []  (SH, I', J) Q) →
    Go (ab_at 70 30) 70 30 [some (.ref 1), some (.int (nI (1))), some (.int (nI (t)))] []  (SH, I1, J) Q := by
  have x0 := x
  obtain ⟨x1, x2, x3, x4, x5, x6, x7⟩ := x
  intro u
  induction u with
  | zero => intro t ht ib ph i A I1 f w d hi hti; omega
  | succ u ih =>
    intro t ht ib ph i A I1 f w d hi hti h7 h10 h11 h2 KG KB
    obtain ⟨t1, t2, t3⟩ := CTo_fl f hc i (by omega)
    rw [x1] at t1
    have k25 := TX_le x0 i
    have c320 : ¬ 320 < t := by omega
    rw [at_70_30]
    by_cases c1 : ib = false ∧ K i = 24
    · have e : rd2 K V (u + 1) ib ph i A = ((0, i), A) := by unfold rd2; rw [if_pos c1]
      obtain ⟨c2, c3⟩ := c1
      subst c2
      have KG := KG I1 A i (some (.int (nI t))) e f w d c3 hi h7 h2
      simp (disch := first | omega | assumption | exact own_70 | exact rt_70 | exact sr_73 | exact sr_4 | exact sr_1 | exact q_lt1 (hb _ _) | exact bt_lt _ | fail) only [own_70, rt_70, ab_kl_n, ab_kl_i, ab_kl_r, ab_kl_l, at_70_0, Go_aload_0, at_70_1, cl_4_35, cat_n, cat_i, cat_r, cat_l, tl_i, tl_l, tl_n, sh_same, at_70_4, at_70_5, Go_getf, fl_4_21, gg_4_1, sh_ref, sh_rf, sr_1, sf_1_1, sr_4, at_70_8, cl_4_38, at_70_11, at_70_12, Go_iconst, kc_0, at_70_13, Go_putf, fl_4_41, gp_4_2, sh_seti, at_70_16, at_70_17, at_70_18, fl_4_45, gp_4_7, at_70_21, at_70_22, at_70_23, fl_4_48, gp_4_10, at_70_26, kc_1, at_70_27, Go_istore_1, ab_put_int_1, at_70_28, at_70_29, Go_istore_2, ab_put_int_2, Go_iload_2, at_70_31, Go_sipush, ks_320, jt_70_34, q_le, q_lt, q_eq, n_leT, n_leF, n_ltT, n_ltF, n_eqF, n_b0, at_70_37, Go_iload_1, jt_70_38, at_70_41, at_70_42, gg_4_10, jt_70_45, at_70_48, at_70_49, fl_4_25, gg_4_4, sf_1_4, sr_46, sn_46, at_70_52, at_70_53, gg_4_7, at_70_56, Go_iaload, sh_ln, q_in, q_cl, at_70_57, Go_bipush, kb_24, jt_70_59, at_70_62, at_70_63, cl_4_52, at_70_66, at_70_67, Go_iinc_2, q_add, jt_70_70, jt_70_74, at_70_77, at_70_78, at_70_81, cl_4_56, jt_70_84, at_70_87, at_70_88, kb_6, at_70_90, cl_4_59, jt_70_93, at_70_96, jt_70_97, at_70_100, at_70_101, Go_retb, Go_retb0, Go_retb1, Nat.reduceAdd, Nat.reduceMul, Nat.reduceLeDiff, Nat.reduceSub, decide_true, decide_false, Bool.toNat_true, Bool.toNat_false, not_true_eq_false, not_false_eq_true, ite_not, true_and, and_true, if_true, if_false, ↓reduceIte, Bool.or_true, Bool.true_or, Bool.or_false, c320, h10, h7, t1, c3]
      exact KG
    · have step : Go (ab_at 70 62) 70 62 [some (.ref 1), some (.int (nI 1)), some (.int (nI t))] [] (SH, I1, J) Q := by
        simp (disch := first | omega | assumption | exact own_70 | exact rt_70 | exact sr_73 | exact sr_4 | exact sr_1 | exact q_lt1 (hb _ _) | exact bt_lt _ | fail) only [own_70, rt_70, ab_kl_n, ab_kl_i, ab_kl_r, ab_kl_l, at_70_0, Go_aload_0, at_70_1, cl_4_35, cat_n, cat_i, cat_r, cat_l, tl_i, tl_l, tl_n, sh_same, at_70_4, at_70_5, Go_getf, fl_4_21, gg_4_1, sh_ref, sh_rf, sr_1, sf_1_1, sr_4, at_70_8, cl_4_38, at_70_11, at_70_12, Go_iconst, kc_0, at_70_13, Go_putf, fl_4_41, gp_4_2, sh_seti, at_70_16, at_70_17, at_70_18, fl_4_45, gp_4_7, at_70_21, at_70_22, at_70_23, fl_4_48, gp_4_10, at_70_26, kc_1, at_70_27, Go_istore_1, ab_put_int_1, at_70_28, at_70_29, Go_istore_2, ab_put_int_2, Go_iload_2, at_70_31, Go_sipush, ks_320, jt_70_34, q_le, q_lt, q_eq, n_leT, n_leF, n_ltT, n_ltF, n_eqF, n_b0, at_70_37, Go_iload_1, jt_70_38, at_70_41, at_70_42, gg_4_10, jt_70_45, at_70_48, at_70_49, fl_4_25, gg_4_4, sf_1_4, sr_46, sn_46, at_70_52, at_70_53, gg_4_7, at_70_56, Go_iaload, sh_ln, q_in, q_cl, at_70_57, Go_bipush, kb_24, jt_70_59, at_70_62, at_70_63, cl_4_52, at_70_66, at_70_67, Go_iinc_2, q_add, jt_70_70, jt_70_74, at_70_77, at_70_78, at_70_81, cl_4_56, jt_70_84, at_70_87, at_70_88, kb_6, at_70_90, cl_4_59, jt_70_93, at_70_96, jt_70_97, at_70_100, at_70_101, Go_retb, Go_retb0, Go_retb1, Nat.reduceAdd, Nat.reduceMul, Nat.reduceLeDiff, Nat.reduceSub, decide_true, decide_false, Bool.toNat_true, Bool.toNat_false, not_true_eq_false, not_false_eq_true, ite_not, true_and, and_true, if_true, if_false, ↓reduceIte, Bool.or_true, Bool.true_or, Bool.or_false]
        refine y_readLine (ph := ph) x0 (CTo_fl f hc) w d hi h7 h10 h11 (fun ib' ph' i' A' I' e f' q7 q10 q11 d' => ?_) (fun c j I' e f' g1 g2 => ?_)
        · simp (disch := first | omega | assumption | exact own_70 | exact rt_70 | exact sr_73 | exact sr_4 | exact sr_1 | exact q_lt1 (hb _ _) | exact bt_lt _ | fail) only [own_70, rt_70, ab_kl_n, ab_kl_i, ab_kl_r, ab_kl_l, at_70_0, Go_aload_0, at_70_1, cl_4_35, cat_n, cat_i, cat_r, cat_l, tl_i, tl_l, tl_n, sh_same, at_70_4, at_70_5, Go_getf, fl_4_21, gg_4_1, sh_ref, sh_rf, sr_1, sf_1_1, sr_4, at_70_8, cl_4_38, at_70_11, at_70_12, Go_iconst, kc_0, at_70_13, Go_putf, fl_4_41, gp_4_2, sh_seti, at_70_16, at_70_17, at_70_18, fl_4_45, gp_4_7, at_70_21, at_70_22, at_70_23, fl_4_48, gp_4_10, at_70_26, kc_1, at_70_27, Go_istore_1, ab_put_int_1, at_70_28, at_70_29, Go_istore_2, ab_put_int_2, Go_iload_2, at_70_31, Go_sipush, ks_320, jt_70_34, q_le, q_lt, q_eq, n_leT, n_leF, n_ltT, n_ltF, n_eqF, n_b0, at_70_37, Go_iload_1, jt_70_38, at_70_41, at_70_42, gg_4_10, jt_70_45, at_70_48, at_70_49, fl_4_25, gg_4_4, sf_1_4, sr_46, sn_46, at_70_52, at_70_53, gg_4_7, at_70_56, Go_iaload, sh_ln, q_in, q_cl, at_70_57, Go_bipush, kb_24, jt_70_59, at_70_62, at_70_63, cl_4_52, at_70_66, at_70_67, Go_iinc_2, q_add, jt_70_70, jt_70_74, at_70_77, at_70_78, at_70_81, cl_4_56, jt_70_84, at_70_87, at_70_88, kb_6, at_70_90, cl_4_59, jt_70_93, at_70_96, jt_70_97, at_70_100, at_70_101, Go_retb, Go_retb0, Go_retb1, Nat.reduceAdd, Nat.reduceMul, Nat.reduceLeDiff, Nat.reduceSub, decide_true, decide_false, Bool.toNat_true, Bool.toNat_false, not_true_eq_false, not_false_eq_true, ite_not, true_and, and_true, if_true, if_false, ↓reduceIte, Bool.or_true, Bool.true_or, Bool.or_false]
          have er : rd2 K V (u + 1) ib ph i A = rd2 K V u ib' ph' i' A' := by
            show (if ib = false ∧ K i = 24 then _ else _) = _
            rw [if_neg c1, e]
          obtain ⟨w', lt', le'⟩ := stp_ok x4 x3 w hi c1 e
          rw [er] at KG KB
          have r10 : (I' 1 2) = nI 0 := (f' _ _ (by omega) (by omega)).trans h2
          exact ih (t + 1) (by omega) ib' ph' i' A' I' (FL_t f f') w' d' le' (by omega) q7 q10 q11 r10 KG KB
        · simp (disch := first | omega | assumption | exact own_70 | exact rt_70 | exact sr_73 | exact sr_4 | exact sr_1 | exact q_lt1 (hb _ _) | exact bt_lt _ | fail) only [own_70, rt_70, ab_kl_n, ab_kl_i, ab_kl_r, ab_kl_l, at_70_0, Go_aload_0, at_70_1, cl_4_35, cat_n, cat_i, cat_r, cat_l, tl_i, tl_l, tl_n, sh_same, at_70_4, at_70_5, Go_getf, fl_4_21, gg_4_1, sh_ref, sh_rf, sr_1, sf_1_1, sr_4, at_70_8, cl_4_38, at_70_11, at_70_12, Go_iconst, kc_0, at_70_13, Go_putf, fl_4_41, gp_4_2, sh_seti, at_70_16, at_70_17, at_70_18, fl_4_45, gp_4_7, at_70_21, at_70_22, at_70_23, fl_4_48, gp_4_10, at_70_26, kc_1, at_70_27, Go_istore_1, ab_put_int_1, at_70_28, at_70_29, Go_istore_2, ab_put_int_2, Go_iload_2, at_70_31, Go_sipush, ks_320, jt_70_34, q_le, q_lt, q_eq, n_leT, n_leF, n_ltT, n_ltF, n_eqF, n_b0, at_70_37, Go_iload_1, jt_70_38, at_70_41, at_70_42, gg_4_10, jt_70_45, at_70_48, at_70_49, fl_4_25, gg_4_4, sf_1_4, sr_46, sn_46, at_70_52, at_70_53, gg_4_7, at_70_56, Go_iaload, sh_ln, q_in, q_cl, at_70_57, Go_bipush, kb_24, jt_70_59, at_70_62, at_70_63, cl_4_52, at_70_66, at_70_67, Go_iinc_2, q_add, jt_70_70, jt_70_74, at_70_77, at_70_78, at_70_81, cl_4_56, jt_70_84, at_70_87, at_70_88, kb_6, at_70_90, cl_4_59, jt_70_93, at_70_96, jt_70_97, at_70_100, at_70_101, Go_retb, Go_retb0, Go_retb1, Nat.reduceAdd, Nat.reduceMul, Nat.reduceLeDiff, Nat.reduceSub, decide_true, decide_false, Bool.toNat_true, Bool.toNat_false, not_true_eq_false, not_false_eq_true, ite_not, true_and, and_true, if_true, if_false, ↓reduceIte, Bool.or_true, Bool.true_or, Bool.or_false]
          have er : rd2 K V (u + 1) ib ph i A = ((c, j), A) := by
            show (if ib = false ∧ K i = 24 then _ else _) = _
            rw [if_neg c1, e]
          have KB := KB I' A c j (some (.int (nI (t + 1)))) er (stp_5 e).1 (FB_t f f') g1 g2
          rw [at_70_30]
          by_cases c9 : 320 < t + 1
          · simp (disch := first | omega | assumption | exact own_70 | exact rt_70 | exact sr_73 | exact sr_4 | exact sr_1 | exact q_lt1 (hb _ _) | exact bt_lt _ | fail) only [own_70, rt_70, ab_kl_n, ab_kl_i, ab_kl_r, ab_kl_l, at_70_0, Go_aload_0, at_70_1, cl_4_35, cat_n, cat_i, cat_r, cat_l, tl_i, tl_l, tl_n, sh_same, at_70_4, at_70_5, Go_getf, fl_4_21, gg_4_1, sh_ref, sh_rf, sr_1, sf_1_1, sr_4, at_70_8, cl_4_38, at_70_11, at_70_12, Go_iconst, kc_0, at_70_13, Go_putf, fl_4_41, gp_4_2, sh_seti, at_70_16, at_70_17, at_70_18, fl_4_45, gp_4_7, at_70_21, at_70_22, at_70_23, fl_4_48, gp_4_10, at_70_26, kc_1, at_70_27, Go_istore_1, ab_put_int_1, at_70_28, at_70_29, Go_istore_2, ab_put_int_2, Go_iload_2, at_70_31, Go_sipush, ks_320, jt_70_34, q_le, q_lt, q_eq, n_leT, n_leF, n_ltT, n_ltF, n_eqF, n_b0, at_70_37, Go_iload_1, jt_70_38, at_70_41, at_70_42, gg_4_10, jt_70_45, at_70_48, at_70_49, fl_4_25, gg_4_4, sf_1_4, sr_46, sn_46, at_70_52, at_70_53, gg_4_7, at_70_56, Go_iaload, sh_ln, q_in, q_cl, at_70_57, Go_bipush, kb_24, jt_70_59, at_70_62, at_70_63, cl_4_52, at_70_66, at_70_67, Go_iinc_2, q_add, jt_70_70, jt_70_74, at_70_77, at_70_78, at_70_81, cl_4_56, jt_70_84, at_70_87, at_70_88, kb_6, at_70_90, cl_4_59, jt_70_93, at_70_96, jt_70_97, at_70_100, at_70_101, Go_retb, Go_retb0, Go_retb1, Nat.reduceAdd, Nat.reduceMul, Nat.reduceLeDiff, Nat.reduceSub, decide_true, decide_false, Bool.toNat_true, Bool.toNat_false, not_true_eq_false, not_false_eq_true, ite_not, true_and, and_true, if_true, if_false, ↓reduceIte, Bool.or_true, Bool.true_or, Bool.or_false, c9]
            exact KB
          · simp (disch := first | omega | assumption | exact own_70 | exact rt_70 | exact sr_73 | exact sr_4 | exact sr_1 | exact q_lt1 (hb _ _) | exact bt_lt _ | fail) only [own_70, rt_70, ab_kl_n, ab_kl_i, ab_kl_r, ab_kl_l, at_70_0, Go_aload_0, at_70_1, cl_4_35, cat_n, cat_i, cat_r, cat_l, tl_i, tl_l, tl_n, sh_same, at_70_4, at_70_5, Go_getf, fl_4_21, gg_4_1, sh_ref, sh_rf, sr_1, sf_1_1, sr_4, at_70_8, cl_4_38, at_70_11, at_70_12, Go_iconst, kc_0, at_70_13, Go_putf, fl_4_41, gp_4_2, sh_seti, at_70_16, at_70_17, at_70_18, fl_4_45, gp_4_7, at_70_21, at_70_22, at_70_23, fl_4_48, gp_4_10, at_70_26, kc_1, at_70_27, Go_istore_1, ab_put_int_1, at_70_28, at_70_29, Go_istore_2, ab_put_int_2, Go_iload_2, at_70_31, Go_sipush, ks_320, jt_70_34, q_le, q_lt, q_eq, n_leT, n_leF, n_ltT, n_ltF, n_eqF, n_b0, at_70_37, Go_iload_1, jt_70_38, at_70_41, at_70_42, gg_4_10, jt_70_45, at_70_48, at_70_49, fl_4_25, gg_4_4, sf_1_4, sr_46, sn_46, at_70_52, at_70_53, gg_4_7, at_70_56, Go_iaload, sh_ln, q_in, q_cl, at_70_57, Go_bipush, kb_24, jt_70_59, at_70_62, at_70_63, cl_4_52, at_70_66, at_70_67, Go_iinc_2, q_add, jt_70_70, jt_70_74, at_70_77, at_70_78, at_70_81, cl_4_56, jt_70_84, at_70_87, at_70_88, kb_6, at_70_90, cl_4_59, jt_70_93, at_70_96, jt_70_97, at_70_100, at_70_101, Go_retb, Go_retb0, Go_retb1, Nat.reduceAdd, Nat.reduceMul, Nat.reduceLeDiff, Nat.reduceSub, decide_true, decide_false, Bool.toNat_true, Bool.toNat_false, not_true_eq_false, not_false_eq_true, ite_not, true_and, and_true, if_true, if_false, ↓reduceIte, Bool.or_true, Bool.true_or, Bool.or_false, c9]
            exact KB
      cases ib with
      | true =>
        simp (disch := first | omega | assumption | exact own_70 | exact rt_70 | exact sr_73 | exact sr_4 | exact sr_1 | exact q_lt1 (hb _ _) | exact bt_lt _ | fail) only [own_70, rt_70, ab_kl_n, ab_kl_i, ab_kl_r, ab_kl_l, at_70_0, Go_aload_0, at_70_1, cl_4_35, cat_n, cat_i, cat_r, cat_l, tl_i, tl_l, tl_n, sh_same, at_70_4, at_70_5, Go_getf, fl_4_21, gg_4_1, sh_ref, sh_rf, sr_1, sf_1_1, sr_4, at_70_8, cl_4_38, at_70_11, at_70_12, Go_iconst, kc_0, at_70_13, Go_putf, fl_4_41, gp_4_2, sh_seti, at_70_16, at_70_17, at_70_18, fl_4_45, gp_4_7, at_70_21, at_70_22, at_70_23, fl_4_48, gp_4_10, at_70_26, kc_1, at_70_27, Go_istore_1, ab_put_int_1, at_70_28, at_70_29, Go_istore_2, ab_put_int_2, Go_iload_2, at_70_31, Go_sipush, ks_320, jt_70_34, q_le, q_lt, q_eq, n_leT, n_leF, n_ltT, n_ltF, n_eqF, n_b0, at_70_37, Go_iload_1, jt_70_38, at_70_41, at_70_42, gg_4_10, jt_70_45, at_70_48, at_70_49, fl_4_25, gg_4_4, sf_1_4, sr_46, sn_46, at_70_52, at_70_53, gg_4_7, at_70_56, Go_iaload, sh_ln, q_in, q_cl, at_70_57, Go_bipush, kb_24, jt_70_59, at_70_63, cl_4_52, at_70_66, at_70_67, Go_iinc_2, q_add, jt_70_70, jt_70_74, at_70_77, at_70_78, at_70_81, cl_4_56, jt_70_84, at_70_87, at_70_88, kb_6, at_70_90, cl_4_59, jt_70_93, at_70_96, jt_70_97, at_70_100, at_70_101, Go_retb, Go_retb0, Go_retb1, Nat.reduceAdd, Nat.reduceMul, Nat.reduceLeDiff, Nat.reduceSub, decide_true, decide_false, Bool.toNat_true, Bool.toNat_false, not_true_eq_false, not_false_eq_true, ite_not, true_and, and_true, if_true, if_false, ↓reduceIte, Bool.or_true, Bool.true_or, Bool.or_false, c320, h10]
        exact step
      | false =>
        have c3 : ¬ K i = 24 := fun z => c1 ⟨rfl, z⟩
        simp (disch := first | omega | assumption | exact own_70 | exact rt_70 | exact sr_73 | exact sr_4 | exact sr_1 | exact q_lt1 (hb _ _) | exact bt_lt _ | fail) only [own_70, rt_70, ab_kl_n, ab_kl_i, ab_kl_r, ab_kl_l, at_70_0, Go_aload_0, at_70_1, cl_4_35, cat_n, cat_i, cat_r, cat_l, tl_i, tl_l, tl_n, sh_same, at_70_4, at_70_5, Go_getf, fl_4_21, gg_4_1, sh_ref, sh_rf, sr_1, sf_1_1, sr_4, at_70_8, cl_4_38, at_70_11, at_70_12, Go_iconst, kc_0, at_70_13, Go_putf, fl_4_41, gp_4_2, sh_seti, at_70_16, at_70_17, at_70_18, fl_4_45, gp_4_7, at_70_21, at_70_22, at_70_23, fl_4_48, gp_4_10, at_70_26, kc_1, at_70_27, Go_istore_1, ab_put_int_1, at_70_28, at_70_29, Go_istore_2, ab_put_int_2, Go_iload_2, at_70_31, Go_sipush, ks_320, jt_70_34, q_le, q_lt, q_eq, n_leT, n_leF, n_ltT, n_ltF, n_eqF, n_b0, at_70_37, Go_iload_1, jt_70_38, at_70_41, at_70_42, gg_4_10, jt_70_45, at_70_48, at_70_49, fl_4_25, gg_4_4, sf_1_4, sr_46, sn_46, at_70_52, at_70_53, gg_4_7, at_70_56, Go_iaload, sh_ln, q_in, q_cl, at_70_57, Go_bipush, kb_24, jt_70_59, at_70_63, cl_4_52, at_70_66, at_70_67, Go_iinc_2, q_add, jt_70_70, jt_70_74, at_70_77, at_70_78, at_70_81, cl_4_56, jt_70_84, at_70_87, at_70_88, kb_6, at_70_90, cl_4_59, jt_70_93, at_70_96, jt_70_97, at_70_100, at_70_101, Go_retb, Go_retb0, Go_retb1, Nat.reduceAdd, Nat.reduceMul, Nat.reduceLeDiff, Nat.reduceSub, decide_true, decide_false, Bool.toNat_true, Bool.toNat_false, not_true_eq_false, not_false_eq_true, ite_not, true_and, and_true, if_true, if_false, ↓reduceIte, Bool.or_true, Bool.true_or, Bool.or_false, c320, h10, h7, t1, c3]
        exact step
end CLI
