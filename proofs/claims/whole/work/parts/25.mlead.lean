/-! CLASSES: those that stand for all -/
def IDM (A : Nat → Nat → Nat) (P : Nat → Nat) : Prop := ∀ n, n < A 0 1 → P (P n) = P n
section IDS
variable {A : Nat → Nat → Nat} {P : Nat → Nat}
theorem h0_trans {n r s : Nat} (h1 : h0 A n r = true) (h2 : h0 A r s = true) : h0 A n s = true := by
  unfold h0 at *
  rw [decide_eq_true_eq] at *
  obtain ⟨a1, a2, a3, a4⟩ := h1
  obtain ⟨b1, b2, b3, b4⟩ := h2
  refine ⟨a1.trans b1, a2, fun c => ?_, fun c => ?_⟩
  · rw [a3 c, b3 (by omega)]
  · rw [a4 c, b4 (by omega)]
theorem P0_IDM : IDM A (P0 A) := by
  intro n hn
  obtain ⟨-, h2, h3, h4⟩ := fu_spec (h0 A n) n 0
  have hz : P0 A n = fu (h0 A n) n 0 := rfl
  rw [← hz] at h2 h3 h4
  rcases Nat.lt_or_ge (P0 A n) n with c | c
  · have k1 := h4 (by omega)
    obtain ⟨-, i2, i3, i4⟩ := fu_spec (h0 A (P0 A n)) (P0 A n) 0
    have hz2 : P0 A (P0 A n) = fu (h0 A (P0 A n)) (P0 A n) 0 := rfl
    rw [← hz2] at i2 i3 i4
    rcases Nat.lt_or_ge (P0 A (P0 A n)) (P0 A n) with d | d
    · have k2 := i4 (by omega)
      have k3 := h3 _ (Nat.zero_le _) d
      rw [h0_trans k1 k2] at k3
      cases k3
    · omega
  · have : P0 A n = n := by omega
    rw [this]
    exact this
theorem al_trans (hr : WR A) (hPK : PK A P) {n r s : Nat} (hn : n < A 0 1) (hr' : r < A 0 1) (hs : s < A 0 1) (h1 : al A P n r = true) (h2 : al A P r s = true) : al A P n s = true := by
  unfold al at *
  simp only [Bool.and_eq_true, Bool.or_eq_true, decide_eq_true_eq] at *
  obtain ⟨a1, a2⟩ := h1
  obtain ⟨b1, b2⟩ := h2
  obtain ⟨k1, k2⟩ := hPK.2 n r hn hr' a1
  obtain ⟨j1, j2⟩ := hPK.2 r s hr' hs b1
  refine ⟨a1.trans b1, ?_⟩
  have ar : (A 10 n = 2 ∨ A 10 n = 3) → A 12 n = 2 := fun c => (hr.2.2.2 n hn).2.2.2.2.2.2.1 (by omega) (by omega) (by omega)
  rw [pl_iff] at a2 b2 ⊢
  have crI : ∀ x y, cr A P x y = true ↔ ((A 10 x = 2 ∨ A 10 x = 3) ∧ P (A 14 (6 * x)) = P (A 14 (6 * y + 1)) ∧ P (A 14 (6 * x + 1)) = P (A 14 (6 * y))) := fun x y => by unfold cr; rw [decide_eq_true_eq]
  rw [crI] at a2 b2 ⊢
  rcases a2 with a2 | ⟨a3, a4, a5⟩
  · rcases b2 with b2 | ⟨b3, b4, b5⟩
    · exact Or.inl fun i hi => (a2 i hi).trans (b2 i (by omega))
    · have := ar (by omega)
      exact Or.inr ⟨by omega, (a2 0 (by omega)).trans b4, (a2 1 (by omega)).trans b5⟩
  · have ar2 := ar a3
    rcases b2 with b2 | ⟨b3, b4, b5⟩
    · exact Or.inr ⟨a3, a4.trans (b2 1 (by omega)), a5.trans (b2 0 (by omega))⟩
    · refine Or.inl fun i hi => ?_
      rcases (by omega : i = 0 ∨ i = 1) with rfl | rfl
      · exact a4.trans b5
      · exact a5.trans b4
theorem st_IDM (hr : WR A) (hPK : PK A P) : IDM A (st A P) := by
  intro n hn
  obtain ⟨-, h2, h3, h4⟩ := fu_spec (al A P n) n 0
  have hz : st A P n = fu (al A P n) n 0 := rfl
  rw [← hz] at h2 h3 h4
  rcases Nat.lt_or_ge (st A P n) n with c | c
  · have k1 := h4 (by omega)
    obtain ⟨-, i2, i3, i4⟩ := fu_spec (al A P (st A P n)) (st A P n) 0
    have hz2 : st A P (st A P n) = fu (al A P (st A P n)) (st A P n) 0 := rfl
    rw [← hz2] at i2 i3 i4
    rcases Nat.lt_or_ge (st A P (st A P n)) (st A P n) with d | d
    · have k2 := i4 (by omega)
      have k3 := h3 _ (Nat.zero_le _) d
      rw [al_trans hr hPK hn (by omega) (by omega) k1 k2] at k3
      cases k3
    · omega
  · have : st A P n = n := by omega
    rw [this]
    exact this
theorem rp_IDM (hr : WR A) : ∀ (k : Nat) (P : Nat → Nat), PK A P → IDM A P → IDM A (rp A k P) := by
  intro k
  induction k with
  | zero => intro P _ h; exact h
  | succ k ih =>
    intro P hPK h
    cases hc : chg A P with
    | true => rw [rp_T hc]; exact ih _ (st_PK hPK) (st_IDM hr hPK)
    | false => rw [rp_F hc]; exact h
theorem cn_congr {f g : Nat → Bool} : ∀ n, (∀ i, i < n → f i = g i) → cn f n = cn g n := by
  intro n
  induction n with
  | zero => intro _; rfl
  | succ n ih =>
    intro h
    show cn f n + (f n).toNat = cn g n + (g n).toNat
    rw [ih (fun i hi => h i (by omega)), h n (by omega)]
theorem cn_pos {f : Nat → Bool} {n i : Nat} (hi : i < n) (h : f i = true) : 0 < cn f n := by
  have := cn_lt (f := fun _ => false) (g := f) n (fun _ _ z => by cases z) ⟨i, hi, rfl, h⟩
  omega
theorem cn_ex {f : Nat → Bool} : ∀ {n : Nat}, 0 < cn f n → ∃ i, i < n ∧ f i = true := by
  intro n
  induction n with
  | zero => intro h; exact absurd h (Nat.lt_irrefl 0)
  | succ n ih =>
    intro h
    cases hf : f n with
    | true => exact ⟨n, by omega, hf⟩
    | false =>
      have e : cn f (n + 1) = cn f n + (f n).toNat := rfl
      rw [e, hf] at h
      obtain ⟨i, h1, h2⟩ := ih (by simpa using h)
      exact ⟨i, by omega, h2⟩
def sz8 (A : Nat → Nat → Nat) (P : Nat → Nat) (n : Nat) : Nat := if A 10 n = 8 then 0 else sz A P n
theorem many_same (h : IDM A P) : cn (fun n => decide (P n = n ∧ ¬ A 10 n = 8)) (A 0 1) = cn (fun n => decide (0 < sz8 A P n)) (A 0 1) := by
  refine cn_congr _ fun n hn => ?_
  rw [Bool.eq_iff_iff, decide_eq_true_eq, decide_eq_true_eq]
  unfold sz8
  by_cases c : A 10 n = 8
  · rw [if_pos c]
    exact ⟨fun z => absurd c z.2, fun z => absurd z (Nat.lt_irrefl 0)⟩
  · rw [if_neg c]
    constructor
    · intro z
      exact cn_pos hn (decide_eq_true z.1)
    · intro z
      obtain ⟨m, hm, hq⟩ := cn_ex z
      rw [decide_eq_true_eq] at hq
      refine ⟨?_, c⟩
      have := h m hm
      rw [hq] at this
      exact this
end IDS
section MLE
variable {I : Nat → Nat → Int32} {J : Nat → Nat → Int64} {Q : Option Value → ab_H → Prop} {A : Nat → Nat → Nat} {P : Nat → Nat} {R : Prop}
theorem m_isAmong (hb : WB A) (hr : WR A) (h : PM 0 I A) (hg : PW I A) (hP : ∀ n, n < A 0 1 → P n < 1000) (hF : ∀ n, n < A 0 1 → I 210 n = nI (P n)) {m n : Nat} (hm : m < A 0 1) (hn : n < A 0 1) : Ex 186 [.ref 199, .int (nI m), .int (nI n)] (SH, I, J) Q = Q (some (.int (nI (amg A P m n).toNat))) (SH, I, J) := by
  have s1 := fun Q => m_isSeenOn (J := J) (Q := Q) (g := 0) (n := m) (m := n) hb hr (by omega) h hg hm hn
  obtain ⟨r1, r2, r3, r4⟩ := hr
  obtain ⟨e0, e1, e2, e3, e4, e5, e6, e7, e8, e9, e10, e11, e12⟩ := PM_0 h
  obtain ⟨g1, g2, g3⟩ := hg
  rw [en_186]
  unfold amg
  by_cases c : P m = P n
  · by_cases c2 : m = n
    · simp (disch := first | omega | assumption | exact own_186 | exact rt_186 | exact q_lt1 (hP _ (by omega)) | exact sr_199 | exact q_lt1 (hb _ _) | exact bt_lt _ | fail) only [own_186, rt_186, ab_kl_n, ab_kl_i, ab_kl_r, ab_kl_l, at_186_0, Go_aload_0, at_186_1, Go_getf, fl_8_41, gg_8_26, sh_ref, sh_rf, sr_199, sf_199_26, sr_210, sn_210, at_186_4, Go_iload_1, at_186_5, Go_iaload, sh_ln, q_in, q_cl, at_186_6, at_186_7, at_186_10, Go_iload_2, at_186_11, jt_186_12, q_le, q_lt, q_eq, n_leT, n_leF, n_ltT, n_ltF, n_eqF, n_b0, at_186_15, at_186_16, jt_186_17, at_186_20, at_186_21, Go_iconst, kc_0, at_186_22, at_186_23, at_186_24, cl_8_174, cat_n, cat_i, cat_r, cat_l, tl_i, tl_l, tl_n, sh_same, jt_186_27, at_186_30, kc_1, jt_186_31, at_186_34, at_186_35, Go_retb, Go_retb0, Go_retb1, Nat.reduceAdd, Nat.reduceMul, Nat.reduceLeDiff, Nat.reduceSub, decide_true, decide_false, Bool.toNat_true, Bool.toNat_false, not_true_eq_false, not_false_eq_true, ite_not, true_and, and_true, if_true, if_false, reduceIte, Bool.or_true, Bool.true_or, Bool.or_false, e0, e1, e2, e3, e4, e5, e6, e7, e8, e9, e10, e11, e12, g1, g2, g3, hF, c, c2]
      subst c2
      simp
    · simp (disch := first | omega | assumption | exact own_186 | exact rt_186 | exact q_lt1 (hP _ (by omega)) | exact sr_199 | exact q_lt1 (hb _ _) | exact bt_lt _ | fail) only [own_186, rt_186, ab_kl_n, ab_kl_i, ab_kl_r, ab_kl_l, at_186_0, Go_aload_0, at_186_1, Go_getf, fl_8_41, gg_8_26, sh_ref, sh_rf, sr_199, sf_199_26, sr_210, sn_210, at_186_4, Go_iload_1, at_186_5, Go_iaload, sh_ln, q_in, q_cl, at_186_6, at_186_7, at_186_10, Go_iload_2, at_186_11, jt_186_12, q_le, q_lt, q_eq, n_leT, n_leF, n_ltT, n_ltF, n_eqF, n_b0, at_186_15, at_186_16, jt_186_17, at_186_20, at_186_21, Go_iconst, kc_0, at_186_22, at_186_23, at_186_24, cl_8_174, cat_n, cat_i, cat_r, cat_l, tl_i, tl_l, tl_n, sh_same, jt_186_27, at_186_30, kc_1, jt_186_31, at_186_34, at_186_35, Go_retb, Go_retb0, Go_retb1, Nat.reduceAdd, Nat.reduceMul, Nat.reduceLeDiff, Nat.reduceSub, decide_true, decide_false, Bool.toNat_true, Bool.toNat_false, not_true_eq_false, not_false_eq_true, ite_not, true_and, and_true, if_true, if_false, reduceIte, Bool.or_true, Bool.true_or, Bool.or_false, e0, e1, e2, e3, e4, e5, e6, e7, e8, e9, e10, e11, e12, g1, g2, g3, hF, c, c2, s1]
      cases sn A m n <;> simp [c2]
  · simp (disch := first | omega | assumption | exact own_186 | exact rt_186 | exact q_lt1 (hP _ (by omega)) | exact sr_199 | exact q_lt1 (hb _ _) | exact bt_lt _ | fail) only [own_186, rt_186, ab_kl_n, ab_kl_i, ab_kl_r, ab_kl_l, at_186_0, Go_aload_0, at_186_1, Go_getf, fl_8_41, gg_8_26, sh_ref, sh_rf, sr_199, sf_199_26, sr_210, sn_210, at_186_4, Go_iload_1, at_186_5, Go_iaload, sh_ln, q_in, q_cl, at_186_6, at_186_7, at_186_10, Go_iload_2, at_186_11, jt_186_12, q_le, q_lt, q_eq, n_leT, n_leF, n_ltT, n_ltF, n_eqF, n_b0, at_186_15, at_186_16, jt_186_17, at_186_20, at_186_21, Go_iconst, kc_0, at_186_22, at_186_23, at_186_24, cl_8_174, cat_n, cat_i, cat_r, cat_l, tl_i, tl_l, tl_n, sh_same, jt_186_27, at_186_30, kc_1, jt_186_31, at_186_34, at_186_35, Go_retb, Go_retb0, Go_retb1, Nat.reduceAdd, Nat.reduceMul, Nat.reduceLeDiff, Nat.reduceSub, decide_true, decide_false, Bool.toNat_true, Bool.toNat_false, not_true_eq_false, not_false_eq_true, ite_not, true_and, and_true, if_true, if_false, reduceIte, Bool.or_true, Bool.true_or, Bool.or_false, e0, e1, e2, e3, e4, e5, e6, e7, e8, e9, e10, e11, e12, g1, g2, g3, hF, c]
    simp
theorem m_leadIn (hb : WB A) (hr : WR A) (h : PM 0 I A) (hg : PW I A) (hP : ∀ n, n < A 0 1 → P n < 1000) (hF : ∀ n, n < A 0 1 → I 210 n = nI (P n)) {m n : Nat} (hm : m < A 0 1) (hn : n < A 0 1) (hK : ∀ v, Go (ab_at 187 80) 187 80 [some (.ref 199), some (.int (nI (n))), some (.int (nI (m))), some (.int (nI ((ldp A P n m).toNat))), v] []  (SH, I, J) Q = R) : Go (ab_at 187 24) 187 24 [some (.ref 199), some (.int (nI (n))), some (.int (nI (m))), some (.int (nI ((amg A P m n).toNat))), some (.int (nI (0)))] []  (SH, I, J) Q = R := by
  have s1 := fun k hk Q => m_isSeenOn (J := J) (Q := Q) (g := 0) (n := m) (m := k) hb hr (by omega) h hg hm hk
  have s2 := fun k hk Q => m_isAmong (J := J) (Q := Q) (m := k) hb hr h hg hP hF hk hn
  obtain ⟨r1, r2, r3, r4⟩ := hr
  obtain ⟨e0, e1, e2, e3, e4, e5, e6, e7, e8, e9, e10, e11, e12⟩ := PM_0 h
  obtain ⟨g1, g2, g3⟩ := hg
  cases ha : amg A P m n with
  | false =>
    have e : ldp A P n m = false := by unfold ldp; rw [ha]; rfl
    rw [e] at hK
    rw [at_187_24]
    simp (disch := first | omega | assumption | exact own_187 | exact rt_187 | exact sr_199 | exact q_lt1 (hb _ _) | exact bt_lt _ | fail) only [own_187, rt_187, ab_kl_n, ab_kl_i, ab_kl_r, ab_kl_l, at_187_0, Go_iconst, kc_0, at_187_1, Go_istore_2, ab_put_int_2, Go_iload_2, at_187_3, Go_aload_0, at_187_4, Go_getf, fl_8_7, gg_8_0, sh_ref, sh_rf, sr_199, sf_199_0, sr_200, sn_200, at_187_7, Go_sipush, ks_237, at_187_10, Go_iaload, sh_ln, q_in, q_cl, jt_187_11, q_le, q_lt, q_eq, n_leT, n_leF, n_ltT, n_ltF, n_eqF, n_b0, at_187_14, at_187_15, at_187_16, Go_iload_1, at_187_17, cl_8_277, cat_n, cat_i, cat_r, cat_l, tl_i, tl_l, tl_n, sh_same, at_187_20, Go_istore_3, ab_put_int_3, at_187_21, at_187_22, Go_istore_4, ab_put_int_4, Go_iload_3, jt_187_25, at_187_28, Go_iload_4, at_187_30, at_187_31, at_187_34, at_187_37, jt_187_38, at_187_41, at_187_43, jt_187_44, at_187_47, at_187_48, at_187_50, at_187_51, jt_187_54, at_187_57, at_187_58, at_187_59, at_187_60, at_187_62, cl_8_174, jt_187_65, at_187_68, kc_1, jt_187_69, at_187_72, at_187_73, at_187_74, Go_iinc_4, q_add, jt_187_77, jt_187_81, at_187_84, at_187_85, Go_reti, at_187_86, Go_iinc_2, jt_187_89, at_187_92, at_187_93, Nat.reduceAdd, Nat.reduceMul, Nat.reduceLeDiff, Nat.reduceSub, decide_true, decide_false, Bool.toNat_true, Bool.toNat_false, not_true_eq_false, not_false_eq_true, ite_not, true_and, and_true, if_true, if_false, reduceIte, Bool.or_true, Bool.true_or, Bool.or_false, e0, e1, e2, e3, e4, e5, e6, e7, e8, e9, e10, e11, e12, g1, g2, g3]
    exact hK _
  | true =>
    have hs := fu_spec (fun k => !ldq A P n m k) (A 0 1) 0
    generalize fu (fun k => !ldq A P n m k) (A 0 1) 0 = z at hs
    obtain ⟨-, z2, z3, z4⟩ := hs
    simp only [Nat.zero_add, Bool.not_eq_true', Bool.not_eq_false'] at z2 z3 z4
    refine lp_wp (a := 0) (N := z) (Nat.zero_le _) (fun k => Go (ab_at 187 24) 187 24 [some (.ref 199), some (.int (nI (n))), some (.int (nI (m))), some (.int (nI (1))), some (.int (nI (k)))] []  (SH, I, J) Q = R) ?_ (fun k _ hk ih => ?_)
    · rw [at_187_24]
      rcases Nat.lt_or_ge z (A 0 1) with c | c
      · have k2 := z4 c
        have e : ldp A P n m = false := by
          unfold ldp
          rw [ha, (ay_iff _ _).mpr ⟨z, c, by rw [k2]; rfl⟩]
          rfl
        rw [e] at hK
        unfold ldq at k2
        simp only [Bool.or_eq_false_iff, decide_eq_false_iff_not, Bool.not_eq_false'] at k2
        obtain ⟨⟨k3, k4⟩, k5⟩ := k2
        simp (disch := first | omega | assumption | exact own_187 | exact rt_187 | exact sr_199 | exact q_lt1 (hb _ _) | exact bt_lt _ | fail) only [own_187, rt_187, ab_kl_n, ab_kl_i, ab_kl_r, ab_kl_l, at_187_0, Go_iconst, kc_0, at_187_1, Go_istore_2, ab_put_int_2, Go_iload_2, at_187_3, Go_aload_0, at_187_4, Go_getf, fl_8_7, gg_8_0, sh_ref, sh_rf, sr_199, sf_199_0, sr_200, sn_200, at_187_7, Go_sipush, ks_237, at_187_10, Go_iaload, sh_ln, q_in, q_cl, jt_187_11, q_le, q_lt, q_eq, n_leT, n_leF, n_ltT, n_ltF, n_eqF, n_b0, at_187_14, at_187_15, at_187_16, Go_iload_1, at_187_17, cl_8_277, cat_n, cat_i, cat_r, cat_l, tl_i, tl_l, tl_n, sh_same, at_187_20, Go_istore_3, ab_put_int_3, at_187_21, at_187_22, Go_istore_4, ab_put_int_4, Go_iload_3, jt_187_25, at_187_28, Go_iload_4, at_187_30, at_187_31, at_187_34, at_187_37, jt_187_38, at_187_41, at_187_43, jt_187_44, at_187_47, at_187_48, at_187_50, at_187_51, jt_187_54, at_187_57, at_187_58, at_187_59, at_187_60, at_187_62, cl_8_174, jt_187_65, at_187_68, kc_1, jt_187_69, at_187_72, at_187_73, at_187_74, Go_iinc_4, q_add, jt_187_77, jt_187_81, at_187_84, at_187_85, Go_reti, at_187_86, Go_iinc_2, jt_187_89, at_187_92, at_187_93, Nat.reduceAdd, Nat.reduceMul, Nat.reduceLeDiff, Nat.reduceSub, decide_true, decide_false, Bool.toNat_true, Bool.toNat_false, not_true_eq_false, not_false_eq_true, ite_not, true_and, and_true, if_true, if_false, reduceIte, Bool.or_true, Bool.true_or, Bool.or_false, e0, e1, e2, e3, e4, e5, e6, e7, e8, e9, e10, e11, e12, g1, g2, g3, s1, s2, k3, k4, k5]
        rw [at_187_24]
        simp (disch := first | omega | assumption | exact own_187 | exact rt_187 | exact sr_199 | exact q_lt1 (hb _ _) | exact bt_lt _ | fail) only [own_187, rt_187, ab_kl_n, ab_kl_i, ab_kl_r, ab_kl_l, at_187_0, Go_iconst, kc_0, at_187_1, Go_istore_2, ab_put_int_2, Go_iload_2, at_187_3, Go_aload_0, at_187_4, Go_getf, fl_8_7, gg_8_0, sh_ref, sh_rf, sr_199, sf_199_0, sr_200, sn_200, at_187_7, Go_sipush, ks_237, at_187_10, Go_iaload, sh_ln, q_in, q_cl, jt_187_11, q_le, q_lt, q_eq, n_leT, n_leF, n_ltT, n_ltF, n_eqF, n_b0, at_187_14, at_187_15, at_187_16, Go_iload_1, at_187_17, cl_8_277, cat_n, cat_i, cat_r, cat_l, tl_i, tl_l, tl_n, sh_same, at_187_20, Go_istore_3, ab_put_int_3, at_187_21, at_187_22, Go_istore_4, ab_put_int_4, Go_iload_3, jt_187_25, at_187_28, Go_iload_4, at_187_30, at_187_31, at_187_34, at_187_37, jt_187_38, at_187_41, at_187_43, jt_187_44, at_187_47, at_187_48, at_187_50, at_187_51, jt_187_54, at_187_57, at_187_58, at_187_59, at_187_60, at_187_62, cl_8_174, jt_187_65, at_187_68, kc_1, jt_187_69, at_187_72, at_187_73, at_187_74, Go_iinc_4, q_add, jt_187_77, jt_187_81, at_187_84, at_187_85, Go_reti, at_187_86, Go_iinc_2, jt_187_89, at_187_92, at_187_93, Nat.reduceAdd, Nat.reduceMul, Nat.reduceLeDiff, Nat.reduceSub, decide_true, decide_false, Bool.toNat_true, Bool.toNat_false, not_true_eq_false, not_false_eq_true, ite_not, true_and, and_true, if_true, if_false, reduceIte, Bool.or_true, Bool.true_or, Bool.or_false, e0, e1, e2, e3, e4, e5, e6, e7, e8, e9, e10, e11, e12, g1, g2, g3]
        exact hK _
      · have e : ldp A P n m = true := by
          rw [ldp_iff]
          refine ⟨ha, fun k hk hak => ?_⟩
          have k2 := z3 k (Nat.zero_le _) (by omega)
          unfold ldq at k2
          simp only [Bool.or_eq_true, decide_eq_true_eq, Bool.not_eq_true'] at k2
          rcases k2 with (k2 | k2) | k2
          · exact Or.inl k2
          · rw [hak] at k2; cases k2
          · exact Or.inr k2
        rw [e] at hK
        have k2 : z = A 0 1 := by omega
        subst k2
        simp (disch := first | omega | assumption | exact own_187 | exact rt_187 | exact sr_199 | exact q_lt1 (hb _ _) | exact bt_lt _ | fail) only [own_187, rt_187, ab_kl_n, ab_kl_i, ab_kl_r, ab_kl_l, at_187_0, Go_iconst, kc_0, at_187_1, Go_istore_2, ab_put_int_2, Go_iload_2, at_187_3, Go_aload_0, at_187_4, Go_getf, fl_8_7, gg_8_0, sh_ref, sh_rf, sr_199, sf_199_0, sr_200, sn_200, at_187_7, Go_sipush, ks_237, at_187_10, Go_iaload, sh_ln, q_in, q_cl, jt_187_11, q_le, q_lt, q_eq, n_leT, n_leF, n_ltT, n_ltF, n_eqF, n_b0, at_187_14, at_187_15, at_187_16, Go_iload_1, at_187_17, cl_8_277, cat_n, cat_i, cat_r, cat_l, tl_i, tl_l, tl_n, sh_same, at_187_20, Go_istore_3, ab_put_int_3, at_187_21, at_187_22, Go_istore_4, ab_put_int_4, Go_iload_3, jt_187_25, at_187_28, Go_iload_4, at_187_30, at_187_31, at_187_34, at_187_37, jt_187_38, at_187_41, at_187_43, jt_187_44, at_187_47, at_187_48, at_187_50, at_187_51, jt_187_54, at_187_57, at_187_58, at_187_59, at_187_60, at_187_62, cl_8_174, jt_187_65, at_187_68, kc_1, jt_187_69, at_187_72, at_187_73, at_187_74, Go_iinc_4, q_add, jt_187_77, jt_187_81, at_187_84, at_187_85, Go_reti, at_187_86, Go_iinc_2, jt_187_89, at_187_92, at_187_93, Nat.reduceAdd, Nat.reduceMul, Nat.reduceLeDiff, Nat.reduceSub, decide_true, decide_false, Bool.toNat_true, Bool.toNat_false, not_true_eq_false, not_false_eq_true, ite_not, true_and, and_true, if_true, if_false, reduceIte, Bool.or_true, Bool.true_or, Bool.or_false, e0, e1, e2, e3, e4, e5, e6, e7, e8, e9, e10, e11, e12, g1, g2, g3]
        exact hK _
    · rw [at_187_24]
      have k2 := z3 k (Nat.zero_le _) hk
      unfold ldq at k2
      simp only [Bool.or_eq_true, decide_eq_true_eq, Bool.not_eq_true'] at k2
      by_cases c1 : k = m
      · simp (disch := first | omega | assumption | exact own_187 | exact rt_187 | exact sr_199 | exact q_lt1 (hb _ _) | exact bt_lt _ | fail) only [own_187, rt_187, ab_kl_n, ab_kl_i, ab_kl_r, ab_kl_l, at_187_0, Go_iconst, kc_0, at_187_1, Go_istore_2, ab_put_int_2, Go_iload_2, at_187_3, Go_aload_0, at_187_4, Go_getf, fl_8_7, gg_8_0, sh_ref, sh_rf, sr_199, sf_199_0, sr_200, sn_200, at_187_7, Go_sipush, ks_237, at_187_10, Go_iaload, sh_ln, q_in, q_cl, jt_187_11, q_le, q_lt, q_eq, n_leT, n_leF, n_ltT, n_ltF, n_eqF, n_b0, at_187_14, at_187_15, at_187_16, Go_iload_1, at_187_17, cl_8_277, cat_n, cat_i, cat_r, cat_l, tl_i, tl_l, tl_n, sh_same, at_187_20, Go_istore_3, ab_put_int_3, at_187_21, at_187_22, Go_istore_4, ab_put_int_4, Go_iload_3, jt_187_25, at_187_28, Go_iload_4, at_187_30, at_187_31, at_187_34, at_187_37, jt_187_38, at_187_41, at_187_43, jt_187_44, at_187_47, at_187_48, at_187_50, at_187_51, jt_187_54, at_187_57, at_187_58, at_187_59, at_187_60, at_187_62, cl_8_174, jt_187_65, at_187_68, kc_1, jt_187_69, at_187_72, at_187_73, at_187_74, Go_iinc_4, q_add, jt_187_77, jt_187_81, at_187_84, at_187_85, Go_reti, at_187_86, Go_iinc_2, jt_187_89, at_187_92, at_187_93, Nat.reduceAdd, Nat.reduceMul, Nat.reduceLeDiff, Nat.reduceSub, decide_true, decide_false, Bool.toNat_true, Bool.toNat_false, not_true_eq_false, not_false_eq_true, ite_not, true_and, and_true, if_true, if_false, reduceIte, Bool.or_true, Bool.true_or, Bool.or_false, e0, e1, e2, e3, e4, e5, e6, e7, e8, e9, e10, e11, e12, g1, g2, g3, c1]
        rw [c1] at ih
        exact ih
      · cases c2 : amg A P k n with
        | false =>
          simp (disch := first | omega | assumption | exact own_187 | exact rt_187 | exact sr_199 | exact q_lt1 (hb _ _) | exact bt_lt _ | fail) only [own_187, rt_187, ab_kl_n, ab_kl_i, ab_kl_r, ab_kl_l, at_187_0, Go_iconst, kc_0, at_187_1, Go_istore_2, ab_put_int_2, Go_iload_2, at_187_3, Go_aload_0, at_187_4, Go_getf, fl_8_7, gg_8_0, sh_ref, sh_rf, sr_199, sf_199_0, sr_200, sn_200, at_187_7, Go_sipush, ks_237, at_187_10, Go_iaload, sh_ln, q_in, q_cl, jt_187_11, q_le, q_lt, q_eq, n_leT, n_leF, n_ltT, n_ltF, n_eqF, n_b0, at_187_14, at_187_15, at_187_16, Go_iload_1, at_187_17, cl_8_277, cat_n, cat_i, cat_r, cat_l, tl_i, tl_l, tl_n, sh_same, at_187_20, Go_istore_3, ab_put_int_3, at_187_21, at_187_22, Go_istore_4, ab_put_int_4, Go_iload_3, jt_187_25, at_187_28, Go_iload_4, at_187_30, at_187_31, at_187_34, at_187_37, jt_187_38, at_187_41, at_187_43, jt_187_44, at_187_47, at_187_48, at_187_50, at_187_51, jt_187_54, at_187_57, at_187_58, at_187_59, at_187_60, at_187_62, cl_8_174, jt_187_65, at_187_68, kc_1, jt_187_69, at_187_72, at_187_73, at_187_74, Go_iinc_4, q_add, jt_187_77, jt_187_81, at_187_84, at_187_85, Go_reti, at_187_86, Go_iinc_2, jt_187_89, at_187_92, at_187_93, Nat.reduceAdd, Nat.reduceMul, Nat.reduceLeDiff, Nat.reduceSub, decide_true, decide_false, Bool.toNat_true, Bool.toNat_false, not_true_eq_false, not_false_eq_true, ite_not, true_and, and_true, if_true, if_false, reduceIte, Bool.or_true, Bool.true_or, Bool.or_false, e0, e1, e2, e3, e4, e5, e6, e7, e8, e9, e10, e11, e12, g1, g2, g3, s2, c1, c2]
          exact ih
        | true =>
          have k5 : sn A m k = true := by
            rcases k2 with (k2 | k2) | k2
            · exact absurd k2 c1
            · rw [c2] at k2; cases k2
            · exact k2
          simp (disch := first | omega | assumption | exact own_187 | exact rt_187 | exact sr_199 | exact q_lt1 (hb _ _) | exact bt_lt _ | fail) only [own_187, rt_187, ab_kl_n, ab_kl_i, ab_kl_r, ab_kl_l, at_187_0, Go_iconst, kc_0, at_187_1, Go_istore_2, ab_put_int_2, Go_iload_2, at_187_3, Go_aload_0, at_187_4, Go_getf, fl_8_7, gg_8_0, sh_ref, sh_rf, sr_199, sf_199_0, sr_200, sn_200, at_187_7, Go_sipush, ks_237, at_187_10, Go_iaload, sh_ln, q_in, q_cl, jt_187_11, q_le, q_lt, q_eq, n_leT, n_leF, n_ltT, n_ltF, n_eqF, n_b0, at_187_14, at_187_15, at_187_16, Go_iload_1, at_187_17, cl_8_277, cat_n, cat_i, cat_r, cat_l, tl_i, tl_l, tl_n, sh_same, at_187_20, Go_istore_3, ab_put_int_3, at_187_21, at_187_22, Go_istore_4, ab_put_int_4, Go_iload_3, jt_187_25, at_187_28, Go_iload_4, at_187_30, at_187_31, at_187_34, at_187_37, jt_187_38, at_187_41, at_187_43, jt_187_44, at_187_47, at_187_48, at_187_50, at_187_51, jt_187_54, at_187_57, at_187_58, at_187_59, at_187_60, at_187_62, cl_8_174, jt_187_65, at_187_68, kc_1, jt_187_69, at_187_72, at_187_73, at_187_74, Go_iinc_4, q_add, jt_187_77, jt_187_81, at_187_84, at_187_85, Go_reti, at_187_86, Go_iinc_2, jt_187_89, at_187_92, at_187_93, Nat.reduceAdd, Nat.reduceMul, Nat.reduceLeDiff, Nat.reduceSub, decide_true, decide_false, Bool.toNat_true, Bool.toNat_false, not_true_eq_false, not_false_eq_true, ite_not, true_and, and_true, if_true, if_false, reduceIte, Bool.or_true, Bool.true_or, Bool.or_false, e0, e1, e2, e3, e4, e5, e6, e7, e8, e9, e10, e11, e12, g1, g2, g3, s1, s2, c1, c2, k5]
          exact ih
theorem m_leaderOf (hb : WB A) (hr : WR A) (h : PM 0 I A) (hg : PW I A) (hP : ∀ n, n < A 0 1 → P n < 1000) (hF : ∀ n, n < A 0 1 → I 210 n = nI (P n)) {n : Nat} (hn : n < A 0 1) : Ex 187 [.ref 199, .int (nI n)] (SH, I, J) Q = Q (some (.int (nI (ldm A P n)))) (SH, I, J) := by
  have s2 := fun k hk Q => m_isAmong (J := J) (Q := Q) (m := k) hb hr h hg hP hF hk hn
  have s3 := fun m hm R hK => m_leadIn (J := J) (Q := Q) (m := m) (n := n) (R := R) hb hr h hg hP hF hm hn hK
  obtain ⟨r1, r2, r3, r4⟩ := hr
  obtain ⟨e0, e1, e2, e3, e4, e5, e6, e7, e8, e9, e10, e11, e12⟩ := PM_0 h
  obtain ⟨g1, g2, g3⟩ := hg
  rw [en_187]
  generalize hR : Q _ (SH, I, J) = R
  unfold ldm at hR
  have hs := fu_spec (ldp A P n) (A 0 1) 0
  generalize fu (ldp A P n) (A 0 1) 0 = z at hs hR
  obtain ⟨-, z2, z3, z4⟩ := hs
  simp only [Nat.zero_add] at z2 z3 z4
  simp (disch := first | omega | assumption | exact own_187 | exact rt_187 | exact sr_199 | exact q_lt1 (hb _ _) | exact bt_lt _ | fail) only [own_187, rt_187, ab_kl_n, ab_kl_i, ab_kl_r, ab_kl_l, at_187_0, Go_iconst, kc_0, at_187_1, Go_istore_2, ab_put_int_2, Go_iload_2, at_187_3, Go_aload_0, at_187_4, Go_getf, fl_8_7, gg_8_0, sh_ref, sh_rf, sr_199, sf_199_0, sr_200, sn_200, at_187_7, Go_sipush, ks_237, at_187_10, Go_iaload, sh_ln, q_in, q_cl, jt_187_11, q_le, q_lt, q_eq, n_leT, n_leF, n_ltT, n_ltF, n_eqF, n_b0, at_187_14, at_187_15, at_187_16, Go_iload_1, at_187_17, cl_8_277, cat_n, cat_i, cat_r, cat_l, tl_i, tl_l, tl_n, sh_same, at_187_20, Go_istore_3, ab_put_int_3, at_187_21, at_187_22, Go_istore_4, ab_put_int_4, Go_iload_3, jt_187_25, at_187_28, Go_iload_4, at_187_30, at_187_31, at_187_34, at_187_37, jt_187_38, at_187_41, at_187_43, jt_187_44, at_187_47, at_187_48, at_187_50, at_187_51, jt_187_54, at_187_57, at_187_58, at_187_59, at_187_60, at_187_62, cl_8_174, jt_187_65, at_187_68, kc_1, jt_187_69, at_187_72, at_187_73, at_187_74, Go_iinc_4, q_add, jt_187_77, at_187_80, jt_187_81, at_187_84, at_187_85, Go_reti, at_187_86, Go_iinc_2, jt_187_89, at_187_92, at_187_93, Nat.reduceAdd, Nat.reduceMul, Nat.reduceLeDiff, Nat.reduceSub, decide_true, decide_false, Bool.toNat_true, Bool.toNat_false, not_true_eq_false, not_false_eq_true, ite_not, true_and, and_true, if_true, if_false, reduceIte, Bool.or_true, Bool.true_or, Bool.or_false, e0, e1, e2, e3, e4, e5, e6, e7, e8, e9, e10, e11, e12, g1, g2, g3]
  refine lp_wp (a := 0) (N := z) (Nat.zero_le _) (fun m => ∀ v w : Option Value, Go (ab_at 187 2) 187 2 [some (.ref 199), some (.int (nI (n))), some (.int (nI (m))), v, w] []  (SH, I, J) Q = R) (fun v w => ?_) (fun m _ hm ih v w => ?_) none none
  · rw [at_187_2]
    rcases Nat.lt_or_ge z (A 0 1) with c | c
    · have k2 := z4 c
      rw [if_pos c] at hR
      simp (disch := first | omega | assumption | exact own_187 | exact rt_187 | exact sr_199 | exact q_lt1 (hb _ _) | exact bt_lt _ | fail) only [own_187, rt_187, ab_kl_n, ab_kl_i, ab_kl_r, ab_kl_l, at_187_0, Go_iconst, kc_0, at_187_1, Go_istore_2, ab_put_int_2, Go_iload_2, at_187_3, Go_aload_0, at_187_4, Go_getf, fl_8_7, gg_8_0, sh_ref, sh_rf, sr_199, sf_199_0, sr_200, sn_200, at_187_7, Go_sipush, ks_237, at_187_10, Go_iaload, sh_ln, q_in, q_cl, jt_187_11, q_le, q_lt, q_eq, n_leT, n_leF, n_ltT, n_ltF, n_eqF, n_b0, at_187_14, at_187_15, at_187_16, Go_iload_1, at_187_17, cl_8_277, cat_n, cat_i, cat_r, cat_l, tl_i, tl_l, tl_n, sh_same, at_187_20, Go_istore_3, ab_put_int_3, at_187_21, at_187_22, Go_istore_4, ab_put_int_4, Go_iload_3, jt_187_25, at_187_28, Go_iload_4, at_187_30, at_187_31, at_187_34, at_187_37, jt_187_38, at_187_41, at_187_43, jt_187_44, at_187_47, at_187_48, at_187_50, at_187_51, jt_187_54, at_187_57, at_187_58, at_187_59, at_187_60, at_187_62, cl_8_174, jt_187_65, at_187_68, kc_1, jt_187_69, at_187_72, at_187_73, at_187_74, Go_iinc_4, q_add, jt_187_77, at_187_80, jt_187_81, at_187_84, at_187_85, Go_reti, at_187_86, Go_iinc_2, jt_187_89, at_187_92, at_187_93, Nat.reduceAdd, Nat.reduceMul, Nat.reduceLeDiff, Nat.reduceSub, decide_true, decide_false, Bool.toNat_true, Bool.toNat_false, not_true_eq_false, not_false_eq_true, ite_not, true_and, and_true, if_true, if_false, reduceIte, Bool.or_true, Bool.true_or, Bool.or_false, e0, e1, e2, e3, e4, e5, e6, e7, e8, e9, e10, e11, e12, g1, g2, g3, s2]
      refine s3 z c R (fun v => ?_)
      rw [at_187_80, k2]
      simp (disch := first | omega | assumption | exact own_187 | exact rt_187 | exact sr_199 | exact q_lt1 (hb _ _) | exact bt_lt _ | fail) only [own_187, rt_187, ab_kl_n, ab_kl_i, ab_kl_r, ab_kl_l, at_187_0, Go_iconst, kc_0, at_187_1, Go_istore_2, ab_put_int_2, Go_iload_2, at_187_3, Go_aload_0, at_187_4, Go_getf, fl_8_7, gg_8_0, sh_ref, sh_rf, sr_199, sf_199_0, sr_200, sn_200, at_187_7, Go_sipush, ks_237, at_187_10, Go_iaload, sh_ln, q_in, q_cl, jt_187_11, q_le, q_lt, q_eq, n_leT, n_leF, n_ltT, n_ltF, n_eqF, n_b0, at_187_14, at_187_15, at_187_16, Go_iload_1, at_187_17, cl_8_277, cat_n, cat_i, cat_r, cat_l, tl_i, tl_l, tl_n, sh_same, at_187_20, Go_istore_3, ab_put_int_3, at_187_21, at_187_22, Go_istore_4, ab_put_int_4, Go_iload_3, jt_187_25, at_187_28, Go_iload_4, at_187_30, at_187_31, at_187_34, at_187_37, jt_187_38, at_187_41, at_187_43, jt_187_44, at_187_47, at_187_48, at_187_50, at_187_51, jt_187_54, at_187_57, at_187_58, at_187_59, at_187_60, at_187_62, cl_8_174, jt_187_65, at_187_68, kc_1, jt_187_69, at_187_72, at_187_73, at_187_74, Go_iinc_4, q_add, jt_187_77, at_187_80, jt_187_81, at_187_84, at_187_85, Go_reti, at_187_86, Go_iinc_2, jt_187_89, at_187_92, at_187_93, Nat.reduceAdd, Nat.reduceMul, Nat.reduceLeDiff, Nat.reduceSub, decide_true, decide_false, Bool.toNat_true, Bool.toNat_false, not_true_eq_false, not_false_eq_true, ite_not, true_and, and_true, if_true, if_false, reduceIte, Bool.or_true, Bool.true_or, Bool.or_false, e0, e1, e2, e3, e4, e5, e6, e7, e8, e9, e10, e11, e12, g1, g2, g3]
      exact hR
    · have k2 : z = A 0 1 := by omega
      subst k2
      rw [if_neg (by omega)] at hR
      simp (disch := first | omega | assumption | exact own_187 | exact rt_187 | exact sr_199 | exact q_lt1 (hb _ _) | exact bt_lt _ | fail) only [own_187, rt_187, ab_kl_n, ab_kl_i, ab_kl_r, ab_kl_l, at_187_0, Go_iconst, kc_0, at_187_1, Go_istore_2, ab_put_int_2, Go_iload_2, at_187_3, Go_aload_0, at_187_4, Go_getf, fl_8_7, gg_8_0, sh_ref, sh_rf, sr_199, sf_199_0, sr_200, sn_200, at_187_7, Go_sipush, ks_237, at_187_10, Go_iaload, sh_ln, q_in, q_cl, jt_187_11, q_le, q_lt, q_eq, n_leT, n_leF, n_ltT, n_ltF, n_eqF, n_b0, at_187_14, at_187_15, at_187_16, Go_iload_1, at_187_17, cl_8_277, cat_n, cat_i, cat_r, cat_l, tl_i, tl_l, tl_n, sh_same, at_187_20, Go_istore_3, ab_put_int_3, at_187_21, at_187_22, Go_istore_4, ab_put_int_4, Go_iload_3, jt_187_25, at_187_28, Go_iload_4, at_187_30, at_187_31, at_187_34, at_187_37, jt_187_38, at_187_41, at_187_43, jt_187_44, at_187_47, at_187_48, at_187_50, at_187_51, jt_187_54, at_187_57, at_187_58, at_187_59, at_187_60, at_187_62, cl_8_174, jt_187_65, at_187_68, kc_1, jt_187_69, at_187_72, at_187_73, at_187_74, Go_iinc_4, q_add, jt_187_77, at_187_80, jt_187_81, at_187_84, at_187_85, Go_reti, at_187_86, Go_iinc_2, jt_187_89, at_187_92, at_187_93, Nat.reduceAdd, Nat.reduceMul, Nat.reduceLeDiff, Nat.reduceSub, decide_true, decide_false, Bool.toNat_true, Bool.toNat_false, not_true_eq_false, not_false_eq_true, ite_not, true_and, and_true, if_true, if_false, reduceIte, Bool.or_true, Bool.true_or, Bool.or_false, e0, e1, e2, e3, e4, e5, e6, e7, e8, e9, e10, e11, e12, g1, g2, g3]
      exact hR
  · rw [at_187_2]
    have k2 := z3 m (Nat.zero_le _) hm
    simp (disch := first | omega | assumption | exact own_187 | exact rt_187 | exact sr_199 | exact q_lt1 (hb _ _) | exact bt_lt _ | fail) only [own_187, rt_187, ab_kl_n, ab_kl_i, ab_kl_r, ab_kl_l, at_187_0, Go_iconst, kc_0, at_187_1, Go_istore_2, ab_put_int_2, Go_iload_2, at_187_3, Go_aload_0, at_187_4, Go_getf, fl_8_7, gg_8_0, sh_ref, sh_rf, sr_199, sf_199_0, sr_200, sn_200, at_187_7, Go_sipush, ks_237, at_187_10, Go_iaload, sh_ln, q_in, q_cl, jt_187_11, q_le, q_lt, q_eq, n_leT, n_leF, n_ltT, n_ltF, n_eqF, n_b0, at_187_14, at_187_15, at_187_16, Go_iload_1, at_187_17, cl_8_277, cat_n, cat_i, cat_r, cat_l, tl_i, tl_l, tl_n, sh_same, at_187_20, Go_istore_3, ab_put_int_3, at_187_21, at_187_22, Go_istore_4, ab_put_int_4, Go_iload_3, jt_187_25, at_187_28, Go_iload_4, at_187_30, at_187_31, at_187_34, at_187_37, jt_187_38, at_187_41, at_187_43, jt_187_44, at_187_47, at_187_48, at_187_50, at_187_51, jt_187_54, at_187_57, at_187_58, at_187_59, at_187_60, at_187_62, cl_8_174, jt_187_65, at_187_68, kc_1, jt_187_69, at_187_72, at_187_73, at_187_74, Go_iinc_4, q_add, jt_187_77, at_187_80, jt_187_81, at_187_84, at_187_85, Go_reti, at_187_86, Go_iinc_2, jt_187_89, at_187_92, at_187_93, Nat.reduceAdd, Nat.reduceMul, Nat.reduceLeDiff, Nat.reduceSub, decide_true, decide_false, Bool.toNat_true, Bool.toNat_false, not_true_eq_false, not_false_eq_true, ite_not, true_and, and_true, if_true, if_false, reduceIte, Bool.or_true, Bool.true_or, Bool.or_false, e0, e1, e2, e3, e4, e5, e6, e7, e8, e9, e10, e11, e12, g1, g2, g3, s2]
    refine s3 m (by omega) R (fun v => ?_)
    rw [at_187_80, k2]
    simp (disch := first | omega | assumption | exact own_187 | exact rt_187 | exact sr_199 | exact q_lt1 (hb _ _) | exact bt_lt _ | fail) only [own_187, rt_187, ab_kl_n, ab_kl_i, ab_kl_r, ab_kl_l, at_187_0, Go_iconst, kc_0, at_187_1, Go_istore_2, ab_put_int_2, Go_iload_2, at_187_3, Go_aload_0, at_187_4, Go_getf, fl_8_7, gg_8_0, sh_ref, sh_rf, sr_199, sf_199_0, sr_200, sn_200, at_187_7, Go_sipush, ks_237, at_187_10, Go_iaload, sh_ln, q_in, q_cl, jt_187_11, q_le, q_lt, q_eq, n_leT, n_leF, n_ltT, n_ltF, n_eqF, n_b0, at_187_14, at_187_15, at_187_16, Go_iload_1, at_187_17, cl_8_277, cat_n, cat_i, cat_r, cat_l, tl_i, tl_l, tl_n, sh_same, at_187_20, Go_istore_3, ab_put_int_3, at_187_21, at_187_22, Go_istore_4, ab_put_int_4, Go_iload_3, jt_187_25, at_187_28, Go_iload_4, at_187_30, at_187_31, at_187_34, at_187_37, jt_187_38, at_187_41, at_187_43, jt_187_44, at_187_47, at_187_48, at_187_50, at_187_51, jt_187_54, at_187_57, at_187_58, at_187_59, at_187_60, at_187_62, cl_8_174, jt_187_65, at_187_68, kc_1, jt_187_69, at_187_72, at_187_73, at_187_74, Go_iinc_4, q_add, jt_187_77, at_187_80, jt_187_81, at_187_84, at_187_85, Go_reti, at_187_86, Go_iinc_2, jt_187_89, at_187_92, at_187_93, Nat.reduceAdd, Nat.reduceMul, Nat.reduceLeDiff, Nat.reduceSub, decide_true, decide_false, Bool.toNat_true, Bool.toNat_false, not_true_eq_false, not_false_eq_true, ite_not, true_and, and_true, if_true, if_false, reduceIte, Bool.or_true, Bool.true_or, Bool.or_false, e0, e1, e2, e3, e4, e5, e6, e7, e8, e9, e10, e11, e12, g1, g2, g3]
    exact ih _ _
end MLE
