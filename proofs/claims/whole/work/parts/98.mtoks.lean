/-! THE TEXT: words of both sides by number; the reference's tokens one by one -/
def wC (n : Nat) : Nat := if n < 8 then n else if n = 8 then 20 else n + 1
noncomputable def wkM (tp : Nat → Nat) (a e : Nat) : Nat := @ite _ (∃ n, n < 12 ∧ WM tp a e n) (Classical.propDecidable _) (wC (Classical.epsilon (fun n => n < 12 ∧ WM tp a e n))) 21
theorem wL_ne : ∀ n, n < 12 → ∀ m, m < 12 → n ≠ m → wE (n + 1) - wE n = wE (m + 1) - wE m → ¬ ∀ k, k < wE (n + 1) - wE n → wL (wE n + k) = wL (wE m + k) := by decide
theorem WM_one {tp : Nat → Nat} {a e n m : Nat} (hn : n < 12) (hm : m < 12) (h1 : WM tp a e n) (h2 : WM tp a e m) : n = m := by
  by_cases c : n = m
  · exact c
  · exfalso
    refine wL_ne n hn m hm c (h1.1.symm.trans h2.1) (fun k hk => ?_)
    have := h1.1
    exact (h1.2 k (by omega)).symm.trans (h2.2 k (by omega))
theorem wkM_of {tp : Nat → Nat} {a e n : Nat} (hn : n < 12) (h : WM tp a e n) : wkM tp a e = wC n := by
  unfold wkM
  rw [if_pos ⟨n, hn, h⟩]
  have := Classical.epsilon_spec (p := fun n => n < 12 ∧ WM tp a e n) ⟨n, hn, h⟩
  rw [WM_one this.1 hn this.2 h]
theorem wkM_no {tp : Nat → Nat} {a e : Nat} (h : ∀ n, n < 12 → ¬ WM tp a e n) : wkM tp a e = 21 := if_neg (fun ⟨n, h1, h2⟩ => h n h1 h2)
theorem wC_le : ∀ n, n < 12 → wC n ≤ 20 ∧ wC n ≠ 8 ∧ wC n ≠ 9 := by decide
theorem wC_inj : ∀ n, n < 12 → ∀ m, m < 12 → wC n = wC m → n = m := by decide
theorem wkM_cases (tp : Nat → Nat) (a e : Nat) : (∃ n, n < 12 ∧ WM tp a e n ∧ wkM tp a e = wC n) ∨ ((∀ n, n < 12 → ¬ WM tp a e n) ∧ wkM tp a e = 21) := by
  by_cases c : ∃ n, n < 12 ∧ WM tp a e n
  · obtain ⟨n, h1, h2⟩ := c
    exact Or.inl ⟨n, h1, h2, wkM_of h1 h2⟩
  · have : ∀ n, n < 12 → ¬ WM tp a e n := fun n h1 h2 => c ⟨n, h1, h2⟩
    exact Or.inr ⟨this, wkM_no this⟩
theorem wkM_le (tp : Nat → Nat) (a e : Nat) : wkM tp a e ≤ 21 := by
  rcases wkM_cases tp a e with ⟨n, h1, h2, h3⟩ | ⟨h1, h2⟩
  · have := wC_le n h1; omega
  · omega
theorem wkM_89 (tp : Nat → Nat) (a e : Nat) : wkM tp a e ≠ 8 ∧ wkM tp a e ≠ 9 := by
  rcases wkM_cases tp a e with ⟨n, h1, h2, h3⟩ | ⟨h1, h2⟩
  · have := wC_le n h1; omega
  · omega
/-- broken there, so; the token under the eye is one of the text -/
def MX (tp : Nat → Nat) (tl c a : Nat) (I : Nat → Nat → Int32) : Prop := MB c a I ∧ ∃ a', a' ≤ tl ∧ I 199 7 = nI a' ∧ I 199 6 = nI (tE tp tl a') ∧ I 199 8 = nI (tT tp tl a')
/-- come to token i -/
def OC (tp : Nat → Nat) (tl i : Nat) (I : Nat → Nat → Int32) : Prop := (tB tp tl (tk tp tl i) = false ∧ MK tp tl (tk tp tl i) I) ∨ (tB tp tl (tk tp tl i) = true ∧ MX tp tl 1 (tk tp tl i) I)
section MT2
variable {I I' : Nat → Nat → Int32} {J J' : Nat → Nat → Int64} {Q : Option Value → ab_H → Prop} {tp : Nat → Nat} {tl : Nat} {wk : Nat → Nat → Nat} {K V : Nat → Nat} {N i : Nat}
theorem tk_le (i : Nat) : tk tp tl i ≤ tl := (tA_le (qs_le i)).2
theorem tn_read (h : Mt tp tl I) (ht : tl ≤ 320) (hb : ∀ i, tp i < 128) (h4 : I 199 4 = nI 0) (h6 : I 199 6 = nI (qs tp tl i)) (K1 : ∀ I', Fk I I' → OC tp tl i I' → Q none (SH, I', J)) : Ex 139 [.ref 199] (SH, I, J) Q := by
  refine m_readsOn h ht hb (qs_le i) h4 h6 (fun I' f1 k7 k6 k8 k9 k4 k5 => ?_)
  have tl' : tA tp tl (qs tp tl i) ≤ tl := tk_le (tp := tp) i
  cases c : tB tp tl (tA tp tl (qs tp tl i)) with
  | true =>
    rw [c] at k4
    exact K1 I' f1 (Or.inr ⟨c, ⟨k4, k5 c⟩, _, tl', k7, k6, k8⟩)
  | false =>
    rw [c] at k4
    exact K1 I' f1 (Or.inl ⟨c, k7, k6, k8, k9, k4⟩)
theorem tn_on (h : Mt tp tl I) (ht : tl ≤ 320) (hb : ∀ i, tp i < 128) (hk : MK tp tl (tk tp tl i) I) (K1 : ∀ I', Fk I I' → OC tp tl (i + 1) I' → Q none (SH, I', J)) : Ex 139 [.ref 199] (SH, I, J) Q := tn_read (i := i + 1) h ht hb hk.2.2.2.2 hk.2.1 K1
theorem tn_off {c a : Nat} (hc : 0 < c) (hc2 : c < 1000) (h : MX tp tl c a I) : Ex 139 [.ref 199] (SH, I, J) Q = Q none (SH, I, J) := m_offB hc hc2 h.1
theorem cK_tT (hwk : ∀ a e, wk a e ≤ 21) {a : Nat} (hB : tB tp tl a = false) : (tT tp tl a = 2 ↔ cK tp tl wk a = 22) ∧ (tT tp tl a = 3 ↔ cK tp tl wk a = 23) ∧ (tT tp tl a = 0 ↔ cK tp tl wk a = 24) ∧ cK tp tl wk a ≠ 25 ∧ (tT tp tl a = 1 ↔ cK tp tl wk a ≤ 21) ∧ (tT tp tl a = 1 → cK tp tl wk a = wk a (tE tp tl a)) := by
  have w := hwk a (tE tp tl a)
  have t4 := tT_lt (tp := tp) (tl := tl) a
  unfold cK
  by_cases c0 : tT tp tl a = 0
  · rw [if_pos c0]; omega
  · rw [if_neg c0]
    by_cases c1 : tT tp tl a = 1
    · rw [if_pos c1]; omega
    · rw [if_neg c1, hB, if_neg (by decide)]
      by_cases c2 : tT tp tl a = 2
      · rw [if_pos c2]; omega
      · rw [if_neg c2]; omega
theorem cK_tB (hwk : ∀ a e, wk a e ≤ 21) {a : Nat} (hB : tB tp tl a = true) : cK tp tl wk a = 25 := by
  have t : tT tp tl a = 2 ∨ tT tp tl a = 3 := by
    unfold tB at hB
    by_cases c : tT tp tl a = 2
    · exact Or.inl c
    · rw [if_neg c] at hB
      by_cases d : tT tp tl a = 3
      · exact Or.inr d
      · rw [if_neg d] at hB; cases hB
  unfold cK
  rw [if_neg (by omega), if_neg (by omega), if_pos hB]
theorem MX_fails {c a : Nat} (ha : a ≤ tl) (hk : MK tp tl a I) : MX tp tl c a (ab_up (ab_up I 199 4 (nI c)) 199 5 (I 199 7)) := by
  obtain ⟨h7, h6, h8, h9, h4⟩ := hk
  exact ⟨⟨by rw [upn (by omega)]; exact fr_sets, by rw [h7]; exact fr_sets⟩, a, ha, by rw [upn (by omega), upn (by omega)]; exact h7, by rw [upn (by omega), upn (by omega)]; exact h6, by rw [upn (by omega), upn (by omega)]; exact h8⟩
theorem Fk_fails {c : Nat} {x : Int32} : Fk I (ab_up (ab_up I 199 4 (nI c)) 199 5 x) := fun o k z => by rw [upn (by omega), upn (by omega)]
theorem tn_semi (x : TX tp tl wk K V N) (h : Mt tp tl I) (ht : tl ≤ 320) (oc : OC tp tl i I) (K1 : fS K i = none → ∀ I', Fk I I' → OC tp tl (i + 1) I' → Q none (SH, I', J)) (K2 : ∀ c, fS K i = some (c, i) → ∀ I', Fk I I' → MX tp tl c (tk tp tl i) I' → Q none (SH, I', J)) : Ex 141 [.ref 199] (SH, I, J) Q := by
  obtain ⟨x1, x2, x3, x4, x5, x6, hb⟩ := x
  rcases oc with ⟨cB, hk⟩ | ⟨cB, hm⟩
  · obtain ⟨q2, q3, q0, q25, q1, -⟩ := cK_tT x6 cB
    rw [x1] at q2 q3 q0 q25 q1
    have hk0 := hk
    obtain ⟨h7, h6, h8, h9, h4⟩ := hk
    have tt := @tT_lt tp tl (tk tp tl i)
    rw [en_141]
    by_cases c : tT tp tl (tk tp tl i) = 3
    · simp (disch := first | omega | assumption | exact own_141 | exact rt_141 | exact sr_199 | exact q_lt1 (hb _ _) | exact bt_lt _ | fail) only [own_141, rt_141, ab_kl_n, ab_kl_i, ab_kl_r, ab_kl_l, at_141_0, Go_aload_0, at_141_1, Go_getf, fl_8_79, gg_8_4, sh_ref, sh_rf, sr_199, jt_141_4, q_le, q_lt, q_eq, n_leT, n_leF, n_ltT, n_ltF, n_eqF, n_b0, at_141_7, at_141_8, fl_8_88, gg_8_8, at_141_11, Go_iconst, kc_3, jt_141_12, at_141_15, at_141_16, kc_2, at_141_17, cl_8_109, cat_n, cat_i, cat_r, cat_l, tl_i, tl_l, tl_n, sh_same, at_141_20, at_141_21, cl_8_113, at_141_24, Go_return, Nat.reduceAdd, Nat.reduceMul, Nat.reduceLeDiff, Nat.reduceSub, decide_true, decide_false, Bool.toNat_true, Bool.toNat_false, not_true_eq_false, not_false_eq_true, ite_not, true_and, and_true, if_true, if_false, ↓reduceIte, Bool.or_true, Bool.true_or, Bool.or_false, h4, h8, c]
      refine tn_on h ht hb hk0 (fun I' f1 c1 => ?_)
      simp (disch := first | omega | assumption | exact own_141 | exact rt_141 | exact sr_199 | exact q_lt1 (hb _ _) | exact bt_lt _ | fail) only [own_141, rt_141, ab_kl_n, ab_kl_i, ab_kl_r, ab_kl_l, at_141_0, Go_aload_0, at_141_1, Go_getf, fl_8_79, gg_8_4, sh_ref, sh_rf, sr_199, jt_141_4, q_le, q_lt, q_eq, n_leT, n_leF, n_ltT, n_ltF, n_eqF, n_b0, at_141_7, at_141_8, fl_8_88, gg_8_8, at_141_11, Go_iconst, kc_3, jt_141_12, at_141_15, at_141_16, kc_2, at_141_17, cl_8_109, cat_n, cat_i, cat_r, cat_l, tl_i, tl_l, tl_n, sh_same, at_141_20, at_141_21, cl_8_113, at_141_24, Go_return, Nat.reduceAdd, Nat.reduceMul, Nat.reduceLeDiff, Nat.reduceSub, decide_true, decide_false, Bool.toNat_true, Bool.toNat_false, not_true_eq_false, not_false_eq_true, ite_not, true_and, and_true, if_true, if_false, ↓reduceIte, Bool.or_true, Bool.true_or, Bool.or_false]
      exact K1 (if_pos (q3.mp c)) I' f1 c1
    · simp (disch := first | omega | assumption | exact own_141 | exact rt_141 | exact sr_199 | exact q_lt1 (hb _ _) | exact bt_lt _ | fail) only [own_141, rt_141, ab_kl_n, ab_kl_i, ab_kl_r, ab_kl_l, at_141_0, Go_aload_0, at_141_1, Go_getf, fl_8_79, gg_8_4, sh_ref, sh_rf, sr_199, jt_141_4, q_le, q_lt, q_eq, n_leT, n_leF, n_ltT, n_ltF, n_eqF, n_b0, at_141_7, at_141_8, fl_8_88, gg_8_8, at_141_11, Go_iconst, kc_3, jt_141_12, at_141_15, at_141_16, kc_2, at_141_17, cl_8_109, cat_n, cat_i, cat_r, cat_l, tl_i, tl_l, tl_n, sh_same, at_141_20, at_141_21, cl_8_113, at_141_24, Go_return, Nat.reduceAdd, Nat.reduceMul, Nat.reduceLeDiff, Nat.reduceSub, decide_true, decide_false, Bool.toNat_true, Bool.toNat_false, not_true_eq_false, not_false_eq_true, ite_not, true_and, and_true, if_true, if_false, ↓reduceIte, Bool.or_true, Bool.true_or, Bool.or_false, h4, h8, c]
      rw [m_fails 2 h4]
      have mb := MX_fails (c := 2) (tk_le i) hk0
      have s1 := fun Q => tn_off (J := J) (Q := Q) (by omega) (by omega) mb
      simp (disch := first | omega | assumption | exact own_141 | exact rt_141 | exact sr_199 | exact q_lt1 (hb _ _) | exact bt_lt _ | fail) only [own_141, rt_141, ab_kl_n, ab_kl_i, ab_kl_r, ab_kl_l, at_141_0, Go_aload_0, at_141_1, Go_getf, fl_8_79, gg_8_4, sh_ref, sh_rf, sr_199, jt_141_4, q_le, q_lt, q_eq, n_leT, n_leF, n_ltT, n_ltF, n_eqF, n_b0, at_141_7, at_141_8, fl_8_88, gg_8_8, at_141_11, Go_iconst, kc_3, jt_141_12, at_141_15, at_141_16, kc_2, at_141_17, cl_8_109, cat_n, cat_i, cat_r, cat_l, tl_i, tl_l, tl_n, sh_same, at_141_20, at_141_21, cl_8_113, at_141_24, Go_return, Nat.reduceAdd, Nat.reduceMul, Nat.reduceLeDiff, Nat.reduceSub, decide_true, decide_false, Bool.toNat_true, Bool.toNat_false, not_true_eq_false, not_false_eq_true, ite_not, true_and, and_true, if_true, if_false, ↓reduceIte, Bool.or_true, Bool.true_or, Bool.or_false, s1]
      exact K2 2 (by unfold fS rW; rw [if_neg (fun z => c (q3.mpr z)), if_neg q25]) _ Fk_fails mb
  · rw [m_endsLineB (by omega) (by omega) hm.1]
    have k25 := cK_tB x6 cB
    rw [x1] at k25
    exact K2 1 (by unfold fS rW; rw [if_neg (by omega), if_pos k25]) I (fun _ _ _ => rfl) hm
theorem tn_num (x : TX tp tl wk K V N) (h : Mt tp tl I) (ht : tl ≤ 320) {lo hi : Nat} (hlo : lo < 1000) (hhi : hi < 1000) (oc : OC tp tl i I) (K1 : fN K V lo hi i = none → ∀ I', Fk I I' → OC tp tl (i + 1) I' → Q (some (.int (nI (V i)))) (SH, I', J)) (K2 : ∀ c, fN K V lo hi i = some (c, i) → ∀ I', Fk I I' → MX tp tl c (tk tp tl i) I' → Q (some (.int (nI lo))) (SH, I', J)) : Ex 140 [.ref 199, .int (nI lo), .int (nI hi)] (SH, I, J) Q := by
  obtain ⟨x1, x2, x3, x4, x5, x6, hb⟩ := x
  rcases oc with ⟨cB, hk⟩ | ⟨cB, hm⟩
  · obtain ⟨q2, q3, q0, q25, q1, -⟩ := cK_tT x6 cB
    rw [x1] at q2 q3 q0 q25 q1
    have hk0 := hk
    obtain ⟨h7, h6, h8, h9, h4⟩ := hk
    have tt := @tT_lt tp tl (tk tp tl i)
    have tv := @tV_lt tp tl hb (tk tp tl i)
    have xv := x2 i
    rw [xv] at tv h9
    have w : ((nI lo).toInt64 ≤ (nI (V i)).toInt64 ∧ (nI (V i)).toInt64 ≤ (nI hi).toInt64) = (lo ≤ V i ∧ V i ≤ hi) := by
      rw [q_il (by omega), q_il (by omega), q_il (by omega), Int64.le_iff_toInt_le, Int64.le_iff_toInt_le, lN_toInt (by omega), lN_toInt (by omega), lN_toInt (by omega)]
      exact propext ⟨fun z => ⟨by omega, by omega⟩, fun z => ⟨by omega, by omega⟩⟩
    rw [en_140]
    by_cases c : tT tp tl (tk tp tl i) = 2
    · have c22 := q2.mp c
      by_cases c2 : lo ≤ V i ∧ V i ≤ hi
      · have w1 := w.trans (eq_true c2)
        simp (disch := first | omega | assumption | exact own_140 | exact rt_140 | exact sr_199 | exact q_lt1 (hb _ _) | exact bt_lt _ | fail) only [own_140, rt_140, ab_kl_n, ab_kl_i, ab_kl_r, ab_kl_l, at_140_0, Go_aload_0, at_140_1, Go_getf, fl_8_79, gg_8_4, sh_ref, sh_rf, sr_199, jt_140_4, q_le, q_lt, q_eq, n_leT, n_leF, n_ltT, n_ltF, n_eqF, n_b0, at_140_7, at_140_8, fl_8_88, gg_8_8, at_140_11, Go_iconst, kc_2, jt_140_12, at_140_15, at_140_16, at_140_17, cl_8_109, cat_n, cat_i, cat_r, cat_l, tl_i, tl_l, tl_n, sh_same, at_140_20, at_140_21, jt_140_24, at_140_27, at_140_28, fl_8_98, gg_8_9, at_140_31, Go_i2l, at_140_32, Go_iload_1, at_140_33, at_140_34, Go_iload_2, at_140_35, at_140_36, cl_8_71, jt_140_39, at_140_42, at_140_43, kc_3, at_140_44, at_140_47, at_140_48, jt_140_51, at_140_54, at_140_55, jt_140_58, at_140_61, at_140_62, Go_istore_3, ab_put_int_3, at_140_63, at_140_64, cl_8_113, at_140_67, Go_iload_3, at_140_68, Go_reti, Nat.reduceAdd, Nat.reduceMul, Nat.reduceLeDiff, Nat.reduceSub, decide_true, decide_false, Bool.toNat_true, Bool.toNat_false, not_true_eq_false, not_false_eq_true, ite_not, true_and, and_true, if_true, if_false, ↓reduceIte, Bool.or_true, Bool.true_or, Bool.or_false, h4, h8, h9, c, m_in, w1, Bool.true_eq_false]
        refine tn_on h ht hb hk0 (fun I' f1 c1 => ?_)
        simp (disch := first | omega | assumption | exact own_140 | exact rt_140 | exact sr_199 | exact q_lt1 (hb _ _) | exact bt_lt _ | fail) only [own_140, rt_140, ab_kl_n, ab_kl_i, ab_kl_r, ab_kl_l, at_140_0, Go_aload_0, at_140_1, Go_getf, fl_8_79, gg_8_4, sh_ref, sh_rf, sr_199, jt_140_4, q_le, q_lt, q_eq, n_leT, n_leF, n_ltT, n_ltF, n_eqF, n_b0, at_140_7, at_140_8, fl_8_88, gg_8_8, at_140_11, Go_iconst, kc_2, jt_140_12, at_140_15, at_140_16, at_140_17, cl_8_109, cat_n, cat_i, cat_r, cat_l, tl_i, tl_l, tl_n, sh_same, at_140_20, at_140_21, jt_140_24, at_140_27, at_140_28, fl_8_98, gg_8_9, at_140_31, Go_i2l, at_140_32, Go_iload_1, at_140_33, at_140_34, Go_iload_2, at_140_35, at_140_36, cl_8_71, jt_140_39, at_140_42, at_140_43, kc_3, at_140_44, at_140_47, at_140_48, jt_140_51, at_140_54, at_140_55, jt_140_58, at_140_61, at_140_62, Go_istore_3, ab_put_int_3, at_140_63, at_140_64, cl_8_113, at_140_67, Go_iload_3, at_140_68, Go_reti, Nat.reduceAdd, Nat.reduceMul, Nat.reduceLeDiff, Nat.reduceSub, decide_true, decide_false, Bool.toNat_true, Bool.toNat_false, not_true_eq_false, not_false_eq_true, ite_not, true_and, and_true, if_true, if_false, ↓reduceIte, Bool.or_true, Bool.true_or, Bool.or_false]
        exact K1 (by unfold fN; rw [if_pos c22, if_pos c2]) I' f1 c1
      · have w1 := w.trans (eq_false c2)
        simp (disch := first | omega | assumption | exact own_140 | exact rt_140 | exact sr_199 | exact q_lt1 (hb _ _) | exact bt_lt _ | fail) only [own_140, rt_140, ab_kl_n, ab_kl_i, ab_kl_r, ab_kl_l, at_140_0, Go_aload_0, at_140_1, Go_getf, fl_8_79, gg_8_4, sh_ref, sh_rf, sr_199, jt_140_4, q_le, q_lt, q_eq, n_leT, n_leF, n_ltT, n_ltF, n_eqF, n_b0, at_140_7, at_140_8, fl_8_88, gg_8_8, at_140_11, Go_iconst, kc_2, jt_140_12, at_140_15, at_140_16, at_140_17, cl_8_109, cat_n, cat_i, cat_r, cat_l, tl_i, tl_l, tl_n, sh_same, at_140_20, at_140_21, jt_140_24, at_140_27, at_140_28, fl_8_98, gg_8_9, at_140_31, Go_i2l, at_140_32, Go_iload_1, at_140_33, at_140_34, Go_iload_2, at_140_35, at_140_36, cl_8_71, jt_140_39, at_140_42, at_140_43, kc_3, at_140_44, at_140_47, at_140_48, jt_140_51, at_140_54, at_140_55, jt_140_58, at_140_61, at_140_62, Go_istore_3, ab_put_int_3, at_140_63, at_140_64, cl_8_113, at_140_67, Go_iload_3, at_140_68, Go_reti, Nat.reduceAdd, Nat.reduceMul, Nat.reduceLeDiff, Nat.reduceSub, decide_true, decide_false, Bool.toNat_true, Bool.toNat_false, not_true_eq_false, not_false_eq_true, ite_not, true_and, and_true, if_true, if_false, ↓reduceIte, Bool.or_true, Bool.true_or, Bool.or_false, h4, h8, h9, c, m_in, w1]
        rw [m_fails 3 h4]
        have mb := MX_fails (c := 3) (tk_le i) hk0
        have mb4 := mb.1.1
        have s1 := fun Q => tn_off (J := J) (Q := Q) (by omega) (by omega) mb
        simp (disch := first | omega | assumption | exact own_140 | exact rt_140 | exact sr_199 | exact q_lt1 (hb _ _) | exact bt_lt _ | fail) only [own_140, rt_140, ab_kl_n, ab_kl_i, ab_kl_r, ab_kl_l, at_140_0, Go_aload_0, at_140_1, Go_getf, fl_8_79, gg_8_4, sh_ref, sh_rf, sr_199, jt_140_4, q_le, q_lt, q_eq, n_leT, n_leF, n_ltT, n_ltF, n_eqF, n_b0, at_140_7, at_140_8, fl_8_88, gg_8_8, at_140_11, Go_iconst, kc_2, jt_140_12, at_140_15, at_140_16, at_140_17, cl_8_109, cat_n, cat_i, cat_r, cat_l, tl_i, tl_l, tl_n, sh_same, at_140_20, at_140_21, jt_140_24, at_140_27, at_140_28, fl_8_98, gg_8_9, at_140_31, Go_i2l, at_140_32, Go_iload_1, at_140_33, at_140_34, Go_iload_2, at_140_35, at_140_36, cl_8_71, jt_140_39, at_140_42, at_140_43, kc_3, at_140_44, at_140_47, at_140_48, jt_140_51, at_140_54, at_140_55, jt_140_58, at_140_61, at_140_62, Go_istore_3, ab_put_int_3, at_140_63, at_140_64, cl_8_113, at_140_67, Go_iload_3, at_140_68, Go_reti, Nat.reduceAdd, Nat.reduceMul, Nat.reduceLeDiff, Nat.reduceSub, decide_true, decide_false, Bool.toNat_true, Bool.toNat_false, not_true_eq_false, not_false_eq_true, ite_not, true_and, and_true, if_true, if_false, ↓reduceIte, Bool.or_true, Bool.true_or, Bool.or_false, s1, mb4]
        exact K2 3 (by unfold fN; rw [if_pos c22, if_neg c2]) _ Fk_fails mb
    · have c22 : ¬ K i = 22 := fun z => c (q2.mpr z)
      simp (disch := first | omega | assumption | exact own_140 | exact rt_140 | exact sr_199 | exact q_lt1 (hb _ _) | exact bt_lt _ | fail) only [own_140, rt_140, ab_kl_n, ab_kl_i, ab_kl_r, ab_kl_l, at_140_0, Go_aload_0, at_140_1, Go_getf, fl_8_79, gg_8_4, sh_ref, sh_rf, sr_199, jt_140_4, q_le, q_lt, q_eq, n_leT, n_leF, n_ltT, n_ltF, n_eqF, n_b0, at_140_7, at_140_8, fl_8_88, gg_8_8, at_140_11, Go_iconst, kc_2, jt_140_12, at_140_15, at_140_16, at_140_17, cl_8_109, cat_n, cat_i, cat_r, cat_l, tl_i, tl_l, tl_n, sh_same, at_140_20, at_140_21, jt_140_24, at_140_27, at_140_28, fl_8_98, gg_8_9, at_140_31, Go_i2l, at_140_32, Go_iload_1, at_140_33, at_140_34, Go_iload_2, at_140_35, at_140_36, cl_8_71, jt_140_39, at_140_42, at_140_43, kc_3, at_140_44, at_140_47, at_140_48, jt_140_51, at_140_54, at_140_55, jt_140_58, at_140_61, at_140_62, Go_istore_3, ab_put_int_3, at_140_63, at_140_64, cl_8_113, at_140_67, Go_iload_3, at_140_68, Go_reti, Nat.reduceAdd, Nat.reduceMul, Nat.reduceLeDiff, Nat.reduceSub, decide_true, decide_false, Bool.toNat_true, Bool.toNat_false, not_true_eq_false, not_false_eq_true, ite_not, true_and, and_true, if_true, if_false, ↓reduceIte, Bool.or_true, Bool.true_or, Bool.or_false, h4, h8, h9, c]
      rw [m_fails 2 h4]
      have mb := MX_fails (c := 2) (tk_le i) hk0
      have mb4 := mb.1.1
      have s1 := fun Q => tn_off (J := J) (Q := Q) (by omega) (by omega) mb
      simp (disch := first | omega | assumption | exact own_140 | exact rt_140 | exact sr_199 | exact q_lt1 (hb _ _) | exact bt_lt _ | fail) only [own_140, rt_140, ab_kl_n, ab_kl_i, ab_kl_r, ab_kl_l, at_140_0, Go_aload_0, at_140_1, Go_getf, fl_8_79, gg_8_4, sh_ref, sh_rf, sr_199, jt_140_4, q_le, q_lt, q_eq, n_leT, n_leF, n_ltT, n_ltF, n_eqF, n_b0, at_140_7, at_140_8, fl_8_88, gg_8_8, at_140_11, Go_iconst, kc_2, jt_140_12, at_140_15, at_140_16, at_140_17, cl_8_109, cat_n, cat_i, cat_r, cat_l, tl_i, tl_l, tl_n, sh_same, at_140_20, at_140_21, jt_140_24, at_140_27, at_140_28, fl_8_98, gg_8_9, at_140_31, Go_i2l, at_140_32, Go_iload_1, at_140_33, at_140_34, Go_iload_2, at_140_35, at_140_36, cl_8_71, jt_140_39, at_140_42, at_140_43, kc_3, at_140_44, at_140_47, at_140_48, jt_140_51, at_140_54, at_140_55, jt_140_58, at_140_61, at_140_62, Go_istore_3, ab_put_int_3, at_140_63, at_140_64, cl_8_113, at_140_67, Go_iload_3, at_140_68, Go_reti, Nat.reduceAdd, Nat.reduceMul, Nat.reduceLeDiff, Nat.reduceSub, decide_true, decide_false, Bool.toNat_true, Bool.toNat_false, not_true_eq_false, not_false_eq_true, ite_not, true_and, and_true, if_true, if_false, ↓reduceIte, Bool.or_true, Bool.true_or, Bool.or_false, s1, mb4]
      exact K2 2 (by unfold fN rW; rw [if_neg c22, if_neg q25]) _ Fk_fails mb
  · rw [m_numberB (by omega) (by omega) hm.1]
    have k25 := cK_tB x6 cB
    rw [x1] at k25
    exact K2 1 (by unfold fN rW; rw [if_neg (by omega), if_pos k25]) I (fun _ _ _ => rfl) hm
/-- the word where one stands -/
theorem tn_word (x : TX tp tl (wkM tp) K V N) (h : Mt tp tl I) (ht : tl ≤ 320) (cB : tB tp tl (tk tp tl i) = false) (hk : MK tp tl (tk tp tl i) I) (K1 : ∀ n, n < 12 → K i = wC n → Q (some (.int (nI n))) (SH, I, J)) (K2 : 21 ≤ K i → Q (some (.int (-4))) (SH, I, J)) : Ex 138 [.ref 199] (SH, I, J) Q := by
  obtain ⟨x1, x2, x3, x4, x5, x6, hb⟩ := x
  obtain ⟨q2, q3, q0, q25, q1, qw⟩ := cK_tT x6 cB
  rw [x1] at q2 q3 q0 q25 q1 qw
  obtain ⟨h7, h6, h8, h9, h4⟩ := hk
  have te := tE_le (tp := tp) (tk_le (tp := tp) (tl := tl) i)
  have tt := @tT_lt tp tl (tk tp tl i)
  by_cases c : tT tp tl (tk tp tl i) = 1
  · rw [c] at h8
    refine m_nameHere h ht hb te.1 te.2 h8 h7 h6 (fun n hn hw _ => K1 n hn ?_) (fun hn => K2 ?_)
    · rw [qw c, wkM_of hn hw]
    · rw [qw c, wkM_no hn]; omega
  · rw [m_nameHere0 h8 c (by omega)]
    exact K2 (by omega)
theorem tn_wordX {c a : Nat} (h : Mt tp tl I) (ht : tl ≤ 320) (hb : ∀ i, tp i < 128) (hm : MX tp tl c a I) (K1 : ∀ x, Q (some (.int x)) (SH, I, J)) : Ex 138 [.ref 199] (SH, I, J) Q := by
  obtain ⟨-, a', ha, h7, h6, h8⟩ := hm
  have te := tE_le (tp := tp) ha
  have tt := @tT_lt tp tl a'
  by_cases c : tT tp tl a' = 1
  · rw [c] at h8
    exact m_nameHere h ht hb te.1 te.2 h8 h7 h6 (fun n _ _ _ => K1 _) (fun _ => K1 _)
  · rw [m_nameHere0 h8 c (by omega)]
    exact K1 _
end MT2
