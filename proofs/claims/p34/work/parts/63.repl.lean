/-! THE CALLS: what changes lines -/
def w_a (s : VS) (A : Nat → Nat → Nat) : VS := (A, v_im s, v_tp s, v_tl s, v_ft s, v_ru s, v_sh s, v_ce s, v_tn s)
section OAS
variable {A A' : Nat → Nat → Nat}
theorem scs_of (e3 : A' 3 = A 3) (e4 : A' 4 = A 4) (e5 : A' 5 = A 5) : scs A' = scs A := by
  funext b
  unfold scs
  rw [e3, e4, e5]
theorem rk_of (e0 : A' 0 = A 0) (e3 : A' 3 = A 3) (e4 : A' 4 = A 4) (e5 : A' 5 = A 5) {X : Nat → Prop} : ∀ k b, rk A' X k b ↔ rk A X k b := by
  intro k
  induction k with
  | zero =>
    intro b
    show (b = 0 ∧ ¬ X b ∧ b < A' 0 0) ↔ (b = 0 ∧ ¬ X b ∧ b < A 0 0)
    rw [e0]
  | succ k ih =>
    intro b
    show (rk A' X k b ∨ ∃ c, rk A' X k c ∧ ed A' c b ∧ ¬ X b) ↔ (rk A X k b ∨ ∃ c, rk A X k c ∧ ed A c b ∧ ¬ X b)
    simp only [ih, ed, e0, e3, e4, e5]
theorem RE_of (e0 : A' 0 = A 0) (e3 : A' 3 = A 3) (e4 : A' 4 = A 4) (e5 : A' 5 = A 5) {X : Nat → Prop} {b : Nat} : RE A' X b ↔ RE A X b := by
  unfold RE
  simp only [rk_of e0 e3 e4 e5]
theorem WS_of (e0 : A' 0 = A 0) (e3 : A' 3 = A 3) (e4 : A' 4 = A 4) (e5 : A' 5 = A 5) (e7 : A' 7 = A 7) (e8 : A' 8 = A 8) (e9 : A' 9 = A 9) (h : WS A) : WS A' := by
  have e : edb A' = edb A := by
    funext c b
    unfold edb
    rw [scs_of e3 e4 e5]
  unfold WS
  simp only [e0, e7, e8, e9, e, RE_of e0 e3 e4 e5]
  exact h
theorem OA_of (h : OA A) (e : ∀ f, f ≠ 6 → f ≠ 13 → f ≠ 14 → A' f = A f) (hb : WB A') (h6 : ∀ b, b < A 0 0 → A 3 b ≠ 0 → A' 6 b < A 0 1) (h13 : ∀ n, n < A 0 1 → (A 10 n = 0 → A' 13 n ≤ 99) ∧ (A 10 n = 1 → A' 13 n ≤ 3)) (h14 : ∀ n i, n < A 0 1 → i < A 12 n → A' 14 (6 * n + i) < A 0 1) : OA A' := by
  obtain ⟨o1, o2, o3, o4, o5⟩ := h
  have e0 := e 0 (by omega) (by omega) (by omega)
  have e1 := e 1 (by omega) (by omega) (by omega)
  have e2 := e 2 (by omega) (by omega) (by omega)
  have e3 := e 3 (by omega) (by omega) (by omega)
  have e4 := e 4 (by omega) (by omega) (by omega)
  have e5 := e 5 (by omega) (by omega) (by omega)
  have e7 := e 7 (by omega) (by omega) (by omega)
  have e8 := e 8 (by omega) (by omega) (by omega)
  have e9 := e 9 (by omega) (by omega) (by omega)
  have e10 := e 10 (by omega) (by omega) (by omega)
  have e11 := e 11 (by omega) (by omega) (by omega)
  have e12 := e 12 (by omega) (by omega) (by omega)
  refine ⟨hb, ?_, ?_, ?_, WS_of e0 e3 e4 e5 e7 e8 e9 o5⟩
  · obtain ⟨r1, r2, r3, r4⟩ := o2
    unfold WR
    simp only [e0, e1, e2, e3, e4, e5, e7, e8, e9, e10, e11, e12]
    refine ⟨r1, r2, fun b hb => ?_, fun n hn => ?_⟩
    · obtain ⟨q1, q2, q3, q4, q5, q6⟩ := r3 b hb
      exact ⟨q1, q2, q3, q4, h6 b hb, q6⟩
    · obtain ⟨q1, q2, q3, q4, q5, q6, q7, q8, q9, q10, q11⟩ := r4 n hn
      exact ⟨q1, q2, q3, q4, q5, q6, q7, q8, (h13 n hn).1, (h13 n hn).2, fun i hi => h14 n i hn hi⟩
  · unfold WG
    simp only [e0, e7, e8, e9, e10, e12, RE_of e0 e3 e4 e5, ed, e3, e4, e5]
    exact o3
  · unfold WH
    simp only [e0, e1, e2, e11]
    exact o4
theorem OA_ex {ld : Nat → Nat} (h : OA A) (h1 : ∀ x, ld x < 1000) (h2 : ∀ x, x < A 0 1 → ld x < A 0 1) : OA (exA A ld) := ⟨ex_WB h.1 h1, ex_WR h.2.1 h2, ex_WG h.2.2.1, ex_WH h.2.2.2.1, WS_of (funext fun _ => ex_0) (funext fun _ => ex_3) (funext fun _ => ex_4) (funext fun _ => ex_5) (funext fun _ => ex_7) (funext fun _ => ex_8) (funext fun _ => ex_9) h.2.2.2.2⟩
theorem OA_sw (h : OA A) : OA (swA A) := ⟨sw_WB h.1, sw_WR h.2.1, sw_WG h.2.2.1, sw_WH h.2.2.2.1, WS_of (funext fun _ => sw_0) (funext fun _ => sw_3) (funext fun _ => sw_4) (funext fun _ => sw_5) (funext fun _ => sw_7) (funext fun _ => sw_8) (funext fun _ => sw_9) h.2.2.2.2⟩
end OAS
def n_replace (s : VS) : VS := w_a s (exA (v_a s) (ldA (v_a s)))
def o_replace (A : Nat → Nat → Nat) : Int32 := nI (exc A (ldA A) (A 0 1) + exb A (ldA A) (A 0 0))
def n_sweep (s : VS) : VS := w_a s (swA (v_a s))
def o_sweep (A : Nat → Nat → Nat) : Int32 := nI (swn A (A 0 1))
section CRE
variable {I I' : Nat → Nat → Int32} {J J' : Nat → Nat → Int64} {Q : Option Value → ab_H → Prop} {s : VS}
theorem C_sweep (ok : OS s) (h : SC s I J) (K : ∀ I' J', SC (n_sweep s) I' J' → Fr (fun o => 199 ≤ o) I I' J J' → Q (some (.int (o_sweep (v_a s)))) (SH, I', J')) : Ex 116 [.ref 0] (SH, I, J) Q := by
  obtain ⟨o1, o2, o3, o4, o5⟩ := ok.1
  obtain ⟨h1, h2, h3, h4, h5, h6, h7⟩ := h
  rw [en_116]
  simp (disch := first | omega | assumption | exact own_116 | exact rt_116 | exact pr_0 (by assumption) | exact sr_73 | exact sr_4 | exact q_lt1 (hb _ _) | exact bt_lt _ | fail) only [own_116, rt_116, ab_kl_n, ab_kl_i, ab_kl_r, ab_kl_l, at_116_0, Go_aload_0, at_116_1, Go_getf, fl_7_62, gg_7_9, sh_ref, sh_rf, sr_0, sf_0_9, sr_73, at_116_4, cl_7_245, cat_n, cat_i, cat_r, cat_l, tl_i, tl_l, tl_n, sh_same, at_116_7, Go_reti, Nat.reduceAdd, Nat.reduceMul, Nat.reduceLeDiff, Nat.reduceSub, decide_true, decide_false, Bool.toNat_true, Bool.toNat_false, not_true_eq_false, not_false_eq_true, ite_not, true_and, and_true, if_true, if_false, ↓reduceIte, Bool.or_true, Bool.true_or, Bool.or_false]
  refine x_dropUnneeded (p := 73) is73 o1 o2 h1.1 h1.2 (fun I' f k1 k2 => ?_)
  simp (disch := first | omega | assumption | exact own_116 | exact rt_116 | exact pr_0 (by assumption) | exact sr_73 | exact sr_4 | exact q_lt1 (hb _ _) | exact bt_lt _ | fail) only [own_116, rt_116, ab_kl_n, ab_kl_i, ab_kl_r, ab_kl_l, at_116_0, Go_aload_0, at_116_1, Go_getf, fl_7_62, gg_7_9, sh_ref, sh_rf, sr_0, sf_0_9, sr_73, at_116_4, cl_7_245, cat_n, cat_i, cat_r, cat_l, tl_i, tl_l, tl_n, sh_same, at_116_7, Go_reti, Nat.reduceAdd, Nat.reduceMul, Nat.reduceLeDiff, Nat.reduceSub, decide_true, decide_false, Bool.toNat_true, Bool.toNat_false, not_true_eq_false, not_false_eq_true, ite_not, true_and, and_true, if_true, if_false, ↓reduceIte, Bool.or_true, Bool.true_or, Bool.or_false]
  exact K I' J ⟨⟨k1, sw_PG.mpr k2⟩, Ci_eq ok.2.1 (fun o k _ => f o k (by omega)) h2, Ct_eq (fun o k _ => f o k (by omega)) h3, (f _ _ (by omega)).trans h4, Cr_eq (fun k _ => f _ k (by omega)) (fun _ => rfl) h5, Cs_eq (fun o k _ => f o k (by omega)) h6, (f _ _ (by omega)).trans h7⟩ ⟨fun o k hk => f o k (by omega), fun _ _ _ => rfl⟩
theorem C_replace (ok : OS s) (h : SC s I J) (K : ∀ I' J', SC (n_replace s) I' J' → Fr (fun o => 199 ≤ o) I I' J J' → Q (some (.int (o_replace (v_a s)))) (SH, I', J')) : Ex 115 [.ref 0] (SH, I, J) Q := by
  obtain ⟨o1, o2, o3, o4, o5⟩ := ok.1
  have r2 := o2.2.1
  rw [en_115]
  simp (disch := first | omega | assumption | exact own_115 | exact rt_115 | exact sr_57 | exact pr_0 (by assumption) | exact sr_73 | exact sr_4 | exact q_lt1 (hb _ _) | exact bt_lt _ | fail) only [own_115, rt_115, ab_kl_n, ab_kl_i, ab_kl_r, ab_kl_l, at_115_0, Go_aload_0, at_115_1, Go_getf, fl_7_29, gg_7_3, sh_ref, sh_rf, sr_0, sf_0_3, sr_57, at_115_4, at_115_5, fl_7_62, gg_7_9, sf_0_9, sr_73, at_115_8, Go_bipush, kb_100, at_115_10, cl_7_208, cat_n, cat_i, cat_r, cat_l, tl_i, tl_l, tl_n, sh_same, at_115_13, Go_iconst, kc_0, at_115_14, Go_istore_1, ab_put_int_1, Go_iload_1, at_115_16, at_115_17, at_115_20, fl_7_97, gg_3_1, jt_115_23, q_le, q_lt, q_eq, n_leT, n_leF, n_ltT, n_ltF, n_eqF, n_b0, at_115_26, at_115_27, fl_7_57, gg_7_8, sf_0_8, sr_72, sn_72, at_115_30, at_115_31, at_115_32, at_115_35, at_115_36, at_115_39, at_115_40, cl_7_227, at_115_43, Go_iastore, sh_ln, q_in, q_cl, sh_seti, at_115_44, Go_iinc_1, kc_1, q_add, jt_115_47, at_115_50, at_115_51, at_115_54, at_115_55, at_115_58, cl_7_241, at_115_61, Go_reti, Nat.reduceAdd, Nat.reduceMul, Nat.reduceLeDiff, Nat.reduceSub, decide_true, decide_false, Bool.toNat_true, Bool.toNat_false, not_true_eq_false, not_false_eq_true, ite_not, true_and, and_true, if_true, if_false, ↓reduceIte, Bool.or_true, Bool.true_or, Bool.or_false]
  refine x_split (p := 73) is73 o1 o2 h.1.1 h.1.2 (by omega) (fun I1 f1 f2 f3 => ?_)
  simp (disch := first | omega | assumption | exact own_115 | exact rt_115 | exact sr_57 | exact pr_0 (by assumption) | exact sr_73 | exact sr_4 | exact q_lt1 (hb _ _) | exact bt_lt _ | fail) only [own_115, rt_115, ab_kl_n, ab_kl_i, ab_kl_r, ab_kl_l, at_115_0, Go_aload_0, at_115_1, Go_getf, fl_7_29, gg_7_3, sh_ref, sh_rf, sr_0, sf_0_3, sr_57, at_115_4, at_115_5, fl_7_62, gg_7_9, sf_0_9, sr_73, at_115_8, Go_bipush, kb_100, at_115_10, cl_7_208, cat_n, cat_i, cat_r, cat_l, tl_i, tl_l, tl_n, sh_same, at_115_13, Go_iconst, kc_0, at_115_14, Go_istore_1, ab_put_int_1, Go_iload_1, at_115_16, at_115_17, at_115_20, fl_7_97, gg_3_1, jt_115_23, q_le, q_lt, q_eq, n_leT, n_leF, n_ltT, n_ltF, n_eqF, n_b0, at_115_26, at_115_27, fl_7_57, gg_7_8, sf_0_8, sr_72, sn_72, at_115_30, at_115_31, at_115_32, at_115_35, at_115_36, at_115_39, at_115_40, cl_7_227, at_115_43, Go_iastore, sh_ln, q_in, q_cl, sh_seti, at_115_44, Go_iinc_1, kc_1, q_add, jt_115_47, at_115_50, at_115_51, at_115_54, at_115_55, at_115_58, cl_7_241, at_115_61, Go_reti, Nat.reduceAdd, Nat.reduceMul, Nat.reduceLeDiff, Nat.reduceSub, decide_true, decide_false, Bool.toNat_true, Bool.toNat_false, not_true_eq_false, not_false_eq_true, ite_not, true_and, and_true, if_true, if_false, ↓reduceIte, Bool.or_true, Bool.true_or, Bool.or_false]
  refine lp_wp (a := 0) (N := v_a s 0 1) (Nat.zero_le _) (fun n => ∀ I2 : Nat → Nat → Int32, (∀ o k, o ≠ 72 → I2 o k = I1 o k) → (∀ x, x < n → I2 72 x = nI (ldA (v_a s) x)) → Go (ab_at 115 15) 115 15 [some (.ref 0), some (.int (nI (n)))] []  (SH, I2, J) Q) (fun I2 hf2 hn2 => ?_) (fun n _ hn ih I2 hf2 hn2 => ?_) I1 (fun _ _ _ => rfl) (fun x hx => absurd hx (Nat.not_lt_zero x))
  · have h' := SC_ot (I' := I2) (J' := J) ok (fun o k h1 h2 h3 => (hf2 o k h2).trans (f1 o k (by omega) (by omega) (by omega))) (fun _ => rfl) h
    obtain ⟨h1, h2, h3, h4, h5, h6, h7⟩ := h'
    have e1 := h1.1.2.1
    rw [at_115_15]
    simp (disch := first | omega | assumption | exact own_115 | exact rt_115 | exact sr_57 | exact pr_0 (by assumption) | exact sr_73 | exact sr_4 | exact q_lt1 (hb _ _) | exact bt_lt _ | fail) only [own_115, rt_115, ab_kl_n, ab_kl_i, ab_kl_r, ab_kl_l, at_115_0, Go_aload_0, at_115_1, Go_getf, fl_7_29, gg_7_3, sh_ref, sh_rf, sr_0, sf_0_3, sr_57, at_115_4, at_115_5, fl_7_62, gg_7_9, sf_0_9, sr_73, at_115_8, Go_bipush, kb_100, at_115_10, cl_7_208, cat_n, cat_i, cat_r, cat_l, tl_i, tl_l, tl_n, sh_same, at_115_13, Go_iconst, kc_0, at_115_14, Go_istore_1, ab_put_int_1, Go_iload_1, at_115_16, at_115_17, at_115_20, fl_7_97, gg_3_1, jt_115_23, q_le, q_lt, q_eq, n_leT, n_leF, n_ltT, n_ltF, n_eqF, n_b0, at_115_26, at_115_27, fl_7_57, gg_7_8, sf_0_8, sr_72, sn_72, at_115_30, at_115_31, at_115_32, at_115_35, at_115_36, at_115_39, at_115_40, cl_7_227, at_115_43, Go_iastore, sh_ln, q_in, q_cl, sh_seti, at_115_44, Go_iinc_1, kc_1, q_add, jt_115_47, at_115_50, at_115_51, at_115_54, at_115_55, at_115_58, cl_7_241, at_115_61, Go_reti, Nat.reduceAdd, Nat.reduceMul, Nat.reduceLeDiff, Nat.reduceSub, decide_true, decide_false, Bool.toNat_true, Bool.toNat_false, not_true_eq_false, not_false_eq_true, ite_not, true_and, and_true, if_true, if_false, ↓reduceIte, Bool.or_true, Bool.true_or, Bool.or_false, e1]
    refine x_exchange (p := 73) is73 o1 o2 h1.1 h1.2 (fun x hx => ldA_lt hx) hn2 (fun I' f k1 k2 => ?_)
    simp (disch := first | omega | assumption | exact own_115 | exact rt_115 | exact sr_57 | exact pr_0 (by assumption) | exact sr_73 | exact sr_4 | exact q_lt1 (hb _ _) | exact bt_lt _ | fail) only [own_115, rt_115, ab_kl_n, ab_kl_i, ab_kl_r, ab_kl_l, at_115_0, Go_aload_0, at_115_1, Go_getf, fl_7_29, gg_7_3, sh_ref, sh_rf, sr_0, sf_0_3, sr_57, at_115_4, at_115_5, fl_7_62, gg_7_9, sf_0_9, sr_73, at_115_8, Go_bipush, kb_100, at_115_10, cl_7_208, cat_n, cat_i, cat_r, cat_l, tl_i, tl_l, tl_n, sh_same, at_115_13, Go_iconst, kc_0, at_115_14, Go_istore_1, ab_put_int_1, Go_iload_1, at_115_16, at_115_17, at_115_20, fl_7_97, gg_3_1, jt_115_23, q_le, q_lt, q_eq, n_leT, n_leF, n_ltT, n_ltF, n_eqF, n_b0, at_115_26, at_115_27, fl_7_57, gg_7_8, sf_0_8, sr_72, sn_72, at_115_30, at_115_31, at_115_32, at_115_35, at_115_36, at_115_39, at_115_40, cl_7_227, at_115_43, Go_iastore, sh_ln, q_in, q_cl, sh_seti, at_115_44, Go_iinc_1, kc_1, q_add, jt_115_47, at_115_50, at_115_51, at_115_54, at_115_55, at_115_58, cl_7_241, at_115_61, Go_reti, Nat.reduceAdd, Nat.reduceMul, Nat.reduceLeDiff, Nat.reduceSub, decide_true, decide_false, Bool.toNat_true, Bool.toNat_false, not_true_eq_false, not_false_eq_true, ite_not, true_and, and_true, if_true, if_false, ↓reduceIte, Bool.or_true, Bool.true_or, Bool.or_false]
    exact K I' J ⟨⟨k1, ex_PG.mpr k2⟩, Ci_eq ok.2.1 (fun o k _ => f o k (by omega)) h2, Ct_eq (fun o k _ => f o k (by omega)) h3, (f _ _ (by omega)).trans h4, Cr_eq (fun k _ => f _ k (by omega)) (fun _ => rfl) h5, Cs_eq (fun o k _ => f o k (by omega)) h6, (f _ _ (by omega)).trans h7⟩ ⟨fun o k hk => by rw [f o k (by omega), hf2 o k (by omega), f1 o k (by omega) (by omega) (by omega)], fun _ _ _ => rfl⟩
  · have h' := SC_ot (I' := I2) (J' := J) ok (fun o k h1 h2 h3 => (hf2 o k h2).trans (f1 o k (by omega) (by omega) (by omega))) (fun _ => rfl) h
    have e1 := h'.1.1.2.1
    have s2 := fun Q => x_leaderOf (J := J) (Q := Q) (p := 73) (P := rp (v_a s) 100 (P0 (v_a s))) is73 o1 o2 h'.1.1 h'.1.2 (PK_1000 o2 (rp_PK _ _ (P0_PK o2))) (fun n hn => (hf2 58 n (by omega)).trans (f2 n hn)) hn
    have el : ldA (v_a s) n = ldc (v_a s) (rp (v_a s) 100 (P0 (v_a s))) n (v_a s 0 1) := if_pos hn
    rw [← el] at s2
    rw [at_115_15]
    simp (disch := first | omega | assumption | exact own_115 | exact rt_115 | exact sr_57 | exact pr_0 (by assumption) | exact sr_73 | exact sr_4 | exact q_lt1 (hb _ _) | exact bt_lt _ | fail) only [own_115, rt_115, ab_kl_n, ab_kl_i, ab_kl_r, ab_kl_l, at_115_0, Go_aload_0, at_115_1, Go_getf, fl_7_29, gg_7_3, sh_ref, sh_rf, sr_0, sf_0_3, sr_57, at_115_4, at_115_5, fl_7_62, gg_7_9, sf_0_9, sr_73, at_115_8, Go_bipush, kb_100, at_115_10, cl_7_208, cat_n, cat_i, cat_r, cat_l, tl_i, tl_l, tl_n, sh_same, at_115_13, Go_iconst, kc_0, at_115_14, Go_istore_1, ab_put_int_1, Go_iload_1, at_115_16, at_115_17, at_115_20, fl_7_97, gg_3_1, jt_115_23, q_le, q_lt, q_eq, n_leT, n_leF, n_ltT, n_ltF, n_eqF, n_b0, at_115_26, at_115_27, fl_7_57, gg_7_8, sf_0_8, sr_72, sn_72, at_115_30, at_115_31, at_115_32, at_115_35, at_115_36, at_115_39, at_115_40, cl_7_227, at_115_43, Go_iastore, sh_ln, q_in, q_cl, sh_seti, at_115_44, Go_iinc_1, kc_1, q_add, jt_115_47, at_115_50, at_115_51, at_115_54, at_115_55, at_115_58, cl_7_241, at_115_61, Go_reti, Nat.reduceAdd, Nat.reduceMul, Nat.reduceLeDiff, Nat.reduceSub, decide_true, decide_false, Bool.toNat_true, Bool.toNat_false, not_true_eq_false, not_false_eq_true, ite_not, true_and, and_true, if_true, if_false, ↓reduceIte, Bool.or_true, Bool.true_or, Bool.or_false, e1, s2]
    refine ih _ (fun o k ho => by rw [fr_seti ho]; exact hf2 o k ho) (fun x hx => ?_)
    by_cases z : x = n
    · subst z; exact fr_sets
    · rw [fr_setk z]; exact hn2 x (by omega)
end CRE
