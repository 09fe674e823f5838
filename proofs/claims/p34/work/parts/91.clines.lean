/-! THE TEXT: lines of the class -/
def FL (I I' : Nat → Nat → Int32) : Prop := ∀ o k, ¬ (o = 1 ∧ 7 ≤ k) → ¬ (4 ≤ o ∧ o ≤ 45) → I' o k = I o k
def FB (I I' : Nat → Nat → Int32) : Prop := ∀ o k, o ≠ 1 → ¬ (4 ≤ o ∧ o ≤ 45) → I' o k = I o k
def TX (tp : Nat → Nat) (tl : Nat) (wk : Nat → Nat → Nat) (K V : Nat → Nat) (N : Nat) : Prop := (∀ j, cK tp tl wk (tk tp tl j) = K j) ∧ (∀ j, tV tp tl (tk tp tl j) = V j) ∧ N ≤ 320 ∧ endK (K N) ∧ (∀ j, K j ≠ 8 ∧ K j ≠ 9) ∧ (∀ a e, wk a e ≤ 21) ∧ (∀ i, tp i < 128)
def DC (ib : Bool) (A : DD) (I : Nat → Nat → Int32) : Prop := (I 4 0 = nI (A 0 0) ∧ I 4 1 = nI (A 0 1)) ∧ (∀ b, b < A 0 0 → I 5 b = nI (A 1 b) ∧ I 6 b = nI (A 2 b)) ∧
  (∀ b, b < cl ib A → I 7 b = nI (A 3 b) ∧ (A 3 b ≠ 2 → I 8 b = nI (A 4 b)) ∧ (A 3 b = 1 → I 9 b = nI (A 5 b)) ∧ (A 3 b ≠ 0 → I 10 b = nI (A 6 b))) ∧
  (∀ n, n < A 0 1 → I 20 n = nI (A 10 n) ∧ I 21 n = nI (A 11 n) ∧ I 22 n = nI (A 12 n) ∧ (A 10 n ≤ 1 → I 23 n = nI (A 13 n)) ∧ (A 12 n ≤ 6 → ∀ j, j < A 12 n → I (25 + n) j = nI (A 14 (6 * n + j))))
section CLN
variable {I I' I1 : Nat → Nat → Int32} {J J' : Nat → Nat → Int64} {Q : Option Value → ab_H → Prop} {tp : Nat → Nat} {tl : Nat} {wk : Nat → Nat → Nat} {K V : Nat → Nat} {N : Nat} {A : DD} {i : Nat} {ph : Bool}
theorem FL_r : FL I I := fun _ _ _ _ => rfl
theorem FL_t {I2 : Nat → Nat → Int32} (f : FL I I1) (g : FL I1 I2) : FL I I2 := fun o k h1 h2 => (g o k h1 h2).trans (f o k h1 h2)
theorem FB_t {I2 : Nat → Nat → Int32} (f : FL I I1) (g : FB I1 I2) : FB I I2 := fun o k h1 h2 => (g o k h1 h2).trans (f o k (by omega) h2)
theorem CTo_fl {n : Nat} (f : FL I I') (h : CTo tp tl wk n I) : CTo tp tl wk n I' := fun i hi => ⟨(f _ _ (by omega) (by omega)).trans (h i hi).1, (f _ _ (by omega) (by omega)).trans (h i hi).2.1, fun z => (f _ _ (by omega) (by omega)).trans ((h i hi).2.2 z)⟩
theorem rF_rW (x : TX tp tl wk K V N) (w : Nat) : rF tp tl wk i w = rW K i w := by
  unfold rF rW
  rw [x.1]
theorem TX_le (x : TX tp tl wk K V N) (j : Nat) : K j ≤ 25 := by
  rw [← x.1]
  exact cK_le x.2.2.2.2.2.1 _
theorem y_semi (x : TX tp tl wk K V N) (hc : CTo tp tl wk (N + 1) I) (hi : i ≤ N) (h7 : I 1 7 = nI i)
    (K1 : fS K i = none → ∀ I', (∀ o k, ¬ (o = 1 ∧ (k = 7 ∨ k = 9)) → I' o k = I o k) → I' 1 7 = nI (i + 1) → Q (some (.int (nI 1))) (SH, I', J))
    (K2 : ∀ c, fS K i = some (c, i) → ∀ I', (∀ o k, ¬ (o = 1 ∧ (k = 2 ∨ k = 3)) → I' o k = I o k) → I' 1 2 = nI c → I' 1 3 = nI (tk tp tl i) → Q (some (.int (nI 0))) (SH, I', J)) : Ex 78 [.ref 1] (SH, I, J) Q := by
  have x0 := x
  obtain ⟨x1, x2, x3, x4, x5, x6, x7⟩ := x
  rw [x_takeSemicolon (by omega) (show i < N + 1 by omega) x6 hc h7, x1]
  by_cases c : K i = 23
  · rw [if_pos c]; exact K1 (if_pos c) _ (fun o k z => upn (by omega)) fr_sets
  · rw [if_neg c, rF_rW x0]; exact K2 _ (if_neg c) _ (fun o k z => by rw [upn (by omega), upn (by omega)]) (by simp [upk]) fr_sets
theorem y_num (x : TX tp tl wk K V N) (hc : CTo tp tl wk (N + 1) I) {lo hi : Nat} (hi' : i ≤ N) (hlo : lo < 1000) (hhi : hi < 1000) (h7 : I 1 7 = nI i)
    (K1 : fN K V lo hi i = none → ∀ I', (∀ o k, ¬ (o = 1 ∧ (k = 7 ∨ k = 9)) → I' o k = I o k) → I' 1 7 = nI (i + 1) → I' 1 9 = nI (V i) → Q (some (.int (nI 1))) (SH, I', J))
    (K2 : ∀ c, fN K V lo hi i = some (c, i) → ∀ I', (∀ o k, ¬ (o = 1 ∧ (k = 2 ∨ k = 3)) → I' o k = I o k) → I' 1 2 = nI c → I' 1 3 = nI (tk tp tl i) → Q (some (.int (nI 0))) (SH, I', J)) : Ex 79 [.ref 1, .int (nI lo), .int (nI hi)] (SH, I, J) Q := by
  have x0 := x
  obtain ⟨x1, x2, x3, x4, x5, x6, x7⟩ := x
  rw [x_takeNumber (by omega) (show i < N + 1 by omega) x7 hlo hhi x6 hc h7, x1, x2]
  unfold fN at K1 K2
  by_cases c : K i = 22
  · rw [if_pos c] at K1 K2 ⊢
    by_cases d : lo ≤ V i ∧ V i ≤ hi
    · rw [if_pos d] at K1 K2 ⊢
      exact K1 rfl _ (fun o k z => by rw [upn (by omega), upn (by omega)]) fr_sets (by simp [upk])
    · rw [if_neg d] at K1 K2 ⊢
      exact K2 _ rfl _ (fun o k z => by rw [upn (by omega), upn (by omega)]) (by simp [upk]) fr_sets
  · rw [if_neg c] at K1 K2 ⊢
    rw [rF_rW x0]
    exact K2 _ rfl _ (fun o k z => by rw [upn (by omega), upn (by omega)]) (by simp [upk]) fr_sets
theorem y_refuse (x : TX tp tl wk K V N) (hc : CTo tp tl wk (N + 1) I) (hi : i ≤ N) (h7 : I 1 7 = nI i) {w : Nat} (hw : w < 1000) (K2 : ∀ I', (∀ o k, ¬ (o = 1 ∧ (k = 2 ∨ k = 3)) → I' o k = I o k) → I' 1 2 = nI (rW K i w) → I' 1 3 = nI (tk tp tl i) → Q (some (.int (nI 0))) (SH, I', J)) : Ex 71 [.ref 1, .int (nI w)] (SH, I, J) Q := by
  have x0 := x
  obtain ⟨x1, x2, x3, x4, x5, x6, x7⟩ := x
  rw [x_refuse (by omega) (show i < N + 1 by omega) x6 hc h7 hw, rF_rW x0]
  exact K2 _ (fun o k z => by rw [upn (by omega), upn (by omega)]) (by simp [upk]) fr_sets
theorem y_readHead (x : TX tp tl wk K V N) (hc : CTo tp tl wk (N + 1) I) (w : DW false A) (d : DC false A I) (hi : i ≤ N) (h7 : I 1 7 = nI i)
    (K1 : ∀ I', FL I I' → I' 1 7 = nI (i + 2) → I' 1 10 = nI 1 → I' 1 11 = nI 0 → DC true (hdA A) I' → stp K V false ph i A = .inr (true, false, i + 2, hdA A) → Q (some (.int (nI 1))) (SH, I', J))
    (K2 : ∀ c j I', stp K V false ph i A = .inl (c, j) → FB I I' → I' 1 2 = nI c → I' 1 3 = nI (tk tp tl j) → Q (some (.int (nI 0))) (SH, I', J)) : Ex 73 [.ref 1] (SH, I, J) Q := by
  have x0 := x
  obtain ⟨x1, x2, x3, x4, x5, x6, x7⟩ := x
  obtain ⟨t1, t2, t3⟩ := hc i (by omega)
  rw [x1] at t1
  have k25 := TX_le x0 i
  have w6 := w.1.1
  have w20 := w.1.2.1
  rw [en_73]
  by_cases c1 : K i = 20
  · have i1 : i + 1 ≤ N := nx_tok x4 hi (by unfold endK; omega)
    have ob := fun Q => x_openBlock (J := J) (Q := Q) (p := 4) (Or.inl rfl) d.1.1 d.1.2 w6
    by_cases c2 : A 0 0 < 6
    · simp only [if_pos c2] at ob
      have o7 : ∀ x y z, ab_up (ab_up (ab_up I (4 + 1) (A 0 0) x) (4 + 2) (A 0 0) y) 4 0 z 1 7 = nI i := fun x y z => by rw [upn (by omega), upn (by omega), upn (by omega)]; exact h7
      simp (disch := first | omega | assumption | exact own_73 | exact rt_73 | exact sr_73 | exact sr_4 | exact sr_1 | exact q_lt1 (hb _ _) | exact bt_lt _ | fail) only [own_73, rt_73, ab_kl_n, ab_kl_i, ab_kl_r, ab_kl_l, at_73_0, Go_aload_0, at_73_1, Go_getf, fl_4_25, gg_4_4, sh_ref, sh_rf, sr_1, sf_1_4, sr_46, sn_46, at_73_4, at_73_5, fl_4_45, gg_4_7, at_73_8, Go_iaload, sh_ln, q_in, q_cl, at_73_9, Go_bipush, kb_20, jt_73_11, q_le, q_lt, q_eq, n_leT, n_leF, n_ltT, n_ltF, n_eqF, n_b0, at_73_14, at_73_15, Go_iconst, kc_2, at_73_16, cl_4_59, cat_n, cat_i, cat_r, cat_l, tl_i, tl_l, tl_n, sh_same, at_73_19, Go_retb, Go_retb0, Go_retb1, at_73_20, at_73_21, fl_4_21, gg_4_1, sf_1_1, sr_4, at_73_24, cl_4_75, jt_73_27, at_73_30, at_73_31, kc_5, at_73_32, at_73_35, at_73_36, at_73_37, Go_dup_int, Go_dup_ref, at_73_38, at_73_41, kc_1, at_73_42, Go_iadd, q_add, Nat.zero_add, at_73_43, Go_putf, gp_4_7, sh_seti, at_73_46, at_73_47, at_73_48, fl_4_48, gp_4_10, at_73_51, at_73_52, kc_0, at_73_53, fl_4_78, gp_4_11, at_73_56, at_73_57, cl_4_81, at_73_60, Nat.reduceAdd, Nat.reduceMul, Nat.reduceLeDiff, Nat.reduceSub, decide_true, decide_false, Bool.toNat_true, Bool.toNat_false, not_true_eq_false, not_false_eq_true, ite_not, true_and, and_true, if_true, if_false, ↓reduceIte, Bool.or_true, Bool.true_or, Bool.or_false, bz0, bz1, h7, t1, c1, ob, o7]
      refine y_semi x0 (CTo_fl (fun o k z1 z2 => by rw [upn (by omega), upn (by omega), upn (by omega), upn (by omega), upn (by omega), upn (by omega)]) hc) i1 (by simp [upk]) (fun e I' f g => ?_) (fun c e I' f g1 g2 => ?_)
      · simp (disch := first | omega | assumption | exact own_73 | exact rt_73 | exact sr_73 | exact sr_4 | exact sr_1 | exact q_lt1 (hb _ _) | exact bt_lt _ | fail) only [own_73, rt_73, ab_kl_n, ab_kl_i, ab_kl_r, ab_kl_l, at_73_0, Go_aload_0, at_73_1, Go_getf, fl_4_25, gg_4_4, sh_ref, sh_rf, sr_1, sf_1_4, sr_46, sn_46, at_73_4, at_73_5, fl_4_45, gg_4_7, at_73_8, Go_iaload, sh_ln, q_in, q_cl, at_73_9, Go_bipush, kb_20, jt_73_11, q_le, q_lt, q_eq, n_leT, n_leF, n_ltT, n_ltF, n_eqF, n_b0, at_73_14, at_73_15, Go_iconst, kc_2, at_73_16, cl_4_59, cat_n, cat_i, cat_r, cat_l, tl_i, tl_l, tl_n, sh_same, at_73_19, Go_retb, Go_retb0, Go_retb1, at_73_20, at_73_21, fl_4_21, gg_4_1, sf_1_1, sr_4, at_73_24, cl_4_75, jt_73_27, at_73_30, at_73_31, kc_5, at_73_32, at_73_35, at_73_36, at_73_37, Go_dup_int, Go_dup_ref, at_73_38, at_73_41, kc_1, at_73_42, Go_iadd, q_add, Nat.zero_add, at_73_43, Go_putf, gp_4_7, sh_seti, at_73_46, at_73_47, at_73_48, fl_4_48, gp_4_10, at_73_51, at_73_52, kc_0, at_73_53, fl_4_78, gp_4_11, at_73_56, at_73_57, cl_4_81, at_73_60, Nat.reduceAdd, Nat.reduceMul, Nat.reduceLeDiff, Nat.reduceSub, decide_true, decide_false, Bool.toNat_true, Bool.toNat_false, not_true_eq_false, not_false_eq_true, ite_not, true_and, and_true, if_true, if_false, ↓reduceIte, Bool.or_true, Bool.true_or, Bool.or_false, bz0, bz1]
        have f2 : ∀ o k, o ≠ 1 → I' o k = ab_up (ab_up (ab_up I (4 + 1) (A 0 0) (nI (A 0 1))) (4 + 2) (A 0 0) (nI 0)) 4 0 (nI (A 0 0 + 1)) o k := fun o k z => by rw [f o k (by omega), upn (by omega), upn (by omega), upn (by omega)]
        obtain ⟨⟨d1, d2⟩, d3, d4, d5⟩ := d
        have e0 : hdA A 0 0 = A 0 0 + 1 := if_pos ⟨rfl, rfl⟩
        have e1 : hdA A 0 1 = A 0 1 := hd_o (by omega) (by omega) (by omega)
        refine K1 I' (fun o k z1 z2 => by rw [f o k (by omega), upn (by omega), upn (by omega), upn (by omega), upn (by omega), upn (by omega), upn (by omega)]) g (by rw [f _ _ (by omega), upn (by omega)]; exact fr_sets) (by rw [f _ _ (by omega)]; exact fr_sets) ⟨⟨?_, ?_⟩, fun b hb => ?_, fun b hb => ?_, fun n hn => ?_⟩ (by rw [stp_f]; unfold stF; rw [if_pos c1, if_pos c2, e])
        · rw [e0, f2 _ _ (by omega)]; exact fr_sets
        · rw [e1, f2 _ _ (by omega), upn (by omega), upn (by omega), upn (by omega)]; exact d2
        · rw [e0] at hb
          rw [f2 _ _ (by omega), f2 _ _ (by omega)]
          by_cases z : b = A 0 0
          · subst z
            have e2 : hdA A 1 (A 0 0) = A 0 1 := by unfold hdA; rw [if_neg (by omega), if_pos ⟨rfl, rfl⟩]
            have e3 : hdA A 2 (A 0 0) = 0 := by unfold hdA; rw [if_neg (by omega), if_neg (by omega), if_pos ⟨rfl, rfl⟩]
            rw [e2, e3]
            exact ⟨by rw [upn (by omega), upn (by omega)]; exact fr_sets, by rw [upn (by omega)]; exact fr_sets⟩
          · rw [hd_o (by omega) (by omega) (by omega), hd_o (by omega) (by omega) (by omega), upn (by omega), upn (by omega), upn (by omega), upn (by omega), upn (by omega), upn (by omega)]
            exact d3 b (by omega)
        · have hb : b < hdA A 0 0 - 1 := hb
          rw [e0, Nat.add_sub_cancel] at hb
          have q : ∀ o, 7 ≤ o → I' o b = I o b := fun o z => by rw [f2 _ _ (by omega), upn (by omega), upn (by omega), upn (by omega)]
          rw [q 7 (by omega), q 8 (by omega), q 9 (by omega), q 10 (by omega), hd_o (by omega) (by omega) (by omega), hd_o (by omega) (by omega) (by omega), hd_o (by omega) (by omega) (by omega), hd_o (by omega) (by omega) (by omega)]
          exact d4 b hb
        · rw [e1] at hn
          have q : ∀ o k, 7 ≤ o → I' o k = I o k := fun o k z => by rw [f2 _ _ (by omega), upn (by omega), upn (by omega), upn (by omega)]
          have h14 : ∀ j, hdA A 14 j = A 14 j := fun j => hd_o (by omega) (by omega) (by omega)
          rw [q 20 _ (by omega), q 21 _ (by omega), q 22 _ (by omega), q 23 _ (by omega), hd_o (by omega) (by omega) (by omega), hd_o (by omega) (by omega) (by omega), hd_o (by omega) (by omega) (by omega), hd_o (by omega) (by omega) (by omega)]
          simp only [h14]
          obtain ⟨a1, a2, a3, a4, a5⟩ := d5 n hn
          exact ⟨a1, a2, a3, a4, fun z j hj => (q _ _ (by omega)).trans (a5 z j hj)⟩
      · simp (disch := first | omega | assumption | exact own_73 | exact rt_73 | exact sr_73 | exact sr_4 | exact sr_1 | exact q_lt1 (hb _ _) | exact bt_lt _ | fail) only [own_73, rt_73, ab_kl_n, ab_kl_i, ab_kl_r, ab_kl_l, at_73_0, Go_aload_0, at_73_1, Go_getf, fl_4_25, gg_4_4, sh_ref, sh_rf, sr_1, sf_1_4, sr_46, sn_46, at_73_4, at_73_5, fl_4_45, gg_4_7, at_73_8, Go_iaload, sh_ln, q_in, q_cl, at_73_9, Go_bipush, kb_20, jt_73_11, q_le, q_lt, q_eq, n_leT, n_leF, n_ltT, n_ltF, n_eqF, n_b0, at_73_14, at_73_15, Go_iconst, kc_2, at_73_16, cl_4_59, cat_n, cat_i, cat_r, cat_l, tl_i, tl_l, tl_n, sh_same, at_73_19, Go_retb, Go_retb0, Go_retb1, at_73_20, at_73_21, fl_4_21, gg_4_1, sf_1_1, sr_4, at_73_24, cl_4_75, jt_73_27, at_73_30, at_73_31, kc_5, at_73_32, at_73_35, at_73_36, at_73_37, Go_dup_int, Go_dup_ref, at_73_38, at_73_41, kc_1, at_73_42, Go_iadd, q_add, Nat.zero_add, at_73_43, Go_putf, gp_4_7, sh_seti, at_73_46, at_73_47, at_73_48, fl_4_48, gp_4_10, at_73_51, at_73_52, kc_0, at_73_53, fl_4_78, gp_4_11, at_73_56, at_73_57, cl_4_81, at_73_60, Nat.reduceAdd, Nat.reduceMul, Nat.reduceLeDiff, Nat.reduceSub, decide_true, decide_false, Bool.toNat_true, Bool.toNat_false, not_true_eq_false, not_false_eq_true, ite_not, true_and, and_true, if_true, if_false, ↓reduceIte, Bool.or_true, Bool.true_or, Bool.or_false, bz0, bz1]
        exact K2 c (i + 1) I' (by rw [stp_f]; unfold stF; rw [if_pos c1, if_pos c2, e]) (fun o k z1 z2 => by rw [f o k (by omega), upn (by omega), upn (by omega), upn (by omega), upn (by omega), upn (by omega), upn (by omega)]) g1 g2
    · simp only [if_neg c2] at ob
      simp (disch := first | omega | assumption | exact own_73 | exact rt_73 | exact sr_73 | exact sr_4 | exact sr_1 | exact q_lt1 (hb _ _) | exact bt_lt _ | fail) only [own_73, rt_73, ab_kl_n, ab_kl_i, ab_kl_r, ab_kl_l, at_73_0, Go_aload_0, at_73_1, Go_getf, fl_4_25, gg_4_4, sh_ref, sh_rf, sr_1, sf_1_4, sr_46, sn_46, at_73_4, at_73_5, fl_4_45, gg_4_7, at_73_8, Go_iaload, sh_ln, q_in, q_cl, at_73_9, Go_bipush, kb_20, jt_73_11, q_le, q_lt, q_eq, n_leT, n_leF, n_ltT, n_ltF, n_eqF, n_b0, at_73_14, at_73_15, Go_iconst, kc_2, at_73_16, cl_4_59, cat_n, cat_i, cat_r, cat_l, tl_i, tl_l, tl_n, sh_same, at_73_19, Go_retb, Go_retb0, Go_retb1, at_73_20, at_73_21, fl_4_21, gg_4_1, sf_1_1, sr_4, at_73_24, cl_4_75, jt_73_27, at_73_30, at_73_31, kc_5, at_73_32, at_73_35, at_73_36, at_73_37, Go_dup_int, Go_dup_ref, at_73_38, at_73_41, kc_1, at_73_42, Go_iadd, q_add, Nat.zero_add, at_73_43, Go_putf, gp_4_7, sh_seti, at_73_46, at_73_47, at_73_48, fl_4_48, gp_4_10, at_73_51, at_73_52, kc_0, at_73_53, fl_4_78, gp_4_11, at_73_56, at_73_57, cl_4_81, at_73_60, Nat.reduceAdd, Nat.reduceMul, Nat.reduceLeDiff, Nat.reduceSub, decide_true, decide_false, Bool.toNat_true, Bool.toNat_false, not_true_eq_false, not_false_eq_true, ite_not, true_and, and_true, if_true, if_false, ↓reduceIte, Bool.or_true, Bool.true_or, Bool.or_false, bz0, bz1, h7, t1, c1, ob]
      refine y_refuse x0 hc hi h7 (by omega) (fun I' f g1 g2 => ?_)
      simp (disch := first | omega | assumption | exact own_73 | exact rt_73 | exact sr_73 | exact sr_4 | exact sr_1 | exact q_lt1 (hb _ _) | exact bt_lt _ | fail) only [own_73, rt_73, ab_kl_n, ab_kl_i, ab_kl_r, ab_kl_l, at_73_0, Go_aload_0, at_73_1, Go_getf, fl_4_25, gg_4_4, sh_ref, sh_rf, sr_1, sf_1_4, sr_46, sn_46, at_73_4, at_73_5, fl_4_45, gg_4_7, at_73_8, Go_iaload, sh_ln, q_in, q_cl, at_73_9, Go_bipush, kb_20, jt_73_11, q_le, q_lt, q_eq, n_leT, n_leF, n_ltT, n_ltF, n_eqF, n_b0, at_73_14, at_73_15, Go_iconst, kc_2, at_73_16, cl_4_59, cat_n, cat_i, cat_r, cat_l, tl_i, tl_l, tl_n, sh_same, at_73_19, Go_retb, Go_retb0, Go_retb1, at_73_20, at_73_21, fl_4_21, gg_4_1, sf_1_1, sr_4, at_73_24, cl_4_75, jt_73_27, at_73_30, at_73_31, kc_5, at_73_32, at_73_35, at_73_36, at_73_37, Go_dup_int, Go_dup_ref, at_73_38, at_73_41, kc_1, at_73_42, Go_iadd, q_add, Nat.zero_add, at_73_43, Go_putf, gp_4_7, sh_seti, at_73_46, at_73_47, at_73_48, fl_4_48, gp_4_10, at_73_51, at_73_52, kc_0, at_73_53, fl_4_78, gp_4_11, at_73_56, at_73_57, cl_4_81, at_73_60, Nat.reduceAdd, Nat.reduceMul, Nat.reduceLeDiff, Nat.reduceSub, decide_true, decide_false, Bool.toNat_true, Bool.toNat_false, not_true_eq_false, not_false_eq_true, ite_not, true_and, and_true, if_true, if_false, ↓reduceIte, Bool.or_true, Bool.true_or, Bool.or_false, bz0, bz1]
      have e : rW K i 5 = 5 := by unfold rW; rw [if_neg (by omega)]
      rw [e] at g1
      exact K2 5 i I' (by rw [stp_f]; unfold stF; rw [if_pos c1, if_neg c2]) (fun o k z1 z2 => f o k (by omega)) g1 g2
  · simp (disch := first | omega | assumption | exact own_73 | exact rt_73 | exact sr_73 | exact sr_4 | exact sr_1 | exact q_lt1 (hb _ _) | exact bt_lt _ | fail) only [own_73, rt_73, ab_kl_n, ab_kl_i, ab_kl_r, ab_kl_l, at_73_0, Go_aload_0, at_73_1, Go_getf, fl_4_25, gg_4_4, sh_ref, sh_rf, sr_1, sf_1_4, sr_46, sn_46, at_73_4, at_73_5, fl_4_45, gg_4_7, at_73_8, Go_iaload, sh_ln, q_in, q_cl, at_73_9, Go_bipush, kb_20, jt_73_11, q_le, q_lt, q_eq, n_leT, n_leF, n_ltT, n_ltF, n_eqF, n_b0, at_73_14, at_73_15, Go_iconst, kc_2, at_73_16, cl_4_59, cat_n, cat_i, cat_r, cat_l, tl_i, tl_l, tl_n, sh_same, at_73_19, Go_retb, Go_retb0, Go_retb1, at_73_20, at_73_21, fl_4_21, gg_4_1, sf_1_1, sr_4, at_73_24, cl_4_75, jt_73_27, at_73_30, at_73_31, kc_5, at_73_32, at_73_35, at_73_36, at_73_37, Go_dup_int, Go_dup_ref, at_73_38, at_73_41, kc_1, at_73_42, Go_iadd, q_add, Nat.zero_add, at_73_43, Go_putf, gp_4_7, sh_seti, at_73_46, at_73_47, at_73_48, fl_4_48, gp_4_10, at_73_51, at_73_52, kc_0, at_73_53, fl_4_78, gp_4_11, at_73_56, at_73_57, cl_4_81, at_73_60, Nat.reduceAdd, Nat.reduceMul, Nat.reduceLeDiff, Nat.reduceSub, decide_true, decide_false, Bool.toNat_true, Bool.toNat_false, not_true_eq_false, not_false_eq_true, ite_not, true_and, and_true, if_true, if_false, ↓reduceIte, Bool.or_true, Bool.true_or, Bool.or_false, bz0, bz1, h7, t1, c1]
    refine y_refuse x0 hc hi h7 (by omega) (fun I' f g1 g2 => ?_)
    simp (disch := first | omega | assumption | exact own_73 | exact rt_73 | exact sr_73 | exact sr_4 | exact sr_1 | exact q_lt1 (hb _ _) | exact bt_lt _ | fail) only [own_73, rt_73, ab_kl_n, ab_kl_i, ab_kl_r, ab_kl_l, at_73_0, Go_aload_0, at_73_1, Go_getf, fl_4_25, gg_4_4, sh_ref, sh_rf, sr_1, sf_1_4, sr_46, sn_46, at_73_4, at_73_5, fl_4_45, gg_4_7, at_73_8, Go_iaload, sh_ln, q_in, q_cl, at_73_9, Go_bipush, kb_20, jt_73_11, q_le, q_lt, q_eq, n_leT, n_leF, n_ltT, n_ltF, n_eqF, n_b0, at_73_14, at_73_15, Go_iconst, kc_2, at_73_16, cl_4_59, cat_n, cat_i, cat_r, cat_l, tl_i, tl_l, tl_n, sh_same, at_73_19, Go_retb, Go_retb0, Go_retb1, at_73_20, at_73_21, fl_4_21, gg_4_1, sf_1_1, sr_4, at_73_24, cl_4_75, jt_73_27, at_73_30, at_73_31, kc_5, at_73_32, at_73_35, at_73_36, at_73_37, Go_dup_int, Go_dup_ref, at_73_38, at_73_41, kc_1, at_73_42, Go_iadd, q_add, Nat.zero_add, at_73_43, Go_putf, gp_4_7, sh_seti, at_73_46, at_73_47, at_73_48, fl_4_48, gp_4_10, at_73_51, at_73_52, kc_0, at_73_53, fl_4_78, gp_4_11, at_73_56, at_73_57, cl_4_81, at_73_60, Nat.reduceAdd, Nat.reduceMul, Nat.reduceLeDiff, Nat.reduceSub, decide_true, decide_false, Bool.toNat_true, Bool.toNat_false, not_true_eq_false, not_false_eq_true, ite_not, true_and, and_true, if_true, if_false, ↓reduceIte, Bool.or_true, Bool.true_or, Bool.or_false, bz0, bz1]
    exact K2 _ i I' (by rw [stp_f]; unfold stF; rw [if_neg c1]) (fun o k z1 z2 => f o k (by omega)) g1 g2
theorem hiK_le (k : Nat) : hiK k ≤ 99 := by
  unfold hiK
  split
  · omega
  · split <;> omega
theorem y_highest {k : Nat} (hk : k ≤ 1) : Ex 129 [.int (nI k)] (SH, I, J) Q = Q (some (.int (nI (hiK k)))) (SH, I, J) := by
  rw [en_129]
  have : k = 0 ∨ k = 1 := by omega
  rcases this with rfl | rfl
  · have e : hiK 0 = 99 := rfl
    rw [e]
    simp (disch := first | omega | assumption | exact own_129 | exact rt_129 | exact q_lt1 (hb _ _) | exact bt_lt _ | fail) only [own_129, rt_129, ab_kl_n, ab_kl_i, ab_kl_r, ab_kl_l, at_129_0, Go_iload_0, at_129_1, Go_iconst, kc_1, jt_129_2, q_le, q_lt, q_eq, n_leT, n_leF, n_ltT, n_ltF, n_eqF, n_b0, at_129_5, kc_3, jt_129_6, at_129_9, Go_bipush, kb_99, at_129_11, Go_reti, Nat.reduceAdd, Nat.reduceMul, Nat.reduceLeDiff, Nat.reduceSub, decide_true, decide_false, Bool.toNat_true, Bool.toNat_false, not_true_eq_false, not_false_eq_true, ite_not, true_and, and_true, if_true, if_false, ↓reduceIte, Bool.or_true, Bool.true_or, Bool.or_false]
  · have e : hiK 1 = 3 := rfl
    rw [e]
    simp (disch := first | omega | assumption | exact own_129 | exact rt_129 | exact q_lt1 (hb _ _) | exact bt_lt _ | fail) only [own_129, rt_129, ab_kl_n, ab_kl_i, ab_kl_r, ab_kl_l, at_129_0, Go_iload_0, at_129_1, Go_iconst, kc_1, jt_129_2, q_le, q_lt, q_eq, n_leT, n_leF, n_ltT, n_ltF, n_eqF, n_b0, at_129_5, kc_3, jt_129_6, at_129_9, Go_bipush, kb_99, at_129_11, Go_reti, Nat.reduceAdd, Nat.reduceMul, Nat.reduceLeDiff, Nat.reduceSub, decide_true, decide_false, Bool.toNat_true, Bool.toNat_false, not_true_eq_false, not_false_eq_true, ite_not, true_and, and_true, if_true, if_false, ↓reduceIte, Bool.or_true, Bool.true_or, Bool.or_false]
theorem y_readFigure (x : TX tp tl wk K V N) (hc : CTo tp tl wk (N + 1) I) {k n : Nat} (hk : k ≤ 1) (hi : i ≤ N) (h7 : I 1 7 = nI i) (h1 : I 4 1 = nI (n + 1)) (hn : n < 20)
    (K1 : fN K V 0 (hiK k) i = none → ∀ I', (∀ o k, ¬ (o = 1 ∧ (k = 7 ∨ k = 9)) → ¬ (o = 23 ∧ k = n) → I' o k = I o k) → I' 1 7 = nI (i + 1) → I' 23 n = nI (V i) → Q (some (.int (nI 1))) (SH, I', J))
    (K2 : ∀ c, fN K V 0 (hiK k) i = some (c, i) → ∀ I', FB I I' → I' 1 2 = nI c → I' 1 3 = nI (tk tp tl i) → Q (some (.int (nI 0))) (SH, I', J)) : Ex 75 [.ref 1, .int (nI k)] (SH, I, J) Q := by
  have hh : hiK k < 1000 := by have := hiK_le k; omega
  rw [en_75]
  simp (disch := first | omega | assumption | exact own_75 | exact rt_75 | exact sr_73 | exact sr_4 | exact sr_1 | exact q_lt1 (hb _ _) | exact bt_lt _ | fail) only [own_75, rt_75, ab_kl_n, ab_kl_i, ab_kl_r, ab_kl_l, at_75_0, Go_aload_0, at_75_1, Go_iconst, kc_0, at_75_2, Go_iload_1, at_75_3, cl_4_93, cat_n, cat_i, cat_r, cat_l, tl_i, tl_l, tl_n, sh_same, at_75_6, cl_4_97, jt_75_9, q_le, q_lt, q_eq, n_leT, n_leF, n_ltT, n_ltF, n_eqF, n_b0, at_75_12, at_75_13, Go_retb, Go_retb0, Go_retb1, at_75_14, at_75_15, Go_getf, fl_4_21, gg_4_1, sh_ref, sh_rf, sr_1, sf_1_1, sr_4, at_75_18, at_75_19, fl_4_101, gg_4_9, at_75_22, cl_4_104, at_75_25, kc_1, at_75_26, Nat.reduceAdd, Nat.reduceMul, Nat.reduceLeDiff, Nat.reduceSub, decide_true, decide_false, Bool.toNat_true, Bool.toNat_false, not_true_eq_false, not_false_eq_true, ite_not, true_and, and_true, if_true, if_false, ↓reduceIte, Bool.or_true, Bool.true_or, Bool.or_false, y_highest hk]
  refine y_num x hc hi (by omega) hh h7 (fun e I' f g7 g9 => ?_) (fun c e I' f g1 g2 => ?_)
  · have p1 : I' 4 1 = nI (n + 1) := (f _ _ (by omega)).trans h1
    have pf := fun Q => x_putFigure (J := J) (Q := Q) (p := 4) (Or.inl rfl) p1 (by omega) (by omega) (nI (V i))
    simp (disch := first | omega | assumption | exact own_75 | exact rt_75 | exact sr_73 | exact sr_4 | exact sr_1 | exact q_lt1 (hb _ _) | exact bt_lt _ | fail) only [own_75, rt_75, ab_kl_n, ab_kl_i, ab_kl_r, ab_kl_l, at_75_0, Go_aload_0, at_75_1, Go_iconst, kc_0, at_75_2, Go_iload_1, at_75_3, cl_4_93, cat_n, cat_i, cat_r, cat_l, tl_i, tl_l, tl_n, sh_same, at_75_6, cl_4_97, jt_75_9, q_le, q_lt, q_eq, n_leT, n_leF, n_ltT, n_ltF, n_eqF, n_b0, at_75_12, at_75_13, Go_retb, Go_retb0, Go_retb1, at_75_14, at_75_15, Go_getf, fl_4_21, gg_4_1, sh_ref, sh_rf, sr_1, sf_1_1, sr_4, at_75_18, at_75_19, fl_4_101, gg_4_9, at_75_22, cl_4_104, at_75_25, kc_1, at_75_26, Nat.reduceAdd, Nat.reduceMul, Nat.reduceLeDiff, Nat.reduceSub, decide_true, decide_false, Bool.toNat_true, Bool.toNat_false, not_true_eq_false, not_false_eq_true, ite_not, true_and, and_true, if_true, if_false, ↓reduceIte, Bool.or_true, Bool.true_or, Bool.or_false, g9, pf]
    exact K1 e _ (fun o k z1 z2 => by rw [upn (by omega)]; exact f o k z1) (by rw [upn (by omega)]; exact g7) (by rw [upk, if_pos (by omega)])
  · simp (disch := first | omega | assumption | exact own_75 | exact rt_75 | exact sr_73 | exact sr_4 | exact sr_1 | exact q_lt1 (hb _ _) | exact bt_lt _ | fail) only [own_75, rt_75, ab_kl_n, ab_kl_i, ab_kl_r, ab_kl_l, at_75_0, Go_aload_0, at_75_1, Go_iconst, kc_0, at_75_2, Go_iload_1, at_75_3, cl_4_93, cat_n, cat_i, cat_r, cat_l, tl_i, tl_l, tl_n, sh_same, at_75_6, cl_4_97, jt_75_9, q_le, q_lt, q_eq, n_leT, n_leF, n_ltT, n_ltF, n_eqF, n_b0, at_75_12, at_75_13, Go_retb, Go_retb0, Go_retb1, at_75_14, at_75_15, Go_getf, fl_4_21, gg_4_1, sh_ref, sh_rf, sr_1, sf_1_1, sr_4, at_75_18, at_75_19, fl_4_101, gg_4_9, at_75_22, cl_4_104, at_75_25, kc_1, at_75_26, Nat.reduceAdd, Nat.reduceMul, Nat.reduceLeDiff, Nat.reduceSub, decide_true, decide_false, Bool.toNat_true, Bool.toNat_false, not_true_eq_false, not_false_eq_true, ite_not, true_and, and_true, if_true, if_false, ↓reduceIte, Bool.or_true, Bool.true_or, Bool.or_false]
    exact K2 c e I' (fun o k z1 z2 => f o k (by omega)) g1 g2
end CLN
