/-! SWEPT -/
def sw2 (A : Nat → Nat → Nat) (S : Nat → Bool) (j : Nat) (f k : Nat) : Nat := if f = 10 ∧ k < j ∧ S k = false then 8 else if f = 12 ∧ k < j ∧ S k = false then 0 else A f k
section SW2
variable {A : Nat → Nat → Nat} {S : Nat → Bool} {j : Nat}
theorem sw_o {f k : Nat} (h1 : f ≠ 10) (h2 : f ≠ 12) : sw2 A S j f k = A f k := by
  unfold sw2
  rw [if_neg (fun z => h1 z.1), if_neg (fun z => h2 z.1)]
theorem sw_0 {k : Nat} : sw2 A S j 0 k = A 0 k := sw_o (by omega) (by omega)
theorem sw_1 {k : Nat} : sw2 A S j 1 k = A 1 k := sw_o (by omega) (by omega)
theorem sw_2 {k : Nat} : sw2 A S j 2 k = A 2 k := sw_o (by omega) (by omega)
theorem sw_3 {k : Nat} : sw2 A S j 3 k = A 3 k := sw_o (by omega) (by omega)
theorem sw_4 {k : Nat} : sw2 A S j 4 k = A 4 k := sw_o (by omega) (by omega)
theorem sw_5 {k : Nat} : sw2 A S j 5 k = A 5 k := sw_o (by omega) (by omega)
theorem sw_6 {k : Nat} : sw2 A S j 6 k = A 6 k := sw_o (by omega) (by omega)
theorem sw_7 {k : Nat} : sw2 A S j 7 k = A 7 k := sw_o (by omega) (by omega)
theorem sw_8 {k : Nat} : sw2 A S j 8 k = A 8 k := sw_o (by omega) (by omega)
theorem sw_9 {k : Nat} : sw2 A S j 9 k = A 9 k := sw_o (by omega) (by omega)
theorem sw_11 {k : Nat} : sw2 A S j 11 k = A 11 k := sw_o (by omega) (by omega)
theorem sw_13 {k : Nat} : sw2 A S j 13 k = A 13 k := sw_o (by omega) (by omega)
theorem sw_14 {k : Nat} : sw2 A S j 14 k = A 14 k := sw_o (by omega) (by omega)
theorem sw_10 {k : Nat} : sw2 A S j 10 k = if k < j ∧ S k = false then 8 else A 10 k := by
  unfold sw2
  by_cases c : k < j ∧ S k = false
  · rw [if_pos ⟨rfl, c⟩, if_pos c]
  · rw [if_neg (fun z => c z.2), if_neg (by omega), if_neg c]
theorem sw_12 {k : Nat} : sw2 A S j 12 k = if k < j ∧ S k = false then 0 else A 12 k := by
  unfold sw2
  rw [if_neg (by omega)]
  by_cases c : k < j ∧ S k = false
  · rw [if_pos ⟨rfl, c⟩, if_pos c]
  · rw [if_neg (fun z => c z.2), if_neg c]
theorem sw_z : sw2 A S 0 = A := by
  funext f k
  unfold sw2
  rw [if_neg (by omega), if_neg (by omega)]
theorem sw_same {n : Nat} (h : S n = true ∨ (A 10 n = 8 ∧ A 12 n = 0)) : sw2 A S (n + 1) = sw2 A S n := by
  funext f k
  by_cases c : k = n
  · subst c
    by_cases f10 : f = 10
    · subst f10
      rw [sw_10, sw_10, if_neg (by omega : ¬ (k < k ∧ S k = false))]
      rcases h with h | ⟨h, -⟩
      · rw [if_neg (by rw [h]; simp)]
      · rw [h]; split <;> rfl
    · by_cases f12 : f = 12
      · subst f12
        rw [sw_12, sw_12, if_neg (by omega : ¬ (k < k ∧ S k = false))]
        rcases h with h | ⟨-, h⟩
        · rw [if_neg (by rw [h]; simp)]
        · rw [h]; split <;> rfl
      · rw [sw_o f10 f12, sw_o f10 f12]
  · unfold sw2
    have e : (k < n + 1) = (k < n) := propext ⟨fun z => by omega, fun z => by omega⟩
    simp only [e]
theorem sw_WB (hb : WB A) : WB (sw2 A S j) := by
  intro f k
  unfold sw2
  split
  · omega
  · split
    · omega
    · exact hb f k
theorem sw_WR (hr : WR A) : WR (sw2 A S j) := by
  obtain ⟨r1, r2, r3, r4⟩ := hr
  unfold WR
  simp only [sw_0, sw_1, sw_2, sw_3, sw_4, sw_5, sw_6, sw_7, sw_8, sw_9, sw_10, sw_11, sw_12, sw_13, sw_14]
  refine ⟨r1, r2, r3, fun n hn => ?_⟩
  obtain ⟨q1, q2, q3, q4, q5, q6, q7, q8, q9, q10, q11⟩ := r4 n hn
  by_cases c : n < j ∧ S n = false
  · rw [if_pos c, if_pos c]
    exact ⟨by omega, q2, by omega, fun _ => rfl, fun _ => rfl, fun z => by omega, fun _ z => by omega, fun z => by omega, fun z => by omega, fun z => by omega, fun i hi => by omega⟩
  · rw [if_neg c, if_neg c]
    exact ⟨q1, q2, q3, q4, q5, q6, q7, q8, q9, q10, q11⟩
theorem sw_ed {b c : Nat} : ed (sw2 A S j) b c ↔ ed A b c := by
  unfold ed
  simp only [sw_0, sw_3, sw_4, sw_5]
theorem sw_rk {X : Nat → Prop} : ∀ k b, rk (sw2 A S j) X k b ↔ rk A X k b := by
  intro k
  induction k with
  | zero =>
    intro b
    show (b = 0 ∧ ¬ X b ∧ b < sw2 A S j 0 0) ↔ (b = 0 ∧ ¬ X b ∧ b < A 0 0)
    rw [sw_0]
  | succ k ih =>
    intro b
    show (rk (sw2 A S j) X k b ∨ ∃ c, rk (sw2 A S j) X k c ∧ ed (sw2 A S j) c b ∧ ¬ X b) ↔ (rk A X k b ∨ ∃ c, rk A X k c ∧ ed A c b ∧ ¬ X b)
    simp only [ih, sw_ed]
theorem sw_RE {X : Nat → Prop} {b : Nat} : RE (sw2 A S j) X b ↔ RE A X b := by
  unfold RE
  simp only [sw_rk]
theorem sw_WG (hg : WG A) : WG (sw2 A S j) := by
  obtain ⟨g1, g2, g3, g4, g5, g6⟩ := hg
  unfold WG
  simp only [sw_0, sw_7, sw_8, sw_9, sw_10, sw_12, sw_RE, sw_ed]
  refine ⟨g1, g2, g3, fun n hn => ?_, g5, g6⟩
  by_cases c : n < j ∧ S n = false
  · rw [if_pos c]; intro z; omega
  · rw [if_neg c, if_neg c]; exact g4 n hn
theorem sw_WH (hg : WH A) : WH (sw2 A S j) := by
  unfold WH
  simp only [sw_0, sw_1, sw_2, sw_11]
  exact hg
theorem sw_PG {p : Nat} {I : Nat → Nat → Int32} : PG p I (sw2 A S j) ↔ PG p I A := by
  unfold PG
  simp only [sw_0, sw_7, sw_8, sw_9]
theorem sw_C {p : Nat} {I : Nat → Nat → Int32} (hr : WR A) {n : Nat} (hn : n < A 0 1) (hS : S n = false) (h : PC p I (sw2 A S n)) : PC p (ab_up (ab_up I (p + 16) n (nI 8)) (p + 18) n (nI 0)) (sw2 A S (n + 1)) := by
  have r2 := hr.2.1
  have r1 := hr.1
  unfold PC at h ⊢
  simp only [sw_0, sw_1, sw_2, sw_3, sw_4, sw_5, sw_6, sw_10, sw_11, sw_12, sw_13, sw_14] at h ⊢
  obtain ⟨e0, e1, e2, e3, e4, e5, e6, e7, e8, e9, e10, e11, e12⟩ := h
  have lt : ∀ m, m ≠ n → ((m < n + 1 ∧ S m = false) = (m < n ∧ S m = false)) := fun m hm => propext ⟨fun z => ⟨by omega, z.2⟩, fun z => ⟨by omega, z.2⟩⟩
  refine ⟨?_, ?_, fun b hb => ?_, fun b hb => ?_, fun b hb => ?_, fun b hb hc => ?_, fun b hb hc => ?_, fun b hb hc => ?_, fun m hm => ?_, fun m hm => ?_, fun m hm => ?_, fun m hm hc => ?_, fun m k hm hk => ?_⟩
  · rw [fr_seti (by omega), fr_seti (by omega)]; exact e0
  · rw [fr_seti (by omega), fr_seti (by omega)]; exact e1
  · rw [fr_seti (by omega), fr_seti (by omega)]; exact e2 b hb
  · rw [fr_seti (by omega), fr_seti (by omega)]; exact e3 b hb
  · rw [fr_seti (by omega), fr_seti (by omega)]; exact e4 b hb
  · rw [fr_seti (by omega), fr_seti (by omega)]; exact e5 b hb hc
  · rw [fr_seti (by omega), fr_seti (by omega)]; exact e6 b hb hc
  · rw [fr_seti (by omega), fr_seti (by omega)]; exact e7 b hb hc
  · rw [fr_seti (by omega)]
    by_cases c : m = n
    · subst c
      rw [fr_sets, if_pos ⟨by omega, hS⟩]
    · rw [fr_setk c, e8 m hm]
      simp only [lt m c]
  · rw [fr_seti (by omega), fr_seti (by omega)]; exact e9 m hm
  · by_cases c : m = n
    · subst c
      rw [fr_sets, if_pos ⟨by omega, hS⟩]
    · rw [fr_setk c, fr_seti (by omega), e10 m hm]
      simp only [lt m c]
  · by_cases c : m = n
    · subst c
      rw [if_pos ⟨by omega, hS⟩] at hc
      omega
    · simp only [lt m c] at hc
      rw [fr_seti (by omega), fr_seti (by omega)]; exact e11 m hm hc
  · by_cases c : m = n
    · subst c
      rw [if_pos ⟨by omega, hS⟩] at hk
      omega
    · simp only [lt m c] at hk
      rw [fr_seti (by omega), fr_seti (by omega)]; exact e12 m k hm hk
end SW2
def swA (A : Nat → Nat → Nat) : Nat → Nat → Nat := sw2 A (need A) (A 0 1)
def swn (A : Nat → Nat → Nat) (n : Nat) : Nat := cn (fun n => !need A n && decide (¬ A 10 n = 8)) n
section SW3
variable {I : Nat → Nat → Int32} {J : Nat → Nat → Int64} {Q : Option Value → ab_H → Prop} {A : Nat → Nat → Nat} {p : Nat} {R : Prop}
theorem swn_succ (n : Nat) : swn A (n + 1) = swn A n + (!need A n && decide (¬ A 10 n = 8)).toNat := rfl
theorem x_dropUnneeded (hp : isP p) (hb : WB A) (hr : WR A) (h : PC p I A) (hg : PG p I A) (K : ∀ I', (∀ o k, ¬ (p ≤ o ∧ o ≤ p + 41) → I' o k = I o k) → PC p I' (swA A) → PG p I' A → Q (some (.int (nI (swn A (A 0 1))))) (SH, I', J)) : Ex 66 [.ref p] (SH, I, J) Q := by
  have hp2 := p_lt hp
  have r1 := hr.1
  have r2 := hr.2.1
  rw [en_66]
  simp (disch := first | omega | assumption | exact own_66 | exact rt_66 | exact pr_0 (by assumption) | exact q_lt1 (hb _ _) | exact bt_lt _ | fail) only [own_66, rt_66, ab_kl_n, ab_kl_i, ab_kl_r, ab_kl_l, at_66_0, Go_aload_0, at_66_1, cl_3_112, cat_n, cat_i, cat_r, cat_l, tl_i, tl_l, tl_n, sh_same, at_66_4, Go_iconst, kc_0, at_66_5, Go_istore_1, ab_put_int_1, at_66_6, at_66_7, Go_istore_2, ab_put_int_2, Go_iload_2, at_66_9, at_66_10, Go_getf, fl_3_64, gg_3_1, sh_ref, sh_rf, jt_66_13, q_le, q_lt, q_eq, n_leT, n_leF, n_ltT, n_ltF, n_eqF, n_b0, at_66_16, at_66_17, fl_3_56, gg_3_16, at_66_20, at_66_21, Go_baload, sh_ln, q_in, q_cl, jt_66_22, at_66_25, at_66_26, fl_3_41, gg_3_11, at_66_29, at_66_30, Go_iaload, at_66_31, Go_bipush, kb_8, jt_66_33, jt_66_36, at_66_39, at_66_40, at_66_43, at_66_44, at_66_46, Go_iastore, sh_seti, at_66_47, at_66_48, fl_3_47, gg_3_13, at_66_51, at_66_52, at_66_53, at_66_54, Go_iinc_1, kc_1, q_add, at_66_57, Go_iinc_2, jt_66_60, at_66_63, Go_iload_1, at_66_64, Go_reti, Nat.reduceAdd, Nat.reduceMul, Nat.reduceLeDiff, Nat.reduceSub, decide_true, decide_false, Bool.toNat_true, Bool.toNat_false, not_true_eq_false, not_false_eq_true, ite_not, true_and, and_true, if_true, if_false, ↓reduceIte, Bool.or_true, Bool.true_or, Bool.or_false]
  refine x_findNeeded hp hb hr h hg (fun I1 hf1 hS => ?_)
  simp (disch := first | omega | assumption | exact own_66 | exact rt_66 | exact pr_0 (by assumption) | exact q_lt1 (hb _ _) | exact bt_lt _ | fail) only [own_66, rt_66, ab_kl_n, ab_kl_i, ab_kl_r, ab_kl_l, at_66_0, Go_aload_0, at_66_1, cl_3_112, cat_n, cat_i, cat_r, cat_l, tl_i, tl_l, tl_n, sh_same, at_66_4, Go_iconst, kc_0, at_66_5, Go_istore_1, ab_put_int_1, at_66_6, at_66_7, Go_istore_2, ab_put_int_2, Go_iload_2, at_66_9, at_66_10, Go_getf, fl_3_64, gg_3_1, sh_ref, sh_rf, jt_66_13, q_le, q_lt, q_eq, n_leT, n_leF, n_ltT, n_ltF, n_eqF, n_b0, at_66_16, at_66_17, fl_3_56, gg_3_16, at_66_20, at_66_21, Go_baload, sh_ln, q_in, q_cl, jt_66_22, at_66_25, at_66_26, fl_3_41, gg_3_11, at_66_29, at_66_30, Go_iaload, at_66_31, Go_bipush, kb_8, jt_66_33, jt_66_36, at_66_39, at_66_40, at_66_43, at_66_44, at_66_46, Go_iastore, sh_seti, at_66_47, at_66_48, fl_3_47, gg_3_13, at_66_51, at_66_52, at_66_53, at_66_54, Go_iinc_1, kc_1, q_add, at_66_57, Go_iinc_2, jt_66_60, at_66_63, Go_iload_1, at_66_64, Go_reti, Nat.reduceAdd, Nat.reduceMul, Nat.reduceLeDiff, Nat.reduceSub, decide_true, decide_false, Bool.toNat_true, Bool.toNat_false, not_true_eq_false, not_false_eq_true, ite_not, true_and, and_true, if_true, if_false, ↓reduceIte, Bool.or_true, Bool.true_or, Bool.or_false]
  refine lp_wp (a := 0) (N := A 0 1) (Nat.zero_le _) (fun n => ∀ I', (∀ o k, o ≠ p + 16 → o ≠ p + 18 → I' o k = I1 o k) → PC p I' (sw2 A (need A) n) → PG p I' A → Go (ab_at 66 8) 66 8 [some (.ref p), some (.int (nI (swn A n))), some (.int (nI (n)))] []  (SH, I', J) Q) (fun I' hf hc hg' => ?_) (fun n _ hn ih I' hf hc hg' => ?_) I1 (fun _ _ _ _ => rfl) (by rw [sw_z]; exact PC_fr2 hf1 hr h) (PG_fr4 hf1 hr hg)
  · have e1 := hc.2.1
    rw [sw_0] at e1
    rw [at_66_8]
    simp (disch := first | omega | assumption | exact own_66 | exact rt_66 | exact pr_0 (by assumption) | exact q_lt1 (hb _ _) | exact bt_lt _ | fail) only [own_66, rt_66, ab_kl_n, ab_kl_i, ab_kl_r, ab_kl_l, at_66_0, Go_aload_0, at_66_1, cl_3_112, cat_n, cat_i, cat_r, cat_l, tl_i, tl_l, tl_n, sh_same, at_66_4, Go_iconst, kc_0, at_66_5, Go_istore_1, ab_put_int_1, at_66_6, at_66_7, Go_istore_2, ab_put_int_2, Go_iload_2, at_66_9, at_66_10, Go_getf, fl_3_64, gg_3_1, sh_ref, sh_rf, jt_66_13, q_le, q_lt, q_eq, n_leT, n_leF, n_ltT, n_ltF, n_eqF, n_b0, at_66_16, at_66_17, fl_3_56, gg_3_16, at_66_20, at_66_21, Go_baload, sh_ln, q_in, q_cl, jt_66_22, at_66_25, at_66_26, fl_3_41, gg_3_11, at_66_29, at_66_30, Go_iaload, at_66_31, Go_bipush, kb_8, jt_66_33, jt_66_36, at_66_39, at_66_40, at_66_43, at_66_44, at_66_46, Go_iastore, sh_seti, at_66_47, at_66_48, fl_3_47, gg_3_13, at_66_51, at_66_52, at_66_53, at_66_54, Go_iinc_1, kc_1, q_add, at_66_57, Go_iinc_2, jt_66_60, at_66_63, Go_iload_1, at_66_64, Go_reti, Nat.reduceAdd, Nat.reduceMul, Nat.reduceLeDiff, Nat.reduceSub, decide_true, decide_false, Bool.toNat_true, Bool.toNat_false, not_true_eq_false, not_false_eq_true, ite_not, true_and, and_true, if_true, if_false, ↓reduceIte, Bool.or_true, Bool.true_or, Bool.or_false, e1, pr_0 hp]
    exact K I' (fun o k hk => by rw [hf _ _ (by omega) (by omega)]; exact hf1 _ _ (by omega)) hc hg'
  · have h3 := hc
    unfold PC at h3
    simp only [sw_0, sw_1, sw_2, sw_3, sw_4, sw_5, sw_6, sw_10, sw_11, sw_12, sw_13, sw_14] at h3
    have e1 := h3.2.1
    have e8 := h3.2.2.2.2.2.2.2.2.1 n hn
    rw [if_neg (by omega)] at e8
    have s0 : I' (p + 41) n = nI (need A n).toNat := by rw [hf _ _ (by omega) (by omega)]; exact hS n hn
    rw [at_66_8]
    have sn := swn_succ (A := A) n
    cases c : need A n with
    | true =>
      rw [c] at s0
      rw [c, Bool.not_true, Bool.false_and] at sn
      have ih2 := ih I' hf (by rw [sw_same (Or.inl c)]; exact hc) hg'
      rw [sn] at ih2
      simp (disch := first | omega | assumption | exact own_66 | exact rt_66 | exact pr_0 (by assumption) | exact q_lt1 (hb _ _) | exact bt_lt _ | fail) only [own_66, rt_66, ab_kl_n, ab_kl_i, ab_kl_r, ab_kl_l, at_66_0, Go_aload_0, at_66_1, cl_3_112, cat_n, cat_i, cat_r, cat_l, tl_i, tl_l, tl_n, sh_same, at_66_4, Go_iconst, kc_0, at_66_5, Go_istore_1, ab_put_int_1, at_66_6, at_66_7, Go_istore_2, ab_put_int_2, Go_iload_2, at_66_9, at_66_10, Go_getf, fl_3_64, gg_3_1, sh_ref, sh_rf, jt_66_13, q_le, q_lt, q_eq, n_leT, n_leF, n_ltT, n_ltF, n_eqF, n_b0, at_66_16, at_66_17, fl_3_56, gg_3_16, at_66_20, at_66_21, Go_baload, sh_ln, q_in, q_cl, jt_66_22, at_66_25, at_66_26, fl_3_41, gg_3_11, at_66_29, at_66_30, Go_iaload, at_66_31, Go_bipush, kb_8, jt_66_33, jt_66_36, at_66_39, at_66_40, at_66_43, at_66_44, at_66_46, Go_iastore, sh_seti, at_66_47, at_66_48, fl_3_47, gg_3_13, at_66_51, at_66_52, at_66_53, at_66_54, Go_iinc_1, kc_1, q_add, at_66_57, Go_iinc_2, jt_66_60, at_66_63, Go_iload_1, at_66_64, Go_reti, Nat.reduceAdd, Nat.reduceMul, Nat.reduceLeDiff, Nat.reduceSub, decide_true, decide_false, Bool.toNat_true, Bool.toNat_false, not_true_eq_false, not_false_eq_true, ite_not, true_and, and_true, if_true, if_false, ↓reduceIte, Bool.or_true, Bool.true_or, Bool.or_false, e1, e8, s0, pf_11 hp, pr_16 hp, pn_16 hp, pf_16 hp, pr_41 hp, pn_41 hp, pr_0 hp]
      exact ih2
    | false =>
      rw [c] at s0
      rw [c, Bool.not_false, Bool.true_and] at sn
      by_cases d : A 10 n = 8
      · rw [decide_eq_false (fun z => z d)] at sn
        have ih2 := ih I' hf (by rw [sw_same (Or.inr ⟨d, (hr.2.2.2 n hn).2.2.2.2.1 d⟩)]; exact hc) hg'
        rw [sn] at ih2
        simp (disch := first | omega | assumption | exact own_66 | exact rt_66 | exact pr_0 (by assumption) | exact q_lt1 (hb _ _) | exact bt_lt _ | fail) only [own_66, rt_66, ab_kl_n, ab_kl_i, ab_kl_r, ab_kl_l, at_66_0, Go_aload_0, at_66_1, cl_3_112, cat_n, cat_i, cat_r, cat_l, tl_i, tl_l, tl_n, sh_same, at_66_4, Go_iconst, kc_0, at_66_5, Go_istore_1, ab_put_int_1, at_66_6, at_66_7, Go_istore_2, ab_put_int_2, Go_iload_2, at_66_9, at_66_10, Go_getf, fl_3_64, gg_3_1, sh_ref, sh_rf, jt_66_13, q_le, q_lt, q_eq, n_leT, n_leF, n_ltT, n_ltF, n_eqF, n_b0, at_66_16, at_66_17, fl_3_56, gg_3_16, at_66_20, at_66_21, Go_baload, sh_ln, q_in, q_cl, jt_66_22, at_66_25, at_66_26, fl_3_41, gg_3_11, at_66_29, at_66_30, Go_iaload, at_66_31, Go_bipush, kb_8, jt_66_33, jt_66_36, at_66_39, at_66_40, at_66_43, at_66_44, at_66_46, Go_iastore, sh_seti, at_66_47, at_66_48, fl_3_47, gg_3_13, at_66_51, at_66_52, at_66_53, at_66_54, Go_iinc_1, kc_1, q_add, at_66_57, Go_iinc_2, jt_66_60, at_66_63, Go_iload_1, at_66_64, Go_reti, Nat.reduceAdd, Nat.reduceMul, Nat.reduceLeDiff, Nat.reduceSub, decide_true, decide_false, Bool.toNat_true, Bool.toNat_false, not_true_eq_false, not_false_eq_true, ite_not, true_and, and_true, if_true, if_false, ↓reduceIte, Bool.or_true, Bool.true_or, Bool.or_false, e1, e8, s0, d, pf_11 hp, pr_16 hp, pn_16 hp, pf_16 hp, pr_41 hp, pn_41 hp, pr_0 hp]
        exact ih2
      · rw [decide_eq_true d] at sn
        have ih2 := ih (ab_up (ab_up I' (p + 16) n (nI 8)) (p + 18) n (nI 0)) (fun o k h1 h2 => by rw [fr_seti h2, fr_seti h1]; exact hf o k h1 h2) (sw_C hr hn c hc) (PG_fr2 hr (PG_fr2 hr hg' (by omega) (by omega)) (by omega) (by omega))
        rw [sn] at ih2
        simp (disch := first | omega | assumption | exact own_66 | exact rt_66 | exact pr_0 (by assumption) | exact q_lt1 (hb _ _) | exact bt_lt _ | fail) only [own_66, rt_66, ab_kl_n, ab_kl_i, ab_kl_r, ab_kl_l, at_66_0, Go_aload_0, at_66_1, cl_3_112, cat_n, cat_i, cat_r, cat_l, tl_i, tl_l, tl_n, sh_same, at_66_4, Go_iconst, kc_0, at_66_5, Go_istore_1, ab_put_int_1, at_66_6, at_66_7, Go_istore_2, ab_put_int_2, Go_iload_2, at_66_9, at_66_10, Go_getf, fl_3_64, gg_3_1, sh_ref, sh_rf, jt_66_13, q_le, q_lt, q_eq, n_leT, n_leF, n_ltT, n_ltF, n_eqF, n_b0, at_66_16, at_66_17, fl_3_56, gg_3_16, at_66_20, at_66_21, Go_baload, sh_ln, q_in, q_cl, jt_66_22, at_66_25, at_66_26, fl_3_41, gg_3_11, at_66_29, at_66_30, Go_iaload, at_66_31, Go_bipush, kb_8, jt_66_33, jt_66_36, at_66_39, at_66_40, at_66_43, at_66_44, at_66_46, Go_iastore, sh_seti, at_66_47, at_66_48, fl_3_47, gg_3_13, at_66_51, at_66_52, at_66_53, at_66_54, Go_iinc_1, kc_1, q_add, at_66_57, Go_iinc_2, jt_66_60, at_66_63, Go_iload_1, at_66_64, Go_reti, Nat.reduceAdd, Nat.reduceMul, Nat.reduceLeDiff, Nat.reduceSub, decide_true, decide_false, Bool.toNat_true, Bool.toNat_false, not_true_eq_false, not_false_eq_true, ite_not, true_and, and_true, if_true, if_false, ↓reduceIte, Bool.or_true, Bool.true_or, Bool.or_false, e1, e8, s0, d, pf_11 hp, pr_16 hp, pn_16 hp, pf_13 hp, pr_18 hp, pn_18 hp, pf_16 hp, pr_41 hp, pn_41 hp, pr_0 hp]
        exact ih2
end SW3
