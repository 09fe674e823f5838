section EXC
variable {I : Nat → Nat → Int32} {J : Nat → Nat → Int64} {Q : Option Value → ab_H → Prop} {A : Nat → Nat → Nat} {ld : Nat → Nat} {p : Nat} {R : Prop}
def exn (A : Nat → Nat → Nat) (ld : Nat → Nat) (n i : Nat) : Nat := cn (fun i => decide (¬ ld (A 14 (6 * n + i)) = A 14 (6 * n + i))) i
def exc (A : Nat → Nat → Nat) (ld : Nat → Nat) (n : Nat) : Nat := sm (fun n => exn A ld n (A 12 n)) n
def exb (A : Nat → Nat → Nat) (ld : Nat → Nat) (b : Nat) : Nat := cn (fun b => decide (¬ A 3 b = 0 ∧ ¬ ld (A 6 b) = A 6 b)) b
/-- all of it -/
def exA (A : Nat → Nat → Nat) (ld : Nat → Nat) : Nat → Nat → Nat := ex2 A ld 120 6
theorem exn_succ (n i : Nat) : exn A ld n (i + 1) = exn A ld n i + (decide (¬ ld (A 14 (6 * n + i)) = A 14 (6 * n + i))).toNat := rfl
theorem exc_succ (n : Nat) : exc A ld (n + 1) = exc A ld n + exn A ld n (A 12 n) := rfl
theorem exb_succ (b : Nat) : exb A ld (b + 1) = exb A ld b + (decide (¬ A 3 b = 0 ∧ ¬ ld (A 6 b) = A 6 b)).toNat := rfl
theorem PG_fr2 {p o k : Nat} {I : Nat → Nat → Int32} {x : Int32} (hr : WR A) (h : PG p I A) (h1 : p + 6 ≤ o) (h2 : o ≠ p + 7 ∧ (p + 15 ≤ o → p + 16 ≤ o) ∧ (o < p + 9 ∨ p + 15 ≤ o)) : PG p (ab_up I o k x) A := by
  have r1 := hr.1
  obtain ⟨g1, g2, g3⟩ := h
  refine ⟨fun b hb => ?_, fun b i hb hi => ?_, fun b hb => ?_⟩
  · rw [fr_seti (by omega)]; exact g1 b hb
  · rw [fr_seti (by omega)]; exact g2 b i hb hi
  · rw [fr_seti (by omega)]; exact g3 b hb
theorem x_exchange (hp : isP p) (hb : WB A) (hr : WR A) (h : PC p I A) (hg : PG p I A) (hl : ∀ x, x < A 0 1 → ld x < A 0 1) (hL : ∀ x, x < A 0 1 → I 72 x = nI (ld x)) (K : ∀ I', (∀ o k, ¬ (p ≤ o ∧ o ≤ p + 41) → I' o k = I o k) → PC p I' (exA A ld) → PG p I' A → Q (some (.int (nI (exc A ld (A 0 1) + exb A ld (A 0 0))))) (SH, I', J)) : Ex 65 [.ref p, .ref 72] (SH, I, J) Q := by
  have hpp : p = 4 ∨ p = 73 ∨ p = 115 ∨ p = 157 := hp
  have hp2 := p_lt hp
  have r1 := hr.1
  have r2 := hr.2.1
  rw [en_65]
  simp (disch := first | omega | assumption | exact own_65 | exact rt_65 | exact q_lt1 (hb _ _) | exact bt_lt _ | fail) only [own_65, rt_65, ab_kl_n, ab_kl_i, ab_kl_r, ab_kl_l, at_65_0, Go_iconst, kc_0, at_65_1, Go_istore_2, ab_put_int_2, at_65_2, at_65_3, Go_istore_3, ab_put_int_3, Go_iload_3, at_65_5, Go_aload_0, at_65_6, Go_getf, fl_3_64, gg_3_1, sh_ref, sh_rf, jt_65_9, q_le, q_lt, q_eq, n_leT, n_leF, n_ltT, n_ltF, n_eqF, n_b0, at_65_12, at_65_13, Go_istore_4, ab_put_int_4, Go_iload_4, at_65_17, at_65_18, fl_3_47, gg_3_13, at_65_21, at_65_22, Go_iaload, sh_ln, q_in, q_cl, jt_65_23, at_65_26, at_65_27, fl_3_53, gg_3_15, at_65_30, at_65_31, Go_aaload, at_65_32, at_65_34, at_65_35, Go_istore_5, ab_put_int_5, at_65_37, at_65_38, at_65_41, at_65_42, at_65_43, at_65_45, Go_aload_1, at_65_46, Go_iload_5, at_65_48, at_65_49, Go_iastore, sh_seti, at_65_50, at_65_51, at_65_53, at_65_54, jt_65_56, at_65_59, Go_iinc_2, kc_1, q_add, at_65_62, Go_iinc_4, jt_65_65, at_65_68, Go_iinc_3, jt_65_71, at_65_74, at_65_75, at_65_77, at_65_78, fl_3_60, gg_3_0, jt_65_81, at_65_84, at_65_85, fl_3_18, gg_3_4, at_65_88, at_65_89, jt_65_90, jt_65_93, at_65_96, at_65_97, fl_3_27, gg_3_7, at_65_100, at_65_101, at_65_102, at_65_104, at_65_105, at_65_108, at_65_109, at_65_110, at_65_112, at_65_113, at_65_114, at_65_115, at_65_117, at_65_118, jt_65_120, at_65_123, at_65_126, jt_65_129, at_65_132, Go_iload_2, at_65_133, Go_reti, Nat.reduceAdd, Nat.reduceMul, Nat.reduceLeDiff, Nat.reduceSub, decide_true, decide_false, Bool.toNat_true, Bool.toNat_false, not_true_eq_false, not_false_eq_true, ite_not, true_and, and_true, if_true, if_false, ↓reduceIte, Bool.or_true, Bool.true_or, Bool.or_false]
  refine lp_wp (a := 0) (N := A 0 1) (Nat.zero_le _) (fun n => ∀ (I' : Nat → Nat → Int32) (v4 v5 : Option Value), (∀ o k, ¬ (p ≤ o ∧ o ≤ p + 41) → I' o k = I o k) → PC p I' (ex2 A ld (6 * n) 0) → PG p I' A → Go (ab_at 65 4) 65 4 [some (.ref p), some (.ref 72), some (.int (nI (exc A ld n))), some (.int (nI (n))), v4, v5] []  (SH, I', J) Q) (fun I' v4 v5 hf hc hg' => ?_) (fun n _ hn ih I' v4 v5 hf hc hg' => ?_) I none none (fun _ _ _ => rfl) ?_ hg
  · have e1 := hc.2.1
    rw [ex_0] at e1
    rw [at_65_4]
    simp (disch := first | omega | assumption | exact own_65 | exact rt_65 | exact q_lt1 (hb _ _) | exact bt_lt _ | fail) only [own_65, rt_65, ab_kl_n, ab_kl_i, ab_kl_r, ab_kl_l, at_65_0, Go_iconst, kc_0, at_65_1, Go_istore_2, ab_put_int_2, at_65_2, at_65_3, Go_istore_3, ab_put_int_3, Go_iload_3, at_65_5, Go_aload_0, at_65_6, Go_getf, fl_3_64, gg_3_1, sh_ref, sh_rf, jt_65_9, q_le, q_lt, q_eq, n_leT, n_leF, n_ltT, n_ltF, n_eqF, n_b0, at_65_12, at_65_13, Go_istore_4, ab_put_int_4, Go_iload_4, at_65_17, at_65_18, fl_3_47, gg_3_13, at_65_21, at_65_22, Go_iaload, sh_ln, q_in, q_cl, jt_65_23, at_65_26, at_65_27, fl_3_53, gg_3_15, at_65_30, at_65_31, Go_aaload, at_65_32, at_65_34, at_65_35, Go_istore_5, ab_put_int_5, at_65_37, at_65_38, at_65_41, at_65_42, at_65_43, at_65_45, Go_aload_1, at_65_46, Go_iload_5, at_65_48, at_65_49, Go_iastore, sh_seti, at_65_50, at_65_51, at_65_53, at_65_54, jt_65_56, at_65_59, Go_iinc_2, kc_1, q_add, at_65_62, Go_iinc_4, jt_65_65, at_65_68, Go_iinc_3, jt_65_71, at_65_74, at_65_75, at_65_77, at_65_78, fl_3_60, gg_3_0, jt_65_81, at_65_84, at_65_85, fl_3_18, gg_3_4, at_65_88, at_65_89, jt_65_90, jt_65_93, at_65_96, at_65_97, fl_3_27, gg_3_7, at_65_100, at_65_101, at_65_102, at_65_104, at_65_105, at_65_108, at_65_109, at_65_110, at_65_112, at_65_113, at_65_114, at_65_115, at_65_117, at_65_118, jt_65_120, at_65_123, at_65_126, jt_65_129, at_65_132, Go_iload_2, at_65_133, Go_reti, Nat.reduceAdd, Nat.reduceMul, Nat.reduceLeDiff, Nat.reduceSub, decide_true, decide_false, Bool.toNat_true, Bool.toNat_false, not_true_eq_false, not_false_eq_true, ite_not, true_and, and_true, if_true, if_false, ↓reduceIte, Bool.or_true, Bool.true_or, Bool.or_false, e1, pr_0 hp]
    refine lp_wp (a := 0) (N := A 0 0) (Nat.zero_le _) (fun b => ∀ (I2 : Nat → Nat → Int32) (v4 : Option Value), (∀ o k, ¬ (p ≤ o ∧ o ≤ p + 41) → I2 o k = I o k) → PC p I2 (ex2 A ld (6 * A 0 1) b) → PG p I2 A → Go (ab_at 65 76) 65 76 [some (.ref p), some (.ref 72), some (.int (nI (exc A ld (A 0 1) + exb A ld b))), some (.int (nI (b))), v4, v5] []  (SH, I2, J) Q) (fun I2 v4 hf2 hc2 hg2 => ?_) (fun b _ hb' ih I2 v4 hf2 hc2 hg2 => ?_) I' v4 hf hc hg'
    · have e0 := hc2.1
      rw [ex_0] at e0
      rw [at_65_76]
      simp (disch := first | omega | assumption | exact own_65 | exact rt_65 | exact q_lt1 (hb _ _) | exact bt_lt _ | fail) only [own_65, rt_65, ab_kl_n, ab_kl_i, ab_kl_r, ab_kl_l, at_65_0, Go_iconst, kc_0, at_65_1, Go_istore_2, ab_put_int_2, at_65_2, at_65_3, Go_istore_3, ab_put_int_3, Go_iload_3, at_65_5, Go_aload_0, at_65_6, Go_getf, fl_3_64, gg_3_1, sh_ref, sh_rf, jt_65_9, q_le, q_lt, q_eq, n_leT, n_leF, n_ltT, n_ltF, n_eqF, n_b0, at_65_12, at_65_13, Go_istore_4, ab_put_int_4, Go_iload_4, at_65_17, at_65_18, fl_3_47, gg_3_13, at_65_21, at_65_22, Go_iaload, sh_ln, q_in, q_cl, jt_65_23, at_65_26, at_65_27, fl_3_53, gg_3_15, at_65_30, at_65_31, Go_aaload, at_65_32, at_65_34, at_65_35, Go_istore_5, ab_put_int_5, at_65_37, at_65_38, at_65_41, at_65_42, at_65_43, at_65_45, Go_aload_1, at_65_46, Go_iload_5, at_65_48, at_65_49, Go_iastore, sh_seti, at_65_50, at_65_51, at_65_53, at_65_54, jt_65_56, at_65_59, Go_iinc_2, kc_1, q_add, at_65_62, Go_iinc_4, jt_65_65, at_65_68, Go_iinc_3, jt_65_71, at_65_74, at_65_75, at_65_77, at_65_78, fl_3_60, gg_3_0, jt_65_81, at_65_84, at_65_85, fl_3_18, gg_3_4, at_65_88, at_65_89, jt_65_90, jt_65_93, at_65_96, at_65_97, fl_3_27, gg_3_7, at_65_100, at_65_101, at_65_102, at_65_104, at_65_105, at_65_108, at_65_109, at_65_110, at_65_112, at_65_113, at_65_114, at_65_115, at_65_117, at_65_118, jt_65_120, at_65_123, at_65_126, jt_65_129, at_65_132, Go_iload_2, at_65_133, Go_reti, Nat.reduceAdd, Nat.reduceMul, Nat.reduceLeDiff, Nat.reduceSub, decide_true, decide_false, Bool.toNat_true, Bool.toNat_false, not_true_eq_false, not_false_eq_true, ite_not, true_and, and_true, if_true, if_false, ↓reduceIte, Bool.or_true, Bool.true_or, Bool.or_false, e0, pr_0 hp]
      refine K I2 hf2 (PC_eq hc2 (fun f k k1 k2 => ?_) (fun b hb3 hb4 => ?_) (fun n i hn hi => ?_)) hg2
      · rw [ex_o k1 k2]
        exact ex_o k1 k2
      · rw [ex_0] at hb3
        unfold exA
        rw [ex_6, ex_6, if_pos (by omega), if_pos hb3]
      · rw [ex_0] at hn
        rw [ex_12] at hi
        have := (hr.2.2.2 n hn).2.2.1
        unfold exA
        rw [ex_14, ex_14, if_pos (by omega), if_pos (by omega)]
    · have h3 := hc2
      unfold PC at h3
      simp only [ex_0, ex_1, ex_2, ex_3, ex_4, ex_5, ex_10, ex_11, ex_12, ex_13] at h3
      have e0 := h3.1
      have e4 := h3.2.2.2.2.1
      rw [at_65_76]
      by_cases c0 : A 3 b = 0
      · have hc3 : PC p I2 (ex2 A ld (6 * A 0 1) (b + 1)) := PC_eq hc2 (fun f k k1 k2 => by rw [ex_o k1 k2, ex_o k1 k2]) (fun c hc3 hc4 => by
          rw [ex_3] at hc4
          rw [ex_6, ex_6]
          have hcb : c ≠ b := fun z => hc4 (by rw [z]; exact c0)
          by_cases y : c < b
          · rw [if_pos (by omega), if_pos y]
          · rw [if_neg (by omega), if_neg y]) (fun n i hn hi => by rw [ex_14, ex_14])
        have ih2 := ih I2 v4 hf2 hc3 hg2
        rw [exb_succ, decide_eq_false (fun z => z.1 c0)] at ih2
        simp (disch := first | omega | assumption | exact own_65 | exact rt_65 | exact q_lt1 (hb _ _) | exact bt_lt _ | fail) only [own_65, rt_65, ab_kl_n, ab_kl_i, ab_kl_r, ab_kl_l, at_65_0, Go_iconst, kc_0, at_65_1, Go_istore_2, ab_put_int_2, at_65_2, at_65_3, Go_istore_3, ab_put_int_3, Go_iload_3, at_65_5, Go_aload_0, at_65_6, Go_getf, fl_3_64, gg_3_1, sh_ref, sh_rf, jt_65_9, q_le, q_lt, q_eq, n_leT, n_leF, n_ltT, n_ltF, n_eqF, n_b0, at_65_12, at_65_13, Go_istore_4, ab_put_int_4, Go_iload_4, at_65_17, at_65_18, fl_3_47, gg_3_13, at_65_21, at_65_22, Go_iaload, sh_ln, q_in, q_cl, jt_65_23, at_65_26, at_65_27, fl_3_53, gg_3_15, at_65_30, at_65_31, Go_aaload, at_65_32, at_65_34, at_65_35, Go_istore_5, ab_put_int_5, at_65_37, at_65_38, at_65_41, at_65_42, at_65_43, at_65_45, Go_aload_1, at_65_46, Go_iload_5, at_65_48, at_65_49, Go_iastore, sh_seti, at_65_50, at_65_51, at_65_53, at_65_54, jt_65_56, at_65_59, Go_iinc_2, kc_1, q_add, at_65_62, Go_iinc_4, jt_65_65, at_65_68, Go_iinc_3, jt_65_71, at_65_74, at_65_75, at_65_77, at_65_78, fl_3_60, gg_3_0, jt_65_81, at_65_84, at_65_85, fl_3_18, gg_3_4, at_65_88, at_65_89, jt_65_90, jt_65_93, at_65_96, at_65_97, fl_3_27, gg_3_7, at_65_100, at_65_101, at_65_102, at_65_104, at_65_105, at_65_108, at_65_109, at_65_110, at_65_112, at_65_113, at_65_114, at_65_115, at_65_117, at_65_118, jt_65_120, at_65_123, at_65_126, jt_65_129, at_65_132, Go_iload_2, at_65_133, Go_reti, Nat.reduceAdd, Nat.reduceMul, Nat.reduceLeDiff, Nat.reduceSub, decide_true, decide_false, Bool.toNat_true, Bool.toNat_false, not_true_eq_false, not_false_eq_true, ite_not, true_and, and_true, if_true, if_false, ↓reduceIte, Bool.or_true, Bool.true_or, Bool.or_false, e0, e4, c0, pf_4 hp, pr_3 hp, pn_3 hp, pr_0 hp]
        exact ih2
      · have f7 := h3.2.2.2.2.2.2.2.1 b hb' c0
        rw [ex_6, if_neg (Nat.lt_irrefl b)] at f7
        have b7 := (hr.2.2.1 b hb').2.2.2.2.1 c0
        have hL2 : I2 72 (A 6 b) = nI (ld (A 6 b)) := by rw [hf2 _ _ (by omega)]; exact hL _ b7
        have hL3 : ab_up I2 (p + 6) b (nI (ld (A 6 b))) 72 (A 6 b) = nI (ld (A 6 b)) := by rw [fr_seti (by omega)]; exact hL2
        have bl := hl _ b7
        have ih2 := fun v => ih (ab_up I2 (p + 6) b (nI (ld (A 6 b)))) v (fun o k hk => by rw [fr_seti (by omega)]; exact hf2 o k hk) (ex_C6 hr hb' hc2) (PG_fr2 hr hg2 (by omega) (by omega))
        rw [exb_succ] at ih2
        by_cases d : ld (A 6 b) = A 6 b
        · rw [decide_eq_false (fun z => z.2 d)] at ih2
          have dT := eq_true d
          simp (disch := first | omega | assumption | exact own_65 | exact rt_65 | exact q_lt1 (hb _ _) | exact bt_lt _ | fail) only [own_65, rt_65, ab_kl_n, ab_kl_i, ab_kl_r, ab_kl_l, at_65_0, Go_iconst, kc_0, at_65_1, Go_istore_2, ab_put_int_2, at_65_2, at_65_3, Go_istore_3, ab_put_int_3, Go_iload_3, at_65_5, Go_aload_0, at_65_6, Go_getf, fl_3_64, gg_3_1, sh_ref, sh_rf, jt_65_9, q_le, q_lt, q_eq, n_leT, n_leF, n_ltT, n_ltF, n_eqF, n_b0, at_65_12, at_65_13, Go_istore_4, ab_put_int_4, Go_iload_4, at_65_17, at_65_18, fl_3_47, gg_3_13, at_65_21, at_65_22, Go_iaload, sh_ln, q_in, q_cl, jt_65_23, at_65_26, at_65_27, fl_3_53, gg_3_15, at_65_30, at_65_31, Go_aaload, at_65_32, at_65_34, at_65_35, Go_istore_5, ab_put_int_5, at_65_37, at_65_38, at_65_41, at_65_42, at_65_43, at_65_45, Go_aload_1, at_65_46, Go_iload_5, at_65_48, at_65_49, Go_iastore, sh_seti, at_65_50, at_65_51, at_65_53, at_65_54, jt_65_56, at_65_59, Go_iinc_2, kc_1, q_add, at_65_62, Go_iinc_4, jt_65_65, at_65_68, Go_iinc_3, jt_65_71, at_65_74, at_65_75, at_65_77, at_65_78, fl_3_60, gg_3_0, jt_65_81, at_65_84, at_65_85, fl_3_18, gg_3_4, at_65_88, at_65_89, jt_65_90, jt_65_93, at_65_96, at_65_97, fl_3_27, gg_3_7, at_65_100, at_65_101, at_65_102, at_65_104, at_65_105, at_65_108, at_65_109, at_65_110, at_65_112, at_65_113, at_65_114, at_65_115, at_65_117, at_65_118, jt_65_120, at_65_123, at_65_126, jt_65_129, at_65_132, Go_iload_2, at_65_133, Go_reti, Nat.reduceAdd, Nat.reduceMul, Nat.reduceLeDiff, Nat.reduceSub, decide_true, decide_false, Bool.toNat_true, Bool.toNat_false, not_true_eq_false, not_false_eq_true, ite_not, true_and, and_true, if_true, if_false, ↓reduceIte, Bool.or_true, Bool.true_or, Bool.or_false, e0, e4, c0, f7, hL2, hL3, dT, pf_4 hp, pr_3 hp, pn_3 hp, pf_7 hp, pr_6 hp, pn_6 hp, pr_0 hp, sr_72, sn_72]
          exact ih2 _
        · rw [decide_eq_true ⟨c0, d⟩] at ih2
          simp (disch := first | omega | assumption | exact own_65 | exact rt_65 | exact q_lt1 (hb _ _) | exact bt_lt _ | fail) only [own_65, rt_65, ab_kl_n, ab_kl_i, ab_kl_r, ab_kl_l, at_65_0, Go_iconst, kc_0, at_65_1, Go_istore_2, ab_put_int_2, at_65_2, at_65_3, Go_istore_3, ab_put_int_3, Go_iload_3, at_65_5, Go_aload_0, at_65_6, Go_getf, fl_3_64, gg_3_1, sh_ref, sh_rf, jt_65_9, q_le, q_lt, q_eq, n_leT, n_leF, n_ltT, n_ltF, n_eqF, n_b0, at_65_12, at_65_13, Go_istore_4, ab_put_int_4, Go_iload_4, at_65_17, at_65_18, fl_3_47, gg_3_13, at_65_21, at_65_22, Go_iaload, sh_ln, q_in, q_cl, jt_65_23, at_65_26, at_65_27, fl_3_53, gg_3_15, at_65_30, at_65_31, Go_aaload, at_65_32, at_65_34, at_65_35, Go_istore_5, ab_put_int_5, at_65_37, at_65_38, at_65_41, at_65_42, at_65_43, at_65_45, Go_aload_1, at_65_46, Go_iload_5, at_65_48, at_65_49, Go_iastore, sh_seti, at_65_50, at_65_51, at_65_53, at_65_54, jt_65_56, at_65_59, Go_iinc_2, kc_1, q_add, at_65_62, Go_iinc_4, jt_65_65, at_65_68, Go_iinc_3, jt_65_71, at_65_74, at_65_75, at_65_77, at_65_78, fl_3_60, gg_3_0, jt_65_81, at_65_84, at_65_85, fl_3_18, gg_3_4, at_65_88, at_65_89, jt_65_90, jt_65_93, at_65_96, at_65_97, fl_3_27, gg_3_7, at_65_100, at_65_101, at_65_102, at_65_104, at_65_105, at_65_108, at_65_109, at_65_110, at_65_112, at_65_113, at_65_114, at_65_115, at_65_117, at_65_118, jt_65_120, at_65_123, at_65_126, jt_65_129, at_65_132, Go_iload_2, at_65_133, Go_reti, Nat.reduceAdd, Nat.reduceMul, Nat.reduceLeDiff, Nat.reduceSub, decide_true, decide_false, Bool.toNat_true, Bool.toNat_false, not_true_eq_false, not_false_eq_true, ite_not, true_and, and_true, if_true, if_false, ↓reduceIte, Bool.or_true, Bool.true_or, Bool.or_false, e0, e4, c0, f7, hL2, hL3, d, pf_4 hp, pr_3 hp, pn_3 hp, pf_7 hp, pr_6 hp, pn_6 hp, pr_0 hp, sr_72, sn_72]
          exact ih2 _
  · have a2 := (hr.2.2.2 n hn).2.2.1
    have a10 := (hr.2.2.2 n hn).2.2.2.2.2.2.2.2.2.2
    have e1 := hc.2.1
    rw [ex_0] at e1
    rw [at_65_4]
    simp (disch := first | omega | assumption | exact own_65 | exact rt_65 | exact q_lt1 (hb _ _) | exact bt_lt _ | fail) only [own_65, rt_65, ab_kl_n, ab_kl_i, ab_kl_r, ab_kl_l, at_65_0, Go_iconst, kc_0, at_65_1, Go_istore_2, ab_put_int_2, at_65_2, at_65_3, Go_istore_3, ab_put_int_3, Go_iload_3, at_65_5, Go_aload_0, at_65_6, Go_getf, fl_3_64, gg_3_1, sh_ref, sh_rf, jt_65_9, q_le, q_lt, q_eq, n_leT, n_leF, n_ltT, n_ltF, n_eqF, n_b0, at_65_12, at_65_13, Go_istore_4, ab_put_int_4, Go_iload_4, at_65_17, at_65_18, fl_3_47, gg_3_13, at_65_21, at_65_22, Go_iaload, sh_ln, q_in, q_cl, jt_65_23, at_65_26, at_65_27, fl_3_53, gg_3_15, at_65_30, at_65_31, Go_aaload, at_65_32, at_65_34, at_65_35, Go_istore_5, ab_put_int_5, at_65_37, at_65_38, at_65_41, at_65_42, at_65_43, at_65_45, Go_aload_1, at_65_46, Go_iload_5, at_65_48, at_65_49, Go_iastore, sh_seti, at_65_50, at_65_51, at_65_53, at_65_54, jt_65_56, at_65_59, Go_iinc_2, kc_1, q_add, at_65_62, Go_iinc_4, jt_65_65, at_65_68, Go_iinc_3, jt_65_71, at_65_74, at_65_75, at_65_77, at_65_78, fl_3_60, gg_3_0, jt_65_81, at_65_84, at_65_85, fl_3_18, gg_3_4, at_65_88, at_65_89, jt_65_90, jt_65_93, at_65_96, at_65_97, fl_3_27, gg_3_7, at_65_100, at_65_101, at_65_102, at_65_104, at_65_105, at_65_108, at_65_109, at_65_110, at_65_112, at_65_113, at_65_114, at_65_115, at_65_117, at_65_118, jt_65_120, at_65_123, at_65_126, jt_65_129, at_65_132, Go_iload_2, at_65_133, Go_reti, Nat.reduceAdd, Nat.reduceMul, Nat.reduceLeDiff, Nat.reduceSub, decide_true, decide_false, Bool.toNat_true, Bool.toNat_false, not_true_eq_false, not_false_eq_true, ite_not, true_and, and_true, if_true, if_false, ↓reduceIte, Bool.or_true, Bool.true_or, Bool.or_false, e1, pr_0 hp]
    refine lp_wp (a := 0) (N := A 12 n) (Nat.zero_le _) (fun i => ∀ (I2 : Nat → Nat → Int32) (v5 : Option Value), (∀ o k, ¬ (p ≤ o ∧ o ≤ p + 41) → I2 o k = I o k) → PC p I2 (ex2 A ld (6 * n + i) 0) → PG p I2 A → Go (ab_at 65 15) 65 15 [some (.ref p), some (.ref 72), some (.int (nI (exc A ld n + exn A ld n i))), some (.int (nI (n))), some (.int (nI (i))), v5] []  (SH, I2, J) Q) (fun I2 v5 hf2 hc2 hg2 => ?_) (fun i _ hi ih2 I2 v5 hf2 hc2 hg2 => ?_) I' v5 hf hc hg'
    · have h3 := hc2
      unfold PC at h3
      simp only [ex_0, ex_1, ex_2, ex_3, ex_4, ex_5, ex_10, ex_11, ex_12, ex_13] at h3
      have e10 := h3.2.2.2.2.2.2.2.2.2.2.1
      have hc3 : PC p I2 (ex2 A ld (6 * (n + 1)) 0) := PC_eq hc2 (fun f k k1 k2 => by rw [ex_o k1 k2, ex_o k1 k2]) (fun c _ _ => by rw [ex_6, ex_6]) (fun m i hm hi => by
        rw [ex_0] at hm
        rw [ex_12] at hi
        have := (hr.2.2.2 m hm).2.2.1
        rw [ex_14, ex_14]
        by_cases y : m < n
        · rw [if_pos (by omega), if_pos (by omega)]
        · by_cases z : m = n
          · subst z
            rw [if_pos (by omega), if_pos (by omega)]
          · rw [if_neg (by omega), if_neg (by omega)])
      have ih3 := fun v4 v5 => ih I2 v4 v5 hf2 hc3 hg2
      rw [exc_succ] at ih3
      rw [at_65_15]
      simp (disch := first | omega | assumption | exact own_65 | exact rt_65 | exact q_lt1 (hb _ _) | exact bt_lt _ | fail) only [own_65, rt_65, ab_kl_n, ab_kl_i, ab_kl_r, ab_kl_l, at_65_0, Go_iconst, kc_0, at_65_1, Go_istore_2, ab_put_int_2, at_65_2, at_65_3, Go_istore_3, ab_put_int_3, Go_iload_3, at_65_5, Go_aload_0, at_65_6, Go_getf, fl_3_64, gg_3_1, sh_ref, sh_rf, jt_65_9, q_le, q_lt, q_eq, n_leT, n_leF, n_ltT, n_ltF, n_eqF, n_b0, at_65_12, at_65_13, Go_istore_4, ab_put_int_4, Go_iload_4, at_65_17, at_65_18, fl_3_47, gg_3_13, at_65_21, at_65_22, Go_iaload, sh_ln, q_in, q_cl, jt_65_23, at_65_26, at_65_27, fl_3_53, gg_3_15, at_65_30, at_65_31, Go_aaload, at_65_32, at_65_34, at_65_35, Go_istore_5, ab_put_int_5, at_65_37, at_65_38, at_65_41, at_65_42, at_65_43, at_65_45, Go_aload_1, at_65_46, Go_iload_5, at_65_48, at_65_49, Go_iastore, sh_seti, at_65_50, at_65_51, at_65_53, at_65_54, jt_65_56, at_65_59, Go_iinc_2, kc_1, q_add, at_65_62, Go_iinc_4, jt_65_65, at_65_68, Go_iinc_3, jt_65_71, at_65_74, at_65_75, at_65_77, at_65_78, fl_3_60, gg_3_0, jt_65_81, at_65_84, at_65_85, fl_3_18, gg_3_4, at_65_88, at_65_89, jt_65_90, jt_65_93, at_65_96, at_65_97, fl_3_27, gg_3_7, at_65_100, at_65_101, at_65_102, at_65_104, at_65_105, at_65_108, at_65_109, at_65_110, at_65_112, at_65_113, at_65_114, at_65_115, at_65_117, at_65_118, jt_65_120, at_65_123, at_65_126, jt_65_129, at_65_132, Go_iload_2, at_65_133, Go_reti, Nat.reduceAdd, Nat.reduceMul, Nat.reduceLeDiff, Nat.reduceSub, decide_true, decide_false, Bool.toNat_true, Bool.toNat_false, not_true_eq_false, not_false_eq_true, ite_not, true_and, and_true, if_true, if_false, ↓reduceIte, Bool.or_true, Bool.true_or, Bool.or_false, e10, pf_13 hp, pr_18 hp, pn_18 hp, pr_0 hp]
      exact ih3 _ _
    · have h3 := hc2
      unfold PC at h3
      simp only [ex_0, ex_1, ex_2, ex_3, ex_4, ex_5, ex_10, ex_11, ex_12, ex_13] at h3
      have e10 := h3.2.2.2.2.2.2.2.2.2.2.1
      have w0 := h3.2.2.2.2.2.2.2.2.2.2.2.2 n i hn hi
      rw [ex_14, if_neg (Nat.lt_irrefl _)] at w0
      have o1 := a10 i hi
      have hL2 : I2 72 (A 14 (6 * n + i)) = nI (ld (A 14 (6 * n + i))) := by rw [hf2 _ _ (by omega)]; exact hL _ o1
      have hL3 : ab_up I2 (p + 21 + n) i (nI (ld (A 14 (6 * n + i)))) 72 (A 14 (6 * n + i)) = nI (ld (A 14 (6 * n + i))) := by rw [fr_seti (by omega)]; exact hL2
      have bl := hl _ o1
      have ih3 := fun v => ih2 (ab_up I2 (p + 21 + n) i (nI (ld (A 14 (6 * n + i))))) v (fun o k hk => by rw [fr_seti (by omega)]; exact hf2 o k hk) (ex_C14 hr hn hi hc2) (PG_fr2 hr hg2 (by omega) (by omega))
      rw [exn_succ] at ih3
      rw [at_65_15]
      by_cases d : ld (A 14 (6 * n + i)) = A 14 (6 * n + i)
      · rw [decide_eq_false (fun z => z d)] at ih3
        have dT := eq_true d
        simp (disch := first | omega | assumption | exact own_65 | exact rt_65 | exact q_lt1 (hb _ _) | exact bt_lt _ | fail) only [own_65, rt_65, ab_kl_n, ab_kl_i, ab_kl_r, ab_kl_l, at_65_0, Go_iconst, kc_0, at_65_1, Go_istore_2, ab_put_int_2, at_65_2, at_65_3, Go_istore_3, ab_put_int_3, Go_iload_3, at_65_5, Go_aload_0, at_65_6, Go_getf, fl_3_64, gg_3_1, sh_ref, sh_rf, jt_65_9, q_le, q_lt, q_eq, n_leT, n_leF, n_ltT, n_ltF, n_eqF, n_b0, at_65_12, at_65_13, Go_istore_4, ab_put_int_4, Go_iload_4, at_65_17, at_65_18, fl_3_47, gg_3_13, at_65_21, at_65_22, Go_iaload, sh_ln, q_in, q_cl, jt_65_23, at_65_26, at_65_27, fl_3_53, gg_3_15, at_65_30, at_65_31, Go_aaload, at_65_32, at_65_34, at_65_35, Go_istore_5, ab_put_int_5, at_65_37, at_65_38, at_65_41, at_65_42, at_65_43, at_65_45, Go_aload_1, at_65_46, Go_iload_5, at_65_48, at_65_49, Go_iastore, sh_seti, at_65_50, at_65_51, at_65_53, at_65_54, jt_65_56, at_65_59, Go_iinc_2, kc_1, q_add, at_65_62, Go_iinc_4, jt_65_65, at_65_68, Go_iinc_3, jt_65_71, at_65_74, at_65_75, at_65_77, at_65_78, fl_3_60, gg_3_0, jt_65_81, at_65_84, at_65_85, fl_3_18, gg_3_4, at_65_88, at_65_89, jt_65_90, jt_65_93, at_65_96, at_65_97, fl_3_27, gg_3_7, at_65_100, at_65_101, at_65_102, at_65_104, at_65_105, at_65_108, at_65_109, at_65_110, at_65_112, at_65_113, at_65_114, at_65_115, at_65_117, at_65_118, jt_65_120, at_65_123, at_65_126, jt_65_129, at_65_132, Go_iload_2, at_65_133, Go_reti, Nat.reduceAdd, Nat.reduceMul, Nat.reduceLeDiff, Nat.reduceSub, decide_true, decide_false, Bool.toNat_true, Bool.toNat_false, not_true_eq_false, not_false_eq_true, ite_not, true_and, and_true, if_true, if_false, ↓reduceIte, Bool.or_true, Bool.true_or, Bool.or_false, e10, w0, hL2, hL3, dT, pf_13 hp, pr_18 hp, pn_18 hp, pf_15 hp, pr_20 hp, pn_20 hp, orow hp, orow_r hp, orow_n hp, pr_0 hp, sr_72, sn_72]
        exact ih3 _
      · rw [decide_eq_true d] at ih3
        simp (disch := first | omega | assumption | exact own_65 | exact rt_65 | exact q_lt1 (hb _ _) | exact bt_lt _ | fail) only [own_65, rt_65, ab_kl_n, ab_kl_i, ab_kl_r, ab_kl_l, at_65_0, Go_iconst, kc_0, at_65_1, Go_istore_2, ab_put_int_2, at_65_2, at_65_3, Go_istore_3, ab_put_int_3, Go_iload_3, at_65_5, Go_aload_0, at_65_6, Go_getf, fl_3_64, gg_3_1, sh_ref, sh_rf, jt_65_9, q_le, q_lt, q_eq, n_leT, n_leF, n_ltT, n_ltF, n_eqF, n_b0, at_65_12, at_65_13, Go_istore_4, ab_put_int_4, Go_iload_4, at_65_17, at_65_18, fl_3_47, gg_3_13, at_65_21, at_65_22, Go_iaload, sh_ln, q_in, q_cl, jt_65_23, at_65_26, at_65_27, fl_3_53, gg_3_15, at_65_30, at_65_31, Go_aaload, at_65_32, at_65_34, at_65_35, Go_istore_5, ab_put_int_5, at_65_37, at_65_38, at_65_41, at_65_42, at_65_43, at_65_45, Go_aload_1, at_65_46, Go_iload_5, at_65_48, at_65_49, Go_iastore, sh_seti, at_65_50, at_65_51, at_65_53, at_65_54, jt_65_56, at_65_59, Go_iinc_2, kc_1, q_add, at_65_62, Go_iinc_4, jt_65_65, at_65_68, Go_iinc_3, jt_65_71, at_65_74, at_65_75, at_65_77, at_65_78, fl_3_60, gg_3_0, jt_65_81, at_65_84, at_65_85, fl_3_18, gg_3_4, at_65_88, at_65_89, jt_65_90, jt_65_93, at_65_96, at_65_97, fl_3_27, gg_3_7, at_65_100, at_65_101, at_65_102, at_65_104, at_65_105, at_65_108, at_65_109, at_65_110, at_65_112, at_65_113, at_65_114, at_65_115, at_65_117, at_65_118, jt_65_120, at_65_123, at_65_126, jt_65_129, at_65_132, Go_iload_2, at_65_133, Go_reti, Nat.reduceAdd, Nat.reduceMul, Nat.reduceLeDiff, Nat.reduceSub, decide_true, decide_false, Bool.toNat_true, Bool.toNat_false, not_true_eq_false, not_false_eq_true, ite_not, true_and, and_true, if_true, if_false, ↓reduceIte, Bool.or_true, Bool.true_or, Bool.or_false, e10, w0, hL2, hL3, d, pf_13 hp, pr_18 hp, pn_18 hp, pf_15 hp, pr_20 hp, pn_20 hp, orow hp, orow_r hp, orow_n hp, pr_0 hp, sr_72, sn_72]
        exact ih3 _
  · refine PC_eq h (fun f k k1 k2 => ex_o k1 k2) (fun b _ _ => ?_) (fun n i _ _ => ?_)
    · rw [ex_6, if_neg (Nat.not_lt_zero _)]
    · rw [ex_14, if_neg (by omega)]
end EXC
