/-! THE TEXT: is it sound, the class: all of it -/
theorem tb_all (n q : Nat) : (1 <<< n - 1).testBit q = decide (q < n) := by
  rw [Nat.one_shiftLeft]
  exact Nat.testBit_two_pow_sub_one n q
theorem all_lt : ∀ n, n ≤ 6 → 1 ≤ 1 <<< n ∧ 1 <<< n - 1 < 64 := by decide
theorem scs_in {A : DD} (h6 : WB6 A) {b : Nat} (hb : b < A 0 0) : (scs A b &&& (scs A b ^^^ (1 <<< A 0 0 - 1)) = 0) = ((A 3 b ≠ 2 → A 4 b < A 0 0) ∧ (A 3 b = 1 → A 5 b < A 0 0)) := by
  have h3 := (h6.2 b hb).1
  apply propext
  constructor
  · intro z
    have key : ∀ q, edb A b q = true → q < A 0 0 := fun q hq => by
      have := congrArg (fun x : Nat => x.testBit q) z
      simp only [Nat.testBit_and, Nat.testBit_xor, tb_all, Nat.zero_testBit] at this
      have hq : (scs A b).testBit q = true := hq
      rw [hq] at this
      by_cases y : q < A 0 0
      · exact y
      · rw [decide_eq_false y] at this; cases this
    exact ⟨fun y => key _ ((edb_iff hb h3).mpr ⟨hb, Or.inl ⟨y, rfl⟩⟩), fun y => key _ ((edb_iff hb h3).mpr ⟨hb, Or.inr ⟨y, rfl⟩⟩)⟩
  · rintro ⟨z1, z2⟩
    apply Nat.eq_of_testBit_eq
    intro q
    rw [Nat.testBit_and, Nat.testBit_xor, tb_all, Nat.zero_testBit]
    cases hq : (scs A b).testBit q with
    | false => rfl
    | true =>
      have hq : edb A b q = true := hq
      have : q < A 0 0 := by
        obtain ⟨-, y | y⟩ := (edb_iff hb h3).mp hq
        · rw [← y.2]; exact z1 y.1
        · rw [← y.2]; exact z2 y.1
      rw [decide_eq_true this]
      rfl
theorem RE_in {A : DD} (hl : WL A) {X : Nat → Prop} {q : Nat} (h : RE A X q) : q < A 0 0 := RE_ltL hl h
theorem reach0 {A : DD} (hl : WL A) (q : Nat) : reach A (fun x => (0 : Nat).testBit x) q = true ↔ RE A NX q := by
  unfold reach
  have e : (fun x => (0 : Nat).testBit x = true) = NX := funext fun x => by rw [Nat.zero_testBit]; exact propext ⟨fun z => (by cases z), fun z => z.elim⟩
  by_cases c0 : A 0 0 = 0
  · rw [if_pos (Or.inl c0)]
    exact ⟨fun z => (by cases z), fun z => absurd (RE_pos z) (by omega)⟩
  · rw [if_neg (fun z => z.elim c0 (fun y => by have y2 : (0 : Nat).testBit 0 = true := y; rw [Nat.zero_testBit] at y2; cases y2)), iR_iff hl (by omega) (Nat.zero_testBit 0), e]
theorem all_RE {A : DD} (hl : WL A) {M : Nat} (hM : ∀ q, M.testBit q = true ↔ RE A NX q) : (M = 1 <<< A 0 0 - 1) = (∀ b, b < A 0 0 → RE A NX b) := by
  apply propext
  constructor
  · intro z b hb
    rw [← hM b, z, tb_all]
    exact decide_eq_true hb
  · intro z
    apply Nat.eq_of_testBit_eq
    intro q
    rw [tb_all, Bool.eq_iff_iff, hM q, decide_eq_true_eq]
    exact ⟨fun y => RE_in hl y, fun y => z q y⟩
section CSP2
variable {I I' : Nat → Nat → Int32} {J J' : Nat → Nat → Int64} {Q : Option Value → ab_H → Prop} {A : DD} {n m b : Nat}
def FD (I I' : Nat → Nat → Int32) : Prop := ∀ o k, ¬ (11 ≤ o ∧ o ≤ 19) → I' o k = I o k
theorem DC_fd {ib : Bool} (f : FD I I') (h : DC ib A I) : DC ib A I' := by
  obtain ⟨⟨d1, d2⟩, d3, d4, d5⟩ := h
  refine ⟨⟨(f _ _ (by omega)).trans d1, (f _ _ (by omega)).trans d2⟩, fun b hb => ⟨(f _ _ (by omega)).trans (d3 b hb).1, (f _ _ (by omega)).trans (d3 b hb).2⟩, fun b hb => ?_, fun n hn => ?_⟩
  · obtain ⟨a1, a2, a3, a4⟩ := d4 b hb
    exact ⟨(f _ _ (by omega)).trans a1, fun z => (f _ _ (by omega)).trans (a2 z), fun z => (f _ _ (by omega)).trans (a3 z), fun z => (f _ _ (by omega)).trans (a4 z)⟩
  · obtain ⟨a1, a2, a3, a4, a5⟩ := d5 n hn
    exact ⟨(f _ _ (by omega)).trans a1, (f _ _ (by omega)).trans a2, (f _ _ (by omega)).trans a3, fun z => (f _ _ (by omega)).trans (a4 z), fun z j hj => (f _ _ (by omega)).trans (a5 z j hj)⟩
theorem DC_PB (d : DC false A I) : PB 4 I A := ⟨d.1.1, fun b hb => (d.2.2.1 b hb).1, fun b hb => (d.2.2.1 b hb).2.1, fun b hb => (d.2.2.1 b hb).2.2.1⟩
theorem DC_PC (s : SND A) (w : DW false A) (d : DC false A I) : PC 4 I (shp A) := by
  have r := (OA_shp w s).2.1
  have h14 : ∀ j, shp A 14 j = A 14 j := fun j => sh_o (by omega)
  have h12 : ∀ n, n < A 0 1 → A 12 n ≤ 6 := fun n hn => by
    have := (r.2.2.2 n (by rw [sh_o (by omega)]; exact hn)).2.2.1
    rw [sh_o (by omega)] at this; exact this
  obtain ⟨⟨d1, d2⟩, d3, d4, d5⟩ := d
  have d4 : ∀ b, b < A 0 0 → _ := d4
  have e00 : shp A 0 0 = A 0 0 := sh_o (by omega)
  have e01 : shp A 0 1 = A 0 1 := sh_o (by omega)
  refine ⟨by rw [e00]; exact d1, by rw [e01]; exact d2, fun b hb => ?_, fun b hb => ?_, fun b hb => ?_, fun b hb hx => ?_, fun b hb hx => ?_, fun b hb hx => ?_, fun n hn => ?_, fun n hn => ?_, fun n hn => ?_, fun n hn hx => ?_, fun n j hn hj => ?_⟩
  · rw [e00] at hb; rw [sh_o (by omega)]; exact (d3 b hb).1
  · rw [e00] at hb; rw [sh_o (by omega)]; exact (d3 b hb).2
  · rw [e00] at hb; rw [sh_o (by omega)]; exact (d4 b hb).1
  · rw [e00] at hb; rw [sh_o (by omega)] at hx ⊢; exact (d4 b hb).2.1 hx
  · rw [e00] at hb; rw [sh_o (by omega)] at hx ⊢; exact (d4 b hb).2.2.1 hx
  · rw [e00] at hb; rw [sh_o (by omega)] at hx ⊢; exact (d4 b hb).2.2.2 hx
  · rw [e01] at hn; rw [sh_o (by omega)]; exact (d5 n hn).1
  · rw [e01] at hn; rw [sh_o (by omega)]; exact (d5 n hn).2.1
  · rw [e01] at hn; rw [sh_o (by omega)]; exact (d5 n hn).2.2.1
  · rw [e01] at hn; rw [sh_o (by omega)] at hx ⊢; exact (d5 n hn).2.2.2.1 hx
  · rw [e01] at hn; rw [sh_o (by omega)] at hj; rw [h14]; exact (d5 n hn).2.2.2.2 (h12 n hn) j hj
theorem y_isSound (w : DW false A) (d : DC false A I) (K1 : SND A → ∀ I', FD I I' → DC false A I' → PG 4 I' (shp A) → Q (some (.int (nI 1))) (SH, I', J)) (K2 : ¬ SND A → ∀ I', FD I I' → Q (some (.int (nI 0))) (SH, I', J)) : Ex 58 [.ref 4] (SH, I, J) Q := by
  have hp : isP 4 := Or.inl rfl
  have w0 := w
  obtain ⟨⟨a1, a2, a3⟩, a4, a5, a6, a7, a8, a9⟩ := w
  have a8 : ∀ b, b < A 0 0 → _ := a8
  have h6 : WB6 A := ⟨a1, fun b hb => ⟨(a8 b hb).1, fun z => by have := (a8 b hb).2.1 z; omega, fun z => by have := (a8 b hb).2.2.1 z; omega⟩⟩
  obtain ⟨al1, al2⟩ := all_lt (A 0 0) a1
  have e0 : I 4 0 = nI (A 0 0) := d.1.1
  -- asks
  have asks : (∀ b, b < A 0 0 → (A 3 b ≠ 2 → A 4 b < A 0 0) ∧ (A 3 b = 1 → A 5 b < A 0 0)) → (∀ b, b < A 0 0 → RE A NX b) → (∀ n, n < A 0 1 → NSn A n) → ∀ I2, FD I I2 → DC false A I2 → PG 4 I2 (shp A) → Go (ab_at 58 86) 58 86 [some (.ref 4), some (.int (nI (1 <<< A 0 0 - 1))), some (.int (nI (0)))] []  (SH, I2, J) Q := by
    intro s1 s2 s3 I2 f2 d2 g2
    suffices hl : ∀ k i, i + k = A 0 0 → (∀ b, b < i → A 3 b ≠ 0 → A 6 b < A 0 1 ∧ se (shp A) (A 6 b) b = true) → Go (ab_at 58 86) 58 86 [some (.ref 4), some (.int (nI (1 <<< A 0 0 - 1))), some (.int (nI (i)))] []  (SH, I2, J) Q by
      exact hl (A 0 0) 0 (by omega) (fun j hj => absurd hj (Nat.not_lt_zero j))
    have e02 : I2 4 0 = nI (A 0 0) := d2.1.1
    intro k
    induction k with
    | zero =>
      intro i hi hj
      have K0 := K1 ⟨s1, s2, s3, fun b hb => hj b (by omega)⟩ I2 f2 d2 g2
      have c : A 0 0 ≤ i := by omega
      rw [at_58_86]
      simp (disch := first | omega | assumption | exact own_58 | exact rt_58 | exact pr_0 (by assumption) | exact q_lt1 (hb _ _) | exact bt_lt _ | fail) only [own_58, rt_58, ab_kl_n, ab_kl_i, ab_kl_r, ab_kl_l, at_58_0, Go_iconst, kc_1, at_58_1, Go_aload_0, at_58_2, Go_getf, fl_3_60, gg_3_0, sh_ref, sh_rf, at_58_5, Go_ishl, q_shl, at_58_6, at_58_7, Go_isub, q_sub, at_58_8, Go_istore_1, ab_put_int_1, at_58_9, kc_0, at_58_10, Go_istore_2, ab_put_int_2, Go_iload_2, at_58_12, at_58_13, jt_58_16, q_le, q_lt, q_eq, n_leT, n_leF, n_ltT, n_ltF, n_eqF, n_b0, at_58_19, at_58_20, at_58_21, cl_3_81, cat_n, cat_i, cat_r, cat_l, tl_i, tl_l, tl_n, sh_same, at_58_24, Go_iload_1, at_58_25, kc_m1, at_58_26, Go_ixor, q_bd, at_58_27, Go_iand, jt_58_28, at_58_31, at_58_32, Go_retb, Go_retb0, Go_retb1, at_58_33, Go_iinc_2, q_add, jt_58_36, at_58_39, at_58_40, at_58_41, cl_3_85, at_58_44, jt_58_45, at_58_48, at_58_49, at_58_50, at_58_51, cl_3_99, at_58_54, at_58_55, cl_3_102, at_58_58, at_58_59, at_58_61, at_58_62, fl_3_64, gg_3_1, jt_58_65, at_58_68, at_58_69, at_58_70, cl_3_105, jt_58_73, at_58_76, at_58_77, at_58_78, jt_58_81, at_58_84, at_58_85, at_58_87, at_58_88, jt_58_91, at_58_94, at_58_95, fl_3_18, gg_3_4, at_58_98, at_58_99, Go_iaload, sh_ln, q_in, q_cl, jt_58_100, jt_58_103, at_58_106, at_58_107, at_58_108, fl_3_27, gg_3_7, at_58_111, at_58_112, at_58_113, cl_3_73, jt_58_116, at_58_119, at_58_120, at_58_121, at_58_124, at_58_125, at_58_126, at_58_127, cl_3_96, jt_58_130, at_58_133, at_58_134, at_58_135, jt_58_138, at_58_141, at_58_142, Nat.reduceAdd, Nat.reduceMul, Nat.reduceLeDiff, Nat.reduceSub, decide_true, decide_false, Bool.toNat_true, Bool.toNat_false, not_true_eq_false, not_false_eq_true, ite_not, true_and, and_true, if_true, if_false, ↓reduceIte, Bool.or_true, Bool.true_or, Bool.or_false, pr_0 hp, e02, c]
      exact K0
    | succ k ih =>
      intro i hi hj
      have c : ¬ A 0 0 ≤ i := by omega
      have i6 : i < A 0 0 := by omega
      have d4 := d2.2.2.1 i i6
      have e3 : I2 (4 + 3) i = nI (A 3 i) := d4.1
      have w3 := a4 3 i
      have w6 := a4 6 i
      rw [at_58_86]
      by_cases c3 : A 3 i = 0
      · have ih := ih (i + 1) (by omega) (fun b hb hz => by
          by_cases z : b = i
          · subst z; exact absurd c3 hz
          · exact hj b (by omega) hz)
        simp (disch := first | omega | assumption | exact own_58 | exact rt_58 | exact pr_0 (by assumption) | exact q_lt1 (hb _ _) | exact bt_lt _ | fail) only [own_58, rt_58, ab_kl_n, ab_kl_i, ab_kl_r, ab_kl_l, at_58_0, Go_iconst, kc_1, at_58_1, Go_aload_0, at_58_2, Go_getf, fl_3_60, gg_3_0, sh_ref, sh_rf, at_58_5, Go_ishl, q_shl, at_58_6, at_58_7, Go_isub, q_sub, at_58_8, Go_istore_1, ab_put_int_1, at_58_9, kc_0, at_58_10, Go_istore_2, ab_put_int_2, Go_iload_2, at_58_12, at_58_13, jt_58_16, q_le, q_lt, q_eq, n_leT, n_leF, n_ltT, n_ltF, n_eqF, n_b0, at_58_19, at_58_20, at_58_21, cl_3_81, cat_n, cat_i, cat_r, cat_l, tl_i, tl_l, tl_n, sh_same, at_58_24, Go_iload_1, at_58_25, kc_m1, at_58_26, Go_ixor, q_bd, at_58_27, Go_iand, jt_58_28, at_58_31, at_58_32, Go_retb, Go_retb0, Go_retb1, at_58_33, Go_iinc_2, q_add, jt_58_36, at_58_39, at_58_40, at_58_41, cl_3_85, at_58_44, jt_58_45, at_58_48, at_58_49, at_58_50, at_58_51, cl_3_99, at_58_54, at_58_55, cl_3_102, at_58_58, at_58_59, at_58_61, at_58_62, fl_3_64, gg_3_1, jt_58_65, at_58_68, at_58_69, at_58_70, cl_3_105, jt_58_73, at_58_76, at_58_77, at_58_78, jt_58_81, at_58_84, at_58_85, at_58_87, at_58_88, jt_58_91, at_58_94, at_58_95, fl_3_18, gg_3_4, at_58_98, at_58_99, Go_iaload, sh_ln, q_in, q_cl, jt_58_100, jt_58_103, at_58_106, at_58_107, at_58_108, fl_3_27, gg_3_7, at_58_111, at_58_112, at_58_113, cl_3_73, jt_58_116, at_58_119, at_58_120, at_58_121, at_58_124, at_58_125, at_58_126, at_58_127, cl_3_96, jt_58_130, at_58_133, at_58_134, at_58_135, jt_58_138, at_58_141, at_58_142, Nat.reduceAdd, Nat.reduceMul, Nat.reduceLeDiff, Nat.reduceSub, decide_true, decide_false, Bool.toNat_true, Bool.toNat_false, not_true_eq_false, not_false_eq_true, ite_not, true_and, and_true, if_true, if_false, ↓reduceIte, Bool.or_true, Bool.true_or, Bool.or_false, pr_0 hp, pf_4 hp, pr_3 hp, pn_3 hp, e02, c, e3, c3]
        exact ih
      · have e6 : I2 (4 + 6) i = nI (A 6 i) := d4.2.2.2 c3
        have s1' := fun Q => y_hasName (J := J) (Q := Q) (m := A 6 i) d2.1.2 (by omega) w6
        by_cases c6 : A 6 i < A 0 1
        · rw [decide_eq_true c6] at s1'
          have s2' := fun Q => y_isSeenAtEnd (J := J) (Q := Q) w0 d2 g2 c6 i6
          cases c7 : se (shp A) (A 6 i) i with
          | true =>
            rw [c7] at s2'
            have ih := ih (i + 1) (by omega) (fun b hb hz => by
              by_cases z : b = i
              · subst z; exact ⟨c6, c7⟩
              · exact hj b (by omega) hz)
            simp (disch := first | omega | assumption | exact own_58 | exact rt_58 | exact pr_0 (by assumption) | exact q_lt1 (hb _ _) | exact bt_lt _ | fail) only [own_58, rt_58, ab_kl_n, ab_kl_i, ab_kl_r, ab_kl_l, at_58_0, Go_iconst, kc_1, at_58_1, Go_aload_0, at_58_2, Go_getf, fl_3_60, gg_3_0, sh_ref, sh_rf, at_58_5, Go_ishl, q_shl, at_58_6, at_58_7, Go_isub, q_sub, at_58_8, Go_istore_1, ab_put_int_1, at_58_9, kc_0, at_58_10, Go_istore_2, ab_put_int_2, Go_iload_2, at_58_12, at_58_13, jt_58_16, q_le, q_lt, q_eq, n_leT, n_leF, n_ltT, n_ltF, n_eqF, n_b0, at_58_19, at_58_20, at_58_21, cl_3_81, cat_n, cat_i, cat_r, cat_l, tl_i, tl_l, tl_n, sh_same, at_58_24, Go_iload_1, at_58_25, kc_m1, at_58_26, Go_ixor, q_bd, at_58_27, Go_iand, jt_58_28, at_58_31, at_58_32, Go_retb, Go_retb0, Go_retb1, at_58_33, Go_iinc_2, q_add, jt_58_36, at_58_39, at_58_40, at_58_41, cl_3_85, at_58_44, jt_58_45, at_58_48, at_58_49, at_58_50, at_58_51, cl_3_99, at_58_54, at_58_55, cl_3_102, at_58_58, at_58_59, at_58_61, at_58_62, fl_3_64, gg_3_1, jt_58_65, at_58_68, at_58_69, at_58_70, cl_3_105, jt_58_73, at_58_76, at_58_77, at_58_78, jt_58_81, at_58_84, at_58_85, at_58_87, at_58_88, jt_58_91, at_58_94, at_58_95, fl_3_18, gg_3_4, at_58_98, at_58_99, Go_iaload, sh_ln, q_in, q_cl, jt_58_100, jt_58_103, at_58_106, at_58_107, at_58_108, fl_3_27, gg_3_7, at_58_111, at_58_112, at_58_113, cl_3_73, jt_58_116, at_58_119, at_58_120, at_58_121, at_58_124, at_58_125, at_58_126, at_58_127, cl_3_96, jt_58_130, at_58_133, at_58_134, at_58_135, jt_58_138, at_58_141, at_58_142, Nat.reduceAdd, Nat.reduceMul, Nat.reduceLeDiff, Nat.reduceSub, decide_true, decide_false, Bool.toNat_true, Bool.toNat_false, not_true_eq_false, not_false_eq_true, ite_not, true_and, and_true, if_true, if_false, ↓reduceIte, Bool.or_true, Bool.true_or, Bool.or_false, pr_0 hp, pf_4 hp, pr_3 hp, pn_3 hp, pf_7 hp, pr_6 hp, pn_6 hp, e02, c, e3, c3, e6, s1', s2', Bool.true_eq_false]
            exact ih
          | false =>
            rw [c7] at s2'
            have K0 := K2 (fun z => by have := (z.2.2.2 i i6 c3).2; rw [c7] at this; cases this) I2 f2
            simp (disch := first | omega | assumption | exact own_58 | exact rt_58 | exact pr_0 (by assumption) | exact q_lt1 (hb _ _) | exact bt_lt _ | fail) only [own_58, rt_58, ab_kl_n, ab_kl_i, ab_kl_r, ab_kl_l, at_58_0, Go_iconst, kc_1, at_58_1, Go_aload_0, at_58_2, Go_getf, fl_3_60, gg_3_0, sh_ref, sh_rf, at_58_5, Go_ishl, q_shl, at_58_6, at_58_7, Go_isub, q_sub, at_58_8, Go_istore_1, ab_put_int_1, at_58_9, kc_0, at_58_10, Go_istore_2, ab_put_int_2, Go_iload_2, at_58_12, at_58_13, jt_58_16, q_le, q_lt, q_eq, n_leT, n_leF, n_ltT, n_ltF, n_eqF, n_b0, at_58_19, at_58_20, at_58_21, cl_3_81, cat_n, cat_i, cat_r, cat_l, tl_i, tl_l, tl_n, sh_same, at_58_24, Go_iload_1, at_58_25, kc_m1, at_58_26, Go_ixor, q_bd, at_58_27, Go_iand, jt_58_28, at_58_31, at_58_32, Go_retb, Go_retb0, Go_retb1, at_58_33, Go_iinc_2, q_add, jt_58_36, at_58_39, at_58_40, at_58_41, cl_3_85, at_58_44, jt_58_45, at_58_48, at_58_49, at_58_50, at_58_51, cl_3_99, at_58_54, at_58_55, cl_3_102, at_58_58, at_58_59, at_58_61, at_58_62, fl_3_64, gg_3_1, jt_58_65, at_58_68, at_58_69, at_58_70, cl_3_105, jt_58_73, at_58_76, at_58_77, at_58_78, jt_58_81, at_58_84, at_58_85, at_58_87, at_58_88, jt_58_91, at_58_94, at_58_95, fl_3_18, gg_3_4, at_58_98, at_58_99, Go_iaload, sh_ln, q_in, q_cl, jt_58_100, jt_58_103, at_58_106, at_58_107, at_58_108, fl_3_27, gg_3_7, at_58_111, at_58_112, at_58_113, cl_3_73, jt_58_116, at_58_119, at_58_120, at_58_121, at_58_124, at_58_125, at_58_126, at_58_127, cl_3_96, jt_58_130, at_58_133, at_58_134, at_58_135, jt_58_138, at_58_141, at_58_142, Nat.reduceAdd, Nat.reduceMul, Nat.reduceLeDiff, Nat.reduceSub, decide_true, decide_false, Bool.toNat_true, Bool.toNat_false, not_true_eq_false, not_false_eq_true, ite_not, true_and, and_true, if_true, if_false, ↓reduceIte, Bool.or_true, Bool.true_or, Bool.or_false, pr_0 hp, pf_4 hp, pr_3 hp, pn_3 hp, pf_7 hp, pr_6 hp, pn_6 hp, e02, c, e3, c3, e6, s1', s2', Bool.true_eq_false]
            exact K0
        · rw [decide_eq_false c6] at s1'
          have K0 := K2 (fun z => c6 (z.2.2.2 i i6 c3).1) I2 f2
          simp (disch := first | omega | assumption | exact own_58 | exact rt_58 | exact pr_0 (by assumption) | exact q_lt1 (hb _ _) | exact bt_lt _ | fail) only [own_58, rt_58, ab_kl_n, ab_kl_i, ab_kl_r, ab_kl_l, at_58_0, Go_iconst, kc_1, at_58_1, Go_aload_0, at_58_2, Go_getf, fl_3_60, gg_3_0, sh_ref, sh_rf, at_58_5, Go_ishl, q_shl, at_58_6, at_58_7, Go_isub, q_sub, at_58_8, Go_istore_1, ab_put_int_1, at_58_9, kc_0, at_58_10, Go_istore_2, ab_put_int_2, Go_iload_2, at_58_12, at_58_13, jt_58_16, q_le, q_lt, q_eq, n_leT, n_leF, n_ltT, n_ltF, n_eqF, n_b0, at_58_19, at_58_20, at_58_21, cl_3_81, cat_n, cat_i, cat_r, cat_l, tl_i, tl_l, tl_n, sh_same, at_58_24, Go_iload_1, at_58_25, kc_m1, at_58_26, Go_ixor, q_bd, at_58_27, Go_iand, jt_58_28, at_58_31, at_58_32, Go_retb, Go_retb0, Go_retb1, at_58_33, Go_iinc_2, q_add, jt_58_36, at_58_39, at_58_40, at_58_41, cl_3_85, at_58_44, jt_58_45, at_58_48, at_58_49, at_58_50, at_58_51, cl_3_99, at_58_54, at_58_55, cl_3_102, at_58_58, at_58_59, at_58_61, at_58_62, fl_3_64, gg_3_1, jt_58_65, at_58_68, at_58_69, at_58_70, cl_3_105, jt_58_73, at_58_76, at_58_77, at_58_78, jt_58_81, at_58_84, at_58_85, at_58_87, at_58_88, jt_58_91, at_58_94, at_58_95, fl_3_18, gg_3_4, at_58_98, at_58_99, Go_iaload, sh_ln, q_in, q_cl, jt_58_100, jt_58_103, at_58_106, at_58_107, at_58_108, fl_3_27, gg_3_7, at_58_111, at_58_112, at_58_113, cl_3_73, jt_58_116, at_58_119, at_58_120, at_58_121, at_58_124, at_58_125, at_58_126, at_58_127, cl_3_96, jt_58_130, at_58_133, at_58_134, at_58_135, jt_58_138, at_58_141, at_58_142, Nat.reduceAdd, Nat.reduceMul, Nat.reduceLeDiff, Nat.reduceSub, decide_true, decide_false, Bool.toNat_true, Bool.toNat_false, not_true_eq_false, not_false_eq_true, ite_not, true_and, and_true, if_true, if_false, ↓reduceIte, Bool.or_true, Bool.true_or, Bool.or_false, pr_0 hp, pf_4 hp, pr_3 hp, pn_3 hp, pf_7 hp, pr_6 hp, pn_6 hp, e02, c, e3, c3, e6, s1']
          exact K0
  have names : (∀ b, b < A 0 0 → (A 3 b ≠ 2 → A 4 b < A 0 0) ∧ (A 3 b = 1 → A 5 b < A 0 0)) → (∀ b, b < A 0 0 → RE A NX b) → ∀ I2, FD I I2 → DC false A I2 → PG 4 I2 (shp A) → Go (ab_at 58 60) 58 60 [some (.ref 4), some (.int (nI (1 <<< A 0 0 - 1))), some (.int (nI (0)))] []  (SH, I2, J) Q := by
    intro s1 s2 I2 f2 d2 g2
    suffices hl : ∀ k i, i + k = A 0 1 → (∀ n, n < i → NSn A n) → Go (ab_at 58 60) 58 60 [some (.ref 4), some (.int (nI (1 <<< A 0 0 - 1))), some (.int (nI (i)))] []  (SH, I2, J) Q by
      exact hl (A 0 1) 0 (by omega) (fun j hj => absurd hj (Nat.not_lt_zero j))
    have e12 : I2 4 1 = nI (A 0 1) := d2.1.2
    intro k
    induction k with
    | zero =>
      intro i hi hj
      have K0 := asks s1 s2 (fun n hn => hj n (by omega)) I2 f2 d2 g2
      have c : A 0 1 ≤ i := by omega
      rw [at_58_60]
      simp (disch := first | omega | assumption | exact own_58 | exact rt_58 | exact pr_0 (by assumption) | exact q_lt1 (hb _ _) | exact bt_lt _ | fail) only [own_58, rt_58, ab_kl_n, ab_kl_i, ab_kl_r, ab_kl_l, at_58_0, Go_iconst, kc_1, at_58_1, Go_aload_0, at_58_2, Go_getf, fl_3_60, gg_3_0, sh_ref, sh_rf, at_58_5, Go_ishl, q_shl, at_58_6, at_58_7, Go_isub, q_sub, at_58_8, Go_istore_1, ab_put_int_1, at_58_9, kc_0, at_58_10, Go_istore_2, ab_put_int_2, Go_iload_2, at_58_12, at_58_13, jt_58_16, q_le, q_lt, q_eq, n_leT, n_leF, n_ltT, n_ltF, n_eqF, n_b0, at_58_19, at_58_20, at_58_21, cl_3_81, cat_n, cat_i, cat_r, cat_l, tl_i, tl_l, tl_n, sh_same, at_58_24, Go_iload_1, at_58_25, kc_m1, at_58_26, Go_ixor, q_bd, at_58_27, Go_iand, jt_58_28, at_58_31, at_58_32, Go_retb, Go_retb0, Go_retb1, at_58_33, Go_iinc_2, q_add, jt_58_36, at_58_39, at_58_40, at_58_41, cl_3_85, at_58_44, jt_58_45, at_58_48, at_58_49, at_58_50, at_58_51, cl_3_99, at_58_54, at_58_55, cl_3_102, at_58_58, at_58_59, at_58_61, at_58_62, fl_3_64, gg_3_1, jt_58_65, at_58_68, at_58_69, at_58_70, cl_3_105, jt_58_73, at_58_76, at_58_77, at_58_78, jt_58_81, at_58_84, at_58_85, at_58_87, at_58_88, jt_58_91, at_58_94, at_58_95, fl_3_18, gg_3_4, at_58_98, at_58_99, Go_iaload, sh_ln, q_in, q_cl, jt_58_100, jt_58_103, at_58_106, at_58_107, at_58_108, fl_3_27, gg_3_7, at_58_111, at_58_112, at_58_113, cl_3_73, jt_58_116, at_58_119, at_58_120, at_58_121, at_58_124, at_58_125, at_58_126, at_58_127, cl_3_96, jt_58_130, at_58_133, at_58_134, at_58_135, jt_58_138, at_58_141, at_58_142, Nat.reduceAdd, Nat.reduceMul, Nat.reduceLeDiff, Nat.reduceSub, decide_true, decide_false, Bool.toNat_true, Bool.toNat_false, not_true_eq_false, not_false_eq_true, ite_not, true_and, and_true, if_true, if_false, ↓reduceIte, Bool.or_true, Bool.true_or, Bool.or_false, pr_0 hp, e12, c]
      exact K0
    | succ k ih =>
      intro i hi hj
      have c : ¬ A 0 1 ≤ i := by omega
      rw [at_58_60]
      simp (disch := first | omega | assumption | exact own_58 | exact rt_58 | exact pr_0 (by assumption) | exact q_lt1 (hb _ _) | exact bt_lt _ | fail) only [own_58, rt_58, ab_kl_n, ab_kl_i, ab_kl_r, ab_kl_l, at_58_0, Go_iconst, kc_1, at_58_1, Go_aload_0, at_58_2, Go_getf, fl_3_60, gg_3_0, sh_ref, sh_rf, at_58_5, Go_ishl, q_shl, at_58_6, at_58_7, Go_isub, q_sub, at_58_8, Go_istore_1, ab_put_int_1, at_58_9, kc_0, at_58_10, Go_istore_2, ab_put_int_2, Go_iload_2, at_58_12, at_58_13, jt_58_16, q_le, q_lt, q_eq, n_leT, n_leF, n_ltT, n_ltF, n_eqF, n_b0, at_58_19, at_58_20, at_58_21, cl_3_81, cat_n, cat_i, cat_r, cat_l, tl_i, tl_l, tl_n, sh_same, at_58_24, Go_iload_1, at_58_25, kc_m1, at_58_26, Go_ixor, q_bd, at_58_27, Go_iand, jt_58_28, at_58_31, at_58_32, Go_retb, Go_retb0, Go_retb1, at_58_33, Go_iinc_2, q_add, jt_58_36, at_58_39, at_58_40, at_58_41, cl_3_85, at_58_44, jt_58_45, at_58_48, at_58_49, at_58_50, at_58_51, cl_3_99, at_58_54, at_58_55, cl_3_102, at_58_58, at_58_59, at_58_61, at_58_62, fl_3_64, gg_3_1, jt_58_65, at_58_68, at_58_69, at_58_70, cl_3_105, jt_58_73, at_58_76, at_58_77, at_58_78, jt_58_81, at_58_84, at_58_85, at_58_87, at_58_88, jt_58_91, at_58_94, at_58_95, fl_3_18, gg_3_4, at_58_98, at_58_99, Go_iaload, sh_ln, q_in, q_cl, jt_58_100, jt_58_103, at_58_106, at_58_107, at_58_108, fl_3_27, gg_3_7, at_58_111, at_58_112, at_58_113, cl_3_73, jt_58_116, at_58_119, at_58_120, at_58_121, at_58_124, at_58_125, at_58_126, at_58_127, cl_3_96, jt_58_130, at_58_133, at_58_134, at_58_135, jt_58_138, at_58_141, at_58_142, Nat.reduceAdd, Nat.reduceMul, Nat.reduceLeDiff, Nat.reduceSub, decide_true, decide_false, Bool.toNat_true, Bool.toNat_false, not_true_eq_false, not_false_eq_true, ite_not, true_and, and_true, if_true, if_false, ↓reduceIte, Bool.or_true, Bool.true_or, Bool.or_false, pr_0 hp, e12, c]
      refine y_areOperandsSound w0 d2 g2 (by omega) (fun z => ?_) (fun z => ?_)
      · have ih := ih (i + 1) (by omega) (fun n hn => by
          by_cases y : n = i
          · subst y; exact z
          · exact hj n (by omega))
        simp (disch := first | omega | assumption | exact own_58 | exact rt_58 | exact pr_0 (by assumption) | exact q_lt1 (hb _ _) | exact bt_lt _ | fail) only [own_58, rt_58, ab_kl_n, ab_kl_i, ab_kl_r, ab_kl_l, at_58_0, Go_iconst, kc_1, at_58_1, Go_aload_0, at_58_2, Go_getf, fl_3_60, gg_3_0, sh_ref, sh_rf, at_58_5, Go_ishl, q_shl, at_58_6, at_58_7, Go_isub, q_sub, at_58_8, Go_istore_1, ab_put_int_1, at_58_9, kc_0, at_58_10, Go_istore_2, ab_put_int_2, Go_iload_2, at_58_12, at_58_13, jt_58_16, q_le, q_lt, q_eq, n_leT, n_leF, n_ltT, n_ltF, n_eqF, n_b0, at_58_19, at_58_20, at_58_21, cl_3_81, cat_n, cat_i, cat_r, cat_l, tl_i, tl_l, tl_n, sh_same, at_58_24, Go_iload_1, at_58_25, kc_m1, at_58_26, Go_ixor, q_bd, at_58_27, Go_iand, jt_58_28, at_58_31, at_58_32, Go_retb, Go_retb0, Go_retb1, at_58_33, Go_iinc_2, q_add, jt_58_36, at_58_39, at_58_40, at_58_41, cl_3_85, at_58_44, jt_58_45, at_58_48, at_58_49, at_58_50, at_58_51, cl_3_99, at_58_54, at_58_55, cl_3_102, at_58_58, at_58_59, at_58_61, at_58_62, fl_3_64, gg_3_1, jt_58_65, at_58_68, at_58_69, at_58_70, cl_3_105, jt_58_73, at_58_76, at_58_77, at_58_78, jt_58_81, at_58_84, at_58_85, at_58_87, at_58_88, jt_58_91, at_58_94, at_58_95, fl_3_18, gg_3_4, at_58_98, at_58_99, Go_iaload, sh_ln, q_in, q_cl, jt_58_100, jt_58_103, at_58_106, at_58_107, at_58_108, fl_3_27, gg_3_7, at_58_111, at_58_112, at_58_113, cl_3_73, jt_58_116, at_58_119, at_58_120, at_58_121, at_58_124, at_58_125, at_58_126, at_58_127, cl_3_96, jt_58_130, at_58_133, at_58_134, at_58_135, jt_58_138, at_58_141, at_58_142, Nat.reduceAdd, Nat.reduceMul, Nat.reduceLeDiff, Nat.reduceSub, decide_true, decide_false, Bool.toNat_true, Bool.toNat_false, not_true_eq_false, not_false_eq_true, ite_not, true_and, and_true, if_true, if_false, ↓reduceIte, Bool.or_true, Bool.true_or, Bool.or_false]
        exact ih
      · have K0 := K2 (fun y => z (y.2.2.1 i (by omega))) I2 f2
        simp (disch := first | omega | assumption | exact own_58 | exact rt_58 | exact pr_0 (by assumption) | exact q_lt1 (hb _ _) | exact bt_lt _ | fail) only [own_58, rt_58, ab_kl_n, ab_kl_i, ab_kl_r, ab_kl_l, at_58_0, Go_iconst, kc_1, at_58_1, Go_aload_0, at_58_2, Go_getf, fl_3_60, gg_3_0, sh_ref, sh_rf, at_58_5, Go_ishl, q_shl, at_58_6, at_58_7, Go_isub, q_sub, at_58_8, Go_istore_1, ab_put_int_1, at_58_9, kc_0, at_58_10, Go_istore_2, ab_put_int_2, Go_iload_2, at_58_12, at_58_13, jt_58_16, q_le, q_lt, q_eq, n_leT, n_leF, n_ltT, n_ltF, n_eqF, n_b0, at_58_19, at_58_20, at_58_21, cl_3_81, cat_n, cat_i, cat_r, cat_l, tl_i, tl_l, tl_n, sh_same, at_58_24, Go_iload_1, at_58_25, kc_m1, at_58_26, Go_ixor, q_bd, at_58_27, Go_iand, jt_58_28, at_58_31, at_58_32, Go_retb, Go_retb0, Go_retb1, at_58_33, Go_iinc_2, q_add, jt_58_36, at_58_39, at_58_40, at_58_41, cl_3_85, at_58_44, jt_58_45, at_58_48, at_58_49, at_58_50, at_58_51, cl_3_99, at_58_54, at_58_55, cl_3_102, at_58_58, at_58_59, at_58_61, at_58_62, fl_3_64, gg_3_1, jt_58_65, at_58_68, at_58_69, at_58_70, cl_3_105, jt_58_73, at_58_76, at_58_77, at_58_78, jt_58_81, at_58_84, at_58_85, at_58_87, at_58_88, jt_58_91, at_58_94, at_58_95, fl_3_18, gg_3_4, at_58_98, at_58_99, Go_iaload, sh_ln, q_in, q_cl, jt_58_100, jt_58_103, at_58_106, at_58_107, at_58_108, fl_3_27, gg_3_7, at_58_111, at_58_112, at_58_113, cl_3_73, jt_58_116, at_58_119, at_58_120, at_58_121, at_58_124, at_58_125, at_58_126, at_58_127, cl_3_96, jt_58_130, at_58_133, at_58_134, at_58_135, jt_58_138, at_58_141, at_58_142, Nat.reduceAdd, Nat.reduceMul, Nat.reduceLeDiff, Nat.reduceSub, decide_true, decide_false, Bool.toNat_true, Bool.toNat_false, not_true_eq_false, not_false_eq_true, ite_not, true_and, and_true, if_true, if_false, ↓reduceIte, Bool.or_true, Bool.true_or, Bool.or_false]
        exact K0
  have ways : (∀ b, b < A 0 0 → (A 3 b ≠ 2 → A 4 b < A 0 0) ∧ (A 3 b = 1 → A 5 b < A 0 0)) → ∀ v, Go (ab_at 58 39) 58 39 [some (.ref 4), some (.int (nI (1 <<< A 0 0 - 1))), v] [] (SH, I, J) Q := by
    intro s1 v
    have hl := WL_snd w0 s1
    simp (disch := first | omega | assumption | exact own_58 | exact rt_58 | exact pr_0 (by assumption) | exact q_lt1 (hb _ _) | exact bt_lt _ | fail) only [own_58, rt_58, ab_kl_n, ab_kl_i, ab_kl_r, ab_kl_l, at_58_0, Go_iconst, kc_1, at_58_1, Go_aload_0, at_58_2, Go_getf, fl_3_60, gg_3_0, sh_ref, sh_rf, at_58_5, Go_ishl, q_shl, at_58_6, at_58_7, Go_isub, q_sub, at_58_8, Go_istore_1, ab_put_int_1, at_58_9, kc_0, at_58_10, Go_istore_2, ab_put_int_2, Go_iload_2, at_58_12, at_58_13, jt_58_16, q_le, q_lt, q_eq, n_leT, n_leF, n_ltT, n_ltF, n_eqF, n_b0, at_58_19, at_58_20, at_58_21, cl_3_81, cat_n, cat_i, cat_r, cat_l, tl_i, tl_l, tl_n, sh_same, at_58_24, Go_iload_1, at_58_25, kc_m1, at_58_26, Go_ixor, q_bd, at_58_27, Go_iand, jt_58_28, at_58_31, at_58_32, Go_retb, Go_retb0, Go_retb1, at_58_33, Go_iinc_2, q_add, jt_58_36, at_58_39, at_58_40, at_58_41, cl_3_85, at_58_44, jt_58_45, at_58_48, at_58_49, at_58_50, at_58_51, cl_3_99, at_58_54, at_58_55, cl_3_102, at_58_58, at_58_59, at_58_61, at_58_62, fl_3_64, gg_3_1, jt_58_65, at_58_68, at_58_69, at_58_70, cl_3_105, jt_58_73, at_58_76, at_58_77, at_58_78, jt_58_81, at_58_84, at_58_85, at_58_87, at_58_88, jt_58_91, at_58_94, at_58_95, fl_3_18, gg_3_4, at_58_98, at_58_99, Go_iaload, sh_ln, q_in, q_cl, jt_58_100, jt_58_103, at_58_106, at_58_107, at_58_108, fl_3_27, gg_3_7, at_58_111, at_58_112, at_58_113, cl_3_73, jt_58_116, at_58_119, at_58_120, at_58_121, at_58_124, at_58_125, at_58_126, at_58_127, cl_3_96, jt_58_130, at_58_133, at_58_134, at_58_135, jt_58_138, at_58_141, at_58_142, Nat.reduceAdd, Nat.reduceMul, Nat.reduceLeDiff, Nat.reduceSub, decide_true, decide_false, Bool.toNat_true, Bool.toNat_false, not_true_eq_false, not_false_eq_true, ite_not, true_and, and_true, if_true, if_false, ↓reduceIte, Bool.or_true, Bool.true_or, Bool.or_false]
    refine z_reach hp a4 hl (DC_PB d) (X := 0) (by omega) (fun M hM hq => ?_)
    have hre := all_RE hl (M := M) (fun q => by rw [hq q]; exact reach0 hl q)
    by_cases c : ∀ b, b < A 0 0 → RE A NX b
    · have cT := hre.trans (eq_true c)
      simp (disch := first | omega | assumption | exact own_58 | exact rt_58 | exact pr_0 (by assumption) | exact q_lt1 (hb _ _) | exact bt_lt _ | fail) only [own_58, rt_58, ab_kl_n, ab_kl_i, ab_kl_r, ab_kl_l, at_58_0, Go_iconst, kc_1, at_58_1, Go_aload_0, at_58_2, Go_getf, fl_3_60, gg_3_0, sh_ref, sh_rf, at_58_5, Go_ishl, q_shl, at_58_6, at_58_7, Go_isub, q_sub, at_58_8, Go_istore_1, ab_put_int_1, at_58_9, kc_0, at_58_10, Go_istore_2, ab_put_int_2, Go_iload_2, at_58_12, at_58_13, jt_58_16, q_le, q_lt, q_eq, n_leT, n_leF, n_ltT, n_ltF, n_eqF, n_b0, at_58_19, at_58_20, at_58_21, cl_3_81, cat_n, cat_i, cat_r, cat_l, tl_i, tl_l, tl_n, sh_same, at_58_24, Go_iload_1, at_58_25, kc_m1, at_58_26, Go_ixor, q_bd, at_58_27, Go_iand, jt_58_28, at_58_31, at_58_32, Go_retb, Go_retb0, Go_retb1, at_58_33, Go_iinc_2, q_add, jt_58_36, at_58_39, at_58_40, at_58_41, cl_3_85, at_58_44, jt_58_45, at_58_48, at_58_49, at_58_50, at_58_51, cl_3_99, at_58_54, at_58_55, cl_3_102, at_58_58, at_58_59, at_58_61, at_58_62, fl_3_64, gg_3_1, jt_58_65, at_58_68, at_58_69, at_58_70, cl_3_105, jt_58_73, at_58_76, at_58_77, at_58_78, jt_58_81, at_58_84, at_58_85, at_58_87, at_58_88, jt_58_91, at_58_94, at_58_95, fl_3_18, gg_3_4, at_58_98, at_58_99, Go_iaload, sh_ln, q_in, q_cl, jt_58_100, jt_58_103, at_58_106, at_58_107, at_58_108, fl_3_27, gg_3_7, at_58_111, at_58_112, at_58_113, cl_3_73, jt_58_116, at_58_119, at_58_120, at_58_121, at_58_124, at_58_125, at_58_126, at_58_127, cl_3_96, jt_58_130, at_58_133, at_58_134, at_58_135, jt_58_138, at_58_141, at_58_142, Nat.reduceAdd, Nat.reduceMul, Nat.reduceLeDiff, Nat.reduceSub, decide_true, decide_false, Bool.toNat_true, Bool.toNat_false, not_true_eq_false, not_false_eq_true, ite_not, true_and, and_true, if_true, if_false, ↓reduceIte, Bool.or_true, Bool.true_or, Bool.or_false, cT]
      refine z_findPreds hp a4 hl (DC_PB d) (fun I1 f1 hF => ?_)
      simp (disch := first | omega | assumption | exact own_58 | exact rt_58 | exact pr_0 (by assumption) | exact q_lt1 (hb _ _) | exact bt_lt _ | fail) only [own_58, rt_58, ab_kl_n, ab_kl_i, ab_kl_r, ab_kl_l, at_58_0, Go_iconst, kc_1, at_58_1, Go_aload_0, at_58_2, Go_getf, fl_3_60, gg_3_0, sh_ref, sh_rf, at_58_5, Go_ishl, q_shl, at_58_6, at_58_7, Go_isub, q_sub, at_58_8, Go_istore_1, ab_put_int_1, at_58_9, kc_0, at_58_10, Go_istore_2, ab_put_int_2, Go_iload_2, at_58_12, at_58_13, jt_58_16, q_le, q_lt, q_eq, n_leT, n_leF, n_ltT, n_ltF, n_eqF, n_b0, at_58_19, at_58_20, at_58_21, cl_3_81, cat_n, cat_i, cat_r, cat_l, tl_i, tl_l, tl_n, sh_same, at_58_24, Go_iload_1, at_58_25, kc_m1, at_58_26, Go_ixor, q_bd, at_58_27, Go_iand, jt_58_28, at_58_31, at_58_32, Go_retb, Go_retb0, Go_retb1, at_58_33, Go_iinc_2, q_add, jt_58_36, at_58_39, at_58_40, at_58_41, cl_3_85, at_58_44, jt_58_45, at_58_48, at_58_49, at_58_50, at_58_51, cl_3_99, at_58_54, at_58_55, cl_3_102, at_58_58, at_58_59, at_58_61, at_58_62, fl_3_64, gg_3_1, jt_58_65, at_58_68, at_58_69, at_58_70, cl_3_105, jt_58_73, at_58_76, at_58_77, at_58_78, jt_58_81, at_58_84, at_58_85, at_58_87, at_58_88, jt_58_91, at_58_94, at_58_95, fl_3_18, gg_3_4, at_58_98, at_58_99, Go_iaload, sh_ln, q_in, q_cl, jt_58_100, jt_58_103, at_58_106, at_58_107, at_58_108, fl_3_27, gg_3_7, at_58_111, at_58_112, at_58_113, cl_3_73, jt_58_116, at_58_119, at_58_120, at_58_121, at_58_124, at_58_125, at_58_126, at_58_127, cl_3_96, jt_58_130, at_58_133, at_58_134, at_58_135, jt_58_138, at_58_141, at_58_142, Nat.reduceAdd, Nat.reduceMul, Nat.reduceLeDiff, Nat.reduceSub, decide_true, decide_false, Bool.toNat_true, Bool.toNat_false, not_true_eq_false, not_false_eq_true, ite_not, true_and, and_true, if_true, if_false, ↓reduceIte, Bool.or_true, Bool.true_or, Bool.or_false]
      have fd1 : FD I I1 := fun o k z => f1 o k (by omega) (fun c hc => by omega)
      refine z_findDominators hp a4 hl (DC_PB (DC_fd fd1 d)) (fun I2 f2 hD => ?_)
      simp (disch := first | omega | assumption | exact own_58 | exact rt_58 | exact pr_0 (by assumption) | exact q_lt1 (hb _ _) | exact bt_lt _ | fail) only [own_58, rt_58, ab_kl_n, ab_kl_i, ab_kl_r, ab_kl_l, at_58_0, Go_iconst, kc_1, at_58_1, Go_aload_0, at_58_2, Go_getf, fl_3_60, gg_3_0, sh_ref, sh_rf, at_58_5, Go_ishl, q_shl, at_58_6, at_58_7, Go_isub, q_sub, at_58_8, Go_istore_1, ab_put_int_1, at_58_9, kc_0, at_58_10, Go_istore_2, ab_put_int_2, Go_iload_2, at_58_12, at_58_13, jt_58_16, q_le, q_lt, q_eq, n_leT, n_leF, n_ltT, n_ltF, n_eqF, n_b0, at_58_19, at_58_20, at_58_21, cl_3_81, cat_n, cat_i, cat_r, cat_l, tl_i, tl_l, tl_n, sh_same, at_58_24, Go_iload_1, at_58_25, kc_m1, at_58_26, Go_ixor, q_bd, at_58_27, Go_iand, jt_58_28, at_58_31, at_58_32, Go_retb, Go_retb0, Go_retb1, at_58_33, Go_iinc_2, q_add, jt_58_36, at_58_39, at_58_40, at_58_41, cl_3_85, at_58_44, jt_58_45, at_58_48, at_58_49, at_58_50, at_58_51, cl_3_99, at_58_54, at_58_55, cl_3_102, at_58_58, at_58_59, at_58_61, at_58_62, fl_3_64, gg_3_1, jt_58_65, at_58_68, at_58_69, at_58_70, cl_3_105, jt_58_73, at_58_76, at_58_77, at_58_78, jt_58_81, at_58_84, at_58_85, at_58_87, at_58_88, jt_58_91, at_58_94, at_58_95, fl_3_18, gg_3_4, at_58_98, at_58_99, Go_iaload, sh_ln, q_in, q_cl, jt_58_100, jt_58_103, at_58_106, at_58_107, at_58_108, fl_3_27, gg_3_7, at_58_111, at_58_112, at_58_113, cl_3_73, jt_58_116, at_58_119, at_58_120, at_58_121, at_58_124, at_58_125, at_58_126, at_58_127, cl_3_96, jt_58_130, at_58_133, at_58_134, at_58_135, jt_58_138, at_58_141, at_58_142, Nat.reduceAdd, Nat.reduceMul, Nat.reduceLeDiff, Nat.reduceSub, decide_true, decide_false, Bool.toNat_true, Bool.toNat_false, not_true_eq_false, not_false_eq_true, ite_not, true_and, and_true, if_true, if_false, ↓reduceIte, Bool.or_true, Bool.true_or, Bool.or_false]
      have fd2 : FD I I2 := fun o k z => (f2 o k (by omega)).trans (fd1 o k z)
      have e : ∀ b, (fun c => edb (shp A) c b) = fun c => edb A c b := fun b => funext fun c => edb_shp
      have e00 : shp A 0 0 = A 0 0 := sh_o (by omega)
      refine names s1 c I2 fd2 (DC_fd fd2 d) (PG_FP (WS_shp a1) (fun b hb => ?_) (fun b hb => ?_))
      · rw [e00] at hb ⊢
        obtain ⟨k1, k2⟩ := hF b hb
        unfold FP
        rw [e]
        exact ⟨(f2 _ _ (by omega)).trans k1, fun c hc hx => (f2 _ _ (by omega)).trans (k2 c hc (by rw [edb_shp] at hx; exact hx))⟩
      · rw [e00] at hb
        obtain ⟨M', m1, m2, m3⟩ := hD b hb
        refine ⟨M', m1, m2, fun d => ?_⟩
        rw [e00, RE_shp]
        exact m3 d
    · have cF := hre.trans (eq_false c)
      have K0 := K2 (fun z => c z.2.1) I (fun _ _ _ => rfl)
      simp (disch := first | omega | assumption | exact own_58 | exact rt_58 | exact pr_0 (by assumption) | exact q_lt1 (hb _ _) | exact bt_lt _ | fail) only [own_58, rt_58, ab_kl_n, ab_kl_i, ab_kl_r, ab_kl_l, at_58_0, Go_iconst, kc_1, at_58_1, Go_aload_0, at_58_2, Go_getf, fl_3_60, gg_3_0, sh_ref, sh_rf, at_58_5, Go_ishl, q_shl, at_58_6, at_58_7, Go_isub, q_sub, at_58_8, Go_istore_1, ab_put_int_1, at_58_9, kc_0, at_58_10, Go_istore_2, ab_put_int_2, Go_iload_2, at_58_12, at_58_13, jt_58_16, q_le, q_lt, q_eq, n_leT, n_leF, n_ltT, n_ltF, n_eqF, n_b0, at_58_19, at_58_20, at_58_21, cl_3_81, cat_n, cat_i, cat_r, cat_l, tl_i, tl_l, tl_n, sh_same, at_58_24, Go_iload_1, at_58_25, kc_m1, at_58_26, Go_ixor, q_bd, at_58_27, Go_iand, jt_58_28, at_58_31, at_58_32, Go_retb, Go_retb0, Go_retb1, at_58_33, Go_iinc_2, q_add, jt_58_36, at_58_39, at_58_40, at_58_41, cl_3_85, at_58_44, jt_58_45, at_58_48, at_58_49, at_58_50, at_58_51, cl_3_99, at_58_54, at_58_55, cl_3_102, at_58_58, at_58_59, at_58_61, at_58_62, fl_3_64, gg_3_1, jt_58_65, at_58_68, at_58_69, at_58_70, cl_3_105, jt_58_73, at_58_76, at_58_77, at_58_78, jt_58_81, at_58_84, at_58_85, at_58_87, at_58_88, jt_58_91, at_58_94, at_58_95, fl_3_18, gg_3_4, at_58_98, at_58_99, Go_iaload, sh_ln, q_in, q_cl, jt_58_100, jt_58_103, at_58_106, at_58_107, at_58_108, fl_3_27, gg_3_7, at_58_111, at_58_112, at_58_113, cl_3_73, jt_58_116, at_58_119, at_58_120, at_58_121, at_58_124, at_58_125, at_58_126, at_58_127, cl_3_96, jt_58_130, at_58_133, at_58_134, at_58_135, jt_58_138, at_58_141, at_58_142, Nat.reduceAdd, Nat.reduceMul, Nat.reduceLeDiff, Nat.reduceSub, decide_true, decide_false, Bool.toNat_true, Bool.toNat_false, not_true_eq_false, not_false_eq_true, ite_not, true_and, and_true, if_true, if_false, ↓reduceIte, Bool.or_true, Bool.true_or, Bool.or_false, cF]
      exact K0
  have lp1 : ∀ k i, i + k = A 0 0 → (∀ b, b < i → (A 3 b ≠ 2 → A 4 b < A 0 0) ∧ (A 3 b = 1 → A 5 b < A 0 0)) → Go (ab_at 58 11) 58 11 [some (.ref 4), some (.int (nI (1 <<< A 0 0 - 1))), some (.int (nI (i)))] []  (SH, I, J) Q := by
    intro k
    induction k with
    | zero =>
      intro i hi hj
      have K0 := ways (fun b hb => hj b (by omega)) (some (.int (nI i)))
      have c : A 0 0 ≤ i := by omega
      rw [at_58_11]
      simp (disch := first | omega | assumption | exact own_58 | exact rt_58 | exact pr_0 (by assumption) | exact q_lt1 (hb _ _) | exact bt_lt _ | fail) only [own_58, rt_58, ab_kl_n, ab_kl_i, ab_kl_r, ab_kl_l, at_58_0, Go_iconst, kc_1, at_58_1, Go_aload_0, at_58_2, Go_getf, fl_3_60, gg_3_0, sh_ref, sh_rf, at_58_5, Go_ishl, q_shl, at_58_6, at_58_7, Go_isub, q_sub, at_58_8, Go_istore_1, ab_put_int_1, at_58_9, kc_0, at_58_10, Go_istore_2, ab_put_int_2, Go_iload_2, at_58_12, at_58_13, jt_58_16, q_le, q_lt, q_eq, n_leT, n_leF, n_ltT, n_ltF, n_eqF, n_b0, at_58_19, at_58_20, at_58_21, cl_3_81, cat_n, cat_i, cat_r, cat_l, tl_i, tl_l, tl_n, sh_same, at_58_24, Go_iload_1, at_58_25, kc_m1, at_58_26, Go_ixor, q_bd, at_58_27, Go_iand, jt_58_28, at_58_31, at_58_32, Go_retb, Go_retb0, Go_retb1, at_58_33, Go_iinc_2, q_add, jt_58_36, at_58_40, at_58_41, cl_3_85, at_58_44, jt_58_45, at_58_48, at_58_49, at_58_50, at_58_51, cl_3_99, at_58_54, at_58_55, cl_3_102, at_58_58, at_58_59, at_58_61, at_58_62, fl_3_64, gg_3_1, jt_58_65, at_58_68, at_58_69, at_58_70, cl_3_105, jt_58_73, at_58_76, at_58_77, at_58_78, jt_58_81, at_58_84, at_58_85, at_58_87, at_58_88, jt_58_91, at_58_94, at_58_95, fl_3_18, gg_3_4, at_58_98, at_58_99, Go_iaload, sh_ln, q_in, q_cl, jt_58_100, jt_58_103, at_58_106, at_58_107, at_58_108, fl_3_27, gg_3_7, at_58_111, at_58_112, at_58_113, cl_3_73, jt_58_116, at_58_119, at_58_120, at_58_121, at_58_124, at_58_125, at_58_126, at_58_127, cl_3_96, jt_58_130, at_58_133, at_58_134, at_58_135, jt_58_138, at_58_141, at_58_142, Nat.reduceAdd, Nat.reduceMul, Nat.reduceLeDiff, Nat.reduceSub, decide_true, decide_false, Bool.toNat_true, Bool.toNat_false, not_true_eq_false, not_false_eq_true, ite_not, true_and, and_true, if_true, if_false, ↓reduceIte, Bool.or_true, Bool.true_or, Bool.or_false, pr_0 hp, e0, c]
      exact K0
    | succ k ih =>
      intro i hi hj
      have i6 : i < A 0 0 := by omega
      have c : ¬ A 0 0 ≤ i := by omega
      have s1 := fun Q => z_succ (J := J) (Q := Q) hp a4 h6 (DC_PB d) i6
      have sl := scs_lt h6 i6
      have sin := scs_in h6 i6
      have sl2 : scs A i &&& (scs A i ^^^ (1 <<< A 0 0 - 1)) ≤ scs A i := Nat.and_le_left
      rw [at_58_11]
      by_cases c2 : (A 3 i ≠ 2 → A 4 i < A 0 0) ∧ (A 3 i = 1 → A 5 i < A 0 0)
      · have cT := sin.trans (eq_true c2)
        have ih := ih (i + 1) (by omega) (fun b hb => by
          by_cases z : b = i
          · subst z; exact c2
          · exact hj b (by omega))
        simp (disch := first | omega | assumption | exact own_58 | exact rt_58 | exact pr_0 (by assumption) | exact q_lt1 (hb _ _) | exact bt_lt _ | fail) only [own_58, rt_58, ab_kl_n, ab_kl_i, ab_kl_r, ab_kl_l, at_58_0, Go_iconst, kc_1, at_58_1, Go_aload_0, at_58_2, Go_getf, fl_3_60, gg_3_0, sh_ref, sh_rf, at_58_5, Go_ishl, q_shl, at_58_6, at_58_7, Go_isub, q_sub, at_58_8, Go_istore_1, ab_put_int_1, at_58_9, kc_0, at_58_10, Go_istore_2, ab_put_int_2, Go_iload_2, at_58_12, at_58_13, jt_58_16, q_le, q_lt, q_eq, n_leT, n_leF, n_ltT, n_ltF, n_eqF, n_b0, at_58_19, at_58_20, at_58_21, cl_3_81, cat_n, cat_i, cat_r, cat_l, tl_i, tl_l, tl_n, sh_same, at_58_24, Go_iload_1, at_58_25, kc_m1, at_58_26, Go_ixor, q_bd, at_58_27, Go_iand, jt_58_28, at_58_31, at_58_32, Go_retb, Go_retb0, Go_retb1, at_58_33, Go_iinc_2, q_add, jt_58_36, at_58_40, at_58_41, cl_3_85, at_58_44, jt_58_45, at_58_48, at_58_49, at_58_50, at_58_51, cl_3_99, at_58_54, at_58_55, cl_3_102, at_58_58, at_58_59, at_58_61, at_58_62, fl_3_64, gg_3_1, jt_58_65, at_58_68, at_58_69, at_58_70, cl_3_105, jt_58_73, at_58_76, at_58_77, at_58_78, jt_58_81, at_58_84, at_58_85, at_58_87, at_58_88, jt_58_91, at_58_94, at_58_95, fl_3_18, gg_3_4, at_58_98, at_58_99, Go_iaload, sh_ln, q_in, q_cl, jt_58_100, jt_58_103, at_58_106, at_58_107, at_58_108, fl_3_27, gg_3_7, at_58_111, at_58_112, at_58_113, cl_3_73, jt_58_116, at_58_119, at_58_120, at_58_121, at_58_124, at_58_125, at_58_126, at_58_127, cl_3_96, jt_58_130, at_58_133, at_58_134, at_58_135, jt_58_138, at_58_141, at_58_142, Nat.reduceAdd, Nat.reduceMul, Nat.reduceLeDiff, Nat.reduceSub, decide_true, decide_false, Bool.toNat_true, Bool.toNat_false, not_true_eq_false, not_false_eq_true, ite_not, true_and, and_true, if_true, if_false, ↓reduceIte, Bool.or_true, Bool.true_or, Bool.or_false, pr_0 hp, e0, c, s1, cT]
        exact ih
      · have cF := sin.trans (eq_false c2)
        have K0 := K2 (fun z => c2 (z.1 i i6)) I (fun _ _ _ => rfl)
        simp (disch := first | omega | assumption | exact own_58 | exact rt_58 | exact pr_0 (by assumption) | exact q_lt1 (hb _ _) | exact bt_lt _ | fail) only [own_58, rt_58, ab_kl_n, ab_kl_i, ab_kl_r, ab_kl_l, at_58_0, Go_iconst, kc_1, at_58_1, Go_aload_0, at_58_2, Go_getf, fl_3_60, gg_3_0, sh_ref, sh_rf, at_58_5, Go_ishl, q_shl, at_58_6, at_58_7, Go_isub, q_sub, at_58_8, Go_istore_1, ab_put_int_1, at_58_9, kc_0, at_58_10, Go_istore_2, ab_put_int_2, Go_iload_2, at_58_12, at_58_13, jt_58_16, q_le, q_lt, q_eq, n_leT, n_leF, n_ltT, n_ltF, n_eqF, n_b0, at_58_19, at_58_20, at_58_21, cl_3_81, cat_n, cat_i, cat_r, cat_l, tl_i, tl_l, tl_n, sh_same, at_58_24, Go_iload_1, at_58_25, kc_m1, at_58_26, Go_ixor, q_bd, at_58_27, Go_iand, jt_58_28, at_58_31, at_58_32, Go_retb, Go_retb0, Go_retb1, at_58_33, Go_iinc_2, q_add, jt_58_36, at_58_40, at_58_41, cl_3_85, at_58_44, jt_58_45, at_58_48, at_58_49, at_58_50, at_58_51, cl_3_99, at_58_54, at_58_55, cl_3_102, at_58_58, at_58_59, at_58_61, at_58_62, fl_3_64, gg_3_1, jt_58_65, at_58_68, at_58_69, at_58_70, cl_3_105, jt_58_73, at_58_76, at_58_77, at_58_78, jt_58_81, at_58_84, at_58_85, at_58_87, at_58_88, jt_58_91, at_58_94, at_58_95, fl_3_18, gg_3_4, at_58_98, at_58_99, Go_iaload, sh_ln, q_in, q_cl, jt_58_100, jt_58_103, at_58_106, at_58_107, at_58_108, fl_3_27, gg_3_7, at_58_111, at_58_112, at_58_113, cl_3_73, jt_58_116, at_58_119, at_58_120, at_58_121, at_58_124, at_58_125, at_58_126, at_58_127, cl_3_96, jt_58_130, at_58_133, at_58_134, at_58_135, jt_58_138, at_58_141, at_58_142, Nat.reduceAdd, Nat.reduceMul, Nat.reduceLeDiff, Nat.reduceSub, decide_true, decide_false, Bool.toNat_true, Bool.toNat_false, not_true_eq_false, not_false_eq_true, ite_not, true_and, and_true, if_true, if_false, ↓reduceIte, Bool.or_true, Bool.true_or, Bool.or_false, pr_0 hp, e0, c, s1, cF]
        exact K0
  have l0 := lp1 (A 0 0) 0 (by omega) (fun b hb => absurd hb (Nat.not_lt_zero b))
  rw [en_58]
  simp (disch := first | omega | assumption | exact own_58 | exact rt_58 | exact pr_0 (by assumption) | exact q_lt1 (hb _ _) | exact bt_lt _ | fail) only [own_58, rt_58, ab_kl_n, ab_kl_i, ab_kl_r, ab_kl_l, at_58_0, Go_iconst, kc_1, at_58_1, Go_aload_0, at_58_2, Go_getf, fl_3_60, gg_3_0, sh_ref, sh_rf, at_58_5, Go_ishl, q_shl, at_58_6, at_58_7, Go_isub, q_sub, at_58_8, Go_istore_1, ab_put_int_1, at_58_9, kc_0, at_58_10, Go_istore_2, ab_put_int_2, Go_iload_2, at_58_12, at_58_13, jt_58_16, q_le, q_lt, q_eq, n_leT, n_leF, n_ltT, n_ltF, n_eqF, n_b0, at_58_19, at_58_20, at_58_21, cl_3_81, cat_n, cat_i, cat_r, cat_l, tl_i, tl_l, tl_n, sh_same, at_58_24, Go_iload_1, at_58_25, kc_m1, at_58_26, Go_ixor, q_bd, at_58_27, Go_iand, jt_58_28, at_58_31, at_58_32, Go_retb, Go_retb0, Go_retb1, at_58_33, Go_iinc_2, q_add, jt_58_36, at_58_39, at_58_40, at_58_41, cl_3_85, at_58_44, jt_58_45, at_58_48, at_58_49, at_58_50, at_58_51, cl_3_99, at_58_54, at_58_55, cl_3_102, at_58_58, at_58_59, at_58_61, at_58_62, fl_3_64, gg_3_1, jt_58_65, at_58_68, at_58_69, at_58_70, cl_3_105, jt_58_73, at_58_76, at_58_77, at_58_78, jt_58_81, at_58_84, at_58_85, at_58_87, at_58_88, jt_58_91, at_58_94, at_58_95, fl_3_18, gg_3_4, at_58_98, at_58_99, Go_iaload, sh_ln, q_in, q_cl, jt_58_100, jt_58_103, at_58_106, at_58_107, at_58_108, fl_3_27, gg_3_7, at_58_111, at_58_112, at_58_113, cl_3_73, jt_58_116, at_58_119, at_58_120, at_58_121, at_58_124, at_58_125, at_58_126, at_58_127, cl_3_96, jt_58_130, at_58_133, at_58_134, at_58_135, jt_58_138, at_58_141, at_58_142, Nat.reduceAdd, Nat.reduceMul, Nat.reduceLeDiff, Nat.reduceSub, decide_true, decide_false, Bool.toNat_true, Bool.toNat_false, not_true_eq_false, not_false_eq_true, ite_not, true_and, and_true, if_true, if_false, ↓reduceIte, Bool.or_true, Bool.true_or, Bool.or_false, pr_0 hp, e0]
  exact l0
end CSP2
