/-! RUNS, told -/
def vo (A : Nat → Nat → Nat) (ar : Nat → Int32) (V : Nat → Int64) (n : Nat) : Int64 := if A 10 n = 0 then (if A 13 n = 99 then VOI else lN (A 13 n)) else if A 10 n = 1 then (ar (A 13 n)).toInt64 else br (A 10 n) (V (A 14 (6 * n))) (if A 10 n = 4 then lN 0 else V (A 14 (6 * n + 1)))
abbrev RS : Type := (Nat → Int64) × Nat × Int32
abbrev WT : Type := Option (Nat × Nat)
def cmq (V : Nat → Int64) (k m : Nat) (D : Int32) : Int32 := if ¬ V k = NOT ∧ ¬ V k = V m then D + nI 1 else D
def wq (w : WT) (n : Nat) (V : Nat → Int64) (D : Int32) : Int32 := match w with
  | none => D
  | some (k, m) => if n = m then cmq V k m D else D
def p1V (A : Nat → Nat → Nat) (r f l : Nat) (V : Nat → Int64) : Nat → Int64 := fun n => if f ≤ n ∧ n < l ∧ A 10 n = 7 then V (A 14 (6 * n + r)) else V n
def p1m (A : Nat → Nat → Nat) (w : WT) (f l : Nat) : Bool := match w with
  | none => false
  | some (_, m) => decide (f ≤ m ∧ m < l ∧ A 10 m = 7)
def wm (w : WT) (V : Nat → Int64) (D : Int32) : Int32 := match w with
  | none => D
  | some (k, m) => cmq V k m D
def p1 (A : Nat → Nat → Nat) (w : WT) (r f c : Nat) (s : RS) : RS := (p1V A r f (f + c) s.1, s.2.1 + cn (fun j => decide (A 10 (f + j) = 7)) c, if p1m A w f (f + c) then wm w (p1V A r f (f + c) s.1) s.2.2 else s.2.2)
def ps (A : Nat → Nat → Nat) (ar : Nat → Int32) (w : WT) (f : Nat) : Nat → RS → RS
  | 0, s => s
  | j + 1, s => if A 10 (f + j) = 7 ∨ A 10 (f + j) = 8 then ps A ar w f j s else
      ((fun q => if q = f + j then vo A ar (ps A ar w f j s).1 (f + j) else (ps A ar w f j s).1 q), (ps A ar w f j s).2.1 + 1, wq w (f + j) (fun q => if q = f + j then vo A ar (ps A ar w f j s).1 (f + j) else (ps A ar w f j s).1 q) (ps A ar w f j s).2.2)
def pa (A : Nat → Nat → Nat) (ar : Nat → Int32) (w : WT) (r b : Nat) (s : RS) : RS := ps A ar w (A 1 b) (A 2 b) (p1 A w r (A 1 b) (A 2 b) s)
def nx (A : Nat → Nat → Nat) (V : Nat → Int64) (b : Nat) : Nat := if A 3 b = 0 then A 4 b else if lN 0 < V (A 6 b) ∧ ¬ V (A 6 b) = VOI then A 4 b else A 5 b
def rt (A : Nat → Nat → Nat) (c b : Nat) : Nat := fu (fun i => decide (A 8 (6 * b + i) = c)) (A 7 b) 0
/-- so many BLOCKS at most, coming by route r to b: what is then, through how many, what is told -/
def rn (A : Nat → Nat → Nat) (ar : Nat → Int32) (w : WT) : Nat → Nat → Nat → RS → Nat → RS × Nat × Option Int64
  | 0, _, _, s, t => (s, t, none)
  | u + 1, r, b, s, t => if A 3 b = 2 then (pa A ar w r b s, t + 1, some ((pa A ar w r b s).1 (A 6 b))) else rn A ar w u (rt A b (nx A (pa A ar w r b s).1 b)) (nx A (pa A ar w r b s).1 b) (pa A ar w r b s) (t + 1)
def V0 : Nat → Int64 := fun _ => NOT
def run0 (A : Nat → Nat → Nat) (ar : Nat → Int32) (w : WT) (D : Int32) : RS × Nat × Option Int64 := if A 0 0 = 0 then ((V0, 0, D), 0, none) else rn A ar w 200 0 0 (V0, 0, D) 0
def toldV : Option Int64 → Int64
  | none => NOT
  | some v => v
/-- NAMES of a BLOCK stand side by side -/
def WH (A : Nat → Nat → Nat) : Prop := ∀ b n, b < A 0 0 → A 1 b ≤ n → n < A 1 b + A 2 b → A 11 n = b
def isM (o : Nat) : Prop := o = 49 ∨ o = 53
theorem mf_0 {o : Nat} (h : isM o) : va_rf (ab_rf sh_z o 0) = .ref (o + 1) := by rcases h with rfl | rfl <;> rfl
theorem mf_1 {o : Nat} (h : isM o) : va_rf (ab_rf sh_z o 1) = .ref (o + 2) := by rcases h with rfl | rfl <;> rfl
theorem mf_7 {o : Nat} (h : isM o) : va_rf (ab_rf sh_z o 7) = .ref (o + 3) := by rcases h with rfl | rfl <;> rfl
theorem mr_0 {o : Nat} (h : isM o) : ab_ref sh_z o 2 = true := by rcases h with rfl | rfl <;> decide +kernel
theorem mr_1 {o : Nat} (h : isM o) : ab_ref sh_z (o + 1) 10 = true := by rcases h with rfl | rfl <;> decide +kernel
theorem mr_2 {o : Nat} (h : isM o) : ab_ref sh_z (o + 2) 11 = true := by rcases h with rfl | rfl <;> decide +kernel
theorem mr_3 {o : Nat} (h : isM o) : ab_ref sh_z (o + 3) 11 = true := by rcases h with rfl | rfl <;> decide +kernel
theorem mn_1 {o : Nat} (h : isM o) : ab_ln sh_z (o + 1) = 4 := by rcases h with rfl | rfl <;> decide +kernel
theorem mn_2 {o : Nat} (h : isM o) : ab_ln sh_z (o + 2) = 20 := by rcases h with rfl | rfl <;> decide +kernel
theorem mn_3 {o : Nat} (h : isM o) : ab_ln sh_z (o + 3) = 20 := by rcases h with rfl | rfl <;> decide +kernel
theorem isM_lt {o : Nat} (h : isM o) : o < 54 ∧ (o = 49 ∨ o = 53) := by rcases h with rfl | rfl <;> omega
/-- a machine of the class -/
def MV (o : Nat) (I : Nat → Nat → Int32) (J : Nat → Nat → Int64) (s : RS) : Prop := (∀ n, n < 20 → J (o + 2) n = s.1 n) ∧ I o 5 = nI s.2.1 ∧ I o 6 = s.2.2
def MW (o : Nat) (I : Nat → Nat → Int32) (A : Nat → Nat → Nat) (w : WT) : Prop := match w with
  | none => I o 8 = -4
  | some (k, m) => I o 8 = nI m ∧ I o 9 = nI k ∧ k < A 0 1 ∧ m < A 0 1
def MA (o : Nat) (I : Nat → Nat → Int32) (ar : Nat → Int32) : Prop := ∀ i, i < 4 → I (o + 1) i = ar i
section RNC
variable {I : Nat → Nat → Int32} {J : Nat → Nat → Int64} {Q : Option Value → ab_H → Prop} {A : Nat → Nat → Nat} {p o : Nat} {R : Prop} {ar : Nat → Int32} {w : WT} {s : RS}
theorem x_routeFrom0 (hp : isP p) (hb : WB A) (hr : WR A) (h : PC p I A) (hg : PG p I A) {b : Nat} (hn : b < A 0 0) (h0 : A 7 b = 0) {x : Int32} : Ex 54 [.ref p, .int x, .int (nI b)] (SH, I, J) Q = Q (some (.int (-4))) (SH, I, J) := by
  have hp2 := p_lt hp
  obtain ⟨r1, r2, r3, r4⟩ := hr
  obtain ⟨e0, e1, e2, e3, e4, e5, e6, e7, e8, e9, e10, e11, e12⟩ := h
  obtain ⟨g1, g2, g3⟩ := hg
  rw [en_54]
  simp (disch := first | omega | assumption | exact own_54 | exact rt_54 | exact q_lt1 (hb _ _) | exact bt_lt _ | fail) only [own_54, rt_54, ab_kl_n, ab_kl_i, ab_kl_r, ab_kl_l, at_54_0, Go_iconst, kc_0, at_54_1, Go_istore_3, ab_put_int_3, Go_iload_3, at_54_3, Go_aload_0, at_54_4, Go_getf, fl_3_30, gg_3_8, sh_ref, sh_rf, at_54_7, Go_iload_2, at_54_8, Go_iaload, sh_ln, q_in, q_cl, jt_54_9, q_le, q_lt, q_eq, n_leT, n_leF, n_ltT, n_ltF, n_eqF, n_b0, at_54_12, at_54_13, fl_3_35, gg_3_9, at_54_16, at_54_17, Go_aaload, at_54_18, at_54_19, at_54_20, Go_iload_1, jt_54_21, at_54_24, at_54_25, Go_reti, at_54_26, Go_iinc_3, kc_1, q_add, jt_54_29, at_54_32, Go_bipush, kb_m4, at_54_34, Nat.reduceAdd, Nat.reduceMul, Nat.reduceLeDiff, Nat.reduceSub, decide_true, decide_false, Bool.toNat_true, Bool.toNat_false, not_true_eq_false, not_false_eq_true, ite_not, true_and, and_true, if_true, if_false, ↓reduceIte, Bool.or_true, Bool.true_or, Bool.or_false, pr_0 hp, pf_8 hp, pr_7 hp, pn_7 hp, g1, pf_9 hp, pr_8 hp, pn_8 hp, g2, prow hp, prow_r hp, prow_n hp]
  rw [at_54_2]
  simp (disch := first | omega | assumption | exact own_54 | exact rt_54 | exact q_lt1 (hb _ _) | exact bt_lt _ | fail) only [own_54, rt_54, ab_kl_n, ab_kl_i, ab_kl_r, ab_kl_l, at_54_0, Go_iconst, kc_0, at_54_1, Go_istore_3, ab_put_int_3, Go_iload_3, at_54_3, Go_aload_0, at_54_4, Go_getf, fl_3_30, gg_3_8, sh_ref, sh_rf, at_54_7, Go_iload_2, at_54_8, Go_iaload, sh_ln, q_in, q_cl, jt_54_9, q_le, q_lt, q_eq, n_leT, n_leF, n_ltT, n_ltF, n_eqF, n_b0, at_54_12, at_54_13, fl_3_35, gg_3_9, at_54_16, at_54_17, Go_aaload, at_54_18, at_54_19, at_54_20, Go_iload_1, jt_54_21, at_54_24, at_54_25, Go_reti, at_54_26, Go_iinc_3, kc_1, q_add, jt_54_29, at_54_32, Go_bipush, kb_m4, at_54_34, Nat.reduceAdd, Nat.reduceMul, Nat.reduceLeDiff, Nat.reduceSub, decide_true, decide_false, Bool.toNat_true, Bool.toNat_false, not_true_eq_false, not_false_eq_true, ite_not, true_and, and_true, if_true, if_false, ↓reduceIte, Bool.or_true, Bool.true_or, Bool.or_false, pr_0 hp, pf_8 hp, pr_7 hp, pn_7 hp, g1, pf_9 hp, pr_8 hp, pn_8 hp, g2, prow hp, prow_r hp, prow_n hp, h0]
theorem x_bringOf (hp : isP p) (hb : WB A) (hr : WR A) (h : PC p I A) (hg : PG p I A) (hm : isM o) (hV : MV o I J s) (hA : MA o I ar) {n : Nat} (hn : n < A 0 1) (hk : A 10 n ≤ 6) : Ex 32 [.ref o, .ref p, .int (nI n)] (SH, I, J) Q = Q (some (.long (vo A ar s.1 n))) (SH, I, J) := by
  have s5 := fun k x y h1 h2 h3 Q => x_bring (I := I) (J := J) (Q := Q) (k := k) (x := x) (y := y) h1 h2 h3
  have hp2 := p_lt hp
  obtain ⟨r1, r2, r3, r4⟩ := hr
  obtain ⟨e0, e1, e2, e3, e4, e5, e6, e7, e8, e9, e10, e11, e12⟩ := h
  obtain ⟨g1, g2, g3⟩ := hg
  have hm2 := isM_lt hm
  obtain ⟨-, -, q2, -, -, q5, q6, -, q8, q9, q10⟩ := r4 n hn
  obtain ⟨v1, -⟩ := hV
  rw [en_32]
  unfold vo
  by_cases c0 : A 10 n = 0
  · have f1 := e11 n hn (by omega)
    rw [if_pos c0]
    by_cases d : A 13 n = 99
    · rw [if_pos d, lN_VOI]
      simp (disch := first | omega | assumption | exact own_32 | exact rt_32 | exact mr_0 hm | exact q_lt1 (hb _ _) | exact bt_lt _ | fail) only [own_32, rt_32, ab_kl_n, ab_kl_i, ab_kl_r, ab_kl_l, at_32_0, Go_aload_1, at_32_1, Go_getf, fl_2_90, gg_3_11, sh_ref, sh_rf, at_32_4, Go_iload_2, at_32_5, Go_iaload, sh_ln, q_in, q_cl, jt_32_6, q_le, q_lt, q_eq, n_leT, n_leF, n_ltT, n_ltF, n_eqF, n_b0, at_32_9, at_32_10, fl_2_104, gg_3_14, at_32_13, at_32_14, at_32_15, Go_bipush, kb_99, jt_32_17, at_32_20, ldc2_2_71, jt_32_23, at_32_26, at_32_27, at_32_30, at_32_31, at_32_32, Go_i2l, at_32_33, Go_lreturn, at_32_34, at_32_35, at_32_38, at_32_39, at_32_40, Go_iconst, kc_1, jt_32_41, at_32_44, Go_aload_0, at_32_45, fl_2_9, gg_2_0, sr_49, sf_49_0, sr_50, sn_50, sr_53, sf_53_0, sr_54, sn_54, at_32_48, at_32_49, at_32_52, at_32_53, at_32_54, at_32_55, at_32_56, at_32_57, at_32_58, fl_2_15, gg_2_1, sf_49_1, sr_51, sn_51, sf_53_1, sr_55, sn_55, at_32_61, at_32_62, fl_2_100, gg_3_15, at_32_65, at_32_66, Go_aaload, at_32_67, kc_0, at_32_68, at_32_69, Go_laload, at_32_70, Go_lstore_3, ab_put_long_3, at_32_71, at_32_72, at_32_75, at_32_76, at_32_77, kc_4, jt_32_78, at_32_81, at_32_82, Go_lload_3, at_32_83, Go_lconst, kl_0, at_32_84, cl_2_107, cat_n, cat_i, cat_r, cat_l, tl_i, tl_l, tl_n, sh_same, jt_32_87, at_32_90, at_32_91, at_32_94, at_32_95, at_32_96, at_32_97, at_32_98, at_32_101, at_32_102, at_32_105, at_32_106, at_32_107, at_32_108, at_32_109, at_32_110, at_32_113, Nat.reduceAdd, Nat.reduceMul, Nat.reduceLeDiff, Nat.reduceSub, decide_true, decide_false, Bool.toNat_true, Bool.toNat_false, not_true_eq_false, not_false_eq_true, ite_not, true_and, and_true, if_true, if_false, ↓reduceIte, Bool.or_true, Bool.true_or, Bool.or_false, pr_0 hp, pf_11 hp, pr_16 hp, pn_16 hp, e8, pf_14 hp, pr_19 hp, pn_19 hp, e11, pf_15 hp, pr_20 hp, pn_20 hp, e12, orow hp, orow_r hp, orow_n hp, mf_0 hm, mf_1 hm, mf_7 hm, mr_0 hm, mr_1 hm, mr_2 hm, mr_3 hm, mn_1 hm, mn_2 hm, mn_3 hm, c0, f1, d]
    · rw [if_neg d]
      simp (disch := first | omega | assumption | exact own_32 | exact rt_32 | exact mr_0 hm | exact q_lt1 (hb _ _) | exact bt_lt _ | fail) only [own_32, rt_32, ab_kl_n, ab_kl_i, ab_kl_r, ab_kl_l, at_32_0, Go_aload_1, at_32_1, Go_getf, fl_2_90, gg_3_11, sh_ref, sh_rf, at_32_4, Go_iload_2, at_32_5, Go_iaload, sh_ln, q_in, q_cl, jt_32_6, q_le, q_lt, q_eq, n_leT, n_leF, n_ltT, n_ltF, n_eqF, n_b0, at_32_9, at_32_10, fl_2_104, gg_3_14, at_32_13, at_32_14, at_32_15, Go_bipush, kb_99, jt_32_17, at_32_20, ldc2_2_71, jt_32_23, at_32_26, at_32_27, at_32_30, at_32_31, at_32_32, Go_i2l, at_32_33, Go_lreturn, at_32_34, at_32_35, at_32_38, at_32_39, at_32_40, Go_iconst, kc_1, jt_32_41, at_32_44, Go_aload_0, at_32_45, fl_2_9, gg_2_0, sr_49, sf_49_0, sr_50, sn_50, sr_53, sf_53_0, sr_54, sn_54, at_32_48, at_32_49, at_32_52, at_32_53, at_32_54, at_32_55, at_32_56, at_32_57, at_32_58, fl_2_15, gg_2_1, sf_49_1, sr_51, sn_51, sf_53_1, sr_55, sn_55, at_32_61, at_32_62, fl_2_100, gg_3_15, at_32_65, at_32_66, Go_aaload, at_32_67, kc_0, at_32_68, at_32_69, Go_laload, at_32_70, Go_lstore_3, ab_put_long_3, at_32_71, at_32_72, at_32_75, at_32_76, at_32_77, kc_4, jt_32_78, at_32_81, at_32_82, Go_lload_3, at_32_83, Go_lconst, kl_0, at_32_84, cl_2_107, cat_n, cat_i, cat_r, cat_l, tl_i, tl_l, tl_n, sh_same, jt_32_87, at_32_90, at_32_91, at_32_94, at_32_95, at_32_96, at_32_97, at_32_98, at_32_101, at_32_102, at_32_105, at_32_106, at_32_107, at_32_108, at_32_109, at_32_110, at_32_113, Nat.reduceAdd, Nat.reduceMul, Nat.reduceLeDiff, Nat.reduceSub, decide_true, decide_false, Bool.toNat_true, Bool.toNat_false, not_true_eq_false, not_false_eq_true, ite_not, true_and, and_true, if_true, if_false, ↓reduceIte, Bool.or_true, Bool.true_or, Bool.or_false, pr_0 hp, pf_11 hp, pr_16 hp, pn_16 hp, e8, pf_14 hp, pr_19 hp, pn_19 hp, e11, pf_15 hp, pr_20 hp, pn_20 hp, e12, orow hp, orow_r hp, orow_n hp, mf_0 hm, mf_1 hm, mf_7 hm, mr_0 hm, mr_1 hm, mr_2 hm, mr_3 hm, mn_1 hm, mn_2 hm, mn_3 hm, c0, f1, d, q_il]
  · rw [if_neg c0]
    by_cases c1 : A 10 n = 1
    · have f1 := e11 n hn (by omega)
      have f2 := hA (A 13 n) (by have := q9 c1; omega)
      have f3 := q9 c1
      rw [if_pos c1]
      simp (disch := first | omega | assumption | exact own_32 | exact rt_32 | exact mr_0 hm | exact q_lt1 (hb _ _) | exact bt_lt _ | fail) only [own_32, rt_32, ab_kl_n, ab_kl_i, ab_kl_r, ab_kl_l, at_32_0, Go_aload_1, at_32_1, Go_getf, fl_2_90, gg_3_11, sh_ref, sh_rf, at_32_4, Go_iload_2, at_32_5, Go_iaload, sh_ln, q_in, q_cl, jt_32_6, q_le, q_lt, q_eq, n_leT, n_leF, n_ltT, n_ltF, n_eqF, n_b0, at_32_9, at_32_10, fl_2_104, gg_3_14, at_32_13, at_32_14, at_32_15, Go_bipush, kb_99, jt_32_17, at_32_20, ldc2_2_71, jt_32_23, at_32_26, at_32_27, at_32_30, at_32_31, at_32_32, Go_i2l, at_32_33, Go_lreturn, at_32_34, at_32_35, at_32_38, at_32_39, at_32_40, Go_iconst, kc_1, jt_32_41, at_32_44, Go_aload_0, at_32_45, fl_2_9, gg_2_0, sr_49, sf_49_0, sr_50, sn_50, sr_53, sf_53_0, sr_54, sn_54, at_32_48, at_32_49, at_32_52, at_32_53, at_32_54, at_32_55, at_32_56, at_32_57, at_32_58, fl_2_15, gg_2_1, sf_49_1, sr_51, sn_51, sf_53_1, sr_55, sn_55, at_32_61, at_32_62, fl_2_100, gg_3_15, at_32_65, at_32_66, Go_aaload, at_32_67, kc_0, at_32_68, at_32_69, Go_laload, at_32_70, Go_lstore_3, ab_put_long_3, at_32_71, at_32_72, at_32_75, at_32_76, at_32_77, kc_4, jt_32_78, at_32_81, at_32_82, Go_lload_3, at_32_83, Go_lconst, kl_0, at_32_84, cl_2_107, cat_n, cat_i, cat_r, cat_l, tl_i, tl_l, tl_n, sh_same, jt_32_87, at_32_90, at_32_91, at_32_94, at_32_95, at_32_96, at_32_97, at_32_98, at_32_101, at_32_102, at_32_105, at_32_106, at_32_107, at_32_108, at_32_109, at_32_110, at_32_113, Nat.reduceAdd, Nat.reduceMul, Nat.reduceLeDiff, Nat.reduceSub, decide_true, decide_false, Bool.toNat_true, Bool.toNat_false, not_true_eq_false, not_false_eq_true, ite_not, true_and, and_true, if_true, if_false, ↓reduceIte, Bool.or_true, Bool.true_or, Bool.or_false, pr_0 hp, pf_11 hp, pr_16 hp, pn_16 hp, e8, pf_14 hp, pr_19 hp, pn_19 hp, e11, pf_15 hp, pr_20 hp, pn_20 hp, e12, orow hp, orow_r hp, orow_n hp, mf_0 hm, mf_1 hm, mf_7 hm, mr_0 hm, mr_1 hm, mr_2 hm, mr_3 hm, mn_1 hm, mn_2 hm, mn_3 hm, c1, f1, f2]
    · rw [if_neg c1]
      by_cases c4 : A 10 n = 4
      · have ar1 := q5 c4
        have o0 := q10 0 (by omega)
        have w0 := e12 n 0 hn (by omega)
        simp only [Nat.add_zero] at o0 w0
        have v0 := v1 _ (by omega : A 14 (6 * n) < 20)
        have s6 := fun x Q => s5 4 x (lN 0) (by omega) (by omega) (fun _ => rfl) Q
        rw [if_pos c4, ← v0, c4]
        simp (disch := first | omega | assumption | exact own_32 | exact rt_32 | exact mr_0 hm | exact q_lt1 (hb _ _) | exact bt_lt _ | fail) only [own_32, rt_32, ab_kl_n, ab_kl_i, ab_kl_r, ab_kl_l, at_32_0, Go_aload_1, at_32_1, Go_getf, fl_2_90, gg_3_11, sh_ref, sh_rf, at_32_4, Go_iload_2, at_32_5, Go_iaload, sh_ln, q_in, q_cl, jt_32_6, q_le, q_lt, q_eq, n_leT, n_leF, n_ltT, n_ltF, n_eqF, n_b0, at_32_9, at_32_10, fl_2_104, gg_3_14, at_32_13, at_32_14, at_32_15, Go_bipush, kb_99, jt_32_17, at_32_20, ldc2_2_71, jt_32_23, at_32_26, at_32_27, at_32_30, at_32_31, at_32_32, Go_i2l, at_32_33, Go_lreturn, at_32_34, at_32_35, at_32_38, at_32_39, at_32_40, Go_iconst, kc_1, jt_32_41, at_32_44, Go_aload_0, at_32_45, fl_2_9, gg_2_0, sr_49, sf_49_0, sr_50, sn_50, sr_53, sf_53_0, sr_54, sn_54, at_32_48, at_32_49, at_32_52, at_32_53, at_32_54, at_32_55, at_32_56, at_32_57, at_32_58, fl_2_15, gg_2_1, sf_49_1, sr_51, sn_51, sf_53_1, sr_55, sn_55, at_32_61, at_32_62, fl_2_100, gg_3_15, at_32_65, at_32_66, Go_aaload, at_32_67, kc_0, at_32_68, at_32_69, Go_laload, at_32_70, Go_lstore_3, ab_put_long_3, at_32_71, at_32_72, at_32_75, at_32_76, at_32_77, kc_4, jt_32_78, at_32_81, at_32_82, Go_lload_3, at_32_83, Go_lconst, kl_0, at_32_84, cl_2_107, cat_n, cat_i, cat_r, cat_l, tl_i, tl_l, tl_n, sh_same, jt_32_87, at_32_90, at_32_91, at_32_94, at_32_95, at_32_96, at_32_97, at_32_98, at_32_101, at_32_102, at_32_105, at_32_106, at_32_107, at_32_108, at_32_109, at_32_110, at_32_113, Nat.reduceAdd, Nat.reduceMul, Nat.reduceLeDiff, Nat.reduceSub, decide_true, decide_false, Bool.toNat_true, Bool.toNat_false, not_true_eq_false, not_false_eq_true, ite_not, true_and, and_true, if_true, if_false, ↓reduceIte, Bool.or_true, Bool.true_or, Bool.or_false, mf_0 hm, mf_1 hm, mf_7 hm, mr_0 hm, mr_1 hm, mr_2 hm, mr_3 hm, mn_1 hm, mn_2 hm, mn_3 hm, e8, pf_11 hp, pr_16 hp, pn_16 hp, pr_0 hp, pf_15 hp, pr_20 hp, pn_20 hp, orow hp, orow_r hp, orow_n hp, c4, w0, s6]
      · have ar2 := q6 (by omega) (by omega) c4
        have o0 := q10 0 (by omega)
        have o1 := q10 1 (by omega)
        have w0 := e12 n 0 hn (by omega)
        have w1 := e12 n 1 hn (by omega)
        simp only [Nat.add_zero] at o0 w0
        have v0 := v1 _ (by omega : A 14 (6 * n) < 20)
        have v2 := v1 _ (by omega : A 14 (6 * n + 1) < 20)
        have s6 := fun x y Q => s5 (A 10 n) x y (by omega) (by omega) (fun z => absurd z c4) Q
        rw [if_neg c4, ← v0, ← v2]
        simp (disch := first | omega | assumption | exact own_32 | exact rt_32 | exact mr_0 hm | exact q_lt1 (hb _ _) | exact bt_lt _ | fail) only [own_32, rt_32, ab_kl_n, ab_kl_i, ab_kl_r, ab_kl_l, at_32_0, Go_aload_1, at_32_1, Go_getf, fl_2_90, gg_3_11, sh_ref, sh_rf, at_32_4, Go_iload_2, at_32_5, Go_iaload, sh_ln, q_in, q_cl, jt_32_6, q_le, q_lt, q_eq, n_leT, n_leF, n_ltT, n_ltF, n_eqF, n_b0, at_32_9, at_32_10, fl_2_104, gg_3_14, at_32_13, at_32_14, at_32_15, Go_bipush, kb_99, jt_32_17, at_32_20, ldc2_2_71, jt_32_23, at_32_26, at_32_27, at_32_30, at_32_31, at_32_32, Go_i2l, at_32_33, Go_lreturn, at_32_34, at_32_35, at_32_38, at_32_39, at_32_40, Go_iconst, kc_1, jt_32_41, at_32_44, Go_aload_0, at_32_45, fl_2_9, gg_2_0, sr_49, sf_49_0, sr_50, sn_50, sr_53, sf_53_0, sr_54, sn_54, at_32_48, at_32_49, at_32_52, at_32_53, at_32_54, at_32_55, at_32_56, at_32_57, at_32_58, fl_2_15, gg_2_1, sf_49_1, sr_51, sn_51, sf_53_1, sr_55, sn_55, at_32_61, at_32_62, fl_2_100, gg_3_15, at_32_65, at_32_66, Go_aaload, at_32_67, kc_0, at_32_68, at_32_69, Go_laload, at_32_70, Go_lstore_3, ab_put_long_3, at_32_71, at_32_72, at_32_75, at_32_76, at_32_77, kc_4, jt_32_78, at_32_81, at_32_82, Go_lload_3, at_32_83, Go_lconst, kl_0, at_32_84, cl_2_107, cat_n, cat_i, cat_r, cat_l, tl_i, tl_l, tl_n, sh_same, jt_32_87, at_32_90, at_32_91, at_32_94, at_32_95, at_32_96, at_32_97, at_32_98, at_32_101, at_32_102, at_32_105, at_32_106, at_32_107, at_32_108, at_32_109, at_32_110, at_32_113, Nat.reduceAdd, Nat.reduceMul, Nat.reduceLeDiff, Nat.reduceSub, decide_true, decide_false, Bool.toNat_true, Bool.toNat_false, not_true_eq_false, not_false_eq_true, ite_not, true_and, and_true, if_true, if_false, ↓reduceIte, Bool.or_true, Bool.true_or, Bool.or_false, mf_0 hm, mf_1 hm, mf_7 hm, mr_0 hm, mr_1 hm, mr_2 hm, mr_3 hm, mn_1 hm, mn_2 hm, mn_3 hm, e8, pf_11 hp, pr_16 hp, pn_16 hp, pr_0 hp, pf_15 hp, pr_20 hp, pn_20 hp, orow hp, orow_r hp, orow_n hp, c0, c1, c4, w0, w1, s6]
theorem x_nextBlock (hp : isP p) (hb : WB A) (hr : WR A) (h : PC p I A) (hg : PG p I A) (hm : isM o) (hV : MV o I J s) {b : Nat} (hn : b < A 0 0) (h2 : A 3 b ≠ 2) : Ex 29 [.ref o, .ref p, .int (nI b)] (SH, I, J) Q = Q (some (.int (nI (nx A s.1 b)))) (SH, I, J) := by
  have hp2 := p_lt hp
  obtain ⟨r1, r2, r3, r4⟩ := hr
  obtain ⟨e0, e1, e2, e3, e4, e5, e6, e7, e8, e9, e10, e11, e12⟩ := h
  obtain ⟨g1, g2, g3⟩ := hg
  have hm2 := isM_lt hm
  obtain ⟨-, b3, -, -, b6, -⟩ := r3 b hn
  obtain ⟨v1, -⟩ := hV
  have f4 := e5 b hn h2
  rw [en_29]
  unfold nx
  by_cases c0 : A 3 b = 0
  · rw [if_pos c0]
    simp (disch := first | omega | assumption | exact own_29 | exact rt_29 | exact mr_0 hm | exact q_lt1 (hb _ _) | exact bt_lt _ | fail) only [own_29, rt_29, ab_kl_n, ab_kl_i, ab_kl_r, ab_kl_l, at_29_0, Go_aload_1, at_29_1, Go_getf, fl_2_58, gg_3_4, sh_ref, sh_rf, at_29_4, Go_iload_2, at_29_5, Go_iaload, sh_ln, q_in, q_cl, jt_29_6, q_le, q_lt, q_eq, n_leT, n_leF, n_ltT, n_ltF, n_eqF, n_b0, at_29_9, at_29_10, fl_2_68, gg_3_5, at_29_13, at_29_14, at_29_15, Go_reti, at_29_16, Go_aload_0, at_29_17, fl_2_15, gg_2_1, sr_49, sf_49_1, sr_51, sn_51, sr_53, sf_53_1, sr_55, sn_55, at_29_20, at_29_21, fl_2_61, gg_3_7, at_29_24, at_29_25, at_29_26, Go_laload, at_29_27, Go_lstore_3, ab_put_long_3, at_29_28, Go_lload_3, at_29_29, Go_lconst, kl_0, at_29_30, Go_lcmp, jt_29_31, at_29_34, at_29_35, ldc2_2_71, at_29_38, jt_29_39, at_29_42, at_29_43, at_29_46, at_29_47, jt_29_48, at_29_51, at_29_52, fl_2_73, gg_3_6, at_29_55, at_29_56, at_29_57, Nat.reduceAdd, Nat.reduceMul, Nat.reduceLeDiff, Nat.reduceSub, decide_true, decide_false, Bool.toNat_true, Bool.toNat_false, not_true_eq_false, not_false_eq_true, ite_not, true_and, and_true, if_true, if_false, ↓reduceIte, Bool.or_true, Bool.true_or, Bool.or_false, pr_0 hp, pf_4 hp, pr_3 hp, pn_3 hp, e4, pf_5 hp, pr_4 hp, pn_4 hp, e5, pf_7 hp, pr_6 hp, pn_6 hp, e7, pf_6 hp, pr_5 hp, pn_5 hp, e6, mf_0 hm, mf_1 hm, mf_7 hm, mr_0 hm, mr_1 hm, mr_2 hm, mr_3 hm, mn_1 hm, mn_2 hm, mn_3 hm, c0, f4]
  · have f5 := e6 b hn (by omega)
    have f6 := e7 b hn c0
    have b7 := b6 c0
    have v0 := v1 _ (by omega : A 6 b < 20)
    rw [if_neg c0, ← v0, lN_VOI]
    by_cases c1 : lN 0 < J (o + 2) (A 6 b)
    · by_cases c2 : J (o + 2) (A 6 b) = lN 1000000000000
      · simp (disch := first | omega | assumption | exact own_29 | exact rt_29 | exact mr_0 hm | exact q_lt1 (hb _ _) | exact bt_lt _ | fail) only [own_29, rt_29, ab_kl_n, ab_kl_i, ab_kl_r, ab_kl_l, at_29_0, Go_aload_1, at_29_1, Go_getf, fl_2_58, gg_3_4, sh_ref, sh_rf, at_29_4, Go_iload_2, at_29_5, Go_iaload, sh_ln, q_in, q_cl, jt_29_6, q_le, q_lt, q_eq, n_leT, n_leF, n_ltT, n_ltF, n_eqF, n_b0, at_29_9, at_29_10, fl_2_68, gg_3_5, at_29_13, at_29_14, at_29_15, Go_reti, at_29_16, Go_aload_0, at_29_17, fl_2_15, gg_2_1, sr_49, sf_49_1, sr_51, sn_51, sr_53, sf_53_1, sr_55, sn_55, at_29_20, at_29_21, fl_2_61, gg_3_7, at_29_24, at_29_25, at_29_26, Go_laload, at_29_27, Go_lstore_3, ab_put_long_3, at_29_28, Go_lload_3, at_29_29, Go_lconst, kl_0, at_29_30, Go_lcmp, jt_29_31, at_29_34, at_29_35, ldc2_2_71, at_29_38, jt_29_39, at_29_42, at_29_43, at_29_46, at_29_47, jt_29_48, at_29_51, at_29_52, fl_2_73, gg_3_6, at_29_55, at_29_56, at_29_57, Nat.reduceAdd, Nat.reduceMul, Nat.reduceLeDiff, Nat.reduceSub, decide_true, decide_false, Bool.toNat_true, Bool.toNat_false, not_true_eq_false, not_false_eq_true, ite_not, true_and, and_true, if_true, if_false, ↓reduceIte, Bool.or_true, Bool.true_or, Bool.or_false, pr_0 hp, pf_4 hp, pr_3 hp, pn_3 hp, e4, pf_5 hp, pr_4 hp, pn_4 hp, e5, pf_7 hp, pr_6 hp, pn_6 hp, e7, pf_6 hp, pr_5 hp, pn_5 hp, e6, mf_0 hm, mf_1 hm, mf_7 hm, mr_0 hm, mr_1 hm, mr_2 hm, mr_3 hm, mn_1 hm, mn_2 hm, mn_3 hm, c0, f4, f5, f6, lc_le, lc_eq, c1, c2, Int64.not_le]
        simp
      · simp (disch := first | omega | assumption | exact own_29 | exact rt_29 | exact mr_0 hm | exact q_lt1 (hb _ _) | exact bt_lt _ | fail) only [own_29, rt_29, ab_kl_n, ab_kl_i, ab_kl_r, ab_kl_l, at_29_0, Go_aload_1, at_29_1, Go_getf, fl_2_58, gg_3_4, sh_ref, sh_rf, at_29_4, Go_iload_2, at_29_5, Go_iaload, sh_ln, q_in, q_cl, jt_29_6, q_le, q_lt, q_eq, n_leT, n_leF, n_ltT, n_ltF, n_eqF, n_b0, at_29_9, at_29_10, fl_2_68, gg_3_5, at_29_13, at_29_14, at_29_15, Go_reti, at_29_16, Go_aload_0, at_29_17, fl_2_15, gg_2_1, sr_49, sf_49_1, sr_51, sn_51, sr_53, sf_53_1, sr_55, sn_55, at_29_20, at_29_21, fl_2_61, gg_3_7, at_29_24, at_29_25, at_29_26, Go_laload, at_29_27, Go_lstore_3, ab_put_long_3, at_29_28, Go_lload_3, at_29_29, Go_lconst, kl_0, at_29_30, Go_lcmp, jt_29_31, at_29_34, at_29_35, ldc2_2_71, at_29_38, jt_29_39, at_29_42, at_29_43, at_29_46, at_29_47, jt_29_48, at_29_51, at_29_52, fl_2_73, gg_3_6, at_29_55, at_29_56, at_29_57, Nat.reduceAdd, Nat.reduceMul, Nat.reduceLeDiff, Nat.reduceSub, decide_true, decide_false, Bool.toNat_true, Bool.toNat_false, not_true_eq_false, not_false_eq_true, ite_not, true_and, and_true, if_true, if_false, ↓reduceIte, Bool.or_true, Bool.true_or, Bool.or_false, pr_0 hp, pf_4 hp, pr_3 hp, pn_3 hp, e4, pf_5 hp, pr_4 hp, pn_4 hp, e5, pf_7 hp, pr_6 hp, pn_6 hp, e7, pf_6 hp, pr_5 hp, pn_5 hp, e6, mf_0 hm, mf_1 hm, mf_7 hm, mr_0 hm, mr_1 hm, mr_2 hm, mr_3 hm, mn_1 hm, mn_2 hm, mn_3 hm, c0, f4, f5, f6, lc_le, lc_eq, c1, c2, Int64.not_le]
        have c3 := Int64.not_le.mpr c1
        simp [c1, c2, c3]
    · have c3 := Int64.not_lt.mp c1
      simp (disch := first | omega | assumption | exact own_29 | exact rt_29 | exact mr_0 hm | exact q_lt1 (hb _ _) | exact bt_lt _ | fail) only [own_29, rt_29, ab_kl_n, ab_kl_i, ab_kl_r, ab_kl_l, at_29_0, Go_aload_1, at_29_1, Go_getf, fl_2_58, gg_3_4, sh_ref, sh_rf, at_29_4, Go_iload_2, at_29_5, Go_iaload, sh_ln, q_in, q_cl, jt_29_6, q_le, q_lt, q_eq, n_leT, n_leF, n_ltT, n_ltF, n_eqF, n_b0, at_29_9, at_29_10, fl_2_68, gg_3_5, at_29_13, at_29_14, at_29_15, Go_reti, at_29_16, Go_aload_0, at_29_17, fl_2_15, gg_2_1, sr_49, sf_49_1, sr_51, sn_51, sr_53, sf_53_1, sr_55, sn_55, at_29_20, at_29_21, fl_2_61, gg_3_7, at_29_24, at_29_25, at_29_26, Go_laload, at_29_27, Go_lstore_3, ab_put_long_3, at_29_28, Go_lload_3, at_29_29, Go_lconst, kl_0, at_29_30, Go_lcmp, jt_29_31, at_29_34, at_29_35, ldc2_2_71, at_29_38, jt_29_39, at_29_42, at_29_43, at_29_46, at_29_47, jt_29_48, at_29_51, at_29_52, fl_2_73, gg_3_6, at_29_55, at_29_56, at_29_57, Nat.reduceAdd, Nat.reduceMul, Nat.reduceLeDiff, Nat.reduceSub, decide_true, decide_false, Bool.toNat_true, Bool.toNat_false, not_true_eq_false, not_false_eq_true, ite_not, true_and, and_true, if_true, if_false, ↓reduceIte, Bool.or_true, Bool.true_or, Bool.or_false, pr_0 hp, pf_4 hp, pr_3 hp, pn_3 hp, e4, pf_5 hp, pr_4 hp, pn_4 hp, e5, pf_7 hp, pr_6 hp, pn_6 hp, e7, pf_6 hp, pr_5 hp, pn_5 hp, e6, mf_0 hm, mf_1 hm, mf_7 hm, mr_0 hm, mr_1 hm, mr_2 hm, mr_3 hm, mn_1 hm, mn_2 hm, mn_3 hm, c0, f4, f5, f6, lc_le, lc_eq, c3]
      simp [c1]
theorem x_compare (hm : isM o) (hN : A 0 1 ≤ 20) (hV : MV o I J s) {k m : Nat} (hw : MW o I A (some (k, m))) : Ex 33 [.ref o] (SH, I, J) Q = Q none (SH, (if ¬ s.1 k = NOT ∧ ¬ s.1 k = s.1 m then ab_up I o 6 (s.2.2 + nI 1) else I), J) := by
  have hm2 := isM_lt hm
  obtain ⟨v1, v2, v3⟩ := hV
  obtain ⟨w1, w2, w3, w4⟩ := hw
  have k1 := v1 k (by omega)
  have k2 := v1 m (by omega)
  rw [en_33, ← k1, ← k2]
  unfold NOT
  by_cases c1 : J (o + 2) k = lN 2000000000000
  · simp (disch := first | omega | assumption | exact own_33 | exact rt_33 | exact mr_0 hm | exact q_lt1 (hb _ _) | exact bt_lt _ | fail) only [own_33, rt_33, ab_kl_n, ab_kl_i, ab_kl_r, ab_kl_l, at_33_0, Go_aload_0, at_33_1, Go_getf, fl_2_15, gg_2_1, sh_ref, sh_rf, sr_49, sf_49_1, sr_51, sn_51, sr_53, sf_53_1, sr_55, sn_55, at_33_4, at_33_5, fl_2_26, gg_2_9, at_33_8, Go_laload, sh_ln, q_in, q_cl, at_33_9, ldc2_2_37, at_33_12, Go_lcmp, jt_33_13, q_le, q_lt, q_eq, n_leT, n_leF, n_ltT, n_ltF, n_eqF, n_b0, at_33_16, at_33_17, at_33_20, at_33_21, at_33_24, at_33_25, at_33_26, at_33_29, at_33_30, fl_2_22, gg_2_8, at_33_33, at_33_34, jt_33_35, at_33_38, at_33_39, Go_dup_int, Go_dup_ref, at_33_40, fl_2_34, gg_2_6, at_33_43, Go_iconst, kc_1, at_33_44, Go_iadd, q_add, Nat.zero_add, at_33_45, Go_putf, gp_2_6, sh_seti, at_33_48, Go_return, Nat.reduceAdd, Nat.reduceMul, Nat.reduceLeDiff, Nat.reduceSub, decide_true, decide_false, Bool.toNat_true, Bool.toNat_false, not_true_eq_false, not_false_eq_true, ite_not, true_and, and_true, if_true, if_false, ↓reduceIte, Bool.or_true, Bool.true_or, Bool.or_false, mf_0 hm, mf_1 hm, mf_7 hm, mr_0 hm, mr_1 hm, mr_2 hm, mr_3 hm, mn_1 hm, mn_2 hm, mn_3 hm, w1, w2, lc_eq, c1]
    simp
  · by_cases c2 : J (o + 2) k = J (o + 2) m
    · simp (disch := first | omega | assumption | exact own_33 | exact rt_33 | exact mr_0 hm | exact q_lt1 (hb _ _) | exact bt_lt _ | fail) only [own_33, rt_33, ab_kl_n, ab_kl_i, ab_kl_r, ab_kl_l, at_33_0, Go_aload_0, at_33_1, Go_getf, fl_2_15, gg_2_1, sh_ref, sh_rf, sr_49, sf_49_1, sr_51, sn_51, sr_53, sf_53_1, sr_55, sn_55, at_33_4, at_33_5, fl_2_26, gg_2_9, at_33_8, Go_laload, sh_ln, q_in, q_cl, at_33_9, ldc2_2_37, at_33_12, Go_lcmp, jt_33_13, q_le, q_lt, q_eq, n_leT, n_leF, n_ltT, n_ltF, n_eqF, n_b0, at_33_16, at_33_17, at_33_20, at_33_21, at_33_24, at_33_25, at_33_26, at_33_29, at_33_30, fl_2_22, gg_2_8, at_33_33, at_33_34, jt_33_35, at_33_38, at_33_39, Go_dup_int, Go_dup_ref, at_33_40, fl_2_34, gg_2_6, at_33_43, Go_iconst, kc_1, at_33_44, Go_iadd, q_add, Nat.zero_add, at_33_45, Go_putf, gp_2_6, sh_seti, at_33_48, Go_return, Nat.reduceAdd, Nat.reduceMul, Nat.reduceLeDiff, Nat.reduceSub, decide_true, decide_false, Bool.toNat_true, Bool.toNat_false, not_true_eq_false, not_false_eq_true, ite_not, true_and, and_true, if_true, if_false, ↓reduceIte, Bool.or_true, Bool.true_or, Bool.or_false, mf_0 hm, mf_1 hm, mf_7 hm, mr_0 hm, mr_1 hm, mr_2 hm, mr_3 hm, mn_1 hm, mn_2 hm, mn_3 hm, w1, w2, lc_eq, c1, c2]
      rw [c2] at c1
      simp [c1]
    · simp (disch := first | omega | assumption | exact own_33 | exact rt_33 | exact mr_0 hm | exact q_lt1 (hb _ _) | exact bt_lt _ | fail) only [own_33, rt_33, ab_kl_n, ab_kl_i, ab_kl_r, ab_kl_l, at_33_0, Go_aload_0, at_33_1, Go_getf, fl_2_15, gg_2_1, sh_ref, sh_rf, sr_49, sf_49_1, sr_51, sn_51, sr_53, sf_53_1, sr_55, sn_55, at_33_4, at_33_5, fl_2_26, gg_2_9, at_33_8, Go_laload, sh_ln, q_in, q_cl, at_33_9, ldc2_2_37, at_33_12, Go_lcmp, jt_33_13, q_le, q_lt, q_eq, n_leT, n_leF, n_ltT, n_ltF, n_eqF, n_b0, at_33_16, at_33_17, at_33_20, at_33_21, at_33_24, at_33_25, at_33_26, at_33_29, at_33_30, fl_2_22, gg_2_8, at_33_33, at_33_34, jt_33_35, at_33_38, at_33_39, Go_dup_int, Go_dup_ref, at_33_40, fl_2_34, gg_2_6, at_33_43, Go_iconst, kc_1, at_33_44, Go_iadd, q_add, Nat.zero_add, at_33_45, Go_putf, gp_2_6, sh_seti, at_33_48, Go_return, Nat.reduceAdd, Nat.reduceMul, Nat.reduceLeDiff, Nat.reduceSub, decide_true, decide_false, Bool.toNat_true, Bool.toNat_false, not_true_eq_false, not_false_eq_true, ite_not, true_and, and_true, if_true, if_false, ↓reduceIte, Bool.or_true, Bool.true_or, Bool.or_false, mf_0 hm, mf_1 hm, mf_7 hm, mr_0 hm, mr_1 hm, mr_2 hm, mr_3 hm, mn_1 hm, mn_2 hm, mn_3 hm, w1, w2, v3, lc_eq, c1, c2]
end RNC
