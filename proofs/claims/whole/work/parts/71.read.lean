/-! THE CALLS: read -/
def fc (sk : Option (Nat × Nat)) (l : Nat) (f : Int) : Nat := match sk with
  | none => 1
  | some (l', n) => if l' ≠ l then 3 else if 0 ≤ f ∧ f + 3 < n then 0 else 2
def rd (s : VS) (k l : Nat) (f : Int) : Nat → Nat → RU → Nat × RU × Nat
  | 0, r, ru => (r, ru, 0)
  | u + 1, r, ru => if fc (v_sh s k) l (f + 4 * r) = 0 then rd s k l f u (r + 1) (ruo (v_a s) (fun i => v_ce s k ((f + 4 * r).toNat + i))) else (r, ru, fc (v_sh s k) l (f + 4 * r))
def w_rt (s : VS) (ru : RU) (tn : Nat) : VS := (v_a s, v_im s, v_tp s, v_tl s, v_ft s, ru, v_sh s, v_ce s, tn)
abbrev okR (k l n : Int32) : Prop := (nI 0 ≤ k ∧ k < nI 4) ∧ (nI 0 ≤ l ∧ l < nI 3) ∧ (nI 0 ≤ n ∧ n < nI 21)
def rdA (s : VS) (k l f n : Int32) : Nat × RU × Nat := rd s k.toNatClampNeg l.toNatClampNeg f.toInt n.toNatClampNeg 0 (v_ru s)
def n_read (s : VS) (k l f n : Int32) : VS := if okR k l n then w_rt s (rdA s k l f n).2.1 (rdA s k l f n).2.2 else s
def o_read (s : VS) (k l f n : Int32) : Int32 := if okR k l n then nI (rdA s k l f n).1 else -1
section CRD
variable {I I' : Nat → Nat → Int32} {J J' : Nat → Nat → Int64} {Q : Option Value → ab_H → Prop} {s : VS}
theorem fc_le {sk : Option (Nat × Nat)} {l : Nat} {f : Int} : fc sk l f ≤ 3 := by
  unfold fc
  cases sk with
  | none => exact (by decide : (1 : Nat) ≤ 3)
  | some z =>
    obtain ⟨l', n⟩ := z
    show (if l' ≠ l then 3 else if 0 ≤ f ∧ f + 3 < n then 0 else 2) ≤ 3
    split
    · omega
    · split <;> omega
theorem x_faultOfFour {k l : Nat} (hk : k < 4) (hl : l < 3) (ok : OS s) (h : Cs (v_sh s) (v_ce s) I) (x : Int32) : Ex 89 [.ref 62, .int (nI k), .int (nI l), .int x] (SH, I, J) Q = Q (some (.int (nI (fc (v_sh s k) l x.toInt)))) (SH, I, J) := by
  have s1 := fun i Q => x_faultAt (J := J) (Q := Q) (k := k) hk ok h i
  obtain ⟨h1, h2⟩ := h k hk
  rw [en_89]
  unfold fc
  cases c : v_sh s k with
  | none =>
    rw [c] at s1
    have s1 : ∀ i Q, Ex 88 [.ref 62, .int (nI k), .int i] (SH, I, J) Q = Q (some (.int (nI 1))) (SH, I, J) := s1
    have := h1 c
    have m4 : ((-4 : Int32) < nI 0) = True := by decide
    simp (disch := first | omega | assumption | exact own_89 | exact rt_89 | exact sr_62 | exact q_lt1 (hb _ _) | exact bt_lt _ | fail) only [own_89, rt_89, ab_kl_n, ab_kl_i, ab_kl_r, ab_kl_l, at_89_0, Go_aload_0, at_89_1, Go_getf, fl_5_9, gg_5_0, sh_ref, sh_rf, sr_62, sf_62_0, sr_63, sn_63, at_89_4, Go_iload_1, at_89_5, Go_iaload, sh_ln, q_in, q_cl, jt_89_6, q_le, q_lt, q_eq, n_leT, n_leF, n_ltT, n_ltF, n_eqF, n_b0, at_89_9, at_89_10, fl_5_15, gg_5_2, sf_62_2, sr_64, sn_64, at_89_13, at_89_14, at_89_15, Go_iload_2, jt_89_16, at_89_19, Go_iconst, kc_3, at_89_20, Go_reti, at_89_21, at_89_22, at_89_23, Go_iload_3, at_89_24, cl_5_23, cat_n, cat_i, cat_r, cat_l, tl_i, tl_l, tl_n, sh_same, at_89_27, Go_istore_4, ab_put_int_4, at_89_29, Go_iload_4, jt_89_31, at_89_34, jt_89_36, at_89_39, at_89_40, at_89_41, at_89_42, kc_4, at_89_43, Go_iadd, q_add, Nat.zero_add, at_89_44, kc_1, at_89_45, Go_isub, q_sub, at_89_46, at_89_49, Nat.reduceAdd, Nat.reduceMul, Nat.reduceLeDiff, Nat.reduceSub, decide_true, decide_false, Bool.toNat_true, Bool.toNat_false, not_true_eq_false, not_false_eq_true, ite_not, true_and, and_true, if_true, if_false, ↓reduceIte, Bool.or_true, Bool.true_or, Bool.or_false, this, m4, s1]
  | some z =>
    obtain ⟨l', n⟩ := z
    obtain ⟨g1, g2, g3⟩ := h2 l' n c
    have hn := ok.2.2.2.1 k l' n c
    rw [c] at s1
    have s1 : ∀ i Q, Ex 88 [.ref 62, .int (nI k), .int i] (SH, I, J) Q = Q (some (.int (if nI 0 ≤ i ∧ i < nI n then nI 0 else nI 2))) (SH, I, J) := s1
    show _ = Q (some (.int (nI (if l' ≠ l then 3 else if 0 ≤ x.toInt ∧ x.toInt + 3 < n then 0 else 2)))) (SH, I, J)
    by_cases cl : l' = l
    · rw [if_neg (fun z => z cl)]
      rcases i_lt (x := x) (N := n) (by omega) with ⟨a, ha, rfl⟩ | hx
      · have P : nI 0 ≤ nI a ∧ nI a < nI n := ⟨nI_le (Nat.zero_le _) (by omega), nI_lt ha (by omega)⟩
        have s2 := s1 (nI a)
        rw [if_pos P] at s2
        have s3 := s1 (nI (a + 3))
        have ea : a + 4 - 1 = a + 3 := by omega
        rw [nI_toInt (by omega)]
        by_cases c3 : a + 3 < n
        · rw [if_pos ⟨nI_le (Nat.zero_le _) (by omega), nI_lt c3 (by omega)⟩] at s3
          rw [if_pos (by omega)]
          simp (disch := first | omega | assumption | exact own_89 | exact rt_89 | exact sr_62 | exact q_lt1 (hb _ _) | exact bt_lt _ | fail) only [own_89, rt_89, ab_kl_n, ab_kl_i, ab_kl_r, ab_kl_l, at_89_0, Go_aload_0, at_89_1, Go_getf, fl_5_9, gg_5_0, sh_ref, sh_rf, sr_62, sf_62_0, sr_63, sn_63, at_89_4, Go_iload_1, at_89_5, Go_iaload, sh_ln, q_in, q_cl, jt_89_6, q_le, q_lt, q_eq, n_leT, n_leF, n_ltT, n_ltF, n_eqF, n_b0, at_89_9, at_89_10, fl_5_15, gg_5_2, sf_62_2, sr_64, sn_64, at_89_13, at_89_14, at_89_15, Go_iload_2, jt_89_16, at_89_19, Go_iconst, kc_3, at_89_20, Go_reti, at_89_21, at_89_22, at_89_23, Go_iload_3, at_89_24, cl_5_23, cat_n, cat_i, cat_r, cat_l, tl_i, tl_l, tl_n, sh_same, at_89_27, Go_istore_4, ab_put_int_4, at_89_29, Go_iload_4, jt_89_31, at_89_34, jt_89_36, at_89_39, at_89_40, at_89_41, at_89_42, kc_4, at_89_43, Go_iadd, q_add, Nat.zero_add, at_89_44, kc_1, at_89_45, Go_isub, q_sub, at_89_46, at_89_49, Nat.reduceAdd, Nat.reduceMul, Nat.reduceLeDiff, Nat.reduceSub, decide_true, decide_false, Bool.toNat_true, Bool.toNat_false, not_true_eq_false, not_false_eq_true, ite_not, true_and, and_true, if_true, if_false, ↓reduceIte, Bool.or_true, Bool.true_or, Bool.or_false, g1, g2, cl, s2, s3, ea]
        · rw [if_neg (fun z => by have := z.2; rw [Int32.lt_iff_toInt_lt, nI_toInt (by omega), nI_toInt (by omega)] at this; omega)] at s3
          rw [if_neg (by omega)]
          simp (disch := first | omega | assumption | exact own_89 | exact rt_89 | exact sr_62 | exact q_lt1 (hb _ _) | exact bt_lt _ | fail) only [own_89, rt_89, ab_kl_n, ab_kl_i, ab_kl_r, ab_kl_l, at_89_0, Go_aload_0, at_89_1, Go_getf, fl_5_9, gg_5_0, sh_ref, sh_rf, sr_62, sf_62_0, sr_63, sn_63, at_89_4, Go_iload_1, at_89_5, Go_iaload, sh_ln, q_in, q_cl, jt_89_6, q_le, q_lt, q_eq, n_leT, n_leF, n_ltT, n_ltF, n_eqF, n_b0, at_89_9, at_89_10, fl_5_15, gg_5_2, sf_62_2, sr_64, sn_64, at_89_13, at_89_14, at_89_15, Go_iload_2, jt_89_16, at_89_19, Go_iconst, kc_3, at_89_20, Go_reti, at_89_21, at_89_22, at_89_23, Go_iload_3, at_89_24, cl_5_23, cat_n, cat_i, cat_r, cat_l, tl_i, tl_l, tl_n, sh_same, at_89_27, Go_istore_4, ab_put_int_4, at_89_29, Go_iload_4, jt_89_31, at_89_34, jt_89_36, at_89_39, at_89_40, at_89_41, at_89_42, kc_4, at_89_43, Go_iadd, q_add, Nat.zero_add, at_89_44, kc_1, at_89_45, Go_isub, q_sub, at_89_46, at_89_49, Nat.reduceAdd, Nat.reduceMul, Nat.reduceLeDiff, Nat.reduceSub, decide_true, decide_false, Bool.toNat_true, Bool.toNat_false, not_true_eq_false, not_false_eq_true, ite_not, true_and, and_true, if_true, if_false, ↓reduceIte, Bool.or_true, Bool.true_or, Bool.or_false, g1, g2, cl, s2, s3, ea]
      · have s2 := s1 x
        rw [if_neg hx] at s2
        have hx2 : ¬ (0 ≤ x.toInt ∧ x.toInt < n) := by
          rw [Int32.le_iff_toInt_le, Int32.lt_iff_toInt_lt, nI_toInt (by omega), nI_toInt (by omega)] at hx
          omega
        rw [if_neg (by omega)]
        simp (disch := first | omega | assumption | exact own_89 | exact rt_89 | exact sr_62 | exact q_lt1 (hb _ _) | exact bt_lt _ | fail) only [own_89, rt_89, ab_kl_n, ab_kl_i, ab_kl_r, ab_kl_l, at_89_0, Go_aload_0, at_89_1, Go_getf, fl_5_9, gg_5_0, sh_ref, sh_rf, sr_62, sf_62_0, sr_63, sn_63, at_89_4, Go_iload_1, at_89_5, Go_iaload, sh_ln, q_in, q_cl, jt_89_6, q_le, q_lt, q_eq, n_leT, n_leF, n_ltT, n_ltF, n_eqF, n_b0, at_89_9, at_89_10, fl_5_15, gg_5_2, sf_62_2, sr_64, sn_64, at_89_13, at_89_14, at_89_15, Go_iload_2, jt_89_16, at_89_19, Go_iconst, kc_3, at_89_20, Go_reti, at_89_21, at_89_22, at_89_23, Go_iload_3, at_89_24, cl_5_23, cat_n, cat_i, cat_r, cat_l, tl_i, tl_l, tl_n, sh_same, at_89_27, Go_istore_4, ab_put_int_4, at_89_29, Go_iload_4, jt_89_31, at_89_34, jt_89_36, at_89_39, at_89_40, at_89_41, at_89_42, kc_4, at_89_43, Go_iadd, q_add, Nat.zero_add, at_89_44, kc_1, at_89_45, Go_isub, q_sub, at_89_46, at_89_49, Nat.reduceAdd, Nat.reduceMul, Nat.reduceLeDiff, Nat.reduceSub, decide_true, decide_false, Bool.toNat_true, Bool.toNat_false, not_true_eq_false, not_false_eq_true, ite_not, true_and, and_true, if_true, if_false, ↓reduceIte, Bool.or_true, Bool.true_or, Bool.or_false, g1, g2, cl, s2]
    · rw [if_pos cl]
      simp (disch := first | omega | assumption | exact own_89 | exact rt_89 | exact sr_62 | exact q_lt1 (hb _ _) | exact bt_lt _ | fail) only [own_89, rt_89, ab_kl_n, ab_kl_i, ab_kl_r, ab_kl_l, at_89_0, Go_aload_0, at_89_1, Go_getf, fl_5_9, gg_5_0, sh_ref, sh_rf, sr_62, sf_62_0, sr_63, sn_63, at_89_4, Go_iload_1, at_89_5, Go_iaload, sh_ln, q_in, q_cl, jt_89_6, q_le, q_lt, q_eq, n_leT, n_leF, n_ltT, n_ltF, n_eqF, n_b0, at_89_9, at_89_10, fl_5_15, gg_5_2, sf_62_2, sr_64, sn_64, at_89_13, at_89_14, at_89_15, Go_iload_2, jt_89_16, at_89_19, Go_iconst, kc_3, at_89_20, Go_reti, at_89_21, at_89_22, at_89_23, Go_iload_3, at_89_24, cl_5_23, cat_n, cat_i, cat_r, cat_l, tl_i, tl_l, tl_n, sh_same, at_89_27, Go_istore_4, ab_put_int_4, at_89_29, Go_iload_4, jt_89_31, at_89_34, jt_89_36, at_89_39, at_89_40, at_89_41, at_89_42, kc_4, at_89_43, Go_iadd, q_add, Nat.zero_add, at_89_44, kc_1, at_89_45, Go_isub, q_sub, at_89_46, at_89_49, Nat.reduceAdd, Nat.reduceMul, Nat.reduceLeDiff, Nat.reduceSub, decide_true, decide_false, Bool.toNat_true, Bool.toNat_false, not_true_eq_false, not_false_eq_true, ite_not, true_and, and_true, if_true, if_false, ↓reduceIte, Bool.or_true, Bool.true_or, Bool.or_false, g1, g2, cl]
theorem x_cellAt {k a n l : Nat} (hk : k < 4) (ok : OS s) (h : Cs (v_sh s) (v_ce s) I) (c : v_sh s k = some (l, n)) (ha : a < n) : Ex 91 [.ref 62, .int (nI k), .int (nI a)] (SH, I, J) Q = Q (some (.int (v_ce s k a))) (SH, I, J) := by
  have hn := ok.2.2.2.1 k l n c
  have s1 := fun Q => x_faultAt (J := J) (Q := Q) (k := k) hk ok h (nI a)
  rw [c] at s1
  have s1 : ∀ Q, Ex 88 [.ref 62, .int (nI k), .int (nI a)] (SH, I, J) Q = Q (some (.int (if nI 0 ≤ nI a ∧ nI a < nI n then nI 0 else nI 2))) (SH, I, J) := s1
  have P : nI 0 ≤ nI a ∧ nI a < nI n := ⟨nI_le (Nat.zero_le _) (by omega), nI_lt ha (by omega)⟩
  rw [if_pos P] at s1
  have g3 := ((h k hk).2 l n c).2.2 a (by omega)
  rw [en_91]
  simp (disch := first | omega | assumption | exact own_91 | exact rt_91 | exact sr_62 | exact q_lt1 (hb _ _) | exact bt_lt _ | fail) only [own_91, rt_91, ab_kl_n, ab_kl_i, ab_kl_r, ab_kl_l, at_91_0, Go_aload_0, at_91_1, Go_iload_1, at_91_2, Go_iload_2, at_91_3, cl_5_23, cat_n, cat_i, cat_r, cat_l, tl_i, tl_l, tl_n, sh_same, jt_91_6, q_le, q_lt, q_eq, n_leT, n_leF, n_ltT, n_ltF, n_eqF, n_b0, at_91_9, at_91_10, Go_getf, fl_5_20, gg_5_3, sh_ref, sh_rf, sr_62, sf_62_3, sr_65, sn_65, at_91_13, at_91_14, Go_aaload, sh_ln, q_in, q_cl, at_91_15, at_91_16, Go_iaload, jt_91_17, at_91_20, Go_iconst, kc_0, at_91_21, Go_reti, Nat.reduceAdd, Nat.reduceMul, Nat.reduceLeDiff, Nat.reduceSub, decide_true, decide_false, Bool.toNat_true, Bool.toNat_false, not_true_eq_false, not_false_eq_true, ite_not, true_and, and_true, if_true, if_false, ↓reduceIte, Bool.or_true, Bool.true_or, Bool.or_false, s1, crow, crow_r, crow_n, g3]
theorem x_giveCells {k a n l : Nat} (hk : k < 4) (ok : OS s) (h : Cs (v_sh s) (v_ce s) I) (c : v_sh s k = some (l, n)) (ha : a + 3 < n) (K : ∀ I', (∀ o i, o ≠ 50 → I' o i = I o i) → (∀ i, i < 4 → I' 50 i = v_ce s k (a + i)) → Q none (SH, I', J)) : Ex 128 [.ref 0, .int (nI k), .int (nI a)] (SH, I, J) Q := by
  have hn := ok.2.2.2.1 k l n c
  rw [en_128]
  simp (disch := first | omega | assumption | exact own_128 | exact rt_128 | exact sr_62 | exact q_lt1 (hb _ _) | exact bt_lt _ | fail) only [own_128, rt_128, ab_kl_n, ab_kl_i, ab_kl_r, ab_kl_l, at_128_0, Go_iconst, kc_0, at_128_1, Go_istore_3, ab_put_int_3, Go_iload_3, at_128_3, kc_4, jt_128_4, q_le, q_lt, q_eq, n_leT, n_leF, n_ltT, n_ltF, n_eqF, n_b0, at_128_7, Go_aload_0, at_128_8, Go_getf, fl_7_19, gg_7_1, sh_ref, sh_rf, sr_0, sf_0_1, sr_49, at_128_11, fl_7_293, gg_2_0, sf_49_0, sr_50, sn_50, sr_53, sf_53_0, sr_54, sn_54, at_128_14, at_128_15, at_128_16, fl_7_43, gg_7_5, sf_0_5, sr_62, at_128_19, Go_iload_1, at_128_20, Go_iload_2, at_128_21, at_128_22, Go_iadd, q_add, Nat.zero_add, at_128_23, cl_7_296, cat_n, cat_i, cat_r, cat_l, tl_i, tl_l, tl_n, sh_same, at_128_26, Go_iastore, sh_ln, q_in, q_cl, sh_seti, at_128_27, Go_iinc_3, kc_1, jt_128_30, at_128_33, Go_return, Nat.reduceAdd, Nat.reduceMul, Nat.reduceLeDiff, Nat.reduceSub, decide_true, decide_false, Bool.toNat_true, Bool.toNat_false, not_true_eq_false, not_false_eq_true, ite_not, true_and, and_true, if_true, if_false, ↓reduceIte, Bool.or_true, Bool.true_or, Bool.or_false]
  refine lp_wp (a := 0) (N := 4) (Nat.zero_le _) (fun i => ∀ I1 : Nat → Nat → Int32, (∀ o i, o ≠ 50 → I1 o i = I o i) → (∀ j, j < i → I1 50 j = v_ce s k (a + j)) → Go (ab_at 128 2) 128 2 [some (.ref 0), some (.int (nI (k))), some (.int (nI (a))), some (.int (nI (i)))] []  (SH, I1, J) Q) (fun I1 f1 f2 => ?_) (fun i _ hi ih I1 f1 f2 => ?_) I (fun _ _ _ => rfl) (fun j hj => absurd hj (Nat.not_lt_zero j))
  · rw [at_128_2]
    simp (disch := first | omega | assumption | exact own_128 | exact rt_128 | exact sr_62 | exact q_lt1 (hb _ _) | exact bt_lt _ | fail) only [own_128, rt_128, ab_kl_n, ab_kl_i, ab_kl_r, ab_kl_l, at_128_0, Go_iconst, kc_0, at_128_1, Go_istore_3, ab_put_int_3, Go_iload_3, at_128_3, kc_4, jt_128_4, q_le, q_lt, q_eq, n_leT, n_leF, n_ltT, n_ltF, n_eqF, n_b0, at_128_7, Go_aload_0, at_128_8, Go_getf, fl_7_19, gg_7_1, sh_ref, sh_rf, sr_0, sf_0_1, sr_49, at_128_11, fl_7_293, gg_2_0, sf_49_0, sr_50, sn_50, sr_53, sf_53_0, sr_54, sn_54, at_128_14, at_128_15, at_128_16, fl_7_43, gg_7_5, sf_0_5, sr_62, at_128_19, Go_iload_1, at_128_20, Go_iload_2, at_128_21, at_128_22, Go_iadd, q_add, Nat.zero_add, at_128_23, cl_7_296, cat_n, cat_i, cat_r, cat_l, tl_i, tl_l, tl_n, sh_same, at_128_26, Go_iastore, sh_ln, q_in, q_cl, sh_seti, at_128_27, Go_iinc_3, kc_1, jt_128_30, at_128_33, Go_return, Nat.reduceAdd, Nat.reduceMul, Nat.reduceLeDiff, Nat.reduceSub, decide_true, decide_false, Bool.toNat_true, Bool.toNat_false, not_true_eq_false, not_false_eq_true, ite_not, true_and, and_true, if_true, if_false, ↓reduceIte, Bool.or_true, Bool.true_or, Bool.or_false]
    exact K I1 f1 f2
  · have s1 := fun Q => x_cellAt (J := J) (Q := Q) (I := I1) (k := k) (a := a + i) hk ok (Cs_eq (fun o k _ => f1 o k (by omega)) h) c (by omega)
    rw [at_128_2]
    simp (disch := first | omega | assumption | exact own_128 | exact rt_128 | exact sr_62 | exact q_lt1 (hb _ _) | exact bt_lt _ | fail) only [own_128, rt_128, ab_kl_n, ab_kl_i, ab_kl_r, ab_kl_l, at_128_0, Go_iconst, kc_0, at_128_1, Go_istore_3, ab_put_int_3, Go_iload_3, at_128_3, kc_4, jt_128_4, q_le, q_lt, q_eq, n_leT, n_leF, n_ltT, n_ltF, n_eqF, n_b0, at_128_7, Go_aload_0, at_128_8, Go_getf, fl_7_19, gg_7_1, sh_ref, sh_rf, sr_0, sf_0_1, sr_49, at_128_11, fl_7_293, gg_2_0, sf_49_0, sr_50, sn_50, sr_53, sf_53_0, sr_54, sn_54, at_128_14, at_128_15, at_128_16, fl_7_43, gg_7_5, sf_0_5, sr_62, at_128_19, Go_iload_1, at_128_20, Go_iload_2, at_128_21, at_128_22, Go_iadd, q_add, Nat.zero_add, at_128_23, cl_7_296, cat_n, cat_i, cat_r, cat_l, tl_i, tl_l, tl_n, sh_same, at_128_26, Go_iastore, sh_ln, q_in, q_cl, sh_seti, at_128_27, Go_iinc_3, kc_1, jt_128_30, at_128_33, Go_return, Nat.reduceAdd, Nat.reduceMul, Nat.reduceLeDiff, Nat.reduceSub, decide_true, decide_false, Bool.toNat_true, Bool.toNat_false, not_true_eq_false, not_false_eq_true, ite_not, true_and, and_true, if_true, if_false, ↓reduceIte, Bool.or_true, Bool.true_or, Bool.or_false, s1]
    refine ih _ (fun o j ho => by rw [fr_seti ho]; exact f1 o j ho) (fun j hj => ?_)
    by_cases z : j = i
    · subst z; exact fr_sets
    · rw [fr_setk z]; exact f2 j (by omega)
theorem C_readL (ok : OS s) {k l n : Nat} (hk : k < 4) (hl : l < 3) (hn : n ≤ 20) (f : Int32) (I0 : Nat → Nat → Int32) (J0 : Nat → Nat → Int64) : ∀ u r ru I J, r + u = n → (r = 0 ∨ ∃ a, f = nI a ∧ a + 4 * r ≤ 43) → SC (w_rt s ru 0) I J → Fr (fun o => 199 ≤ o) I0 I J0 J → (∀ I' J', SC (w_rt s (rd s k l f.toInt u r ru).2.1 (rd s k l f.toInt u r ru).2.2) I' J' → Fr (fun o => 199 ≤ o) I0 I' J0 J' → Q (some (.int (nI (rd s k l f.toInt u r ru).1))) (SH, I', J')) → Go (ab_at 124 43) 124 43 [some (.ref 0), some (.int (nI (k))), some (.int (nI (l))), some (.int (f)), some (.int (nI (n))), some (.int (nI (r)))] []  (SH, I, J) Q := by
  intro u
  induction u with
  | zero =>
    intro r ru I J hr hf h fr K
    have : r = n := by omega
    subst this
    have K0 := K I J h fr
    rw [at_124_43]
    simp (disch := first | omega | assumption | exact own_124 | exact rt_124 | exact sr_49 | exact sr_53 | exact sr_62 | exact sr_0 | exact q_lt1 (hb _ _) | exact bt_lt _ | fail) only [own_124, rt_124, ab_kl_n, ab_kl_i, ab_kl_r, ab_kl_l, at_124_0, Go_iload_1, jt_124_1, q_le, q_lt, q_eq, n_leT, n_leF, n_ltT, n_ltF, n_eqF, n_b0, at_124_4, at_124_5, Go_iconst, kc_4, jt_124_6, at_124_9, Go_iload_2, jt_124_10, at_124_13, at_124_14, kc_3, jt_124_15, at_124_18, Go_iload_4, jt_124_20, at_124_23, at_124_25, Go_bipush, kb_20, jt_124_27, at_124_30, kc_m1, at_124_31, Go_reti, at_124_32, Go_aload_0, at_124_33, Go_getf, fl_7_43, gg_7_5, sh_ref, sh_rf, sr_0, sf_0_5, sr_62, at_124_36, kc_0, at_124_37, Go_putf, fl_7_275, gp_5_1, sh_seti, at_124_40, at_124_41, Go_istore_5, ab_put_int_5, Go_iload_5, at_124_45, jt_124_47, at_124_50, at_124_51, at_124_54, at_124_55, at_124_58, at_124_59, at_124_60, Go_iload_3, at_124_61, at_124_62, at_124_64, Go_imul, q_mul, at_124_65, Go_iadd, q_add, Nat.zero_add, at_124_66, cl_7_278, cat_n, cat_i, cat_r, cat_l, tl_i, tl_l, tl_n, sh_same, at_124_69, at_124_72, at_124_73, at_124_76, gg_5_1, jt_124_79, at_124_82, at_124_84, at_124_85, at_124_86, at_124_87, at_124_88, at_124_89, at_124_91, at_124_92, at_124_93, cl_7_282, at_124_96, at_124_97, fl_7_19, gg_7_1, sf_0_1, sr_49, at_124_100, at_124_101, fl_7_62, gg_7_9, sf_0_9, sr_73, at_124_104, cl_7_183, at_124_107, Go_pop2, at_124_108, Go_iinc_5, kc_1, jt_124_111, at_124_114, at_124_116, Nat.reduceAdd, Nat.reduceMul, Nat.reduceLeDiff, Nat.reduceSub, decide_true, decide_false, Bool.toNat_true, Bool.toNat_false, not_true_eq_false, not_false_eq_true, ite_not, true_and, and_true, if_true, if_false, ↓reduceIte, Bool.or_true, Bool.true_or, Bool.or_false]
    exact K0
  | succ u ih =>
    intro r ru I J hr hf h fr K
    have ok' : OS (w_rt s ru 0) := ⟨ok.1, ok.2.1, ok.2.2.1, ok.2.2.2.1, (by decide : (0 : Nat) < 1000)⟩
    have hx : ∃ x : Int32, f + nI (4 * r) = x ∧ x.toInt = f.toInt + 4 * (r : Int) := by
      refine ⟨_, rfl, ?_⟩
      rcases hf with rfl | ⟨a, rfl, ha⟩
      · rw [show f + nI (4 * 0) = f from Int32.add_zero f]
        omega
      · rw [q_add, nI_toInt (by omega), nI_toInt (by omega)]
        omega
    obtain ⟨x, hx1, hx2⟩ := hx
    have s1 := fun Q => x_faultOfFour (J := J) (Q := Q) hk hl ok' h.2.2.2.2.2.1 x
    rw [hx2] at s1
    have s1 : ∀ Q, Ex 89 [.ref 62, .int (nI k), .int (nI l), .int x] (SH, I, J) Q = Q (some (.int (nI (fc (v_sh s k) l (f.toInt + 4 * (r : Int)))))) (SH, I, J) := s1
    have fl := @fc_le (v_sh s k) l (f.toInt + 4 * (r : Int))
    unfold rd at K
    rw [at_124_43]
    obtain ⟨h1, h2, h3, h4, h5, h6, h7⟩ := h
    by_cases c : fc (v_sh s k) l (f.toInt + 4 * (r : Int)) = 0
    · rw [if_pos c] at K
      rw [c] at s1
      have e1 : ∀ y, ab_up I 62 1 y 62 1 = y := fun y => fr_sets
      simp (disch := first | omega | assumption | exact own_124 | exact rt_124 | exact sr_49 | exact sr_53 | exact sr_62 | exact sr_0 | exact q_lt1 (hb _ _) | exact bt_lt _ | fail) only [own_124, rt_124, ab_kl_n, ab_kl_i, ab_kl_r, ab_kl_l, at_124_0, Go_iload_1, jt_124_1, q_le, q_lt, q_eq, n_leT, n_leF, n_ltT, n_ltF, n_eqF, n_b0, at_124_4, at_124_5, Go_iconst, kc_4, jt_124_6, at_124_9, Go_iload_2, jt_124_10, at_124_13, at_124_14, kc_3, jt_124_15, at_124_18, Go_iload_4, jt_124_20, at_124_23, at_124_25, Go_bipush, kb_20, jt_124_27, at_124_30, kc_m1, at_124_31, Go_reti, at_124_32, Go_aload_0, at_124_33, Go_getf, fl_7_43, gg_7_5, sh_ref, sh_rf, sr_0, sf_0_5, sr_62, at_124_36, kc_0, at_124_37, Go_putf, fl_7_275, gp_5_1, sh_seti, at_124_40, at_124_41, Go_istore_5, ab_put_int_5, Go_iload_5, at_124_45, jt_124_47, at_124_50, at_124_51, at_124_54, at_124_55, at_124_58, at_124_59, at_124_60, Go_iload_3, at_124_61, at_124_62, at_124_64, Go_imul, q_mul, at_124_65, Go_iadd, q_add, Nat.zero_add, at_124_66, cl_7_278, cat_n, cat_i, cat_r, cat_l, tl_i, tl_l, tl_n, sh_same, at_124_69, at_124_72, at_124_73, at_124_76, gg_5_1, jt_124_79, at_124_82, at_124_84, at_124_85, at_124_86, at_124_87, at_124_88, at_124_89, at_124_91, at_124_92, at_124_93, cl_7_282, at_124_96, at_124_97, fl_7_19, gg_7_1, sf_0_1, sr_49, at_124_100, at_124_101, fl_7_62, gg_7_9, sf_0_9, sr_73, at_124_104, cl_7_183, at_124_107, Go_pop2, at_124_108, Go_iinc_5, kc_1, jt_124_111, at_124_114, at_124_116, Nat.reduceAdd, Nat.reduceMul, Nat.reduceLeDiff, Nat.reduceSub, decide_true, decide_false, Bool.toNat_true, Bool.toNat_false, not_true_eq_false, not_false_eq_true, ite_not, true_and, and_true, if_true, if_false, ↓reduceIte, Bool.or_true, Bool.true_or, Bool.or_false, hx1, s1, e1]
      have c0 := c
      unfold fc at c
      cases cs : v_sh s k with
      | none => rw [cs] at c; exact absurd c (by decide : ¬ (1 : Nat) = 0)
      | some z =>
        obtain ⟨l', m⟩ := z
        rw [cs] at c
        have c : (if l' ≠ l then 3 else if 0 ≤ f.toInt + 4 * (r : Int) ∧ f.toInt + 4 * (r : Int) + 3 < m then 0 else 2) = 0 := c
        have hm := ok.2.2.2.1 k l' m cs
        have cl : ¬ l' ≠ l := fun z => by rw [if_pos z] at c; omega
        rw [if_neg cl] at c
        have cr : 0 ≤ f.toInt + 4 * (r : Int) ∧ f.toInt + 4 * (r : Int) + 3 < m := Classical.byContradiction fun z => by rw [if_neg z] at c; omega
        have hxa : x = nI (f.toInt + 4 * (r : Int)).toNat := Int32.toInt_inj.mp (by rw [nI_toInt (by omega), hx2]; omega)
        have hfa : f = nI f.toInt.toNat := by
          rcases hf with rfl | ⟨a, rfl, ha⟩
          · exact Int32.toInt_inj.mp (by rw [nI_toInt (by omega)]; omega)
          · rw [nI_toInt (by omega)]; rfl
        have hfm : f.toInt + 4 * (r : Int) ≤ 39 := by omega
        have hf0 : 0 ≤ f.toInt := by
          rcases hf with rfl | ⟨a, rfl, ha⟩
          · omega
          · rw [nI_toInt (by omega)]; omega
        rw [hxa]
        refine x_giveCells (s := s) hk ok (Cs_eq (fun o k _ => fr_seti (by omega)) h6) cs (by omega) (fun I1 f1 f2 => ?_)
        simp (disch := first | omega | assumption | exact own_124 | exact rt_124 | exact sr_49 | exact sr_53 | exact sr_62 | exact sr_0 | exact q_lt1 (hb _ _) | exact bt_lt _ | fail) only [own_124, rt_124, ab_kl_n, ab_kl_i, ab_kl_r, ab_kl_l, at_124_0, Go_iload_1, jt_124_1, q_le, q_lt, q_eq, n_leT, n_leF, n_ltT, n_ltF, n_eqF, n_b0, at_124_4, at_124_5, Go_iconst, kc_4, jt_124_6, at_124_9, Go_iload_2, jt_124_10, at_124_13, at_124_14, kc_3, jt_124_15, at_124_18, Go_iload_4, jt_124_20, at_124_23, at_124_25, Go_bipush, kb_20, jt_124_27, at_124_30, kc_m1, at_124_31, Go_reti, at_124_32, Go_aload_0, at_124_33, Go_getf, fl_7_43, gg_7_5, sh_ref, sh_rf, sr_0, sf_0_5, sr_62, at_124_36, kc_0, at_124_37, Go_putf, fl_7_275, gp_5_1, sh_seti, at_124_40, at_124_41, Go_istore_5, ab_put_int_5, Go_iload_5, at_124_45, jt_124_47, at_124_50, at_124_51, at_124_54, at_124_55, at_124_58, at_124_59, at_124_60, Go_iload_3, at_124_61, at_124_62, at_124_64, Go_imul, q_mul, at_124_65, Go_iadd, q_add, Nat.zero_add, at_124_66, cl_7_278, cat_n, cat_i, cat_r, cat_l, tl_i, tl_l, tl_n, sh_same, at_124_69, at_124_72, at_124_73, at_124_76, gg_5_1, jt_124_79, at_124_82, at_124_84, at_124_85, at_124_86, at_124_87, at_124_88, at_124_89, at_124_91, at_124_92, at_124_93, cl_7_282, at_124_96, at_124_97, fl_7_19, gg_7_1, sf_0_1, sr_49, at_124_100, at_124_101, fl_7_62, gg_7_9, sf_0_9, sr_73, at_124_104, cl_7_183, at_124_107, Go_pop2, at_124_108, Go_iinc_5, kc_1, jt_124_111, at_124_114, at_124_116, Nat.reduceAdd, Nat.reduceMul, Nat.reduceLeDiff, Nat.reduceSub, decide_true, decide_false, Bool.toNat_true, Bool.toNat_false, not_true_eq_false, not_false_eq_true, ite_not, true_and, and_true, if_true, if_false, ↓reduceIte, Bool.or_true, Bool.true_or, Bool.or_false]
        have g : ∀ o i, o ≠ 50 → ¬ (o = 62 ∧ i = 1) → I1 o i = I o i := fun o i z1 z2 => by
          rw [f1 o i z1]
          unfold ab_up
          rw [if_neg z2]
        refine C_go (s := w_rt s ru 0) (ar := fun i => v_ce s k ((f.toInt + 4 * (r : Int)).toNat + i)) ok' ⟨Ca_eq ok.1 (fun o k _ _ => g o k (by omega) (by omega)) h1, Ci_eq ok.2.1 (fun o k _ => g o k (by omega) (by omega)) h2, Ct_eq (fun o k _ => g o k (by omega) (by omega)) h3, (g _ _ (by omega) (by omega)).trans h4, Cr_eq (fun k _ => g _ k (by omega) (by omega)) (fun _ => rfl) h5, Cs_eq (fun o k _ => g o k (by omega) (by omega)) h6, by rw [f1 _ _ (by omega)]; exact fr_sets⟩ (fun i hi => f2 i hi) (fun I2 J2 k1 k2 k3 => ?_)
        simp (disch := first | omega | assumption | exact own_124 | exact rt_124 | exact sr_49 | exact sr_53 | exact sr_62 | exact sr_0 | exact q_lt1 (hb _ _) | exact bt_lt _ | fail) only [own_124, rt_124, ab_kl_n, ab_kl_i, ab_kl_r, ab_kl_l, at_124_0, Go_iload_1, jt_124_1, q_le, q_lt, q_eq, n_leT, n_leF, n_ltT, n_ltF, n_eqF, n_b0, at_124_4, at_124_5, Go_iconst, kc_4, jt_124_6, at_124_9, Go_iload_2, jt_124_10, at_124_13, at_124_14, kc_3, jt_124_15, at_124_18, Go_iload_4, jt_124_20, at_124_23, at_124_25, Go_bipush, kb_20, jt_124_27, at_124_30, kc_m1, at_124_31, Go_reti, at_124_32, Go_aload_0, at_124_33, Go_getf, fl_7_43, gg_7_5, sh_ref, sh_rf, sr_0, sf_0_5, sr_62, at_124_36, kc_0, at_124_37, Go_putf, fl_7_275, gp_5_1, sh_seti, at_124_40, at_124_41, Go_istore_5, ab_put_int_5, Go_iload_5, at_124_45, jt_124_47, at_124_50, at_124_51, at_124_54, at_124_55, at_124_58, at_124_59, at_124_60, Go_iload_3, at_124_61, at_124_62, at_124_64, Go_imul, q_mul, at_124_65, Go_iadd, q_add, Nat.zero_add, at_124_66, cl_7_278, cat_n, cat_i, cat_r, cat_l, tl_i, tl_l, tl_n, sh_same, at_124_69, at_124_72, at_124_73, at_124_76, gg_5_1, jt_124_79, at_124_82, at_124_84, at_124_85, at_124_86, at_124_87, at_124_88, at_124_89, at_124_91, at_124_92, at_124_93, cl_7_282, at_124_96, at_124_97, fl_7_19, gg_7_1, sf_0_1, sr_49, at_124_100, at_124_101, fl_7_62, gg_7_9, sf_0_9, sr_73, at_124_104, cl_7_183, at_124_107, Go_pop2, at_124_108, Go_iinc_5, kc_1, jt_124_111, at_124_114, at_124_116, Nat.reduceAdd, Nat.reduceMul, Nat.reduceLeDiff, Nat.reduceSub, decide_true, decide_false, Bool.toNat_true, Bool.toNat_false, not_true_eq_false, not_false_eq_true, ite_not, true_and, and_true, if_true, if_false, ↓reduceIte, Bool.or_true, Bool.true_or, Bool.or_false]
        exact ih (r + 1) _ I2 J2 (by omega) (Or.inr ⟨_, hfa, by omega⟩) k1 ⟨fun o i ho => by rw [k2 o i (by omega), g o i (by omega) (by omega)]; exact fr.1 o i ho, fun o i ho => by rw [k3 o i (by omega) (by omega)]; exact fr.2 o i ho⟩ K
    · rw [if_neg c] at K
      have e1 : ∀ y, ab_up I 62 1 y 62 1 = y := fun y => fr_sets
      simp (disch := first | omega | assumption | exact own_124 | exact rt_124 | exact sr_49 | exact sr_53 | exact sr_62 | exact sr_0 | exact q_lt1 (hb _ _) | exact bt_lt _ | fail) only [own_124, rt_124, ab_kl_n, ab_kl_i, ab_kl_r, ab_kl_l, at_124_0, Go_iload_1, jt_124_1, q_le, q_lt, q_eq, n_leT, n_leF, n_ltT, n_ltF, n_eqF, n_b0, at_124_4, at_124_5, Go_iconst, kc_4, jt_124_6, at_124_9, Go_iload_2, jt_124_10, at_124_13, at_124_14, kc_3, jt_124_15, at_124_18, Go_iload_4, jt_124_20, at_124_23, at_124_25, Go_bipush, kb_20, jt_124_27, at_124_30, kc_m1, at_124_31, Go_reti, at_124_32, Go_aload_0, at_124_33, Go_getf, fl_7_43, gg_7_5, sh_ref, sh_rf, sr_0, sf_0_5, sr_62, at_124_36, kc_0, at_124_37, Go_putf, fl_7_275, gp_5_1, sh_seti, at_124_40, at_124_41, Go_istore_5, ab_put_int_5, Go_iload_5, at_124_45, jt_124_47, at_124_50, at_124_51, at_124_54, at_124_55, at_124_58, at_124_59, at_124_60, Go_iload_3, at_124_61, at_124_62, at_124_64, Go_imul, q_mul, at_124_65, Go_iadd, q_add, Nat.zero_add, at_124_66, cl_7_278, cat_n, cat_i, cat_r, cat_l, tl_i, tl_l, tl_n, sh_same, at_124_69, at_124_72, at_124_73, at_124_76, gg_5_1, jt_124_79, at_124_82, at_124_84, at_124_85, at_124_86, at_124_87, at_124_88, at_124_89, at_124_91, at_124_92, at_124_93, cl_7_282, at_124_96, at_124_97, fl_7_19, gg_7_1, sf_0_1, sr_49, at_124_100, at_124_101, fl_7_62, gg_7_9, sf_0_9, sr_73, at_124_104, cl_7_183, at_124_107, Go_pop2, at_124_108, Go_iinc_5, kc_1, jt_124_111, at_124_114, at_124_116, Nat.reduceAdd, Nat.reduceMul, Nat.reduceLeDiff, Nat.reduceSub, decide_true, decide_false, Bool.toNat_true, Bool.toNat_false, not_true_eq_false, not_false_eq_true, ite_not, true_and, and_true, if_true, if_false, ↓reduceIte, Bool.or_true, Bool.true_or, Bool.or_false, hx1, s1, e1, c]
      exact K _ _ ⟨Ca_eq ok.1 (fun o k _ _ => fr_seti (by omega)) h1, Ci_eq ok.2.1 (fun o k _ => fr_seti (by omega)) h2, Ct_eq (fun o k _ => fr_seti (by omega)) h3, (fr_seti (by omega)).trans h4, Cr_eq (fun k _ => fr_seti (by omega)) (fun _ => rfl) h5, Cs_eq (fun o k _ => fr_seti (by omega)) h6, fr_sets⟩ ⟨fun o i ho => by rw [fr_seti (by omega)]; exact fr.1 o i ho, fr.2⟩
end CRD
