/-! THE CALLS: cells -/
theorem sx8 (v : Int32) : v <<< (nI 24 &&& 31) >>> (nI 24 &&& 31) = v.toInt8.toInt32 := by
  apply Int32.toBitVec_inj.mp
  show (v.toBitVec <<< 24).sshiftRight 24 = (v.toBitVec.signExtend 8).signExtend 32
  apply BitVec.eq_of_getLsbD_eq
  intro i hi
  rw [BitVec.getLsbD_sshiftRight, BitVec.getLsbD_signExtend]
  by_cases c : i < 8
  · rw [if_pos (by omega), if_pos c, BitVec.getLsbD_signExtend, if_pos (by omega), BitVec.getLsbD_shiftLeft]

    simp [hi, c]
    rw [decide_eq_false (show ¬ 32 ≤ i by omega), decide_eq_true (show 24 + i < 32 by omega), decide_eq_false (show ¬ 24 + i < 24 by omega)]
    rfl
  · rw [if_neg (by omega), if_neg c, BitVec.msb_signExtend, BitVec.msb_eq_getLsbD_last, BitVec.getLsbD_shiftLeft]
    simp [hi, BitVec.getMsbD_eq_getLsbD, show ¬ 32 ≤ i by omega]
    try rfl
theorem sx16 (v : Int32) : v <<< (nI 16 &&& 31) >>> (nI 16 &&& 31) = v.toInt16.toInt32 := by
  apply Int32.toBitVec_inj.mp
  show (v.toBitVec <<< 16).sshiftRight 16 = (v.toBitVec.signExtend 16).signExtend 32
  apply BitVec.eq_of_getLsbD_eq
  intro i hi
  rw [BitVec.getLsbD_sshiftRight, BitVec.getLsbD_signExtend]
  by_cases c : i < 16
  · rw [if_pos (by omega), if_pos c, BitVec.getLsbD_signExtend, if_pos (by omega), BitVec.getLsbD_shiftLeft]

    simp [hi, c]
    rw [decide_eq_false (show ¬ 32 ≤ i by omega), decide_eq_true (show 16 + i < 32 by omega), decide_eq_false (show ¬ 16 + i < 16 by omega)]
    rfl
  · rw [if_neg (by omega), if_neg c, BitVec.msb_signExtend, BitVec.msb_eq_getLsbD_last, BitVec.getLsbD_shiftLeft]
    simp [hi, BitVec.getMsbD_eq_getLsbD, show ¬ 32 ≤ i by omega]
    try rfl
section CLA
variable {I I' : Nat → Nat → Int32} {J J' : Nat → Nat → Int64} {Q : Option Value → ab_H → Prop} {s : VS}
theorem inN {x : Int32} {m : Nat} {P : Prop} (hm : m < 1000) (h : (nI 0 ≤ x ∧ x < nI (m + 1)) = P) : (lN 0 ≤ x.toInt64 ∧ x.toInt64 ≤ lN m) = P := by
  rw [← h, in_le (by omega)]
  rcases i_le (x := x) (m := m) (by omega) with ⟨v, hv, rfl⟩ | hx
  · exact propext ⟨fun w => ⟨w.1, nI_lt (by omega) (by omega)⟩, fun w => ⟨w.1, nI_le hv (by omega)⟩⟩
  · have := i_out (by omega) hx
    refine propext ⟨fun w => ?_, fun w => absurd w this⟩
    rcases hx with y | y
    · exact absurd y (Int32.not_lt.mpr w.1)
    · exact absurd y (Int32.not_lt.mpr w.2)
theorem M_sheet (ok : OS s) (h : SM s I J) (k l n : Int32) (K : ∀ I' J', SM (n_sheet s k l n) I' J' → Fr (fun o => o < 199) I I' J J' → Q (some (.int (o_sheet k l n))) (SH, I', J')) : Ex 210 [.ref 199, .int k, .int l, .int n] (SH, I, J) Q := by
  have hs := h
  obtain ⟨h1, h2, h3, h4, h5, h6, h7⟩ := h
  have bad : ¬ okS k l n → Q (some (.int (-1))) (SH, I, J) := fun z => by
    unfold n_sheet o_sheet at K
    have z2 : ¬ (okS k l n ∧ ¬ n < nI 0) := fun y => z y.1
    rw [if_neg z2, if_neg z] at K
    exact K _ _ hs Fr_r
  rw [en_210]
  rcases i_lt (x := k) (N := 4) (by omega) with ⟨k, hk, rfl⟩ | hx
  · have PK : nI 0 ≤ nI k ∧ nI k < nI 4 := ⟨nI_le (Nat.zero_le _) (by omega), nI_lt (by omega) (by omega)⟩
    have wk := inN (m := 3) (by omega) (eq_true PK)
    rcases i_lt (x := l) (N := 3) (by omega) with ⟨l, hl, rfl⟩ | hx
    · have PL : nI 0 ≤ nI l ∧ nI l < nI 3 := ⟨nI_le (Nat.zero_le _) (by omega), nI_lt (by omega) (by omega)⟩
      have wl := inN (m := 2) (by omega) (eq_true PL)
      rcases i_le (x := n) (m := 40) (by omega) with ⟨n, hn, rfl⟩ | hx
      · have PN : nI n ≤ nI 40 := nI_le hn (by omega)
        have PN0 : ¬ nI n < nI 0 := Int32.not_lt.mpr (nI_le (Nat.zero_le _) (by omega))
        have P1 : okS (nI k) (nI l) (nI n) := ⟨PK, PL, PN⟩
        have P2 : okS (nI k) (nI l) (nI n) ∧ ¬ nI n < nI 0 := ⟨P1, PN0⟩
        unfold n_sheet o_sheet at K
        rw [if_pos P2, if_pos P1, if_neg PN0, q_cl (by omega), q_cl (by omega), q_cl (by omega)] at K
        simp (disch := first | omega | assumption | exact own_210 | exact rt_210 | exact q_lt1 (hb _ _) | exact bt_lt _ | fail) only [own_210, rt_210, ab_kl_n, ab_kl_i, ab_kl_r, ab_kl_l, at_210_0, Go_iload_1, at_210_1, Go_i2l, at_210_2, Go_lconst, kl_0, at_210_3, ldc2_8_323, at_210_6, cl_8_71, cat_n, cat_i, cat_r, cat_l, tl_i, tl_l, tl_n, sh_same, jt_210_9, q_le, q_lt, q_eq, n_leT, n_leF, n_ltT, n_ltF, n_eqF, n_b0, at_210_12, Go_iload_2, at_210_13, at_210_14, at_210_15, ldc2_8_258, at_210_18, jt_210_21, at_210_24, Go_iload_3, at_210_25, Go_bipush, kb_40, jt_210_27, at_210_30, Go_iconst, kc_m1, at_210_31, Go_reti, at_210_32, jt_210_33, at_210_36, kb_m14, at_210_38, at_210_39, Go_aload_0, at_210_40, Go_getf, fl_8_60, gg_8_32, sh_ref, sh_rf, sr_199, sf_199_32, sr_216, sn_216, at_210_43, at_210_44, at_210_45, Go_iastore, sh_ln, q_in, q_cl, sh_seti, at_210_46, at_210_47, fl_8_63, gg_8_33, sf_199_33, sr_217, sn_217, at_210_50, at_210_51, at_210_52, at_210_53, kc_0, at_210_54, Go_istore_4, ab_put_int_4, Go_iload_4, at_210_58, jt_210_60, at_210_63, at_210_64, fl_8_66, gg_8_34, sf_199_34, sr_218, sn_218, at_210_67, at_210_69, at_210_70, Go_imul, q_mul, at_210_71, at_210_73, Go_iadd, q_add, Nat.zero_add, at_210_74, at_210_75, at_210_76, Go_iinc_4, kc_1, jt_210_79, at_210_82, at_210_83, Nat.reduceAdd, Nat.reduceMul, Nat.reduceLeDiff, Nat.reduceSub, decide_true, decide_false, Bool.toNat_true, Bool.toNat_false, not_true_eq_false, not_false_eq_true, ite_not, true_and, and_true, if_true, if_false, ↓reduceIte, Bool.or_true, Bool.true_or, Bool.or_false, m_in, wk, wl, Bool.true_eq_false]
        refine lp_wp (a := 0) (N := 40) (Nat.zero_le _) (fun i => ∀ I1 : Nat → Nat → Int32, (∀ o i, o ≠ 218 → I1 o i = ab_up (ab_up I 216 k (nI l)) 217 k (nI n) o i) → (∀ j, ¬ (40 * k ≤ j ∧ j < 40 * k + 40) → I1 218 j = I 218 j) → (∀ j, j < i → I1 218 (40 * k + j) = nI 0) → Go (ab_at 210 56) 210 56 [some (.ref 199), some (.int (nI (k))), some (.int (nI (l))), some (.int (nI (n))), some (.int (nI (i)))] []  (SH, I1, J) Q) (fun I1 f1 f2 f3 => ?_) (fun i _ hi ih I1 f1 f2 f3 => ?_) (ab_up (ab_up I 216 k (nI l)) 217 k (nI n)) (fun _ _ _ => rfl) (fun j hj => by rw [fr_seti (by omega), fr_seti (by omega)]) (fun j hj => absurd hj (Nat.not_lt_zero j))
        · rw [at_210_56]
          simp (disch := first | omega | assumption | exact own_210 | exact rt_210 | exact q_lt1 (hb _ _) | exact bt_lt _ | fail) only [own_210, rt_210, ab_kl_n, ab_kl_i, ab_kl_r, ab_kl_l, at_210_0, Go_iload_1, at_210_1, Go_i2l, at_210_2, Go_lconst, kl_0, at_210_3, ldc2_8_323, at_210_6, cl_8_71, cat_n, cat_i, cat_r, cat_l, tl_i, tl_l, tl_n, sh_same, jt_210_9, q_le, q_lt, q_eq, n_leT, n_leF, n_ltT, n_ltF, n_eqF, n_b0, at_210_12, Go_iload_2, at_210_13, at_210_14, at_210_15, ldc2_8_258, at_210_18, jt_210_21, at_210_24, Go_iload_3, at_210_25, Go_bipush, kb_40, jt_210_27, at_210_30, Go_iconst, kc_m1, at_210_31, Go_reti, at_210_32, jt_210_33, at_210_36, kb_m14, at_210_38, at_210_39, Go_aload_0, at_210_40, Go_getf, fl_8_60, gg_8_32, sh_ref, sh_rf, sr_199, sf_199_32, sr_216, sn_216, at_210_43, at_210_44, at_210_45, Go_iastore, sh_ln, q_in, q_cl, sh_seti, at_210_46, at_210_47, fl_8_63, gg_8_33, sf_199_33, sr_217, sn_217, at_210_50, at_210_51, at_210_52, at_210_53, kc_0, at_210_54, Go_istore_4, ab_put_int_4, Go_iload_4, at_210_58, jt_210_60, at_210_63, at_210_64, fl_8_66, gg_8_34, sf_199_34, sr_218, sn_218, at_210_67, at_210_69, at_210_70, Go_imul, q_mul, at_210_71, at_210_73, Go_iadd, q_add, Nat.zero_add, at_210_74, at_210_75, at_210_76, Go_iinc_4, kc_1, jt_210_79, at_210_82, at_210_83, Nat.reduceAdd, Nat.reduceMul, Nat.reduceLeDiff, Nat.reduceSub, decide_true, decide_false, Bool.toNat_true, Bool.toNat_false, not_true_eq_false, not_false_eq_true, ite_not, true_and, and_true, if_true, if_false, ↓reduceIte, Bool.or_true, Bool.true_or, Bool.or_false]
          have f : ∀ o i, o ≠ 216 → o ≠ 217 → o ≠ 218 → I1 o i = I o i := fun o i z1 z2 z3 => by rw [f1 o i z3, fr_seti z2, fr_seti z1]
          refine K _ _ ⟨Ma_eq ok.1 (fun o k' _ => f o k' (by omega) (by omega) (by omega)) h1, Mi_eq ok.2.1 (fun o k' _ => f o k' (by omega) (by omega) (by omega)) h2, Mt_eq (fun o k' _ => f o k' (by omega) (by omega) (by omega)) h3, (f _ _ (by omega) (by omega) (by omega)).trans h4, Mr_eq (fun k' _ _ => f _ _ (by omega) (by omega) (by omega)) (fun _ _ => rfl) h5, fun j hj => ?_, (f _ _ (by omega) (by omega) (by omega)).trans h7⟩ ⟨fun o k' hk => f o k' (by omega) (by omega) (by omega), fun _ _ _ => rfl⟩
          show ((if j = k then some (l, n) else v_sh s j) = none → I1 216 j = -4) ∧ ∀ l' n', (if j = k then some (l, n) else v_sh s j) = some (l', n') → I1 216 j = nI l' ∧ I1 217 j = nI n' ∧ ∀ i, i < 40 → I1 218 (40 * j + i) = (if j = k then nI 0 else v_ce s j i)
          rw [f1 216 j (by omega), f1 217 j (by omega)]
          by_cases z : j = k
          · subst z
            rw [if_pos rfl]
            refine ⟨fun z => (by cases z), fun l' n' z => ?_⟩
            cases z
            exact ⟨by rw [fr_seti (by omega)]; exact fr_sets, fr_sets, fun i hi => by rw [if_pos rfl]; exact f3 i hi⟩
          · rw [if_neg z, fr_seti (by omega), fr_setk z, fr_setk z, fr_seti (by omega)]
            obtain ⟨g1, g2⟩ := h6 j hj
            refine ⟨g1, fun l' n' y => ?_⟩
            obtain ⟨g3, g4, g5⟩ := g2 l' n' y
            exact ⟨g3, g4, fun i hi => by rw [if_neg z, f2 _ (by omega)]; exact g5 i hi⟩
        · rw [at_210_56]
          simp (disch := first | omega | assumption | exact own_210 | exact rt_210 | exact q_lt1 (hb _ _) | exact bt_lt _ | fail) only [own_210, rt_210, ab_kl_n, ab_kl_i, ab_kl_r, ab_kl_l, at_210_0, Go_iload_1, at_210_1, Go_i2l, at_210_2, Go_lconst, kl_0, at_210_3, ldc2_8_323, at_210_6, cl_8_71, cat_n, cat_i, cat_r, cat_l, tl_i, tl_l, tl_n, sh_same, jt_210_9, q_le, q_lt, q_eq, n_leT, n_leF, n_ltT, n_ltF, n_eqF, n_b0, at_210_12, Go_iload_2, at_210_13, at_210_14, at_210_15, ldc2_8_258, at_210_18, jt_210_21, at_210_24, Go_iload_3, at_210_25, Go_bipush, kb_40, jt_210_27, at_210_30, Go_iconst, kc_m1, at_210_31, Go_reti, at_210_32, jt_210_33, at_210_36, kb_m14, at_210_38, at_210_39, Go_aload_0, at_210_40, Go_getf, fl_8_60, gg_8_32, sh_ref, sh_rf, sr_199, sf_199_32, sr_216, sn_216, at_210_43, at_210_44, at_210_45, Go_iastore, sh_ln, q_in, q_cl, sh_seti, at_210_46, at_210_47, fl_8_63, gg_8_33, sf_199_33, sr_217, sn_217, at_210_50, at_210_51, at_210_52, at_210_53, kc_0, at_210_54, Go_istore_4, ab_put_int_4, Go_iload_4, at_210_58, jt_210_60, at_210_63, at_210_64, fl_8_66, gg_8_34, sf_199_34, sr_218, sn_218, at_210_67, at_210_69, at_210_70, Go_imul, q_mul, at_210_71, at_210_73, Go_iadd, q_add, Nat.zero_add, at_210_74, at_210_75, at_210_76, Go_iinc_4, kc_1, jt_210_79, at_210_82, at_210_83, Nat.reduceAdd, Nat.reduceMul, Nat.reduceLeDiff, Nat.reduceSub, decide_true, decide_false, Bool.toNat_true, Bool.toNat_false, not_true_eq_false, not_false_eq_true, ite_not, true_and, and_true, if_true, if_false, ↓reduceIte, Bool.or_true, Bool.true_or, Bool.or_false]
          refine ih _ (fun o j ho => by rw [fr_seti ho]; exact f1 o j ho) (fun j hj => by rw [fr_setk (by omega)]; exact f2 j hj) (fun j hj => ?_)
          by_cases z : j = i
          · subst z; exact fr_sets
          · rw [fr_setk (by omega)]; exact f3 j (by omega)
      · by_cases c : n < nI 0
        · have PN : n ≤ nI 40 := Int32.le_of_lt (Int32.lt_of_lt_of_le c (by decide))
          have P1 : okS (nI k) (nI l) n := ⟨PK, PL, PN⟩
          have P2 : ¬ (okS (nI k) (nI l) n ∧ ¬ n < nI 0) := fun y => y.2 c
          unfold n_sheet o_sheet at K
          rw [if_neg P2, if_pos P1, if_pos c] at K
          have K0 := K _ _ hs Fr_r
          have c' : ¬ nI 0 ≤ n := Int32.not_le.mpr c
          simp (disch := first | omega | assumption | exact own_210 | exact rt_210 | exact q_lt1 (hb _ _) | exact bt_lt _ | fail) only [own_210, rt_210, ab_kl_n, ab_kl_i, ab_kl_r, ab_kl_l, at_210_0, Go_iload_1, at_210_1, Go_i2l, at_210_2, Go_lconst, kl_0, at_210_3, ldc2_8_323, at_210_6, cl_8_71, cat_n, cat_i, cat_r, cat_l, tl_i, tl_l, tl_n, sh_same, jt_210_9, q_le, q_lt, q_eq, n_leT, n_leF, n_ltT, n_ltF, n_eqF, n_b0, at_210_12, Go_iload_2, at_210_13, at_210_14, at_210_15, ldc2_8_258, at_210_18, jt_210_21, at_210_24, Go_iload_3, at_210_25, Go_bipush, kb_40, jt_210_27, at_210_30, Go_iconst, kc_m1, at_210_31, Go_reti, at_210_32, jt_210_33, at_210_36, kb_m14, at_210_38, at_210_39, Go_aload_0, at_210_40, Go_getf, fl_8_60, gg_8_32, sh_ref, sh_rf, sr_199, sf_199_32, sr_216, sn_216, at_210_43, at_210_44, at_210_45, Go_iastore, sh_ln, q_in, q_cl, sh_seti, at_210_46, at_210_47, fl_8_63, gg_8_33, sf_199_33, sr_217, sn_217, at_210_50, at_210_51, at_210_52, at_210_53, kc_0, at_210_54, Go_istore_4, ab_put_int_4, Go_iload_4, at_210_58, jt_210_60, at_210_63, at_210_64, fl_8_66, gg_8_34, sf_199_34, sr_218, sn_218, at_210_67, at_210_69, at_210_70, Go_imul, q_mul, at_210_71, at_210_73, Go_iadd, q_add, Nat.zero_add, at_210_74, at_210_75, at_210_76, Go_iinc_4, kc_1, jt_210_79, at_210_82, at_210_83, Nat.reduceAdd, Nat.reduceMul, Nat.reduceLeDiff, Nat.reduceSub, decide_true, decide_false, Bool.toNat_true, Bool.toNat_false, not_true_eq_false, not_false_eq_true, ite_not, true_and, and_true, if_true, if_false, ↓reduceIte, Bool.or_true, Bool.true_or, Bool.or_false, c', PN, m_in, wk, wl, Bool.true_eq_false]
          exact K0
        · have c2 : ¬ n ≤ nI 40 := by
            rcases hx with z | z
            · exact absurd z c
            · exact Int32.not_le.mpr z
          have K0 := bad (fun z => c2 z.2.2)
          simp (disch := first | omega | assumption | exact own_210 | exact rt_210 | exact q_lt1 (hb _ _) | exact bt_lt _ | fail) only [own_210, rt_210, ab_kl_n, ab_kl_i, ab_kl_r, ab_kl_l, at_210_0, Go_iload_1, at_210_1, Go_i2l, at_210_2, Go_lconst, kl_0, at_210_3, ldc2_8_323, at_210_6, cl_8_71, cat_n, cat_i, cat_r, cat_l, tl_i, tl_l, tl_n, sh_same, jt_210_9, q_le, q_lt, q_eq, n_leT, n_leF, n_ltT, n_ltF, n_eqF, n_b0, at_210_12, Go_iload_2, at_210_13, at_210_14, at_210_15, ldc2_8_258, at_210_18, jt_210_21, at_210_24, Go_iload_3, at_210_25, Go_bipush, kb_40, jt_210_27, at_210_30, Go_iconst, kc_m1, at_210_31, Go_reti, at_210_32, jt_210_33, at_210_36, kb_m14, at_210_38, at_210_39, Go_aload_0, at_210_40, Go_getf, fl_8_60, gg_8_32, sh_ref, sh_rf, sr_199, sf_199_32, sr_216, sn_216, at_210_43, at_210_44, at_210_45, Go_iastore, sh_ln, q_in, q_cl, sh_seti, at_210_46, at_210_47, fl_8_63, gg_8_33, sf_199_33, sr_217, sn_217, at_210_50, at_210_51, at_210_52, at_210_53, kc_0, at_210_54, Go_istore_4, ab_put_int_4, Go_iload_4, at_210_58, jt_210_60, at_210_63, at_210_64, fl_8_66, gg_8_34, sf_199_34, sr_218, sn_218, at_210_67, at_210_69, at_210_70, Go_imul, q_mul, at_210_71, at_210_73, Go_iadd, q_add, Nat.zero_add, at_210_74, at_210_75, at_210_76, Go_iinc_4, kc_1, jt_210_79, at_210_82, at_210_83, Nat.reduceAdd, Nat.reduceMul, Nat.reduceLeDiff, Nat.reduceSub, decide_true, decide_false, Bool.toNat_true, Bool.toNat_false, not_true_eq_false, not_false_eq_true, ite_not, true_and, and_true, if_true, if_false, ↓reduceIte, Bool.or_true, Bool.true_or, Bool.or_false, c2, m_in, wk, wl, Bool.true_eq_false]
          exact K0
    · have K0 := bad (fun z => hx z.2.1)
      have wl := inN (m := 2) (by omega) (eq_false hx)
      simp (disch := first | omega | assumption | exact own_210 | exact rt_210 | exact q_lt1 (hb _ _) | exact bt_lt _ | fail) only [own_210, rt_210, ab_kl_n, ab_kl_i, ab_kl_r, ab_kl_l, at_210_0, Go_iload_1, at_210_1, Go_i2l, at_210_2, Go_lconst, kl_0, at_210_3, ldc2_8_323, at_210_6, cl_8_71, cat_n, cat_i, cat_r, cat_l, tl_i, tl_l, tl_n, sh_same, jt_210_9, q_le, q_lt, q_eq, n_leT, n_leF, n_ltT, n_ltF, n_eqF, n_b0, at_210_12, Go_iload_2, at_210_13, at_210_14, at_210_15, ldc2_8_258, at_210_18, jt_210_21, at_210_24, Go_iload_3, at_210_25, Go_bipush, kb_40, jt_210_27, at_210_30, Go_iconst, kc_m1, at_210_31, Go_reti, at_210_32, jt_210_33, at_210_36, kb_m14, at_210_38, at_210_39, Go_aload_0, at_210_40, Go_getf, fl_8_60, gg_8_32, sh_ref, sh_rf, sr_199, sf_199_32, sr_216, sn_216, at_210_43, at_210_44, at_210_45, Go_iastore, sh_ln, q_in, q_cl, sh_seti, at_210_46, at_210_47, fl_8_63, gg_8_33, sf_199_33, sr_217, sn_217, at_210_50, at_210_51, at_210_52, at_210_53, kc_0, at_210_54, Go_istore_4, ab_put_int_4, Go_iload_4, at_210_58, jt_210_60, at_210_63, at_210_64, fl_8_66, gg_8_34, sf_199_34, sr_218, sn_218, at_210_67, at_210_69, at_210_70, Go_imul, q_mul, at_210_71, at_210_73, Go_iadd, q_add, Nat.zero_add, at_210_74, at_210_75, at_210_76, Go_iinc_4, kc_1, jt_210_79, at_210_82, at_210_83, Nat.reduceAdd, Nat.reduceMul, Nat.reduceLeDiff, Nat.reduceSub, decide_true, decide_false, Bool.toNat_true, Bool.toNat_false, not_true_eq_false, not_false_eq_true, ite_not, true_and, and_true, if_true, if_false, ↓reduceIte, Bool.or_true, Bool.true_or, Bool.or_false, m_in, wk, wl, Bool.true_eq_false]
      exact K0
  · have K0 := bad (fun z => hx z.1)
    have wk := inN (m := 3) (by omega) (eq_false hx)
    simp (disch := first | omega | assumption | exact own_210 | exact rt_210 | exact q_lt1 (hb _ _) | exact bt_lt _ | fail) only [own_210, rt_210, ab_kl_n, ab_kl_i, ab_kl_r, ab_kl_l, at_210_0, Go_iload_1, at_210_1, Go_i2l, at_210_2, Go_lconst, kl_0, at_210_3, ldc2_8_323, at_210_6, cl_8_71, cat_n, cat_i, cat_r, cat_l, tl_i, tl_l, tl_n, sh_same, jt_210_9, q_le, q_lt, q_eq, n_leT, n_leF, n_ltT, n_ltF, n_eqF, n_b0, at_210_12, Go_iload_2, at_210_13, at_210_14, at_210_15, ldc2_8_258, at_210_18, jt_210_21, at_210_24, Go_iload_3, at_210_25, Go_bipush, kb_40, jt_210_27, at_210_30, Go_iconst, kc_m1, at_210_31, Go_reti, at_210_32, jt_210_33, at_210_36, kb_m14, at_210_38, at_210_39, Go_aload_0, at_210_40, Go_getf, fl_8_60, gg_8_32, sh_ref, sh_rf, sr_199, sf_199_32, sr_216, sn_216, at_210_43, at_210_44, at_210_45, Go_iastore, sh_ln, q_in, q_cl, sh_seti, at_210_46, at_210_47, fl_8_63, gg_8_33, sf_199_33, sr_217, sn_217, at_210_50, at_210_51, at_210_52, at_210_53, kc_0, at_210_54, Go_istore_4, ab_put_int_4, Go_iload_4, at_210_58, jt_210_60, at_210_63, at_210_64, fl_8_66, gg_8_34, sf_199_34, sr_218, sn_218, at_210_67, at_210_69, at_210_70, Go_imul, q_mul, at_210_71, at_210_73, Go_iadd, q_add, Nat.zero_add, at_210_74, at_210_75, at_210_76, Go_iinc_4, kc_1, jt_210_79, at_210_82, at_210_83, Nat.reduceAdd, Nat.reduceMul, Nat.reduceLeDiff, Nat.reduceSub, decide_true, decide_false, Bool.toNat_true, Bool.toNat_false, not_true_eq_false, not_false_eq_true, ite_not, true_and, and_true, if_true, if_false, ↓reduceIte, Bool.or_true, Bool.true_or, Bool.or_false, m_in, wk]
    exact K0
theorem x_faultAt {k : Nat} (hk : k < 4) (ok : OS s) (h : Cs (v_sh s) (v_ce s) I) (i : Int32) : Ex 88 [.ref 62, .int (nI k), .int i] (SH, I, J) Q = Q (some (.int (match v_sh s k with | none => nI 1 | some (_, n) => if nI 0 ≤ i ∧ i < nI n then nI 0 else nI 2))) (SH, I, J) := by
  obtain ⟨h1, h2⟩ := h k hk
  rw [en_88]
  cases c : v_sh s k with
  | none =>
    have := h1 c
    have m4 : (nI 0 ≤ (-4 : Int32)) = False := by decide
    simp (disch := first | omega | assumption | exact own_88 | exact rt_88 | exact q_lt1 (hb _ _) | exact bt_lt _ | fail) only [own_88, rt_88, ab_kl_n, ab_kl_i, ab_kl_r, ab_kl_l, at_88_0, Go_aload_0, at_88_1, Go_getf, fl_5_9, gg_5_0, sh_ref, sh_rf, sr_62, sf_62_0, sr_63, sn_63, at_88_4, Go_iload_1, at_88_5, Go_iaload, sh_ln, q_in, q_cl, jt_88_6, q_le, q_lt, q_eq, n_leT, n_leF, n_ltT, n_ltF, n_eqF, n_b0, at_88_9, Go_iconst, kc_1, at_88_10, Go_reti, at_88_11, Go_iload_2, jt_88_12, at_88_15, at_88_16, at_88_17, at_88_20, at_88_21, jt_88_22, at_88_25, kc_2, jt_88_26, at_88_29, kc_0, at_88_30, Nat.reduceAdd, Nat.reduceMul, Nat.reduceLeDiff, Nat.reduceSub, decide_true, decide_false, Bool.toNat_true, Bool.toNat_false, not_true_eq_false, not_false_eq_true, ite_not, true_and, and_true, if_true, if_false, ↓reduceIte, Bool.or_true, Bool.true_or, Bool.or_false, this, m4]
  | some z =>
    obtain ⟨l, n⟩ := z
    obtain ⟨g1, g2, g3⟩ := h2 l n c
    have hn := (ok.2.2.2.1 k l n c).2
    show _ = Q (some (.int (if nI 0 ≤ i ∧ i < nI n then nI 0 else nI 2))) (SH, I, J)
    by_cases c1 : i < nI 0
    · rw [if_neg (fun z => absurd c1 (Int32.not_lt.mpr z.1))]
      simp (disch := first | omega | assumption | exact own_88 | exact rt_88 | exact q_lt1 (hb _ _) | exact bt_lt _ | fail) only [own_88, rt_88, ab_kl_n, ab_kl_i, ab_kl_r, ab_kl_l, at_88_0, Go_aload_0, at_88_1, Go_getf, fl_5_9, gg_5_0, sh_ref, sh_rf, sr_62, sf_62_0, sr_63, sn_63, at_88_4, Go_iload_1, at_88_5, Go_iaload, sh_ln, q_in, q_cl, jt_88_6, q_le, q_lt, q_eq, n_leT, n_leF, n_ltT, n_ltF, n_eqF, n_b0, at_88_9, Go_iconst, kc_1, at_88_10, Go_reti, at_88_11, Go_iload_2, jt_88_12, at_88_15, at_88_16, at_88_17, at_88_20, at_88_21, jt_88_22, at_88_25, kc_2, jt_88_26, at_88_29, kc_0, at_88_30, Nat.reduceAdd, Nat.reduceMul, Nat.reduceLeDiff, Nat.reduceSub, decide_true, decide_false, Bool.toNat_true, Bool.toNat_false, not_true_eq_false, not_false_eq_true, ite_not, true_and, and_true, if_true, if_false, ↓reduceIte, Bool.or_true, Bool.true_or, Bool.or_false, g1, c1]
    · by_cases c2 : i < nI n
      · rw [if_pos ⟨Int32.not_lt.mp c1, c2⟩]
        simp (disch := first | omega | assumption | exact own_88 | exact rt_88 | exact q_lt1 (hb _ _) | exact bt_lt _ | fail) only [own_88, rt_88, ab_kl_n, ab_kl_i, ab_kl_r, ab_kl_l, at_88_0, Go_aload_0, at_88_1, Go_getf, fl_5_9, gg_5_0, sh_ref, sh_rf, sr_62, sf_62_0, sr_63, sn_63, at_88_4, Go_iload_1, at_88_5, Go_iaload, sh_ln, q_in, q_cl, jt_88_6, q_le, q_lt, q_eq, n_leT, n_leF, n_ltT, n_ltF, n_eqF, n_b0, at_88_9, Go_iconst, kc_1, at_88_10, Go_reti, at_88_11, Go_iload_2, jt_88_12, at_88_15, at_88_16, at_88_17, at_88_20, at_88_21, jt_88_22, at_88_25, kc_2, jt_88_26, at_88_29, kc_0, at_88_30, Nat.reduceAdd, Nat.reduceMul, Nat.reduceLeDiff, Nat.reduceSub, decide_true, decide_false, Bool.toNat_true, Bool.toNat_false, not_true_eq_false, not_false_eq_true, ite_not, true_and, and_true, if_true, if_false, ↓reduceIte, Bool.or_true, Bool.true_or, Bool.or_false, g1, c1, c2]
      · rw [if_neg (fun z => c2 z.2)]
        simp (disch := first | omega | assumption | exact own_88 | exact rt_88 | exact q_lt1 (hb _ _) | exact bt_lt _ | fail) only [own_88, rt_88, ab_kl_n, ab_kl_i, ab_kl_r, ab_kl_l, at_88_0, Go_aload_0, at_88_1, Go_getf, fl_5_9, gg_5_0, sh_ref, sh_rf, sr_62, sf_62_0, sr_63, sn_63, at_88_4, Go_iload_1, at_88_5, Go_iaload, sh_ln, q_in, q_cl, jt_88_6, q_le, q_lt, q_eq, n_leT, n_leF, n_ltT, n_ltF, n_eqF, n_b0, at_88_9, Go_iconst, kc_1, at_88_10, Go_reti, at_88_11, Go_iload_2, jt_88_12, at_88_15, at_88_16, at_88_17, at_88_20, at_88_21, jt_88_22, at_88_25, kc_2, jt_88_26, at_88_29, kc_0, at_88_30, Nat.reduceAdd, Nat.reduceMul, Nat.reduceLeDiff, Nat.reduceSub, decide_true, decide_false, Bool.toNat_true, Bool.toNat_false, not_true_eq_false, not_false_eq_true, ite_not, true_and, and_true, if_true, if_false, ↓reduceIte, Bool.or_true, Bool.true_or, Bool.or_false, g1, c1, c2]
theorem x_write {k i l n : Nat} (hk : k < 4) (hi : i < 40) (hl : l < 3) (h64 : I 64 k = nI l) (v : Int32) : Ex 90 [.ref 62, .int (nI k), .int (nI i), .int v] (SH, I, J) Q = Q none (SH, ab_up I (66 + k) i (cv l v), J) := by
  rw [en_90]
  have : l = 0 ∨ l = 1 ∨ l = 2 := by omega
  rcases this with rfl | rfl | rfl
  · simp (disch := first | omega | assumption | exact own_90 | exact rt_90 | exact q_lt1 (hb _ _) | exact bt_lt _ | fail) only [own_90, rt_90, ab_kl_n, ab_kl_i, ab_kl_r, ab_kl_l, at_90_0, Go_aload_0, at_90_1, Go_getf, fl_5_15, gg_5_2, sh_ref, sh_rf, sr_62, sf_62_2, sr_64, sn_64, at_90_4, Go_iload_1, at_90_5, Go_iaload, sh_ln, q_in, q_cl, ts_90_6_0, ts_90_6_1, ts_90_6_2, at_90_32, at_90_33, fl_5_20, gg_5_3, sf_62_3, sr_65, sn_65, at_90_36, at_90_37, Go_aaload, at_90_38, Go_iload_2, at_90_39, Go_iload_3, at_90_40, Go_i2b, at_90_41, Go_iastore, sh_seti, jt_90_42, at_90_45, at_90_46, at_90_49, at_90_50, at_90_51, at_90_52, at_90_53, Go_i2s, at_90_54, jt_90_55, at_90_58, at_90_59, at_90_62, at_90_63, at_90_64, at_90_65, at_90_66, at_90_67, Go_return, Nat.reduceAdd, Nat.reduceMul, Nat.reduceLeDiff, Nat.reduceSub, decide_true, decide_false, Bool.toNat_true, Bool.toNat_false, not_true_eq_false, not_false_eq_true, ite_not, true_and, and_true, if_true, if_false, ↓reduceIte, Bool.or_true, Bool.true_or, Bool.or_false, h64, crow, crow_r, crow_n]
    rfl
  · simp (disch := first | omega | assumption | exact own_90 | exact rt_90 | exact q_lt1 (hb _ _) | exact bt_lt _ | fail) only [own_90, rt_90, ab_kl_n, ab_kl_i, ab_kl_r, ab_kl_l, at_90_0, Go_aload_0, at_90_1, Go_getf, fl_5_15, gg_5_2, sh_ref, sh_rf, sr_62, sf_62_2, sr_64, sn_64, at_90_4, Go_iload_1, at_90_5, Go_iaload, sh_ln, q_in, q_cl, ts_90_6_0, ts_90_6_1, ts_90_6_2, at_90_32, at_90_33, fl_5_20, gg_5_3, sf_62_3, sr_65, sn_65, at_90_36, at_90_37, Go_aaload, at_90_38, Go_iload_2, at_90_39, Go_iload_3, at_90_40, Go_i2b, at_90_41, Go_iastore, sh_seti, jt_90_42, at_90_45, at_90_46, at_90_49, at_90_50, at_90_51, at_90_52, at_90_53, Go_i2s, at_90_54, jt_90_55, at_90_58, at_90_59, at_90_62, at_90_63, at_90_64, at_90_65, at_90_66, at_90_67, Go_return, Nat.reduceAdd, Nat.reduceMul, Nat.reduceLeDiff, Nat.reduceSub, decide_true, decide_false, Bool.toNat_true, Bool.toNat_false, not_true_eq_false, not_false_eq_true, ite_not, true_and, and_true, if_true, if_false, ↓reduceIte, Bool.or_true, Bool.true_or, Bool.or_false, h64, crow, crow_r, crow_n]
    rfl
  · simp (disch := first | omega | assumption | exact own_90 | exact rt_90 | exact q_lt1 (hb _ _) | exact bt_lt _ | fail) only [own_90, rt_90, ab_kl_n, ab_kl_i, ab_kl_r, ab_kl_l, at_90_0, Go_aload_0, at_90_1, Go_getf, fl_5_15, gg_5_2, sh_ref, sh_rf, sr_62, sf_62_2, sr_64, sn_64, at_90_4, Go_iload_1, at_90_5, Go_iaload, sh_ln, q_in, q_cl, ts_90_6_0, ts_90_6_1, ts_90_6_2, at_90_32, at_90_33, fl_5_20, gg_5_3, sf_62_3, sr_65, sn_65, at_90_36, at_90_37, Go_aaload, at_90_38, Go_iload_2, at_90_39, Go_iload_3, at_90_40, Go_i2b, at_90_41, Go_iastore, sh_seti, jt_90_42, at_90_45, at_90_46, at_90_49, at_90_50, at_90_51, at_90_52, at_90_53, Go_i2s, at_90_54, jt_90_55, at_90_58, at_90_59, at_90_62, at_90_63, at_90_64, at_90_65, at_90_66, at_90_67, Go_return, Nat.reduceAdd, Nat.reduceMul, Nat.reduceLeDiff, Nat.reduceSub, decide_true, decide_false, Bool.toNat_true, Bool.toNat_false, not_true_eq_false, not_false_eq_true, ite_not, true_and, and_true, if_true, if_false, ↓reduceIte, Bool.or_true, Bool.true_or, Bool.or_false, h64, crow, crow_r, crow_n]
    rfl
end CLA
