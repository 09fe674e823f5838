/-! THE LAW: what an ending needs -/
section ATE
variable {xs : List Int32} {Q : Option Value → ab_H → Prop} {E : ab_Sh} {I : Nat → Nat → Int32} {J : Nat → Nat → Int64} {sh N : Nat} {q : Nat → Nat}
theorem y_atEnd (hE : YX E) (hs : sh < 4) (z0 : I 199 0 = nI sh) (z1 : I 199 1 = nI N) (hq : ∀ i, i < N → I 201 i = nI (q i) ∧ q i < 6) (hN : N ≤ 20) {b : Nat} (hb : b < 6) (he : ∃ m, m < N ∧ (shT sh b 4).testBit (q m) = true) (x : Int32)
    (K1 : ∀ m, m < N → (shT sh b 4).testBit (q m) = true → Q (some (.int (nI m))) (SH ++ E, I, J)) : Ey xs 144 [.ref 199, .ref 201, .int (nI b), .int x] (SH ++ E, I, J) Q := by
  have hov := fun m (hm : m < N) (Q : Option Value → ab_H → Prop) => y_over (xs := xs) (h := (SH ++ E, I, J)) (Q := Q) hs (hq m hm).2 hb
  have hq1 := fun m (hm : m < N) => (hq m hm).1
  have hcl := fun m => cn_le (fun m => (shT sh b 4).testBit (q m)) m
  rw [ey_144]
  simp (disch := first | omega | assumption | exact yrt_144 | fail) only [yrt_144, ab_kl_n, ab_kl_i, ab_kl_r, ab_kl_l, at_144_0, Gy_iconst, kc_0, at_144_1, Gy_istore_4, ab_put_int_4, at_144_3, at_144_4, Gy_istore_5, ab_put_int_5, Nat.reduceAdd, Nat.reduceMul, Nat.reduceLeDiff, Nat.reduceSub, decide_true, decide_false, Bool.toNat_true, Bool.toNat_false, not_true_eq_false, not_false_eq_true, ite_not, true_and, and_true, if_true, if_false, ↓reduceIte, Bool.or_true, Bool.true_or, Bool.or_false, ry_199 hE]
  have L1 : ∀ v1, Gy xs (ab_at 144 6) 144 6 [some (.ref 199), some (.ref 201), some (.int (nI b)), some (.int x), some (.int (nI (cn (fun m => (shT sh b 4).testBit (q m)) 0))), some (.int (nI 0)), v1] [] (SH ++ E, I, J) Q := by
    intro v1
    refine lp_wp (a := 0) (N := N) (Nat.zero_le _) (fun j => Gy xs (ab_at 144 6) 144 6 [some (.ref 199), some (.ref 201), some (.int (nI b)), some (.int x), some (.int (nI (cn (fun m => (shT sh b 4).testBit (q m)) j))), some (.int (nI j)), v1] [] (SH ++ E, I, J) Q) ?_ (fun j _ hj ih => ?_)
    · have c1 := hcl N
      have hp : 0 < cn (fun m => (shT sh b 4).testBit (q m)) N := by
        obtain ⟨m, hm, hm2⟩ := he
        have := cn_pos (f := fun m => (shT sh b 4).testBit (q m)) hm hm2
        omega
      have hlt := pt_lt (v := x) hp
      rw [at_144_6]
      simp (disch := first | omega | assumption | exact yrt_144 | fail) only [yrt_144, ab_kl_n, ab_kl_i, ab_kl_r, ab_kl_l, at_144_0, Gy_iconst, kc_0, at_144_1, Gy_istore_4, ab_put_int_4, at_144_3, at_144_4, Gy_istore_5, ab_put_int_5, Gy_iload_5, at_144_8, Gy_aload_0, at_144_9, kc_1, at_144_10, Gy_iaload, q_in, q_cl, jy_144_11, q_le, q_lt, q_eq, n_leT, n_leF, n_ltT, n_ltF, n_eqF, n_b0, at_144_14, Gy_iload_4, at_144_16, at_144_17, at_144_18, at_144_19, Gy_aload_1, at_144_20, at_144_22, at_144_23, Gy_iload_2, at_144_24, cy_57, cat_n, cat_i, cat_r, cat_l, tl_i, tl_l, tl_n, y_sh, y_shh, jy_144_27, at_144_30, jy_144_31, at_144_34, at_144_35, Gy_iadd, q_add, Nat.zero_add, at_144_36, at_144_38, Gy_iinc_5, jy_144_41, at_144_44, Gy_iload_3, at_144_45, at_144_47, cy_69, at_144_50, at_144_52, at_144_53, Gy_istore_6, ab_put_int_6, Nat.reduceAdd, Nat.reduceMul, Nat.reduceLeDiff, Nat.reduceSub, decide_true, decide_false, Bool.toNat_true, Bool.toNat_false, not_true_eq_false, not_false_eq_true, ite_not, true_and, and_true, if_true, if_false, ↓reduceIte, Bool.or_true, Bool.true_or, Bool.or_false, ry_199 hE, ny_199 hE, z1, y_part x hp (show cn (fun m => (shT sh b 4).testBit (q m)) N < 1000 by omega)]
      generalize ht : pt x (cn (fun m => (shT sh b 4).testBit (q m)) N) = t at hlt ⊢
      have L2 : ∀ w, w = nI t → Gy xs (ab_at 144 55) 144 55 [some (.ref 199), some (.ref 201), some (.int (nI b)), some (.int x), some (.int (nI (cn (fun m => (shT sh b 4).testBit (q m)) N))), some (.int w), some (.int (nI 0))] [] (SH ++ E, I, J) Q := by
        intro w hw
        have key : ∀ d j w, j + d = N → cn (fun m => (shT sh b 4).testBit (q m)) j ≤ t → w = nI (t - cn (fun m => (shT sh b 4).testBit (q m)) j) → Gy xs (ab_at 144 55) 144 55 [some (.ref 199), some (.ref 201), some (.int (nI b)), some (.int x), some (.int (nI (cn (fun m => (shT sh b 4).testBit (q m)) N))), some (.int w), some (.int (nI j))] [] (SH ++ E, I, J) Q := by
          intro d
          induction d with
          | zero =>
            intro j w hj hc hw
            have e : j = N := by omega
            subst e
            omega
          | succ d ih =>
            intro j w hj hc hw
            have hjN : j < N := by omega
            have es : cn (fun m => (shT sh b 4).testBit (q m)) (j + 1) = cn (fun m => (shT sh b 4).testBit (q m)) j + ((shT sh b 4).testBit (q j)).toNat := rfl
            have ho := hov j hjN
            rw [at_144_55]
            cases hm : (shT sh b 4).testBit (q j) with
            | false =>
              rw [hm] at es ho
              simp (disch := first | omega | assumption | exact yrt_144 | exact y_ok hE (by decide) | fail) only [yrt_144, ab_kl_n, ab_kl_i, ab_kl_r, ab_kl_l, Gy_iload_6, at_144_57, Gy_aload_0, at_144_58, Gy_iconst, kc_1, at_144_59, Gy_iaload, q_in, q_cl, jy_144_60, q_le, q_lt, q_eq, n_leT, n_leF, n_ltT, n_ltF, n_eqF, n_b0, at_144_63, at_144_64, kc_0, at_144_65, at_144_66, Gy_aload_1, at_144_67, at_144_69, at_144_70, Gy_iload_2, at_144_71, cy_57, cat_n, cat_i, cat_r, cat_l, tl_i, tl_l, tl_n, y_sh, y_shh, jy_144_74, at_144_77, Gy_iload_5, at_144_79, Gy_iinc_5, ab_put_int_5, jy_144_82, at_144_85, at_144_87, Gy_reti, at_144_88, Gy_iinc_6, ab_put_int_6, q_add, jy_144_91, at_144_94, kc_m1, at_144_95, Nat.reduceAdd, Nat.reduceMul, Nat.reduceLeDiff, Nat.reduceSub, decide_true, decide_false, Bool.toNat_true, Bool.toNat_false, not_true_eq_false, not_false_eq_true, ite_not, true_and, and_true, if_true, if_false, ↓reduceIte, Bool.or_true, Bool.true_or, Bool.or_false, ry_199 hE, ny_199 hE, ry_201 hE, ny_201 hE, z0, z1, hq1 j hjN, ho]
              exact ih (j + 1) w (by omega) (by rw [es]; exact hc) (by rw [es]; exact hw)
            | true =>
              rw [hm] at es ho
              by_cases c0 : t - cn (fun m => (shT sh b 4).testBit (q m)) j = 0
              · rw [c0] at hw
                simp (disch := first | omega | assumption | exact yrt_144 | exact y_ok hE (by decide) | fail) only [yrt_144, ab_kl_n, ab_kl_i, ab_kl_r, ab_kl_l, Gy_iload_6, at_144_57, Gy_aload_0, at_144_58, Gy_iconst, kc_1, at_144_59, Gy_iaload, q_in, q_cl, jy_144_60, q_le, q_lt, q_eq, n_leT, n_leF, n_ltT, n_ltF, n_eqF, n_b0, at_144_63, at_144_64, kc_0, at_144_65, at_144_66, Gy_aload_1, at_144_67, at_144_69, at_144_70, Gy_iload_2, at_144_71, cy_57, cat_n, cat_i, cat_r, cat_l, tl_i, tl_l, tl_n, y_sh, y_shh, jy_144_74, at_144_77, Gy_iload_5, at_144_79, Gy_iinc_5, ab_put_int_5, jy_144_82, at_144_85, at_144_87, Gy_reti, at_144_88, Gy_iinc_6, ab_put_int_6, q_add, jy_144_91, at_144_94, kc_m1, at_144_95, Nat.reduceAdd, Nat.reduceMul, Nat.reduceLeDiff, Nat.reduceSub, decide_true, decide_false, Bool.toNat_true, Bool.toNat_false, not_true_eq_false, not_false_eq_true, ite_not, true_and, and_true, if_true, if_false, ↓reduceIte, Bool.or_true, Bool.true_or, Bool.or_false, ry_199 hE, ny_199 hE, ry_201 hE, ny_201 hE, z0, z1, hq1 j hjN, ho, hw]
                exact K1 j hjN hm
              · have hne : ¬ nI (t - cn (fun m => (shT sh b 4).testBit (q m)) j) = nI 0 := nI_ne0 (by omega) (by omega)
                simp (disch := first | omega | assumption | exact yrt_144 | exact y_ok hE (by decide) | fail) only [yrt_144, ab_kl_n, ab_kl_i, ab_kl_r, ab_kl_l, Gy_iload_6, at_144_57, Gy_aload_0, at_144_58, Gy_iconst, kc_1, at_144_59, Gy_iaload, q_in, q_cl, jy_144_60, q_le, q_lt, n_leT, n_leF, n_ltT, n_ltF, n_b0, at_144_63, at_144_64, kc_0, at_144_65, at_144_66, Gy_aload_1, at_144_67, at_144_69, at_144_70, Gy_iload_2, at_144_71, cy_57, cat_n, cat_i, cat_r, cat_l, tl_i, tl_l, tl_n, y_sh, y_shh, jy_144_74, at_144_77, Gy_iload_5, at_144_79, Gy_iinc_5, ab_put_int_5, jy_144_82, at_144_85, at_144_87, Gy_reti, at_144_88, Gy_iinc_6, ab_put_int_6, q_add, jy_144_91, at_144_94, kc_m1, at_144_95, Nat.reduceAdd, Nat.reduceMul, Nat.reduceLeDiff, Nat.reduceSub, decide_true, decide_false, Bool.toNat_true, Bool.toNat_false, not_true_eq_false, not_false_eq_true, ite_not, true_and, and_true, if_true, if_false, ↓reduceIte, Bool.or_true, Bool.true_or, Bool.or_false, ry_199 hE, ny_199 hE, ry_201 hE, ny_201 hE, z0, z1, hq1 j hjN, ho, hw, hne, q_eq (show (Bool.toNat true) < 2147483648 by decide) (show 0 < 2147483648 by omega)]
                refine ih (j + 1) _ (by omega) (by rw [es]; simp; omega) ?_
                rw [es]
                obtain ⟨g, hg⟩ : ∃ g, t - cn (fun m => (shT sh b 4).testBit (q m)) j = g + 1 := ⟨t - cn (fun m => (shT sh b 4).testBit (q m)) j - 1, by omega⟩
                rw [hg, show t - (cn (fun m => (shT sh b 4).testBit (q m)) j + Bool.toNat true) = g by simp; omega]
                exact pk_m1 g
        exact key N 0 w (by omega) (Nat.zero_le _) (by rw [hw]; rfl)
      exact L2 _ rfl
    · rw [at_144_6]
      have es : cn (fun m => (shT sh b 4).testBit (q m)) (j + 1) = cn (fun m => (shT sh b 4).testBit (q m)) j + ((shT sh b 4).testBit (q j)).toNat := rfl
      have ho := hov j hj
      rw [es] at ih
      simp (disch := first | omega | assumption | exact yrt_144 | exact y_ok hE (by decide) | fail) only [yrt_144, ab_kl_n, ab_kl_i, ab_kl_r, ab_kl_l, at_144_0, Gy_iconst, kc_0, at_144_1, Gy_istore_4, ab_put_int_4, at_144_3, at_144_4, Gy_istore_5, ab_put_int_5, Gy_iload_5, at_144_8, Gy_aload_0, at_144_9, kc_1, at_144_10, Gy_iaload, q_in, q_cl, jy_144_11, q_le, q_lt, q_eq, n_leT, n_leF, n_ltT, n_ltF, n_eqF, n_b0, at_144_14, Gy_iload_4, at_144_16, at_144_17, at_144_18, at_144_19, Gy_aload_1, at_144_20, at_144_22, at_144_23, Gy_iload_2, at_144_24, cy_57, cat_n, cat_i, cat_r, cat_l, tl_i, tl_l, tl_n, y_sh, y_shh, jy_144_27, at_144_30, jy_144_31, at_144_34, at_144_35, Gy_iadd, q_add, Nat.zero_add, at_144_36, at_144_38, Gy_iinc_5, jy_144_41, Nat.reduceAdd, Nat.reduceMul, Nat.reduceLeDiff, Nat.reduceSub, decide_true, decide_false, Bool.toNat_true, Bool.toNat_false, not_true_eq_false, not_false_eq_true, ite_not, true_and, and_true, if_true, if_false, ↓reduceIte, Bool.or_true, Bool.true_or, Bool.or_false, ry_199 hE, ny_199 hE, ry_201 hE, ny_201 hE, z0, z1, hq1 j hj, ho]
      cases hm : (shT sh b 4).testBit (q j) with
      | false => rw [hm] at ih; simpa using ih
      | true => rw [hm] at ih; simpa [show ¬ nI 1 = nI 0 by decide] using ih
  exact L1 none
end ATE
