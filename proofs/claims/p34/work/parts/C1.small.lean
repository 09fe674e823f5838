/-! THE LAW'S SMALL METHODS -/
def pt (v : Int32) (k : Nat) : Nat := (v &&& nI 2147483647).toNatClampNeg % k
def cellv (xs : List Int32) (c : Nat) : Int32 := if xs.length = 0 then nI (7919 * c + 3) else ((xs.getD (c % xs.length) 0 >>> (nI (c % 7) &&& 31)) ^^^ nI (c / xs.length * 31)) ^^^ nI (c * 2654435)
section SML
variable {xs : List Int32} {h : ab_H} {Q : Option Value → ab_H → Prop}
theorem q_mod (c m : Nat) : nI c - nI (c / m * m) = nI (c % m) := by
  rw [q_sub (Nat.div_mul_le_self c m)]
  congr 1
  have := Nat.div_add_mod c m
  rw [Nat.mul_comm] at this
  omega
theorem pt_lt {v : Int32} {k : Nat} (h : 0 < k) : pt v k < k := Nat.mod_lt _ h
theorem y_part (v : Int32) {k : Nat} (h0 : 0 < k) (hk : k < 1000) : Ey xs 132 [.int v, .int (nI k)] h Q = Q (some (.int (nI (pt v k)))) h := by
  obtain ⟨j, hj, e⟩ := pk_andE v (m := nI 2147483647) 31 (by decide)
  have e2 : pt v k = j % k := by unfold pt; rw [e, nI_clamp hj]
  rw [ey_132]
  simp (disch := first | omega | assumption | exact yrt_132 | fail) only [yrt_132, ab_kl_n, ab_kl_i, ab_kl_r, ab_kl_l, at_132_0, Gy_iload_0, at_132_1, ldy_7, at_132_3, Gy_iand, at_132_4, Gy_iload_1, at_132_5, Gy_irem, at_132_6, Gy_reti, Nat.reduceAdd, Nat.reduceMul, Nat.reduceLeDiff, Nat.reduceSub, decide_true, decide_false, Bool.toNat_true, Bool.toNat_false, not_true_eq_false, not_false_eq_true, ite_not, true_and, and_true, if_true, if_false, ↓reduceIte, Bool.or_true, Bool.true_or, Bool.or_false, e, pk_rem, e2]
  exact propext ⟨fun z => z.2, fun z => ⟨nI_ne0 h0 (by omega), z⟩⟩
theorem y_cell (hx : xs.length ≤ 260) {c : Nat} (hc : c < 500) : Ey xs 133 [.ref 2000, .int (nI c)] h Q = Q (some (.int (cellv xs c))) h := by
  rw [ey_133]
  have el : xs.length.toInt32 = nI xs.length := rfl
  unfold cellv
  by_cases h0 : xs.length = 0
  · simp (disch := first | omega | assumption | exact yrt_133 | fail) only [yrt_133, ab_kl_n, ab_kl_i, ab_kl_r, ab_kl_l, at_133_0, Gy_aload_0, at_133_1, jy_133_2, q_le, q_lt, q_eq, n_leT, n_leF, n_ltT, n_ltF, n_eqF, n_b0, at_133_5, Gy_sipush, ks_7919, at_133_8, Gy_iload_1, at_133_9, Gy_imul, q_mul, at_133_10, Gy_iconst, kc_3, at_133_11, Gy_iadd, q_add, Nat.zero_add, jy_133_12, Nat.reduceAdd, Nat.reduceMul, Nat.reduceLeDiff, Nat.reduceSub, decide_true, decide_false, Bool.toNat_true, Bool.toNat_false, not_true_eq_false, not_false_eq_true, ite_not, true_and, and_true, if_true, if_false, ↓reduceIte, Bool.or_true, Bool.true_or, Bool.or_false, Gy_slen, el, h0, at_133_39, Gy_reti]
    rw [Nat.mul_comm]
    exact if_pos rfl
  · have n0 : ¬ nI xs.length = 0 := nI_ne0 (by omega) (by omega)
    have n1 : ¬ nI xs.length = nI 0 := n0
    have n7 : ¬ nI 7 = 0 := by decide
    have hm : c % xs.length < xs.length := Nat.mod_lt _ (by omega)
    simp (disch := first | omega | assumption | exact yrt_133 | fail) only [yrt_133, ab_kl_n, ab_kl_i, ab_kl_r, ab_kl_l, at_133_0, Gy_aload_0, at_133_1, jy_133_2, q_le, q_lt, n_leT, n_leF, n_ltT, n_ltF, n_b0, at_133_5, Gy_sipush, ks_7919, at_133_8, Gy_iload_1, at_133_9, Gy_imul, q_mul, at_133_10, Gy_iconst, kc_3, at_133_11, Gy_iadd, q_add, Nat.zero_add, jy_133_12, at_133_15, at_133_16, at_133_17, at_133_18, at_133_19, Gy_irem, at_133_20, Gy_iaload, q_in, q_cl, at_133_21, at_133_22, Gy_bipush, kb_7, at_133_24, at_133_25, Gy_ishr, at_133_26, at_133_27, at_133_28, at_133_29, Gy_idiv, at_133_30, kb_31, at_133_32, at_133_33, Gy_ixor, at_133_34, at_133_35, ldy_8, at_133_37, at_133_38, at_133_39, Gy_reti, Nat.reduceAdd, Nat.reduceMul, Nat.reduceLeDiff, Nat.reduceSub, decide_true, decide_false, Bool.toNat_true, Bool.toNat_false, not_true_eq_false, not_false_eq_true, ite_not, true_and, and_true, if_true, if_false, ↓reduceIte, Bool.or_true, Bool.true_or, Bool.or_false, Gy_slen, el, h0, Gy_sload, q_mod, pk_div, n0, n1, n7]
end SML
