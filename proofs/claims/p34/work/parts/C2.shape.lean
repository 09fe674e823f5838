/-! THE LAW'S SHAPES, what may be an operand -/
def snX (sh : Nat) (q : Nat → Nat) (n m : Nat) : Bool := if q n = q m then decide (n < m) else (shT sh (q m) 4).testBit (q n)
def mayK (sh : Nat) (k q : Nat → Nat) (m n i : Nat) : Bool := if k n = 7 then (shT sh (shT sh (q n) (6 + i)) 4).testBit (q m) else snX sh q m n
theorem shT_lt : ∀ sh, sh < 4 → ∀ b, b < 6 → ∀ w, w < 8 → shT sh b w < 64 ∧ (w ≠ 4 → shT sh b w ≤ 6) ∧ (6 ≤ w → shT sh b w < 6) := by decide +kernel
theorem q_bit {T a : Nat} (hT : T < 2147483648) (ha : a < 32) : nI T >>> (nI a &&& 31) &&& nI 1 = nI (T.testBit a).toNat := by
  rw [q_sshr hT ha, q_and]
  congr 1
  rw [Nat.testBit, Nat.and_comm]
  have : 1 &&& T >>> a = (T >>> a) % 2 := by rw [Nat.and_comm]; exact Nat.and_one_is_mod _
  rw [this]
  rcases Nat.mod_two_eq_zero_or_one (T >>> a) with h | h <;> simp [h]
section SHP
variable {xs : List Int32} {h : ab_H} {Q : Option Value → ab_H → Prop} {E : ab_Sh} {I : Nat → Nat → Int32} {J : Nat → Nat → Int64} {sh N : Nat} {k q : Nat → Nat}
theorem y_shape (hs : sh < 4) {b w : Nat} (hb : b < 6) (hw : w < 8) : Ey xs 139 [.int (nI sh), .int (nI b), .int (nI w)] h Q = Q (some (.int (nI (shT sh b w)))) h := by
  rcases (by omega : sh = 0 ∨ sh = 1 ∨ sh = 2 ∨ sh = 3) with rfl | rfl | rfl | rfl <;> rcases (by omega : w = 0 ∨ w = 1 ∨ w = 2 ∨ w = 3 ∨ w = 4 ∨ w = 5 ∨ w = 6 ∨ w = 7) with rfl | rfl | rfl | rfl | rfl | rfl | rfl | rfl
  all_goals
    rw [ey_139]
    simp (disch := first | omega | assumption | exact yrt_139 | fail) only [yrt_139, ab_kl_n, ab_kl_i, ab_kl_r, ab_kl_l, at_139_0, Gy_iload_2, jy_139_1, q_le, q_lt, q_eq, n_leT, n_leF, n_ltT, n_ltF, n_eqF, n_b0, at_139_4, Gy_iload_0, jy_139_5, at_139_8, Gy_iconst, kc_1, jy_139_9, at_139_12, at_139_13, kc_3, jy_139_14, at_139_17, Gy_bipush, kb_6, jy_139_19, at_139_22, kc_4, at_139_23, Gy_reti, at_139_24, jy_139_25, at_139_28, at_139_29, jy_139_30, at_139_33, kc_2, jy_139_34, at_139_37, at_139_38, jy_139_39, at_139_42, jy_139_43, at_139_46, kc_0, at_139_47, at_139_48, at_139_49, jy_139_50, at_139_53, at_139_54, jy_139_55, at_139_58, Gy_iload_1, jy_139_59, at_139_62, jy_139_63, at_139_66, at_139_67, jy_139_68, at_139_71, jy_139_72, at_139_75, jy_139_76, at_139_79, at_139_80, jy_139_81, at_139_84, jy_139_85, at_139_88, jy_139_89, at_139_92, jy_139_93, at_139_96, at_139_97, jy_139_98, at_139_101, jy_139_102, at_139_105, at_139_106, jy_139_107, at_139_110, jy_139_111, at_139_114, jy_139_115, at_139_118, at_139_119, at_139_120, at_139_121, Gy_ishl, q_shl, at_139_122, Gy_ior, q_or, jy_139_123, at_139_126, at_139_127, kc_5, jy_139_128, at_139_131, jy_139_132, at_139_135, jy_139_136, at_139_139, at_139_140, jy_139_141, at_139_144, jy_139_145, at_139_148, jy_139_149, at_139_152, at_139_153, jy_139_155, at_139_158, at_139_159, jy_139_160, at_139_163, jy_139_164, at_139_167, jy_139_168, at_139_171, at_139_172, at_139_173, at_139_174, jy_139_175, at_139_178, at_139_179, jy_139_180, at_139_183, at_139_184, jy_139_185, at_139_188, jy_139_189, at_139_192, at_139_193, jy_139_194, at_139_197, jy_139_198, at_139_201, jy_139_202, at_139_205, at_139_206, jy_139_207, at_139_210, at_139_211, jy_139_212, at_139_215, jy_139_216, at_139_219, jy_139_220, at_139_223, at_139_224, jy_139_225, at_139_228, jy_139_229, at_139_232, at_139_233, jy_139_234, at_139_237, jy_139_238, at_139_241, jy_139_242, at_139_245, at_139_246, jy_139_247, at_139_250, jy_139_251, at_139_254, at_139_255, at_139_256, at_139_257, at_139_258, jy_139_259, at_139_262, at_139_263, jy_139_264, at_139_267, jy_139_268, at_139_271, jy_139_272, at_139_275, at_139_276, jy_139_277, at_139_280, jy_139_281, at_139_284, jy_139_285, at_139_288, at_139_289, jy_139_291, at_139_294, at_139_295, jy_139_296, at_139_299, jy_139_300, at_139_303, jy_139_304, at_139_307, at_139_308, at_139_309, at_139_310, jy_139_311, at_139_314, at_139_315, jy_139_316, at_139_319, at_139_320, jy_139_321, at_139_324, jy_139_325, at_139_328, at_139_329, jy_139_330, at_139_333, jy_139_334, at_139_337, at_139_338, at_139_339, at_139_340, jy_139_341, at_139_344, jy_139_345, at_139_348, at_139_349, jy_139_350, at_139_353, jy_139_354, at_139_357, at_139_358, jy_139_359, at_139_362, jy_139_363, at_139_366, at_139_367, jy_139_368, at_139_371, jy_139_372, at_139_375, at_139_376, at_139_377, at_139_378, jy_139_379, at_139_382, at_139_383, jy_139_384, at_139_387, jy_139_388, at_139_391, at_139_392, at_139_393, at_139_394, jy_139_395, at_139_398, jy_139_399, at_139_402, jy_139_403, at_139_406, at_139_407, jy_139_408, at_139_411, jy_139_412, at_139_415, at_139_416, jy_139_417, at_139_420, kb_7, jy_139_422, at_139_425, at_139_426, jy_139_427, at_139_430, kb_35, jy_139_432, at_139_435, at_139_437, at_139_438, at_139_439, at_139_440, at_139_441, at_139_442, at_139_443, jy_139_444, at_139_447, jy_139_448, at_139_451, jy_139_452, at_139_455, at_139_456, jy_139_457, at_139_460, at_139_461, jy_139_462, at_139_465, jy_139_466, at_139_469, at_139_470, at_139_471, at_139_472, jy_139_474, at_139_477, at_139_478, jy_139_479, at_139_482, jy_139_483, at_139_486, at_139_487, jy_139_488, at_139_491, jy_139_492, at_139_495, at_139_496, jy_139_497, at_139_500, jy_139_501, at_139_504, jy_139_505, at_139_508, at_139_509, jy_139_510, at_139_513, jy_139_514, at_139_517, at_139_518, Nat.reduceAdd, Nat.reduceMul, Nat.reduceLeDiff, Nat.reduceSub, decide_true, decide_false, Bool.toNat_true, Bool.toNat_false, not_true_eq_false, not_false_eq_true, ite_not, true_and, and_true, if_true, if_false, ↓reduceIte, Bool.or_true, Bool.true_or, Bool.or_false]
    rcases (by omega : b = 0 ∨ b = 1 ∨ b = 2 ∨ b = 3 ∨ b = 4 ∨ b = 5) with rfl | rfl | rfl | rfl | rfl | rfl <;> rfl
theorem y_over (hs : sh < 4) {a b : Nat} (ha : a < 6) (hb : b < 6) : Ey xs 140 [.int (nI sh), .int (nI a), .int (nI b)] h Q = Q (some (.int (nI ((shT sh b 4).testBit a).toNat))) h := by
  have e := (shT_lt sh hs b hb 4 (by omega)).1
  rw [ey_140]
  simp (disch := first | omega | assumption | exact yrt_140 | fail) only [yrt_140, ab_kl_n, ab_kl_i, ab_kl_r, ab_kl_l, at_140_0, Gy_iload_0, at_140_1, Gy_iload_2, at_140_2, Gy_iconst, kc_4, at_140_3, cy_53, cat_n, cat_i, cat_r, cat_l, tl_i, tl_l, tl_n, y_sh, y_shh, at_140_6, Gy_iload_1, at_140_7, Gy_ishr, at_140_8, kc_1, at_140_9, Gy_iand, at_140_10, jy_140_11, q_le, q_lt, q_eq, n_leT, n_leF, n_ltT, n_ltF, n_eqF, n_b0, at_140_14, jy_140_15, at_140_18, kc_0, at_140_19, Gy_retb, Gy_retb0, Gy_retb1, Nat.reduceAdd, Nat.reduceMul, Nat.reduceLeDiff, Nat.reduceSub, decide_true, decide_false, Bool.toNat_true, Bool.toNat_false, not_true_eq_false, not_false_eq_true, ite_not, true_and, and_true, if_true, if_false, ↓reduceIte, Bool.or_true, Bool.true_or, Bool.or_false, y_shape hs hb (show 4 < 8 by omega), q_bit (show shT sh b 4 < 2147483648 by omega) (show a < 32 by omega)]
  cases (shT sh b 4).testBit a <;> simp [q_eq]
theorem y_seen (hE : YX E) (hs : sh < 4) (z0 : I 199 0 = nI sh) (hq : ∀ i, i < N → I 201 i = nI (q i) ∧ q i < 6) (hN : N ≤ 20) {n m : Nat} (hn : n < N) (hm : m < N) : Ey xs 141 [.ref 199, .ref 201, .int (nI n), .int (nI m)] (SH ++ E, I, J) Q = Q (some (.int (nI (snX sh q n m).toNat))) (SH ++ E, I, J) := by
  obtain ⟨a1, a2⟩ := hq n hn
  obtain ⟨b1, b2⟩ := hq m hm
  rw [ey_141]
  simp (disch := first | omega | assumption | exact yrt_141 | fail) only [yrt_141, ab_kl_n, ab_kl_i, ab_kl_r, ab_kl_l, at_141_0, Gy_aload_1, at_141_1, Gy_iload_2, at_141_2, Gy_iaload, q_in, q_cl, at_141_3, at_141_4, Gy_iload_3, at_141_5, jy_141_6, q_le, q_lt, q_eq, n_leT, n_leF, n_ltT, n_ltF, n_eqF, n_b0, at_141_9, at_141_10, jy_141_11, at_141_14, Gy_iconst, kc_1, jy_141_15, at_141_18, kc_0, jy_141_19, at_141_22, Gy_aload_0, at_141_23, at_141_24, at_141_25, at_141_26, at_141_27, at_141_28, at_141_29, at_141_30, at_141_31, cy_57, cat_n, cat_i, cat_r, cat_l, tl_i, tl_l, tl_n, y_sh, y_shh, at_141_34, Gy_retb, Gy_retb0, Gy_retb1, Nat.reduceAdd, Nat.reduceMul, Nat.reduceLeDiff, Nat.reduceSub, decide_true, decide_false, Bool.toNat_true, Bool.toNat_false, not_true_eq_false, not_false_eq_true, ite_not, true_and, and_true, if_true, if_false, ↓reduceIte, Bool.or_true, Bool.true_or, Bool.or_false, ry_199 hE, ny_199 hE, ry_201 hE, ny_201 hE, a1, b1, z0, y_over hs a2 b2]
  unfold snX
  by_cases c : q n = q m
  · by_cases d : n < m
    · simp [c, d, Nat.not_le.mpr d]
    · simp [c, d, Nat.not_lt.mp d]
  · simp [c]
theorem y_may (hE : YX E) (hs : sh < 4) (z0 : I 199 0 = nI sh) (hk : ∀ i, i < N → I 200 i = nI (k i) ∧ k i < 10) (hq : ∀ i, i < N → I 201 i = nI (q i) ∧ q i < 6) (hN : N ≤ 20) {m n i : Nat} (hm : m < N) (hn : n < N) (hi : i < 2) : Ey xs 142 [.ref 199, .ref 200, .ref 201, .int (nI m), .int (nI n), .int (nI i)] (SH ++ E, I, J) Q = Q (some (.int (nI (mayK sh k q m n i).toNat))) (SH ++ E, I, J) := by
  obtain ⟨k1, k2⟩ := hk n hn
  obtain ⟨a1, a2⟩ := hq n hn
  obtain ⟨b1, b2⟩ := hq m hm
  have e6 := (shT_lt sh hs (q n) a2 (6 + i) (by omega)).2.2 (by omega)
  rw [ey_142]
  simp (disch := first | omega | assumption | exact yrt_142 | exact y_ok hE (by decide) | fail) only [yrt_142, ab_kl_n, ab_kl_i, ab_kl_r, ab_kl_l, at_142_0, Gy_aload_1, at_142_1, Gy_iload_4, at_142_3, Gy_iaload, q_in, q_cl, at_142_4, Gy_bipush, kb_7, jy_142_6, q_le, q_lt, q_eq, n_leT, n_leF, n_ltT, n_ltF, n_eqF, n_b0, at_142_9, Gy_aload_0, at_142_10, Gy_iconst, kc_0, at_142_11, at_142_12, Gy_aload_2, at_142_13, Gy_iload_3, at_142_14, at_142_15, at_142_16, at_142_17, at_142_18, at_142_19, at_142_21, at_142_22, kb_6, at_142_24, Gy_iload_5, at_142_26, Gy_iadd, q_add, Nat.zero_add, at_142_27, cy_53, cat_n, cat_i, cat_r, cat_l, tl_i, tl_l, tl_n, y_sh, y_shh, at_142_30, cy_57, jy_142_33, at_142_36, at_142_37, at_142_38, at_142_39, at_142_41, cy_61, at_142_44, Gy_retb, Gy_retb0, Gy_retb1, Nat.reduceAdd, Nat.reduceMul, Nat.reduceLeDiff, Nat.reduceSub, decide_true, decide_false, Bool.toNat_true, Bool.toNat_false, not_true_eq_false, not_false_eq_true, ite_not, true_and, and_true, if_true, if_false, ↓reduceIte, Bool.or_true, Bool.true_or, Bool.or_false, ry_199 hE, ny_199 hE, ry_200 hE, ny_200 hE, ry_201 hE, ny_201 hE, k1, a1, b1, z0, y_shape hs a2 (show 6 + i < 8 by omega), y_over hs b2 e6, y_seen hE hs z0 hq hN hm hn]
  unfold mayK
  by_cases c : k n = 7
  · simp [c]
  · simp [c]
theorem y_pick (hE : YX E) (hs : sh < 4) (z0 : I 199 0 = nI sh) (z1 : I 199 1 = nI N) (hk : ∀ i, i < N → I 200 i = nI (k i) ∧ k i < 10) (hq : ∀ i, i < N → I 201 i = nI (q i) ∧ q i < 6) (hN : N ≤ 20) {n i : Nat} (hn : n < N) (hi : i < 2) (x : Int32)
    (K0 : (∀ m, m < N → mayK sh k q m n i = false) → Q (some (.int (-1))) (SH ++ E, I, J)) (K1 : ∀ m, m < N → mayK sh k q m n i = true → Q (some (.int (nI m))) (SH ++ E, I, J)) : Ey xs 143 [.ref 199, .ref 200, .ref 201, .int (nI n), .int (nI i), .int x] (SH ++ E, I, J) Q := by
  have hmay := fun m (hm : m < N) (Q : Option Value → ab_H → Prop) => y_may (xs := xs) (J := J) (Q := Q) hE hs z0 hk hq hN hm hn hi
  have hcl := fun m => cn_le (fun m => mayK sh k q m n i) m
  rw [ey_143]
  simp (disch := first | omega | assumption | exact yrt_143 | fail) only [yrt_143, ab_kl_n, ab_kl_i, ab_kl_r, ab_kl_l, at_143_0, Gy_iconst, kc_0, at_143_1, Gy_istore_6, ab_put_int_6, at_143_3, at_143_4, Gy_istore_7, ab_put_int_7, Nat.reduceAdd, Nat.reduceMul, Nat.reduceLeDiff, Nat.reduceSub, decide_true, decide_false, Bool.toNat_true, Bool.toNat_false, not_true_eq_false, not_false_eq_true, ite_not, true_and, and_true, if_true, if_false, ↓reduceIte, Bool.or_true, Bool.true_or, Bool.or_false, ry_199 hE]
  have L1 : ∀ v1, Gy xs (ab_at 143 6) 143 6 [some (.ref 199), some (.ref 200), some (.ref 201), some (.int (nI n)), some (.int (nI i)), some (.int x), some (.int (nI (cn (fun m => mayK sh k q m n i) 0))), some (.int (nI 0)), v1] [] (SH ++ E, I, J) Q := by
    intro v1
    refine lp_wp (a := 0) (N := N) (Nat.zero_le _) (fun j => Gy xs (ab_at 143 6) 143 6 [some (.ref 199), some (.ref 200), some (.ref 201), some (.int (nI n)), some (.int (nI i)), some (.int x), some (.int (nI (cn (fun m => mayK sh k q m n i) j))), some (.int (nI j)), v1] [] (SH ++ E, I, J) Q) ?_ (fun j _ hj ih => ?_)
    · have c1 := hcl N
      rw [at_143_6]
      by_cases c : cn (fun m => mayK sh k q m n i) N = 0
      · simp (disch := first | omega | assumption | exact yrt_143 | fail) only [yrt_143, ab_kl_n, ab_kl_i, ab_kl_r, ab_kl_l, at_143_0, Gy_iconst, kc_0, at_143_1, Gy_istore_6, ab_put_int_6, at_143_3, at_143_4, Gy_istore_7, ab_put_int_7, Gy_iload_7, at_143_8, Gy_aload_0, at_143_9, kc_1, at_143_10, Gy_iaload, q_in, q_cl, jy_143_11, q_le, q_lt, q_eq, n_leT, n_leF, n_ltT, n_ltF, n_eqF, n_b0, at_143_14, Gy_iload_6, at_143_16, at_143_17, Gy_aload_1, at_143_18, Gy_aload_2, at_143_19, at_143_21, Gy_iload_3, at_143_22, Gy_iload_4, at_143_24, cy_65, cat_n, cat_i, cat_r, cat_l, tl_i, tl_l, tl_n, y_sh, y_shh, jy_143_27, at_143_30, jy_143_31, at_143_34, at_143_35, Gy_iadd, q_add, Nat.zero_add, at_143_36, at_143_38, Gy_iinc_7, jy_143_41, at_143_44, jy_143_46, at_143_49, kc_m1, at_143_50, Gy_reti, Nat.reduceAdd, Nat.reduceMul, Nat.reduceLeDiff, Nat.reduceSub, decide_true, decide_false, Bool.toNat_true, Bool.toNat_false, not_true_eq_false, not_false_eq_true, ite_not, true_and, and_true, if_true, if_false, ↓reduceIte, Bool.or_true, Bool.true_or, Bool.or_false, ry_199 hE, ny_199 hE, z1, c]
        refine K0 fun m hm => ?_
        cases hc : mayK sh k q m n i with
        | false => rfl
        | true =>
          have := cn_pos (f := fun m => mayK sh k q m n i) hm hc
          omega
      · have hp : 0 < cn (fun m => mayK sh k q m n i) N := by omega
        have hlt := pt_lt (v := x) hp
        simp (disch := first | omega | assumption | exact yrt_143 | fail) only [yrt_143, ab_kl_n, ab_kl_i, ab_kl_r, ab_kl_l, at_143_0, Gy_iconst, kc_0, at_143_1, Gy_istore_6, ab_put_int_6, at_143_3, at_143_4, Gy_istore_7, ab_put_int_7, Gy_iload_7, at_143_8, Gy_aload_0, at_143_9, kc_1, at_143_10, Gy_iaload, q_in, q_cl, jy_143_11, q_le, q_lt, q_eq, n_leT, n_leF, n_ltT, n_ltF, n_eqF, n_b0, at_143_14, Gy_iload_6, at_143_16, at_143_17, Gy_aload_1, at_143_18, Gy_aload_2, at_143_19, at_143_21, Gy_iload_3, at_143_22, Gy_iload_4, at_143_24, cy_65, cat_n, cat_i, cat_r, cat_l, tl_i, tl_l, tl_n, y_sh, y_shh, jy_143_27, at_143_30, jy_143_31, at_143_34, at_143_35, Gy_iadd, q_add, Nat.zero_add, at_143_36, at_143_38, Gy_iinc_7, jy_143_41, at_143_44, jy_143_46, at_143_49, kc_m1, at_143_50, Gy_reti, at_143_51, Gy_iload_5, at_143_53, at_143_55, cy_69, at_143_58, at_143_60, at_143_61, Gy_istore_8, ab_put_int_8, Nat.reduceAdd, Nat.reduceMul, Nat.reduceLeDiff, Nat.reduceSub, decide_true, decide_false, Bool.toNat_true, Bool.toNat_false, not_true_eq_false, not_false_eq_true, ite_not, true_and, and_true, if_true, if_false, ↓reduceIte, Bool.or_true, Bool.true_or, Bool.or_false, ry_199 hE, ny_199 hE, z1, c, y_part x hp (show cn (fun m => mayK sh k q m n i) N < 1000 by omega)]
        generalize ht : pt x (cn (fun m => mayK sh k q m n i) N) = t at hlt ⊢
        have L2 : ∀ w, w = nI t → Gy xs (ab_at 143 63) 143 63 [some (.ref 199), some (.ref 200), some (.ref 201), some (.int (nI n)), some (.int (nI i)), some (.int x), some (.int (nI (cn (fun m => mayK sh k q m n i) N))), some (.int w), some (.int (nI 0))] [] (SH ++ E, I, J) Q := by
          intro w hw
          have key : ∀ d j w, j + d = N → cn (fun m => mayK sh k q m n i) j ≤ t → w = nI (t - cn (fun m => mayK sh k q m n i) j) → Gy xs (ab_at 143 63) 143 63 [some (.ref 199), some (.ref 200), some (.ref 201), some (.int (nI n)), some (.int (nI i)), some (.int x), some (.int (nI (cn (fun m => mayK sh k q m n i) N))), some (.int w), some (.int (nI j))] [] (SH ++ E, I, J) Q := by
            intro d
            induction d with
            | zero =>
              intro j w hj hc hw
              have e : j = N := by omega
              subst e
              omega
            | succ d ih =>
              intro j w hj hc hw
              have hjN : j < N := by omega
              have es : cn (fun m => mayK sh k q m n i) (j + 1) = cn (fun m => mayK sh k q m n i) j + (mayK sh k q j n i).toNat := rfl
              rw [at_143_63]
              cases hm : mayK sh k q j n i with
              | false =>
                rw [hm] at es
                simp (disch := first | omega | assumption | exact yrt_143 | exact y_ok hE (by decide) | fail) only [yrt_143, ab_kl_n, ab_kl_i, ab_kl_r, ab_kl_l, Gy_iload_8, at_143_65, Gy_aload_0, at_143_66, Gy_iconst, kc_1, at_143_67, Gy_iaload, q_in, q_cl, jy_143_68, q_le, q_lt, q_eq, n_leT, n_leF, n_ltT, n_ltF, n_eqF, n_b0, at_143_71, at_143_72, Gy_aload_1, at_143_73, Gy_aload_2, at_143_74, at_143_76, Gy_iload_3, at_143_77, Gy_iload_4, at_143_79, cy_65, cat_n, cat_i, cat_r, cat_l, tl_i, tl_l, tl_n, y_sh, y_shh, jy_143_82, at_143_85, Gy_iload_7, at_143_87, Gy_iinc_7, ab_put_int_7, jy_143_90, at_143_93, at_143_95, Gy_reti, at_143_96, Gy_iinc_8, ab_put_int_8, q_add, jy_143_99, at_143_102, kc_m1, Nat.reduceAdd, Nat.reduceMul, Nat.reduceLeDiff, Nat.reduceSub, decide_true, decide_false, Bool.toNat_true, Bool.toNat_false, not_true_eq_false, not_false_eq_true, ite_not, true_and, and_true, if_true, if_false, ↓reduceIte, Bool.or_true, Bool.true_or, Bool.or_false, ry_199 hE, ny_199 hE, z1, hmay j hjN, hm]
                exact ih (j + 1) w (by omega) (by rw [es]; exact hc) (by rw [es]; exact hw)
              | true =>
                rw [hm] at es
                by_cases c0 : t - cn (fun m => mayK sh k q m n i) j = 0
                · rw [c0] at hw
                  simp (disch := first | omega | assumption | exact yrt_143 | exact y_ok hE (by decide) | fail) only [yrt_143, ab_kl_n, ab_kl_i, ab_kl_r, ab_kl_l, Gy_iload_8, at_143_65, Gy_aload_0, at_143_66, Gy_iconst, kc_1, at_143_67, Gy_iaload, q_in, q_cl, jy_143_68, q_le, q_lt, q_eq, n_leT, n_leF, n_ltT, n_ltF, n_eqF, n_b0, at_143_71, at_143_72, Gy_aload_1, at_143_73, Gy_aload_2, at_143_74, at_143_76, Gy_iload_3, at_143_77, Gy_iload_4, at_143_79, cy_65, cat_n, cat_i, cat_r, cat_l, tl_i, tl_l, tl_n, y_sh, y_shh, jy_143_82, at_143_85, Gy_iload_7, at_143_87, Gy_iinc_7, ab_put_int_7, jy_143_90, at_143_93, at_143_95, Gy_reti, at_143_96, Gy_iinc_8, ab_put_int_8, q_add, jy_143_99, at_143_102, kc_m1, Nat.reduceAdd, Nat.reduceMul, Nat.reduceLeDiff, Nat.reduceSub, decide_true, decide_false, Bool.toNat_true, Bool.toNat_false, not_true_eq_false, not_false_eq_true, ite_not, true_and, and_true, if_true, if_false, ↓reduceIte, Bool.or_true, Bool.true_or, Bool.or_false, ry_199 hE, ny_199 hE, z1, hmay j hjN, hm, hw]
                  exact K1 j hjN hm
                · have hne : ¬ nI (t - cn (fun m => mayK sh k q m n i) j) = nI 0 := nI_ne0 (by omega) (by omega)
                  simp (disch := first | omega | assumption | exact yrt_143 | exact y_ok hE (by decide) | fail) only [yrt_143, ab_kl_n, ab_kl_i, ab_kl_r, ab_kl_l, Gy_iload_8, at_143_65, Gy_aload_0, at_143_66, Gy_iconst, kc_1, at_143_67, Gy_iaload, q_in, q_cl, jy_143_68, q_le, q_lt, n_leT, n_leF, n_ltT, n_ltF, n_b0, at_143_71, at_143_72, Gy_aload_1, at_143_73, Gy_aload_2, at_143_74, at_143_76, Gy_iload_3, at_143_77, Gy_iload_4, at_143_79, cy_65, cat_n, cat_i, cat_r, cat_l, tl_i, tl_l, tl_n, y_sh, y_shh, jy_143_82, at_143_85, Gy_iload_7, at_143_87, Gy_iinc_7, ab_put_int_7, jy_143_90, at_143_93, at_143_95, Gy_reti, at_143_96, Gy_iinc_8, ab_put_int_8, q_add, jy_143_99, at_143_102, kc_m1, Nat.reduceAdd, Nat.reduceMul, Nat.reduceLeDiff, Nat.reduceSub, decide_true, decide_false, Bool.toNat_true, Bool.toNat_false, not_true_eq_false, not_false_eq_true, ite_not, true_and, and_true, if_true, if_false, ↓reduceIte, Bool.or_true, Bool.true_or, Bool.or_false, ry_199 hE, ny_199 hE, z1, hmay j hjN, hm, hw, hne, q_eq (show (Bool.toNat true) < 2147483648 by decide) (show 0 < 2147483648 by omega)]
                  refine ih (j + 1) _ (by omega) (by rw [es]; simp; omega) ?_
                  rw [es]
                  obtain ⟨g, hg⟩ : ∃ g, t - cn (fun m => mayK sh k q m n i) j = g + 1 := ⟨t - cn (fun m => mayK sh k q m n i) j - 1, by omega⟩
                  rw [hg, show t - (cn (fun m => mayK sh k q m n i) j + Bool.toNat true) = g by simp; omega]
                  exact pk_m1 g
          exact key N 0 w (by omega) (Nat.zero_le _) (by rw [hw]; rfl)
        exact L2 _ rfl
    · rw [at_143_6]
      have es : cn (fun m => mayK sh k q m n i) (j + 1) = cn (fun m => mayK sh k q m n i) j + (mayK sh k q j n i).toNat := rfl
      rw [es] at ih
      simp (disch := first | omega | assumption | exact yrt_143 | exact y_ok hE (by decide) | fail) only [yrt_143, ab_kl_n, ab_kl_i, ab_kl_r, ab_kl_l, at_143_0, Gy_iconst, kc_0, at_143_1, Gy_istore_6, ab_put_int_6, at_143_3, at_143_4, Gy_istore_7, ab_put_int_7, Gy_iload_7, at_143_8, Gy_aload_0, at_143_9, kc_1, at_143_10, Gy_iaload, q_in, q_cl, jy_143_11, q_le, q_lt, q_eq, n_leT, n_leF, n_ltT, n_ltF, n_eqF, n_b0, at_143_14, Gy_iload_6, at_143_16, at_143_17, Gy_aload_1, at_143_18, Gy_aload_2, at_143_19, at_143_21, Gy_iload_3, at_143_22, Gy_iload_4, at_143_24, cy_65, cat_n, cat_i, cat_r, cat_l, tl_i, tl_l, tl_n, y_sh, y_shh, jy_143_27, at_143_30, jy_143_31, at_143_34, at_143_35, Gy_iadd, q_add, Nat.zero_add, at_143_36, at_143_38, Gy_iinc_7, jy_143_41, Nat.reduceAdd, Nat.reduceMul, Nat.reduceLeDiff, Nat.reduceSub, decide_true, decide_false, Bool.toNat_true, Bool.toNat_false, not_true_eq_false, not_false_eq_true, ite_not, true_and, and_true, if_true, if_false, ↓reduceIte, Bool.or_true, Bool.true_or, Bool.or_false, ry_199 hE, ny_199 hE, z1, hmay j hj]
      cases hm : mayK sh k q j n i with
      | false => rw [hm] at ih; simpa using ih
      | true => rw [hm] at ih; simpa [show ¬ nI 1 = nI 0 by decide] using ih
  exact L1 none
end SHP
