/-! THE LAW'S PROGRAM: its names -/
def kI (I : Nat → Nat → Int32) (i : Nat) : Nat := (I 200 i).toNatClampNeg
theorem kI_up {I : Nat → Nat → Int32} {o k : Nat} {v : Int32} (h : 200 ≠ o) : kI (ab_up I o k v) = kI I := by
  funext i
  unfold kI
  rw [ab_up_other _ _ _ h]
theorem kI_upn {I : Nat → Nat → Int32} {n c : Nat} (h : c < 2147483648) (i : Nat) : kI (ab_up I 200 n (nI c)) i = if i = n then c else kI I i := by
  unfold kI
  rw [up_r]
  by_cases e : i = n
  · simp [e, nI_clamp h]
  · simp [e]
theorem mayK_c {sh : Nat} {k k' q : Nat → Nat} {m n i : Nat} (h : k n = 7 ↔ k' n = 7) : mayK sh k q m n i = mayK sh k' q m n i := by
  unfold mayK
  simp only [h]
section PNM
variable {xs : List Int32} {Q : Option Value → ab_H → Prop} {I0 I I' : Nat → Nat → Int32} {J : Nat → Nat → Int64} {sh nb N n : Nat} {q : Nat → Nat} {fi : Nat → Bool}
def PS (sh N : Nat) (q : Nat → Nat) (I : Nat → Nat → Int32) : Prop := I 199 0 = nI sh ∧ I 199 1 = nI N ∧ (∀ i, i < N → I 200 i = nI (kI I i) ∧ kI I i < 10) ∧ ∀ i, i < N → I 201 i = nI (q i) ∧ q i < 6
def NM (sh N : Nat) (q : Nat → Nat) (m : Nat) (I : Nat → Nat → Int32) : Prop := (kI I m ≤ 1 → ∃ t, I 202 m = nI t ∧ (kI I m = 0 → t ≤ 99) ∧ (kI I m = 1 → t ≤ 3)) ∧ (2 ≤ kI I m → ∀ i, i < 2 → ∃ t, t < N ∧ I 203 (2 * m + i) = nI t ∧ mayK sh (kI I) q t m i = true)
def P2 (sh N : Nat) (q : Nat → Nat) (fi : Nat → Bool) (n : Nat) (I : Nat → Nat → Int32) : Prop := PS sh N q I ∧ (∀ m, m < N → kI I m < 8 ∧ (fi m = true ↔ kI I m = 7)) ∧ (∀ m, n ≤ m → m < N → fi m = false → kI I m = 0) ∧ ∀ m, m < n → NM sh N q m I
theorem PS_up {o k : Nat} {v : Int32} (ho : 202 ≤ o) (h : PS sh N q I) : PS sh N q (ab_up I o k v) := by
  obtain ⟨a, b, c, d⟩ := h
  unfold PS
  rw [kI_up (by omega), ab_up_other _ _ _ (show 199 ≠ o by omega), ab_up_other _ _ _ (show 200 ≠ o by omega), ab_up_other _ _ _ (show 201 ≠ o by omega)]
  exact ⟨a, b, c, d⟩
theorem PS_upk {c : Nat} (hc : c < 10) (h : PS sh N q I) : PS sh N q (ab_up I 200 n (nI c)) := by
  obtain ⟨a, b, d, e⟩ := h
  refine ⟨?_, ?_, fun i hi => ?_, fun i hi => ?_⟩
  · rw [ab_up_other _ _ _ (show 199 ≠ 200 by decide)]; exact a
  · rw [ab_up_other _ _ _ (show 199 ≠ 200 by decide)]; exact b
  · rw [kI_upn (by omega), up_r]
    by_cases z : i = n
    · simp [z, hc]
    · simp [z]; exact d i hi
  · rw [ab_up_other _ _ _ (show 201 ≠ 200 by decide)]; exact e i hi
theorem P2_next (h : P2 sh N q fi n I) (ps : PS sh N q I') (hk : ∀ m, m ≠ n → I' 200 m = I 200 m) (hv : ∀ m, m ≠ n → I' 202 m = I 202 m) (hp : ∀ m i, m ≠ n → i < 2 → I' 203 (2 * m + i) = I 203 (2 * m + i))
    (hn : kI I' n < 8 ∧ (fi n = true ↔ kI I' n = 7)) (nm : NM sh N q n I') : P2 sh N q fi (n + 1) I' := by
  obtain ⟨a, b, c, d⟩ := h
  have ek : ∀ m, m ≠ n → kI I' m = kI I m := fun m z => by unfold kI; rw [hk m z]
  refine ⟨ps, fun m hm => ?_, fun m h1 h2 h3 => ?_, fun m hm => ?_⟩
  · by_cases z : m = n
    · rw [z]; exact hn
    · rw [ek m z]; exact b m hm
  · rw [ek m (by omega)]; exact c m (by omega) h2 h3
  · by_cases z : m = n
    · rw [z]; exact nm
    · obtain ⟨x, y⟩ := d m (by omega)
      unfold NM
      rw [ek m z, hv m z]
      refine ⟨x, fun h2 i hi => ?_⟩
      obtain ⟨t, t1, t2, t3⟩ := y h2 i hi
      exact ⟨t, t1, by rw [hp m i z hi]; exact t2, by rw [mayK_c (k' := kI I) (by rw [ek m z])]; exact t3⟩
theorem y_p2op (hs : sh < 4) (hN : N ≤ 20) (ps : PS sh N q I) (hn : n < N) (he : ∀ i, i < 2 → ∃ m, m < N ∧ mayK sh (kI I) q m n i = true) (x : Int32) (w13 w14 w15 : Option Value)
    (K : ∀ m0 m1 w13, m0 < N → m1 < N → mayK sh (kI I) q m0 n 0 = true → mayK sh (kI I) q m1 n 1 = true → Gy xs (ab_at 145 408) 145 408 [some (.ref 0), some (.ref 2000), some (.int (nI 0)), some (.ref 199), some (.ref 200), some (.ref 201), some (.ref 202), some (.ref 203), some (.ref 204), some (.ref 208), some (.int (nI nb)), some (.int (nI n)), some (.int x), w13, w14, w15] [] (SH ++ yE, ab_up (ab_up I 203 (2 * n + 0) (nI m0)) 203 (2 * n + 1) (nI m1), J) Q) :
    Gy xs (ab_at 145 364) 145 364 [some (.ref 0), some (.ref 2000), some (.int (nI 0)), some (.ref 199), some (.ref 200), some (.ref 201), some (.ref 202), some (.ref 203), some (.ref 204), some (.ref 208), some (.int (nI nb)), some (.int (nI n)), some (.int x), w13, w14, w15] [] (SH ++ yE, I, J) Q := by
  simp (disch := first | omega | assumption | exact yrt_145 | fail) only [yrt_145, ab_kl_n, ab_kl_i, ab_kl_r, ab_kl_l, at_145_364, Gy_iconst, kc_0, at_145_365, Gy_istore_13, ab_put_int_13, Nat.reduceAdd, Nat.reduceMul, Nat.reduceLeDiff, Nat.reduceSub, decide_true, decide_false, Bool.toNat_true, Bool.toNat_false, not_true_eq_false, not_false_eq_true, ite_not, true_and, and_true, if_true, if_false, ↓reduceIte, Bool.or_true, Bool.true_or, Bool.or_false]
  rw [at_145_367]
  simp (disch := first | omega | assumption | exact yrt_145 | exact y_ok yE_ok (by decide) | fail) only [yrt_145, ab_kl_n, ab_kl_i, ab_kl_r, ab_kl_l, Gy_iload_13, at_145_369, Gy_iconst, kc_2, jy_145_370, q_le, q_lt, q_eq, n_leT, n_leF, n_ltT, n_ltF, n_eqF, n_b0, at_145_373, Gy_aload_7, at_145_375, at_145_376, Gy_iload_11, at_145_378, Gy_imul, q_mul, at_145_379, at_145_381, Gy_iadd, q_add, Nat.zero_add, at_145_382, Gy_aload_3, at_145_383, Gy_aload_4, at_145_385, Gy_aload_5, at_145_387, at_145_389, at_145_391, Gy_iload_12, at_145_393, kc_3, at_145_394, at_145_396, at_145_397, Gy_ishr, at_145_398, cy_77, cat_n, cat_i, cat_r, cat_l, tl_i, tl_l, tl_n, y_sh, y_shh, Nat.reduceAdd, Nat.reduceMul, Nat.reduceLeDiff, Nat.reduceSub, decide_true, decide_false, Bool.toNat_true, Bool.toNat_false, not_true_eq_false, not_false_eq_true, ite_not, true_and, and_true, if_true, if_false, ↓reduceIte, Bool.or_true, Bool.true_or, Bool.or_false, ry_199 yE_ok, ny_199 yE_ok, ry_200 yE_ok, ny_200 yE_ok, ry_201 yE_ok, ny_201 yE_ok, ry_202 yE_ok, ny_202 yE_ok, ry_203 yE_ok, ny_203 yE_ok, ry_204 yE_ok, ny_204 yE_ok, up_r, Nat.reduceEqDiff, false_and, and_false]
  refine y_pick yE_ok hs ps.1 ps.2.1 ps.2.2.1 ps.2.2.2 hN hn (show 0 < 2 by decide) _ (fun z => ?_) fun m0 hm0 e0 => ?_
  · obtain ⟨m, hm, e⟩ := he 0 (by decide)
    rw [z m hm] at e
    exact absurd e (by decide)
  simp (disch := first | omega | assumption | exact yrt_145 | exact y_ok yE_ok (by decide) | fail) only [yrt_145, ab_kl_n, ab_kl_i, ab_kl_r, ab_kl_l, at_145_398, cy_77, cat_n, cat_i, cat_r, cat_l, tl_i, tl_l, tl_n, y_sh, y_shh, at_145_401, Gy_iastore, q_in, q_cl, y_seti, at_145_402, Gy_iinc_13, ab_put_int_13, kc_1, q_add, jy_145_405, Nat.reduceAdd, Nat.reduceMul, Nat.reduceLeDiff, Nat.reduceSub, decide_true, decide_false, Bool.toNat_true, Bool.toNat_false, not_true_eq_false, not_false_eq_true, ite_not, true_and, and_true, if_true, if_false, ↓reduceIte, Bool.or_true, Bool.true_or, Bool.or_false, ry_199 yE_ok, ny_199 yE_ok, ry_200 yE_ok, ny_200 yE_ok, ry_201 yE_ok, ny_201 yE_ok, ry_202 yE_ok, ny_202 yE_ok, ry_203 yE_ok, ny_203 yE_ok, ry_204 yE_ok, ny_204 yE_ok, up_r, Nat.reduceEqDiff, false_and, and_false]
  rw [at_145_367]
  have ps1 := PS_up (o := 203) (k := 2 * n + 0) (v := nI m0) (by decide) ps
  simp (disch := first | omega | assumption | exact yrt_145 | exact y_ok yE_ok (by decide) | fail) only [yrt_145, ab_kl_n, ab_kl_i, ab_kl_r, ab_kl_l, Gy_iload_13, at_145_369, Gy_iconst, kc_2, jy_145_370, q_le, q_lt, q_eq, n_leT, n_leF, n_ltT, n_ltF, n_eqF, n_b0, at_145_373, Gy_aload_7, at_145_375, at_145_376, Gy_iload_11, at_145_378, Gy_imul, q_mul, at_145_379, at_145_381, Gy_iadd, q_add, Nat.zero_add, at_145_382, Gy_aload_3, at_145_383, Gy_aload_4, at_145_385, Gy_aload_5, at_145_387, at_145_389, at_145_391, Gy_iload_12, at_145_393, kc_3, at_145_394, at_145_396, at_145_397, Gy_ishr, at_145_398, cy_77, cat_n, cat_i, cat_r, cat_l, tl_i, tl_l, tl_n, y_sh, y_shh, Nat.reduceAdd, Nat.reduceMul, Nat.reduceLeDiff, Nat.reduceSub, decide_true, decide_false, Bool.toNat_true, Bool.toNat_false, not_true_eq_false, not_false_eq_true, ite_not, true_and, and_true, if_true, if_false, ↓reduceIte, Bool.or_true, Bool.true_or, Bool.or_false, ry_199 yE_ok, ny_199 yE_ok, ry_200 yE_ok, ny_200 yE_ok, ry_201 yE_ok, ny_201 yE_ok, ry_202 yE_ok, ny_202 yE_ok, ry_203 yE_ok, ny_203 yE_ok, ry_204 yE_ok, ny_204 yE_ok, up_r, Nat.reduceEqDiff, false_and, and_false]
  refine y_pick yE_ok hs ps1.1 ps1.2.1 ps1.2.2.1 ps1.2.2.2 hN hn (show 1 < 2 by decide) _ (fun z => ?_) fun m1 hm1 e1 => ?_
  · obtain ⟨m, hm, e⟩ := he 1 (by decide)
    have z := z m hm
    rw [kI_up (by decide), e] at z
    exact absurd z (by decide)
  rw [kI_up (by decide)] at e1
  simp (disch := first | omega | assumption | exact yrt_145 | exact y_ok yE_ok (by decide) | fail) only [yrt_145, ab_kl_n, ab_kl_i, ab_kl_r, ab_kl_l, at_145_398, cy_77, cat_n, cat_i, cat_r, cat_l, tl_i, tl_l, tl_n, y_sh, y_shh, at_145_401, Gy_iastore, q_in, q_cl, y_seti, at_145_402, Gy_iinc_13, ab_put_int_13, kc_1, q_add, jy_145_405, Nat.reduceAdd, Nat.reduceMul, Nat.reduceLeDiff, Nat.reduceSub, decide_true, decide_false, Bool.toNat_true, Bool.toNat_false, not_true_eq_false, not_false_eq_true, ite_not, true_and, and_true, if_true, if_false, ↓reduceIte, Bool.or_true, Bool.true_or, Bool.or_false, ry_199 yE_ok, ny_199 yE_ok, ry_200 yE_ok, ny_200 yE_ok, ry_201 yE_ok, ny_201 yE_ok, ry_202 yE_ok, ny_202 yE_ok, ry_203 yE_ok, ny_203 yE_ok, ry_204 yE_ok, ny_204 yE_ok, up_r, Nat.reduceEqDiff, false_and, and_false]
  rw [at_145_367]
  simp (disch := first | omega | assumption | exact yrt_145 | fail) only [yrt_145, ab_kl_n, ab_kl_i, ab_kl_r, ab_kl_l, Gy_iload_13, at_145_369, Gy_iconst, kc_2, jy_145_370, q_le, q_lt, q_eq, n_leT, n_leF, n_ltT, n_ltF, n_eqF, n_b0, Nat.reduceAdd, Nat.reduceMul, Nat.reduceLeDiff, Nat.reduceSub, decide_true, decide_false, Bool.toNat_true, Bool.toNat_false, not_true_eq_false, not_false_eq_true, ite_not, true_and, and_true, if_true, if_false, ↓reduceIte, Bool.or_true, Bool.true_or, Bool.or_false]
  exact K m0 m1 _ hm0 hm1 e0 e1
end PNM
