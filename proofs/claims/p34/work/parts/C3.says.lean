/-! THE LAW'S WORDS: what it says to the tape -/
def tS (L : List Nat) : VS := (fun _ _ => 0, fun _ => none, tpL L, L.length, 0, none, fun _ => none, fun _ _ => 0, 0)
def FY (I I' : Nat → Nat → Int32) (J J' : Nat → Nat → Int64) : Prop := Fr (fun o => 199 ≤ o ∧ o ≠ 208) I I' J J'
theorem FY_r {I : Nat → Nat → Int32} {J : Nat → Nat → Int64} : FY I I J J := ⟨fun _ _ _ => rfl, fun _ _ _ => rfl⟩
theorem FY_t {I I' I2 : Nat → Nat → Int32} {J J' J2 : Nat → Nat → Int64} (a : FY I I' J J') (b : FY I' I2 J' J2) : FY I I2 J J2 := ⟨fun o k c => (b.1 o k c).trans (a.1 o k c), fun o k c => (b.2 o k c).trans (a.2 o k c)⟩
theorem tS_ok {L : List Nat} (hL : L.length ≤ 320) (hb : ∀ x ∈ L, x < 128) : OS (tS L) := by
  obtain ⟨a, b, c, d, e⟩ := s0_ok
  refine ⟨a, b, ⟨hL, fun i => ?_⟩, d, e⟩
  show L.getD i 0 < 128
  by_cases hi : i < L.length
  · rw [List.getD_eq_getElem?_getD, List.getElem?_eq_getElem hi]
    exact hb _ (List.getElem_mem hi)
  · rw [List.getD_eq_getElem?_getD, List.getElem?_eq_none (by omega)]
    decide
theorem tS_feed {L : List Nat} {c : Nat} (hc : c < 128) (hL : L.length < 320) : n_feed (tS L) (nI c) = tS (L ++ [c]) := by
  unfold n_feed
  rw [if_pos ⟨by rw [q_le (by omega) (by omega)]; omega, by rw [q_lt (by omega) (by omega)]; omega⟩, if_pos (show v_tl (tS L) < 320 from hL), nI_clamp (by omega)]
  have e : (fun i => if i = L.length then c else tpL L i) = tpL (L ++ [c]) := by
    funext i
    show _ = (L ++ [c]).getD i 0
    by_cases h : i = L.length
    · subst h
      rw [if_pos rfl, List.getD_eq_getElem?_getD, List.getElem?_append_right (Nat.le_refl _), Nat.sub_self]
      rfl
    · rw [if_neg h]
      show L.getD i 0 = _
      by_cases h2 : i < L.length
      · rw [List.getD_eq_getElem?_getD, List.getD_eq_getElem?_getD, List.getElem?_append_left h2]
      · rw [List.getD_eq_getElem?_getD, List.getD_eq_getElem?_getD, List.getElem?_eq_none (by omega), List.getElem?_eq_none (by rw [List.length_append]; simp; omega)]
  have e2 : (L ++ [c]).length = L.length + 1 := by rw [List.length_append]; rfl
  show (fun _ _ => 0, fun _ => none, (fun i => if i = L.length then c else tpL L i), L.length + 1, 0, none, fun _ => none, fun _ _ => 0, 0) = _
  rw [e]
  unfold tS
  rw [e2]
def lw (n : Nat) : Nat := [7239021, 6386279, 6382692, 7173484, 7234919, 1818588019, 6580598, 7366761, 422726034283, 1735357551, 26982, 7497076].getD n 0
def lb (n j : Nat) : Nat := (lw n >>> (8 * j)) % 256
theorem lw_all : ∀ n, n < 12 → ∀ j, j < 8 → ((lN (lw n) >>> ((nI (8 * j)).toInt64 &&& 63)).toInt32 &&& nI 255) = nI (lb n j) ∧ lb n j < 128 := by decide +kernel
def wR (n : Nat) : Nat → List Nat
  | 0 => []
  | j + 1 => (if 0 < lb n j then [lb n j] else []) ++ wR n j
theorem wR_8 : ∀ n, n < 12 → wR n 8 = wB n := by decide +kernel
theorem dg_c : ∀ v, v ≤ 99 → (nI v / nI 10) = nI (v / 10) ∧ (nI v - nI (v / 10) * nI 10) = nI (v % 10) ∧ nI (v / 10) - nI (v / 10) / nI 10 * nI 10 = nI (v / 10) ∧ v / 10 ≤ 9 ∧ v % 10 ≤ 9 := by decide +kernel
def kv (j : Nat) : Int32 := if j = 0 then nI 0 + Int32.ofInt (-8) else nI (8 * (j - 1))
theorem kv_s : ∀ j, j < 8 → nI (8 * j) + Int32.ofInt (-8) = kv j := by decide
section SAY
variable {xs : List Int32} {Q : Option Value → ab_H → Prop} {E : ab_Sh} {I : Nat → Nat → Int32} {J : Nat → Nat → Int64} {L : List Nat}
theorem y_says (hE : YX E) {c : Nat} (hc : c < 128) (hL : L.length < 320) (hb : ∀ x ∈ L, x < 128) (h : SC (tS L) I J) (K : ∀ I' J', SC (tS (L ++ [c])) I' J' → FY I I' J J' → Q none (SH ++ E, I', J')) : Ey xs 134 [.ref 0, .ref 208, .int (nI c)] (SH ++ E, I, J) Q := by
  rw [ey_134]
  simp (disch := first | omega | assumption | exact yrt_134 | exact y_ref0 | fail) only [yrt_134, ab_kl_n, ab_kl_i, ab_kl_r, ab_kl_l, at_134_0, Gy_aload_0, at_134_1, Gy_iload_2, at_134_2, cy_9, cat_n, cat_i, cat_r, cat_l, tl_i, tl_l, tl_n, y_sh, y_shh, Nat.reduceAdd, Nat.reduceMul, Nat.reduceLeDiff, Nat.reduceSub, decide_true, decide_false, Bool.toNat_true, Bool.toNat_false, not_true_eq_false, not_false_eq_true, ite_not, true_and, and_true, if_true, if_false, ↓reduceIte, Bool.or_true, Bool.true_or, Bool.or_false]
  refine Ey_of (C_feed (tS_ok (by omega) hb) h _ fun I' J' sc fr => ⟨I', J', rfl, ?_⟩)
  simp (disch := first | omega | assumption | exact yrt_134 | fail) only [yrt_134, ab_kl_n, ab_kl_i, ab_kl_r, ab_kl_l, at_134_2, cy_9, cat_n, cat_i, cat_r, cat_l, tl_i, tl_l, tl_n, y_sh, y_shh, at_134_5, Gy_pop_int, Gy_pop_ref, at_134_6, Gy_aload_1, at_134_7, Gy_iconst, kc_0, at_134_8, Gy_dup2, at_134_9, Gy_iaload, q_in, q_cl, at_134_10, kc_1, at_134_11, Gy_iadd, q_add, Nat.zero_add, at_134_12, Gy_iastore, y_seti, at_134_13, Gy_return, Nat.reduceAdd, Nat.reduceMul, Nat.reduceLeDiff, Nat.reduceSub, decide_true, decide_false, Bool.toNat_true, Bool.toNat_false, not_true_eq_false, not_false_eq_true, ite_not, true_and, and_true, if_true, if_false, ↓reduceIte, Bool.or_true, Bool.true_or, Bool.or_false, ry_208 hE, ny_208 hE]
  rw [tS_feed hc hL] at sc
  refine K _ _ (SC_fr (tS_ok (by rw [List.length_append]; simp; omega) (fun x hx => ?_)) ⟨fun o k ho => ?_, fun o k ho => rfl⟩ sc) ⟨fun o k ho => ?_, fun o k ho => fr.2 o k ho.1⟩
  · rcases List.mem_append.mp hx with z | z
    · exact hb x z
    · rw [List.mem_singleton.mp z]; exact hc
  · exact congrFun (ab_up_other _ _ _ (by omega)) k
  · rw [← fr.1 o k ho.1]
    exact congrFun (ab_up_other _ _ _ (by omega)) k
theorem y_name (hE : YX E) {n : Nat} (hn : n < 12) (hL : L.length + (wB n).length ≤ 320) (hb : ∀ x ∈ L, x < 128) (h : SC (tS L) I J) (K : ∀ I' J', SC (tS (L ++ wB n)) I' J' → FY I I' J J' → Q none (SH ++ E, I', J')) : Ey xs 135 [.ref 0, .ref 208, .long (lN (lw n))] (SH ++ E, I, J) Q := by
  have key : ∀ j, j ≤ 8 → ∀ (L : List Nat) I J w5, SC (tS L) I J → (∀ x ∈ L, x < 128) → L.length + (wR n j).length ≤ 320 → (∀ I' J', SC (tS (L ++ wR n j)) I' J' → FY I I' J J' → Q none (SH ++ E, I', J')) → Gy xs (ab_at 135 4) 135 4 [some (.ref 0), some (.ref 208), some (.long (lN (lw n))), none, some (.int (kv j)), w5] [] (SH ++ E, I, J) Q := by
    intro j
    induction j with
    | zero =>
      intro _ L I J w5 h hb hl K
      have e : kv 0 < nI 0 := by decide
      rw [at_135_4]
      simp (disch := first | omega | assumption | exact yrt_135 | fail) only [yrt_135, ab_kl_n, ab_kl_i, ab_kl_r, ab_kl_l, Gy_iload_4, jy_135_6, q_le, q_lt, q_eq, n_leT, n_leF, n_ltT, n_ltF, n_eqF, n_b0, Nat.reduceAdd, Nat.reduceMul, Nat.reduceLeDiff, Nat.reduceSub, decide_true, decide_false, Bool.toNat_true, Bool.toNat_false, not_true_eq_false, not_false_eq_true, ite_not, true_and, and_true, if_true, if_false, ↓reduceIte, Bool.or_true, Bool.true_or, Bool.or_false, e, at_135_38, Gy_return]
      exact K I J (by rw [show wR n 0 = [] from rfl, List.append_nil]; exact h) FY_r
    | succ j ih =>
      intro hj L I J w5 h hb hl K
      obtain ⟨w1, w2⟩ := lw_all n hn j (by omega)
      have e : kv (j + 1) = nI (8 * j) := by unfold kv; rw [if_neg (by omega)]; rfl
      have ek := kv_s j (by omega)
      rw [at_135_4, e]
      have ew : wR n (j + 1) = (if 0 < lb n j then [lb n j] else []) ++ wR n j := rfl
      rw [ew] at hl K
      by_cases c : 0 < lb n j
      · rw [if_pos c] at hl K
        rw [List.length_append] at hl
        have hl : L.length + (1 + (wR n j).length) ≤ 320 := hl
        have c1 : ¬ lb n j ≤ 0 := by omega
        simp (disch := first | omega | assumption | exact yrt_135 | exact y_ok hE (by decide) | fail) only [yrt_135, ab_kl_n, ab_kl_i, ab_kl_r, ab_kl_l, jy_135_6, q_le, q_lt, q_eq, n_leT, n_leF, n_ltT, n_ltF, n_eqF, n_b0, at_135_9, Gy_lload_2, at_135_10, Gy_iload_4, at_135_12, Gy_lshr, at_135_13, Gy_l2i, at_135_14, Gy_sipush, ks_255, at_135_17, Gy_iand, at_135_18, Gy_istore_5, ab_put_int_5, at_135_20, Gy_iload_5, jy_135_22, at_135_25, Gy_aload_0, at_135_26, Gy_aload_1, at_135_27, at_135_29, cy_15, cat_n, cat_i, cat_r, cat_l, tl_i, tl_l, tl_n, y_sh, y_shh, Nat.reduceAdd, Nat.reduceMul, Nat.reduceLeDiff, Nat.reduceSub, decide_true, decide_false, Bool.toNat_true, Bool.toNat_false, not_true_eq_false, not_false_eq_true, ite_not, true_and, and_true, if_true, if_false, ↓reduceIte, Bool.or_true, Bool.true_or, Bool.or_false, w1, c, c1]
        refine y_says hE w2 (by omega) hb h fun I' J' sc fl => ?_
        simp (disch := first | omega | assumption | exact yrt_135 | fail) only [yrt_135, ab_kl_n, ab_kl_i, ab_kl_r, ab_kl_l, at_135_29, cy_15, cat_n, cat_i, cat_r, cat_l, tl_i, tl_l, tl_n, y_sh, y_shh, at_135_32, Gy_iinc_4, ab_put_int_4, jy_135_35, at_135_38, Gy_return, Nat.reduceAdd, Nat.reduceMul, Nat.reduceLeDiff, Nat.reduceSub, decide_true, decide_false, Bool.toNat_true, Bool.toNat_false, not_true_eq_false, not_false_eq_true, ite_not, true_and, and_true, if_true, if_false, ↓reduceIte, Bool.or_true, Bool.true_or, Bool.or_false, ek]
        refine ih (by omega) (L ++ [lb n j]) I' J' _ sc (fun x hx => ?_) (by rw [List.length_append]; show L.length + 1 + _ ≤ _; omega) fun I2 J2 s2 f2 => K I2 J2 (by rw [← List.append_assoc]; exact s2) (FY_t fl f2)
        rcases List.mem_append.mp hx with z | z
        · exact hb x z
        · rw [List.mem_singleton.mp z]; exact w2
      · rw [if_neg c] at hl K
        have c1 : lb n j ≤ 0 := by omega
        simp (disch := first | omega | assumption | exact yrt_135 | exact y_ok hE (by decide) | fail) only [yrt_135, ab_kl_n, ab_kl_i, ab_kl_r, ab_kl_l, jy_135_6, q_le, q_lt, q_eq, n_leT, n_leF, n_ltT, n_ltF, n_eqF, n_b0, at_135_9, Gy_lload_2, at_135_10, Gy_iload_4, at_135_12, Gy_lshr, at_135_13, Gy_l2i, at_135_14, Gy_sipush, ks_255, at_135_17, Gy_iand, at_135_18, Gy_istore_5, ab_put_int_5, at_135_20, Gy_iload_5, jy_135_22, at_135_25, Gy_aload_0, at_135_26, Gy_aload_1, at_135_27, at_135_29, cy_15, cat_n, cat_i, cat_r, cat_l, tl_i, tl_l, tl_n, y_sh, y_shh, at_135_32, Gy_iinc_4, ab_put_int_4, jy_135_35, at_135_38, Gy_return, Nat.reduceAdd, Nat.reduceMul, Nat.reduceLeDiff, Nat.reduceSub, decide_true, decide_false, Bool.toNat_true, Bool.toNat_false, not_true_eq_false, not_false_eq_true, ite_not, true_and, and_true, if_true, if_false, ↓reduceIte, Bool.or_true, Bool.true_or, Bool.or_false, w1, c, c1, ek]
        exact ih (by omega) L I J _ h hb hl K
  rw [ey_135]
  simp (disch := first | omega | assumption | exact yrt_135 | fail) only [yrt_135, ab_kl_n, ab_kl_i, ab_kl_r, ab_kl_l, at_135_0, Gy_bipush, kb_56, at_135_2, Gy_istore_4, ab_put_int_4, Nat.reduceAdd, Nat.reduceMul, Nat.reduceLeDiff, Nat.reduceSub, decide_true, decide_false, Bool.toNat_true, Bool.toNat_false, not_true_eq_false, not_false_eq_true, ite_not, true_and, and_true, if_true, if_false, ↓reduceIte, Bool.or_true, Bool.true_or, Bool.or_false]
  exact key 8 (Nat.le_refl _) L I J none h hb (by rw [wR_8 n hn]; exact hL) (by rw [wR_8 n hn]; exact K)
theorem y_line (hE : YX E) {n : Nat} (hn : n < 12) (hL : L.length + (wB n).length ≤ 320) (hb : ∀ x ∈ L, x < 128) (h : SC (tS L) I J) (K : ∀ I' J', SC (tS (L ++ wB n)) I' J' → FY I I' J J' → Q none (SH ++ E, I', J')) : Ey xs 138 [.ref 0, .ref 208, .int (nI n)] (SH ++ E, I, J) Q := by
  have z := y_name (xs := xs) (Q := fun r h' => ab_sh (SH ++ E, I, J) h' [some (.ref 0), some (.ref 208), some (.int (nI n))] [] ∧ Q r h') hE hn hL hb h (fun I' J' a b => ⟨Or.inl ⟨rfl, rfl⟩, K I' J' a b⟩)
  rw [ey_138]
  rcases (by omega : n = 0 ∨ n = 1 ∨ n = 2 ∨ n = 3 ∨ n = 4 ∨ n = 5 ∨ n = 6 ∨ n = 7 ∨ n = 8 ∨ n = 9 ∨ n = 10 ∨ n = 11) with rfl | rfl | rfl | rfl | rfl | rfl | rfl | rfl | rfl | rfl | rfl | rfl
  all_goals
    simp (disch := first | omega | assumption | exact yrt_138 | exact y_ok hE (by decide) | fail) only [yrt_138, ab_kl_n, ab_kl_i, ab_kl_r, ab_kl_l, at_138_0, Gy_aload_0, at_138_1, Gy_aload_1, at_138_2, Gy_iload_2, jy_138_3, q_le, q_lt, q_eq, n_leT, n_leF, n_ltT, n_ltF, n_eqF, n_b0, at_138_6, ldy2_25, jy_138_9, at_138_12, at_138_13, Gy_iconst, kc_1, jy_138_14, at_138_17, ldy2_27, jy_138_20, at_138_23, at_138_24, kc_2, jy_138_25, at_138_28, ldy2_29, jy_138_31, at_138_34, at_138_35, kc_3, jy_138_36, at_138_39, ldy2_31, jy_138_42, at_138_45, at_138_46, kc_4, jy_138_47, at_138_50, ldy2_33, jy_138_53, at_138_56, at_138_57, kc_5, jy_138_58, at_138_61, ldy2_35, jy_138_64, at_138_67, at_138_68, Gy_bipush, kb_6, jy_138_70, at_138_73, ldy2_37, jy_138_76, at_138_79, at_138_80, kb_7, jy_138_82, at_138_85, ldy2_39, jy_138_88, at_138_91, at_138_92, kb_8, jy_138_94, at_138_97, ldy2_41, jy_138_100, at_138_103, at_138_104, kb_9, jy_138_106, at_138_109, ldy2_43, jy_138_112, at_138_115, at_138_116, kb_10, jy_138_118, at_138_121, ldy2_45, jy_138_124, at_138_127, ldy2_47, at_138_130, cy_49, cat_n, cat_i, cat_r, cat_l, tl_i, tl_l, tl_n, y_sh, y_shh, Nat.reduceAdd, Nat.reduceMul, Nat.reduceLeDiff, Nat.reduceSub, decide_true, decide_false, Bool.toNat_true, Bool.toNat_false, not_true_eq_false, not_false_eq_true, ite_not, true_and, and_true, if_true, if_false, ↓reduceIte, Bool.or_true, Bool.true_or, Bool.or_false]
    refine y_name hE hn hL hb h fun I' J' a b => ?_
    simp (disch := first | omega | assumption | exact yrt_138 | fail) only [yrt_138, ab_kl_n, ab_kl_i, ab_kl_r, ab_kl_l, at_138_130, cy_49, cat_n, cat_i, cat_r, cat_l, tl_i, tl_l, tl_n, y_sh, y_shh, at_138_133, Gy_return, Nat.reduceAdd, Nat.reduceMul, Nat.reduceLeDiff, Nat.reduceSub, decide_true, decide_false, Bool.toNat_true, Bool.toNat_false, not_true_eq_false, not_false_eq_true, ite_not, true_and, and_true, if_true, if_false, ↓reduceIte, Bool.or_true, Bool.true_or, Bool.or_false]
    exact K I' J' a b
theorem y_number (hE : YX E) {v : Nat} (hv : v ≤ 99) (hL : L.length + 1 + (dg v).length ≤ 320) (hb : ∀ x ∈ L, x < 128) (h : SC (tS L) I J) (K : ∀ I' J', SC (tS (L ++ 32 :: dg v)) I' J' → FY I I' J J' → Q none (SH ++ E, I', J')) : Ey xs 136 [.ref 0, .ref 208, .int (nI v)] (SH ++ E, I, J) Q := by
  obtain ⟨d1, d2, d3, d4, d5⟩ := dg_c v hv
  have n10 : ¬ nI 10 = 0 := by decide
  have apb : ∀ (M : List Nat) (c : Nat), (∀ x ∈ M, x < 128) → c < 128 → ∀ x ∈ M ++ [c], x < 128 := by
    intro M c hM hc x hx
    rcases List.mem_append.mp hx with z | z
    · exact hM x z
    · rw [List.mem_singleton.mp z]; exact hc
  have apl : ∀ (M : List Nat) (c : Nat), (M ++ [c]).length = M.length + 1 := fun M c => by rw [List.length_append]; rfl
  rw [ey_136]
  simp (disch := first | omega | assumption | exact yrt_136 | exact y_ok hE (by decide) | fail) only [yrt_136, ab_kl_n, ab_kl_i, ab_kl_r, ab_kl_l, at_136_0, Gy_aload_0, at_136_1, Gy_aload_1, at_136_2, Gy_bipush, kb_32, at_136_4, cy_15, cat_n, cat_i, cat_r, cat_l, tl_i, tl_l, tl_n, y_sh, y_shh, Nat.reduceAdd, Nat.reduceMul, Nat.reduceLeDiff, Nat.reduceSub, decide_true, decide_false, Bool.toNat_true, Bool.toNat_false, not_true_eq_false, not_false_eq_true, ite_not, true_and, and_true, if_true, if_false, ↓reduceIte, Bool.or_true, Bool.true_or, Bool.or_false]
  refine y_says hE (show 32 < 128 by decide) (by omega) hb h fun I1 J1 s1 f1 => ?_
  by_cases c : 9 < v
  · have ed : dg v = [48 + v / 10, 48 + v % 10] := by unfold dg; rw [if_pos c]
    rw [ed] at hL K
    have hL : L.length + 1 + 2 ≤ 320 := hL
    have c1 : ¬ v ≤ 9 := by omega
    simp (disch := first | omega | assumption | exact yrt_136 | exact y_ok hE (by decide) | fail) only [yrt_136, ab_kl_n, ab_kl_i, ab_kl_r, ab_kl_l, at_136_4, cy_15, cat_n, cat_i, cat_r, cat_l, tl_i, tl_l, tl_n, y_sh, y_shh, at_136_7, Gy_iload_2, at_136_8, Gy_sipush, ks_999, jy_136_11, q_le, q_lt, q_eq, n_leT, n_leF, n_ltT, n_ltF, n_eqF, n_b0, at_136_14, Gy_aload_0, at_136_15, Gy_aload_1, at_136_16, Gy_bipush, kb_48, at_136_18, at_136_19, ks_1000, at_136_22, Gy_idiv, at_136_23, kb_10, at_136_25, Gy_irem, at_136_26, Gy_iadd, q_add, Nat.zero_add, at_136_27, at_136_30, at_136_31, kb_99, jy_136_33, at_136_36, at_136_37, at_136_38, at_136_40, at_136_41, kb_100, at_136_43, at_136_44, at_136_46, at_136_47, at_136_48, at_136_51, at_136_52, kb_9, jy_136_54, at_136_57, at_136_58, at_136_59, at_136_61, at_136_62, at_136_64, at_136_65, at_136_67, at_136_68, at_136_69, Nat.reduceAdd, Nat.reduceMul, Nat.reduceLeDiff, Nat.reduceSub, decide_true, decide_false, Bool.toNat_true, Bool.toNat_false, not_true_eq_false, not_false_eq_true, ite_not, true_and, and_true, if_true, if_false, ↓reduceIte, Bool.or_true, Bool.true_or, Bool.or_false, c1, d1, d2, d3, n10]
    refine y_says hE (show 48 + v / 10 < 128 by omega) (by rw [apl]; omega) (apb _ _ hb (by decide)) s1 fun I2 J2 s2 f2 => ?_
    simp (disch := first | omega | assumption | exact yrt_136 | exact y_ok hE (by decide) | fail) only [yrt_136, ab_kl_n, ab_kl_i, ab_kl_r, ab_kl_l, at_136_69, cy_15, cat_n, cat_i, cat_r, cat_l, tl_i, tl_l, tl_n, y_sh, y_shh, at_136_72, Gy_aload_0, at_136_73, Gy_aload_1, at_136_74, Gy_bipush, kb_48, at_136_76, Gy_iload_2, at_136_77, kb_10, at_136_79, Gy_irem, at_136_80, Gy_iadd, q_add, Nat.zero_add, at_136_81, Nat.reduceAdd, Nat.reduceMul, Nat.reduceLeDiff, Nat.reduceSub, decide_true, decide_false, Bool.toNat_true, Bool.toNat_false, not_true_eq_false, not_false_eq_true, ite_not, true_and, and_true, if_true, if_false, ↓reduceIte, Bool.or_true, Bool.true_or, Bool.or_false, d1, d2, d3, n10]
    refine y_says hE (show 48 + v % 10 < 128 by omega) (by rw [apl, apl]; omega) (apb _ _ (apb _ _ hb (by decide)) (by omega)) s2 fun I3 J3 s3 f3 => ?_
    simp (disch := first | omega | assumption | exact yrt_136 | fail) only [yrt_136, ab_kl_n, ab_kl_i, ab_kl_r, ab_kl_l, at_136_81, cy_15, cat_n, cat_i, cat_r, cat_l, tl_i, tl_l, tl_n, y_sh, y_shh, at_136_84, Gy_return, Nat.reduceAdd, Nat.reduceMul, Nat.reduceLeDiff, Nat.reduceSub, decide_true, decide_false, Bool.toNat_true, Bool.toNat_false, not_true_eq_false, not_false_eq_true, ite_not, true_and, and_true, if_true, if_false, ↓reduceIte, Bool.or_true, Bool.true_or, Bool.or_false]
    rw [List.append_assoc, List.append_assoc] at s3
    exact K _ _ s3 (FY_t f1 (FY_t f2 f3))
  · have ed : dg v = [48 + v % 10] := by unfold dg; rw [if_neg c]
    rw [ed] at hL K
    have hL : L.length + 1 + 1 ≤ 320 := hL
    have c1 : v ≤ 9 := by omega
    simp (disch := first | omega | assumption | exact yrt_136 | exact y_ok hE (by decide) | fail) only [yrt_136, ab_kl_n, ab_kl_i, ab_kl_r, ab_kl_l, at_136_4, cy_15, cat_n, cat_i, cat_r, cat_l, tl_i, tl_l, tl_n, y_sh, y_shh, at_136_7, Gy_iload_2, at_136_8, Gy_sipush, ks_999, jy_136_11, q_le, q_lt, q_eq, n_leT, n_leF, n_ltT, n_ltF, n_eqF, n_b0, at_136_14, Gy_aload_0, at_136_15, Gy_aload_1, at_136_16, Gy_bipush, kb_48, at_136_18, at_136_19, ks_1000, at_136_22, Gy_idiv, at_136_23, kb_10, at_136_25, Gy_irem, at_136_26, Gy_iadd, q_add, Nat.zero_add, at_136_27, at_136_30, at_136_31, kb_99, jy_136_33, at_136_36, at_136_37, at_136_38, at_136_40, at_136_41, kb_100, at_136_43, at_136_44, at_136_46, at_136_47, at_136_48, at_136_51, at_136_52, kb_9, jy_136_54, at_136_57, at_136_58, at_136_59, at_136_61, at_136_62, at_136_64, at_136_65, at_136_67, at_136_68, at_136_69, at_136_72, at_136_73, at_136_74, at_136_76, at_136_77, at_136_79, at_136_80, at_136_81, Nat.reduceAdd, Nat.reduceMul, Nat.reduceLeDiff, Nat.reduceSub, decide_true, decide_false, Bool.toNat_true, Bool.toNat_false, not_true_eq_false, not_false_eq_true, ite_not, true_and, and_true, if_true, if_false, ↓reduceIte, Bool.or_true, Bool.true_or, Bool.or_false, c1, d1, d2, d3, n10]
    refine y_says hE (show 48 + v % 10 < 128 by omega) (by rw [apl]; omega) (apb _ _ hb (by decide)) s1 fun I3 J3 s3 f3 => ?_
    simp (disch := first | omega | assumption | exact yrt_136 | fail) only [yrt_136, ab_kl_n, ab_kl_i, ab_kl_r, ab_kl_l, at_136_81, cy_15, cat_n, cat_i, cat_r, cat_l, tl_i, tl_l, tl_n, y_sh, y_shh, at_136_84, Gy_return, Nat.reduceAdd, Nat.reduceMul, Nat.reduceLeDiff, Nat.reduceSub, decide_true, decide_false, Bool.toNat_true, Bool.toNat_false, not_true_eq_false, not_false_eq_true, ite_not, true_and, and_true, if_true, if_false, ↓reduceIte, Bool.or_true, Bool.true_or, Bool.or_false]
    rw [List.append_assoc] at s3
    exact K _ _ s3 (FY_t f1 f3)
end SAY
