/-! THE LAW'S PROGRAM: its blocks and how many names -/
theorem up_r {α : Type} {f : Nat → Nat → α} {o k : Nat} {v : α} {p j : Nat} : ab_up f o k v p j = if p = o ∧ j = k then v else f p j := by
  by_cases h : p = o
  · subst h
    rw [ab_up_same]
    by_cases h2 : j = k
    · simp [h2]
    · simp [h2]
  · rw [ab_up_other _ _ _ h, if_neg (fun z => h z.1)]
theorem yE_ok : YX yE := rfl
def FA (I I' : Nat → Nat → Int32) : Prop := ∀ o k, (o < 199 ∨ 204 < o) → I' o k = I o k
theorem FA_up {I I' : Nat → Nat → Int32} {o k : Nat} {v : Int32} (ho : 199 ≤ o ∧ o ≤ 204) (h : FA I I') : FA I (ab_up I' o k v) := fun o' k' c => by
  rw [up_r, if_neg (by omega)]
  exact h o' k' c
def opm (sh : Nat) : Nat := if sh = 0 then 20 else if sh = 3 then 2 else 4
def yph (xs : List Int32) (sh b : Nat) : Nat := if shT sh b 5 = 2 then pt (cellv xs (1 + b)) 3 else 0
def yop (xs : List Int32) (sh b : Nat) : Nat := 1 + pt (cellv xs (1 + b) >>> (nI 3 &&& 31)) (opm sh)
def yst (xs : List Int32) (sh : Nat) : Nat → Nat
  | 0 => 0
  | b + 1 => yst xs sh b + (yph xs sh b + yop xs sh b)
section PRB
variable {xs : List Int32} {Q : Option Value → ab_H → Prop} {I0 I : Nat → Nat → Int32} {J : Nat → Nat → Int64} {sh b nb : Nat}
theorem yop_le (hs : sh < 4) : yop xs sh b ≤ opm sh ∧ 1 ≤ yop xs sh b := by
  have e : 0 < opm sh := by unfold opm; split; decide; split <;> decide
  have := pt_lt (v := cellv xs (1 + b) >>> (nI 3 &&& 31)) e
  unfold yop
  omega
theorem yph_le : yph xs sh b ≤ 2 ∧ (shT sh b 5 ≠ 2 → yph xs sh b = 0) := by
  have := pt_lt (v := cellv xs (1 + b)) (show 0 < 3 by decide)
  unfold yph
  split
  · exact ⟨by omega, fun z => absurd (by assumption) z⟩
  · exact ⟨by omega, fun _ => rfl⟩
theorem yst_mono (hc : b < nb) : yst xs sh b + (yph xs sh b + yop xs sh b) ≤ yst xs sh nb := by
  have key : ∀ d, yst xs sh (b + 1) ≤ yst xs sh (b + 1 + d) := by
    intro d
    induction d with
    | zero => exact Nat.le_refl _
    | succ d ih => exact Nat.le_trans ih (Nat.le_add_right _ _)
  have := key (nb - (b + 1))
  rw [show b + 1 + (nb - (b + 1)) = nb by omega] at this
  exact this
theorem yst_le (hs : sh < 4) : yst xs sh (shT sh 0 0) ≤ 20 := by
  have a := fun b => (yop_le (xs := xs) (b := b) hs).1
  have c := fun b => (yph_le (xs := xs) (sh := sh) (b := b)).1
  have d := fun b => (yph_le (xs := xs) (sh := sh) (b := b)).2
  have a0 := a 0; have a1 := a 1; have a2 := a 2; have a3 := a 3; have a4 := a 4; have a5 := a 5
  have c0 := c 0; have c1 := c 1; have c2 := c 2; have c3 := c 3; have c4 := c 4; have c5 := c 5
  have d0 := d 0; have d1 := d 1; have d2 := d 2; have d3 := d 3; have d4 := d 4; have d5 := d 5
  rcases (by omega : sh = 0 ∨ sh = 1 ∨ sh = 2 ∨ sh = 3) with rfl | rfl | rfl | rfl
  · have e : opm 0 = 20 := rfl
    have := d0 (by decide)
    show 0 + (yph xs 0 0 + yop xs 0 0) ≤ 20
    omega
  · have e : opm 1 = 4 := rfl
    have := d0 (by decide); have := d1 (by decide); have := d2 (by decide)
    show 0 + (yph xs 1 0 + yop xs 1 0) + (yph xs 1 1 + yop xs 1 1) + (yph xs 1 2 + yop xs 1 2) + (yph xs 1 3 + yop xs 1 3) ≤ 20
    omega
  · have e : opm 2 = 4 := rfl
    have := d0 (by decide); have := d2 (by decide); have := d3 (by decide)
    show 0 + (yph xs 2 0 + yop xs 2 0) + (yph xs 2 1 + yop xs 2 1) + (yph xs 2 2 + yop xs 2 2) + (yph xs 2 3 + yop xs 2 3) ≤ 20
    omega
  · have e : opm 3 = 2 := rfl
    have := d0 (by decide); have := d2 (by decide); have := d3 (by decide); have := d5 (by decide)
    show 0 + (yph xs 3 0 + yop xs 3 0) + (yph xs 3 1 + yop xs 3 1) + (yph xs 3 2 + yop xs 3 2) + (yph xs 3 3 + yop xs 3 3) + (yph xs 3 4 + yop xs 3 4) + (yph xs 3 5 + yop xs 3 5) ≤ 20
    omega
def P1 (xs : List Int32) (sh b t : Nat) (I : Nat → Nat → Int32) : Prop := I 199 0 = nI sh ∧ I 199 1 = nI (yst xs sh b + t) ∧
  (∀ c i, c < b → i < yph xs sh c + yop xs sh c → I 200 (yst xs sh c + i) = nI (if i < yph xs sh c then 7 else 0) ∧ I 201 (yst xs sh c + i) = nI c) ∧
  ∀ i, i < t → I 200 (yst xs sh b + i) = nI (if i < yph xs sh b then 7 else 0) ∧ I 201 (yst xs sh b + i) = nI b
theorem P1_next (h : P1 xs sh b (yph xs sh b + yop xs sh b) I) : P1 xs sh (b + 1) 0 I := by
  obtain ⟨a, c, d, e⟩ := h
  refine ⟨a, c, fun c i hc hi => ?_, fun i hi => absurd hi (Nat.not_lt_zero i)⟩
  by_cases hcb : c = b
  · subst hcb; exact e i hi
  · exact d c i (by omega) hi
theorem P1_step {t : Nat} (ht : t < yph xs sh b + yop xs sh b) (h : P1 xs sh b t I) : P1 xs sh b (t + 1) (ab_up (ab_up (ab_up I 200 (yst xs sh b + t) (nI (if t < yph xs sh b then 7 else 0))) 201 (yst xs sh b + t) (nI b)) 199 1 (nI (yst xs sh b + t + 1))) := by
  obtain ⟨a, c, d, e⟩ := h
  refine ⟨?_, ?_, fun c i hc hi => ?_, fun i hi => ?_⟩
  · simp [up_r, a]
  · simp [up_r, Nat.add_assoc]
  · have := yst_mono (xs := xs) (sh := sh) hc
    have e1 : ¬ yst xs sh c + i = yst xs sh b + t := by omega
    simp only [up_r, e1, and_false, if_false]
    simpa using d c i hc hi
  · by_cases hit : i = t
    · subst hit
      simp [up_r]
    · have e1 : ¬ yst xs sh b + i = yst xs sh b + t := by omega
      simp only [up_r, e1, and_false, if_false]
      simpa using e i (by omega)
theorem y_p1in (hs : sh < 4) (hnb : nb = shT sh 0 0) (hb : b < nb) (w12 : Option Value) (K : ∀ I', P1 xs sh b (yph xs sh b + yop xs sh b) I' → FA I0 I' → Gy xs (ab_at 145 165) 145 165 [some (.ref 0), some (.ref 2000), some (.int (nI 0)), some (.ref 199), some (.ref 200), some (.ref 201), some (.ref 202), some (.ref 203), some (.ref 204), some (.ref 208), some (.int (nI nb)), some (.int (nI b)), w12, some (.int (nI (yph xs sh b))), some (.int (nI (yop xs sh b))), some (.int (nI (yph xs sh b + yop xs sh b)))] [] (SH ++ yE, I', J) Q) :
    ∀ d t I, t + d = yph xs sh b + yop xs sh b → P1 xs sh b t I → FA I0 I → Gy xs (ab_at 145 115) 145 115 [some (.ref 0), some (.ref 2000), some (.int (nI 0)), some (.ref 199), some (.ref 200), some (.ref 201), some (.ref 202), some (.ref 203), some (.ref 204), some (.ref 208), some (.int (nI nb)), some (.int (nI b)), w12, some (.int (nI (yph xs sh b))), some (.int (nI (yop xs sh b))), some (.int (nI t))] [] (SH ++ yE, I, J) Q := by
  have a1 := yop_le (xs := xs) (b := b) hs
  have a2 := yph_le (xs := xs) (sh := sh) (b := b)
  have a3 := yst_mono (xs := xs) (sh := sh) hb
  have a4 := yst_le (xs := xs) hs
  have a5 : opm sh ≤ 20 := by unfold opm; split; decide; split <;> decide
  rw [← hnb] at a4
  intro d
  induction d with
  | zero =>
    intro t I ht h f
    have e : t = yph xs sh b + yop xs sh b := by omega
    subst e
    rw [at_145_115]
    simp (disch := first | omega | assumption | exact yrt_145 | fail) only [yrt_145, ab_kl_n, ab_kl_i, ab_kl_r, ab_kl_l, Gy_iload_15, at_145_117, Gy_iload_13, at_145_119, Gy_iload_14, at_145_121, Gy_iadd, q_add, Nat.zero_add, jy_145_122, q_le, q_lt, q_eq, n_leT, n_leF, n_ltT, n_ltF, n_eqF, n_b0, Nat.reduceAdd, Nat.reduceMul, Nat.reduceLeDiff, Nat.reduceSub, decide_true, decide_false, Bool.toNat_true, Bool.toNat_false, not_true_eq_false, not_false_eq_true, ite_not, true_and, and_true, if_true, if_false, ↓reduceIte, Bool.or_true, Bool.true_or, Bool.or_false, Nat.le_refl]
    exact K I h f
  | succ d ih =>
    intro t I ht h f
    have hz := h.2.1
    rw [at_145_115]
    have hst := P1_step (show t < yph xs sh b + yop xs sh b by omega) h
    by_cases c : t < yph xs sh b
    · have c2 : ¬ yph xs sh b ≤ t := by omega
      rw [if_pos c] at hst
      simp (disch := first | omega | assumption | exact yrt_145 | fail) only [yrt_145, ab_kl_n, ab_kl_i, ab_kl_r, ab_kl_l, Gy_iload_15, at_145_117, Gy_iload_13, at_145_119, Gy_iload_14, at_145_121, Gy_iadd, q_add, Nat.zero_add, jy_145_122, q_le, q_lt, q_eq, n_leT, n_leF, n_ltT, n_ltF, n_eqF, n_b0, at_145_125, Gy_aload_4, at_145_127, Gy_aload_3, at_145_128, Gy_iconst, kc_1, at_145_129, Gy_iaload, q_in, q_cl, at_145_130, at_145_132, jy_145_134, at_145_137, Gy_bipush, kb_7, jy_145_139, at_145_142, kc_0, at_145_143, Gy_iastore, y_seti, at_145_144, Gy_aload_5, at_145_146, at_145_147, at_145_148, at_145_149, Gy_iload_11, at_145_151, at_145_152, at_145_153, at_145_154, Gy_dup2, at_145_155, at_145_156, at_145_157, at_145_158, at_145_159, Gy_iinc_15, ab_put_int_15, jy_145_162, Nat.reduceAdd, Nat.reduceMul, Nat.reduceLeDiff, Nat.reduceSub, decide_true, decide_false, Bool.toNat_true, Bool.toNat_false, not_true_eq_false, not_false_eq_true, ite_not, true_and, and_true, if_true, if_false, ↓reduceIte, Bool.or_true, Bool.true_or, Bool.or_false, c, c2, ry_199 yE_ok, ny_199 yE_ok, ry_200 yE_ok, ny_200 yE_ok, ry_201 yE_ok, ny_201 yE_ok, hz, up_r, Nat.reduceEqDiff, false_and, and_false]
      exact ih (t + 1) _ (by omega) hst (FA_up (by decide) (FA_up (by decide) (FA_up (by decide) f)))
    · have c2 : yph xs sh b ≤ t := by omega
      rw [if_neg c] at hst
      simp (disch := first | omega | assumption | exact yrt_145 | fail) only [yrt_145, ab_kl_n, ab_kl_i, ab_kl_r, ab_kl_l, Gy_iload_15, at_145_117, Gy_iload_13, at_145_119, Gy_iload_14, at_145_121, Gy_iadd, q_add, Nat.zero_add, jy_145_122, q_le, q_lt, q_eq, n_leT, n_leF, n_ltT, n_ltF, n_eqF, n_b0, at_145_125, Gy_aload_4, at_145_127, Gy_aload_3, at_145_128, Gy_iconst, kc_1, at_145_129, Gy_iaload, q_in, q_cl, at_145_130, at_145_132, jy_145_134, at_145_137, Gy_bipush, kb_7, jy_145_139, at_145_142, kc_0, at_145_143, Gy_iastore, y_seti, at_145_144, Gy_aload_5, at_145_146, at_145_147, at_145_148, at_145_149, Gy_iload_11, at_145_151, at_145_152, at_145_153, at_145_154, Gy_dup2, at_145_155, at_145_156, at_145_157, at_145_158, at_145_159, Gy_iinc_15, ab_put_int_15, jy_145_162, Nat.reduceAdd, Nat.reduceMul, Nat.reduceLeDiff, Nat.reduceSub, decide_true, decide_false, Bool.toNat_true, Bool.toNat_false, not_true_eq_false, not_false_eq_true, ite_not, true_and, and_true, if_true, if_false, ↓reduceIte, Bool.or_true, Bool.true_or, Bool.or_false, c, c2, ry_199 yE_ok, ny_199 yE_ok, ry_200 yE_ok, ny_200 yE_ok, ry_201 yE_ok, ny_201 yE_ok, hz, up_r, Nat.reduceEqDiff, false_and, and_false]
      exact ih (t + 1) _ (by omega) hst (FA_up (by decide) (FA_up (by decide) (FA_up (by decide) f)))
theorem y_p1 (hx : xs.length ≤ 260) (hs : sh < 4) (hnb : nb = shT sh 0 0) (w13 w14 w15 : Option Value) (K : ∀ I' w12 w13 w14 w15, P1 xs sh nb 0 I' → FA I0 I' → Gy xs (ab_at 145 171) 145 171 [some (.ref 0), some (.ref 2000), some (.int (nI 0)), some (.ref 199), some (.ref 200), some (.ref 201), some (.ref 202), some (.ref 203), some (.ref 204), some (.ref 208), some (.int (nI nb)), some (.int (nI nb)), w12, w13, w14, w15] [] (SH ++ yE, I', J) Q) :
    ∀ d b I w12 w13 w14 w15, b + d = nb → P1 xs sh b 0 I → FA I0 I → Gy xs (ab_at 145 34) 145 34 [some (.ref 0), some (.ref 2000), some (.int (nI 0)), some (.ref 199), some (.ref 200), some (.ref 201), some (.ref 202), some (.ref 203), some (.ref 204), some (.ref 208), some (.int (nI nb)), some (.int (nI b)), w12, w13, w14, w15] [] (SH ++ yE, I, J) Q := by
  have nb6 := (sh_nb sh hs).2
  intro d
  induction d with
  | zero =>
    intro b I w12 w13 w14 w15 hb h f
    have e : b = nb := by omega
    subst e
    rw [at_145_34]
    simp (disch := first | omega | assumption | exact yrt_145 | fail) only [yrt_145, ab_kl_n, ab_kl_i, ab_kl_r, ab_kl_l, Gy_iload_11, at_145_36, Gy_iload_10, jy_145_38, q_le, q_lt, q_eq, n_leT, n_leF, n_ltT, n_ltF, n_eqF, n_b0, Nat.reduceAdd, Nat.reduceMul, Nat.reduceLeDiff, Nat.reduceSub, decide_true, decide_false, Bool.toNat_true, Bool.toNat_false, not_true_eq_false, not_false_eq_true, ite_not, true_and, and_true, if_true, if_false, ↓reduceIte, Bool.or_true, Bool.true_or, Bool.or_false]
    exact K I _ _ _ _ h f
  | succ d ih =>
    intro b I w12 w13 w14 w15 hb h f
    have z0 := h.1
    rw [at_145_34]
    have nx : ∀ w12 w14 w13, w13 = some (.int (nI (yph xs sh b))) → w14 = some (.int (nI (yop xs sh b))) → Gy xs (ab_at 145 115) 145 115 [some (.ref 0), some (.ref 2000), some (.int (nI 0)), some (.ref 199), some (.ref 200), some (.ref 201), some (.ref 202), some (.ref 203), some (.ref 204), some (.ref 208), some (.int (nI nb)), some (.int (nI b)), w12, w13, w14, some (.int (nI 0))] [] (SH ++ yE, I, J) Q := by
      rintro w12 w14 w13 rfl rfl
      refine y_p1in hs hnb (by omega) w12 (fun I' h' f' => ?_) (yph xs sh b + yop xs sh b) 0 I (Nat.zero_add _) h f
      rw [at_145_165]
      simp (disch := first | omega | assumption | exact yrt_145 | fail) only [yrt_145, ab_kl_n, ab_kl_i, ab_kl_r, ab_kl_l, at_145_165, Gy_iinc_11, ab_put_int_11, kc_1, q_add, jy_145_168, Nat.reduceAdd, Nat.reduceMul, Nat.reduceLeDiff, Nat.reduceSub, decide_true, decide_false, Bool.toNat_true, Bool.toNat_false, not_true_eq_false, not_false_eq_true, ite_not, true_and, and_true, if_true, if_false, ↓reduceIte, Bool.or_true, Bool.true_or, Bool.or_false]
      exact ih (b + 1) I' _ _ _ _ (by omega) (P1_next h') f'
    have e5 := shT_lt sh hs b (by omega) 5 (by decide)
    by_cases c : shT sh b 5 = 2
    · have e1 : yph xs sh b = pt (cellv xs (1 + b)) 3 := if_pos c
      rcases (by omega : sh = 0 ∨ sh = 3 ∨ (sh ≠ 0 ∧ sh ≠ 3)) with hh | hh | ⟨h0, h3⟩
      · subst hh
        simp (disch := first | omega | assumption | exact yrt_145 | exact y_ok yE_ok (by decide) | fail) only [yrt_145, ab_kl_n, ab_kl_i, ab_kl_r, ab_kl_l, Gy_iload_11, at_145_36, Gy_iload_10, jy_145_38, q_le, q_lt, q_eq, n_leT, n_leF, n_ltT, n_ltF, n_eqF, n_b0, at_145_41, Gy_aload_1, at_145_42, Gy_iload_2, at_145_43, Gy_iconst, kc_1, at_145_44, Gy_iadd, q_add, Nat.zero_add, at_145_45, at_145_47, at_145_48, cy_73, cat_n, cat_i, cat_r, cat_l, tl_i, tl_l, tl_n, y_sh, y_shh, at_145_51, Gy_istore_12, ab_put_int_12, at_145_53, Gy_aload_3, at_145_54, kc_0, at_145_55, Gy_iaload, q_in, q_cl, at_145_56, at_145_58, kc_5, at_145_59, cy_53, at_145_62, kc_2, jy_145_63, at_145_66, Gy_iload_12, at_145_68, kc_3, at_145_69, cy_69, jy_145_72, at_145_75, at_145_76, Gy_istore_13, ab_put_int_13, at_145_78, at_145_79, at_145_81, at_145_82, Gy_ishr, at_145_83, at_145_84, at_145_85, jy_145_86, at_145_89, Gy_bipush, kb_20, jy_145_91, at_145_94, at_145_95, at_145_96, at_145_97, jy_145_98, at_145_101, jy_145_102, at_145_105, kc_4, at_145_106, at_145_109, at_145_110, Gy_istore_14, ab_put_int_14, at_145_112, at_145_113, Gy_istore_15, ab_put_int_15, Nat.reduceAdd, Nat.reduceMul, Nat.reduceLeDiff, Nat.reduceSub, decide_true, decide_false, Bool.toNat_true, Bool.toNat_false, not_true_eq_false, not_false_eq_true, ite_not, true_and, and_true, if_true, if_false, ↓reduceIte, Bool.or_true, Bool.true_or, Bool.or_false, ry_199 yE_ok, ny_199 yE_ok, z0, y_cell hx, y_shape hs (show b < 6 by omega), c, y_part]
        exact nx _ _ _ (by rw [e1]) rfl
      · subst hh
        simp (disch := first | omega | assumption | exact yrt_145 | exact y_ok yE_ok (by decide) | fail) only [yrt_145, ab_kl_n, ab_kl_i, ab_kl_r, ab_kl_l, Gy_iload_11, at_145_36, Gy_iload_10, jy_145_38, q_le, q_lt, q_eq, n_leT, n_leF, n_ltT, n_ltF, n_eqF, n_b0, at_145_41, Gy_aload_1, at_145_42, Gy_iload_2, at_145_43, Gy_iconst, kc_1, at_145_44, Gy_iadd, q_add, Nat.zero_add, at_145_45, at_145_47, at_145_48, cy_73, cat_n, cat_i, cat_r, cat_l, tl_i, tl_l, tl_n, y_sh, y_shh, at_145_51, Gy_istore_12, ab_put_int_12, at_145_53, Gy_aload_3, at_145_54, kc_0, at_145_55, Gy_iaload, q_in, q_cl, at_145_56, at_145_58, kc_5, at_145_59, cy_53, at_145_62, kc_2, jy_145_63, at_145_66, Gy_iload_12, at_145_68, kc_3, at_145_69, cy_69, jy_145_72, at_145_75, at_145_76, Gy_istore_13, ab_put_int_13, at_145_78, at_145_79, at_145_81, at_145_82, Gy_ishr, at_145_83, at_145_84, at_145_85, jy_145_86, at_145_89, Gy_bipush, kb_20, jy_145_91, at_145_94, at_145_95, at_145_96, at_145_97, jy_145_98, at_145_101, jy_145_102, at_145_105, kc_4, at_145_106, at_145_109, at_145_110, Gy_istore_14, ab_put_int_14, at_145_112, at_145_113, Gy_istore_15, ab_put_int_15, Nat.reduceAdd, Nat.reduceMul, Nat.reduceLeDiff, Nat.reduceSub, decide_true, decide_false, Bool.toNat_true, Bool.toNat_false, not_true_eq_false, not_false_eq_true, ite_not, true_and, and_true, if_true, if_false, ↓reduceIte, Bool.or_true, Bool.true_or, Bool.or_false, ry_199 yE_ok, ny_199 yE_ok, z0, y_cell hx, y_shape hs (show b < 6 by omega), c, y_part]
        exact nx _ _ _ (by rw [e1]) rfl
      · have e2 : opm sh = 4 := by unfold opm; rw [if_neg h0, if_neg h3]
        simp (disch := first | omega | assumption | exact yrt_145 | exact y_ok yE_ok (by decide) | fail) only [yrt_145, ab_kl_n, ab_kl_i, ab_kl_r, ab_kl_l, Gy_iload_11, at_145_36, Gy_iload_10, jy_145_38, q_le, q_lt, q_eq, n_leT, n_leF, n_ltT, n_ltF, n_eqF, n_b0, at_145_41, Gy_aload_1, at_145_42, Gy_iload_2, at_145_43, Gy_iconst, kc_1, at_145_44, Gy_iadd, q_add, Nat.zero_add, at_145_45, at_145_47, at_145_48, cy_73, cat_n, cat_i, cat_r, cat_l, tl_i, tl_l, tl_n, y_sh, y_shh, at_145_51, Gy_istore_12, ab_put_int_12, at_145_53, Gy_aload_3, at_145_54, kc_0, at_145_55, Gy_iaload, q_in, q_cl, at_145_56, at_145_58, kc_5, at_145_59, cy_53, at_145_62, kc_2, jy_145_63, at_145_66, Gy_iload_12, at_145_68, kc_3, at_145_69, cy_69, jy_145_72, at_145_75, at_145_76, Gy_istore_13, ab_put_int_13, at_145_78, at_145_79, at_145_81, at_145_82, Gy_ishr, at_145_83, at_145_84, at_145_85, jy_145_86, at_145_89, Gy_bipush, kb_20, jy_145_91, at_145_94, at_145_95, at_145_96, at_145_97, jy_145_98, at_145_101, jy_145_102, at_145_105, kc_4, at_145_106, at_145_109, at_145_110, Gy_istore_14, ab_put_int_14, at_145_112, at_145_113, Gy_istore_15, ab_put_int_15, Nat.reduceAdd, Nat.reduceMul, Nat.reduceLeDiff, Nat.reduceSub, decide_true, decide_false, Bool.toNat_true, Bool.toNat_false, not_true_eq_false, not_false_eq_true, ite_not, true_and, and_true, if_true, if_false, ↓reduceIte, Bool.or_true, Bool.true_or, Bool.or_false, ry_199 yE_ok, ny_199 yE_ok, z0, y_cell hx, y_shape hs (show b < 6 by omega), c, h0, h3, y_part]
        exact nx _ _ _ (by rw [e1]) (by unfold yop; rw [e2])
    · have e1 : yph xs sh b = 0 := if_neg c
      rcases (by omega : sh = 0 ∨ sh = 3 ∨ (sh ≠ 0 ∧ sh ≠ 3)) with hh | hh | ⟨h0, h3⟩
      · subst hh
        simp (disch := first | omega | assumption | exact yrt_145 | exact y_ok yE_ok (by decide) | fail) only [yrt_145, ab_kl_n, ab_kl_i, ab_kl_r, ab_kl_l, Gy_iload_11, at_145_36, Gy_iload_10, jy_145_38, q_le, q_lt, q_eq, n_leT, n_leF, n_ltT, n_ltF, n_eqF, n_b0, at_145_41, Gy_aload_1, at_145_42, Gy_iload_2, at_145_43, Gy_iconst, kc_1, at_145_44, Gy_iadd, q_add, Nat.zero_add, at_145_45, at_145_47, at_145_48, cy_73, cat_n, cat_i, cat_r, cat_l, tl_i, tl_l, tl_n, y_sh, y_shh, at_145_51, Gy_istore_12, ab_put_int_12, at_145_53, Gy_aload_3, at_145_54, kc_0, at_145_55, Gy_iaload, q_in, q_cl, at_145_56, at_145_58, kc_5, at_145_59, cy_53, at_145_62, kc_2, jy_145_63, at_145_66, Gy_iload_12, at_145_68, kc_3, at_145_69, cy_69, jy_145_72, at_145_75, at_145_76, Gy_istore_13, ab_put_int_13, at_145_78, at_145_79, at_145_81, at_145_82, Gy_ishr, at_145_83, at_145_84, at_145_85, jy_145_86, at_145_89, Gy_bipush, kb_20, jy_145_91, at_145_94, at_145_95, at_145_96, at_145_97, jy_145_98, at_145_101, jy_145_102, at_145_105, kc_4, at_145_106, at_145_109, at_145_110, Gy_istore_14, ab_put_int_14, at_145_112, at_145_113, Gy_istore_15, ab_put_int_15, Nat.reduceAdd, Nat.reduceMul, Nat.reduceLeDiff, Nat.reduceSub, decide_true, decide_false, Bool.toNat_true, Bool.toNat_false, not_true_eq_false, not_false_eq_true, ite_not, true_and, and_true, if_true, if_false, ↓reduceIte, Bool.or_true, Bool.true_or, Bool.or_false, ry_199 yE_ok, ny_199 yE_ok, z0, y_cell hx, y_shape hs (show b < 6 by omega), c, y_part]
        exact nx _ _ _ (by rw [e1]) rfl
      · subst hh
        simp (disch := first | omega | assumption | exact yrt_145 | exact y_ok yE_ok (by decide) | fail) only [yrt_145, ab_kl_n, ab_kl_i, ab_kl_r, ab_kl_l, Gy_iload_11, at_145_36, Gy_iload_10, jy_145_38, q_le, q_lt, q_eq, n_leT, n_leF, n_ltT, n_ltF, n_eqF, n_b0, at_145_41, Gy_aload_1, at_145_42, Gy_iload_2, at_145_43, Gy_iconst, kc_1, at_145_44, Gy_iadd, q_add, Nat.zero_add, at_145_45, at_145_47, at_145_48, cy_73, cat_n, cat_i, cat_r, cat_l, tl_i, tl_l, tl_n, y_sh, y_shh, at_145_51, Gy_istore_12, ab_put_int_12, at_145_53, Gy_aload_3, at_145_54, kc_0, at_145_55, Gy_iaload, q_in, q_cl, at_145_56, at_145_58, kc_5, at_145_59, cy_53, at_145_62, kc_2, jy_145_63, at_145_66, Gy_iload_12, at_145_68, kc_3, at_145_69, cy_69, jy_145_72, at_145_75, at_145_76, Gy_istore_13, ab_put_int_13, at_145_78, at_145_79, at_145_81, at_145_82, Gy_ishr, at_145_83, at_145_84, at_145_85, jy_145_86, at_145_89, Gy_bipush, kb_20, jy_145_91, at_145_94, at_145_95, at_145_96, at_145_97, jy_145_98, at_145_101, jy_145_102, at_145_105, kc_4, at_145_106, at_145_109, at_145_110, Gy_istore_14, ab_put_int_14, at_145_112, at_145_113, Gy_istore_15, ab_put_int_15, Nat.reduceAdd, Nat.reduceMul, Nat.reduceLeDiff, Nat.reduceSub, decide_true, decide_false, Bool.toNat_true, Bool.toNat_false, not_true_eq_false, not_false_eq_true, ite_not, true_and, and_true, if_true, if_false, ↓reduceIte, Bool.or_true, Bool.true_or, Bool.or_false, ry_199 yE_ok, ny_199 yE_ok, z0, y_cell hx, y_shape hs (show b < 6 by omega), c, y_part]
        exact nx _ _ _ (by rw [e1]) rfl
      · have e2 : opm sh = 4 := by unfold opm; rw [if_neg h0, if_neg h3]
        simp (disch := first | omega | assumption | exact yrt_145 | exact y_ok yE_ok (by decide) | fail) only [yrt_145, ab_kl_n, ab_kl_i, ab_kl_r, ab_kl_l, Gy_iload_11, at_145_36, Gy_iload_10, jy_145_38, q_le, q_lt, q_eq, n_leT, n_leF, n_ltT, n_ltF, n_eqF, n_b0, at_145_41, Gy_aload_1, at_145_42, Gy_iload_2, at_145_43, Gy_iconst, kc_1, at_145_44, Gy_iadd, q_add, Nat.zero_add, at_145_45, at_145_47, at_145_48, cy_73, cat_n, cat_i, cat_r, cat_l, tl_i, tl_l, tl_n, y_sh, y_shh, at_145_51, Gy_istore_12, ab_put_int_12, at_145_53, Gy_aload_3, at_145_54, kc_0, at_145_55, Gy_iaload, q_in, q_cl, at_145_56, at_145_58, kc_5, at_145_59, cy_53, at_145_62, kc_2, jy_145_63, at_145_66, Gy_iload_12, at_145_68, kc_3, at_145_69, cy_69, jy_145_72, at_145_75, at_145_76, Gy_istore_13, ab_put_int_13, at_145_78, at_145_79, at_145_81, at_145_82, Gy_ishr, at_145_83, at_145_84, at_145_85, jy_145_86, at_145_89, Gy_bipush, kb_20, jy_145_91, at_145_94, at_145_95, at_145_96, at_145_97, jy_145_98, at_145_101, jy_145_102, at_145_105, kc_4, at_145_106, at_145_109, at_145_110, Gy_istore_14, ab_put_int_14, at_145_112, at_145_113, Gy_istore_15, ab_put_int_15, Nat.reduceAdd, Nat.reduceMul, Nat.reduceLeDiff, Nat.reduceSub, decide_true, decide_false, Bool.toNat_true, Bool.toNat_false, not_true_eq_false, not_false_eq_true, ite_not, true_and, and_true, if_true, if_false, ↓reduceIte, Bool.or_true, Bool.true_or, Bool.or_false, ry_199 yE_ok, ny_199 yE_ok, z0, y_cell hx, y_shape hs (show b < 6 by omega), c, h0, h3, y_part]
        exact nx _ _ _ (by rw [e1]) (by unfold yop; rw [e2])
end PRB
