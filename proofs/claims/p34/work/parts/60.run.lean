/-! THE CALLS: run -/
def sD (s : RS) (D : Int32) : RS := (s.1, s.2.1, D)
theorem p1_D {A : Nat → Nat → Nat} {r f c : Nat} {s : RS} {D : Int32} : p1 A none r f c (sD s D) = sD (p1 A none r f c s) D := rfl
theorem ps_D {A : Nat → Nat → Nat} {ar : Nat → Int32} {f : Nat} {s : RS} {D : Int32} : ∀ j, ps A ar none f j (sD s D) = sD (ps A ar none f j s) D := by
  intro j
  induction j with
  | zero => rfl
  | succ j ih =>
    unfold ps
    rw [ih]
    by_cases c : A 10 (f + j) = 7 ∨ A 10 (f + j) = 8
    · rw [if_pos c, if_pos c]
    · rw [if_neg c, if_neg c]
      rfl
theorem rn_D {A : Nat → Nat → Nat} {ar : Nat → Int32} {D : Int32} : ∀ u r b s t, rn A ar none u r b (sD s D) t = (sD (rn A ar none u r b s t).1 D, (rn A ar none u r b s t).2) := by
  intro u
  induction u with
  | zero => intro r b s t; rfl
  | succ u ih =>
    intro r b s t
    have e : pa A ar none r b (sD s D) = sD (pa A ar none r b s) D := by
      unfold pa
      rw [p1_D, ps_D]
    unfold rn
    rw [e]
    by_cases c : A 3 b = 2
    · rw [if_pos c, if_pos c]
      rfl
    · rw [if_neg c, if_neg c]
      exact ih _ _ _ _
theorem run0_D {A : Nat → Nat → Nat} {ar : Nat → Int32} {D : Int32} : run0 A ar none D = (sD (run0 A ar none 0).1 D, (run0 A ar none 0).2) := by
  unfold run0
  by_cases c : A 0 0 = 0
  · rw [if_pos c, if_pos c]
    rfl
  · rw [if_neg c, if_neg c]
    exact rn_D (s := (V0, 0, 0)) 200 0 0 0
def ruo (A : Nat → Nat → Nat) (ar : Nat → Int32) : RU := some ((run0 A ar none 0).1.1, (run0 A ar none 0).2.1, (run0 A ar none 0).1.2.1, (run0 A ar none 0).2.2.isSome)
def w_ru (s : VS) (ru : RU) : VS := (v_a s, v_im s, v_tp s, v_tl s, v_ft s, ru, v_sh s, v_ce s, v_tn s)
def ar4 (a b c d : Int32) : Nat → Int32
  | 0 => a
  | 1 => b
  | 2 => c
  | _ => d
section CRU
variable {I : Nat → Nat → Int32} {J : Nat → Nat → Int64} {Q : Option Value → ab_H → Prop} {s : VS} {ar : Nat → Int32}
theorem x_give {o : Nat} (hm : isM o) (a b c d : Int32) : Ex 25 [.ref o, .int a, .int b, .int c, .int d] (SH, I, J) Q = Q none (SH, ab_up (ab_up (ab_up (ab_up I (o + 1) 0 a) (o + 1) 1 b) (o + 1) 2 c) (o + 1) 3 d, J) := by
  have hm2 := isM_lt hm
  rw [en_25]
  simp (disch := first | omega | assumption | exact own_25 | exact rt_25 | exact mr_0 hm | exact q_lt1 (hb _ _) | exact bt_lt _ | fail) only [own_25, rt_25, ab_kl_n, ab_kl_i, ab_kl_r, ab_kl_l, at_25_0, Go_aload_0, at_25_1, Go_getf, fl_2_9, gg_2_0, sh_ref, sh_rf, sr_49, sf_49_0, sr_50, sn_50, sr_53, sf_53_0, sr_54, sn_54, at_25_4, Go_iconst, kc_0, at_25_5, Go_iload_1, at_25_6, Go_iastore, sh_ln, q_in, q_cl, sh_seti, at_25_7, at_25_8, at_25_11, kc_1, at_25_12, Go_iload_2, at_25_13, at_25_14, at_25_15, at_25_18, kc_2, at_25_19, Go_iload_3, at_25_20, at_25_21, at_25_22, at_25_25, kc_3, at_25_26, Go_iload_4, at_25_28, at_25_29, Go_return, Nat.reduceAdd, Nat.reduceMul, Nat.reduceLeDiff, Nat.reduceSub, decide_true, decide_false, Bool.toNat_true, Bool.toNat_false, not_true_eq_false, not_false_eq_true, ite_not, true_and, and_true, if_true, if_false, ↓reduceIte, Bool.or_true, Bool.true_or, Bool.or_false, mf_0 hm, mf_1 hm, mf_7 hm, mr_0 hm, mr_1 hm, mr_2 hm, mr_3 hm, mn_1 hm, mn_2 hm, mn_3 hm]
/-- the latest run, the class -/
theorem C_go (ok : OS s) (h : SC s I J) (hA : MA 49 I ar) (K : ∀ I' J', SC (w_ru s (ruo (v_a s) ar)) I' J' → (∀ o' k, ¬ (o' = 49 ∧ 2 ≤ k ∧ k ≤ 6) → I' o' k = I o' k) → (∀ o k, o ≠ 51 → o ≠ 52 → J' o k = J o k) → Q (some (.long (toldV (run0 (v_a s) ar none 0).2.2))) (SH, I', J')) : Ex 28 [.ref 49, .ref 73] (SH, I, J) Q := by
  obtain ⟨h1, h2, h3, h4, ⟨h5, h5b, h5c⟩, h6, h7⟩ := h
  obtain ⟨o1, o2, o3, o4, o5⟩ := ok.1
  refine x_go (p := 73) (o := 49) (w := none) (ar := ar) (Or.inr (Or.inl rfl)) o1 o2 h1.1 h1.2 o3 o4 (Or.inl rfl) h5b hA (fun I' J' f1 f2 m1 m2 m3 m4 => ?_)
  rw [run0_D] at m1 m2 m3
  rw [run0_D]
  refine K I' J' ⟨Ca_eq ok.1 (fun o k _ _ => f1 o k (by omega)) h1, Ci_eq ok.2.1 (fun o k _ => f1 o k (by omega)) h2, Ct_eq (fun o k _ => f1 o k (by omega)) h3, (f1 _ _ (by omega)).trans h4, ⟨m4, (f1 _ _ (by omega)).trans h5b, fun v t g r hv => ?_⟩, Cs_eq (fun o k _ => f1 o k (by omega)) h6, (f1 _ _ (by omega)).trans h7⟩ f1 f2
  have hv : some _ = some (v, t, g, r) := hv
  cases hv
  exact ⟨m1.1, m2, m1.2.1, m3⟩
theorem C_run (ok : OS s) (h : SC s I J) (a b c d : Int32) (K : ∀ I' J', SC (w_ru s (ruo (v_a s) (ar4 a b c d))) I' J' → Fr (fun o => 199 ≤ o) I I' J J' → Q (some (.long (toldV (run0 (v_a s) (ar4 a b c d) none 0).2.2))) (SH, I', J')) : Ex 106 [.ref 0, .int a, .int b, .int c, .int d] (SH, I, J) Q := by
  have s1 := fun Q => @x_give I J Q 49 (Or.inl rfl) a b c d
  rw [en_106]
  simp (disch := first | omega | assumption | exact own_106 | exact rt_106 | exact sr_49 | exact sr_53 | exact q_lt1 (hb _ _) | exact bt_lt _ | fail) only [own_106, rt_106, ab_kl_n, ab_kl_i, ab_kl_r, ab_kl_l, at_106_0, Go_aload_0, at_106_1, Go_getf, fl_7_19, gg_7_1, sh_ref, sh_rf, sr_0, sf_0_1, sr_49, at_106_4, Go_iload_1, at_106_5, Go_iload_2, at_106_6, Go_iload_3, at_106_7, Go_iload_4, at_106_9, cl_7_179, cat_n, cat_i, cat_r, cat_l, tl_i, tl_l, tl_n, sh_same, at_106_12, at_106_13, at_106_16, at_106_17, fl_7_62, gg_7_9, sf_0_9, sr_73, at_106_20, cl_7_183, at_106_23, Go_lreturn, Nat.reduceAdd, Nat.reduceMul, Nat.reduceLeDiff, Nat.reduceSub, decide_true, decide_false, Bool.toNat_true, Bool.toNat_false, not_true_eq_false, not_false_eq_true, ite_not, true_and, and_true, if_true, if_false, ↓reduceIte, Bool.or_true, Bool.true_or, Bool.or_false, s1]
  have f : ∀ o k, o ≠ 50 → ab_up (ab_up (ab_up (ab_up I 50 0 a) 50 1 b) 50 2 c) 50 3 d o k = I o k := fun o k hk => by rw [fr_seti hk, fr_seti hk, fr_seti hk, fr_seti hk]
  obtain ⟨h1, h2, h3, h4, h5, h6, h7⟩ := h
  refine C_go (s := s) (ar := ar4 a b c d) ok ⟨Ca_eq ok.1 (fun o k _ _ => f o k (by omega)) h1, Ci_eq ok.2.1 (fun o k _ => f o k (by omega)) h2, Ct_eq (fun o k _ => f o k (by omega)) h3, (f _ _ (by omega)).trans h4, Cr_eq (fun k _ => f _ k (by omega)) (fun _ => rfl) h5, Cs_eq (fun o k _ => f o k (by omega)) h6, (f _ _ (by omega)).trans h7⟩ (fun i hi => ?_) (fun I' J' g1 g2 g3 => ?_)
  · have : i = 0 ∨ i = 1 ∨ i = 2 ∨ i = 3 := by omega
    rcases this with rfl | rfl | rfl | rfl
    · rw [fr_setk (by omega), fr_setk (by omega), fr_setk (by omega), fr_sets]; rfl
    · rw [fr_setk (by omega), fr_setk (by omega), fr_sets]; rfl
    · rw [fr_setk (by omega), fr_sets]; rfl
    · rw [fr_sets]; rfl
  · simp (disch := first | omega | assumption | exact own_106 | exact rt_106 | exact sr_49 | exact sr_53 | exact q_lt1 (hb _ _) | exact bt_lt _ | fail) only [own_106, rt_106, ab_kl_n, ab_kl_i, ab_kl_r, ab_kl_l, at_106_0, Go_aload_0, at_106_1, Go_getf, fl_7_19, gg_7_1, sh_ref, sh_rf, sr_0, sf_0_1, sr_49, at_106_4, Go_iload_1, at_106_5, Go_iload_2, at_106_6, Go_iload_3, at_106_7, Go_iload_4, at_106_9, cl_7_179, cat_n, cat_i, cat_r, cat_l, tl_i, tl_l, tl_n, sh_same, at_106_12, at_106_13, at_106_16, at_106_17, fl_7_62, gg_7_9, sf_0_9, sr_73, at_106_20, cl_7_183, at_106_23, Go_lreturn, Nat.reduceAdd, Nat.reduceMul, Nat.reduceLeDiff, Nat.reduceSub, decide_true, decide_false, Bool.toNat_true, Bool.toNat_false, not_true_eq_false, not_false_eq_true, ite_not, true_and, and_true, if_true, if_false, ↓reduceIte, Bool.or_true, Bool.true_or, Bool.or_false]
    exact K I' J' g1 ⟨fun o k hk => (g2 o k (by omega)).trans (f o k (by omega)), fun o k hk => g3 o k (by omega) (by omega)⟩
end CRU
