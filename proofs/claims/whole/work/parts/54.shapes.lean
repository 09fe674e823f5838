/-! WAYS, found: the reference's preds and dominators -/
section MSQ
variable {I : Nat → Nat → Int32} {J : Nat → Nat → Int64} {Q : Option Value → ab_H → Prop} {A : Nat → Nat → Nat} {g : Nat}
theorem mC_none (w : Nat) : ∀ n, mC A w n (fun _ => false) = fun _ => false := by
  intro n
  induction n with
  | zero => rfl
  | succ n ih =>
    funext q
    show (mC A w n (fun _ => false) q || (mC A w n (fun _ => false) n && (!decide (n = w) && edb A n q))) = false
    rw [ih]
    rfl
theorem it_none (w : Nat) : ∀ k, itf (fC A w) k (fun _ => false) = fun _ => false := by
  intro k
  induction k with
  | zero => rfl
  | succ k ih =>
    funext q
    show (mC A w (A 0 0) (itf (fC A w) k (fun _ => false)) q && !decide (q = w)) = false
    rw [ih, mC_none]
    rfl
theorem m_comes (hl : WL A) (h : PM g I A) (hg : g = 0 ∨ g = 238 ∨ g = 476) (h0 : 0 < A 0 0) {w : Nat} (K : ∀ M, M < 64 → (∀ q, M.testBit q = true ↔ RE A (fun x => x = w) q) → Q (some (.int (nI M))) (SH, I, J)) : Ex 149 [.ref 199, .int (nI g), .int (wo w)] (SH, I, J) Q := by
  refine comes1 hl h hg (fun M hM hq => K M hM (fun q => ?_))
  rw [hq q]
  by_cases hw : w = 0
  · subst hw
    have e : w0 0 = fun _ => false := funext fun q => decide_eq_false (fun z => z.2 rfl)
    rw [e, it_none]
    refine ⟨fun z => (by cases z), fun h => ?_⟩
    exfalso
    exact RE_ind (X := fun x => x = 0) (S := fun _ => False) (fun z => z rfl) (fun _ _ _ h _ _ => h) h
  · have e : w0 w = S0 := funext fun q => decide_eq_decide.mpr ⟨fun z => z.1, fun z => ⟨z, hw⟩⟩
    rw [e]
    exact iC_iff hl h0 hw
def MP (A : Nat → Nat → Nat) (I : Nat → Nat → Int32) (b n : Nat) : Prop := I 205 b = nI (cn (fun c => edb A c b) n) ∧ (∀ c, c < n → edb A c b = true → I 204 (6 * b + cn (fun c => edb A c b) c) = nI c) ∧ ∃ M, M < 64 ∧ I 206 b = nI M ∧ ∀ x, M.testBit x = true ↔ x < n ∧ ¬ RE A (fun y => y = x) b
def MPk (I I' : Nat → Nat → Int32) : Prop := ∀ o k, ¬ (204 ≤ o ∧ o ≤ 206) → I' o k = I o k
theorem PM_mpk {I I' : Nat → Nat → Int32} (hf : MPk I I') (h : PM g I A) : PM g I' A := by
  obtain ⟨e0, e1, e2, e3, e4, e5, e6, e7, e8, e9, e10, e11, e12⟩ := h
  have f : ∀ k, I' 200 k = I 200 k := fun k => hf _ _ (by omega)
  exact ⟨(f _).trans e0, (f _).trans e1, fun b hb => (f _).trans (e2 b hb), fun b hb => (f _).trans (e3 b hb), fun b hb => (f _).trans (e4 b hb), fun b hb => (f _).trans (e5 b hb), fun b hb => (f _).trans (e6 b hb), fun b hb => (f _).trans (e7 b hb), fun n hn => (f _).trans (e8 n hn), fun n hn => (f _).trans (e9 n hn), fun n hn => (f _).trans (e10 n hn), fun n hn hx => (f _).trans (e11 n hn hx), fun n i hn hi => (f _).trans (e12 n i hn hi)⟩
theorem m_shapesOn (hb : WB A) (hl : WL A) (h : PM g I A) (hg : g = 0 ∨ g = 238 ∨ g = 476) (K : ∀ I', MPk I I' → (∀ b, b < A 0 0 → MP A I' b (A 0 0)) → Q none (SH, I', J)) : Ex 150 [.ref 199, .int (nI g)] (SH, I, J) Q := by
  have l1 := hl.1
  have e0 := h.1
  rw [en_150]
  simp (disch := first | omega | assumption | exact own_150 | exact rt_150 | exact sr_199 | exact q_lt1 (hb _ _) | exact bt_lt _ | fail) only [own_150, rt_150, ab_kl_n, ab_kl_i, ab_kl_r, ab_kl_l, at_150_0, Go_aload_0, at_150_1, Go_getf, fl_8_7, gg_8_0, sh_ref, sh_rf, sr_199, sf_199_0, sr_200, sn_200, at_150_4, Go_iload_1, at_150_5, Go_sipush, ks_236, at_150_8, Go_iadd, q_add, Nat.zero_add, at_150_9, Go_iaload, sh_ln, q_in, q_cl, at_150_10, Go_istore_2, ab_put_int_2, at_150_11, Go_iconst, kc_0, at_150_12, Go_istore_3, ab_put_int_3, Go_iload_3, at_150_14, Go_iload_2, jt_150_15, q_le, q_lt, q_eq, n_leT, n_leF, n_ltT, n_ltF, n_eqF, n_b0, at_150_18, at_150_19, fl_8_25, gg_8_13, sf_199_13, sr_205, sn_205, at_150_22, at_150_23, at_150_24, Go_iastore, sh_seti, at_150_25, at_150_26, fl_8_28, gg_8_14, sf_199_14, sr_206, sn_206, at_150_29, at_150_30, at_150_31, at_150_32, at_150_33, Go_istore_4, ab_put_int_4, Go_iload_4, at_150_37, jt_150_38, at_150_41, at_150_42, at_150_45, at_150_46, Go_bipush, kb_18, at_150_48, at_150_49, at_150_51, at_150_52, at_150_53, jt_150_54, at_150_57, at_150_58, at_150_61, at_150_62, kb_24, at_150_64, at_150_65, at_150_67, at_150_68, at_150_69, jt_150_70, at_150_73, at_150_74, fl_8_22, gg_8_12, sf_199_12, sr_204, sn_204, at_150_77, kb_6, at_150_79, at_150_80, Go_imul, q_mul, at_150_81, at_150_82, at_150_85, at_150_86, at_150_87, at_150_88, at_150_90, at_150_91, at_150_92, at_150_95, at_150_96, Go_dup2, at_150_97, at_150_98, kc_1, at_150_99, at_150_100, at_150_101, at_150_102, at_150_105, at_150_106, at_150_107, at_150_108, at_150_110, jt_150_111, at_150_114, at_150_115, at_150_116, at_150_118, cl_8_163, cat_n, cat_i, cat_r, cat_l, tl_i, tl_l, tl_n, sh_same, at_150_121, at_150_122, Go_ishr, q_hb, at_150_123, at_150_124, Go_iand, jt_150_125, at_150_128, at_150_129, at_150_131, Go_ishl, q_shl, jt_150_132, at_150_135, at_150_136, Go_ior, q_or, at_150_137, at_150_138, Go_iinc_4, jt_150_141, at_150_144, Go_iinc_3, jt_150_147, at_150_150, Go_return, Nat.reduceAdd, Nat.reduceMul, Nat.reduceLeDiff, Nat.reduceSub, decide_true, decide_false, Bool.toNat_true, Bool.toNat_false, not_true_eq_false, not_false_eq_true, ite_not, true_and, and_true, if_true, if_false, ↓reduceIte, Bool.or_true, Bool.true_or, Bool.or_false, e0]
  refine lp_wp (a := 0) (N := A 0 0) (Nat.zero_le _) (fun b => ∀ (I' : Nat → Nat → Int32) (v : Option Value), MPk I I' → (∀ c, c < b → MP A I' c (A 0 0)) → Go (ab_at 150 13) 150 13 [some (.ref 199), some (.int (nI (g))), some (.int (nI (A 0 0))), some (.int (nI (b))), v] []  (SH, I', J) Q) (fun I' v hf hz => ?_) (fun b _ hb' ih I' v hf hz => ?_) I none (fun _ _ _ => rfl) (fun c hc => absurd hc (Nat.not_lt_zero c))
  · rw [at_150_13]
    simp (disch := first | omega | assumption | exact own_150 | exact rt_150 | exact sr_199 | exact q_lt1 (hb _ _) | exact bt_lt _ | fail) only [own_150, rt_150, ab_kl_n, ab_kl_i, ab_kl_r, ab_kl_l, at_150_0, Go_aload_0, at_150_1, Go_getf, fl_8_7, gg_8_0, sh_ref, sh_rf, sr_199, sf_199_0, sr_200, sn_200, at_150_4, Go_iload_1, at_150_5, Go_sipush, ks_236, at_150_8, Go_iadd, q_add, Nat.zero_add, at_150_9, Go_iaload, sh_ln, q_in, q_cl, at_150_10, Go_istore_2, ab_put_int_2, at_150_11, Go_iconst, kc_0, at_150_12, Go_istore_3, ab_put_int_3, Go_iload_3, at_150_14, Go_iload_2, jt_150_15, q_le, q_lt, q_eq, n_leT, n_leF, n_ltT, n_ltF, n_eqF, n_b0, at_150_18, at_150_19, fl_8_25, gg_8_13, sf_199_13, sr_205, sn_205, at_150_22, at_150_23, at_150_24, Go_iastore, sh_seti, at_150_25, at_150_26, fl_8_28, gg_8_14, sf_199_14, sr_206, sn_206, at_150_29, at_150_30, at_150_31, at_150_32, at_150_33, Go_istore_4, ab_put_int_4, Go_iload_4, at_150_37, jt_150_38, at_150_41, at_150_42, at_150_45, at_150_46, Go_bipush, kb_18, at_150_48, at_150_49, at_150_51, at_150_52, at_150_53, jt_150_54, at_150_57, at_150_58, at_150_61, at_150_62, kb_24, at_150_64, at_150_65, at_150_67, at_150_68, at_150_69, jt_150_70, at_150_73, at_150_74, fl_8_22, gg_8_12, sf_199_12, sr_204, sn_204, at_150_77, kb_6, at_150_79, at_150_80, Go_imul, q_mul, at_150_81, at_150_82, at_150_85, at_150_86, at_150_87, at_150_88, at_150_90, at_150_91, at_150_92, at_150_95, at_150_96, Go_dup2, at_150_97, at_150_98, kc_1, at_150_99, at_150_100, at_150_101, at_150_102, at_150_105, at_150_106, at_150_107, at_150_108, at_150_110, jt_150_111, at_150_114, at_150_115, at_150_116, at_150_118, cl_8_163, cat_n, cat_i, cat_r, cat_l, tl_i, tl_l, tl_n, sh_same, at_150_121, at_150_122, Go_ishr, q_hb, at_150_123, at_150_124, Go_iand, jt_150_125, at_150_128, at_150_129, at_150_131, Go_ishl, q_shl, jt_150_132, at_150_135, at_150_136, Go_ior, q_or, at_150_137, at_150_138, Go_iinc_4, jt_150_141, at_150_144, Go_iinc_3, jt_150_147, at_150_150, Go_return, Nat.reduceAdd, Nat.reduceMul, Nat.reduceLeDiff, Nat.reduceSub, decide_true, decide_false, Bool.toNat_true, Bool.toNat_false, not_true_eq_false, not_false_eq_true, ite_not, true_and, and_true, if_true, if_false, ↓reduceIte, Bool.or_true, Bool.true_or, Bool.or_false]
    exact K I' hf hz
  · rw [at_150_13]
    simp (disch := first | omega | assumption | exact own_150 | exact rt_150 | exact sr_199 | exact q_lt1 (hb _ _) | exact bt_lt _ | fail) only [own_150, rt_150, ab_kl_n, ab_kl_i, ab_kl_r, ab_kl_l, at_150_0, Go_aload_0, at_150_1, Go_getf, fl_8_7, gg_8_0, sh_ref, sh_rf, sr_199, sf_199_0, sr_200, sn_200, at_150_4, Go_iload_1, at_150_5, Go_sipush, ks_236, at_150_8, Go_iadd, q_add, Nat.zero_add, at_150_9, Go_iaload, sh_ln, q_in, q_cl, at_150_10, Go_istore_2, ab_put_int_2, at_150_11, Go_iconst, kc_0, at_150_12, Go_istore_3, ab_put_int_3, Go_iload_3, at_150_14, Go_iload_2, jt_150_15, q_le, q_lt, q_eq, n_leT, n_leF, n_ltT, n_ltF, n_eqF, n_b0, at_150_18, at_150_19, fl_8_25, gg_8_13, sf_199_13, sr_205, sn_205, at_150_22, at_150_23, at_150_24, Go_iastore, sh_seti, at_150_25, at_150_26, fl_8_28, gg_8_14, sf_199_14, sr_206, sn_206, at_150_29, at_150_30, at_150_31, at_150_32, at_150_33, Go_istore_4, ab_put_int_4, Go_iload_4, at_150_37, jt_150_38, at_150_41, at_150_42, at_150_45, at_150_46, Go_bipush, kb_18, at_150_48, at_150_49, at_150_51, at_150_52, at_150_53, jt_150_54, at_150_57, at_150_58, at_150_61, at_150_62, kb_24, at_150_64, at_150_65, at_150_67, at_150_68, at_150_69, jt_150_70, at_150_73, at_150_74, fl_8_22, gg_8_12, sf_199_12, sr_204, sn_204, at_150_77, kb_6, at_150_79, at_150_80, Go_imul, q_mul, at_150_81, at_150_82, at_150_85, at_150_86, at_150_87, at_150_88, at_150_90, at_150_91, at_150_92, at_150_95, at_150_96, Go_dup2, at_150_97, at_150_98, kc_1, at_150_99, at_150_100, at_150_101, at_150_102, at_150_105, at_150_106, at_150_107, at_150_108, at_150_110, jt_150_111, at_150_114, at_150_115, at_150_116, at_150_118, cl_8_163, cat_n, cat_i, cat_r, cat_l, tl_i, tl_l, tl_n, sh_same, at_150_121, at_150_122, Go_ishr, q_hb, at_150_123, at_150_124, Go_iand, jt_150_125, at_150_128, at_150_129, at_150_131, Go_ishl, q_shl, jt_150_132, at_150_135, at_150_136, Go_ior, q_or, at_150_137, at_150_138, Go_iinc_4, jt_150_141, at_150_144, Go_iinc_3, jt_150_147, at_150_150, Go_return, Nat.reduceAdd, Nat.reduceMul, Nat.reduceLeDiff, Nat.reduceSub, decide_true, decide_false, Bool.toNat_true, Bool.toNat_false, not_true_eq_false, not_false_eq_true, ite_not, true_and, and_true, if_true, if_false, ↓reduceIte, Bool.or_true, Bool.true_or, Bool.or_false]
    refine lp_wp (a := 0) (N := A 0 0) (Nat.zero_le _) (fun n => ∀ (I' : Nat → Nat → Int32), MPk I I' → (∀ c, c < b → MP A I' c (A 0 0)) → MP A I' b n → Go (ab_at 150 35) 150 35 [some (.ref 199), some (.int (nI (g))), some (.int (nI (A 0 0))), some (.int (nI (b))), some (.int (nI (n)))] []  (SH, I', J) Q) (fun I' hf hz hn => ?_) (fun n _ hn' ih2 I' hf hz hn => ?_) _ (fun o k ho => by rw [fr_seti (by omega), fr_seti (by omega)]; exact hf o k ho) (fun c hc => ?_) ⟨by rw [fr_seti (by omega), fr_sets]; rfl, fun c hc => absurd hc (Nat.not_lt_zero c), 0, by omega, fr_sets, fun x => by rw [Nat.zero_testBit]; exact ⟨fun z => (by cases z), fun z => absurd z.1 (Nat.not_lt_zero x)⟩⟩
    · rw [at_150_35]
      simp (disch := first | omega | assumption | exact own_150 | exact rt_150 | exact sr_199 | exact q_lt1 (hb _ _) | exact bt_lt _ | fail) only [own_150, rt_150, ab_kl_n, ab_kl_i, ab_kl_r, ab_kl_l, at_150_0, Go_aload_0, at_150_1, Go_getf, fl_8_7, gg_8_0, sh_ref, sh_rf, sr_199, sf_199_0, sr_200, sn_200, at_150_4, Go_iload_1, at_150_5, Go_sipush, ks_236, at_150_8, Go_iadd, q_add, Nat.zero_add, at_150_9, Go_iaload, sh_ln, q_in, q_cl, at_150_10, Go_istore_2, ab_put_int_2, at_150_11, Go_iconst, kc_0, at_150_12, Go_istore_3, ab_put_int_3, Go_iload_3, at_150_14, Go_iload_2, jt_150_15, q_le, q_lt, q_eq, n_leT, n_leF, n_ltT, n_ltF, n_eqF, n_b0, at_150_18, at_150_19, fl_8_25, gg_8_13, sf_199_13, sr_205, sn_205, at_150_22, at_150_23, at_150_24, Go_iastore, sh_seti, at_150_25, at_150_26, fl_8_28, gg_8_14, sf_199_14, sr_206, sn_206, at_150_29, at_150_30, at_150_31, at_150_32, at_150_33, Go_istore_4, ab_put_int_4, Go_iload_4, at_150_37, jt_150_38, at_150_41, at_150_42, at_150_45, at_150_46, Go_bipush, kb_18, at_150_48, at_150_49, at_150_51, at_150_52, at_150_53, jt_150_54, at_150_57, at_150_58, at_150_61, at_150_62, kb_24, at_150_64, at_150_65, at_150_67, at_150_68, at_150_69, jt_150_70, at_150_73, at_150_74, fl_8_22, gg_8_12, sf_199_12, sr_204, sn_204, at_150_77, kb_6, at_150_79, at_150_80, Go_imul, q_mul, at_150_81, at_150_82, at_150_85, at_150_86, at_150_87, at_150_88, at_150_90, at_150_91, at_150_92, at_150_95, at_150_96, Go_dup2, at_150_97, at_150_98, kc_1, at_150_99, at_150_100, at_150_101, at_150_102, at_150_105, at_150_106, at_150_107, at_150_108, at_150_110, jt_150_111, at_150_114, at_150_115, at_150_116, at_150_118, cl_8_163, cat_n, cat_i, cat_r, cat_l, tl_i, tl_l, tl_n, sh_same, at_150_121, at_150_122, Go_ishr, q_hb, at_150_123, at_150_124, Go_iand, jt_150_125, at_150_128, at_150_129, at_150_131, Go_ishl, q_shl, jt_150_132, at_150_135, at_150_136, Go_ior, q_or, at_150_137, at_150_138, Go_iinc_4, jt_150_141, at_150_144, Go_iinc_3, jt_150_147, at_150_150, Go_return, Nat.reduceAdd, Nat.reduceMul, Nat.reduceLeDiff, Nat.reduceSub, decide_true, decide_false, Bool.toNat_true, Bool.toNat_false, not_true_eq_false, not_false_eq_true, ite_not, true_and, and_true, if_true, if_false, ↓reduceIte, Bool.or_true, Bool.true_or, Bool.or_false]
      refine ih I' _ hf (fun c hc => ?_)
      by_cases z : c = b
      · subst z; exact hn
      · exact hz c (by omega)
    · have hn6 : n < 6 := by omega
      have hpm := PM_mpk hf h
      have m3 := hl.2 n hn'
      have f5 : (I' 200 (g + 18 + n) = nI b) = (A 3 n ≠ 2 ∧ A 4 n = b) := by
        rw [hpm.2.2.2.2.2.1 n hn']
        by_cases c : A 3 n = 2
        · rw [if_pos c, q_m4' (by omega)]; exact propext ⟨fun z => z.elim, fun z => absurd c z.1⟩
        · have := m3.2.1 c
          rw [if_neg c, q_eq (by omega) (by omega)]; exact propext ⟨fun z => ⟨c, z⟩, fun z => z.2⟩
      have f6 : (I' 200 (g + 24 + n) = nI b) = (A 3 n = 1 ∧ A 5 n = b) := by
        rw [hpm.2.2.2.2.2.2.1 n hn']
        by_cases c : A 3 n = 1
        · have := m3.2.2 c
          rw [if_pos c, q_eq (by omega) (by omega)]; exact propext ⟨fun z => ⟨c, z⟩, fun z => z.2⟩
        · rw [if_neg c, q_m4' (by omega)]; exact propext ⟨fun z => z.elim, fun z => absurd z.1 c⟩
      have cl : cn (fun c => edb A c b) n ≤ n := cn_le _ _
      have es := cn_succ (fun c => edb A c b) n
      have ws : 1 <<< n < 64 := (by decide : ∀ g, g < 6 → 1 <<< g < 64) n hn6
      obtain ⟨n1, n2, n3⟩ := hn
      have mid : ∀ I1 : Nat → Nat → Int32, MPk I I1 → (∀ c, c < b → MP A I1 c (A 0 0)) → I1 205 b = nI (cn (fun c => edb A c b) (n + 1)) → (∀ c, c < n + 1 → edb A c b = true → I1 204 (6 * b + cn (fun c => edb A c b) c) = nI c) → (∃ M, M < 64 ∧ I1 206 b = nI M ∧ ∀ x, M.testBit x = true ↔ x < n ∧ ¬ RE A (fun y => y = x) b) → Go (ab_at 150 101) 150 101 [some (.ref 199), some (.int (nI (g))), some (.int (nI (A 0 0))), some (.int (nI (b))), some (.int (nI (n)))] []  (SH, I1, J) Q := by
        intro I1 hf1 hz1 k1 k2 ⟨M, k3, k4, k5⟩
        have fin : ∀ M', M' < 64 → (∀ x, M'.testBit x = true ↔ x < n + 1 ∧ ¬ RE A (fun y => y = x) b) → Go (ab_at 150 35) 150 35 [some (.ref 199), some (.int (nI (g))), some (.int (nI (A 0 0))), some (.int (nI (b))), some (.int (nI ((n + 1))))] []  (SH, ab_up I1 206 b (nI M'), J) Q := fun M' w1 w2 => ih2 _ (fun o k ho => by rw [fr_seti (by omega)]; exact hf1 o k ho) (fun c hc => by
          obtain ⟨j1, j2, Z, j3, j4, j5⟩ := hz1 c hc
          exact ⟨by rw [fr_seti (by omega)]; exact j1, fun e he hx => by rw [fr_seti (by omega)]; exact j2 e he hx, Z, j3, by rw [fr_setk (by omega)]; exact j4, j5⟩) ⟨by rw [fr_seti (by omega)]; exact k1, fun c hc hx => by rw [fr_seti (by omega)]; exact k2 c hc hx, M', w1, fr_sets, w2⟩
        rw [at_150_101]
        by_cases c1 : n = b
        · have r : ¬ RE A (fun y => y = n) b := by subst c1; exact fun z => RE_not z rfl
          have := fin (M ||| 1 <<< n) (Nat.or_lt_two_pow (n := 6) k3 ws) (fun x => by
            rw [Nat.testBit_or, Bool.or_eq_true, k5 x, tb_shl, decide_eq_true_eq]
            constructor
            · rintro (⟨z1, z2⟩ | rfl)
              · exact ⟨by omega, z2⟩
              · exact ⟨by omega, r⟩
            · rintro ⟨z1, z2⟩
              by_cases y : n = x
              · exact Or.inr y
              · exact Or.inl ⟨by omega, z2⟩)
          simp (disch := first | omega | assumption | exact own_150 | exact rt_150 | exact sr_199 | exact q_lt1 (hb _ _) | exact bt_lt _ | fail) only [own_150, rt_150, ab_kl_n, ab_kl_i, ab_kl_r, ab_kl_l, at_150_0, Go_aload_0, at_150_1, Go_getf, fl_8_7, gg_8_0, sh_ref, sh_rf, sr_199, sf_199_0, sr_200, sn_200, at_150_4, Go_iload_1, at_150_5, Go_sipush, ks_236, at_150_8, Go_iadd, q_add, Nat.zero_add, at_150_9, Go_iaload, sh_ln, q_in, q_cl, at_150_10, Go_istore_2, ab_put_int_2, at_150_11, Go_iconst, kc_0, at_150_12, Go_istore_3, ab_put_int_3, Go_iload_3, at_150_14, Go_iload_2, jt_150_15, q_le, q_lt, q_eq, n_leT, n_leF, n_ltT, n_ltF, n_eqF, n_b0, at_150_18, at_150_19, fl_8_25, gg_8_13, sf_199_13, sr_205, sn_205, at_150_22, at_150_23, at_150_24, Go_iastore, sh_seti, at_150_25, at_150_26, fl_8_28, gg_8_14, sf_199_14, sr_206, sn_206, at_150_29, at_150_30, at_150_31, at_150_32, at_150_33, Go_istore_4, ab_put_int_4, Go_iload_4, at_150_37, jt_150_38, at_150_41, at_150_42, at_150_45, at_150_46, Go_bipush, kb_18, at_150_48, at_150_49, at_150_51, at_150_52, at_150_53, jt_150_54, at_150_57, at_150_58, at_150_61, at_150_62, kb_24, at_150_64, at_150_65, at_150_67, at_150_68, at_150_69, jt_150_70, at_150_73, at_150_74, fl_8_22, gg_8_12, sf_199_12, sr_204, sn_204, at_150_77, kb_6, at_150_79, at_150_80, Go_imul, q_mul, at_150_81, at_150_82, at_150_85, at_150_86, at_150_87, at_150_88, at_150_90, at_150_91, at_150_92, at_150_95, at_150_96, Go_dup2, at_150_97, at_150_98, kc_1, at_150_99, at_150_100, at_150_101, at_150_102, at_150_105, at_150_106, at_150_107, at_150_108, at_150_110, jt_150_111, at_150_114, at_150_115, at_150_116, at_150_118, cl_8_163, cat_n, cat_i, cat_r, cat_l, tl_i, tl_l, tl_n, sh_same, at_150_121, at_150_122, Go_ishr, q_hb, at_150_123, at_150_124, Go_iand, jt_150_125, at_150_128, at_150_129, at_150_131, Go_ishl, q_shl, jt_150_132, at_150_135, at_150_136, Go_ior, q_or, at_150_137, at_150_138, Go_iinc_4, jt_150_141, at_150_144, Go_iinc_3, jt_150_147, at_150_150, Go_return, Nat.reduceAdd, Nat.reduceMul, Nat.reduceLeDiff, Nat.reduceSub, decide_true, decide_false, Bool.toNat_true, Bool.toNat_false, not_true_eq_false, not_false_eq_true, ite_not, true_and, and_true, if_true, if_false, ↓reduceIte, Bool.or_true, Bool.true_or, Bool.or_false, k4, c1]
          rw [c1] at this
          exact this
        · have ew : wo n = nI n := if_pos hn6
          have hc := @m_comes I1 J
          have hc2 := fun Q => @hc Q A g hl (PM_mpk hf1 h) hg (by omega) n
          rw [ew] at hc2
          simp (disch := first | omega | assumption | exact own_150 | exact rt_150 | exact sr_199 | exact q_lt1 (hb _ _) | exact bt_lt _ | fail) only [own_150, rt_150, ab_kl_n, ab_kl_i, ab_kl_r, ab_kl_l, at_150_0, Go_aload_0, at_150_1, Go_getf, fl_8_7, gg_8_0, sh_ref, sh_rf, sr_199, sf_199_0, sr_200, sn_200, at_150_4, Go_iload_1, at_150_5, Go_sipush, ks_236, at_150_8, Go_iadd, q_add, Nat.zero_add, at_150_9, Go_iaload, sh_ln, q_in, q_cl, at_150_10, Go_istore_2, ab_put_int_2, at_150_11, Go_iconst, kc_0, at_150_12, Go_istore_3, ab_put_int_3, Go_iload_3, at_150_14, Go_iload_2, jt_150_15, q_le, q_lt, q_eq, n_leT, n_leF, n_ltT, n_ltF, n_eqF, n_b0, at_150_18, at_150_19, fl_8_25, gg_8_13, sf_199_13, sr_205, sn_205, at_150_22, at_150_23, at_150_24, Go_iastore, sh_seti, at_150_25, at_150_26, fl_8_28, gg_8_14, sf_199_14, sr_206, sn_206, at_150_29, at_150_30, at_150_31, at_150_32, at_150_33, Go_istore_4, ab_put_int_4, Go_iload_4, at_150_37, jt_150_38, at_150_41, at_150_42, at_150_45, at_150_46, Go_bipush, kb_18, at_150_48, at_150_49, at_150_51, at_150_52, at_150_53, jt_150_54, at_150_57, at_150_58, at_150_61, at_150_62, kb_24, at_150_64, at_150_65, at_150_67, at_150_68, at_150_69, jt_150_70, at_150_73, at_150_74, fl_8_22, gg_8_12, sf_199_12, sr_204, sn_204, at_150_77, kb_6, at_150_79, at_150_80, Go_imul, q_mul, at_150_81, at_150_82, at_150_85, at_150_86, at_150_87, at_150_88, at_150_90, at_150_91, at_150_92, at_150_95, at_150_96, Go_dup2, at_150_97, at_150_98, kc_1, at_150_99, at_150_100, at_150_101, at_150_102, at_150_105, at_150_106, at_150_107, at_150_108, at_150_110, jt_150_111, at_150_114, at_150_115, at_150_116, at_150_118, cl_8_163, cat_n, cat_i, cat_r, cat_l, tl_i, tl_l, tl_n, sh_same, at_150_121, at_150_122, Go_ishr, q_hb, at_150_123, at_150_124, Go_iand, jt_150_125, at_150_128, at_150_129, at_150_131, Go_ishl, q_shl, jt_150_132, at_150_135, at_150_136, Go_ior, q_or, at_150_137, at_150_138, Go_iinc_4, jt_150_141, at_150_144, Go_iinc_3, jt_150_147, at_150_150, Go_return, Nat.reduceAdd, Nat.reduceMul, Nat.reduceLeDiff, Nat.reduceSub, decide_true, decide_false, Bool.toNat_true, Bool.toNat_false, not_true_eq_false, not_false_eq_true, ite_not, true_and, and_true, if_true, if_false, ↓reduceIte, Bool.or_true, Bool.true_or, Bool.or_false, k4, c1]
          refine hc2 _ (fun Z z1 z2 => ?_)
          have hZ := z2 b
          cases c2 : Z.testBit b with
          | true =>
            rw [c2] at hZ
            have r : RE A (fun y => y = n) b := hZ.mp rfl
            have := fin (M ||| 0) (by rw [Nat.or_zero]; exact k3) (fun x => by
              rw [Nat.or_zero, k5 x]
              exact ⟨fun z => ⟨by omega, z.2⟩, fun z => ⟨by
                by_cases y : x = n
                · subst y; exact absurd r z.2
                · omega, z.2⟩⟩)
            simp (disch := first | omega | assumption | exact own_150 | exact rt_150 | exact sr_199 | exact q_lt1 (hb _ _) | exact bt_lt _ | fail) only [own_150, rt_150, ab_kl_n, ab_kl_i, ab_kl_r, ab_kl_l, at_150_0, Go_aload_0, at_150_1, Go_getf, fl_8_7, gg_8_0, sh_ref, sh_rf, sr_199, sf_199_0, sr_200, sn_200, at_150_4, Go_iload_1, at_150_5, Go_sipush, ks_236, at_150_8, Go_iadd, q_add, Nat.zero_add, at_150_9, Go_iaload, sh_ln, q_in, q_cl, at_150_10, Go_istore_2, ab_put_int_2, at_150_11, Go_iconst, kc_0, at_150_12, Go_istore_3, ab_put_int_3, Go_iload_3, at_150_14, Go_iload_2, jt_150_15, q_le, q_lt, q_eq, n_leT, n_leF, n_ltT, n_ltF, n_eqF, n_b0, at_150_18, at_150_19, fl_8_25, gg_8_13, sf_199_13, sr_205, sn_205, at_150_22, at_150_23, at_150_24, Go_iastore, sh_seti, at_150_25, at_150_26, fl_8_28, gg_8_14, sf_199_14, sr_206, sn_206, at_150_29, at_150_30, at_150_31, at_150_32, at_150_33, Go_istore_4, ab_put_int_4, Go_iload_4, at_150_37, jt_150_38, at_150_41, at_150_42, at_150_45, at_150_46, Go_bipush, kb_18, at_150_48, at_150_49, at_150_51, at_150_52, at_150_53, jt_150_54, at_150_57, at_150_58, at_150_61, at_150_62, kb_24, at_150_64, at_150_65, at_150_67, at_150_68, at_150_69, jt_150_70, at_150_73, at_150_74, fl_8_22, gg_8_12, sf_199_12, sr_204, sn_204, at_150_77, kb_6, at_150_79, at_150_80, Go_imul, q_mul, at_150_81, at_150_82, at_150_85, at_150_86, at_150_87, at_150_88, at_150_90, at_150_91, at_150_92, at_150_95, at_150_96, Go_dup2, at_150_97, at_150_98, kc_1, at_150_99, at_150_100, at_150_101, at_150_102, at_150_105, at_150_106, at_150_107, at_150_108, at_150_110, jt_150_111, at_150_114, at_150_115, at_150_116, at_150_118, cl_8_163, cat_n, cat_i, cat_r, cat_l, tl_i, tl_l, tl_n, sh_same, at_150_121, at_150_122, Go_ishr, q_hb, at_150_123, at_150_124, Go_iand, jt_150_125, at_150_128, at_150_129, at_150_131, Go_ishl, q_shl, jt_150_132, at_150_135, at_150_136, Go_ior, q_or, at_150_137, at_150_138, Go_iinc_4, jt_150_141, at_150_144, Go_iinc_3, jt_150_147, at_150_150, Go_return, Nat.reduceAdd, Nat.reduceMul, Nat.reduceLeDiff, Nat.reduceSub, decide_true, decide_false, Bool.toNat_true, Bool.toNat_false, not_true_eq_false, not_false_eq_true, ite_not, true_and, and_true, if_true, if_false, ↓reduceIte, Bool.or_true, Bool.true_or, Bool.or_false, k4, c1, c2, Bool.true_eq_false]
            exact this
          | false =>
            rw [c2] at hZ
            have r : ¬ RE A (fun y => y = n) b := fun z => by cases hZ.mpr z
            have := fin (M ||| 1 <<< n) (Nat.or_lt_two_pow (n := 6) k3 ws) (fun x => by
              rw [Nat.testBit_or, Bool.or_eq_true, k5 x, tb_shl, decide_eq_true_eq]
              constructor
              · rintro (⟨z1, z2⟩ | rfl)
                · exact ⟨by omega, z2⟩
                · exact ⟨by omega, r⟩
              · rintro ⟨z1, z2⟩
                by_cases y : n = x
                · exact Or.inr y
                · exact Or.inl ⟨by omega, z2⟩)
            simp (disch := first | omega | assumption | exact own_150 | exact rt_150 | exact sr_199 | exact q_lt1 (hb _ _) | exact bt_lt _ | fail) only [own_150, rt_150, ab_kl_n, ab_kl_i, ab_kl_r, ab_kl_l, at_150_0, Go_aload_0, at_150_1, Go_getf, fl_8_7, gg_8_0, sh_ref, sh_rf, sr_199, sf_199_0, sr_200, sn_200, at_150_4, Go_iload_1, at_150_5, Go_sipush, ks_236, at_150_8, Go_iadd, q_add, Nat.zero_add, at_150_9, Go_iaload, sh_ln, q_in, q_cl, at_150_10, Go_istore_2, ab_put_int_2, at_150_11, Go_iconst, kc_0, at_150_12, Go_istore_3, ab_put_int_3, Go_iload_3, at_150_14, Go_iload_2, jt_150_15, q_le, q_lt, q_eq, n_leT, n_leF, n_ltT, n_ltF, n_eqF, n_b0, at_150_18, at_150_19, fl_8_25, gg_8_13, sf_199_13, sr_205, sn_205, at_150_22, at_150_23, at_150_24, Go_iastore, sh_seti, at_150_25, at_150_26, fl_8_28, gg_8_14, sf_199_14, sr_206, sn_206, at_150_29, at_150_30, at_150_31, at_150_32, at_150_33, Go_istore_4, ab_put_int_4, Go_iload_4, at_150_37, jt_150_38, at_150_41, at_150_42, at_150_45, at_150_46, Go_bipush, kb_18, at_150_48, at_150_49, at_150_51, at_150_52, at_150_53, jt_150_54, at_150_57, at_150_58, at_150_61, at_150_62, kb_24, at_150_64, at_150_65, at_150_67, at_150_68, at_150_69, jt_150_70, at_150_73, at_150_74, fl_8_22, gg_8_12, sf_199_12, sr_204, sn_204, at_150_77, kb_6, at_150_79, at_150_80, Go_imul, q_mul, at_150_81, at_150_82, at_150_85, at_150_86, at_150_87, at_150_88, at_150_90, at_150_91, at_150_92, at_150_95, at_150_96, Go_dup2, at_150_97, at_150_98, kc_1, at_150_99, at_150_100, at_150_101, at_150_102, at_150_105, at_150_106, at_150_107, at_150_108, at_150_110, jt_150_111, at_150_114, at_150_115, at_150_116, at_150_118, cl_8_163, cat_n, cat_i, cat_r, cat_l, tl_i, tl_l, tl_n, sh_same, at_150_121, at_150_122, Go_ishr, q_hb, at_150_123, at_150_124, Go_iand, jt_150_125, at_150_128, at_150_129, at_150_131, Go_ishl, q_shl, jt_150_132, at_150_135, at_150_136, Go_ior, q_or, at_150_137, at_150_138, Go_iinc_4, jt_150_141, at_150_144, Go_iinc_3, jt_150_147, at_150_150, Go_return, Nat.reduceAdd, Nat.reduceMul, Nat.reduceLeDiff, Nat.reduceSub, decide_true, decide_false, Bool.toNat_true, Bool.toNat_false, not_true_eq_false, not_false_eq_true, ite_not, true_and, and_true, if_true, if_false, ↓reduceIte, Bool.or_true, Bool.true_or, Bool.or_false, k4, c1, c2]
            exact this
      have hx := edb_iff (b := b) hn' m3.1
      rw [at_150_35]
      cases c : edb A n b with
      | false =>
        rw [c] at hx
        have c5 : ¬ (A 3 n ≠ 2 ∧ A 4 n = b) := fun z => by cases hx.mpr ⟨hn', Or.inl z⟩
        have c6 : ¬ (A 3 n = 1 ∧ A 5 n = b) := fun z => by cases hx.mpr ⟨hn', Or.inr z⟩
        rw [eq_false c5] at f5
        rw [eq_false c6] at f6
        have es2 : cn (fun c => edb A c b) (n + 1) = cn (fun c => edb A c b) n := by rw [es]; show _ + (edb A n b).toNat = _; rw [c]; rfl
        simp (disch := first | omega | assumption | exact own_150 | exact rt_150 | exact sr_199 | exact q_lt1 (hb _ _) | exact bt_lt _ | fail) only [own_150, rt_150, ab_kl_n, ab_kl_i, ab_kl_r, ab_kl_l, at_150_0, Go_aload_0, at_150_1, Go_getf, fl_8_7, gg_8_0, sh_ref, sh_rf, sr_199, sf_199_0, sr_200, sn_200, at_150_4, Go_iload_1, at_150_5, Go_sipush, ks_236, at_150_8, Go_iadd, q_add, Nat.zero_add, at_150_9, Go_iaload, sh_ln, q_in, q_cl, at_150_10, Go_istore_2, ab_put_int_2, at_150_11, Go_iconst, kc_0, at_150_12, Go_istore_3, ab_put_int_3, Go_iload_3, at_150_14, Go_iload_2, jt_150_15, q_le, q_lt, q_eq, n_leT, n_leF, n_ltT, n_ltF, n_eqF, n_b0, at_150_18, at_150_19, fl_8_25, gg_8_13, sf_199_13, sr_205, sn_205, at_150_22, at_150_23, at_150_24, Go_iastore, sh_seti, at_150_25, at_150_26, fl_8_28, gg_8_14, sf_199_14, sr_206, sn_206, at_150_29, at_150_30, at_150_31, at_150_32, at_150_33, Go_istore_4, ab_put_int_4, Go_iload_4, at_150_37, jt_150_38, at_150_41, at_150_42, at_150_45, at_150_46, Go_bipush, kb_18, at_150_48, at_150_49, at_150_51, at_150_52, at_150_53, jt_150_54, at_150_57, at_150_58, at_150_61, at_150_62, kb_24, at_150_64, at_150_65, at_150_67, at_150_68, at_150_69, jt_150_70, at_150_73, at_150_74, fl_8_22, gg_8_12, sf_199_12, sr_204, sn_204, at_150_77, kb_6, at_150_79, at_150_80, Go_imul, q_mul, at_150_81, at_150_82, at_150_85, at_150_86, at_150_87, at_150_88, at_150_90, at_150_91, at_150_92, at_150_95, at_150_96, Go_dup2, at_150_97, at_150_98, kc_1, at_150_99, at_150_100, at_150_102, at_150_105, at_150_106, at_150_107, at_150_108, at_150_110, jt_150_111, at_150_114, at_150_115, at_150_116, at_150_118, cl_8_163, cat_n, cat_i, cat_r, cat_l, tl_i, tl_l, tl_n, sh_same, at_150_121, at_150_122, Go_ishr, q_hb, at_150_123, at_150_124, Go_iand, jt_150_125, at_150_128, at_150_129, at_150_131, Go_ishl, q_shl, jt_150_132, at_150_135, at_150_136, Go_ior, q_or, at_150_137, at_150_138, Go_iinc_4, jt_150_141, at_150_144, Go_iinc_3, jt_150_147, at_150_150, Go_return, Nat.reduceAdd, Nat.reduceMul, Nat.reduceLeDiff, Nat.reduceSub, decide_true, decide_false, Bool.toNat_true, Bool.toNat_false, not_true_eq_false, not_false_eq_true, ite_not, true_and, and_true, if_true, if_false, ↓reduceIte, Bool.or_true, Bool.true_or, Bool.or_false, f5, f6]
        refine mid I' hf hz (by rw [es2]; exact n1) (fun d hd hy => ?_) n3
        by_cases z : d = n
        · subst z; rw [c] at hy; cases hy
        · exact n2 d (by omega) hy
      | true =>
        rw [c] at hx
        have es2 : cn (fun c => edb A c b) (n + 1) = cn (fun c => edb A c b) n + 1 := by rw [es]; show _ + (edb A n b).toNat = _; rw [c]; rfl
        have n1' : ∀ x, ab_up I' 204 (6 * b + cn (fun c => edb A c b) n) x 205 b = nI (cn (fun c => edb A c b) n) := fun x => by rw [fr_seti (by omega)]; exact n1
        have mid2 := mid (ab_up (ab_up I' 204 (6 * b + cn (fun c => edb A c b) n) (nI n)) 205 b (nI (cn (fun c => edb A c b) n + 1))) (fun o k ho => by rw [fr_seti (by omega), fr_seti (by omega)]; exact hf o k ho) (fun c hc => by
          obtain ⟨j1, j2, Z, j3, j4, j5⟩ := hz c hc
          exact ⟨by rw [fr_setk (by omega), fr_seti (by omega)]; exact j1, fun e he hx => by
            have := cn_le_of (f := fun x => edb A x c) (a := e) (b := 5) (by omega)
            have := cn_le (fun x => edb A x c) 5
            rw [fr_seti (by omega), fr_setk (by omega)]; exact j2 e he hx, Z, j3, by rw [fr_seti (by omega), fr_seti (by omega)]; exact j4, j5⟩) (by rw [fr_sets, es2]) (fun d hd hx => by
          rw [fr_seti (by omega)]
          by_cases z : d = n
          · subst z; exact fr_sets
          · have : cn (fun c => edb A c b) d < cn (fun c => edb A c b) n := by
              have := cn_le_of (f := fun c => edb A c b) (a := d + 1) (b := n) (by omega)
              rw [cn_succ] at this
              rw [hx] at this
              simp at this
              omega
            rw [fr_setk (by omega)]
            exact n2 d (by omega) hx) (by
          obtain ⟨M, j3, j4, j5⟩ := n3
          exact ⟨M, j3, by rw [fr_seti (by omega), fr_seti (by omega)]; exact j4, j5⟩)
        by_cases c5 : A 3 n ≠ 2 ∧ A 4 n = b
        · rw [eq_true c5] at f5
          simp (disch := first | omega | assumption | exact own_150 | exact rt_150 | exact sr_199 | exact q_lt1 (hb _ _) | exact bt_lt _ | fail) only [own_150, rt_150, ab_kl_n, ab_kl_i, ab_kl_r, ab_kl_l, at_150_0, Go_aload_0, at_150_1, Go_getf, fl_8_7, gg_8_0, sh_ref, sh_rf, sr_199, sf_199_0, sr_200, sn_200, at_150_4, Go_iload_1, at_150_5, Go_sipush, ks_236, at_150_8, Go_iadd, q_add, Nat.zero_add, at_150_9, Go_iaload, sh_ln, q_in, q_cl, at_150_10, Go_istore_2, ab_put_int_2, at_150_11, Go_iconst, kc_0, at_150_12, Go_istore_3, ab_put_int_3, Go_iload_3, at_150_14, Go_iload_2, jt_150_15, q_le, q_lt, q_eq, n_leT, n_leF, n_ltT, n_ltF, n_eqF, n_b0, at_150_18, at_150_19, fl_8_25, gg_8_13, sf_199_13, sr_205, sn_205, at_150_22, at_150_23, at_150_24, Go_iastore, sh_seti, at_150_25, at_150_26, fl_8_28, gg_8_14, sf_199_14, sr_206, sn_206, at_150_29, at_150_30, at_150_31, at_150_32, at_150_33, Go_istore_4, ab_put_int_4, Go_iload_4, at_150_37, jt_150_38, at_150_41, at_150_42, at_150_45, at_150_46, Go_bipush, kb_18, at_150_48, at_150_49, at_150_51, at_150_52, at_150_53, jt_150_54, at_150_57, at_150_58, at_150_61, at_150_62, kb_24, at_150_64, at_150_65, at_150_67, at_150_68, at_150_69, jt_150_70, at_150_73, at_150_74, fl_8_22, gg_8_12, sf_199_12, sr_204, sn_204, at_150_77, kb_6, at_150_79, at_150_80, Go_imul, q_mul, at_150_81, at_150_82, at_150_85, at_150_86, at_150_87, at_150_88, at_150_90, at_150_91, at_150_92, at_150_95, at_150_96, Go_dup2, at_150_97, at_150_98, kc_1, at_150_99, at_150_100, at_150_102, at_150_105, at_150_106, at_150_107, at_150_108, at_150_110, jt_150_111, at_150_114, at_150_115, at_150_116, at_150_118, cl_8_163, cat_n, cat_i, cat_r, cat_l, tl_i, tl_l, tl_n, sh_same, at_150_121, at_150_122, Go_ishr, q_hb, at_150_123, at_150_124, Go_iand, jt_150_125, at_150_128, at_150_129, at_150_131, Go_ishl, q_shl, jt_150_132, at_150_135, at_150_136, Go_ior, q_or, at_150_137, at_150_138, Go_iinc_4, jt_150_141, at_150_144, Go_iinc_3, jt_150_147, at_150_150, Go_return, Nat.reduceAdd, Nat.reduceMul, Nat.reduceLeDiff, Nat.reduceSub, decide_true, decide_false, Bool.toNat_true, Bool.toNat_false, not_true_eq_false, not_false_eq_true, ite_not, true_and, and_true, if_true, if_false, ↓reduceIte, Bool.or_true, Bool.true_or, Bool.or_false, f5, n1, n1']
          exact mid2
        · have c6 : A 3 n = 1 ∧ A 5 n = b := by
            rcases (hx.mp rfl).2 with z | z
            · exact absurd z c5
            · exact z
          rw [eq_false c5] at f5
          rw [eq_true c6] at f6
          simp (disch := first | omega | assumption | exact own_150 | exact rt_150 | exact sr_199 | exact q_lt1 (hb _ _) | exact bt_lt _ | fail) only [own_150, rt_150, ab_kl_n, ab_kl_i, ab_kl_r, ab_kl_l, at_150_0, Go_aload_0, at_150_1, Go_getf, fl_8_7, gg_8_0, sh_ref, sh_rf, sr_199, sf_199_0, sr_200, sn_200, at_150_4, Go_iload_1, at_150_5, Go_sipush, ks_236, at_150_8, Go_iadd, q_add, Nat.zero_add, at_150_9, Go_iaload, sh_ln, q_in, q_cl, at_150_10, Go_istore_2, ab_put_int_2, at_150_11, Go_iconst, kc_0, at_150_12, Go_istore_3, ab_put_int_3, Go_iload_3, at_150_14, Go_iload_2, jt_150_15, q_le, q_lt, q_eq, n_leT, n_leF, n_ltT, n_ltF, n_eqF, n_b0, at_150_18, at_150_19, fl_8_25, gg_8_13, sf_199_13, sr_205, sn_205, at_150_22, at_150_23, at_150_24, Go_iastore, sh_seti, at_150_25, at_150_26, fl_8_28, gg_8_14, sf_199_14, sr_206, sn_206, at_150_29, at_150_30, at_150_31, at_150_32, at_150_33, Go_istore_4, ab_put_int_4, Go_iload_4, at_150_37, jt_150_38, at_150_41, at_150_42, at_150_45, at_150_46, Go_bipush, kb_18, at_150_48, at_150_49, at_150_51, at_150_52, at_150_53, jt_150_54, at_150_57, at_150_58, at_150_61, at_150_62, kb_24, at_150_64, at_150_65, at_150_67, at_150_68, at_150_69, jt_150_70, at_150_73, at_150_74, fl_8_22, gg_8_12, sf_199_12, sr_204, sn_204, at_150_77, kb_6, at_150_79, at_150_80, Go_imul, q_mul, at_150_81, at_150_82, at_150_85, at_150_86, at_150_87, at_150_88, at_150_90, at_150_91, at_150_92, at_150_95, at_150_96, Go_dup2, at_150_97, at_150_98, kc_1, at_150_99, at_150_100, at_150_102, at_150_105, at_150_106, at_150_107, at_150_108, at_150_110, jt_150_111, at_150_114, at_150_115, at_150_116, at_150_118, cl_8_163, cat_n, cat_i, cat_r, cat_l, tl_i, tl_l, tl_n, sh_same, at_150_121, at_150_122, Go_ishr, q_hb, at_150_123, at_150_124, Go_iand, jt_150_125, at_150_128, at_150_129, at_150_131, Go_ishl, q_shl, jt_150_132, at_150_135, at_150_136, Go_ior, q_or, at_150_137, at_150_138, Go_iinc_4, jt_150_141, at_150_144, Go_iinc_3, jt_150_147, at_150_150, Go_return, Nat.reduceAdd, Nat.reduceMul, Nat.reduceLeDiff, Nat.reduceSub, decide_true, decide_false, Bool.toNat_true, Bool.toNat_false, not_true_eq_false, not_false_eq_true, ite_not, true_and, and_true, if_true, if_false, ↓reduceIte, Bool.or_true, Bool.true_or, Bool.or_false, f5, f6, n1, n1']
          exact mid2
    · obtain ⟨k1, k2, M, k3, k4, k5⟩ := hz c hc
      exact ⟨by rw [fr_seti (by omega), fr_setk (by omega)]; exact k1, fun e he hx => by rw [fr_seti (by omega), fr_seti (by omega)]; exact k2 e he hx, M, k3, by rw [fr_setk (by omega)]; exact k4, k5⟩
end MSQ
