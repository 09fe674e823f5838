/-! THE CALLS: images -/
theorem PG_FP {p : Nat} {I : Nat → Nat → Int32} {A : Nat → Nat → Nat} (hs : WS A) (h : ∀ b, b < A 0 0 → FP A p I b (A 0 0)) (hd : ∀ b, b < A 0 0 → ∃ M, M < 64 ∧ I (p + 15) b = nI M ∧ domBits A b M) : PG p I A := by
  refine ⟨fun b hb => ?_, fun b i hb hi => ?_, fun b hb => ?_⟩
  · rw [(hs b hb).1]; exact (h b hb).1
  · obtain ⟨w1, w2, w3⟩ := hs b hb
    rw [w1] at hi
    obtain ⟨c, c1, c2, rfl⟩ := cn_surj hi
    rw [w2 c c1 c2]
    exact (h b hb).2 c c1 c2
  · obtain ⟨w1, w2, w3⟩ := hs b hb
    obtain ⟨M, m1, m2, m3⟩ := hd b hb
    have : M = A 9 b := Nat.eq_of_testBit_eq fun d => by
      rw [Bool.eq_iff_iff, m3 d, w3 d]
    rw [← this]
    exact m2
def w_im (s : VS) (im : Nat → Option (Nat → Nat → Nat)) : VS := (v_a s, im, v_tp s, v_tl s, v_ft s, v_ru s, v_sh s, v_ce s, v_tn s)
def n_keep (s : VS) (k : Int32) : VS := if nI 0 ≤ k ∧ k < nI 2 then w_im s (fun j => if j = k.toNatClampNeg then some (v_a s) else v_im s j) else s
def o_keep (s : VS) (k : Int32) : Int32 := il 2 k fun k => nI (v_im s k).isSome.toNat
def n_back (s : VS) (k : Int32) : VS := if nI 0 ≤ k ∧ k < nI 2 then (match v_im s k.toNatClampNeg with | none => s | some A => w_ru (w_a s A) none) else s
def o_back (s : VS) (k : Int32) : Int32 := il 2 k fun k => match v_im s k with | none => -2 | some A => nI (A 0 1)
theorem irow {k : Nat} (h : k < 2) : va_rf (ab_rf sh_z 70 k) = .ref (115 + 42 * k) := by
  have : k = 0 ∨ k = 1 := by omega
  rcases this with rfl | rfl <;> rfl
theorem is_im {k : Nat} (h : k < 2) : isP (115 + 42 * k) := by
  have : k = 0 ∨ k = 1 := by omega
  rcases this with rfl | rfl
  · exact Or.inr (Or.inr (Or.inl rfl))
  · exact Or.inr (Or.inr (Or.inr rfl))
section CKE
variable {I I' : Nat → Nat → Int32} {J J' : Nat → Nat → Int64} {Q : Option Value → ab_H → Prop} {s : VS}
theorem C_keep (ok : OS s) (h : SC s I J) (k : Int32) (K : ∀ I' J', SC (n_keep s k) I' J' → Fr (fun o => 199 ≤ o) I I' J J' → Q (some (.int (o_keep s k))) (SH, I', J')) : Ex 120 [.ref 0, .int k] (SH, I, J) Q := by
  have hs := h
  obtain ⟨h1, h2, h3, h4, h5, h6, h7⟩ := h
  unfold n_keep o_keep at K
  rw [en_120]
  rcases i_le (x := k) (m := 1) (by omega) with ⟨k, hk, rfl⟩ | hx
  · have PK : nI 0 ≤ nI k ∧ nI k < nI 2 := ⟨nI_le (Nat.zero_le _) (by omega), nI_lt (by omega) (by omega)⟩
    rw [if_pos PK, il_in (by omega) (by omega), q_cl (by omega)] at K
    have ik := (h2 k (by omega)).1
    have r := irow (k := k) (by omega)
    have pk := is_im (k := k) (by omega)
    have fin : ∀ v : Nat, v = (v_im s k).isSome.toNat → Go (ab_at 120 26) 120 26 [some (.ref 0), some (.int (nI (k))), some (.int (nI (v)))] []  (SH, I, J) Q := fun v hv => by
      rw [at_120_26]
      simp (disch := first | omega | assumption | exact own_120 | exact rt_120 | exact pr_0 pk | exact pr_0 (by assumption) | exact sr_73 | exact sr_4 | exact q_lt1 (hb _ _) | exact bt_lt _ | fail) only [own_120, rt_120, ab_kl_n, ab_kl_i, ab_kl_r, ab_kl_l, at_120_0, Go_iload_1, jt_120_1, q_le, q_lt, q_eq, n_leT, n_leF, n_ltT, n_ltF, n_eqF, n_b0, at_120_4, at_120_5, Go_iconst, kc_2, jt_120_6, at_120_9, kc_m1, at_120_10, Go_reti, at_120_11, Go_aload_0, at_120_12, Go_getf, fl_7_53, gg_7_7, sh_ref, sh_rf, sr_0, sf_0_7, sr_71, sn_71, at_120_15, at_120_16, Go_baload, sh_ln, q_in, q_cl, jt_120_17, at_120_20, kc_1, jt_120_21, at_120_24, kc_0, at_120_25, Go_istore_2, ab_put_int_2, at_120_26, at_120_27, fl_7_49, gg_7_6, sf_0_6, sr_70, sn_70, at_120_30, at_120_31, Go_aaload, at_120_32, at_120_33, fl_7_62, gg_7_9, sf_0_9, sr_73, at_120_36, cl_7_90, cat_n, cat_i, cat_r, cat_l, tl_i, tl_l, tl_n, sh_same, at_120_39, at_120_40, at_120_43, at_120_44, at_120_45, Go_bastore, sh_seti, sh_kd, at_120_46, Go_iload_2, at_120_47, Nat.reduceAdd, Nat.reduceMul, Nat.reduceLeDiff, Nat.reduceSub, decide_true, decide_false, Bool.toNat_true, Bool.toNat_false, not_true_eq_false, not_false_eq_true, ite_not, true_and, and_true, if_true, if_false, ↓reduceIte, Bool.or_true, Bool.true_or, Bool.or_false, r]
      refine x_copyFrom pk is73 (by omega) (fun I1 f1 f2 => ?_)
      have n1 : vp_nar .boolean (nI 1) = nI 1 := vn1
      have k71 : ab_kd sh_z 71 = 12 := by decide +kernel
      simp (disch := first | omega | assumption | exact own_120 | exact rt_120 | exact pr_0 (by assumption) | exact sr_73 | exact sr_4 | exact q_lt1 (hb _ _) | exact bt_lt _ | fail) only [own_120, rt_120, ab_kl_n, ab_kl_i, ab_kl_r, ab_kl_l, at_120_0, Go_iload_1, jt_120_1, q_le, q_lt, q_eq, n_leT, n_leF, n_ltT, n_ltF, n_eqF, n_b0, at_120_4, at_120_5, Go_iconst, kc_2, jt_120_6, at_120_9, kc_m1, at_120_10, Go_reti, at_120_11, Go_aload_0, at_120_12, Go_getf, fl_7_53, gg_7_7, sh_ref, sh_rf, sr_0, sf_0_7, sr_71, sn_71, at_120_15, at_120_16, Go_baload, sh_ln, q_in, q_cl, jt_120_17, at_120_20, kc_1, jt_120_21, at_120_24, kc_0, at_120_25, Go_istore_2, ab_put_int_2, at_120_26, at_120_27, fl_7_49, gg_7_6, sf_0_6, sr_70, sn_70, at_120_30, at_120_31, Go_aaload, at_120_32, at_120_33, fl_7_62, gg_7_9, sf_0_9, sr_73, at_120_36, cl_7_90, cat_n, cat_i, cat_r, cat_l, tl_i, tl_l, tl_n, sh_same, at_120_39, at_120_40, at_120_43, at_120_44, at_120_45, Go_bastore, sh_seti, sh_kd, at_120_46, Go_iload_2, at_120_47, Nat.reduceAdd, Nat.reduceMul, Nat.reduceLeDiff, Nat.reduceSub, decide_true, decide_false, Bool.toNat_true, Bool.toNat_false, not_true_eq_false, not_false_eq_true, ite_not, true_and, and_true, if_true, if_false, ↓reduceIte, Bool.or_true, Bool.true_or, Bool.or_false, n1, k71]
      rw [hv]
      refine K _ _ ⟨Ca_eq ok.1 (fun o k' _ _ => by rw [fr_seti (by omega), f1 o k' (by omega)]) h1, fun j hj => ?_, Ct_eq (fun o k' _ => by rw [fr_seti (by omega), f1 o k' (by omega)]) h3, by rw [fr_seti (by omega), f1 _ _ (by omega)]; exact h4, Cr_eq (fun k' _ => by rw [fr_seti (by omega), f1 _ _ (by omega)]) (fun _ => rfl) h5, Cs_eq (fun o k' _ => by rw [fr_seti (by omega), f1 _ _ (by omega)]) h6, by rw [fr_seti (by omega), f1 _ _ (by omega)]; exact h7⟩ ⟨fun o k' hk => by rw [fr_seti (by omega), f1 _ _ (by omega)], fun _ _ _ => rfl⟩
      show ab_up I1 71 k (nI 1) 71 j = nI (if j = k then some (v_a s) else v_im s j).isSome.toNat ∧ ∀ A, (if j = k then some (v_a s) else v_im s j) = some A → PC (115 + 42 * j) (ab_up I1 71 k (nI 1)) A ∧ PG (115 + 42 * j) (ab_up I1 71 k (nI 1)) A
      by_cases z : j = k
      · subst z
        rw [if_pos rfl]
        refine ⟨fr_sets, fun A hA => ?_⟩
        cases hA
        exact ⟨PC_of (fun o k' z1 z2 => by rw [fr_seti (by omega)]) ok.1.2.1.2.1 (PC_cp ok.1.2.1 f2 h1.1), PG_of (fun o k' z1 z2 => by rw [fr_seti (by omega)]) ok.1.2.1.1 (PG_cp ok.1.2.1 f2 h1.2)⟩
      · rw [if_neg z, fr_setk z, f1 _ _ (by omega)]
        refine ⟨(h2 j hj).1, fun A hA => ?_⟩
        obtain ⟨p1, p2⟩ := (h2 j hj).2 A hA
        exact ⟨PC_of (fun o k' z1 z2 => by rw [fr_seti (by omega), f1 _ _ (by omega)]) (ok.2.1 j A hA).2.1.2.1 p1, PG_of (fun o k' z1 z2 => by rw [fr_seti (by omega), f1 _ _ (by omega)]) (ok.2.1 j A hA).2.1.1 p2⟩
    cases c : (v_im s k).isSome with
    | true =>
      rw [c] at ik
      have fin2 := fin 1 (by rw [c]; rfl)
      simp (disch := first | omega | assumption | exact own_120 | exact rt_120 | exact pr_0 (by assumption) | exact sr_73 | exact sr_4 | exact q_lt1 (hb _ _) | exact bt_lt _ | fail) only [own_120, rt_120, ab_kl_n, ab_kl_i, ab_kl_r, ab_kl_l, at_120_0, Go_iload_1, jt_120_1, q_le, q_lt, q_eq, n_leT, n_leF, n_ltT, n_ltF, n_eqF, n_b0, at_120_4, at_120_5, Go_iconst, kc_2, jt_120_6, at_120_9, kc_m1, at_120_10, Go_reti, at_120_11, Go_aload_0, at_120_12, Go_getf, fl_7_53, gg_7_7, sh_ref, sh_rf, sr_0, sf_0_7, sr_71, sn_71, at_120_15, at_120_16, Go_baload, sh_ln, q_in, q_cl, jt_120_17, at_120_20, kc_1, jt_120_21, at_120_24, kc_0, at_120_25, Go_istore_2, ab_put_int_2, at_120_27, fl_7_49, gg_7_6, sf_0_6, sr_70, sn_70, at_120_30, at_120_31, Go_aaload, at_120_32, at_120_33, fl_7_62, gg_7_9, sf_0_9, sr_73, at_120_36, cl_7_90, cat_n, cat_i, cat_r, cat_l, tl_i, tl_l, tl_n, sh_same, at_120_39, at_120_40, at_120_43, at_120_44, at_120_45, Go_bastore, sh_seti, sh_kd, at_120_46, Go_iload_2, at_120_47, Nat.reduceAdd, Nat.reduceMul, Nat.reduceLeDiff, Nat.reduceSub, decide_true, decide_false, Bool.toNat_true, Bool.toNat_false, not_true_eq_false, not_false_eq_true, ite_not, true_and, and_true, if_true, if_false, ↓reduceIte, Bool.or_true, Bool.true_or, Bool.or_false, ik, Bool.true_eq_false]
      exact fin2
    | false =>
      rw [c] at ik
      have fin2 := fin 0 (by rw [c]; rfl)
      simp (disch := first | omega | assumption | exact own_120 | exact rt_120 | exact pr_0 (by assumption) | exact sr_73 | exact sr_4 | exact q_lt1 (hb _ _) | exact bt_lt _ | fail) only [own_120, rt_120, ab_kl_n, ab_kl_i, ab_kl_r, ab_kl_l, at_120_0, Go_iload_1, jt_120_1, q_le, q_lt, q_eq, n_leT, n_leF, n_ltT, n_ltF, n_eqF, n_b0, at_120_4, at_120_5, Go_iconst, kc_2, jt_120_6, at_120_9, kc_m1, at_120_10, Go_reti, at_120_11, Go_aload_0, at_120_12, Go_getf, fl_7_53, gg_7_7, sh_ref, sh_rf, sr_0, sf_0_7, sr_71, sn_71, at_120_15, at_120_16, Go_baload, sh_ln, q_in, q_cl, jt_120_17, at_120_20, kc_1, jt_120_21, at_120_24, kc_0, at_120_25, Go_istore_2, ab_put_int_2, at_120_27, fl_7_49, gg_7_6, sf_0_6, sr_70, sn_70, at_120_30, at_120_31, Go_aaload, at_120_32, at_120_33, fl_7_62, gg_7_9, sf_0_9, sr_73, at_120_36, cl_7_90, cat_n, cat_i, cat_r, cat_l, tl_i, tl_l, tl_n, sh_same, at_120_39, at_120_40, at_120_43, at_120_44, at_120_45, Go_bastore, sh_seti, sh_kd, at_120_46, Go_iload_2, at_120_47, Nat.reduceAdd, Nat.reduceMul, Nat.reduceLeDiff, Nat.reduceSub, decide_true, decide_false, Bool.toNat_true, Bool.toNat_false, not_true_eq_false, not_false_eq_true, ite_not, true_and, and_true, if_true, if_false, ↓reduceIte, Bool.or_true, Bool.true_or, Bool.or_false, ik]
      exact fin2
  · rw [if_neg (i_out (by omega) hx), il_out (i_out (by omega) hx)] at K
    have K0 := K _ _ hs Fr_r
    by_cases c : k < nI 0
    · simp (disch := first | omega | assumption | exact own_120 | exact rt_120 | exact pr_0 (by assumption) | exact sr_73 | exact sr_4 | exact q_lt1 (hb _ _) | exact bt_lt _ | fail) only [own_120, rt_120, ab_kl_n, ab_kl_i, ab_kl_r, ab_kl_l, at_120_0, Go_iload_1, jt_120_1, q_le, q_lt, q_eq, n_leT, n_leF, n_ltT, n_ltF, n_eqF, n_b0, at_120_4, at_120_5, Go_iconst, kc_2, jt_120_6, at_120_9, kc_m1, at_120_10, Go_reti, at_120_11, Go_aload_0, at_120_12, Go_getf, fl_7_53, gg_7_7, sh_ref, sh_rf, sr_0, sf_0_7, sr_71, sn_71, at_120_15, at_120_16, Go_baload, sh_ln, q_in, q_cl, jt_120_17, at_120_20, kc_1, jt_120_21, at_120_24, kc_0, at_120_25, Go_istore_2, ab_put_int_2, at_120_26, at_120_27, fl_7_49, gg_7_6, sf_0_6, sr_70, sn_70, at_120_30, at_120_31, Go_aaload, at_120_32, at_120_33, fl_7_62, gg_7_9, sf_0_9, sr_73, at_120_36, cl_7_90, cat_n, cat_i, cat_r, cat_l, tl_i, tl_l, tl_n, sh_same, at_120_39, at_120_40, at_120_43, at_120_44, at_120_45, Go_bastore, sh_seti, sh_kd, at_120_46, Go_iload_2, at_120_47, Nat.reduceAdd, Nat.reduceMul, Nat.reduceLeDiff, Nat.reduceSub, decide_true, decide_false, Bool.toNat_true, Bool.toNat_false, not_true_eq_false, not_false_eq_true, ite_not, true_and, and_true, if_true, if_false, ↓reduceIte, Bool.or_true, Bool.true_or, Bool.or_false, c]
      exact K0
    · have c2 : ¬ k < nI 2 := by
        rcases hx with z | z
        · exact absurd z c
        · exact fun y => i_out (m := 1) (by omega) (Or.inr z) ⟨Int32.not_lt.mp c, y⟩
      simp (disch := first | omega | assumption | exact own_120 | exact rt_120 | exact pr_0 (by assumption) | exact sr_73 | exact sr_4 | exact q_lt1 (hb _ _) | exact bt_lt _ | fail) only [own_120, rt_120, ab_kl_n, ab_kl_i, ab_kl_r, ab_kl_l, at_120_0, Go_iload_1, jt_120_1, q_le, q_lt, q_eq, n_leT, n_leF, n_ltT, n_ltF, n_eqF, n_b0, at_120_4, at_120_5, Go_iconst, kc_2, jt_120_6, at_120_9, kc_m1, at_120_10, Go_reti, at_120_11, Go_aload_0, at_120_12, Go_getf, fl_7_53, gg_7_7, sh_ref, sh_rf, sr_0, sf_0_7, sr_71, sn_71, at_120_15, at_120_16, Go_baload, sh_ln, q_in, q_cl, jt_120_17, at_120_20, kc_1, jt_120_21, at_120_24, kc_0, at_120_25, Go_istore_2, ab_put_int_2, at_120_26, at_120_27, fl_7_49, gg_7_6, sf_0_6, sr_70, sn_70, at_120_30, at_120_31, Go_aaload, at_120_32, at_120_33, fl_7_62, gg_7_9, sf_0_9, sr_73, at_120_36, cl_7_90, cat_n, cat_i, cat_r, cat_l, tl_i, tl_l, tl_n, sh_same, at_120_39, at_120_40, at_120_43, at_120_44, at_120_45, Go_bastore, sh_seti, sh_kd, at_120_46, Go_iload_2, at_120_47, Nat.reduceAdd, Nat.reduceMul, Nat.reduceLeDiff, Nat.reduceSub, decide_true, decide_false, Bool.toNat_true, Bool.toNat_false, not_true_eq_false, not_false_eq_true, ite_not, true_and, and_true, if_true, if_false, ↓reduceIte, Bool.or_true, Bool.true_or, Bool.or_false, c, c2]
      exact K0
theorem x_forget {o : Nat} (hm : isM o) : Ex 24 [.ref o] (SH, I, J) Q = Q none (SH, ab_up I o 2 (nI 0), J) := by
  have hm2 := isM_lt hm
  rw [en_24]
  simp (disch := first | omega | assumption | exact own_24 | exact rt_24 | exact mr_0 hm | exact q_lt1 (hb _ _) | exact bt_lt _ | fail) only [own_24, rt_24, ab_kl_n, ab_kl_i, ab_kl_r, ab_kl_l, at_24_0, Go_aload_0, at_24_1, Go_iconst, kc_0, at_24_2, Go_putf, fl_2_29, gp_2_2, sh_ref, sh_rf, sh_seti, sr_49, sr_53, at_24_5, Go_return, Nat.reduceAdd, Nat.reduceMul, Nat.reduceLeDiff, Nat.reduceSub, decide_true, decide_false, Bool.toNat_true, Bool.toNat_false, not_true_eq_false, not_false_eq_true, ite_not, true_and, and_true, if_true, if_false, ↓reduceIte, Bool.or_true, Bool.true_or, Bool.or_false, mf_0 hm, mf_1 hm, mf_7 hm, mr_0 hm, mr_1 hm, mr_2 hm, mr_3 hm, mn_1 hm, mn_2 hm, mn_3 hm, bz0]
theorem C_back (ok : OS s) (h : SC s I J) (k : Int32) (K : ∀ I' J', SC (n_back s k) I' J' → Fr (fun o => 199 ≤ o) I I' J J' → Q (some (.int (o_back s k))) (SH, I', J')) : Ex 121 [.ref 0, .int k] (SH, I, J) Q := by
  have hs := h
  obtain ⟨h1, h2, h3, h4, h5, h6, h7⟩ := h
  unfold n_back o_back at K
  rw [en_121]
  rcases i_le (x := k) (m := 1) (by omega) with ⟨k, hk, rfl⟩ | hx
  · have PK : nI 0 ≤ nI k ∧ nI k < nI 2 := ⟨nI_le (Nat.zero_le _) (by omega), nI_lt (by omega) (by omega)⟩
    rw [if_pos PK, il_in (by omega) (by omega), q_cl (by omega)] at K
    have ik := (h2 k (by omega)).1
    have r := irow (k := k) (by omega)
    have pk := is_im (k := k) (by omega)
    cases c : v_im s k with
    | none =>
      rw [c] at ik K
      have ik : I 71 k = nI 0 := ik
      have K0 := K _ _ hs Fr_r
      simp (disch := first | omega | assumption | exact own_121 | exact rt_121 | exact sr_49 | exact sr_53 | exact pr_0 (by assumption) | exact sr_73 | exact sr_4 | exact q_lt1 (hb _ _) | exact bt_lt _ | fail) only [own_121, rt_121, ab_kl_n, ab_kl_i, ab_kl_r, ab_kl_l, at_121_0, Go_iload_1, jt_121_1, q_le, q_lt, q_eq, n_leT, n_leF, n_ltT, n_ltF, n_eqF, n_b0, at_121_4, at_121_5, Go_iconst, kc_2, jt_121_6, at_121_9, kc_m1, at_121_10, Go_reti, at_121_11, Go_aload_0, at_121_12, Go_getf, fl_7_53, gg_7_7, sh_ref, sh_rf, sr_0, sf_0_7, sr_71, sn_71, at_121_15, at_121_16, Go_baload, sh_ln, q_in, q_cl, jt_121_17, at_121_20, Go_bipush, kb_m2, at_121_22, at_121_23, at_121_24, fl_7_62, gg_7_9, sf_0_9, sr_73, at_121_27, at_121_28, fl_7_49, gg_7_6, sf_0_6, sr_70, sn_70, at_121_31, at_121_32, Go_aaload, at_121_33, cl_7_90, cat_n, cat_i, cat_r, cat_l, tl_i, tl_l, tl_n, sh_same, at_121_36, at_121_37, fl_7_19, gg_7_1, sf_0_1, sr_49, at_121_40, cl_7_94, at_121_43, at_121_44, at_121_47, fl_7_97, gg_3_1, at_121_50, Nat.reduceAdd, Nat.reduceMul, Nat.reduceLeDiff, Nat.reduceSub, decide_true, decide_false, Bool.toNat_true, Bool.toNat_false, not_true_eq_false, not_false_eq_true, ite_not, true_and, and_true, if_true, if_false, ↓reduceIte, Bool.or_true, Bool.true_or, Bool.or_false, ik]
      exact K0
    | some A =>
      rw [c] at ik K
      have ik : I 71 k = nI 1 := ik
      obtain ⟨p1, p2⟩ := (h2 k (by omega)).2 A c
      have oA := ok.2.1 k A c
      simp (disch := first | omega | assumption | exact own_121 | exact rt_121 | exact pr_0 pk | exact sr_49 | exact sr_53 | exact pr_0 (by assumption) | exact sr_73 | exact sr_4 | exact q_lt1 (hb _ _) | exact bt_lt _ | fail) only [own_121, rt_121, ab_kl_n, ab_kl_i, ab_kl_r, ab_kl_l, at_121_0, Go_iload_1, jt_121_1, q_le, q_lt, q_eq, n_leT, n_leF, n_ltT, n_ltF, n_eqF, n_b0, at_121_4, at_121_5, Go_iconst, kc_2, jt_121_6, at_121_9, kc_m1, at_121_10, Go_reti, at_121_11, Go_aload_0, at_121_12, Go_getf, fl_7_53, gg_7_7, sh_ref, sh_rf, sr_0, sf_0_7, sr_71, sn_71, at_121_15, at_121_16, Go_baload, sh_ln, q_in, q_cl, jt_121_17, at_121_20, Go_bipush, kb_m2, at_121_22, at_121_23, at_121_24, fl_7_62, gg_7_9, sf_0_9, sr_73, at_121_27, at_121_28, fl_7_49, gg_7_6, sf_0_6, sr_70, sn_70, at_121_31, at_121_32, Go_aaload, at_121_33, cl_7_90, cat_n, cat_i, cat_r, cat_l, tl_i, tl_l, tl_n, sh_same, at_121_36, at_121_37, fl_7_19, gg_7_1, sf_0_1, sr_49, at_121_40, cl_7_94, at_121_43, at_121_44, at_121_47, fl_7_97, gg_3_1, at_121_50, Nat.reduceAdd, Nat.reduceMul, Nat.reduceLeDiff, Nat.reduceSub, decide_true, decide_false, Bool.toNat_true, Bool.toNat_false, not_true_eq_false, not_false_eq_true, ite_not, true_and, and_true, if_true, if_false, ↓reduceIte, Bool.or_true, Bool.true_or, Bool.or_false, ik, r, Bool.true_eq_false]
      refine x_copyFrom is73 pk (by omega) (fun I1 f1 f2 => ?_)
      have q1 := PC_cp oA.2.1 f2 p1
      have e1 : ab_up I1 49 2 (nI 0) 73 1 = nI (A 0 1) := by rw [fr_seti (by omega)]; exact q1.2.1
      have s1 := fun Q => @x_forget I1 J Q 49 (Or.inl rfl)
      simp (disch := first | omega | assumption | exact own_121 | exact rt_121 | exact sr_49 | exact sr_53 | exact pr_0 (by assumption) | exact sr_73 | exact sr_4 | exact q_lt1 (hb _ _) | exact bt_lt _ | fail) only [own_121, rt_121, ab_kl_n, ab_kl_i, ab_kl_r, ab_kl_l, at_121_0, Go_iload_1, jt_121_1, q_le, q_lt, q_eq, n_leT, n_leF, n_ltT, n_ltF, n_eqF, n_b0, at_121_4, at_121_5, Go_iconst, kc_2, jt_121_6, at_121_9, kc_m1, at_121_10, Go_reti, at_121_11, Go_aload_0, at_121_12, Go_getf, fl_7_53, gg_7_7, sh_ref, sh_rf, sr_0, sf_0_7, sr_71, sn_71, at_121_15, at_121_16, Go_baload, sh_ln, q_in, q_cl, jt_121_17, at_121_20, Go_bipush, kb_m2, at_121_22, at_121_23, at_121_24, fl_7_62, gg_7_9, sf_0_9, sr_73, at_121_27, at_121_28, fl_7_49, gg_7_6, sf_0_6, sr_70, sn_70, at_121_31, at_121_32, Go_aaload, at_121_33, cl_7_90, cat_n, cat_i, cat_r, cat_l, tl_i, tl_l, tl_n, sh_same, at_121_36, at_121_37, fl_7_19, gg_7_1, sf_0_1, sr_49, at_121_40, cl_7_94, at_121_43, at_121_44, at_121_47, fl_7_97, gg_3_1, at_121_50, Nat.reduceAdd, Nat.reduceMul, Nat.reduceLeDiff, Nat.reduceSub, decide_true, decide_false, Bool.toNat_true, Bool.toNat_false, not_true_eq_false, not_false_eq_true, ite_not, true_and, and_true, if_true, if_false, ↓reduceIte, Bool.or_true, Bool.true_or, Bool.or_false, s1, e1]
      refine K _ _ ⟨⟨PC_of (fun o k' z1 z2 => by rw [fr_seti (by omega)]) oA.2.1.2.1 q1, PG_of (fun o k' z1 z2 => by rw [fr_seti (by omega)]) oA.2.1.1 (PG_cp oA.2.1 f2 p2)⟩, Ci_eq ok.2.1 (fun o k' _ => by rw [fr_seti (by omega), f1 _ _ (by omega)]) h2, Ct_eq (fun o k' _ => by rw [fr_seti (by omega), f1 o k' (by omega)]) h3, by rw [fr_seti (by omega), f1 _ _ (by omega)]; exact h4, ⟨fr_sets, by rw [fr_setk (by omega), f1 _ _ (by omega)]; exact h5.2.1, fun v t g r hv => by cases hv⟩, Cs_eq (fun o k' _ => by rw [fr_seti (by omega), f1 _ _ (by omega)]) h6, by rw [fr_seti (by omega), f1 _ _ (by omega)]; exact h7⟩ ⟨fun o k' hk => by rw [fr_seti (by omega), f1 _ _ (by omega)], fun _ _ _ => rfl⟩
  · rw [if_neg (i_out (by omega) hx), il_out (i_out (by omega) hx)] at K
    have K0 := K _ _ hs Fr_r
    by_cases c : k < nI 0
    · simp (disch := first | omega | assumption | exact own_121 | exact rt_121 | exact sr_49 | exact sr_53 | exact pr_0 (by assumption) | exact sr_73 | exact sr_4 | exact q_lt1 (hb _ _) | exact bt_lt _ | fail) only [own_121, rt_121, ab_kl_n, ab_kl_i, ab_kl_r, ab_kl_l, at_121_0, Go_iload_1, jt_121_1, q_le, q_lt, q_eq, n_leT, n_leF, n_ltT, n_ltF, n_eqF, n_b0, at_121_4, at_121_5, Go_iconst, kc_2, jt_121_6, at_121_9, kc_m1, at_121_10, Go_reti, at_121_11, Go_aload_0, at_121_12, Go_getf, fl_7_53, gg_7_7, sh_ref, sh_rf, sr_0, sf_0_7, sr_71, sn_71, at_121_15, at_121_16, Go_baload, sh_ln, q_in, q_cl, jt_121_17, at_121_20, Go_bipush, kb_m2, at_121_22, at_121_23, at_121_24, fl_7_62, gg_7_9, sf_0_9, sr_73, at_121_27, at_121_28, fl_7_49, gg_7_6, sf_0_6, sr_70, sn_70, at_121_31, at_121_32, Go_aaload, at_121_33, cl_7_90, cat_n, cat_i, cat_r, cat_l, tl_i, tl_l, tl_n, sh_same, at_121_36, at_121_37, fl_7_19, gg_7_1, sf_0_1, sr_49, at_121_40, cl_7_94, at_121_43, at_121_44, at_121_47, fl_7_97, gg_3_1, at_121_50, Nat.reduceAdd, Nat.reduceMul, Nat.reduceLeDiff, Nat.reduceSub, decide_true, decide_false, Bool.toNat_true, Bool.toNat_false, not_true_eq_false, not_false_eq_true, ite_not, true_and, and_true, if_true, if_false, ↓reduceIte, Bool.or_true, Bool.true_or, Bool.or_false, c]
      exact K0
    · have c2 : ¬ k < nI 2 := by
        rcases hx with z | z
        · exact absurd z c
        · exact fun y => i_out (m := 1) (by omega) (Or.inr z) ⟨Int32.not_lt.mp c, y⟩
      simp (disch := first | omega | assumption | exact own_121 | exact rt_121 | exact sr_49 | exact sr_53 | exact pr_0 (by assumption) | exact sr_73 | exact sr_4 | exact q_lt1 (hb _ _) | exact bt_lt _ | fail) only [own_121, rt_121, ab_kl_n, ab_kl_i, ab_kl_r, ab_kl_l, at_121_0, Go_iload_1, jt_121_1, q_le, q_lt, q_eq, n_leT, n_leF, n_ltT, n_ltF, n_eqF, n_b0, at_121_4, at_121_5, Go_iconst, kc_2, jt_121_6, at_121_9, kc_m1, at_121_10, Go_reti, at_121_11, Go_aload_0, at_121_12, Go_getf, fl_7_53, gg_7_7, sh_ref, sh_rf, sr_0, sf_0_7, sr_71, sn_71, at_121_15, at_121_16, Go_baload, sh_ln, q_in, q_cl, jt_121_17, at_121_20, Go_bipush, kb_m2, at_121_22, at_121_23, at_121_24, fl_7_62, gg_7_9, sf_0_9, sr_73, at_121_27, at_121_28, fl_7_49, gg_7_6, sf_0_6, sr_70, sn_70, at_121_31, at_121_32, Go_aaload, at_121_33, cl_7_90, cat_n, cat_i, cat_r, cat_l, tl_i, tl_l, tl_n, sh_same, at_121_36, at_121_37, fl_7_19, gg_7_1, sf_0_1, sr_49, at_121_40, cl_7_94, at_121_43, at_121_44, at_121_47, fl_7_97, gg_3_1, at_121_50, Nat.reduceAdd, Nat.reduceMul, Nat.reduceLeDiff, Nat.reduceSub, decide_true, decide_false, Bool.toNat_true, Bool.toNat_false, not_true_eq_false, not_false_eq_true, ite_not, true_and, and_true, if_true, if_false, ↓reduceIte, Bool.or_true, Bool.true_or, Bool.or_false, c, c2]
      exact K0
end CKE
