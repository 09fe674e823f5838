/-! THE CALLS: read, the reference's loop -/
def cdd (sk : Option (Nat × Nat)) (l : Nat) (f : Int) : Nat := match sk with
  | none => 1
  | some (l', n) => if l' ≠ l then 3 else if 0 ≤ f ∧ f < n then 0 else 2
theorem fcB {sk : Option (Nat × Nat)} {l : Nat} {F : Int} {i : Nat} (hi : i < 4) (h : cdd sk l (F + i) ≠ 0) : fc sk l F = cdd sk l (F + i) := by
  unfold fc
  unfold cdd at h ⊢
  cases sk with
  | none => rfl
  | some z =>
    obtain ⟨l', n⟩ := z
    have h : (if l' ≠ l then 3 else if 0 ≤ F + (i : Int) ∧ F + (i : Int) < n then 0 else 2) ≠ 0 := h
    show (if l' ≠ l then 3 else if 0 ≤ F ∧ F + 3 < n then 0 else 2) = if l' ≠ l then 3 else if 0 ≤ F + (i : Int) ∧ F + (i : Int) < n then 0 else 2
    by_cases c : l' ≠ l
    · rw [if_pos c, if_pos c]
    · rw [if_neg c] at h
      rw [if_neg c, if_neg c]
      by_cases d : 0 ≤ F + (i : Int) ∧ F + (i : Int) < n
      · rw [if_pos d] at h; exact absurd rfl h
      · rw [if_neg d, if_neg (by omega)]
theorem cdd0 {sk : Option (Nat × Nat)} {l : Nat} {F : Int} (h : cdd sk l F = 0) : ∃ n, sk = some (l, n) ∧ 0 ≤ F ∧ F < n := by
  unfold cdd at h
  cases sk with
  | none => exact absurd h (by decide : ¬ (1 : Nat) = 0)
  | some z =>
    obtain ⟨l', n⟩ := z
    have h : (if l' ≠ l then 3 else if 0 ≤ F ∧ F < n then 0 else 2) = 0 := h
    by_cases c : l' ≠ l
    · rw [if_pos c] at h; omega
    · rw [if_neg c] at h
      by_cases d : 0 ≤ F ∧ F < n
      · exact ⟨n, by rw [Classical.not_not.mp c], d.1, d.2⟩
      · rw [if_neg d] at h; omega
theorem cdd_le {sk : Option (Nat × Nat)} {l : Nat} {f : Int} : cdd sk l f ≤ 3 := by
  unfold cdd
  cases sk with
  | none => exact (by decide : (1 : Nat) ≤ 3)
  | some z =>
    obtain ⟨l', n⟩ := z
    show (if l' ≠ l then 3 else if 0 ≤ f ∧ f < n then 0 else 2) ≤ 3
    split
    · omega
    · split <;> omega
theorem fcA {sk : Option (Nat × Nat)} {l : Nat} {F : Int} (h : ∀ j : Nat, j < 4 → cdd sk l (F + (j : Int)) = 0) : fc sk l F = 0 := by
  obtain ⟨n, h1, h2, h3⟩ := cdd0 (h 0 (by omega))
  obtain ⟨n', k1, k2, k3⟩ := cdd0 (h 3 (by omega))
  rw [h1] at k1
  cases k1
  subst h1
  show (if l ≠ l then 3 else if 0 ≤ F ∧ F + 3 < n then 0 else 2) = 0
  rw [if_neg (fun z => z rfl), if_pos (by omega)]
theorem l2i {y : Int64} {a : Nat} (h : y.toInt = a) (ha : a < 1000) : y.toInt32 = nI a := by
  apply Int32.toInt_inj.mp
  rw [Int64.toInt_toInt32, h, nI_toInt (by omega)]
  exact Int.bmod_eq_of_le (by omega) (by omega)
section MRE
variable {I I' : Nat → Nat → Int32} {J J' : Nat → Nat → Int64} {Q : Option Value → ab_H → Prop} {s : VS}
theorem M_readL (ok : OS s) {k l n : Nat} (hk : k < 4) (hl : l < 3) (hn : n ≤ 20) (f : Int32) (I0 : Nat → Nat → Int32) (J0 : Nat → Nat → Int64) : ∀ u r ru I J, r + u = n → SM (w_rt s ru 0) I J → Fr (fun o => o < 199) I0 I J0 J → (∀ I' J', SM (w_rt s (rd s k l f.toInt u r ru).2.1 (rd s k l f.toInt u r ru).2.2) I' J' → Fr (fun o => o < 199) I0 I' J0 J' → Q (some (.int (nI (rd s k l f.toInt u r ru).1))) (SH, I', J')) → ∀ v7 v8 v9 : Option Value, Go (ab_at 213 50) 213 50 [some (.ref 199), some (.int (nI (k))), some (.int (nI (l))), some (.int (f)), some (.int (nI (n))), some (.int (nI (r))), some (.int (nI (r))), v7, v8, v9] []  (SH, I, J) Q := by
  intro u
  induction u with
  | zero =>
    intro r ru I J hr h fr K v7 v8 v9
    have : r = n := by omega
    subst this
    have K0 := K I J h fr
    rw [at_213_50]
    simp (disch := first | omega | assumption | exact own_213 | exact rt_213 | exact sr_199 | exact q_lt1 (hb _ _) | exact bt_lt _ | fail) only [own_213, rt_213, ab_kl_n, ab_kl_i, ab_kl_r, ab_kl_l, at_213_0, Go_iload_1, at_213_1, Go_i2l, at_213_2, Go_lconst, kl_0, at_213_3, ldc2_8_323, at_213_6, cl_8_71, cat_n, cat_i, cat_r, cat_l, tl_i, tl_l, tl_n, sh_same, jt_213_9, q_le, q_lt, q_eq, n_leT, n_leF, n_ltT, n_ltF, n_eqF, n_b0, at_213_12, Go_iload_2, at_213_13, at_213_14, at_213_15, ldc2_8_258, at_213_18, jt_213_21, at_213_24, Go_iload_4, at_213_26, at_213_27, at_213_28, ldc2_8_328, at_213_31, jt_213_34, at_213_37, Go_iconst, kc_m1, at_213_38, Go_reti, at_213_39, Go_aload_0, at_213_40, kc_0, at_213_41, Go_putf, fl_8_330, gp_8_35, sh_ref, sh_rf, sh_seti, sr_199, at_213_44, at_213_45, Go_istore_5, ab_put_int_5, at_213_47, at_213_48, Go_istore_6, ab_put_int_6, Go_iload_6, at_213_52, jt_213_54, at_213_57, at_213_58, Go_getf, gg_8_35, jt_213_61, at_213_64, at_213_65, Go_istore_7, ab_put_int_7, Go_iload_7, at_213_69, kc_4, jt_213_70, at_213_73, at_213_74, jt_213_77, at_213_80, Go_iload_3, at_213_81, at_213_82, at_213_83, at_213_85, Go_imul, q_mul, at_213_86, at_213_87, Go_ladd, at_213_88, at_213_90, at_213_91, at_213_92, Go_lstore_8, ab_put_long_8, at_213_94, at_213_95, at_213_96, at_213_97, at_213_98, Go_lload_8, at_213_100, cl_8_333, at_213_103, at_213_106, at_213_107, fl_8_38, gg_8_17, sf_199_17, sr_209, sn_209, at_213_110, at_213_112, at_213_113, jt_213_116, at_213_119, at_213_120, fl_8_66, gg_8_34, sf_199_34, sr_218, sn_218, at_213_123, Go_bipush, kb_40, at_213_125, at_213_126, at_213_127, at_213_129, Go_l2i, at_213_130, Go_iadd, q_add, Nat.zero_add, at_213_131, Go_iaload, sh_ln, q_in, q_cl, jt_213_132, at_213_135, at_213_136, Go_iastore, at_213_137, Go_iinc_7, kc_1, jt_213_140, at_213_143, at_213_144, jt_213_147, at_213_150, at_213_151, cl_8_252, at_213_154, Go_pop2, at_213_155, Go_iinc_5, at_213_158, Go_iinc_6, jt_213_161, at_213_164, Go_iload_5, at_213_166, Nat.reduceAdd, Nat.reduceMul, Nat.reduceLeDiff, Nat.reduceSub, decide_true, decide_false, Bool.toNat_true, Bool.toNat_false, not_true_eq_false, not_false_eq_true, ite_not, true_and, and_true, if_true, if_false, ↓reduceIte, Bool.or_true, Bool.true_or, Bool.or_false]
    exact K0
  | succ u ih =>
    intro r ru I J hr h fr K v7 v8 v9
    have ok' : OS (w_rt s ru 0) := ⟨ok.1, ok.2.1, ok.2.2.1, ok.2.2.2.1, (by decide : (0 : Nat) < 1000)⟩
    have h7 : I 199 35 = nI 0 := h.2.2.2.2.2.2
    unfold rd at K
    rw [at_213_50]
    simp (disch := first | omega | assumption | exact own_213 | exact rt_213 | exact sr_199 | exact q_lt1 (hb _ _) | exact bt_lt _ | fail) only [own_213, rt_213, ab_kl_n, ab_kl_i, ab_kl_r, ab_kl_l, at_213_0, Go_iload_1, at_213_1, Go_i2l, at_213_2, Go_lconst, kl_0, at_213_3, ldc2_8_323, at_213_6, cl_8_71, cat_n, cat_i, cat_r, cat_l, tl_i, tl_l, tl_n, sh_same, jt_213_9, q_le, q_lt, q_eq, n_leT, n_leF, n_ltT, n_ltF, n_eqF, n_b0, at_213_12, Go_iload_2, at_213_13, at_213_14, at_213_15, ldc2_8_258, at_213_18, jt_213_21, at_213_24, Go_iload_4, at_213_26, at_213_27, at_213_28, ldc2_8_328, at_213_31, jt_213_34, at_213_37, Go_iconst, kc_m1, at_213_38, Go_reti, at_213_39, Go_aload_0, at_213_40, kc_0, at_213_41, Go_putf, fl_8_330, gp_8_35, sh_ref, sh_rf, sh_seti, sr_199, at_213_44, at_213_45, Go_istore_5, ab_put_int_5, at_213_47, at_213_48, Go_istore_6, ab_put_int_6, Go_iload_6, at_213_52, jt_213_54, at_213_57, at_213_58, Go_getf, gg_8_35, jt_213_61, at_213_64, at_213_65, Go_istore_7, ab_put_int_7, Go_iload_7, at_213_69, kc_4, jt_213_70, at_213_73, at_213_74, jt_213_77, at_213_80, Go_iload_3, at_213_81, at_213_82, at_213_83, at_213_85, Go_imul, q_mul, at_213_86, at_213_87, Go_ladd, at_213_88, at_213_90, at_213_91, at_213_92, Go_lstore_8, ab_put_long_8, at_213_94, at_213_95, at_213_96, at_213_97, at_213_98, Go_lload_8, at_213_100, cl_8_333, at_213_103, at_213_106, at_213_107, fl_8_38, gg_8_17, sf_199_17, sr_209, sn_209, at_213_110, at_213_112, at_213_113, jt_213_116, at_213_119, at_213_120, fl_8_66, gg_8_34, sf_199_34, sr_218, sn_218, at_213_123, Go_bipush, kb_40, at_213_125, at_213_126, at_213_127, at_213_129, Go_l2i, at_213_130, Go_iadd, q_add, Nat.zero_add, at_213_131, Go_iaload, sh_ln, q_in, q_cl, jt_213_132, at_213_135, at_213_136, Go_iastore, at_213_137, Go_iinc_7, kc_1, jt_213_140, at_213_143, at_213_144, jt_213_147, at_213_150, at_213_151, cl_8_252, at_213_154, Go_pop2, at_213_155, Go_iinc_5, at_213_158, Go_iinc_6, jt_213_161, at_213_164, Go_iload_5, at_213_166, Nat.reduceAdd, Nat.reduceMul, Nat.reduceLeDiff, Nat.reduceSub, decide_true, decide_false, Bool.toNat_true, Bool.toNat_false, not_true_eq_false, not_false_eq_true, ite_not, true_and, and_true, if_true, if_false, ↓reduceIte, Bool.or_true, Bool.true_or, Bool.or_false, h7]
    have inner : ∀ d i, i + d = 4 → ∀ (I1 : Nat → Nat → Int32) (w8 w9 : Option Value), (∀ o j, o ≠ 209 → ¬ (o = 199 ∧ j = 35) → I1 o j = I o j) → I1 199 35 = nI 0 → (∀ j : Nat, j < i → cdd (v_sh s k) l (f.toInt + 4 * (r : Int) + (j : Int)) = 0 ∧ I1 209 j = v_ce s k ((f.toInt + 4 * (r : Int)).toNat + j)) → Go (ab_at 213 67) 213 67 [some (.ref 199), some (.int (nI (k))), some (.int (nI (l))), some (.int (f)), some (.int (nI (n))), some (.int (nI (r))), some (.int (nI (r))), some (.int (nI (i))), w8, w9] []  (SH, I1, J) Q := by
      intro d
      induction d with
      | zero =>
        intro i hi I1 w8 w9 f1 f2 f3
        have : i = 4 := by omega
        subst this
        have c := fcA (fun j hj => (f3 j hj).1)
        rw [if_pos c] at K
        obtain ⟨h1, h2, h3, h4, h5, h6, -⟩ := h
        rw [at_213_67]
        simp (disch := first | omega | assumption | exact own_213 | exact rt_213 | exact sr_199 | exact q_lt1 (hb _ _) | exact bt_lt _ | fail) only [own_213, rt_213, ab_kl_n, ab_kl_i, ab_kl_r, ab_kl_l, at_213_0, Go_iload_1, at_213_1, Go_i2l, at_213_2, Go_lconst, kl_0, at_213_3, ldc2_8_323, at_213_6, cl_8_71, cat_n, cat_i, cat_r, cat_l, tl_i, tl_l, tl_n, sh_same, jt_213_9, q_le, q_lt, q_eq, n_leT, n_leF, n_ltT, n_ltF, n_eqF, n_b0, at_213_12, Go_iload_2, at_213_13, at_213_14, at_213_15, ldc2_8_258, at_213_18, jt_213_21, at_213_24, Go_iload_4, at_213_26, at_213_27, at_213_28, ldc2_8_328, at_213_31, jt_213_34, at_213_37, Go_iconst, kc_m1, at_213_38, Go_reti, at_213_39, Go_aload_0, at_213_40, kc_0, at_213_41, Go_putf, fl_8_330, gp_8_35, sh_ref, sh_rf, sh_seti, sr_199, at_213_44, at_213_45, Go_istore_5, ab_put_int_5, at_213_47, at_213_48, Go_istore_6, ab_put_int_6, Go_iload_6, at_213_52, jt_213_54, at_213_57, at_213_58, Go_getf, gg_8_35, jt_213_61, at_213_64, at_213_65, Go_istore_7, ab_put_int_7, Go_iload_7, at_213_69, kc_4, jt_213_70, at_213_73, at_213_74, jt_213_77, at_213_80, Go_iload_3, at_213_81, at_213_82, at_213_83, at_213_85, Go_imul, q_mul, at_213_86, at_213_87, Go_ladd, at_213_88, at_213_90, at_213_91, at_213_92, Go_lstore_8, ab_put_long_8, at_213_94, at_213_95, at_213_96, at_213_97, at_213_98, Go_lload_8, at_213_100, cl_8_333, at_213_103, at_213_106, at_213_107, fl_8_38, gg_8_17, sf_199_17, sr_209, sn_209, at_213_110, at_213_112, at_213_113, jt_213_116, at_213_119, at_213_120, fl_8_66, gg_8_34, sf_199_34, sr_218, sn_218, at_213_123, Go_bipush, kb_40, at_213_125, at_213_126, at_213_127, at_213_129, Go_l2i, at_213_130, Go_iadd, q_add, Nat.zero_add, at_213_131, Go_iaload, sh_ln, q_in, q_cl, jt_213_132, at_213_135, at_213_136, Go_iastore, at_213_137, Go_iinc_7, kc_1, jt_213_140, at_213_143, at_213_144, jt_213_147, at_213_150, at_213_151, cl_8_252, at_213_154, Go_pop2, at_213_155, Go_iinc_5, at_213_158, Go_iinc_6, jt_213_161, at_213_164, Go_iload_5, at_213_166, Nat.reduceAdd, Nat.reduceMul, Nat.reduceLeDiff, Nat.reduceSub, decide_true, decide_false, Bool.toNat_true, Bool.toNat_false, not_true_eq_false, not_false_eq_true, ite_not, true_and, and_true, if_true, if_false, ↓reduceIte, Bool.or_true, Bool.true_or, Bool.or_false, f2]
        refine M_now (s := w_rt s ru 0) (ar := fun i => v_ce s k ((f.toInt + 4 * (r : Int)).toNat + i)) ok' ⟨Ma_eq ok.1 (fun o k _ => f1 o k (by omega) (by omega)) h1, Mi_eq ok.2.1 (fun o k _ => f1 o k (by omega) (by omega)) h2, Mt_eq (fun o k _ => f1 o k (by omega) (by omega)) h3, (f1 _ _ (by omega) (by omega)).trans h4, Mr_eq (fun k _ _ => f1 _ k (by omega) (by omega)) (fun _ _ => rfl) h5, Ms_eq (fun o k _ _ => f1 o k (by omega) (by omega)) h6, f2⟩ (fun i hi => (f3 i hi).2) (fun I2 J2 k1 k2 k3 => ?_)
        simp (disch := first | omega | assumption | exact own_213 | exact rt_213 | exact sr_199 | exact q_lt1 (hb _ _) | exact bt_lt _ | fail) only [own_213, rt_213, ab_kl_n, ab_kl_i, ab_kl_r, ab_kl_l, at_213_0, Go_iload_1, at_213_1, Go_i2l, at_213_2, Go_lconst, kl_0, at_213_3, ldc2_8_323, at_213_6, cl_8_71, cat_n, cat_i, cat_r, cat_l, tl_i, tl_l, tl_n, sh_same, jt_213_9, q_le, q_lt, q_eq, n_leT, n_leF, n_ltT, n_ltF, n_eqF, n_b0, at_213_12, Go_iload_2, at_213_13, at_213_14, at_213_15, ldc2_8_258, at_213_18, jt_213_21, at_213_24, Go_iload_4, at_213_26, at_213_27, at_213_28, ldc2_8_328, at_213_31, jt_213_34, at_213_37, Go_iconst, kc_m1, at_213_38, Go_reti, at_213_39, Go_aload_0, at_213_40, kc_0, at_213_41, Go_putf, fl_8_330, gp_8_35, sh_ref, sh_rf, sh_seti, sr_199, at_213_44, at_213_45, Go_istore_5, ab_put_int_5, at_213_47, at_213_48, Go_istore_6, ab_put_int_6, Go_iload_6, at_213_52, jt_213_54, at_213_57, at_213_58, Go_getf, gg_8_35, jt_213_61, at_213_64, at_213_65, Go_istore_7, ab_put_int_7, Go_iload_7, at_213_69, kc_4, jt_213_70, at_213_73, at_213_74, jt_213_77, at_213_80, Go_iload_3, at_213_81, at_213_82, at_213_83, at_213_85, Go_imul, q_mul, at_213_86, at_213_87, Go_ladd, at_213_88, at_213_90, at_213_91, at_213_92, Go_lstore_8, ab_put_long_8, at_213_94, at_213_95, at_213_96, at_213_97, at_213_98, Go_lload_8, at_213_100, cl_8_333, at_213_103, at_213_106, at_213_107, fl_8_38, gg_8_17, sf_199_17, sr_209, sn_209, at_213_110, at_213_112, at_213_113, jt_213_116, at_213_119, at_213_120, fl_8_66, gg_8_34, sf_199_34, sr_218, sn_218, at_213_123, Go_bipush, kb_40, at_213_125, at_213_126, at_213_127, at_213_129, Go_l2i, at_213_130, Go_iadd, q_add, Nat.zero_add, at_213_131, Go_iaload, sh_ln, q_in, q_cl, jt_213_132, at_213_135, at_213_136, Go_iastore, at_213_137, Go_iinc_7, kc_1, jt_213_140, at_213_143, at_213_144, jt_213_147, at_213_150, at_213_151, cl_8_252, at_213_154, Go_pop2, at_213_155, Go_iinc_5, at_213_158, Go_iinc_6, jt_213_161, at_213_164, Go_iload_5, at_213_166, Nat.reduceAdd, Nat.reduceMul, Nat.reduceLeDiff, Nat.reduceSub, decide_true, decide_false, Bool.toNat_true, Bool.toNat_false, not_true_eq_false, not_false_eq_true, ite_not, true_and, and_true, if_true, if_false, ↓reduceIte, Bool.or_true, Bool.true_or, Bool.or_false]
        exact ih (r + 1) _ I2 J2 (by omega) k1 ⟨fun o i ho => by rw [k2 o i (by omega), f1 o i (by omega) (by omega)]; exact fr.1 o i ho, fun o i ho => by rw [k3 o i (by omega) (by omega)]; exact fr.2 o i ho⟩ K _ _ _
      | succ d ihd =>
        intro i hi I1 w8 w9 f1 f2 f3
        have hy := ry (f := f) (r := r) (i := i) (by omega) (by omega)
        have h6 : Ms (v_sh s) (v_ce s) I1 := Ms_eq (fun o k _ _ => f1 o k (by omega) (by omega)) h.2.2.2.2.2.1
        rw [at_213_67]
        generalize hY : f.toInt64 + (nI (4 * r)).toInt64 + (nI i).toInt64 = Y at hy
        have s1 := fun Q => m_foundAt (J := J) (Q := Q) hk hl ok h6 Y
        have s1 : ∀ Q, Ex 212 [.ref 199, .int (nI k), .int (nI l), .long Y] (SH, I1, J) Q = Q (some (.int (nI (cdd (v_sh s k) l Y.toInt)))) (SH, I1, J) := s1
        rw [hy] at s1
        have cl := @cdd_le (v_sh s k) l (f.toInt + 4 * (r : Int) + (i : Int))
        have e1 : ∀ y, ab_up I1 199 35 y 199 35 = y := fun y => fr_sets
        by_cases c : cdd (v_sh s k) l (f.toInt + 4 * (r : Int) + (i : Int)) = 0
        · obtain ⟨m, m1, m2, m3⟩ := cdd0 c
          have hm := ok.2.2.2.1 k l m m1
          have h0 : 0 ≤ f.toInt + 4 * (r : Int) := by
            by_cases i0 : i = 0
            · subst i0; omega
            · obtain ⟨m', q1, q2, q3⟩ := cdd0 (f3 0 (by omega)).1
              omega
          have hl2 : Y.toInt32 = nI ((f.toInt + 4 * (r : Int)).toNat + i) := l2i (by rw [hy]; omega) (by omega)
          have g3 := ((h6 k hk).2 l m m1).2.2 ((f.toInt + 4 * (r : Int)).toNat + i) (by omega)
          have g3' : ∀ y, ab_up I1 199 35 y 218 (40 * k + ((f.toInt + 4 * (r : Int)).toNat + i)) = v_ce s k ((f.toInt + 4 * (r : Int)).toNat + i) := fun y => by rw [fr_seti (by omega)]; exact g3
          rw [c] at s1
          simp (disch := first | omega | assumption | exact own_213 | exact rt_213 | exact sr_199 | exact q_lt1 (hb _ _) | exact bt_lt _ | fail) only [own_213, rt_213, ab_kl_n, ab_kl_i, ab_kl_r, ab_kl_l, at_213_0, Go_iload_1, at_213_1, Go_i2l, at_213_2, Go_lconst, kl_0, at_213_3, ldc2_8_323, at_213_6, cl_8_71, cat_n, cat_i, cat_r, cat_l, tl_i, tl_l, tl_n, sh_same, jt_213_9, q_le, q_lt, q_eq, n_leT, n_leF, n_ltT, n_ltF, n_eqF, n_b0, at_213_12, Go_iload_2, at_213_13, at_213_14, at_213_15, ldc2_8_258, at_213_18, jt_213_21, at_213_24, Go_iload_4, at_213_26, at_213_27, at_213_28, ldc2_8_328, at_213_31, jt_213_34, at_213_37, Go_iconst, kc_m1, at_213_38, Go_reti, at_213_39, Go_aload_0, at_213_40, kc_0, at_213_41, Go_putf, fl_8_330, gp_8_35, sh_ref, sh_rf, sh_seti, sr_199, at_213_44, at_213_45, Go_istore_5, ab_put_int_5, at_213_47, at_213_48, Go_istore_6, ab_put_int_6, Go_iload_6, at_213_52, jt_213_54, at_213_57, at_213_58, Go_getf, gg_8_35, jt_213_61, at_213_64, at_213_65, Go_istore_7, ab_put_int_7, Go_iload_7, at_213_69, kc_4, jt_213_70, at_213_73, at_213_74, jt_213_77, at_213_80, Go_iload_3, at_213_81, at_213_82, at_213_83, at_213_85, Go_imul, q_mul, at_213_86, at_213_87, Go_ladd, at_213_88, at_213_90, at_213_91, at_213_92, Go_lstore_8, ab_put_long_8, at_213_94, at_213_95, at_213_96, at_213_97, at_213_98, Go_lload_8, at_213_100, cl_8_333, at_213_103, at_213_106, at_213_107, fl_8_38, gg_8_17, sf_199_17, sr_209, sn_209, at_213_110, at_213_112, at_213_113, jt_213_116, at_213_119, at_213_120, fl_8_66, gg_8_34, sf_199_34, sr_218, sn_218, at_213_123, Go_bipush, kb_40, at_213_125, at_213_126, at_213_127, at_213_129, Go_l2i, at_213_130, Go_iadd, q_add, Nat.zero_add, at_213_131, Go_iaload, sh_ln, q_in, q_cl, jt_213_132, at_213_135, at_213_136, Go_iastore, at_213_137, Go_iinc_7, kc_1, jt_213_140, at_213_143, at_213_144, jt_213_147, at_213_150, at_213_151, cl_8_252, at_213_154, Go_pop2, at_213_155, Go_iinc_5, at_213_158, Go_iinc_6, jt_213_161, at_213_164, Go_iload_5, at_213_166, Nat.reduceAdd, Nat.reduceMul, Nat.reduceLeDiff, Nat.reduceSub, decide_true, decide_false, Bool.toNat_true, Bool.toNat_false, not_true_eq_false, not_false_eq_true, ite_not, true_and, and_true, if_true, if_false, ↓reduceIte, Bool.or_true, Bool.true_or, Bool.or_false, f2, hY, s1, e1, hl2, g3']
          refine ihd (i + 1) (by omega) _ _ _ (fun o j z1 z2 => ?_) ?_ (fun j hj => ?_)
          · rw [fr_seti z1]
            unfold ab_up
            rw [if_neg z2]
            exact f1 o j z1 z2
          · rw [fr_seti (by omega)]; exact fr_sets
          · by_cases z : j = i
            · subst z; exact ⟨c, fr_sets⟩
            · rw [fr_setk z, fr_seti (by omega)]; exact f3 j (by omega)
        · have cB := fcB (i := i) (by omega) c
          have cB2 : ¬ fc (v_sh s k) l (f.toInt + 4 * (r : Int)) = 0 := by rw [cB]; exact c
          rw [if_neg cB2, cB] at K
          obtain ⟨h1, h2, h3, h4, h5, h6', -⟩ := h
          have e2 : ∀ x y z, ab_up (ab_up I1 199 35 y) 209 z x 199 35 = y := fun x y z => by rw [fr_seti (by omega)]; exact fr_sets
          simp (disch := first | omega | assumption | exact own_213 | exact rt_213 | exact sr_199 | exact q_lt1 (hb _ _) | exact bt_lt _ | fail) only [own_213, rt_213, ab_kl_n, ab_kl_i, ab_kl_r, ab_kl_l, at_213_0, Go_iload_1, at_213_1, Go_i2l, at_213_2, Go_lconst, kl_0, at_213_3, ldc2_8_323, at_213_6, cl_8_71, cat_n, cat_i, cat_r, cat_l, tl_i, tl_l, tl_n, sh_same, jt_213_9, q_le, q_lt, q_eq, n_leT, n_leF, n_ltT, n_ltF, n_eqF, n_b0, at_213_12, Go_iload_2, at_213_13, at_213_14, at_213_15, ldc2_8_258, at_213_18, jt_213_21, at_213_24, Go_iload_4, at_213_26, at_213_27, at_213_28, ldc2_8_328, at_213_31, jt_213_34, at_213_37, Go_iconst, kc_m1, at_213_38, Go_reti, at_213_39, Go_aload_0, at_213_40, kc_0, at_213_41, Go_putf, fl_8_330, gp_8_35, sh_ref, sh_rf, sh_seti, sr_199, at_213_44, at_213_45, Go_istore_5, ab_put_int_5, at_213_47, at_213_48, Go_istore_6, ab_put_int_6, Go_iload_6, at_213_52, jt_213_54, at_213_57, at_213_58, Go_getf, gg_8_35, jt_213_61, at_213_64, at_213_65, Go_istore_7, ab_put_int_7, Go_iload_7, at_213_69, kc_4, jt_213_70, at_213_73, at_213_74, jt_213_77, at_213_80, Go_iload_3, at_213_81, at_213_82, at_213_83, at_213_85, Go_imul, q_mul, at_213_86, at_213_87, Go_ladd, at_213_88, at_213_90, at_213_91, at_213_92, Go_lstore_8, ab_put_long_8, at_213_94, at_213_95, at_213_96, at_213_97, at_213_98, Go_lload_8, at_213_100, cl_8_333, at_213_103, at_213_106, at_213_107, fl_8_38, gg_8_17, sf_199_17, sr_209, sn_209, at_213_110, at_213_112, at_213_113, jt_213_116, at_213_119, at_213_120, fl_8_66, gg_8_34, sf_199_34, sr_218, sn_218, at_213_123, Go_bipush, kb_40, at_213_125, at_213_126, at_213_127, at_213_129, Go_l2i, at_213_130, Go_iadd, q_add, Nat.zero_add, at_213_131, Go_iaload, sh_ln, q_in, q_cl, jt_213_132, at_213_135, at_213_136, Go_iastore, at_213_137, Go_iinc_7, kc_1, jt_213_140, at_213_143, at_213_144, jt_213_147, at_213_150, at_213_151, cl_8_252, at_213_154, Go_pop2, at_213_155, Go_iinc_5, at_213_158, Go_iinc_6, jt_213_161, at_213_164, Go_iload_5, at_213_166, Nat.reduceAdd, Nat.reduceMul, Nat.reduceLeDiff, Nat.reduceSub, decide_true, decide_false, Bool.toNat_true, Bool.toNat_false, not_true_eq_false, not_false_eq_true, ite_not, true_and, and_true, if_true, if_false, ↓reduceIte, Bool.or_true, Bool.true_or, Bool.or_false, f2, hY, s1, e1, c]
          rw [at_213_67]
          simp (disch := first | omega | assumption | exact own_213 | exact rt_213 | exact sr_199 | exact q_lt1 (hb _ _) | exact bt_lt _ | fail) only [own_213, rt_213, ab_kl_n, ab_kl_i, ab_kl_r, ab_kl_l, at_213_0, Go_iload_1, at_213_1, Go_i2l, at_213_2, Go_lconst, kl_0, at_213_3, ldc2_8_323, at_213_6, cl_8_71, cat_n, cat_i, cat_r, cat_l, tl_i, tl_l, tl_n, sh_same, jt_213_9, q_le, q_lt, q_eq, n_leT, n_leF, n_ltT, n_ltF, n_eqF, n_b0, at_213_12, Go_iload_2, at_213_13, at_213_14, at_213_15, ldc2_8_258, at_213_18, jt_213_21, at_213_24, Go_iload_4, at_213_26, at_213_27, at_213_28, ldc2_8_328, at_213_31, jt_213_34, at_213_37, Go_iconst, kc_m1, at_213_38, Go_reti, at_213_39, Go_aload_0, at_213_40, kc_0, at_213_41, Go_putf, fl_8_330, gp_8_35, sh_ref, sh_rf, sh_seti, sr_199, at_213_44, at_213_45, Go_istore_5, ab_put_int_5, at_213_47, at_213_48, Go_istore_6, ab_put_int_6, Go_iload_6, at_213_52, jt_213_54, at_213_57, at_213_58, Go_getf, gg_8_35, jt_213_61, at_213_64, at_213_65, Go_istore_7, ab_put_int_7, Go_iload_7, at_213_69, kc_4, jt_213_70, at_213_73, at_213_74, jt_213_77, at_213_80, Go_iload_3, at_213_81, at_213_82, at_213_83, at_213_85, Go_imul, q_mul, at_213_86, at_213_87, Go_ladd, at_213_88, at_213_90, at_213_91, at_213_92, Go_lstore_8, ab_put_long_8, at_213_94, at_213_95, at_213_96, at_213_97, at_213_98, Go_lload_8, at_213_100, cl_8_333, at_213_103, at_213_106, at_213_107, fl_8_38, gg_8_17, sf_199_17, sr_209, sn_209, at_213_110, at_213_112, at_213_113, jt_213_116, at_213_119, at_213_120, fl_8_66, gg_8_34, sf_199_34, sr_218, sn_218, at_213_123, Go_bipush, kb_40, at_213_125, at_213_126, at_213_127, at_213_129, Go_l2i, at_213_130, Go_iadd, q_add, Nat.zero_add, at_213_131, Go_iaload, sh_ln, q_in, q_cl, jt_213_132, at_213_135, at_213_136, Go_iastore, at_213_137, Go_iinc_7, kc_1, jt_213_140, at_213_143, at_213_144, jt_213_147, at_213_150, at_213_151, cl_8_252, at_213_154, Go_pop2, at_213_155, Go_iinc_5, at_213_158, Go_iinc_6, jt_213_161, at_213_164, Go_iload_5, at_213_166, Nat.reduceAdd, Nat.reduceMul, Nat.reduceLeDiff, Nat.reduceSub, decide_true, decide_false, Bool.toNat_true, Bool.toNat_false, not_true_eq_false, not_false_eq_true, ite_not, true_and, and_true, if_true, if_false, ↓reduceIte, Bool.or_true, Bool.true_or, Bool.or_false, e2, c]
          have g : ∀ o j, o ≠ 209 → ¬ (o = 199 ∧ j = 35) → ab_up (ab_up I1 199 35 (nI (cdd (v_sh s k) l (f.toInt + 4 * (r : Int) + (i : Int))))) 209 i (nI 0) o j = I o j := fun o j z1 z2 => by
            rw [fr_seti z1]
            unfold ab_up
            rw [if_neg z2]
            exact f1 o j z1 z2
          have K0 := K _ J ⟨Ma_eq ok.1 (fun o k _ => g o k (by omega) (by omega)) h1, Mi_eq ok.2.1 (fun o k _ => g o k (by omega) (by omega)) h2, Mt_eq (fun o k _ => g o k (by omega) (by omega)) h3, (g _ _ (by omega) (by omega)).trans h4, Mr_eq (fun k _ _ => g _ k (by omega) (by omega)) (fun _ _ => rfl) h5, Ms_eq (fun o k _ _ => g o k (by omega) (by omega)) h6', e2 _ _ _⟩ ⟨fun o j ho => by rw [g o j (by omega) (by omega)]; exact fr.1 o j ho, fr.2⟩
          rw [at_213_50]
          by_cases c9 : r + 1 < n
          · simp (disch := first | omega | assumption | exact own_213 | exact rt_213 | exact sr_199 | exact q_lt1 (hb _ _) | exact bt_lt _ | fail) only [own_213, rt_213, ab_kl_n, ab_kl_i, ab_kl_r, ab_kl_l, at_213_0, Go_iload_1, at_213_1, Go_i2l, at_213_2, Go_lconst, kl_0, at_213_3, ldc2_8_323, at_213_6, cl_8_71, cat_n, cat_i, cat_r, cat_l, tl_i, tl_l, tl_n, sh_same, jt_213_9, q_le, q_lt, q_eq, n_leT, n_leF, n_ltT, n_ltF, n_eqF, n_b0, at_213_12, Go_iload_2, at_213_13, at_213_14, at_213_15, ldc2_8_258, at_213_18, jt_213_21, at_213_24, Go_iload_4, at_213_26, at_213_27, at_213_28, ldc2_8_328, at_213_31, jt_213_34, at_213_37, Go_iconst, kc_m1, at_213_38, Go_reti, at_213_39, Go_aload_0, at_213_40, kc_0, at_213_41, Go_putf, fl_8_330, gp_8_35, sh_ref, sh_rf, sh_seti, sr_199, at_213_44, at_213_45, Go_istore_5, ab_put_int_5, at_213_47, at_213_48, Go_istore_6, ab_put_int_6, Go_iload_6, at_213_52, jt_213_54, at_213_57, at_213_58, Go_getf, gg_8_35, jt_213_61, at_213_64, at_213_65, Go_istore_7, ab_put_int_7, Go_iload_7, at_213_69, kc_4, jt_213_70, at_213_73, at_213_74, jt_213_77, at_213_80, Go_iload_3, at_213_81, at_213_82, at_213_83, at_213_85, Go_imul, q_mul, at_213_86, at_213_87, Go_ladd, at_213_88, at_213_90, at_213_91, at_213_92, Go_lstore_8, ab_put_long_8, at_213_94, at_213_95, at_213_96, at_213_97, at_213_98, Go_lload_8, at_213_100, cl_8_333, at_213_103, at_213_106, at_213_107, fl_8_38, gg_8_17, sf_199_17, sr_209, sn_209, at_213_110, at_213_112, at_213_113, jt_213_116, at_213_119, at_213_120, fl_8_66, gg_8_34, sf_199_34, sr_218, sn_218, at_213_123, Go_bipush, kb_40, at_213_125, at_213_126, at_213_127, at_213_129, Go_l2i, at_213_130, Go_iadd, q_add, Nat.zero_add, at_213_131, Go_iaload, sh_ln, q_in, q_cl, jt_213_132, at_213_135, at_213_136, Go_iastore, at_213_137, Go_iinc_7, kc_1, jt_213_140, at_213_143, at_213_144, jt_213_147, at_213_150, at_213_151, cl_8_252, at_213_154, Go_pop2, at_213_155, Go_iinc_5, at_213_158, Go_iinc_6, jt_213_161, at_213_164, Go_iload_5, at_213_166, Nat.reduceAdd, Nat.reduceMul, Nat.reduceLeDiff, Nat.reduceSub, decide_true, decide_false, Bool.toNat_true, Bool.toNat_false, not_true_eq_false, not_false_eq_true, ite_not, true_and, and_true, if_true, if_false, ↓reduceIte, Bool.or_true, Bool.true_or, Bool.or_false, e2, c, c9]
            rw [ite_self]
            exact K0
          · simp (disch := first | omega | assumption | exact own_213 | exact rt_213 | exact sr_199 | exact q_lt1 (hb _ _) | exact bt_lt _ | fail) only [own_213, rt_213, ab_kl_n, ab_kl_i, ab_kl_r, ab_kl_l, at_213_0, Go_iload_1, at_213_1, Go_i2l, at_213_2, Go_lconst, kl_0, at_213_3, ldc2_8_323, at_213_6, cl_8_71, cat_n, cat_i, cat_r, cat_l, tl_i, tl_l, tl_n, sh_same, jt_213_9, q_le, q_lt, q_eq, n_leT, n_leF, n_ltT, n_ltF, n_eqF, n_b0, at_213_12, Go_iload_2, at_213_13, at_213_14, at_213_15, ldc2_8_258, at_213_18, jt_213_21, at_213_24, Go_iload_4, at_213_26, at_213_27, at_213_28, ldc2_8_328, at_213_31, jt_213_34, at_213_37, Go_iconst, kc_m1, at_213_38, Go_reti, at_213_39, Go_aload_0, at_213_40, kc_0, at_213_41, Go_putf, fl_8_330, gp_8_35, sh_ref, sh_rf, sh_seti, sr_199, at_213_44, at_213_45, Go_istore_5, ab_put_int_5, at_213_47, at_213_48, Go_istore_6, ab_put_int_6, Go_iload_6, at_213_52, jt_213_54, at_213_57, at_213_58, Go_getf, gg_8_35, jt_213_61, at_213_64, at_213_65, Go_istore_7, ab_put_int_7, Go_iload_7, at_213_69, kc_4, jt_213_70, at_213_73, at_213_74, jt_213_77, at_213_80, Go_iload_3, at_213_81, at_213_82, at_213_83, at_213_85, Go_imul, q_mul, at_213_86, at_213_87, Go_ladd, at_213_88, at_213_90, at_213_91, at_213_92, Go_lstore_8, ab_put_long_8, at_213_94, at_213_95, at_213_96, at_213_97, at_213_98, Go_lload_8, at_213_100, cl_8_333, at_213_103, at_213_106, at_213_107, fl_8_38, gg_8_17, sf_199_17, sr_209, sn_209, at_213_110, at_213_112, at_213_113, jt_213_116, at_213_119, at_213_120, fl_8_66, gg_8_34, sf_199_34, sr_218, sn_218, at_213_123, Go_bipush, kb_40, at_213_125, at_213_126, at_213_127, at_213_129, Go_l2i, at_213_130, Go_iadd, q_add, Nat.zero_add, at_213_131, Go_iaload, sh_ln, q_in, q_cl, jt_213_132, at_213_135, at_213_136, Go_iastore, at_213_137, Go_iinc_7, kc_1, jt_213_140, at_213_143, at_213_144, jt_213_147, at_213_150, at_213_151, cl_8_252, at_213_154, Go_pop2, at_213_155, Go_iinc_5, at_213_158, Go_iinc_6, jt_213_161, at_213_164, Go_iload_5, at_213_166, Nat.reduceAdd, Nat.reduceMul, Nat.reduceLeDiff, Nat.reduceSub, decide_true, decide_false, Bool.toNat_true, Bool.toNat_false, not_true_eq_false, not_false_eq_true, ite_not, true_and, and_true, if_true, if_false, ↓reduceIte, Bool.or_true, Bool.true_or, Bool.or_false, e2, c, c9]
            rw [ite_self]
            exact K0
    exact inner 4 0 (by omega) I _ _ (fun _ _ _ _ => rfl) h7 (fun j hj => absurd hj (Nat.not_lt_zero j))
end MRE
