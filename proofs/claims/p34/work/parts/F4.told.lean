/-! THE LAW'S CODE: what runs tell -/
def arL (xs : List Int32) (tn r : Nat) : Nat → Int32 := ar4 (nI (pt (cellv xs (35 + 3 * tn + r)) 9) - nI 4) (nI (pt (cellv xs (35 + 3 * tn + r) >>> (nI 2 &&& 31)) 9) - nI 4) (nI (pt (cellv xs (35 + 3 * tn + r) >>> (nI 4 &&& 31)) 9) - nI 4) (nI (pt (cellv xs (35 + 3 * tn + r) >>> (nI 6 &&& 31)) 9) - nI 4)
def tld (xs : List Int32) (A : Nat → Nat → Nat) (tn r : Nat) : Int64 := toldV (run0 A (arL xs tn r) none 0).2.2
def wnt (xs : List Int32) (A : Nat → Nat → Nat) (tn r : Nat) : Int64 := (nI ((run0 A (arL xs tn r) none 0).2.1 * 10 + (run0 A (arL xs tn r) none 0).2.2.isSome.toNat)).toInt64
def VV (xs : List Int32) (A : Nat → Nat → Nat) (tn r m : Nat) : Int64 := (run0 A (arL xs tn r) none 0).1.1 m
def TG (xs : List Int32) (A : Nat → Nat → Nat) (tn e r : Nat) (J : Nat → Nat → Int64) : Prop := ∀ q, q < r → J (199 + e) q = tld xs A tn q ∧ J (199 + e) (3 + q) = wnt xs A tn q ∧ ∀ m, m < A 0 1 → J (199 + (e + 1)) (20 * q + m) = VV xs A tn q m
def TI (xs : List Int32) (A : Nat → Nat → Nat) (tn e r n : Nat) (J : Nat → Nat → Int64) : Prop := TG xs A tn e r J ∧ J (199 + e) r = tld xs A tn r ∧ J (199 + e) (3 + r) = wnt xs A tn r ∧ ∀ m, m < n → J (199 + (e + 1)) (20 * r + m) = VV xs A tn r m
def GZ (I : Nat → Nat → Int32) (J : Nat → Nat → Int64) : Prop := I 205 0 = nI 0 ∧ I 206 0 = nI 0 ∧ J 207 0 = lN 0
section LWR
variable {xs : List Int32} {Q : Option Value → ab_H → Prop} {E : ab_Sh} {I I0 I' : Nat → Nat → Int32} {J J0 J' : Nat → Nat → Int64} {s : VS} {A : Nat → Nat → Nat} {n tn e r : Nat} {L : ab_L} {S : List Value} {pc len : Nat}
theorem TG_fr (h : ∀ o k, 199 ≤ o → J' o k = J o k) (t : TG xs A tn e r J) : TG xs A tn e r J' := fun q hq => by
  rw [h _ _ (by omega), h _ _ (by omega)]
  obtain ⟨a, b, c⟩ := t q hq
  exact ⟨a, b, fun m hm => by rw [h _ _ (by omega)]; exact c m hm⟩
theorem TI_fr (h : ∀ o k, 199 ≤ o → J' o k = J o k) (t : TI xs A tn e r n J) : TI xs A tn e r n J' := by
  obtain ⟨a, b, c, d⟩ := t
  refine ⟨TG_fr h a, ?_, ?_, fun m hm => ?_⟩
  · rw [h _ _ (by omega)]; exact b
  · rw [h _ _ (by omega)]; exact c
  · rw [h _ _ (by omega)]; exact d m hm
theorem GZ_fr (f : Fr (fun o => 199 ≤ o) I I' J J') (h : GZ I J) : GZ I' J' := by
  obtain ⟨a, b, c⟩ := h
  exact ⟨(f.1 205 0 (by decide)).trans a, (f.1 206 0 (by decide)).trans b, (f.2 207 0 (by decide)).trans c⟩
theorem W_reb (w : WL8 s A I0 J0 I J) : WL8 s A I J I J := ⟨w.1, w.2.1, w.2.2.1, Fr_r⟩
theorem W_upl (w : WL8 s A I0 J0 I J) {o k : Nat} {v : Int64} (ho : 199 ≤ o) : WL8 s A I (ab_up J o k v) I (ab_up J o k v) :=
  ⟨w.1, w.2.1, SC_fr w.1 ⟨fun _ _ _ => rfl, fun o' k' h => congrFun (ab_up_other _ _ _ (by omega)) k'⟩ w.2.2.1, Fr_r⟩
theorem GZ_upl {o k : Nat} {v : Int64} (ho : 207 < o) (h : GZ I J) : GZ I (ab_up J o k v) := ⟨h.1, h.2.1, (congrFun (ab_up_other _ _ _ (by omega)) 0).trans h.2.2⟩
theorem z_run {a b c d : Int32} (w : WL8 s A I0 J0 I J) (hc : ab_cat S ≤ 8) (K : ∀ I' J', WL8 (w_ru s (ruo A (ar4 a b c d))) A I0 J0 I' J' → Gy xs (ab_at 146 (pc + 3)) 146 (pc + 3) L (.long (toldV (run0 A (ar4 a b c d) none 0).2.2) :: S) (SH ++ E, I', J') Q) : Gy xs (some (.invokevirtual 164, len)) 146 pc L (.int d :: .int c :: .int b :: .int a :: .ref 0 :: S) (SH ++ E, I, J) Q := by
  have w0 := w
  obtain ⟨ok, e, h, -⟩ := w
  subst e
  rw [cy_164 y_ref0]
  refine ⟨hc, Ey_of (C_run ok h a b c d fun I' J' x y => ⟨I', J', rfl, Or.inl ⟨rfl, rfl⟩, ?_⟩)⟩
  exact K I' J' (W_step w0 (OS_ru ok _) rfl x y)
theorem o_went0 {ar : Nat → Int32} (h : v_ru s = ruo A ar) : o_went s (nI 0) = nI (run0 A ar none 0).2.1 := by
  unfold o_went
  rw [il_c (by decide) (by decide), h]
  rfl
theorem o_went2 {ar : Nat → Int32} (h : v_ru s = ruo A ar) : o_went s (nI 2) = nI (run0 A ar none 0).2.2.isSome.toNat := by
  unfold o_went
  rw [il_c (by decide) (by decide), h]
  rfl
theorem o_val {ar : Nat → Int32} (h : v_ru s = ruo A ar) (ea : v_a s = A) (hn : n < A 0 1) (hN : A 0 1 ≤ 20) : o_value s (nI n) = (run0 A ar none 0).1.1 n := by
  unfold o_value
  rw [ea, if_pos ⟨by rw [q_le (by omega) (by omega)]; omega, by rw [q_lt (by omega) (by omega)]; exact hn⟩, h, nI_clamp (by omega)]
  rfl
set_option maxRecDepth 4000 in
theorem f_val (o : OZ A) (h6 : E[e]? = some (11, 6, [])) (h60 : E[e + 1]? = some (11, 60, [])) (h9 : 9 ≤ e) (hr : r < 3) (hru : v_ru s = ruo A (arL xs tn r)) {l13 l14 l21 l22 l23 : Option Value} {x15 x19 : Int32}
    (K : ∀ I' J' x20, WL8 s A I' J' I' J' → GZ I' J' → TI xs A tn e r (A 0 1) J' → Gy xs (ab_at 146 1055) 146 1055 [some (.ref 2000), some (.ref 0), some (.ref 199), some (.ref 200), some (.ref 201), some (.ref 202), some (.ref 203), some (.ref 204), some (.ref 205), some (.ref 206), some (.ref 207), some (.int (nI (A 0 1))), some (.int (nI tn)), l13, l14, some (.int x15), some (.ref (199 + e)), some (.ref (199 + (e + 1))), some (.int (nI r)), some (.int x19), some (.int x20), l21, l22, l23] [] (SH ++ E, I', J') Q) :
    ∀ d n I J, n + d = A 0 1 → WL8 s A I J I J → GZ I J → TI xs A tn e r n J → Gy xs (ab_at 146 981) 146 981 [some (.ref 2000), some (.ref 0), some (.ref 199), some (.ref 200), some (.ref 201), some (.ref 202), some (.ref 203), some (.ref 204), some (.ref 205), some (.ref 206), some (.ref 207), some (.int (nI (A 0 1))), some (.int (nI tn)), l13, l14, some (.int x15), some (.ref (199 + e)), some (.ref (199 + (e + 1))), some (.int (nI r)), some (.int x19), some (.int (nI n)), l21, l22, l23] [] (SH ++ E, I, J) Q := by
  intro d
  induction d with
  | zero =>
    intro n I J hd w gz ti
    have n20 := W_N w
    have e : n = A 0 1 := by omega
    subst e
    rw [at_146_981]
    simp (disch := first | omega | assumption | exact yrt_146 | fail) only [yrt_146, ab_kl_n, ab_kl_i, ab_kl_r, ab_kl_l, Gy_iload_20, at_146_983, Gy_iload_11, jy_146_985, q_le, q_lt, q_eq, n_leT, n_leF, n_ltT, n_ltF, n_eqF, n_b0, Nat.reduceAdd, Nat.reduceMul, Nat.reduceLeDiff, Nat.reduceSub, decide_true, decide_false, Bool.toNat_true, Bool.toNat_false, not_true_eq_false, not_false_eq_true, ite_not, true_and, and_true, if_true, if_false, ↓reduceIte, Bool.or_true, Bool.true_or, Bool.or_false]
    exact K I J _ w gz ti
  | succ d ih =>
    intro n I J hd w gz ti
    have n20 := W_N w
    have hn : n < A 0 1 := by omega
    have ev := fun (s : VS) (h : v_ru s = ruo A (arL xs tn r)) (ea : v_a s = A) => o_val h ea hn n20
    have ev := ev s hru w.2.1
    have eV : (run0 A (arL xs tn r) none 0).1.1 n = VV xs A tn r n := rfl
    rw [eV] at ev
    have ig := (run0_all o WOK_none 0 (ar := arL xs tn r)).2 n hn
    rw [eV] at ig
    have ti1 : TI xs A tn e r (n + 1) (ab_up J (199 + (e + 1)) (20 * r + n) (VV xs A tn r n)) := by
      obtain ⟨a, b, c, d⟩ := ti
      refine ⟨fun q hq => ?_, ?_, ?_, fun m hm => ?_⟩
      · obtain ⟨x, y, z⟩ := a q hq
        refine ⟨?_, ?_, fun m hm => ?_⟩
        · rw [up_r, if_neg (by omega)]; exact x
        · rw [up_r, if_neg (by omega)]; exact y
        · rw [up_r, if_neg (by omega)]; exact z m hm
      · rw [up_r, if_neg (by omega)]; exact b
      · rw [up_r, if_neg (by omega)]; exact c
      · by_cases z : m = n
        · subst z
          rw [up_r, if_pos ⟨rfl, rfl⟩]
        · rw [up_r, if_neg (by omega)]; exact d m (by omega)
    have gz1 : GZ I (ab_up J (199 + (e + 1)) (20 * r + n) (VV xs A tn r n)) := GZ_upl (by omega) gz
    have w1 : WL8 s A I (ab_up J (199 + (e + 1)) (20 * r + n) (VV xs A tn r n)) I (ab_up J (199 + (e + 1)) (20 * r + n) (VV xs A tn r n)) := W_upl w (by omega)
    have nx : ∀ I2 J2, WL8 s A I (ab_up J (199 + (e + 1)) (20 * r + n) (VV xs A tn r n)) I2 J2 → Gy xs (ab_at 146 1049) 146 1049 [some (.ref 2000), some (.ref 0), some (.ref 199), some (.ref 200), some (.ref 201), some (.ref 202), some (.ref 203), some (.ref 204), some (.ref 205), some (.ref 206), some (.ref 207), some (.int (nI (A 0 1))), some (.int (nI tn)), l13, l14, some (.int x15), some (.ref (199 + e)), some (.ref (199 + (e + 1))), some (.int (nI r)), some (.int x19), some (.int (nI n)), l21, l22, l23] [] (SH ++ E, I2, J2) Q := by
      intro I2 J2 w2
      simp (disch := first | omega | assumption | exact yrt_146 | fail) only [yrt_146, ab_kl_n, ab_kl_i, ab_kl_r, ab_kl_l, at_146_1049, Gy_iinc_20, ab_put_int_20, kc_1, q_add, jy_146_1052, Nat.reduceAdd, Nat.reduceMul, Nat.reduceLeDiff, Nat.reduceSub, decide_true, decide_false, Bool.toNat_true, Bool.toNat_false, not_true_eq_false, not_false_eq_true, ite_not, true_and, and_true, if_true, if_false, ↓reduceIte, Bool.or_true, Bool.true_or, Bool.or_false]
      exact ih (n + 1) I2 J2 (by omega) (W_reb w2) (GZ_fr w2.2.2.2 gz1) (TI_fr w2.2.2.2.2 ti1)
    rw [at_146_981]
    generalize hJ : ab_up J (199 + (e + 1)) (20 * r + n) (VV xs A tn r n) = J1 at *
    by_cases c : VV xs A tn r n = lN 2000000000000
    · rw [c] at ev hJ
      simp (disch := first | omega | assumption | exact yrt_146 | fail) only [yrt_146, ab_kl_n, ab_kl_i, ab_kl_r, ab_kl_l, Gy_iload_20, at_146_983, Gy_iload_11, jy_146_985, q_le, q_lt, q_eq, n_leT, n_leF, n_ltT, n_ltF, n_eqF, n_b0, at_146_988, Gy_aload_17, at_146_990, Gy_bipush, kb_20, at_146_992, Gy_iload_18, at_146_994, Gy_imul, q_mul, at_146_995, at_146_997, Gy_iadd, q_add, Nat.zero_add, at_146_998, Gy_aload_1, at_146_999, at_146_1001, cat_n, cat_i, cat_r, cat_l, tl_i, tl_l, tl_n, y_sh, y_shh, at_146_1004, Gy_lastore, q_in, q_cl, y_setl, at_146_1005, at_146_1006, at_146_1008, at_146_1011, ldy2_100, at_146_1014, Gy_lcmp, jy_146_1015, Nat.reduceAdd, Nat.reduceMul, Nat.reduceLeDiff, Nat.reduceSub, decide_true, decide_false, Bool.toNat_true, Bool.toNat_false, not_true_eq_false, not_false_eq_true, ite_not, true_and, and_true, if_true, if_false, ↓reduceIte, Bool.or_true, Bool.true_or, Bool.or_false, zq_value w, zq_value w1, ev, y_ref h60, y_lna h60, hJ, lc_eq]
      exact nx I J1 w1
    · simp (disch := first | omega | assumption | exact yrt_146 | fail) only [yrt_146, ab_kl_n, ab_kl_i, ab_kl_r, ab_kl_l, Gy_iload_20, at_146_983, Gy_iload_11, jy_146_985, q_le, q_lt, q_eq, n_leT, n_leF, n_ltT, n_ltF, n_eqF, n_b0, at_146_988, Gy_aload_17, at_146_990, Gy_bipush, kb_20, at_146_992, Gy_iload_18, at_146_994, Gy_imul, q_mul, at_146_995, at_146_997, Gy_iadd, q_add, Nat.zero_add, at_146_998, Gy_aload_1, at_146_999, at_146_1001, cat_n, cat_i, cat_r, cat_l, tl_i, tl_l, tl_n, y_sh, y_shh, at_146_1004, Gy_lastore, q_in, q_cl, y_setl, at_146_1005, at_146_1006, at_146_1008, at_146_1011, ldy2_100, at_146_1014, Gy_lcmp, jy_146_1015, at_146_1018, at_146_1019, Nat.reduceAdd, Nat.reduceMul, Nat.reduceLeDiff, Nat.reduceSub, decide_true, decide_false, Bool.toNat_true, Bool.toNat_false, not_true_eq_false, not_false_eq_true, ite_not, true_and, and_true, if_true, if_false, ↓reduceIte, Bool.or_true, Bool.true_or, Bool.or_false, zq_value w, zq_value w1, ev, y_ref h60, y_lna h60, hJ, lc_eq, c]
      refine z_number w1 hn (by simp only [cat_n, cat_i, cat_r, cat_l]; omega) fun I2 J2 w2 => ?_
      cases hf : FF A n with
      | inl f =>
        have e3 : nvL (Sum.inl f) = lN 2000000000000 := rfl
        rw [e3]
        simp (disch := first | omega | assumption | exact yrt_146 | fail) only [yrt_146, ab_kl_n, ab_kl_i, ab_kl_r, ab_kl_l, at_146_1024, ldy2_100, at_146_1027, Gy_lcmp, jy_146_1028, q_le, q_lt, q_eq, n_leT, n_leF, n_ltT, n_ltF, n_eqF, n_b0, Nat.reduceAdd, Nat.reduceMul, Nat.reduceLeDiff, Nat.reduceSub, decide_true, decide_false, Bool.toNat_true, Bool.toNat_false, not_true_eq_false, not_false_eq_true, ite_not, true_and, and_true, if_true, if_false, ↓reduceIte, Bool.or_true, Bool.true_or, Bool.or_false, lc_eq]
        exact nx I2 J2 w2
      | inr v =>
        have e3 : nvL (Sum.inr v) = v := rfl
        have ec : VV xs A tn r n = v := (ig.2 v hf).resolve_left c
        rw [e3, ← ec]
        simp (disch := first | omega | assumption | exact yrt_146 | fail) only [yrt_146, ab_kl_n, ab_kl_i, ab_kl_r, ab_kl_l, at_146_1024, ldy2_100, at_146_1027, Gy_lcmp, jy_146_1028, q_le, q_lt, q_eq, n_leT, n_leF, n_ltT, n_ltF, n_eqF, n_b0, at_146_1031, Gy_aload_1, at_146_1032, Gy_iload_20, at_146_1034, cat_n, cat_i, cat_r, cat_l, tl_i, tl_l, tl_n, y_sh, y_shh, at_146_1037, at_146_1038, Nat.reduceAdd, Nat.reduceMul, Nat.reduceLeDiff, Nat.reduceSub, decide_true, decide_false, Bool.toNat_true, Bool.toNat_false, not_true_eq_false, not_false_eq_true, ite_not, true_and, and_true, if_true, if_false, ↓reduceIte, Bool.or_true, Bool.true_or, Bool.or_false, lc_eq, c, zq_value w2, ev]
        refine z_number w2 hn (by simp only [cat_n, cat_i, cat_r, cat_l]; omega) fun I3 J3 w3 => ?_
        rw [hf, e3, ← ec]
        simp (disch := first | omega | assumption | exact yrt_146 | fail) only [yrt_146, ab_kl_n, ab_kl_i, ab_kl_r, ab_kl_l, at_146_1043, Gy_lcmp, jy_146_1044, q_le, q_lt, q_eq, n_leT, n_leF, n_ltT, n_ltF, n_eqF, n_b0, Nat.reduceAdd, Nat.reduceMul, Nat.reduceLeDiff, Nat.reduceSub, decide_true, decide_false, Bool.toNat_true, Bool.toNat_false, not_true_eq_false, not_false_eq_true, ite_not, true_and, and_true, if_true, if_false, ↓reduceIte, Bool.or_true, Bool.true_or, Bool.or_false, lc_eq]
        exact nx I3 J3 w3
end LWR
