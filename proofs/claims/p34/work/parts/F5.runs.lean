/-! THE LAW'S CODE: three runs -/
section LWS
variable {xs : List Int32} {Q : Option Value → ab_H → Prop} {E : ab_Sh} {I I0 I' : Nat → Nat → Int32} {J J0 J' : Nat → Nat → Int64} {s : VS} {A : Nat → Nat → Nat} {n tn e r : Nat}
theorem im_ru {ru : RU} : v_im (w_ru s ru) = v_im s := rfl
set_option maxRecDepth 4000 in
theorem f_runs (hx : xs.length ≤ 260) (ht : tn < 2) (o : OZ A) (h6 : E[e]? = some (11, 6, [])) (h60 : E[e + 1]? = some (11, 60, [])) (h9 : 9 ≤ e) {l13 l14 l21 l22 l23 : Option Value} {x15 : Int32}
    (K : ∀ s I' J' l19 l20, v_im s 0 = some A → WL8 s A I' J' I' J' → GZ I' J' → TG xs A tn e 3 J' → Gy xs (ab_at 146 1061) 146 1061 [some (.ref 2000), some (.ref 0), some (.ref 199), some (.ref 200), some (.ref 201), some (.ref 202), some (.ref 203), some (.ref 204), some (.ref 205), some (.ref 206), some (.ref 207), some (.int (nI (A 0 1))), some (.int (nI tn)), l13, l14, some (.int x15), some (.ref (199 + e)), some (.ref (199 + (e + 1))), some (.int (nI 3)), l19, l20, l21, l22, l23] [] (SH ++ E, I', J') Q) :
    ∀ d r s I J l19 l20, r + d = 3 → v_im s 0 = some A → WL8 s A I J I J → GZ I J → TG xs A tn e r J → Gy xs (ab_at 146 882) 146 882 [some (.ref 2000), some (.ref 0), some (.ref 199), some (.ref 200), some (.ref 201), some (.ref 202), some (.ref 203), some (.ref 204), some (.ref 205), some (.ref 206), some (.ref 207), some (.int (nI (A 0 1))), some (.int (nI tn)), l13, l14, some (.int x15), some (.ref (199 + e)), some (.ref (199 + (e + 1))), some (.int (nI r)), l19, l20, l21, l22, l23] [] (SH ++ E, I, J) Q := by
  intro d
  induction d with
  | zero =>
    intro r s I J l19 l20 hd im w gz tg
    have e : r = 3 := by omega
    subst e
    rw [at_146_882]
    simp (disch := first | omega | assumption | exact yrt_146 | fail) only [yrt_146, ab_kl_n, ab_kl_i, ab_kl_r, ab_kl_l, Gy_iload_18, at_146_884, Gy_iconst, kc_3, jy_146_885, q_le, q_lt, q_eq, n_leT, n_leF, n_ltT, n_ltF, n_eqF, n_b0, Nat.reduceAdd, Nat.reduceMul, Nat.reduceLeDiff, Nat.reduceSub, decide_true, decide_false, Bool.toNat_true, Bool.toNat_false, not_true_eq_false, not_false_eq_true, ite_not, true_and, and_true, if_true, if_false, ↓reduceIte, Bool.or_true, Bool.true_or, Bool.or_false]
    exact K s I J _ _ im w gz tg
  | succ d ih =>
    intro r s I J l19 l20 hd im w gz tg
    have n20 := W_N w
    have hr : r < 3 := by omega
    have hN : ¬ 3 ≤ r := by omega
    rw [at_146_882]
    simp (disch := first | omega | assumption | exact yrt_146 | exact y_ok2 | fail) only [yrt_146, ab_kl_n, ab_kl_i, ab_kl_r, ab_kl_l, Gy_iload_18, at_146_884, Gy_iconst, kc_3, jy_146_885, q_le, q_lt, q_eq, n_leT, n_leF, n_ltT, n_ltF, n_eqF, n_b0, at_146_888, Gy_aload_0, at_146_889, Gy_bipush, kb_35, at_146_891, at_146_892, Gy_iload_12, at_146_894, Gy_imul, q_mul, at_146_895, Gy_iadd, q_add, Nat.zero_add, at_146_896, at_146_898, at_146_899, cy_73, cat_n, cat_i, cat_r, cat_l, tl_i, tl_l, tl_n, y_sh, y_shh, at_146_902, Gy_istore_19, ab_put_int_19, at_146_904, Gy_aload_16, at_146_906, at_146_908, Gy_aload_1, at_146_909, Gy_iload_19, at_146_911, kb_9, at_146_913, cy_69, at_146_916, kc_4, at_146_917, Gy_isub, at_146_918, at_146_920, kc_2, at_146_921, Gy_ishr, at_146_922, at_146_924, at_146_927, at_146_928, at_146_929, at_146_931, at_146_932, at_146_933, at_146_935, at_146_938, at_146_939, at_146_940, at_146_942, kb_6, at_146_944, at_146_945, at_146_947, at_146_950, at_146_951, Nat.reduceAdd, Nat.reduceMul, Nat.reduceLeDiff, Nat.reduceSub, decide_true, decide_false, Bool.toNat_true, Bool.toNat_false, not_true_eq_false, not_false_eq_true, ite_not, true_and, and_true, if_true, if_false, ↓reduceIte, Bool.or_true, Bool.true_or, Bool.or_false, hN, y_cell hx, y_part]
    refine z_run w (by simp only [cat_n, cat_i, cat_r, cat_l]; omega) fun I1 J1 w1 => ?_
    have ea : ar4 (nI (pt (cellv xs (35 + 3 * tn + r)) 9) - nI 4) (nI (pt (cellv xs (35 + 3 * tn + r) >>> (nI 2 &&& 31)) 9) - nI 4) (nI (pt (cellv xs (35 + 3 * tn + r) >>> (nI 4 &&& 31)) 9) - nI 4) (nI (pt (cellv xs (35 + 3 * tn + r) >>> (nI 6 &&& 31)) 9) - nI 4) = arL xs tn r := rfl
    rw [ea] at w1 ⊢
    have et : toldV (run0 A (arL xs tn r) none 0).2.2 = tld xs A tn r := rfl
    rw [et]
    have tg1 := TG_fr w1.2.2.2.2 tg
    have gz1 := GZ_fr w1.2.2.2 gz
    have hru : v_ru (w_ru s (ruo A (arL xs tn r))) = ruo A (arL xs tn r) := rfl
    have w2 := W_upl (o := 199 + e) (k := r) (v := tld xs A tn r) w1 (by omega)
    simp (disch := first | omega | assumption | exact yrt_146 | fail) only [yrt_146, ab_kl_n, ab_kl_i, ab_kl_r, ab_kl_l, at_146_955, Gy_lastore, q_in, q_cl, y_setl, at_146_956, Gy_aload_16, at_146_958, Gy_iconst, kc_3, at_146_959, Gy_iload_18, at_146_961, Gy_iadd, q_add, Nat.zero_add, at_146_962, Gy_aload_1, at_146_963, kc_0, at_146_964, cat_n, cat_i, cat_r, cat_l, tl_i, tl_l, tl_n, y_sh, y_shh, Nat.reduceAdd, Nat.reduceMul, Nat.reduceLeDiff, Nat.reduceSub, decide_true, decide_false, Bool.toNat_true, Bool.toNat_false, not_true_eq_false, not_false_eq_true, ite_not, true_and, and_true, if_true, if_false, ↓reduceIte, Bool.or_true, Bool.true_or, Bool.or_false, y_ref h6, y_lna h6, zq_went w2, o_went0 hru]
    simp (disch := first | omega | assumption | exact yrt_146 | fail) only [yrt_146, ab_kl_n, ab_kl_i, ab_kl_r, ab_kl_l, at_146_967, Gy_bipush, kb_10, at_146_969, Gy_imul, q_mul, at_146_970, Gy_aload_1, at_146_971, Gy_iconst, kc_2, at_146_972, cat_n, cat_i, cat_r, cat_l, tl_i, tl_l, tl_n, y_sh, y_shh, at_146_975, Gy_iadd, q_add, Nat.zero_add, at_146_976, Gy_i2l, Nat.reduceAdd, Nat.reduceMul, Nat.reduceLeDiff, Nat.reduceSub, decide_true, decide_false, Bool.toNat_true, Bool.toNat_false, not_true_eq_false, not_false_eq_true, ite_not, true_and, and_true, if_true, if_false, ↓reduceIte, Bool.or_true, Bool.true_or, Bool.or_false, zq_went w2, o_went2 hru, y_ref h6, y_lna h6]
    have ew : (nI ((run0 A (arL xs tn r) none 0).2.1 * 10 + (run0 A (arL xs tn r) none 0).2.2.isSome.toNat)).toInt64 = wnt xs A tn r := rfl
    have w3 := W_upl (o := 199 + e) (k := 3 + r) (v := wnt xs A tn r) w2 (by omega)
    simp (disch := first | omega | assumption | exact yrt_146 | fail) only [yrt_146, ab_kl_n, ab_kl_i, ab_kl_r, ab_kl_l, at_146_977, Gy_lastore, q_in, q_cl, y_setl, at_146_978, Gy_iconst, kc_0, at_146_979, Gy_istore_20, ab_put_int_20, Nat.reduceAdd, Nat.reduceMul, Nat.reduceLeDiff, Nat.reduceSub, decide_true, decide_false, Bool.toNat_true, Bool.toNat_false, not_true_eq_false, not_false_eq_true, ite_not, true_and, and_true, if_true, if_false, ↓reduceIte, Bool.or_true, Bool.true_or, Bool.or_false, ew, y_ref h6, y_lna h6]
    refine f_val o h6 h60 h9 hr hru (fun I3 J3 x20 w4 gz4 ti => ?_) _ 0 I1 _ (Nat.zero_add _) w3 (GZ_upl (by omega) (GZ_upl (by omega) gz1)) ⟨fun q hq => ?_, ?_, ?_, fun m hm => absurd hm (Nat.not_lt_zero m)⟩
    · simp (disch := first | omega | assumption | exact yrt_146 | fail) only [yrt_146, ab_kl_n, ab_kl_i, ab_kl_r, ab_kl_l, at_146_1055, Gy_iinc_18, ab_put_int_18, kc_1, q_add, jy_146_1058, Nat.reduceAdd, Nat.reduceMul, Nat.reduceLeDiff, Nat.reduceSub, decide_true, decide_false, Bool.toNat_true, Bool.toNat_false, not_true_eq_false, not_false_eq_true, ite_not, true_and, and_true, if_true, if_false, ↓reduceIte, Bool.or_true, Bool.true_or, Bool.or_false]
      refine ih (r + 1) _ I3 J3 _ _ (by omega) (show v_im (w_ru s (ruo A (arL xs tn r))) 0 = some A from im) w4 gz4 fun q hq => ?_
      by_cases z : q = r
      · subst z
        exact ti.2
      · exact ti.1 q (by omega)
    · obtain ⟨x, y, z⟩ := tg1 q hq
      refine ⟨?_, ?_, fun m hm => ?_⟩
      · rw [up_r, if_neg (by omega), up_r, if_neg (by omega)]; exact x
      · rw [up_r, if_neg (by omega), up_r, if_neg (by omega)]; exact y
      · rw [up_r, if_neg (by omega), up_r, if_neg (by omega)]; exact z m hm
    · rw [up_r, if_neg (by omega), up_r, if_pos ⟨rfl, rfl⟩]
    · rw [up_r, if_pos ⟨rfl, rfl⟩]
theorem okB {nx : Nat} (hn : 208 ≤ nx) {l11 l12 : Int32} {ls : List (Option Value)} (h : ls.all (fun v => (v.map (ab_ok nx)).getD true) = true) : ([some (.ref 2000), some (.ref 0), some (.ref 199), some (.ref 200), some (.ref 201), some (.ref 202), some (.ref 203), some (.ref 204), some (.ref 205), some (.ref 206), some (.ref 207), some (.int l11), some (.int l12)] ++ ls : ab_L).all (fun v => (v.map (ab_ok nx)).getD true) = true := by
  rw [List.all_append, h, Bool.and_true]
  have g : ∀ x, x < 208 ∨ 1000 ≤ x → ab_ok nx (.ref x) = true := fun x hx => by
    unfold ab_ok
    rw [Bool.or_eq_true, decide_eq_true_eq, decide_eq_true_eq]
    exact hx.imp (fun z => Nat.lt_of_lt_of_le z hn) id
  have gi : ∀ x, ab_ok nx (.int x) = true := fun x => rfl
  simp only [List.all_cons, List.all_nil, Option.map_some, Option.getD_some, Bool.and_eq_true, and_true, gi]
  exact ⟨g 2000 (by decide), g 0 (by decide), g 199 (by decide), g 200 (by decide), g 201 (by decide), g 202 (by decide), g 203 (by decide), g 204 (by decide), g 205 (by decide), g 206 (by decide), g 207 (by decide)⟩
theorem y_frn {k : Nat} (hk : E.length = k) : Fr (fun o => o < 199 + k) I (fun o k => if o < 199 + E.length then I o k else 0) J (fun o k => if o < 199 + E.length then J o k else 0) := by
  subst hk
  exact ⟨fun o k h => if_pos h, fun o k h => if_pos h⟩
set_option maxRecDepth 4000 in
theorem f_arr (hx : xs.length ≤ 260) (ht : tn < 2) (o : OZ A) (hY : YX E) (hE : E.length ≤ 20) (im : v_im s 0 = some A) (w : WL8 s A I J I J) (gz : GZ I J) {x13 x14 x15 x16 : Int32} {l17 l18 l19 l20 l21 l22 l23 : Option Value} (hl : OKL [l17, l18]) (hl2 : OKL [l19, l20, l21, l22, l23])
    (K : ∀ s I' J' l19 l20, v_im s 0 = some A → WL8 s A I' J' I' J' → GZ I' J' → TG xs A tn E.length 3 J' → Gy xs (ab_at 146 1061) 146 1061 [some (.ref 2000), some (.ref 0), some (.ref 199), some (.ref 200), some (.ref 201), some (.ref 202), some (.ref 203), some (.ref 204), some (.ref 205), some (.ref 206), some (.ref 207), some (.int (nI (A 0 1))), some (.int (nI tn)), some (.int x13), some (.int x14), some (.int x15), some (.ref (199 + E.length)), some (.ref (199 + (E.length + 1))), some (.int (nI 3)), l19, l20, l21, l22, l23] [] (SH ++ (E ++ [(11, 6, []), (11, 60, [])]), I', J') Q) :
    Gy xs (ab_at 146 867) 146 867 [some (.ref 2000), some (.ref 0), some (.ref 199), some (.ref 200), some (.ref 201), some (.ref 202), some (.ref 203), some (.ref 204), some (.ref 205), some (.ref 206), some (.ref 207), some (.int (nI (A 0 1))), some (.int (nI tn)), some (.int x13), some (.int x14), some (.int x15), some (.int x16), l17, l18, l19, l20, l21, l22, l23] [] (SH ++ E, I, J) Q := by
  have n20 := W_N w
  have yl := YX_len hY
  have hl1 := fun nx => hl nx
  have eN : ab_nx (SH ++ E, I, J) = 199 + E.length := y_nx
  have okA : ∀ nx, 208 ≤ nx → List.all ([some (.int x13), some (.int x14), some (.int x15), some (.int x16), l17, l18, l19, l20, l21, l22, l23] : ab_L) (fun v => (v.map (ab_ok nx)).getD true) = true := by
    intro nx _
    have a := hl nx
    have b := hl2 nx
    simp only [List.all_cons, List.all_nil, Bool.and_eq_true, and_true] at a b ⊢
    exact ⟨rfl, rfl, rfl, rfl, a.1, a.2, b⟩
  rw [at_146_867, Gy_bipush, kb_6, at_146_869, Gy_newl ⟨by decide, by decide, by rw [eN]; omega, by rw [eN, List.all_nil, Bool.and_true]; exact okB (by omega) (okA _ (by omega))⟩, eN, y_new]
  generalize hI : (fun o k => if o < 199 + E.length then I o k else 0) = I1
  generalize hJ : (fun o k => if o < 199 + E.length then J o k else 0) = J1
  have fr1 : Fr (fun o => o < 199 + E.length) I I1 J J1 := by rw [← hI, ← hJ]; exact y_frn rfl
  have e6 : (nI 6).toNatClampNeg = 6 := by decide
  have e60 : (nI 60).toNatClampNeg = 60 := by decide
  rw [e6]
  generalize hE1 : E ++ [(11, 6, [])] = E1
  have l1 : E1.length = E.length + 1 := by rw [← hE1, List.length_append]; rfl
  have eN1 : ab_nx (SH ++ E1, I1, J1) = 199 + (E.length + 1) := by rw [y_nx, l1]
  simp (disch := first | omega | assumption | exact yrt_146 | fail) only [yrt_146, ab_kl_n, ab_kl_i, ab_kl_r, ab_kl_l, at_146_871, Gy_astore_16, ab_put_ref_16, Nat.reduceAdd, Nat.reduceMul, Nat.reduceLeDiff, Nat.reduceSub, decide_true, decide_false, Bool.toNat_true, Bool.toNat_false, not_true_eq_false, not_false_eq_true, ite_not, true_and, and_true, if_true, if_false, ↓reduceIte, Bool.or_true, Bool.true_or, Bool.or_false]
  have okA1 : List.all ([some (.int x13), some (.int x14), some (.int x15), some (.ref (199 + E.length)), l17, l18, l19, l20, l21, l22, l23] : ab_L) (fun v => (v.map (ab_ok (199 + (E.length + 1)))).getD true) = true := by
    have a := okA (199 + (E.length + 1)) (by omega)
    have r : ab_ok (199 + (E.length + 1)) (.ref (199 + E.length)) = true := by
      unfold ab_ok
      rw [Bool.or_eq_true, decide_eq_true_eq]
      exact Or.inl (Nat.lt_succ_self (199 + E.length))
    simp only [List.all_cons, List.all_nil, Bool.and_eq_true, and_true, Option.map_some, Option.getD_some] at a ⊢
    exact ⟨a.1, a.2.1, a.2.2.1, r, a.2.2.2.2⟩
  rw [at_146_873, Gy_bipush, kb_60, at_146_875, Gy_newl ⟨by decide, by decide, by rw [eN1]; omega, by rw [eN1, List.all_nil, Bool.and_true]; exact okB (by omega) okA1⟩, eN1, y_new, e60]
  generalize hI2 : (fun o k => if o < 199 + E1.length then I1 o k else 0) = I2
  generalize hJ2 : (fun o k => if o < 199 + E1.length then J1 o k else 0) = J2
  have fr2 : Fr (fun o => o < 199 + (E.length + 1)) I1 I2 J1 J2 := by rw [← hI2, ← hJ2]; exact y_frn l1
  have fr3 : Fr (fun o => o < 209) I I2 J J2 := ⟨fun o k h => (fr2.1 o k (show o < 199 + (E.length + 1) by omega)).trans (fr1.1 o k (show o < 199 + E.length by omega)), fun o k h => (fr2.2 o k (show o < 199 + (E.length + 1) by omega)).trans (fr1.2 o k (show o < 199 + E.length by omega))⟩
  have w2 : WL8 s A I2 J2 I2 J2 := ⟨w.1, w.2.1, SC_fr w.1 ⟨fun o k h => fr3.1 o k (show o < 209 by omega), fun o k h => fr3.2 o k (show o < 209 by omega)⟩ w.2.2.1, Fr_r⟩
  have gz2 : GZ I2 J2 := ⟨(fr3.1 205 0 (by decide)).trans gz.1, (fr3.1 206 0 (by decide)).trans gz.2.1, (fr3.2 207 0 (by decide)).trans gz.2.2⟩
  have eE : E1 ++ [(11, 60, [])] = E ++ [(11, 6, []), (11, 60, [])] := by rw [← hE1, List.append_assoc]; rfl
  rw [eE]
  have h6 : (E ++ [(11, 6, []), (11, 60, [])])[E.length]? = some (11, 6, []) := by
    rw [List.getElem?_append_right (Nat.le_refl _), Nat.sub_self]
    rfl
  have h60 : (E ++ [(11, 6, []), (11, 60, [])])[E.length + 1]? = some (11, 60, []) := by
    rw [List.getElem?_append_right (by omega), show E.length + 1 - E.length = 1 by omega]
    rfl
  simp (disch := first | omega | assumption | exact yrt_146 | fail) only [yrt_146, ab_kl_n, ab_kl_i, ab_kl_r, ab_kl_l, at_146_877, Gy_astore_17, ab_put_ref_17, at_146_879, Gy_iconst, kc_0, at_146_880, Gy_istore_18, ab_put_int_18, Nat.reduceAdd, Nat.reduceMul, Nat.reduceLeDiff, Nat.reduceSub, decide_true, decide_false, Bool.toNat_true, Bool.toNat_false, not_true_eq_false, not_false_eq_true, ite_not, true_and, and_true, if_true, if_false, ↓reduceIte, Bool.or_true, Bool.true_or, Bool.or_false]
  exact f_runs hx ht o h6 h60 (by omega) K _ 0 s I2 J2 _ _ (Nat.zero_add _) im w2 gz2 (fun q hq => absurd hq (Nat.not_lt_zero q))
end LWS
