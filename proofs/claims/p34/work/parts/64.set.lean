/-! THE CALLS: set, alter -/
def u1 (A : Nat → Nat → Nat) (f k v : Nat) : Nat → Nat → Nat := fun f' k' => if f' = f ∧ k' = k then v else A f' k'
theorem u1_ne {A : Nat → Nat → Nat} {f k v f' : Nat} (h : f' ≠ f) : u1 A f k v f' = A f' := by
  funext k'
  unfold u1
  rw [if_neg (fun z => h z.1)]
theorem u1_k {A : Nat → Nat → Nat} {f k v k' : Nat} (h : k' ≠ k) : u1 A f k v f k' = A f k' := by
  unfold u1
  rw [if_neg (fun z => h z.2)]
theorem u1_s {A : Nat → Nat → Nat} {f k v : Nat} : u1 A f k v f k = v := by
  unfold u1
  rw [if_pos ⟨rfl, rfl⟩]
theorem u1_WB {A : Nat → Nat → Nat} {f k v : Nat} (hb : WB A) (hv : v < 1000) : WB (u1 A f k v) := fun f' k' => by
  unfold u1
  split
  · exact hv
  · exact hb _ _
/-- i-th operand of n -/
def n_set (s : VS) (n i m : Int32) : VS := if nI 0 ≤ n ∧ n < nI (v_a s 0 1) then (if nI 0 ≤ i ∧ i < nI (v_a s 12 n.toNatClampNeg) then (if nI 0 ≤ m ∧ m < nI (v_a s 0 1) then (if v_a s 10 m.toNatClampNeg = 8 ∨ so (v_a s) m.toNatClampNeg n.toNatClampNeg i.toNatClampNeg = false then s else w_a s (u1 (v_a s) 14 (6 * n.toNatClampNeg + i.toNatClampNeg) m.toNatClampNeg)) else s) else s) else s
def o_set (A : Nat → Nat → Nat) (n i m : Int32) : Int32 := il (A 0 1) n fun n => il (A 12 n) i fun i => il (A 0 1) m fun m => if A 10 m = 8 ∨ so A m n i = false then -2 else nI (A 14 (6 * n + i))
def hiF (A : Nat → Nat → Nat) (n : Nat) : Nat := if A 10 n = 1 then 4 else 100
def n_alter (s : VS) (n v : Int32) : VS := if nI 0 ≤ n ∧ n < nI (v_a s 0 1) then (if v_a s 10 n.toNatClampNeg ≤ 1 then (if nI 0 ≤ v ∧ v < nI (hiF (v_a s) n.toNatClampNeg) then w_a s (u1 (v_a s) 13 n.toNatClampNeg v.toNatClampNeg) else s) else s) else s
def o_alter (A : Nat → Nat → Nat) (n v : Int32) : Int32 := il (A 0 1) n fun n => if A 10 n ≤ 1 then il (hiF A n) v fun _ => nI (A 13 n) else -1
theorem OA_set {A : Nat → Nat → Nat} (h : OA A) {j m : Nat} (hm : m < A 0 1) : OA (u1 A 14 j m) := by
  obtain ⟨r1, r2, r3, r4⟩ := h.2.1
  refine OA_of h (fun f h6 h13 h14 => u1_ne h14) (u1_WB h.1 (by omega)) (fun b hb hx => ?_) (fun n hn => ?_) (fun n i hn hi => ?_)
  · rw [u1_ne (by omega)]; exact (r3 b hb).2.2.2.2.1 hx
  · rw [u1_ne (by omega)]; obtain ⟨q1, q2, q3, q4, q5, q6, q7, q8, q9, q10, q11⟩ := r4 n hn; exact ⟨q9, q10⟩
  · obtain ⟨q1, q2, q3, q4, q5, q6, q7, q8, q9, q10, q11⟩ := r4 n hn
    by_cases c : 6 * n + i = j
    · rw [c, u1_s]; exact hm
    · rw [u1_k c]; exact q11 i hi
theorem OA_alter {A : Nat → Nat → Nat} (h : OA A) {n v : Nat} (hk : A 10 n ≤ 1) (hv : v < hiF A n) : OA (u1 A 13 n v) := by
  obtain ⟨r1, r2, r3, r4⟩ := h.2.1
  have hv100 : v < 100 := by unfold hiF at hv; split at hv <;> omega
  refine OA_of h (fun f h6 h13 h14 => u1_ne h13) (u1_WB h.1 (by omega)) (fun b hb hx => ?_) (fun n' hn => ?_) (fun n i hn hi => ?_)
  · rw [u1_ne (by omega)]; exact (r3 b hb).2.2.2.2.1 hx
  · obtain ⟨q1, q2, q3, q4, q5, q6, q7, q8, q9, q10, q11⟩ := r4 n' hn
    by_cases c : n' = n
    · subst c
      rw [u1_s]
      exact ⟨fun _ => by omega, fun z => by unfold hiF at hv; rw [if_pos z] at hv; omega⟩
    · rw [u1_k c]; exact ⟨q9, q10⟩
  · rw [u1_ne (by omega)]; exact (r4 n hn).2.2.2.2.2.2.2.2.2.2 i hi
section FSE
variable {I : Nat → Nat → Int32} {A : Nat → Nat → Nat} {p n i m v : Nat}
theorem PC_set (hr : WR A) (hn : n < A 0 1) (hi : i < A 12 n) (h : PC p I A) : PC p (ab_up I (p + 21 + n) i (nI m)) (u1 A 14 (6 * n + i) m) := by
  obtain ⟨e0, e1, e2, e3, e4, e5, e6, e7, e8, e9, e10, e11, e12⟩ := h
  have r4 := hr.2.2.2
  have f : ∀ d k, d ≤ 20 → ab_up I (p + 21 + n) i (nI m) (p + d) k = I (p + d) k := fun d k hd => fr_seti (by omega)
  refine ⟨(f 0 0 (by omega)).trans e0, (f 0 1 (by omega)).trans e1, fun b hb => (f 1 b (by omega)).trans (e2 b hb), fun b hb => (f 2 b (by omega)).trans (e3 b hb), fun b hb => (f 3 b (by omega)).trans (e4 b hb), fun b hb hx => (f 4 b (by omega)).trans (e5 b hb hx), fun b hb hx => (f 5 b (by omega)).trans (e6 b hb hx), fun b hb hx => (f 6 b (by omega)).trans (e7 b hb hx), fun n hn => (f 16 n (by omega)).trans (e8 n hn), fun n hn => (f 17 n (by omega)).trans (e9 n hn), fun n hn => (f 18 n (by omega)).trans (e10 n hn), fun n hn hx => (f 19 n (by omega)).trans (e11 n hn hx), fun n' i' hn' hi' => ?_⟩
  have hi' : i' < A 12 n' := hi'
  have q1 := (r4 n hn).2.2.1
  have q2 := (r4 n' hn').2.2.1
  by_cases c : n' = n
  · subst c
    by_cases d : i' = i
    · subst d; rw [fr_sets, u1_s]
    · rw [fr_setk d, u1_k (by omega)]; exact e12 n' i' hn' hi'
  · rw [fr_seti (by omega), u1_k (by omega)]; exact e12 n' i' hn' hi'
theorem PG_set {f k : Nat} (hf : f = 13 ∨ f = 14) {o j : Nat} {x : Int32} (ho : p + 15 < o) (hr : WR A) (h : PG p I A) : PG p (ab_up I o j x) (u1 A f k v) := by
  have r1 := hr.1
  obtain ⟨g1, g2, g3⟩ := h
  unfold PG
  rw [u1_ne (f' := 0) (by omega), u1_ne (f' := 7) (by omega), u1_ne (f' := 8) (by omega), u1_ne (f' := 9) (by omega)]
  exact ⟨fun b hb => by rw [fr_seti (by omega)]; exact g1 b hb, fun b i hb hi => by rw [fr_seti (by omega)]; exact g2 b i hb hi, fun b hb => by rw [fr_seti (by omega)]; exact g3 b hb⟩
theorem PC_alter (h : PC p I A) : PC p (ab_up I (p + 19) n (nI v)) (u1 A 13 n v) := by
  obtain ⟨e0, e1, e2, e3, e4, e5, e6, e7, e8, e9, e10, e11, e12⟩ := h
  have f : ∀ d k, d ≠ 19 → ab_up I (p + 19) n (nI v) (p + d) k = I (p + d) k := fun d k hd => fr_seti (by omega)
  refine ⟨(f 0 0 (by omega)).trans e0, (f 0 1 (by omega)).trans e1, fun b hb => (f 1 b (by omega)).trans (e2 b hb), fun b hb => (f 2 b (by omega)).trans (e3 b hb), fun b hb => (f 3 b (by omega)).trans (e4 b hb), fun b hb hx => (f 4 b (by omega)).trans (e5 b hb hx), fun b hb hx => (f 5 b (by omega)).trans (e6 b hb hx), fun b hb hx => (f 6 b (by omega)).trans (e7 b hb hx), fun n hn => (f 16 n (by omega)).trans (e8 n hn), fun n hn => (f 17 n (by omega)).trans (e9 n hn), fun n hn => (f 18 n (by omega)).trans (e10 n hn), fun n' hn' hx => ?_, fun n' i' hn' hi' => (by rw [fr_seti (by omega)]; exact e12 n' i' hn' hi')⟩
  by_cases c : n' = n
  · subst c; rw [fr_sets, u1_s]
  · rw [fr_setk c, u1_k c]; exact e11 n' hn' hx
theorem SC_a {s : VS} {J : Nat → Nat → Int64} {o j : Nat} {x : Int32} (ok : OS s) (h : SC s I J) (ho : 73 ≤ o) (ho2 : o ≤ 114) (hc : PC 73 (ab_up I o j x) A) (hg : PG 73 (ab_up I o j x) A) : SC (w_a s A) (ab_up I o j x) J ∧ Fr (fun o => 199 ≤ o) I (ab_up I o j x) J J := by
  obtain ⟨h1, h2, h3, h4, h5, h6, h7⟩ := h
  exact ⟨⟨⟨hc, hg⟩, Ci_eq ok.2.1 (fun o k _ => fr_seti (by omega)) h2, Ct_eq (fun o k _ => fr_seti (by omega)) h3, (fr_seti (by omega)).trans h4, Cr_eq (fun k _ => fr_seti (by omega)) (fun _ => rfl) h5, Cs_eq (fun o k _ => fr_seti (by omega)) h6, (fr_seti (by omega)).trans h7⟩, fun o k hk => fr_seti (by omega), fun _ _ _ => rfl⟩
end FSE
section CSE
variable {I I' : Nat → Nat → Int32} {J J' : Nat → Nat → Int64} {Q : Option Value → ab_H → Prop} {s : VS}
theorem C_set (ok : OS s) (h : SC s I J) (n i m : Int32) (K : ∀ I' J', SC (n_set s n i m) I' J' → Fr (fun o => 199 ≤ o) I I' J J' → Q (some (.int (o_set (v_a s) n i m))) (SH, I', J')) : Ex 117 [.ref 0, .int n, .int i, .int m] (SH, I, J) Q := by
  have hs := h
  obtain ⟨hb, hr, o3, o4, o5⟩ := ok.1
  obtain ⟨⟨ha, hg⟩, h2, h3, h4, h5, h6, h7⟩ := h
  have s0 := fun n hn x Q => x_hasOperand (J := J) (Q := Q) is73 hb hr ha hg (n := n) hn x
  have s1 := fun y hn x Q => x_hasOperandN (J := J) (Q := Q) is73 hb hr ha hg (y := y) hn x
  have s2 := fun x Q => x_hasName (J := J) (Q := Q) is73 hb ha x
  have s3 := fun m n i hm hn hi Q => x_isSeenByOperand (J := J) (Q := Q) is73 hb hr ha hg (m := m) (n := n) (i := i) hn hm hi
  have p73 : ∃ p, p = 73 := ⟨_, rfl⟩
  obtain ⟨p, p73⟩ := p73
  have s09 : va_rf (ab_rf sh_z 0 9) = .ref p := by rw [p73]; rfl
  have hp : isP p := by rw [p73]; exact is73
  rw [← p73] at s0 s1 s2 s3 ha hg
  have ha0 := ha
  have r1 := hr.1
  have r2 := hr.2.1
  have r4 := hr.2.2.2
  unfold n_set o_set at K
  obtain ⟨e0, e1, e2, e3, e4, e5, e6, e7, e8, e9, e10, e11, e12⟩ := ha
  rw [en_117]
  rcases i_lt (x := n) (N := v_a s 0 1) (by omega) with ⟨n, hn, rfl⟩ | hx
  · have PN : nI 0 ≤ nI n ∧ nI n < nI (v_a s 0 1) := ⟨nI_le (Nat.zero_le _) (by omega), nI_lt hn (by omega)⟩
    rw [if_pos PN, il_in (by omega) hn, q_cl (by omega)] at K
    have rn := r4 n hn
    rcases i_lt (x := i) (N := v_a s 12 n) (by omega) with ⟨i, hi, rfl⟩ | hx
    · have PI : nI 0 ≤ nI i ∧ nI i < nI (v_a s 12 n) := ⟨nI_le (Nat.zero_le _) (by omega), nI_lt hi (by omega)⟩
      rw [if_pos PI, il_in (by omega) hi, q_cl (by omega)] at K
      have e12n := e12 n i hn hi
      rcases i_lt (x := m) (N := v_a s 0 1) (by omega) with ⟨m, hm, rfl⟩ | hx
      · have PM : nI 0 ≤ nI m ∧ nI m < nI (v_a s 0 1) := ⟨nI_le (Nat.zero_le _) (by omega), nI_lt hm (by omega)⟩
        rw [if_pos PM, il_in (by omega) hm, q_cl (by omega)] at K
        have s3' := fun Q => s3 m n i hm hn hi Q
        by_cases c1 : v_a s 10 m = 8
        · rw [if_pos (Or.inl c1), if_pos (Or.inl c1)] at K
          have K0 := K _ _ hs Fr_r
          simp (disch := first | omega | assumption | exact own_117 | exact rt_117 | exact pr_0 (by assumption) | exact sr_73 | exact sr_4 | exact q_lt1 (hb _ _) | exact bt_lt _ | fail) only [own_117, rt_117, ab_kl_n, ab_kl_i, ab_kl_r, ab_kl_l, at_117_0, Go_aload_0, at_117_1, Go_getf, fl_7_62, gg_7_9, sh_ref, sh_rf, sr_0, at_117_4, Go_iload_1, at_117_5, Go_iload_2, at_117_6, cl_7_169, cat_n, cat_i, cat_r, cat_l, tl_i, tl_l, tl_n, sh_same, jt_117_9, q_le, q_lt, q_eq, n_leT, n_leF, n_ltT, n_ltF, n_eqF, n_b0, at_117_12, at_117_13, at_117_16, Go_iload_3, at_117_17, cl_7_148, jt_117_20, at_117_23, Go_iconst, kc_m1, at_117_24, Go_reti, at_117_25, at_117_26, at_117_29, fl_7_151, gg_3_11, at_117_32, at_117_33, Go_iaload, sh_ln, q_in, q_cl, at_117_34, Go_bipush, kb_8, jt_117_36, at_117_39, at_117_40, at_117_43, at_117_44, at_117_45, at_117_46, cl_7_248, jt_117_49, at_117_52, kb_m2, at_117_54, at_117_55, at_117_56, at_117_59, fl_7_173, gg_3_15, at_117_62, at_117_63, Go_aaload, at_117_64, at_117_65, at_117_66, Go_istore_4, ab_put_int_4, at_117_68, at_117_69, at_117_72, at_117_75, at_117_76, at_117_77, at_117_78, at_117_79, Go_iastore, sh_seti, at_117_80, Go_iload_4, at_117_82, Nat.reduceAdd, Nat.reduceMul, Nat.reduceLeDiff, Nat.reduceSub, decide_true, decide_false, Bool.toNat_true, Bool.toNat_false, not_true_eq_false, not_false_eq_true, ite_not, true_and, and_true, if_true, if_false, ↓reduceIte, Bool.or_true, Bool.true_or, Bool.or_false, pr_0 hp, pf_11 hp, pr_16 hp, pn_16 hp, e8, pf_15 hp, pr_20 hp, pn_20 hp, e12, orow hp, orow_r hp, orow_n hp, s0, s2, c1, s09]
          exact K0
        · cases c2 : so (v_a s) m n i with
          | false =>
            rw [if_pos (Or.inr c2), if_pos (Or.inr c2)] at K
            have K0 := K _ _ hs Fr_r
            rw [c2] at s3'
            simp (disch := first | omega | assumption | exact own_117 | exact rt_117 | exact pr_0 (by assumption) | exact sr_73 | exact sr_4 | exact q_lt1 (hb _ _) | exact bt_lt _ | fail) only [own_117, rt_117, ab_kl_n, ab_kl_i, ab_kl_r, ab_kl_l, at_117_0, Go_aload_0, at_117_1, Go_getf, fl_7_62, gg_7_9, sh_ref, sh_rf, sr_0, at_117_4, Go_iload_1, at_117_5, Go_iload_2, at_117_6, cl_7_169, cat_n, cat_i, cat_r, cat_l, tl_i, tl_l, tl_n, sh_same, jt_117_9, q_le, q_lt, q_eq, n_leT, n_leF, n_ltT, n_ltF, n_eqF, n_b0, at_117_12, at_117_13, at_117_16, Go_iload_3, at_117_17, cl_7_148, jt_117_20, at_117_23, Go_iconst, kc_m1, at_117_24, Go_reti, at_117_25, at_117_26, at_117_29, fl_7_151, gg_3_11, at_117_32, at_117_33, Go_iaload, sh_ln, q_in, q_cl, at_117_34, Go_bipush, kb_8, jt_117_36, at_117_39, at_117_40, at_117_43, at_117_44, at_117_45, at_117_46, cl_7_248, jt_117_49, at_117_52, kb_m2, at_117_54, at_117_55, at_117_56, at_117_59, fl_7_173, gg_3_15, at_117_62, at_117_63, Go_aaload, at_117_64, at_117_65, at_117_66, Go_istore_4, ab_put_int_4, at_117_68, at_117_69, at_117_72, at_117_75, at_117_76, at_117_77, at_117_78, at_117_79, Go_iastore, sh_seti, at_117_80, Go_iload_4, at_117_82, Nat.reduceAdd, Nat.reduceMul, Nat.reduceLeDiff, Nat.reduceSub, decide_true, decide_false, Bool.toNat_true, Bool.toNat_false, not_true_eq_false, not_false_eq_true, ite_not, true_and, and_true, if_true, if_false, ↓reduceIte, Bool.or_true, Bool.true_or, Bool.or_false, pr_0 hp, pf_11 hp, pr_16 hp, pn_16 hp, e8, pf_15 hp, pr_20 hp, pn_20 hp, e12, orow hp, orow_r hp, orow_n hp, s0, s2, c1, s3', s09]
            exact K0
          | true =>
            have C : ¬ (v_a s 10 m = 8 ∨ so (v_a s) m n i = false) := fun z => z.elim c1 (fun y => by rw [c2] at y; cases y)
            rw [if_neg C, if_neg C] at K
            rw [c2] at s3'
            simp (disch := first | omega | assumption | exact own_117 | exact rt_117 | exact pr_0 (by assumption) | exact sr_73 | exact sr_4 | exact q_lt1 (hb _ _) | exact bt_lt _ | fail) only [own_117, rt_117, ab_kl_n, ab_kl_i, ab_kl_r, ab_kl_l, at_117_0, Go_aload_0, at_117_1, Go_getf, fl_7_62, gg_7_9, sh_ref, sh_rf, sr_0, at_117_4, Go_iload_1, at_117_5, Go_iload_2, at_117_6, cl_7_169, cat_n, cat_i, cat_r, cat_l, tl_i, tl_l, tl_n, sh_same, jt_117_9, q_le, q_lt, q_eq, n_leT, n_leF, n_ltT, n_ltF, n_eqF, n_b0, at_117_12, at_117_13, at_117_16, Go_iload_3, at_117_17, cl_7_148, jt_117_20, at_117_23, Go_iconst, kc_m1, at_117_24, Go_reti, at_117_25, at_117_26, at_117_29, fl_7_151, gg_3_11, at_117_32, at_117_33, Go_iaload, sh_ln, q_in, q_cl, at_117_34, Go_bipush, kb_8, jt_117_36, at_117_39, at_117_40, at_117_43, at_117_44, at_117_45, at_117_46, cl_7_248, jt_117_49, at_117_52, kb_m2, at_117_54, at_117_55, at_117_56, at_117_59, fl_7_173, gg_3_15, at_117_62, at_117_63, Go_aaload, at_117_64, at_117_65, at_117_66, Go_istore_4, ab_put_int_4, at_117_68, at_117_69, at_117_72, at_117_75, at_117_76, at_117_77, at_117_78, at_117_79, Go_iastore, sh_seti, at_117_80, Go_iload_4, at_117_82, Nat.reduceAdd, Nat.reduceMul, Nat.reduceLeDiff, Nat.reduceSub, decide_true, decide_false, Bool.toNat_true, Bool.toNat_false, not_true_eq_false, not_false_eq_true, ite_not, true_and, and_true, if_true, if_false, ↓reduceIte, Bool.or_true, Bool.true_or, Bool.or_false, pr_0 hp, pf_11 hp, pr_16 hp, pn_16 hp, e8, pf_15 hp, pr_20 hp, pn_20 hp, e12, orow hp, orow_r hp, orow_n hp, s0, s2, c1, s3', e12n, Bool.true_eq_false, s09]
            have hpc := PC_set (m := m) hr hn hi ha0
            have hpg := PG_set (f := 14) (k := 6 * n + i) (v := m) (Or.inr rfl) (o := p + 21 + n) (j := i) (x := nI m) (by omega) hr hg
            rw [p73] at hpc hpg ⊢
            obtain ⟨k1, k2⟩ := SC_a (x := nI m) ok hs (by omega) (by omega) hpc hpg
            exact K _ _ k1 k2
      · rw [if_neg hx, il_out hx] at K
        have K0 := K _ _ hs Fr_r
        simp (disch := first | omega | assumption | exact own_117 | exact rt_117 | exact pr_0 (by assumption) | exact sr_73 | exact sr_4 | exact q_lt1 (hb _ _) | exact bt_lt _ | fail) only [own_117, rt_117, ab_kl_n, ab_kl_i, ab_kl_r, ab_kl_l, at_117_0, Go_aload_0, at_117_1, Go_getf, fl_7_62, gg_7_9, sh_ref, sh_rf, sr_0, at_117_4, Go_iload_1, at_117_5, Go_iload_2, at_117_6, cl_7_169, cat_n, cat_i, cat_r, cat_l, tl_i, tl_l, tl_n, sh_same, jt_117_9, q_le, q_lt, q_eq, n_leT, n_leF, n_ltT, n_ltF, n_eqF, n_b0, at_117_12, at_117_13, at_117_16, Go_iload_3, at_117_17, cl_7_148, jt_117_20, at_117_23, Go_iconst, kc_m1, at_117_24, Go_reti, at_117_25, at_117_26, at_117_29, fl_7_151, gg_3_11, at_117_32, at_117_33, Go_iaload, sh_ln, q_in, q_cl, at_117_34, Go_bipush, kb_8, jt_117_36, at_117_39, at_117_40, at_117_43, at_117_44, at_117_45, at_117_46, cl_7_248, jt_117_49, at_117_52, kb_m2, at_117_54, at_117_55, at_117_56, at_117_59, fl_7_173, gg_3_15, at_117_62, at_117_63, Go_aaload, at_117_64, at_117_65, at_117_66, Go_istore_4, ab_put_int_4, at_117_68, at_117_69, at_117_72, at_117_75, at_117_76, at_117_77, at_117_78, at_117_79, Go_iastore, sh_seti, at_117_80, Go_iload_4, at_117_82, Nat.reduceAdd, Nat.reduceMul, Nat.reduceLeDiff, Nat.reduceSub, decide_true, decide_false, Bool.toNat_true, Bool.toNat_false, not_true_eq_false, not_false_eq_true, ite_not, true_and, and_true, if_true, if_false, ↓reduceIte, Bool.or_true, Bool.true_or, Bool.or_false, pr_0 hp, pf_11 hp, pr_16 hp, pn_16 hp, e8, pf_15 hp, pr_20 hp, pn_20 hp, e12, orow hp, orow_r hp, orow_n hp, s0, s2, hx, s09]
        exact K0
    · rw [if_neg hx, il_out hx] at K
      have K0 := K _ _ hs Fr_r
      simp (disch := first | omega | assumption | exact own_117 | exact rt_117 | exact pr_0 (by assumption) | exact sr_73 | exact sr_4 | exact q_lt1 (hb _ _) | exact bt_lt _ | fail) only [own_117, rt_117, ab_kl_n, ab_kl_i, ab_kl_r, ab_kl_l, at_117_0, Go_aload_0, at_117_1, Go_getf, fl_7_62, gg_7_9, sh_ref, sh_rf, sr_0, at_117_4, Go_iload_1, at_117_5, Go_iload_2, at_117_6, cl_7_169, cat_n, cat_i, cat_r, cat_l, tl_i, tl_l, tl_n, sh_same, jt_117_9, q_le, q_lt, q_eq, n_leT, n_leF, n_ltT, n_ltF, n_eqF, n_b0, at_117_12, at_117_13, at_117_16, Go_iload_3, at_117_17, cl_7_148, jt_117_20, at_117_23, Go_iconst, kc_m1, at_117_24, Go_reti, at_117_25, at_117_26, at_117_29, fl_7_151, gg_3_11, at_117_32, at_117_33, Go_iaload, sh_ln, q_in, q_cl, at_117_34, Go_bipush, kb_8, jt_117_36, at_117_39, at_117_40, at_117_43, at_117_44, at_117_45, at_117_46, cl_7_248, jt_117_49, at_117_52, kb_m2, at_117_54, at_117_55, at_117_56, at_117_59, fl_7_173, gg_3_15, at_117_62, at_117_63, Go_aaload, at_117_64, at_117_65, at_117_66, Go_istore_4, ab_put_int_4, at_117_68, at_117_69, at_117_72, at_117_75, at_117_76, at_117_77, at_117_78, at_117_79, Go_iastore, sh_seti, at_117_80, Go_iload_4, at_117_82, Nat.reduceAdd, Nat.reduceMul, Nat.reduceLeDiff, Nat.reduceSub, decide_true, decide_false, Bool.toNat_true, Bool.toNat_false, not_true_eq_false, not_false_eq_true, ite_not, true_and, and_true, if_true, if_false, ↓reduceIte, Bool.or_true, Bool.true_or, Bool.or_false, pr_0 hp, pf_11 hp, pr_16 hp, pn_16 hp, e8, pf_15 hp, pr_20 hp, pn_20 hp, e12, orow hp, orow_r hp, orow_n hp, s0, hx, s09]
      exact K0
  · rw [if_neg hx, il_out hx] at K
    have K0 := K _ _ hs Fr_r
    simp (disch := first | omega | assumption | exact own_117 | exact rt_117 | exact pr_0 (by assumption) | exact sr_73 | exact sr_4 | exact q_lt1 (hb _ _) | exact bt_lt _ | fail) only [own_117, rt_117, ab_kl_n, ab_kl_i, ab_kl_r, ab_kl_l, at_117_0, Go_aload_0, at_117_1, Go_getf, fl_7_62, gg_7_9, sh_ref, sh_rf, sr_0, at_117_4, Go_iload_1, at_117_5, Go_iload_2, at_117_6, cl_7_169, cat_n, cat_i, cat_r, cat_l, tl_i, tl_l, tl_n, sh_same, jt_117_9, q_le, q_lt, q_eq, n_leT, n_leF, n_ltT, n_ltF, n_eqF, n_b0, at_117_12, at_117_13, at_117_16, Go_iload_3, at_117_17, cl_7_148, jt_117_20, at_117_23, Go_iconst, kc_m1, at_117_24, Go_reti, at_117_25, at_117_26, at_117_29, fl_7_151, gg_3_11, at_117_32, at_117_33, Go_iaload, sh_ln, q_in, q_cl, at_117_34, Go_bipush, kb_8, jt_117_36, at_117_39, at_117_40, at_117_43, at_117_44, at_117_45, at_117_46, cl_7_248, jt_117_49, at_117_52, kb_m2, at_117_54, at_117_55, at_117_56, at_117_59, fl_7_173, gg_3_15, at_117_62, at_117_63, Go_aaload, at_117_64, at_117_65, at_117_66, Go_istore_4, ab_put_int_4, at_117_68, at_117_69, at_117_72, at_117_75, at_117_76, at_117_77, at_117_78, at_117_79, Go_iastore, sh_seti, at_117_80, Go_iload_4, at_117_82, Nat.reduceAdd, Nat.reduceMul, Nat.reduceLeDiff, Nat.reduceSub, decide_true, decide_false, Bool.toNat_true, Bool.toNat_false, not_true_eq_false, not_false_eq_true, ite_not, true_and, and_true, if_true, if_false, ↓reduceIte, Bool.or_true, Bool.true_or, Bool.or_false, pr_0 hp, pf_11 hp, pr_16 hp, pn_16 hp, e8, pf_15 hp, pr_20 hp, pn_20 hp, e12, orow hp, orow_r hp, orow_n hp, s1, s09]
    exact K0
end CSE
