/-! THE LAW, from its entry: the making, the rows -/
theorem ab_step_sc {f : Nat → List Value → ab_H → Option (Option Value × ab_H)} {xs : List Int32} {own len pc : Nat} {ini : Bool} {ret : Option FieldType} {ins : Instr} {L : ab_L} {S : List Value} {h : ab_H} {r : ab_F ⊕ (Option Value × ab_H)} (hs : ab_step f own ini ret none ins len pc L S h = some r) : ab_step f own ini ret (some xs) ins len pc L S h = some r := by
  cases ins with
  | iaload =>
    rcases S with _ | ⟨v, _ | ⟨u, S⟩⟩
    · exact absurd (hs : (none : ab_R) = some r) (fun z => nomatch z)
    · cases v <;> exact absurd (hs : (none : ab_R) = some r) (fun z => nomatch z)
    · cases v <;> cases u <;> first | exact absurd (hs : (none : ab_R) = some r) (fun z => nomatch z) | skip
      rename_i i o
      by_cases c : o = 2000
      · exact absurd ((if_pos c).symm.trans hs : (none : ab_R) = some r) (fun z => nomatch z)
      · exact (if_neg c).trans ((if_neg c).symm.trans hs)
  | arraylength =>
    rcases S with _ | ⟨u, S⟩
    · exact absurd (hs : (none : ab_R) = some r) (fun z => nomatch z)
    · cases u <;> first | exact absurd (hs : (none : ab_R) = some r) (fun z => nomatch z) | skip
      rename_i o
      by_cases c : o = 2000
      · exact absurd ((if_pos c).symm.trans hs : (none : ab_R) = some r) (fun z => nomatch z)
      · exact absurd ((if_neg c).symm.trans hs : (none : ab_R) = some r) (fun z => nomatch z)
  | _ => exact hs
theorem ab_loop_sc {f g : Nat → List Value → ab_H → Option (Option Value × ab_H)} (hfg : ab_leC f g) {xs : List Int32} {code : Nat → Option (Instr × Nat)} {own : Nat} {ini : Bool} {ret : Option FieldType} {x : Option Value × ab_H} : ∀ (n : Nat) (F : ab_F), ab_loop f code own ini ret none n F = some x → ab_loop g code own ini ret (some xs) n F = some x := by
  intro n
  induction n with
  | zero => intro F h; cases h
  | succ n ih =>
    intro F h
    obtain ⟨pc, L, S, hh⟩ := F
    unfold ab_loop at h ⊢
    cases hc : code pc with
    | none => rw [hc] at h; cases h
    | some q =>
      obtain ⟨ins, len⟩ := q
      rw [hc] at h
      simp only at h ⊢
      cases hst : ab_step f own ini ret none ins len pc L S hh with
      | none => rw [hst] at h; cases h
      | some y =>
        rw [hst] at h
        rw [ab_step_sc (ab_step_le hfg hst)]
        cases y with
        | inl F => exact ih F h
        | inr r => exact h
theorem ab_ex_sc (xs : List Int32) : ∀ n, ab_leC (ab_ex none n) (ab_ex (some xs) n) := by
  intro n
  induction n with
  | zero => intro mi vs h x hx; cases hx
  | succ n ih =>
    intro mi vs h x hx
    unfold ab_ex at hx ⊢
    split at hx
    · rename_i hc
      rw [if_pos hc]
      exact ab_loop_sc ih n _ hx
    · cases hx
def lm_h0 : ab_H := ([], fun _ _ => 0, fun _ _ => 0)
def lm_n1 : ab_H := ab_new lm_h0 7 (ab_N 7) (List.replicate (ab_N 7) none)
def lm_r1 : Option (Option Value × ab_H) := ab_ex none 2000 95 [.ref 0] lm_n1
def lm_h1 : ab_H := (lm_r1.getD (none, lm_h0)).2
theorem lm_s1 : lm_r1.map (fun x => x.1) = some none := by decide +kernel
theorem lm_x1 : lm_h1.1 = SH := by decide +kernel
theorem lm_e1 : lm_r1 = some (none, lm_h1) := by
  have h := lm_s1
  unfold lm_h1
  cases hr : lm_r1 with
  | none => rw [hr] at h; cases h
  | some x =>
    obtain ⟨a, b⟩ := x
    rw [hr] at h
    cases h
    rfl
def lm_I : Nat → Nat → Int32 := lm_h1.2.1
def lm_J : Nat → Nat → Int64 := lm_h1.2.2
theorem lm_h1_eq : lm_h1 = (SH ++ [], lm_I, lm_J) := by
  rw [List.append_nil]
  exact lm_eq3 lm_x1
theorem lm_c1 : lm_I 73 0 = 0 ∧ lm_I 73 1 = 0 ∧ lm_I 71 0 = 0 ∧ lm_I 71 1 = 0 ∧ lm_I 2 1 = 0 ∧ lm_I 1 2 = 0 ∧ lm_I 49 2 = 0 ∧ lm_I 49 8 = -4 ∧ lm_I 63 0 = -4 ∧ lm_I 63 1 = -4 ∧ lm_I 63 2 = -4 ∧ lm_I 63 3 = -4 ∧ lm_I 62 1 = 0 := by decide +kernel
theorem lm_SC : SC s0 lm_I lm_J := by
  obtain ⟨a1, a2, a3, a4, a5, a6, a7, a8, b0, b1, b2, b3, a9⟩ := lm_c1
  refine ⟨⟨⟨a1, a2, fun b hb => absurd hb (Nat.not_lt_zero b), fun b hb => absurd hb (Nat.not_lt_zero b), fun b hb => absurd hb (Nat.not_lt_zero b), fun b hb => absurd hb (Nat.not_lt_zero b), fun b hb => absurd hb (Nat.not_lt_zero b), fun b hb => absurd hb (Nat.not_lt_zero b), fun b hb => absurd hb (Nat.not_lt_zero b), fun b hb => absurd hb (Nat.not_lt_zero b), fun b hb => absurd hb (Nat.not_lt_zero b), fun b hb => absurd hb (Nat.not_lt_zero b), fun b i hb => absurd hb (Nat.not_lt_zero b)⟩, fun b hb => absurd hb (Nat.not_lt_zero b), fun b i hb => absurd hb (Nat.not_lt_zero b), fun b hb => absurd hb (Nat.not_lt_zero b)⟩, fun k hk => ⟨?_, fun A h => ?_⟩, ⟨a5, fun i hi => absurd hi (Nat.not_lt_zero i)⟩, a6, ⟨a7, a8, fun v t g r h => ?_⟩, fun k hk => ⟨fun _ => ?_, fun l n h => ?_⟩, a9⟩
  · obtain rfl | rfl : k = 0 ∨ k = 1 := by omega
    · exact a3
    · exact a4
  · cases h
  · cases h
  · obtain rfl | rfl | rfl | rfl : k = 0 ∨ k = 1 ∨ k = 2 ∨ k = 3 := by omega
    · exact b0
    · exact b1
    · exact b2
    · exact b3
  · cases h
theorem tS_nil : SC (tS []) lm_I lm_J := lm_SC
def FZ (k : Nat) (I : Nat → Nat → Int32) (J : Nat → Nat → Int64) : Prop := (∀ o j, o < 199 → I o j = lm_I o j ∧ J o j = lm_J o j) ∧ ∀ o j, 199 ≤ o → o < 199 + k → I o j = 0 ∧ J o j = 0
theorem FZ_new {k n : Nat} (hn : n = k) {I : Nat → Nat → Int32} {J : Nat → Nat → Int64} (h : FZ k I J) : FZ (k + 1) (fun o j => if o < 199 + n then I o j else 0) (fun o j => if o < 199 + n then J o j else 0) := by
  subst hn
  refine ⟨fun o j ho => ?_, fun o j h1 h2 => ?_⟩
  · dsimp only
    rw [if_pos (by omega), if_pos (by omega)]
    exact h.1 o j ho
  · dsimp only
    by_cases c : o < 199 + n
    · rw [if_pos c, if_pos c]
      exact h.2 o j h1 c
    · rw [if_neg c, if_neg c]
      exact ⟨rfl, rfl⟩
theorem lm_w1 : ab_nw 10 10 = some 7 := by decide +kernel
theorem lm_m1 : ab_ml 10 133 = some (95, 3) := by decide +kernel
theorem lm_o1 : ab_np 95 = 0 ∧ ab_ref lm_n1 0 (ab_own 95) = true ∧ ab_own 95 < 8 := by decide +kernel
theorem lm_g1 : ab_nx lm_n1 ≤ ab_nx lm_h1 ∧ ab_sl lm_n1 ≤ ab_sl lm_h1 := by decide +kernel
theorem lm_a1 : (([some (.ref 2000), none, none, none, none, none, none, none, none, none, none, none, none, none, none, none, none, none, none, none, none, none, none, none] : ab_L).all (fun v => (v.map (ab_ok (ab_nx lm_n1))).getD true) && ([.ref 0] : List Value).all (ab_ok (ab_nx lm_n1))) = true := by decide +kernel
theorem lm_a0 : (([some (.ref 2000), none, none, none, none, none, none, none, none, none, none, none, none, none, none, none, none, none, none, none, none, none, none, none] : ab_L).all (fun v => (v.map (ab_ok (ab_nx lm_h0))).getD true) && ([] : List Value).all (ab_ok (ab_nx lm_h0))) = true := by decide +kernel
theorem lm_spe {call : Nat → List Value → ab_H → Option (Option Value × ab_H)} {i mi pc b len : Nat} {xs : List Int32} {L : ab_L} {S : List Value} {h : ab_H} (hm : ab_ml 10 i = some (mi, 3)) (ho : ab_np mi = 0 ∧ ab_ref h b (ab_own mi) = true ∧ ab_own mi < 8) : ab_step call 10 false (y_rt 146) (some xs) (.invokespecial i) len pc L (.ref b :: S) h = ab_call call mi [.ref b] pc L S h := by
  show ab_spc call 10 i pc L (.ref b :: S) h = _
  unfold ab_spc
  rw [hm]
  exact (if_neg (by decide)).trans ((if_pos (Or.inl rfl)).trans (if_pos ho))
theorem lm_new {call : Nat → List Value → ab_H → Option (Option Value × ab_H)} {i ci pc len n : Nat} {xs : List Int32} {L : ab_L} {S : List Value} {h : ab_H} (hm : ab_nw 10 i = some ci) (hc : ci < 8) (hn : ab_nx h = n) (h9 : n < 1000) (ha : (L.all (fun v => (v.map (ab_ok (ab_nx h))).getD true) && S.all (ab_ok (ab_nx h))) = true) : ab_step call 10 false (y_rt 146) (some xs) (.new i) len pc L S h = some (.inl (pc + 3, L, .ref n :: S, ab_new h ci (ab_N ci) (List.replicate (ab_N ci) none))) := by
  subst hn
  unfold ab_step
  simp only [hm]
  exact if_pos ⟨hc, h9, ha⟩
theorem lm_slE {E : ab_Sh} {I : Nat → Nat → Int32} {J : Nat → Nat → Int64} : ab_sl (SH ++ E, I, J) = ab_sl (SH, I, J) + (E.map (fun x => x.2.1)).sum := by
  show ((SH ++ E).map (fun x => x.2.1)).sum = (SH.map (fun x => x.2.1)).sum + _
  rw [List.map_append, List.sum_append]
set_option maxRecDepth 4000 in
theorem lw_run {xs : List Int32} (hx : xs.length ≤ 260) : Ry xs 146 (0, some (.ref 2000) :: List.replicate 23 none, [], lm_h0) (fun r h => r = some (.int (nI 1)) ∧ ∃ I J, h = (SH ++ yE4, I, J)) := by
  rw [Ry_Gy]
  show Gy xs (ab_at 146 0) 146 0 [some (.ref 2000), none, none, none, none, none, none, none, none, none, none, none, none, none, none, none, none, none, none, none, none, none, none, none] [] lm_h0 _
  rw [at_146_0, Gy_next (fun call => lm_new lm_w1 (by decide) (n := 0) rfl (by decide) lm_a0)]
  rw [at_146_3, Gy_dup_ref, at_146_4, show ab_new lm_h0 7 (ab_N 7) (List.replicate (ab_N 7) none) = lm_n1 from rfl, Gy_callgen (fun call => lm_spe lm_m1 lm_o1)]
  refine ⟨by decide, 2000, none, lm_h1, ab_ex_sc xs 2000 _ _ _ _ lm_e1, Or.inr ⟨lm_g1.1, lm_g1.2, lm_a1⟩, ?_⟩
  rw [lm_h1_eq]
  have fz : FZ 0 lm_I lm_J := ⟨fun _ _ _ => ⟨rfl, rfl⟩, fun o j h1 h2 => absurd h2 (by omega)⟩
  generalize lm_I = I0 at fz ⊢
  generalize lm_J = J0 at fz ⊢
  simp (disch := first | omega | assumption | exact yrt_146 | fail) only [yrt_146, ab_kl_n, ab_kl_i, ab_kl_r, ab_kl_l, at_146_7, Gy_astore_1, ab_put_ref_1, Nat.reduceAdd, Nat.reduceMul, Nat.reduceLeDiff, Nat.reduceSub, decide_true, decide_false, Bool.toNat_true, Bool.toNat_false, not_true_eq_false, not_false_eq_true, ite_not, true_and, and_true, if_true, if_false, ↓reduceIte, Bool.or_true, Bool.true_or, Bool.or_false, tl_n]
  have eN0 : ab_nx (SH ++ (yE.take 0), I0, J0) = 199 := by rw [y_nx]; rfl
  show Gy xs (ab_at 146 8) 146 8 _ _ (SH ++ yE.take 0, I0, J0) _
  rw [at_146_8, Gy_iconst, kc_2, at_146_9, Gy_newi ⟨by decide, by decide, by rw [eN0]; decide, by rw [eN0]; decide⟩, eN0, y_new]
  have fz1 := FZ_new (n := (yE.take 0).length) (k := 0) rfl fz
  generalize hI1 : (fun o j => if o < 199 + (yE.take 0).length then I0 o j else 0) = I1 at fz1 ⊢
  generalize hJ1 : (fun o j => if o < 199 + (yE.take 0).length then J0 o j else 0) = J1 at fz1 ⊢
  clear fz
  have fz := fz1
  rw [show yE.take 0 ++ [(10, (nI 2).toNatClampNeg, [])] = yE.take 1 from rfl]
  simp (disch := first | omega | assumption | exact yrt_146 | fail) only [yrt_146, ab_kl_n, ab_kl_i, ab_kl_r, ab_kl_l, at_146_11, Gy_astore_2, ab_put_ref_2, Nat.reduceAdd, Nat.reduceMul, Nat.reduceLeDiff, Nat.reduceSub, decide_true, decide_false, Bool.toNat_true, Bool.toNat_false, not_true_eq_false, not_false_eq_true, ite_not, true_and, and_true, if_true, if_false, ↓reduceIte, Bool.or_true, Bool.true_or, Bool.or_false]
  have eN1 : ab_nx (SH ++ (yE.take 1), I1, J1) = 200 := by rw [y_nx]; rfl
  rw [at_146_12, Gy_bipush, kb_40, at_146_14, Gy_newi ⟨by decide, by decide, by rw [eN1]; decide, by rw [eN1]; decide⟩, eN1, y_new]
  have fz2 := FZ_new (n := (yE.take 1).length) (k := 1) rfl fz
  generalize hI2 : (fun o j => if o < 199 + (yE.take 1).length then I1 o j else 0) = I2 at fz2 ⊢
  generalize hJ2 : (fun o j => if o < 199 + (yE.take 1).length then J1 o j else 0) = J2 at fz2 ⊢
  clear fz
  have fz := fz2
  rw [show yE.take 1 ++ [(10, (nI 40).toNatClampNeg, [])] = yE.take 2 from rfl]
  simp (disch := first | omega | assumption | exact yrt_146 | fail) only [yrt_146, ab_kl_n, ab_kl_i, ab_kl_r, ab_kl_l, at_146_16, Gy_astore_3, ab_put_ref_3, Nat.reduceAdd, Nat.reduceMul, Nat.reduceLeDiff, Nat.reduceSub, decide_true, decide_false, Bool.toNat_true, Bool.toNat_false, not_true_eq_false, not_false_eq_true, ite_not, true_and, and_true, if_true, if_false, ↓reduceIte, Bool.or_true, Bool.true_or, Bool.or_false]
  have eN2 : ab_nx (SH ++ (yE.take 2), I2, J2) = 201 := by rw [y_nx]; rfl
  rw [at_146_17, Gy_bipush, kb_40, at_146_19, Gy_newi ⟨by decide, by decide, by rw [eN2]; decide, by rw [eN2]; decide⟩, eN2, y_new]
  have fz3 := FZ_new (n := (yE.take 2).length) (k := 2) rfl fz
  generalize hI3 : (fun o j => if o < 199 + (yE.take 2).length then I2 o j else 0) = I3 at fz3 ⊢
  generalize hJ3 : (fun o j => if o < 199 + (yE.take 2).length then J2 o j else 0) = J3 at fz3 ⊢
  clear fz
  have fz := fz3
  rw [show yE.take 2 ++ [(10, (nI 40).toNatClampNeg, [])] = yE.take 3 from rfl]
  simp (disch := first | omega | assumption | exact yrt_146 | fail) only [yrt_146, ab_kl_n, ab_kl_i, ab_kl_r, ab_kl_l, at_146_21, Gy_astore_4, ab_put_ref_4, Nat.reduceAdd, Nat.reduceMul, Nat.reduceLeDiff, Nat.reduceSub, decide_true, decide_false, Bool.toNat_true, Bool.toNat_false, not_true_eq_false, not_false_eq_true, ite_not, true_and, and_true, if_true, if_false, ↓reduceIte, Bool.or_true, Bool.true_or, Bool.or_false]
  have eN3 : ab_nx (SH ++ (yE.take 3), I3, J3) = 202 := by rw [y_nx]; rfl
  rw [at_146_23, Gy_bipush, kb_40, at_146_25, Gy_newi ⟨by decide, by decide, by rw [eN3]; decide, by rw [eN3]; decide⟩, eN3, y_new]
  have fz4 := FZ_new (n := (yE.take 3).length) (k := 3) rfl fz
  generalize hI4 : (fun o j => if o < 199 + (yE.take 3).length then I3 o j else 0) = I4 at fz4 ⊢
  generalize hJ4 : (fun o j => if o < 199 + (yE.take 3).length then J3 o j else 0) = J4 at fz4 ⊢
  clear fz
  have fz := fz4
  rw [show yE.take 3 ++ [(10, (nI 40).toNatClampNeg, [])] = yE.take 4 from rfl]
  simp (disch := first | omega | assumption | exact yrt_146 | fail) only [yrt_146, ab_kl_n, ab_kl_i, ab_kl_r, ab_kl_l, at_146_27, Gy_astore_5, ab_put_ref_5, Nat.reduceAdd, Nat.reduceMul, Nat.reduceLeDiff, Nat.reduceSub, decide_true, decide_false, Bool.toNat_true, Bool.toNat_false, not_true_eq_false, not_false_eq_true, ite_not, true_and, and_true, if_true, if_false, ↓reduceIte, Bool.or_true, Bool.true_or, Bool.or_false]
  have eN4 : ab_nx (SH ++ (yE.take 4), I4, J4) = 203 := by rw [y_nx]; rfl
  rw [at_146_29, Gy_bipush, kb_64, at_146_31, Gy_newi ⟨by decide, by decide, by rw [eN4]; decide, by rw [eN4]; decide⟩, eN4, y_new]
  have fz5 := FZ_new (n := (yE.take 4).length) (k := 4) rfl fz
  generalize hI5 : (fun o j => if o < 199 + (yE.take 4).length then I4 o j else 0) = I5 at fz5 ⊢
  generalize hJ5 : (fun o j => if o < 199 + (yE.take 4).length then J4 o j else 0) = J5 at fz5 ⊢
  clear fz
  have fz := fz5
  rw [show yE.take 4 ++ [(10, (nI 64).toNatClampNeg, [])] = yE.take 5 from rfl]
  simp (disch := first | omega | assumption | exact yrt_146 | fail) only [yrt_146, ab_kl_n, ab_kl_i, ab_kl_r, ab_kl_l, at_146_33, Gy_astore_6, ab_put_ref_6, Nat.reduceAdd, Nat.reduceMul, Nat.reduceLeDiff, Nat.reduceSub, decide_true, decide_false, Bool.toNat_true, Bool.toNat_false, not_true_eq_false, not_false_eq_true, ite_not, true_and, and_true, if_true, if_false, ↓reduceIte, Bool.or_true, Bool.true_or, Bool.or_false]
  have eN5 : ab_nx (SH ++ (yE.take 5), I5, J5) = 204 := by rw [y_nx]; rfl
  rw [at_146_35, Gy_bipush, kb_6, at_146_37, Gy_newi ⟨by decide, by decide, by rw [eN5]; decide, by rw [eN5]; decide⟩, eN5, y_new]
  have fz6 := FZ_new (n := (yE.take 5).length) (k := 5) rfl fz
  generalize hI6 : (fun o j => if o < 199 + (yE.take 5).length then I5 o j else 0) = I6 at fz6 ⊢
  generalize hJ6 : (fun o j => if o < 199 + (yE.take 5).length then J5 o j else 0) = J6 at fz6 ⊢
  clear fz
  have fz := fz6
  rw [show yE.take 5 ++ [(10, (nI 6).toNatClampNeg, [])] = yE.take 6 from rfl]
  simp (disch := first | omega | assumption | exact yrt_146 | fail) only [yrt_146, ab_kl_n, ab_kl_i, ab_kl_r, ab_kl_l, at_146_39, Gy_astore_7, ab_put_ref_7, Nat.reduceAdd, Nat.reduceMul, Nat.reduceLeDiff, Nat.reduceSub, decide_true, decide_false, Bool.toNat_true, Bool.toNat_false, not_true_eq_false, not_false_eq_true, ite_not, true_and, and_true, if_true, if_false, ↓reduceIte, Bool.or_true, Bool.true_or, Bool.or_false]
  have eN6 : ab_nx (SH ++ (yE.take 6), I6, J6) = 205 := by rw [y_nx]; rfl
  rw [at_146_41, Gy_bipush, kb_6, at_146_43, Gy_newi ⟨by decide, by decide, by rw [eN6]; decide, by rw [eN6]; decide⟩, eN6, y_new]
  have fz7 := FZ_new (n := (yE.take 6).length) (k := 6) rfl fz
  generalize hI7 : (fun o j => if o < 199 + (yE.take 6).length then I6 o j else 0) = I7 at fz7 ⊢
  generalize hJ7 : (fun o j => if o < 199 + (yE.take 6).length then J6 o j else 0) = J7 at fz7 ⊢
  clear fz
  have fz := fz7
  rw [show yE.take 6 ++ [(10, (nI 6).toNatClampNeg, [])] = yE.take 7 from rfl]
  simp (disch := first | omega | assumption | exact yrt_146 | fail) only [yrt_146, ab_kl_n, ab_kl_i, ab_kl_r, ab_kl_l, at_146_45, Gy_astore_8, ab_put_ref_8, Nat.reduceAdd, Nat.reduceMul, Nat.reduceLeDiff, Nat.reduceSub, decide_true, decide_false, Bool.toNat_true, Bool.toNat_false, not_true_eq_false, not_false_eq_true, ite_not, true_and, and_true, if_true, if_false, ↓reduceIte, Bool.or_true, Bool.true_or, Bool.or_false]
  have eN7 : ab_nx (SH ++ (yE.take 7), I7, J7) = 206 := by rw [y_nx]; rfl
  rw [at_146_47, Gy_iconst, kc_4, at_146_48, Gy_newi ⟨by decide, by decide, by rw [eN7]; decide, by rw [eN7]; decide⟩, eN7, y_new]
  have fz8 := FZ_new (n := (yE.take 7).length) (k := 7) rfl fz
  generalize hI8 : (fun o j => if o < 199 + (yE.take 7).length then I7 o j else 0) = I8 at fz8 ⊢
  generalize hJ8 : (fun o j => if o < 199 + (yE.take 7).length then J7 o j else 0) = J8 at fz8 ⊢
  clear fz
  have fz := fz8
  rw [show yE.take 7 ++ [(10, (nI 4).toNatClampNeg, [])] = yE.take 8 from rfl]
  simp (disch := first | omega | assumption | exact yrt_146 | fail) only [yrt_146, ab_kl_n, ab_kl_i, ab_kl_r, ab_kl_l, at_146_50, Gy_astore_9, ab_put_ref_9, Nat.reduceAdd, Nat.reduceMul, Nat.reduceLeDiff, Nat.reduceSub, decide_true, decide_false, Bool.toNat_true, Bool.toNat_false, not_true_eq_false, not_false_eq_true, ite_not, true_and, and_true, if_true, if_false, ↓reduceIte, Bool.or_true, Bool.true_or, Bool.or_false]
  have eN8 : ab_nx (SH ++ (yE.take 8), I8, J8) = 207 := by rw [y_nx]; rfl
  rw [at_146_52, Gy_bipush, kb_20, at_146_54, Gy_newl ⟨by decide, by decide, by rw [eN8]; decide, by rw [eN8]; decide⟩, eN8, y_new]
  have fz9 := FZ_new (n := (yE.take 8).length) (k := 8) rfl fz
  generalize hI9 : (fun o j => if o < 199 + (yE.take 8).length then I8 o j else 0) = I9 at fz9 ⊢
  generalize hJ9 : (fun o j => if o < 199 + (yE.take 8).length then J8 o j else 0) = J9 at fz9 ⊢
  clear fz
  have fz := fz9
  rw [show yE.take 8 ++ [(11, (nI 20).toNatClampNeg, [])] = yE.take 9 from rfl]
  simp (disch := first | omega | assumption | exact yrt_146 | fail) only [yrt_146, ab_kl_n, ab_kl_i, ab_kl_r, ab_kl_l, at_146_56, Gy_astore_10, ab_put_ref_10, Nat.reduceAdd, Nat.reduceMul, Nat.reduceLeDiff, Nat.reduceSub, decide_true, decide_false, Bool.toNat_true, Bool.toNat_false, not_true_eq_false, not_false_eq_true, ite_not, true_and, and_true, if_true, if_false, ↓reduceIte, Bool.or_true, Bool.true_or, Bool.or_false]
  have eN9 : ab_nx (SH ++ yE.take 9, I9, J9) = 208 := by rw [y_nx]; rfl
  have okr : ∀ x, x < 208 ∨ 1000 ≤ x → ab_ok (ab_nx (SH ++ yE.take 9, I9, J9)) (.ref x) = true := fun x hx => by
    rw [eN9]
    unfold ab_ok
    rw [Bool.or_eq_true, decide_eq_true_eq, decide_eq_true_eq]
    exact hx
  have sc : SC (tS []) I9 J9 := SC_fr (tS_ok (L := []) (by decide) (fun x hx => absurd hx List.not_mem_nil)) ⟨fun o j ho => (fz.1 o j ho).1, fun o j ho => (fz.1 o j ho).2⟩ tS_nil
  simp (disch := first | omega | assumption | exact yrt_146 | fail) only [yrt_146, ab_kl_n, ab_kl_i, ab_kl_r, ab_kl_l, at_146_58, Gy_aload_1, at_146_59, Gy_aload_0, at_146_60, Gy_iconst, kc_0, at_146_61, Gy_aload_2, at_146_62, Gy_aload_3, at_146_63, Gy_aload_4, at_146_65, Gy_aload_5, at_146_67, Gy_aload_6, at_146_69, Gy_aload_7, Nat.reduceAdd, Nat.reduceMul, Nat.reduceLeDiff, Nat.reduceSub, decide_true, decide_false, Bool.toNat_true, Bool.toNat_false, not_true_eq_false, not_false_eq_true, ite_not, true_and, and_true, if_true, if_false, ↓reduceIte, Bool.or_true, Bool.true_or, Bool.or_false]
  rw [at_146_71, cy_134 (okr 0 (by decide)) (okr 2000 (by decide)) (okr 199 (by decide)) (okr 200 (by decide)) (okr 201 (by decide)) (okr 202 (by decide)) (okr 203 (by decide)) (okr 204 (by decide))]
  refine ⟨by decide, y_program hx sc fun I J s pr s1 fr => ⟨Or.inr ⟨?_, ?_, ?_⟩, ?_⟩⟩
  · rw [y_nx, y_nx]
    decide
  · rw [lm_slE, lm_slE]
    exact Nat.add_le_add_left (by decide) _
  · rw [eN9]
    decide
  · simp (disch := first | omega | assumption | exact yrt_146 | fail) only [yrt_146, ab_kl_n, ab_kl_i, ab_kl_r, ab_kl_l, jy_146_74, q_le, q_lt, q_eq, n_leT, n_leF, n_ltT, n_ltF, n_eqF, n_b0, Nat.reduceAdd, Nat.reduceMul, Nat.reduceLeDiff, Nat.reduceSub, decide_true, decide_false, Bool.toNat_true, Bool.toNat_false, not_true_eq_false, not_false_eq_true, ite_not, true_and, and_true, if_true, if_false, ↓reduceIte, Bool.or_true, Bool.true_or, Bool.or_false, tl_i]
    refine f_turns hx pr s1 ⟨?_, ?_, ?_⟩ fun I J => ⟨rfl, I, J, rfl⟩
    · rw [(fr 205 0 (by decide) (by decide)).1]
      exact (fz.2 205 0 (by decide) (by decide)).1
    · rw [(fr 206 0 (by decide) (by decide)).1]
      exact (fz.2 206 0 (by decide) (by decide)).1
    · rw [(fr 207 0 (by decide) (by decide)).2]
      exact (fz.2 207 0 (by decide) (by decide)).2
