/-! THE LAW'S PROGRAM: from its entry -/
section PRO
variable {xs : List Int32} {Q : Option Value → ab_H → Prop} {I : Nat → Nat → Int32} {J : Nat → Nat → Int64}
theorem y_program (hx : xs.length ≤ 260) (h : SC (tS []) I J) (K : ∀ I' J' s, PRG s → SC s I' J' → (∀ o k, 204 < o → o < 208 → I' o k = I o k ∧ J' o k = J o k) → Q (some (.int (nI 1))) (SH ++ yE, I', J')) :
    Ey xs 145 [.ref 0, .ref 2000, .int (nI 0), .ref 199, .ref 200, .ref 201, .ref 202, .ref 203, .ref 204] (SH ++ yE.take 9, I, J) Q := by
  have hs : pt (cellv xs 0) 4 < 4 := pt_lt (by decide)
  have e9 : (yE.take 9).length = 9 := rfl
  have eN : ab_nx (SH ++ yE.take 9, I, J) = 208 := by rw [y_nx, e9]
  rw [ey_145, at_145_0, Gy_iconst, kc_1, at_145_1, Gy_newi ⟨by decide, by decide, by rw [eN]; decide, by rw [eN]; decide⟩, eN, y_new, e9]
  generalize hI : (fun o k => if o < 199 + 9 then I o k else 0) = I1
  generalize hJ : (fun o k => if o < 199 + 9 then J o k else 0) = J1
  have eE : yE.take 9 ++ [(10, (nI 1).toNatClampNeg, [])] = yE := rfl
  rw [eE]
  have fr : ∀ o k, o < 208 → I1 o k = I o k ∧ J1 o k = J o k := by
    intro o k ho
    rw [← hI, ← hJ]
    exact ⟨if_pos ho, if_pos ho⟩
  generalize hsh : pt (cellv xs 0) 4 = sh at hs
  have hs6 : (0 : Nat) < 6 := by decide
  simp (disch := first | omega | assumption | exact yrt_145 | exact y_ok yE_ok (by decide) | fail) only [yrt_145, ab_kl_n, ab_kl_i, ab_kl_r, ab_kl_l, at_145_3, Gy_astore_9, ab_put_ref_9, at_145_5, Gy_aload_3, at_145_6, Gy_iconst, kc_0, at_145_7, Gy_aload_1, at_145_8, Gy_iload_2, at_145_9, cy_73, cat_n, cat_i, cat_r, cat_l, tl_i, tl_l, tl_n, y_sh, y_shh, at_145_12, kc_4, at_145_13, cy_69, at_145_16, Gy_iastore, q_in, q_cl, y_seti, at_145_17, at_145_18, kc_1, at_145_19, at_145_20, at_145_21, at_145_22, at_145_23, Gy_iaload, at_145_24, at_145_25, at_145_26, cy_53, at_145_29, Gy_istore_10, ab_put_int_10, at_145_31, at_145_32, Gy_istore_11, ab_put_int_11, Nat.reduceAdd, Nat.reduceMul, Nat.reduceLeDiff, Nat.reduceSub, decide_true, decide_false, Bool.toNat_true, Bool.toNat_false, not_true_eq_false, not_false_eq_true, ite_not, true_and, and_true, if_true, if_false, ↓reduceIte, Bool.or_true, Bool.true_or, Bool.or_false, ry_199 yE_ok, ny_199 yE_ok, up_r, Nat.reduceEqDiff, false_and, and_false, y_cell hx, y_part, hsh, y_shape hs]
  have nb6 := (sh_nb sh hs).2
  have nb0 := (sh_nb sh hs).1
  refine y_p1 (I0 := I1) (nb := shT sh 0 0) hx hs rfl none none none (fun I2 w12 w13 w14 w15 p1 f2 => ?_) _ 0 _ none none none none (Nat.zero_add _) ⟨?_, ?_, fun c i hc _ => absurd hc (Nat.not_lt_zero c), fun i hi => absurd hi (Nat.not_lt_zero i)⟩ (FA_up (by decide) (FA_up (by decide) (fun _ _ _ => rfl)))
  · have n20 := yst_le (xs := xs) hs
    have hq : ∀ c i, c < shT sh 0 0 → i < yph xs sh c + yop xs sh c → (I2 201 (yst xs sh c + i)).toNatClampNeg = c ∧ decide ((I2 200 (yst xs sh c + i)).toNatClampNeg = 7) = decide (i < yph xs sh c) := by
      intro c i hc hi
      obtain ⟨a, b⟩ := p1.2.2.1 c i hc hi
      rw [a, b, nI_clamp (by omega)]
      refine ⟨rfl, ?_⟩
      by_cases z : i < yph xs sh c
      · rw [if_pos z]; simp [z, nI_clamp]
      · rw [if_neg z]; simp [z, nI_clamp]
    have h00 := (hq 0 0 nb0 (by have := (yop_le (xs := xs) (b := 0) hs).2; omega)).1
    have hN0 : 0 < yst xs sh (shT sh 0 0) := by
      have := yst_mono (xs := xs) (sh := sh) nb0
      have := (yop_le (xs := xs) (b := 0) hs).2
      omega
    have h00 : (I2 201 0).toNatClampNeg = 0 := h00
    simp (disch := first | omega | assumption | exact yrt_145 | fail) only [yrt_145, ab_kl_n, ab_kl_i, ab_kl_r, ab_kl_l, at_145_171, Gy_iconst, kc_0, at_145_172, Gy_istore_11, ab_put_int_11, Nat.reduceAdd, Nat.reduceMul, Nat.reduceLeDiff, Nat.reduceSub, decide_true, decide_false, Bool.toNat_true, Bool.toNat_false, not_true_eq_false, not_false_eq_true, ite_not, true_and, and_true, if_true, if_false, ↓reduceIte, Bool.or_true, Bool.true_or, Bool.or_false]
    refine y_p2 (I0 := I1) (q := fun n => (I2 201 n).toNatClampNeg) (fi := fun n => decide ((I2 200 n).toNatClampNeg = 7)) (N := yst xs sh (shT sh 0 0)) hx hs n20 (fun n hn hf i hi => ⟨0, hN0, ?_⟩) w14 w15 (fun I3 w12 w13 p2 f3 => ?_) _ 0 I2 w12 w13 (Nat.zero_add _) ⟨⟨p1.1, ?_, fun i hi => ?_, fun i hi => ?_⟩, fun m hm => ?_, fun m _ hm hf => ?_, fun m hm => absurd hm (Nat.not_lt_zero m)⟩ f2
    · obtain ⟨c, j, a1, a2, a3⟩ := yst_at _ n hn
      obtain ⟨b1, b2⟩ := hq c j a1 a2
      rw [← a3] at b1 b2
      show (shT sh (shT sh (I2 201 n).toNatClampNeg (6 + i)) 4).testBit (I2 201 0).toNatClampNeg = true
      rw [h00, b1]
      have hf : decide ((I2 200 n).toNatClampNeg = 7) = true := hf
      rw [b2, decide_eq_true_eq] at hf
      have h5 : shT sh c 5 = 2 := by
        by_cases z : shT sh c 5 = 2
        · exact z
        · have := (yph_le (xs := xs) (sh := sh) (b := c)).2 z
          omega
      have := ((sh_pn sh hs c a1).2 h5 i hi).1
      exact (sh_d64 sh hs _ this).2.2
    · simp (disch := first | omega | assumption | exact yrt_145 | fail) only [yrt_145, ab_kl_n, ab_kl_i, ab_kl_r, ab_kl_l, at_145_414, Gy_iconst, kc_0, at_145_415, Gy_istore_11, ab_put_int_11, Nat.reduceAdd, Nat.reduceMul, Nat.reduceLeDiff, Nat.reduceSub, decide_true, decide_false, Bool.toNat_true, Bool.toNat_false, not_true_eq_false, not_false_eq_true, ite_not, true_and, and_true, if_true, if_false, ↓reduceIte, Bool.or_true, Bool.true_or, Bool.or_false]
      refine y_p3 (I0 := I1) (fi := fun n => decide ((I2 200 n).toNatClampNeg = 7)) hx hs n20 nb6 (fun b hb => ⟨0, hN0, ?_⟩) w12 w13 w14 w15 (fun I4 p3 f4 => ?_) _ 0 I3 (Nat.zero_add _) ⟨p2, fun c hc => absurd hc (Nat.not_lt_zero c)⟩ f3
      · show (shT sh b 4).testBit (I2 201 0).toNatClampNeg = true
        rw [h00]
        exact (sh_d64 sh hs b hb).2.2
      · obtain ⟨g, hX⟩ := yX_ok hs rfl rfl hq p3
        simp (disch := first | omega | assumption | exact yrt_145 | fail) only [yrt_145, ab_kl_n, ab_kl_i, ab_kl_r, ab_kl_l, at_145_454, Gy_iconst, kc_0, at_145_455, Gy_istore_11, ab_put_int_11, at_145_457, at_145_458, Gy_istore_12, ab_put_int_12, Nat.reduceAdd, Nat.reduceMul, Nat.reduceLeDiff, Nat.reduceSub, decide_true, decide_false, Bool.toNat_true, Bool.toNat_false, not_true_eq_false, not_false_eq_true, ite_not, true_and, and_true, if_true, if_false, ↓reduceIte, Bool.or_true, Bool.true_or, Bool.or_false]
        refine y_blk (X := yX xs sh (shT sh 0 0) (fun n => (I2 201 n).toNatClampNeg) I4) (I3 := I4) (J3 := J1) g hX w14 w15 (fun I5 J5 w11 w12 w13 f5 s5 => ?_) _ 0 I4 J1 w13 (Nat.zero_add _) FY_r ?_
        · refine y_pend g hX f5 s5 _ _ _ _ _ fun I6 J6 s pr s6 f6 => ?_
          refine K I6 J6 s pr s6 fun o k h1 h2 => ?_
          have a := f6.1 o k ⟨by omega, by omega⟩
          have b := f6.2 o k ⟨by omega, by omega⟩
          rw [a, b, f4 o k (Or.inr h1)]
          exact fr o k h2
        · refine SC_fr (tS_ok (L := []) (by decide) (fun x hx => absurd hx List.not_mem_nil)) ⟨fun o k ho => ?_, fun o k ho => (fr o k (by omega)).2⟩ h
          rw [f4 o k (Or.inl ho)]
          exact (fr o k (by omega)).1
    · rw [p1.2.1, Nat.add_zero]
    · obtain ⟨c, j, a1, a2, a3⟩ := yst_at _ i hi
      have b1 := (p1.2.2.1 c j a1 a2).1
      rw [← a3] at b1
      unfold kI
      rw [b1]
      split
      · exact ⟨by rw [nI_clamp (by decide)], by rw [nI_clamp (by decide)]; decide⟩
      · exact ⟨by rw [nI_clamp (by decide)], by rw [nI_clamp (by decide)]; decide⟩
    · obtain ⟨c, j, a1, a2, a3⟩ := yst_at _ i hi
      have b1 := (p1.2.2.1 c j a1 a2).2
      rw [← a3] at b1
      show I2 201 i = nI (I2 201 i).toNatClampNeg ∧ (I2 201 i).toNatClampNeg < 6
      rw [b1, nI_clamp (by omega)]
      exact ⟨rfl, by omega⟩
    · obtain ⟨c, j, a1, a2, a3⟩ := yst_at _ m hm
      have b1 := (p1.2.2.1 c j a1 a2).1
      rw [← a3] at b1
      show kI I2 m < 8 ∧ (decide (kI I2 m = 7) = true ↔ kI I2 m = 7)
      refine ⟨?_, decide_eq_true_iff⟩
      unfold kI
      rw [b1]
      split
      · rw [nI_clamp (by decide)]; decide
      · rw [nI_clamp (by decide)]; decide
    · obtain ⟨c, j, a1, a2, a3⟩ := yst_at _ m hm
      have b1 := (p1.2.2.1 c j a1 a2).1
      rw [← a3] at b1
      have hf : decide (kI I2 m = 7) = false := hf
      rw [decide_eq_false_iff_not] at hf
      unfold kI at hf ⊢
      rw [b1] at hf ⊢
      by_cases z : j < yph xs sh c
      · rw [if_pos z, nI_clamp (by decide)] at hf; exact absurd rfl hf
      · rw [if_neg z, nI_clamp (by decide)]
  · simp [up_r]
  · simp [up_r]; rfl
end PRO
