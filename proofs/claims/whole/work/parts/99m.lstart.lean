/-! THE LAW, from its entry to its end, in the abstract machine -/
theorem lm_nx1 : ab_nx lm_h1 = 199 := lm_x1
theorem lm_g1 : ab_nx lm_n1 ≤ ab_nx lm_h1 ∧ ab_sl lm_n1 ≤ ab_sl lm_h1 := by decide +kernel
theorem lm_g2 : ab_nx lm_n2 ≤ ab_nx lm_h2 ∧ ab_sl lm_n2 ≤ ab_sl lm_h2 := by decide +kernel
theorem lm_a1 : (([some (.ref 2000), none, none, none] : ab_L).all (fun v => (v.map (ab_ok (ab_nx lm_n1))).getD true) && ([.ref 0] : List Value).all (ab_ok (ab_nx lm_n1))) = true := by decide +kernel
theorem lm_a2 : (([some (.ref 2000), some (.ref 0), none, none] : ab_L).all (fun v => (v.map (ab_ok (ab_nx lm_n2))).getD true) && ([.ref 199] : List Value).all (ab_ok (ab_nx lm_n2))) = true := by decide +kernel
theorem lm_a3 : (([some (.ref 2000), some (.ref 0), none, none] : ab_L).all (fun v => (v.map (ab_ok (ab_nx lm_h1))).getD true) && ([] : List Value).all (ab_ok (ab_nx lm_h1))) = true := by
  rw [lm_nx1]
  decide
theorem lm_w1 : ab_nw 10 7 = some 7 := by decide +kernel
theorem lm_w2 : ab_nw 10 10 = some 8 := by decide +kernel
theorem lm_m1 : ab_ml 10 9 = some (95, 3) := by decide +kernel
theorem lm_m2 : ab_ml 10 12 = some (132, 3) := by decide +kernel
theorem lm_o1 : ab_np 95 = 0 ∧ ab_ref lm_n1 0 (ab_own 95) = true ∧ ab_own 95 < 9 := by decide +kernel
theorem lm_o2 : ab_np 132 = 0 ∧ ab_ref lm_n2 199 (ab_own 132) = true ∧ ab_own 132 < 9 := by decide +kernel
theorem lm_spc {call : Nat → List Value → ab_H → Option (Option Value × ab_H)} {i mi pc b : Nat} {L : ab_L} {S : List Value} {h : ab_H} (hm : ab_ml 10 i = some (mi, 3)) (ho : ab_np mi = 0 ∧ ab_ref h b (ab_own mi) = true ∧ ab_own mi < 9) : ab_spc call 10 i pc L (.ref b :: S) h = ab_call call mi [.ref b] pc L S h := by
  unfold ab_spc
  rw [hm]
  exact (if_neg (by decide)).trans ((if_pos (Or.inl rfl)).trans (if_pos ho))
theorem lm_spe {call : Nat → List Value → ab_H → Option (Option Value × ab_H)} {i mi pc b len : Nat} {xs : List Int32} {L : ab_L} {S : List Value} {h : ab_H} (hm : ab_ml 10 i = some (mi, 3)) (ho : ab_np mi = 0 ∧ ab_ref h b (ab_own mi) = true ∧ ab_own mi < 9) : ab_step call 10 false (some .boolean) (some xs) (.invokespecial i) len pc L (.ref b :: S) h = ab_call call mi [.ref b] pc L S h := by
  show ab_spc call 10 i pc L (.ref b :: S) h = _
  exact lm_spc hm ho
theorem lm_new {call : Nat → List Value → ab_H → Option (Option Value × ab_H)} {i ci pc len n : Nat} {xs : List Int32} {L : ab_L} {S : List Value} {h : ab_H} (hm : ab_nw 10 i = some ci) (hc : ci < 9) (hn : ab_nx h = n) (h9 : n < 1000) (ha : (L.all (fun v => (v.map (ab_ok (ab_nx h))).getD true) && S.all (ab_ok (ab_nx h))) = true) : ab_step call 10 false (some .boolean) (some xs) (.new i) len pc L S h = some (.inl (pc + 3, L, .ref n :: S, ab_new h ci (ab_N ci) (List.replicate (ab_N ci) none))) := by
  subst hn
  unfold ab_step
  simp only [hm]
  exact if_pos ⟨hc, h9, ha⟩
theorem lw_run {xs : List Int32} (hl : xs.length ≤ 3072) : LR xs (0, [some (.ref 2000), none, none, none], [], lm_h0) (fun r h => r = some (.int (nI 1)) ∧ ∃ I J, h = (SH, I, J)) := by
  refine LR_ste (show lw_cd 0 = some (.new 7, 3) from rfl) (F := (3, [some (.ref 2000), none, none, none], [.ref 0], lm_n1)) (fun call => lm_new lm_w1 (by decide) (n := 0) rfl (by decide) rfl) ?_
  refine LR_ste (show lw_cd 3 = some (.dup, 1) from rfl) (F := (4, [some (.ref 2000), none, none, none], [.ref 0, .ref 0], lm_n1)) (fun call => rfl) ?_
  refine LR_call (show lw_cd 4 = some (.invokespecial 9, 3) from rfl) (mj := 95) (vs := [.ref 0]) (rest := [.ref 0]) (fun call => lm_spe lm_m1 lm_o1) (by decide) ?_
  refine ⟨2000, none, lm_h1, lm_e1, Or.inr ⟨lm_g1.1, lm_g1.2, lm_a1⟩, ?_⟩
  refine LR_ste (show lw_cd 7 = some (.astore_n 1, 1) from rfl) (F := (8, [some (.ref 2000), some (.ref 0), none, none], [], lm_h1)) (fun call => rfl) ?_
  refine LR_ste (show lw_cd 8 = some (.new 10, 3) from rfl) (F := (11, [some (.ref 2000), some (.ref 0), none, none], [.ref 199], lm_n2)) (fun call => lm_new lm_w2 (by decide) lm_nx1 (by decide) lm_a3) ?_
  refine LR_ste (show lw_cd 11 = some (.dup, 1) from rfl) (F := (12, [some (.ref 2000), some (.ref 0), none, none], [.ref 199, .ref 199], lm_n2)) (fun call => rfl) ?_
  refine LR_call (show lw_cd 12 = some (.invokespecial 12, 3) from rfl) (mj := 132) (vs := [.ref 199]) (rest := [.ref 199]) (fun call => lm_spe lm_m2 lm_o2) (by decide) ?_
  refine ⟨2000, none, lm_h2, lm_e2, Or.inr ⟨lm_g2.1, lm_g2.2, lm_a2⟩, ?_⟩
  rw [lm_h2_eq]
  refine LR_ste (show lw_cd 15 = some (.astore_n 2, 1) from rfl) (F := (16, [some (.ref 2000), some (.ref 0), some (.ref 199), none], [], (SH, lm_I, lm_J))) (fun call => rfl) ?_
  refine LR_ste (show lw_cd 16 = some (.iconst 0, 1) from rfl) (F := (17, [some (.ref 2000), some (.ref 0), some (.ref 199), none], [.int (nI 0)], (SH, lm_I, lm_J))) (fun call => by rw [← kc_0]; rfl) ?_
  refine LR_ste (show lw_cd 17 = some (.istore_n 3, 1) from rfl) (F := (18, LL (nI 0), [], (SH, lm_I, lm_J))) (fun call => rfl) ?_
  exact lw_loop hl (fun I J => ⟨rfl, I, J, rfl⟩) xs.length 0 s0 lm_I lm_J (Nat.zero_le _) (Nat.sub_le _ _) s0_ok lm_SC lm_SM
