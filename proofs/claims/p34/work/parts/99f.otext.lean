/-! THE TEXT: what always holds -/
theorem rd2_DW {K V : Nat → Nat} {N : Nat} (hN : endK (K N)) (hN2 : N ≤ 320) : ∀ u (ib ph : Bool) (i : Nat) (A : DD) (j : Nat) (A' : DD), 321 ≤ u + i → i ≤ N → DW ib A → rd2 K V u ib ph i A = ((0, j), A') → DW false A' := by
  intro u
  induction u with
  | zero => intro ib ph i A j A' h hi; omega
  | succ u ih =>
    intro ib ph i A j A' h hi w e
    have e : (if ib = false ∧ K i = 24 then ((0, i), A) else match stp K V ib ph i A with
      | .inl x => (x, A)
      | .inr (ib', ph', i', A') => rd2 K V u ib' ph' i' A') = ((0, j), A') := e
    by_cases c : ib = false ∧ K i = 24
    · rw [if_pos c] at e
      have e1 := congrArg Prod.snd e
      have e1 : A = A' := e1
      rw [← e1, ← c.1]
      exact w
    · rw [if_neg c] at e
      cases hs : stp K V ib ph i A with
      | inl x =>
        rw [hs] at e
        obtain ⟨c', j'⟩ := x
        have := stp_5 hs
        have e : ((c', j'), A) = ((0, j), A') := e
        injection e with e1 e2
        injection e1 with e3 e4
        omega
      | inr x =>
        obtain ⟨ib', ph', i', A1⟩ := x
        rw [hs] at e
        obtain ⟨w', l1, l2⟩ := stp_ok hN hN2 w hi c hs
        exact ih ib' ph' i' A1 j A' (by omega) l2 w' e
theorem OS_text {s : VS} (ok : OS s) : OS (n_text s) := by
  obtain ⟨N, hN, hE⟩ := ex_end (tp := v_tp s) ok.2.2.1.1
  cases e : tR (kkT (v_tp s) (v_tl s)) (vvT (v_tp s) (v_tl s)) with
  | inl x =>
    have en : n_text s = (v_a s, v_im s, v_tp s, 0, x.1, v_ru s, v_sh s, v_ce s, v_tn s) := by unfold n_text; rw [e]
    rw [en]
    exact ⟨ok.1, ok.2.1, ⟨Nat.zero_le _, ok.2.2.1.2⟩, ok.2.2.2.1, ok.2.2.2.2⟩
  | inr A =>
    have en : n_text s = (shp A, fun _ => none, v_tp s, 0, 0, none, v_sh s, v_ce s, v_tn s) := by unfold n_text; rw [e]
    rw [en]
    have oa : OA (shp A) := by
      unfold tR at e
      split at e
      · rename_i c0
        by_cases sn : SND (rdT (kkT (v_tp s) (v_tl s)) (vvT (v_tp s) (v_tl s))).2
        · rw [if_pos sn] at e
          injection e with e
          subst e
          refine OA_shp (rd2_DW (V := vvT (v_tp s) (v_tl s)) hE hN 321 false false 0 (fun _ _ => 0) (rdT (kkT (v_tp s) (v_tl s)) (vvT (v_tp s) (v_tl s))).1.2 _ (by omega) (by omega) DW_0 ?_) sn
          show rdT _ _ = _
          rw [← c0]
        · rw [if_neg sn] at e; cases e
      · cases e
    exact ⟨oa, fun k A' z => (by cases z), ⟨Nat.zero_le _, ok.2.2.1.2⟩, ok.2.2.2.1, ok.2.2.2.2⟩
