/-! THE LAW'S LOOP -/
section LWL
variable {xs : List Int32} {I : Nat → Nat → Int32} {J : Nat → Nat → Int64} {s : VS} {Q : Option Value → ab_H → Prop}
theorem lw_and31 (v : Int32) : ∃ k, k < 32 ∧ v &&& nI 31 = nI k := by
  have e : v = nI v.toBitVec.toNat := Int32.toBitVec_inj.1 (by
    show v.toBitVec = BitVec.ofNat 32 v.toBitVec.toNat
    simp)
  refine ⟨v.toBitVec.toNat &&& 31, Nat.lt_of_le_of_lt Nat.and_le_right (by decide), ?_⟩
  rw [← q_and, ← e]
theorem lw_head {t l : Nat} (ht : t ≤ l) (hl : l ≤ 3072) : (nI l - nI 6 < nI t) ↔ l < t + 6 := by
  by_cases h6 : 6 ≤ l
  · rw [q_sub h6, q_lt (by omega) (by omega)]
    omega
  · have := (by decide : ∀ l < 6, ∀ t < 6, nI l - nI 6 < nI t) l (by omega) t (by omega)
    exact ⟨fun _ => by omega, fun _ => this⟩
theorem lw_B_of {t : Nat} (h : t + 6 ≤ xs.length) (hl : xs.length ≤ 3072) : lw_B xs (nI t) := by
  intro j hj
  have e : nI t + Int32.ofInt (j : Int) = nI (t + j) := q_add t j
  rw [e]
  exact q_in (by omega) (by omega)
def lw_ps : List Nat := [172, 195, 218, 231, 244, 267, 300, 333, 366, 399, 432, 486, 510, 533, 556, 579, 612, 635, 658, 682, 695, 708, 751, 784, 847, 870, 893, 936, 979, 1032, 1045, 1068]
theorem lw_case {i : Int32} (ok : OS s) (hC : SC s I J) (hM : SM s I J) (hb : lw_B xs i) (K : lw_K xs i Q) : ∀ k, k < 32 → LR xs (lw_ps.getD k 0, LL i, [], (SH, I, J)) Q := by
  intro k hk
  match k, hk with
  | 0, _ => exact lw_c_feed ok hC hM hb K
  | 1, _ => exact lw_c_end ok hC hM hb K
  | 2, _ => exact lw_c_text ok hC hM hb K
  | 3, _ => exact lw_c_fault ok hC hM hb K
  | 4, _ => exact lw_c_rule ok hC hM hb K
  | 5, _ => exact lw_c_block ok hC hM hb K
  | 6, _ => exact lw_c_pred ok hC hM hb K
  | 7, _ => exact lw_c_name ok hC hM hb K
  | 8, _ => exact lw_c_operand ok hC hM hb K
  | 9, _ => exact lw_c_seen ok hC hM hb K
  | 10, _ => exact lw_c_run ok hC hM hb K
  | 11, _ => exact lw_c_value ok hC hM hb K
  | 12, _ => exact lw_c_went ok hC hM hb K
  | 13, _ => exact lw_c_classes ok hC hM hb K
  | 14, _ => exact lw_c_part ok hC hM hb K
  | 15, _ => exact lw_c_partAt ok hC hM hb K
  | 16, _ => exact lw_c_leader ok hC hM hb K
  | 17, _ => exact lw_c_form ok hC hM hb K
  | 18, _ => exact lw_c_number ok hC hM hb K
  | 19, _ => exact lw_c_replace ok hC hM hb K
  | 20, _ => exact lw_c_sweep ok hC hM hb K
  | 21, _ => exact lw_c_set ok hC hM hb K
  | 22, _ => exact lw_c_alter ok hC hM hb K
  | 23, _ => exact lw_c_agree ok hC hM hb K
  | 24, _ => exact lw_c_keep ok hC hM hb K
  | 25, _ => exact lw_c_back ok hC hM hb K
  | 26, _ => exact lw_c_sheet ok hC hM hb K
  | 27, _ => exact lw_c_lay ok hC hM hb K
  | 28, _ => exact lw_c_read ok hC hM hb K
  | 29, _ => exact lw_c_torn ok hC hM hb K
  | 30, _ => exact lw_c_count ok hC hM hb K
  | 31, _ => exact K s I J ok hC hM
  | n + 32, h => exact absurd h (by omega)
theorem lw_sw (L : ab_L) (h : ab_H) (call : Nat → List Value → ab_H → Option (Option Value × ab_H)) : ∀ k, k < 32 → ab_step call 10 false (some .boolean) (some xs) (.tableswitch 1035 0 30 #[139, 162, 185, 198, 211, 234, 267, 300, 333, 366, 399, 453, 477, 500, 523, 546, 579, 602, 625, 649, 662, 675, 718, 751, 814, 837, 860, 903, 946, 999, 1012]) 139 33 L [.int (nI k)] h = some (.inl (lw_ps.getD k 0, L, [], h)) := by
  intro k hk
  match k, hk with
  | 0, _ => rfl
  | 1, _ => rfl
  | 2, _ => rfl
  | 3, _ => rfl
  | 4, _ => rfl
  | 5, _ => rfl
  | 6, _ => rfl
  | 7, _ => rfl
  | 8, _ => rfl
  | 9, _ => rfl
  | 10, _ => rfl
  | 11, _ => rfl
  | 12, _ => rfl
  | 13, _ => rfl
  | 14, _ => rfl
  | 15, _ => rfl
  | 16, _ => rfl
  | 17, _ => rfl
  | 18, _ => rfl
  | 19, _ => rfl
  | 20, _ => rfl
  | 21, _ => rfl
  | 22, _ => rfl
  | 23, _ => rfl
  | 24, _ => rfl
  | 25, _ => rfl
  | 26, _ => rfl
  | 27, _ => rfl
  | 28, _ => rfl
  | 29, _ => rfl
  | 30, _ => rfl
  | 31, _ => rfl
  | n + 32, h => exact absurd h (by omega)
theorem lw_loop (hl : xs.length ≤ 3072) (hQ : ∀ I J, Q (some (.int (nI 1))) (SH, I, J)) : ∀ (n t : Nat) (s : VS) (I : Nat → Nat → Int32) (J : Nat → Nat → Int64), t ≤ xs.length → xs.length - t ≤ n → OS s → SC s I J → SM s I J → LR xs (18, LL (nI t), [], (SH, I, J)) Q := by
  intro n
  induction n using Nat.strongRecOn with
  | ind n ih =>
    intro t s I J ht hn ok hC hM
    have hcmp := lw_head ht hl
    refine LR_ste (show lw_cd 18 = some (.iload_n 3, 1) from rfl) (F := (19, LL (nI t), [.int (nI t)], (SH, I, J))) (fun call => rfl) ?_
    refine LR_ste (show lw_cd 19 = some (.aload_n 0, 1) from rfl) (F := (20, LL (nI t), [.ref 2000, .int (nI t)], (SH, I, J))) (fun call => rfl) ?_
    refine LR_ste (show lw_cd 20 = some (.arraylength, 1) from rfl) (F := (21, LL (nI t), [.int (nI xs.length), .int (nI t)], (SH, I, J))) (fun call => rfl) ?_
    refine LR_ste (show lw_cd 21 = some (.bipush 6, 2) from rfl) (F := (23, LL (nI t), [.int (nI 6), .int (nI xs.length), .int (nI t)], (SH, I, J))) (fun call => by rw [← kb_6]; rfl) ?_
    refine LR_ste (show lw_cd 23 = some (.isub, 1) from rfl) (F := (24, LL (nI t), [.int (nI xs.length - nI 6), .int (nI t)], (SH, I, J))) (fun call => rfl) ?_
    by_cases hc : xs.length < t + 6
    · refine LR_ste (show lw_cd 24 = some (.if_icmp .gt 1050, 3) from rfl) (F := (1074, LL (nI t), [], (SH, I, J))) (fun call => ?_) ?_
      · unfold ab_step
        refine (if_pos (by decide)).trans ?_
        rw [if_pos (show ab_cmp .gt (nI t) (nI xs.length - nI 6) = true from decide_eq_true (hcmp.mpr hc))]
        rfl
      refine LR_ste (show lw_cd 1074 = some (.iconst 1, 1) from rfl) (F := (1075, LL (nI t), [.int (nI 1)], (SH, I, J))) (fun call => by rw [← kc_1]; rfl) ?_
      exact LR_end (show lw_cd 1075 = some (.ireturn, 1) from rfl) (r := (some (.int (nI 1)), (SH, I, J))) (fun call => rfl) (hQ _ _)
    · refine LR_ste (show lw_cd 24 = some (.if_icmp .gt 1050, 3) from rfl) (F := (27, LL (nI t), [], (SH, I, J))) (fun call => ?_) ?_
      · unfold ab_step
        refine (if_pos (by decide)).trans ?_
        rw [if_neg (show ¬ ab_cmp .gt (nI t) (nI xs.length - nI 6) = true from fun z => hc (hcmp.mp (of_decide_eq_true z)))]
      have hb : lw_B xs (nI t) := lw_B_of (by omega) hl
      refine LR_ste (show lw_cd 27 = some (.aload_n 0, 1) from rfl) (F := (28, LL (nI t), [.ref 2000], (SH, I, J))) (fun call => rfl) ?_
      refine LR_ste (show lw_cd 28 = some (.iload_n 3, 1) from rfl) (F := (29, LL (nI t), [.int (nI t), .ref 2000], (SH, I, J))) (fun call => rfl) ?_
      refine LR_ste (show lw_cd 29 = some (.iaload, 1) from rfl) (F := (30, LL (nI t), [.int (xs.getD (nI t).toNatClampNeg 0)], (SH, I, J))) (fun call => ?_) ?_
      · unfold ab_step
        exact (if_pos rfl).trans (if_pos (q_in (by omega) (by omega)))
      refine LR_ste (show lw_cd 30 = some (.bipush 31, 2) from rfl) (F := (32, LL (nI t), [.int (nI 31), .int (xs.getD (nI t).toNatClampNeg 0)], (SH, I, J))) (fun call => by rw [← kb_31]; rfl) ?_
      refine LR_ste (show lw_cd 32 = some (.iand, 1) from rfl) (F := (33, LL (nI t), [.int (xs.getD (nI t).toNatClampNeg 0 &&& nI 31)], (SH, I, J))) (fun call => rfl) ?_
      obtain ⟨k, hk, ek⟩ := lw_and31 (xs.getD (nI t).toNatClampNeg 0)
      rw [ek]
      refine LR_ste (show lw_cd 33 = some (.tableswitch 1035 0 30 #[139, 162, 185, 198, 211, 234, 267, 300, 333, 366, 399, 453, 477, 500, 523, 546, 579, 602, 625, 649, 662, 675, 718, 751, 814, 837, 860, 903, 946, 999, 1012], 139) from rfl) (F := (lw_ps.getD k 0, LL (nI t), [], (SH, I, J))) (fun call => lw_sw _ _ call k hk) ?_
      refine lw_case ok hC hM hb ?_ k hk
      intro s' I' J' ok' hC' hM'
      refine LR_ste (show lw_cd 1068 = some (.iinc 3 6, 3) from rfl) (F := (1071, LL (nI (t + 6)), [], (SH, I', J'))) (fun call => ?_) ?_
      · unfold ab_step
        have e : nI t + Int32.ofInt 6 = nI (t + 6) := q_add t 6
        rw [← e]
        rfl
      refine LR_ste (show lw_cd 1071 = some (.goto (-1053), 3) from rfl) (F := (18, LL (nI (t + 6)), [], (SH, I', J'))) (fun call => rfl) ?_
      exact ih (xs.length - (t + 6)) (by omega) (t + 6) s' I' J' (by omega) (Nat.le_refl _) ok' hC' hM'
end LWL
