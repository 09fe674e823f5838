theorem ab_ct_spec {mi : Nat} {b : ByteArray} {l : List (Nat × Instr × Nat)} (hct : ab_ct mi b l = true) (hby : ab_by mi = b) {pc : Nat} {x : Instr × Nat} (h : (l.find? (fun e => e.1 == pc)).map (fun e => e.2) = some x) : decode (ab_by mi) pc = .ok x ∧ ab_lenok x.1 x.2 = true ∧ ab_cok (ab_own mi) (ab_fr mi) (ab_lc mi) x.1 = true := by
  rw [Option.map_eq_some_iff] at h
  obtain ⟨e, h1, h2⟩ := h
  obtain ⟨q1, q2⟩ := ab_find h1 hct
  simp only [Bool.and_eq_true, decide_eq_true_eq, beq_iff_eq] at q1 q2
  subst h2
  subst q1
  rw [hby]
  exact ⟨q2.1.1, q2.1.2, q2.2⟩
def ab_CT (mi : Nat) : Prop := ∀ (pc : Nat) (x : Instr × Nat), ((ab_CD.getD mi []).find? (fun e => e.1 == pc)).map (fun e => e.2) = some x → decode (ab_by mi) pc = .ok x ∧ ab_lenok x.1 x.2 = true ∧ ab_cok (ab_own mi) (ab_fr mi) (ab_lc mi) x.1 = true
theorem ab_CT_0_1 : ∀ mi, 0 ≤ mi → mi < 1 → ab_CT mi := fun mi h1 h2 => by
  have e : mi = 0 := by omega
  subst e
  exact fun pc x h => ab_ct_spec ab_c0_ok rfl h
theorem ab_CT_1_2 : ∀ mi, 1 ≤ mi → mi < 2 → ab_CT mi := fun mi h1 h2 => by
  have e : mi = 1 := by omega
  subst e
  exact fun pc x h => ab_ct_spec ab_c1_ok rfl h
theorem ab_CT_0_2 : ∀ mi, 0 ≤ mi → mi < 2 → ab_CT mi := fun mi h1 h2 => (Nat.lt_or_ge mi 1).elim (fun h => ab_CT_0_1 mi h1 h) (fun h => ab_CT_1_2 mi h h2)
theorem ab_CT_2_3 : ∀ mi, 2 ≤ mi → mi < 3 → ab_CT mi := fun mi h1 h2 => by
  have e : mi = 2 := by omega
  subst e
  exact fun pc x h => ab_ct_spec ab_c2_ok rfl h
theorem ab_CT_3_4 : ∀ mi, 3 ≤ mi → mi < 4 → ab_CT mi := fun mi h1 h2 => by
  have e : mi = 3 := by omega
  subst e
  exact fun pc x h => ab_ct_spec ab_c3_ok rfl h
theorem ab_CT_2_4 : ∀ mi, 2 ≤ mi → mi < 4 → ab_CT mi := fun mi h1 h2 => (Nat.lt_or_ge mi 3).elim (fun h => ab_CT_2_3 mi h1 h) (fun h => ab_CT_3_4 mi h h2)
theorem ab_CT_0_4 : ∀ mi, 0 ≤ mi → mi < 4 → ab_CT mi := fun mi h1 h2 => (Nat.lt_or_ge mi 2).elim (fun h => ab_CT_0_2 mi h1 h) (fun h => ab_CT_2_4 mi h h2)
theorem ab_CT_4_5 : ∀ mi, 4 ≤ mi → mi < 5 → ab_CT mi := fun mi h1 h2 => by
  have e : mi = 4 := by omega
  subst e
  exact fun pc x h => ab_ct_spec ab_c4_ok rfl h
theorem ab_CT_5_6 : ∀ mi, 5 ≤ mi → mi < 6 → ab_CT mi := fun mi h1 h2 => by
  have e : mi = 5 := by omega
  subst e
  exact fun pc x h => ab_ct_spec ab_c5_ok rfl h
theorem ab_CT_4_6 : ∀ mi, 4 ≤ mi → mi < 6 → ab_CT mi := fun mi h1 h2 => (Nat.lt_or_ge mi 5).elim (fun h => ab_CT_4_5 mi h1 h) (fun h => ab_CT_5_6 mi h h2)
theorem ab_CT_6_7 : ∀ mi, 6 ≤ mi → mi < 7 → ab_CT mi := fun mi h1 h2 => by
  have e : mi = 6 := by omega
  subst e
  exact fun pc x h => ab_ct_spec ab_c6_ok rfl h
theorem ab_CT_7_8 : ∀ mi, 7 ≤ mi → mi < 8 → ab_CT mi := fun mi h1 h2 => by
  have e : mi = 7 := by omega
  subst e
  exact fun pc x h => ab_ct_spec ab_c7_ok rfl h
theorem ab_CT_8_9 : ∀ mi, 8 ≤ mi → mi < 9 → ab_CT mi := fun mi h1 h2 => by
  have e : mi = 8 := by omega
  subst e
  exact fun pc x h => ab_ct_spec ab_c8_ok rfl h
theorem ab_CT_7_9 : ∀ mi, 7 ≤ mi → mi < 9 → ab_CT mi := fun mi h1 h2 => (Nat.lt_or_ge mi 8).elim (fun h => ab_CT_7_8 mi h1 h) (fun h => ab_CT_8_9 mi h h2)
theorem ab_CT_6_9 : ∀ mi, 6 ≤ mi → mi < 9 → ab_CT mi := fun mi h1 h2 => (Nat.lt_or_ge mi 7).elim (fun h => ab_CT_6_7 mi h1 h) (fun h => ab_CT_7_9 mi h h2)
theorem ab_CT_4_9 : ∀ mi, 4 ≤ mi → mi < 9 → ab_CT mi := fun mi h1 h2 => (Nat.lt_or_ge mi 6).elim (fun h => ab_CT_4_6 mi h1 h) (fun h => ab_CT_6_9 mi h h2)
theorem ab_CT_0_9 : ∀ mi, 0 ≤ mi → mi < 9 → ab_CT mi := fun mi h1 h2 => (Nat.lt_or_ge mi 4).elim (fun h => ab_CT_0_4 mi h1 h) (fun h => ab_CT_4_9 mi h h2)
theorem ab_CT_9_10 : ∀ mi, 9 ≤ mi → mi < 10 → ab_CT mi := fun mi h1 h2 => by
  have e : mi = 9 := by omega
  subst e
  exact fun pc x h => ab_ct_spec ab_c9_ok rfl h
theorem ab_CT_10_11 : ∀ mi, 10 ≤ mi → mi < 11 → ab_CT mi := fun mi h1 h2 => by
  have e : mi = 10 := by omega
  subst e
  exact fun pc x h => ab_ct_spec ab_c10_ok rfl h
theorem ab_CT_9_11 : ∀ mi, 9 ≤ mi → mi < 11 → ab_CT mi := fun mi h1 h2 => (Nat.lt_or_ge mi 10).elim (fun h => ab_CT_9_10 mi h1 h) (fun h => ab_CT_10_11 mi h h2)
theorem ab_CT_11_12 : ∀ mi, 11 ≤ mi → mi < 12 → ab_CT mi := fun mi h1 h2 => by
  have e : mi = 11 := by omega
  subst e
  exact fun pc x h => ab_ct_spec ab_c11_ok rfl h
theorem ab_CT_12_13 : ∀ mi, 12 ≤ mi → mi < 13 → ab_CT mi := fun mi h1 h2 => by
  have e : mi = 12 := by omega
  subst e
  exact fun pc x h => ab_ct_spec ab_c12_ok rfl h
theorem ab_CT_11_13 : ∀ mi, 11 ≤ mi → mi < 13 → ab_CT mi := fun mi h1 h2 => (Nat.lt_or_ge mi 12).elim (fun h => ab_CT_11_12 mi h1 h) (fun h => ab_CT_12_13 mi h h2)
theorem ab_CT_9_13 : ∀ mi, 9 ≤ mi → mi < 13 → ab_CT mi := fun mi h1 h2 => (Nat.lt_or_ge mi 11).elim (fun h => ab_CT_9_11 mi h1 h) (fun h => ab_CT_11_13 mi h h2)
theorem ab_CT_13_14 : ∀ mi, 13 ≤ mi → mi < 14 → ab_CT mi := fun mi h1 h2 => by
  have e : mi = 13 := by omega
  subst e
  exact fun pc x h => ab_ct_spec ab_c13_ok rfl h
theorem ab_CT_14_15 : ∀ mi, 14 ≤ mi → mi < 15 → ab_CT mi := fun mi h1 h2 => by
  have e : mi = 14 := by omega
  subst e
  exact fun pc x h => ab_ct_spec ab_c14_ok rfl h
theorem ab_CT_13_15 : ∀ mi, 13 ≤ mi → mi < 15 → ab_CT mi := fun mi h1 h2 => (Nat.lt_or_ge mi 14).elim (fun h => ab_CT_13_14 mi h1 h) (fun h => ab_CT_14_15 mi h h2)
theorem ab_CT_15_16 : ∀ mi, 15 ≤ mi → mi < 16 → ab_CT mi := fun mi h1 h2 => by
  have e : mi = 15 := by omega
  subst e
  exact fun pc x h => ab_ct_spec ab_c15_ok rfl h
theorem ab_CT_16_17 : ∀ mi, 16 ≤ mi → mi < 17 → ab_CT mi := fun mi h1 h2 => by
  have e : mi = 16 := by omega
  subst e
  exact fun pc x h => ab_ct_spec ab_c16_ok rfl h
theorem ab_CT_17_18 : ∀ mi, 17 ≤ mi → mi < 18 → ab_CT mi := fun mi h1 h2 => by
  have e : mi = 17 := by omega
  subst e
  exact fun pc x h => ab_ct_spec ab_c17_ok rfl h
theorem ab_CT_16_18 : ∀ mi, 16 ≤ mi → mi < 18 → ab_CT mi := fun mi h1 h2 => (Nat.lt_or_ge mi 17).elim (fun h => ab_CT_16_17 mi h1 h) (fun h => ab_CT_17_18 mi h h2)
theorem ab_CT_15_18 : ∀ mi, 15 ≤ mi → mi < 18 → ab_CT mi := fun mi h1 h2 => (Nat.lt_or_ge mi 16).elim (fun h => ab_CT_15_16 mi h1 h) (fun h => ab_CT_16_18 mi h h2)
theorem ab_CT_13_18 : ∀ mi, 13 ≤ mi → mi < 18 → ab_CT mi := fun mi h1 h2 => (Nat.lt_or_ge mi 15).elim (fun h => ab_CT_13_15 mi h1 h) (fun h => ab_CT_15_18 mi h h2)
theorem ab_CT_9_18 : ∀ mi, 9 ≤ mi → mi < 18 → ab_CT mi := fun mi h1 h2 => (Nat.lt_or_ge mi 13).elim (fun h => ab_CT_9_13 mi h1 h) (fun h => ab_CT_13_18 mi h h2)
theorem ab_CT_0_18 : ∀ mi, 0 ≤ mi → mi < 18 → ab_CT mi := fun mi h1 h2 => (Nat.lt_or_ge mi 9).elim (fun h => ab_CT_0_9 mi h1 h) (fun h => ab_CT_9_18 mi h h2)
theorem ab_CT_18_19 : ∀ mi, 18 ≤ mi → mi < 19 → ab_CT mi := fun mi h1 h2 => by
  have e : mi = 18 := by omega
  subst e
  exact fun pc x h => ab_ct_spec ab_c18_ok rfl h
theorem ab_CT_19_20 : ∀ mi, 19 ≤ mi → mi < 20 → ab_CT mi := fun mi h1 h2 => by
  have e : mi = 19 := by omega
  subst e
  exact fun pc x h => ab_ct_spec ab_c19_ok rfl h
theorem ab_CT_18_20 : ∀ mi, 18 ≤ mi → mi < 20 → ab_CT mi := fun mi h1 h2 => (Nat.lt_or_ge mi 19).elim (fun h => ab_CT_18_19 mi h1 h) (fun h => ab_CT_19_20 mi h h2)
theorem ab_CT_20_21 : ∀ mi, 20 ≤ mi → mi < 21 → ab_CT mi := fun mi h1 h2 => by
  have e : mi = 20 := by omega
  subst e
  exact fun pc x h => ab_ct_spec ab_c20_ok rfl h
theorem ab_CT_21_22 : ∀ mi, 21 ≤ mi → mi < 22 → ab_CT mi := fun mi h1 h2 => by
  have e : mi = 21 := by omega
  subst e
  exact fun pc x h => ab_ct_spec ab_c21_ok rfl h
theorem ab_CT_20_22 : ∀ mi, 20 ≤ mi → mi < 22 → ab_CT mi := fun mi h1 h2 => (Nat.lt_or_ge mi 21).elim (fun h => ab_CT_20_21 mi h1 h) (fun h => ab_CT_21_22 mi h h2)
theorem ab_CT_18_22 : ∀ mi, 18 ≤ mi → mi < 22 → ab_CT mi := fun mi h1 h2 => (Nat.lt_or_ge mi 20).elim (fun h => ab_CT_18_20 mi h1 h) (fun h => ab_CT_20_22 mi h h2)
theorem ab_CT_22_23 : ∀ mi, 22 ≤ mi → mi < 23 → ab_CT mi := fun mi h1 h2 => by
  have e : mi = 22 := by omega
  subst e
  exact fun pc x h => ab_ct_spec ab_c22_ok rfl h
theorem ab_CT_23_24 : ∀ mi, 23 ≤ mi → mi < 24 → ab_CT mi := fun mi h1 h2 => by
  have e : mi = 23 := by omega
  subst e
  exact fun pc x h => ab_ct_spec ab_c23_ok rfl h
theorem ab_CT_22_24 : ∀ mi, 22 ≤ mi → mi < 24 → ab_CT mi := fun mi h1 h2 => (Nat.lt_or_ge mi 23).elim (fun h => ab_CT_22_23 mi h1 h) (fun h => ab_CT_23_24 mi h h2)
theorem ab_CT_24_25 : ∀ mi, 24 ≤ mi → mi < 25 → ab_CT mi := fun mi h1 h2 => by
  have e : mi = 24 := by omega
  subst e
  exact fun pc x h => ab_ct_spec ab_c24_ok rfl h
theorem ab_CT_25_26 : ∀ mi, 25 ≤ mi → mi < 26 → ab_CT mi := fun mi h1 h2 => by
  have e : mi = 25 := by omega
  subst e
  exact fun pc x h => ab_ct_spec ab_c25_ok rfl h
theorem ab_CT_26_27 : ∀ mi, 26 ≤ mi → mi < 27 → ab_CT mi := fun mi h1 h2 => by
  have e : mi = 26 := by omega
  subst e
  exact fun pc x h => ab_ct_spec ab_c26_ok rfl h
theorem ab_CT_25_27 : ∀ mi, 25 ≤ mi → mi < 27 → ab_CT mi := fun mi h1 h2 => (Nat.lt_or_ge mi 26).elim (fun h => ab_CT_25_26 mi h1 h) (fun h => ab_CT_26_27 mi h h2)
theorem ab_CT_24_27 : ∀ mi, 24 ≤ mi → mi < 27 → ab_CT mi := fun mi h1 h2 => (Nat.lt_or_ge mi 25).elim (fun h => ab_CT_24_25 mi h1 h) (fun h => ab_CT_25_27 mi h h2)
theorem ab_CT_22_27 : ∀ mi, 22 ≤ mi → mi < 27 → ab_CT mi := fun mi h1 h2 => (Nat.lt_or_ge mi 24).elim (fun h => ab_CT_22_24 mi h1 h) (fun h => ab_CT_24_27 mi h h2)
theorem ab_CT_18_27 : ∀ mi, 18 ≤ mi → mi < 27 → ab_CT mi := fun mi h1 h2 => (Nat.lt_or_ge mi 22).elim (fun h => ab_CT_18_22 mi h1 h) (fun h => ab_CT_22_27 mi h h2)
theorem ab_CT_27_28 : ∀ mi, 27 ≤ mi → mi < 28 → ab_CT mi := fun mi h1 h2 => by
  have e : mi = 27 := by omega
  subst e
  exact fun pc x h => ab_ct_spec ab_c27_ok rfl h
theorem ab_CT_28_29 : ∀ mi, 28 ≤ mi → mi < 29 → ab_CT mi := fun mi h1 h2 => by
  have e : mi = 28 := by omega
  subst e
  exact fun pc x h => ab_ct_spec ab_c28_ok rfl h
theorem ab_CT_27_29 : ∀ mi, 27 ≤ mi → mi < 29 → ab_CT mi := fun mi h1 h2 => (Nat.lt_or_ge mi 28).elim (fun h => ab_CT_27_28 mi h1 h) (fun h => ab_CT_28_29 mi h h2)
theorem ab_CT_29_30 : ∀ mi, 29 ≤ mi → mi < 30 → ab_CT mi := fun mi h1 h2 => by
  have e : mi = 29 := by omega
  subst e
  exact fun pc x h => ab_ct_spec ab_c29_ok rfl h
theorem ab_CT_30_31 : ∀ mi, 30 ≤ mi → mi < 31 → ab_CT mi := fun mi h1 h2 => by
  have e : mi = 30 := by omega
  subst e
  exact fun pc x h => ab_ct_spec ab_c30_ok rfl h
theorem ab_CT_29_31 : ∀ mi, 29 ≤ mi → mi < 31 → ab_CT mi := fun mi h1 h2 => (Nat.lt_or_ge mi 30).elim (fun h => ab_CT_29_30 mi h1 h) (fun h => ab_CT_30_31 mi h h2)
theorem ab_CT_27_31 : ∀ mi, 27 ≤ mi → mi < 31 → ab_CT mi := fun mi h1 h2 => (Nat.lt_or_ge mi 29).elim (fun h => ab_CT_27_29 mi h1 h) (fun h => ab_CT_29_31 mi h h2)
theorem ab_CT_31_32 : ∀ mi, 31 ≤ mi → mi < 32 → ab_CT mi := fun mi h1 h2 => by
  have e : mi = 31 := by omega
  subst e
  exact fun pc x h => ab_ct_spec ab_c31_ok rfl h
theorem ab_CT_32_33 : ∀ mi, 32 ≤ mi → mi < 33 → ab_CT mi := fun mi h1 h2 => by
  have e : mi = 32 := by omega
  subst e
  exact fun pc x h => ab_ct_spec ab_c32_ok rfl h
theorem ab_CT_31_33 : ∀ mi, 31 ≤ mi → mi < 33 → ab_CT mi := fun mi h1 h2 => (Nat.lt_or_ge mi 32).elim (fun h => ab_CT_31_32 mi h1 h) (fun h => ab_CT_32_33 mi h h2)
theorem ab_CT_33_34 : ∀ mi, 33 ≤ mi → mi < 34 → ab_CT mi := fun mi h1 h2 => by
  have e : mi = 33 := by omega
  subst e
  exact fun pc x h => ab_ct_spec ab_c33_ok rfl h
theorem ab_CT_34_35 : ∀ mi, 34 ≤ mi → mi < 35 → ab_CT mi := fun mi h1 h2 => by
  have e : mi = 34 := by omega
  subst e
  exact fun pc x h => ab_ct_spec ab_c34_ok rfl h
theorem ab_CT_35_36 : ∀ mi, 35 ≤ mi → mi < 36 → ab_CT mi := fun mi h1 h2 => by
  have e : mi = 35 := by omega
  subst e
  exact fun pc x h => ab_ct_spec ab_c35_ok rfl h
theorem ab_CT_34_36 : ∀ mi, 34 ≤ mi → mi < 36 → ab_CT mi := fun mi h1 h2 => (Nat.lt_or_ge mi 35).elim (fun h => ab_CT_34_35 mi h1 h) (fun h => ab_CT_35_36 mi h h2)
theorem ab_CT_33_36 : ∀ mi, 33 ≤ mi → mi < 36 → ab_CT mi := fun mi h1 h2 => (Nat.lt_or_ge mi 34).elim (fun h => ab_CT_33_34 mi h1 h) (fun h => ab_CT_34_36 mi h h2)
theorem ab_CT_31_36 : ∀ mi, 31 ≤ mi → mi < 36 → ab_CT mi := fun mi h1 h2 => (Nat.lt_or_ge mi 33).elim (fun h => ab_CT_31_33 mi h1 h) (fun h => ab_CT_33_36 mi h h2)
theorem ab_CT_27_36 : ∀ mi, 27 ≤ mi → mi < 36 → ab_CT mi := fun mi h1 h2 => (Nat.lt_or_ge mi 31).elim (fun h => ab_CT_27_31 mi h1 h) (fun h => ab_CT_31_36 mi h h2)
theorem ab_CT_18_36 : ∀ mi, 18 ≤ mi → mi < 36 → ab_CT mi := fun mi h1 h2 => (Nat.lt_or_ge mi 27).elim (fun h => ab_CT_18_27 mi h1 h) (fun h => ab_CT_27_36 mi h h2)
theorem ab_CT_0_36 : ∀ mi, 0 ≤ mi → mi < 36 → ab_CT mi := fun mi h1 h2 => (Nat.lt_or_ge mi 18).elim (fun h => ab_CT_0_18 mi h1 h) (fun h => ab_CT_18_36 mi h h2)
theorem ab_CT_36_37 : ∀ mi, 36 ≤ mi → mi < 37 → ab_CT mi := fun mi h1 h2 => by
  have e : mi = 36 := by omega
  subst e
  exact fun pc x h => ab_ct_spec ab_c36_ok rfl h
theorem ab_CT_37_38 : ∀ mi, 37 ≤ mi → mi < 38 → ab_CT mi := fun mi h1 h2 => by
  have e : mi = 37 := by omega
  subst e
  exact fun pc x h => ab_ct_spec ab_c37_ok rfl h
theorem ab_CT_36_38 : ∀ mi, 36 ≤ mi → mi < 38 → ab_CT mi := fun mi h1 h2 => (Nat.lt_or_ge mi 37).elim (fun h => ab_CT_36_37 mi h1 h) (fun h => ab_CT_37_38 mi h h2)
theorem ab_CT_38_39 : ∀ mi, 38 ≤ mi → mi < 39 → ab_CT mi := fun mi h1 h2 => by
  have e : mi = 38 := by omega
  subst e
  exact fun pc x h => ab_ct_spec ab_c38_ok rfl h
theorem ab_CT_39_40 : ∀ mi, 39 ≤ mi → mi < 40 → ab_CT mi := fun mi h1 h2 => by
  have e : mi = 39 := by omega
  subst e
  exact fun pc x h => ab_ct_spec ab_c39_ok rfl h
theorem ab_CT_38_40 : ∀ mi, 38 ≤ mi → mi < 40 → ab_CT mi := fun mi h1 h2 => (Nat.lt_or_ge mi 39).elim (fun h => ab_CT_38_39 mi h1 h) (fun h => ab_CT_39_40 mi h h2)
theorem ab_CT_36_40 : ∀ mi, 36 ≤ mi → mi < 40 → ab_CT mi := fun mi h1 h2 => (Nat.lt_or_ge mi 38).elim (fun h => ab_CT_36_38 mi h1 h) (fun h => ab_CT_38_40 mi h h2)
theorem ab_CT_40_41 : ∀ mi, 40 ≤ mi → mi < 41 → ab_CT mi := fun mi h1 h2 => by
  have e : mi = 40 := by omega
  subst e
  exact fun pc x h => ab_ct_spec ab_c40_ok rfl h
theorem ab_CT_41_42 : ∀ mi, 41 ≤ mi → mi < 42 → ab_CT mi := fun mi h1 h2 => by
  have e : mi = 41 := by omega
  subst e
  exact fun pc x h => ab_ct_spec ab_c41_ok rfl h
theorem ab_CT_40_42 : ∀ mi, 40 ≤ mi → mi < 42 → ab_CT mi := fun mi h1 h2 => (Nat.lt_or_ge mi 41).elim (fun h => ab_CT_40_41 mi h1 h) (fun h => ab_CT_41_42 mi h h2)
theorem ab_CT_42_43 : ∀ mi, 42 ≤ mi → mi < 43 → ab_CT mi := fun mi h1 h2 => by
  have e : mi = 42 := by omega
  subst e
  exact fun pc x h => ab_ct_spec ab_c42_ok rfl h
theorem ab_CT_43_44 : ∀ mi, 43 ≤ mi → mi < 44 → ab_CT mi := fun mi h1 h2 => by
  have e : mi = 43 := by omega
  subst e
  exact fun pc x h => ab_ct_spec ab_c43_ok rfl h
theorem ab_CT_44_45 : ∀ mi, 44 ≤ mi → mi < 45 → ab_CT mi := fun mi h1 h2 => by
  have e : mi = 44 := by omega
  subst e
  exact fun pc x h => ab_ct_spec ab_c44_ok rfl h
theorem ab_CT_43_45 : ∀ mi, 43 ≤ mi → mi < 45 → ab_CT mi := fun mi h1 h2 => (Nat.lt_or_ge mi 44).elim (fun h => ab_CT_43_44 mi h1 h) (fun h => ab_CT_44_45 mi h h2)
theorem ab_CT_42_45 : ∀ mi, 42 ≤ mi → mi < 45 → ab_CT mi := fun mi h1 h2 => (Nat.lt_or_ge mi 43).elim (fun h => ab_CT_42_43 mi h1 h) (fun h => ab_CT_43_45 mi h h2)
theorem ab_CT_40_45 : ∀ mi, 40 ≤ mi → mi < 45 → ab_CT mi := fun mi h1 h2 => (Nat.lt_or_ge mi 42).elim (fun h => ab_CT_40_42 mi h1 h) (fun h => ab_CT_42_45 mi h h2)
theorem ab_CT_36_45 : ∀ mi, 36 ≤ mi → mi < 45 → ab_CT mi := fun mi h1 h2 => (Nat.lt_or_ge mi 40).elim (fun h => ab_CT_36_40 mi h1 h) (fun h => ab_CT_40_45 mi h h2)
theorem ab_CT_45_46 : ∀ mi, 45 ≤ mi → mi < 46 → ab_CT mi := fun mi h1 h2 => by
  have e : mi = 45 := by omega
  subst e
  exact fun pc x h => ab_ct_spec ab_c45_ok rfl h
theorem ab_CT_46_47 : ∀ mi, 46 ≤ mi → mi < 47 → ab_CT mi := fun mi h1 h2 => by
  have e : mi = 46 := by omega
  subst e
  exact fun pc x h => ab_ct_spec ab_c46_ok rfl h
theorem ab_CT_45_47 : ∀ mi, 45 ≤ mi → mi < 47 → ab_CT mi := fun mi h1 h2 => (Nat.lt_or_ge mi 46).elim (fun h => ab_CT_45_46 mi h1 h) (fun h => ab_CT_46_47 mi h h2)
theorem ab_CT_47_48 : ∀ mi, 47 ≤ mi → mi < 48 → ab_CT mi := fun mi h1 h2 => by
  have e : mi = 47 := by omega
  subst e
  exact fun pc x h => ab_ct_spec ab_c47_ok rfl h
theorem ab_CT_48_49 : ∀ mi, 48 ≤ mi → mi < 49 → ab_CT mi := fun mi h1 h2 => by
  have e : mi = 48 := by omega
  subst e
  exact fun pc x h => ab_ct_spec ab_c48_ok rfl h
theorem ab_CT_47_49 : ∀ mi, 47 ≤ mi → mi < 49 → ab_CT mi := fun mi h1 h2 => (Nat.lt_or_ge mi 48).elim (fun h => ab_CT_47_48 mi h1 h) (fun h => ab_CT_48_49 mi h h2)
theorem ab_CT_45_49 : ∀ mi, 45 ≤ mi → mi < 49 → ab_CT mi := fun mi h1 h2 => (Nat.lt_or_ge mi 47).elim (fun h => ab_CT_45_47 mi h1 h) (fun h => ab_CT_47_49 mi h h2)
theorem ab_CT_49_50 : ∀ mi, 49 ≤ mi → mi < 50 → ab_CT mi := fun mi h1 h2 => by
  have e : mi = 49 := by omega
  subst e
  exact fun pc x h => ab_ct_spec ab_c49_ok rfl h
theorem ab_CT_50_51 : ∀ mi, 50 ≤ mi → mi < 51 → ab_CT mi := fun mi h1 h2 => by
  have e : mi = 50 := by omega
  subst e
  exact fun pc x h => ab_ct_spec ab_c50_ok rfl h
theorem ab_CT_49_51 : ∀ mi, 49 ≤ mi → mi < 51 → ab_CT mi := fun mi h1 h2 => (Nat.lt_or_ge mi 50).elim (fun h => ab_CT_49_50 mi h1 h) (fun h => ab_CT_50_51 mi h h2)
theorem ab_CT_51_52 : ∀ mi, 51 ≤ mi → mi < 52 → ab_CT mi := fun mi h1 h2 => by
  have e : mi = 51 := by omega
  subst e
  exact fun pc x h => ab_ct_spec ab_c51_ok rfl h
theorem ab_CT_52_53 : ∀ mi, 52 ≤ mi → mi < 53 → ab_CT mi := fun mi h1 h2 => by
  have e : mi = 52 := by omega
  subst e
  exact fun pc x h => ab_ct_spec ab_c52_ok rfl h
theorem ab_CT_53_54 : ∀ mi, 53 ≤ mi → mi < 54 → ab_CT mi := fun mi h1 h2 => by
  have e : mi = 53 := by omega
  subst e
  exact fun pc x h => ab_ct_spec ab_c53_ok rfl h
theorem ab_CT_52_54 : ∀ mi, 52 ≤ mi → mi < 54 → ab_CT mi := fun mi h1 h2 => (Nat.lt_or_ge mi 53).elim (fun h => ab_CT_52_53 mi h1 h) (fun h => ab_CT_53_54 mi h h2)
theorem ab_CT_51_54 : ∀ mi, 51 ≤ mi → mi < 54 → ab_CT mi := fun mi h1 h2 => (Nat.lt_or_ge mi 52).elim (fun h => ab_CT_51_52 mi h1 h) (fun h => ab_CT_52_54 mi h h2)
theorem ab_CT_49_54 : ∀ mi, 49 ≤ mi → mi < 54 → ab_CT mi := fun mi h1 h2 => (Nat.lt_or_ge mi 51).elim (fun h => ab_CT_49_51 mi h1 h) (fun h => ab_CT_51_54 mi h h2)
theorem ab_CT_45_54 : ∀ mi, 45 ≤ mi → mi < 54 → ab_CT mi := fun mi h1 h2 => (Nat.lt_or_ge mi 49).elim (fun h => ab_CT_45_49 mi h1 h) (fun h => ab_CT_49_54 mi h h2)
theorem ab_CT_36_54 : ∀ mi, 36 ≤ mi → mi < 54 → ab_CT mi := fun mi h1 h2 => (Nat.lt_or_ge mi 45).elim (fun h => ab_CT_36_45 mi h1 h) (fun h => ab_CT_45_54 mi h h2)
theorem ab_CT_54_55 : ∀ mi, 54 ≤ mi → mi < 55 → ab_CT mi := fun mi h1 h2 => by
  have e : mi = 54 := by omega
  subst e
  exact fun pc x h => ab_ct_spec ab_c54_ok rfl h
theorem ab_CT_55_56 : ∀ mi, 55 ≤ mi → mi < 56 → ab_CT mi := fun mi h1 h2 => by
  have e : mi = 55 := by omega
  subst e
  exact fun pc x h => ab_ct_spec ab_c55_ok rfl h
theorem ab_CT_54_56 : ∀ mi, 54 ≤ mi → mi < 56 → ab_CT mi := fun mi h1 h2 => (Nat.lt_or_ge mi 55).elim (fun h => ab_CT_54_55 mi h1 h) (fun h => ab_CT_55_56 mi h h2)
theorem ab_CT_56_57 : ∀ mi, 56 ≤ mi → mi < 57 → ab_CT mi := fun mi h1 h2 => by
  have e : mi = 56 := by omega
  subst e
  exact fun pc x h => ab_ct_spec ab_c56_ok rfl h
theorem ab_CT_57_58 : ∀ mi, 57 ≤ mi → mi < 58 → ab_CT mi := fun mi h1 h2 => by
  have e : mi = 57 := by omega
  subst e
  exact fun pc x h => ab_ct_spec ab_c57_ok rfl h
theorem ab_CT_56_58 : ∀ mi, 56 ≤ mi → mi < 58 → ab_CT mi := fun mi h1 h2 => (Nat.lt_or_ge mi 57).elim (fun h => ab_CT_56_57 mi h1 h) (fun h => ab_CT_57_58 mi h h2)
theorem ab_CT_54_58 : ∀ mi, 54 ≤ mi → mi < 58 → ab_CT mi := fun mi h1 h2 => (Nat.lt_or_ge mi 56).elim (fun h => ab_CT_54_56 mi h1 h) (fun h => ab_CT_56_58 mi h h2)
theorem ab_CT_58_59 : ∀ mi, 58 ≤ mi → mi < 59 → ab_CT mi := fun mi h1 h2 => by
  have e : mi = 58 := by omega
  subst e
  exact fun pc x h => ab_ct_spec ab_c58_ok rfl h
theorem ab_CT_59_60 : ∀ mi, 59 ≤ mi → mi < 60 → ab_CT mi := fun mi h1 h2 => by
  have e : mi = 59 := by omega
  subst e
  exact fun pc x h => ab_ct_spec ab_c59_ok rfl h
theorem ab_CT_58_60 : ∀ mi, 58 ≤ mi → mi < 60 → ab_CT mi := fun mi h1 h2 => (Nat.lt_or_ge mi 59).elim (fun h => ab_CT_58_59 mi h1 h) (fun h => ab_CT_59_60 mi h h2)
theorem ab_CT_60_61 : ∀ mi, 60 ≤ mi → mi < 61 → ab_CT mi := fun mi h1 h2 => by
  have e : mi = 60 := by omega
  subst e
  exact fun pc x h => ab_ct_spec ab_c60_ok rfl h
theorem ab_CT_61_62 : ∀ mi, 61 ≤ mi → mi < 62 → ab_CT mi := fun mi h1 h2 => by
  have e : mi = 61 := by omega
  subst e
  exact fun pc x h => ab_ct_spec ab_c61_ok rfl h
theorem ab_CT_62_63 : ∀ mi, 62 ≤ mi → mi < 63 → ab_CT mi := fun mi h1 h2 => by
  have e : mi = 62 := by omega
  subst e
  exact fun pc x h => ab_ct_spec ab_c62_ok rfl h
theorem ab_CT_61_63 : ∀ mi, 61 ≤ mi → mi < 63 → ab_CT mi := fun mi h1 h2 => (Nat.lt_or_ge mi 62).elim (fun h => ab_CT_61_62 mi h1 h) (fun h => ab_CT_62_63 mi h h2)
theorem ab_CT_60_63 : ∀ mi, 60 ≤ mi → mi < 63 → ab_CT mi := fun mi h1 h2 => (Nat.lt_or_ge mi 61).elim (fun h => ab_CT_60_61 mi h1 h) (fun h => ab_CT_61_63 mi h h2)
theorem ab_CT_58_63 : ∀ mi, 58 ≤ mi → mi < 63 → ab_CT mi := fun mi h1 h2 => (Nat.lt_or_ge mi 60).elim (fun h => ab_CT_58_60 mi h1 h) (fun h => ab_CT_60_63 mi h h2)
theorem ab_CT_54_63 : ∀ mi, 54 ≤ mi → mi < 63 → ab_CT mi := fun mi h1 h2 => (Nat.lt_or_ge mi 58).elim (fun h => ab_CT_54_58 mi h1 h) (fun h => ab_CT_58_63 mi h h2)
theorem ab_CT_63_64 : ∀ mi, 63 ≤ mi → mi < 64 → ab_CT mi := fun mi h1 h2 => by
  have e : mi = 63 := by omega
  subst e
  exact fun pc x h => ab_ct_spec ab_c63_ok rfl h
theorem ab_CT_64_65 : ∀ mi, 64 ≤ mi → mi < 65 → ab_CT mi := fun mi h1 h2 => by
  have e : mi = 64 := by omega
  subst e
  exact fun pc x h => ab_ct_spec ab_c64_ok rfl h
theorem ab_CT_63_65 : ∀ mi, 63 ≤ mi → mi < 65 → ab_CT mi := fun mi h1 h2 => (Nat.lt_or_ge mi 64).elim (fun h => ab_CT_63_64 mi h1 h) (fun h => ab_CT_64_65 mi h h2)
theorem ab_CT_65_66 : ∀ mi, 65 ≤ mi → mi < 66 → ab_CT mi := fun mi h1 h2 => by
  have e : mi = 65 := by omega
  subst e
  exact fun pc x h => ab_ct_spec ab_c65_ok rfl h
theorem ab_CT_66_67 : ∀ mi, 66 ≤ mi → mi < 67 → ab_CT mi := fun mi h1 h2 => by
  have e : mi = 66 := by omega
  subst e
  exact fun pc x h => ab_ct_spec ab_c66_ok rfl h
theorem ab_CT_67_68 : ∀ mi, 67 ≤ mi → mi < 68 → ab_CT mi := fun mi h1 h2 => by
  have e : mi = 67 := by omega
  subst e
  exact fun pc x h => ab_ct_spec ab_c67_ok rfl h
theorem ab_CT_66_68 : ∀ mi, 66 ≤ mi → mi < 68 → ab_CT mi := fun mi h1 h2 => (Nat.lt_or_ge mi 67).elim (fun h => ab_CT_66_67 mi h1 h) (fun h => ab_CT_67_68 mi h h2)
theorem ab_CT_65_68 : ∀ mi, 65 ≤ mi → mi < 68 → ab_CT mi := fun mi h1 h2 => (Nat.lt_or_ge mi 66).elim (fun h => ab_CT_65_66 mi h1 h) (fun h => ab_CT_66_68 mi h h2)
theorem ab_CT_63_68 : ∀ mi, 63 ≤ mi → mi < 68 → ab_CT mi := fun mi h1 h2 => (Nat.lt_or_ge mi 65).elim (fun h => ab_CT_63_65 mi h1 h) (fun h => ab_CT_65_68 mi h h2)
theorem ab_CT_68_69 : ∀ mi, 68 ≤ mi → mi < 69 → ab_CT mi := fun mi h1 h2 => by
  have e : mi = 68 := by omega
  subst e
  exact fun pc x h => ab_ct_spec ab_c68_ok rfl h
theorem ab_CT_69_70 : ∀ mi, 69 ≤ mi → mi < 70 → ab_CT mi := fun mi h1 h2 => by
  have e : mi = 69 := by omega
  subst e
  exact fun pc x h => ab_ct_spec ab_c69_ok rfl h
theorem ab_CT_68_70 : ∀ mi, 68 ≤ mi → mi < 70 → ab_CT mi := fun mi h1 h2 => (Nat.lt_or_ge mi 69).elim (fun h => ab_CT_68_69 mi h1 h) (fun h => ab_CT_69_70 mi h h2)
theorem ab_CT_70_71 : ∀ mi, 70 ≤ mi → mi < 71 → ab_CT mi := fun mi h1 h2 => by
  have e : mi = 70 := by omega
  subst e
  exact fun pc x h => ab_ct_spec ab_c70_ok rfl h
theorem ab_CT_71_72 : ∀ mi, 71 ≤ mi → mi < 72 → ab_CT mi := fun mi h1 h2 => by
  have e : mi = 71 := by omega
  subst e
  exact fun pc x h => ab_ct_spec ab_c71_ok rfl h
theorem ab_CT_72_73 : ∀ mi, 72 ≤ mi → mi < 73 → ab_CT mi := fun mi h1 h2 => by
  have e : mi = 72 := by omega
  subst e
  exact fun pc x h => ab_ct_spec ab_c72_ok rfl h
theorem ab_CT_71_73 : ∀ mi, 71 ≤ mi → mi < 73 → ab_CT mi := fun mi h1 h2 => (Nat.lt_or_ge mi 72).elim (fun h => ab_CT_71_72 mi h1 h) (fun h => ab_CT_72_73 mi h h2)
theorem ab_CT_70_73 : ∀ mi, 70 ≤ mi → mi < 73 → ab_CT mi := fun mi h1 h2 => (Nat.lt_or_ge mi 71).elim (fun h => ab_CT_70_71 mi h1 h) (fun h => ab_CT_71_73 mi h h2)
theorem ab_CT_68_73 : ∀ mi, 68 ≤ mi → mi < 73 → ab_CT mi := fun mi h1 h2 => (Nat.lt_or_ge mi 70).elim (fun h => ab_CT_68_70 mi h1 h) (fun h => ab_CT_70_73 mi h h2)
theorem ab_CT_63_73 : ∀ mi, 63 ≤ mi → mi < 73 → ab_CT mi := fun mi h1 h2 => (Nat.lt_or_ge mi 68).elim (fun h => ab_CT_63_68 mi h1 h) (fun h => ab_CT_68_73 mi h h2)
theorem ab_CT_54_73 : ∀ mi, 54 ≤ mi → mi < 73 → ab_CT mi := fun mi h1 h2 => (Nat.lt_or_ge mi 63).elim (fun h => ab_CT_54_63 mi h1 h) (fun h => ab_CT_63_73 mi h h2)
theorem ab_CT_36_73 : ∀ mi, 36 ≤ mi → mi < 73 → ab_CT mi := fun mi h1 h2 => (Nat.lt_or_ge mi 54).elim (fun h => ab_CT_36_54 mi h1 h) (fun h => ab_CT_54_73 mi h h2)
theorem ab_CT_0_73 : ∀ mi, 0 ≤ mi → mi < 73 → ab_CT mi := fun mi h1 h2 => (Nat.lt_or_ge mi 36).elim (fun h => ab_CT_0_36 mi h1 h) (fun h => ab_CT_36_73 mi h h2)
theorem ab_CT_73_74 : ∀ mi, 73 ≤ mi → mi < 74 → ab_CT mi := fun mi h1 h2 => by
  have e : mi = 73 := by omega
  subst e
  exact fun pc x h => ab_ct_spec ab_c73_ok rfl h
theorem ab_CT_74_75 : ∀ mi, 74 ≤ mi → mi < 75 → ab_CT mi := fun mi h1 h2 => by
  have e : mi = 74 := by omega
  subst e
  exact fun pc x h => ab_ct_spec ab_c74_ok rfl h
theorem ab_CT_73_75 : ∀ mi, 73 ≤ mi → mi < 75 → ab_CT mi := fun mi h1 h2 => (Nat.lt_or_ge mi 74).elim (fun h => ab_CT_73_74 mi h1 h) (fun h => ab_CT_74_75 mi h h2)
theorem ab_CT_75_76 : ∀ mi, 75 ≤ mi → mi < 76 → ab_CT mi := fun mi h1 h2 => by
  have e : mi = 75 := by omega
  subst e
  exact fun pc x h => ab_ct_spec ab_c75_ok rfl h
theorem ab_CT_76_77 : ∀ mi, 76 ≤ mi → mi < 77 → ab_CT mi := fun mi h1 h2 => by
  have e : mi = 76 := by omega
  subst e
  exact fun pc x h => ab_ct_spec ab_c76_ok rfl h
theorem ab_CT_75_77 : ∀ mi, 75 ≤ mi → mi < 77 → ab_CT mi := fun mi h1 h2 => (Nat.lt_or_ge mi 76).elim (fun h => ab_CT_75_76 mi h1 h) (fun h => ab_CT_76_77 mi h h2)
theorem ab_CT_73_77 : ∀ mi, 73 ≤ mi → mi < 77 → ab_CT mi := fun mi h1 h2 => (Nat.lt_or_ge mi 75).elim (fun h => ab_CT_73_75 mi h1 h) (fun h => ab_CT_75_77 mi h h2)
theorem ab_CT_77_78 : ∀ mi, 77 ≤ mi → mi < 78 → ab_CT mi := fun mi h1 h2 => by
  have e : mi = 77 := by omega
  subst e
  exact fun pc x h => ab_ct_spec ab_c77_ok rfl h
theorem ab_CT_78_79 : ∀ mi, 78 ≤ mi → mi < 79 → ab_CT mi := fun mi h1 h2 => by
  have e : mi = 78 := by omega
  subst e
  exact fun pc x h => ab_ct_spec ab_c78_ok rfl h
theorem ab_CT_77_79 : ∀ mi, 77 ≤ mi → mi < 79 → ab_CT mi := fun mi h1 h2 => (Nat.lt_or_ge mi 78).elim (fun h => ab_CT_77_78 mi h1 h) (fun h => ab_CT_78_79 mi h h2)
theorem ab_CT_79_80 : ∀ mi, 79 ≤ mi → mi < 80 → ab_CT mi := fun mi h1 h2 => by
  have e : mi = 79 := by omega
  subst e
  exact fun pc x h => ab_ct_spec ab_c79_ok rfl h
theorem ab_CT_80_81 : ∀ mi, 80 ≤ mi → mi < 81 → ab_CT mi := fun mi h1 h2 => by
  have e : mi = 80 := by omega
  subst e
  exact fun pc x h => ab_ct_spec ab_c80_ok rfl h
theorem ab_CT_81_82 : ∀ mi, 81 ≤ mi → mi < 82 → ab_CT mi := fun mi h1 h2 => by
  have e : mi = 81 := by omega
  subst e
  exact fun pc x h => ab_ct_spec ab_c81_ok rfl h
theorem ab_CT_80_82 : ∀ mi, 80 ≤ mi → mi < 82 → ab_CT mi := fun mi h1 h2 => (Nat.lt_or_ge mi 81).elim (fun h => ab_CT_80_81 mi h1 h) (fun h => ab_CT_81_82 mi h h2)
theorem ab_CT_79_82 : ∀ mi, 79 ≤ mi → mi < 82 → ab_CT mi := fun mi h1 h2 => (Nat.lt_or_ge mi 80).elim (fun h => ab_CT_79_80 mi h1 h) (fun h => ab_CT_80_82 mi h h2)
theorem ab_CT_77_82 : ∀ mi, 77 ≤ mi → mi < 82 → ab_CT mi := fun mi h1 h2 => (Nat.lt_or_ge mi 79).elim (fun h => ab_CT_77_79 mi h1 h) (fun h => ab_CT_79_82 mi h h2)
theorem ab_CT_73_82 : ∀ mi, 73 ≤ mi → mi < 82 → ab_CT mi := fun mi h1 h2 => (Nat.lt_or_ge mi 77).elim (fun h => ab_CT_73_77 mi h1 h) (fun h => ab_CT_77_82 mi h h2)
theorem ab_CT_82_83 : ∀ mi, 82 ≤ mi → mi < 83 → ab_CT mi := fun mi h1 h2 => by
  have e : mi = 82 := by omega
  subst e
  exact fun pc x h => ab_ct_spec ab_c82_ok rfl h
theorem ab_CT_83_84 : ∀ mi, 83 ≤ mi → mi < 84 → ab_CT mi := fun mi h1 h2 => by
  have e : mi = 83 := by omega
  subst e
  exact fun pc x h => ab_ct_spec ab_c83_ok rfl h
theorem ab_CT_82_84 : ∀ mi, 82 ≤ mi → mi < 84 → ab_CT mi := fun mi h1 h2 => (Nat.lt_or_ge mi 83).elim (fun h => ab_CT_82_83 mi h1 h) (fun h => ab_CT_83_84 mi h h2)
theorem ab_CT_84_85 : ∀ mi, 84 ≤ mi → mi < 85 → ab_CT mi := fun mi h1 h2 => by
  have e : mi = 84 := by omega
  subst e
  exact fun pc x h => ab_ct_spec ab_c84_ok rfl h
theorem ab_CT_85_86 : ∀ mi, 85 ≤ mi → mi < 86 → ab_CT mi := fun mi h1 h2 => by
  have e : mi = 85 := by omega
  subst e
  exact fun pc x h => ab_ct_spec ab_c85_ok rfl h
theorem ab_CT_84_86 : ∀ mi, 84 ≤ mi → mi < 86 → ab_CT mi := fun mi h1 h2 => (Nat.lt_or_ge mi 85).elim (fun h => ab_CT_84_85 mi h1 h) (fun h => ab_CT_85_86 mi h h2)
theorem ab_CT_82_86 : ∀ mi, 82 ≤ mi → mi < 86 → ab_CT mi := fun mi h1 h2 => (Nat.lt_or_ge mi 84).elim (fun h => ab_CT_82_84 mi h1 h) (fun h => ab_CT_84_86 mi h h2)
theorem ab_CT_86_87 : ∀ mi, 86 ≤ mi → mi < 87 → ab_CT mi := fun mi h1 h2 => by
  have e : mi = 86 := by omega
  subst e
  exact fun pc x h => ab_ct_spec ab_c86_ok rfl h
theorem ab_CT_87_88 : ∀ mi, 87 ≤ mi → mi < 88 → ab_CT mi := fun mi h1 h2 => by
  have e : mi = 87 := by omega
  subst e
  exact fun pc x h => ab_ct_spec ab_c87_ok rfl h
theorem ab_CT_86_88 : ∀ mi, 86 ≤ mi → mi < 88 → ab_CT mi := fun mi h1 h2 => (Nat.lt_or_ge mi 87).elim (fun h => ab_CT_86_87 mi h1 h) (fun h => ab_CT_87_88 mi h h2)
theorem ab_CT_88_89 : ∀ mi, 88 ≤ mi → mi < 89 → ab_CT mi := fun mi h1 h2 => by
  have e : mi = 88 := by omega
  subst e
  exact fun pc x h => ab_ct_spec ab_c88_ok rfl h
theorem ab_CT_89_90 : ∀ mi, 89 ≤ mi → mi < 90 → ab_CT mi := fun mi h1 h2 => by
  have e : mi = 89 := by omega
  subst e
  exact fun pc x h => ab_ct_spec ab_c89_ok rfl h
theorem ab_CT_90_91 : ∀ mi, 90 ≤ mi → mi < 91 → ab_CT mi := fun mi h1 h2 => by
  have e : mi = 90 := by omega
  subst e
  exact fun pc x h => ab_ct_spec ab_c90_ok rfl h
theorem ab_CT_89_91 : ∀ mi, 89 ≤ mi → mi < 91 → ab_CT mi := fun mi h1 h2 => (Nat.lt_or_ge mi 90).elim (fun h => ab_CT_89_90 mi h1 h) (fun h => ab_CT_90_91 mi h h2)
theorem ab_CT_88_91 : ∀ mi, 88 ≤ mi → mi < 91 → ab_CT mi := fun mi h1 h2 => (Nat.lt_or_ge mi 89).elim (fun h => ab_CT_88_89 mi h1 h) (fun h => ab_CT_89_91 mi h h2)
theorem ab_CT_86_91 : ∀ mi, 86 ≤ mi → mi < 91 → ab_CT mi := fun mi h1 h2 => (Nat.lt_or_ge mi 88).elim (fun h => ab_CT_86_88 mi h1 h) (fun h => ab_CT_88_91 mi h h2)
theorem ab_CT_82_91 : ∀ mi, 82 ≤ mi → mi < 91 → ab_CT mi := fun mi h1 h2 => (Nat.lt_or_ge mi 86).elim (fun h => ab_CT_82_86 mi h1 h) (fun h => ab_CT_86_91 mi h h2)
theorem ab_CT_73_91 : ∀ mi, 73 ≤ mi → mi < 91 → ab_CT mi := fun mi h1 h2 => (Nat.lt_or_ge mi 82).elim (fun h => ab_CT_73_82 mi h1 h) (fun h => ab_CT_82_91 mi h h2)
theorem ab_CT_91_92 : ∀ mi, 91 ≤ mi → mi < 92 → ab_CT mi := fun mi h1 h2 => by
  have e : mi = 91 := by omega
  subst e
  exact fun pc x h => ab_ct_spec ab_c91_ok rfl h
theorem ab_CT_92_93 : ∀ mi, 92 ≤ mi → mi < 93 → ab_CT mi := fun mi h1 h2 => by
  have e : mi = 92 := by omega
  subst e
  exact fun pc x h => ab_ct_spec ab_c92_ok rfl h
theorem ab_CT_91_93 : ∀ mi, 91 ≤ mi → mi < 93 → ab_CT mi := fun mi h1 h2 => (Nat.lt_or_ge mi 92).elim (fun h => ab_CT_91_92 mi h1 h) (fun h => ab_CT_92_93 mi h h2)
theorem ab_CT_93_94 : ∀ mi, 93 ≤ mi → mi < 94 → ab_CT mi := fun mi h1 h2 => by
  have e : mi = 93 := by omega
  subst e
  exact fun pc x h => ab_ct_spec ab_c93_ok rfl h
theorem ab_CT_94_95 : ∀ mi, 94 ≤ mi → mi < 95 → ab_CT mi := fun mi h1 h2 => by
  have e : mi = 94 := by omega
  subst e
  exact fun pc x h => ab_ct_spec ab_c94_ok rfl h
theorem ab_CT_93_95 : ∀ mi, 93 ≤ mi → mi < 95 → ab_CT mi := fun mi h1 h2 => (Nat.lt_or_ge mi 94).elim (fun h => ab_CT_93_94 mi h1 h) (fun h => ab_CT_94_95 mi h h2)
theorem ab_CT_91_95 : ∀ mi, 91 ≤ mi → mi < 95 → ab_CT mi := fun mi h1 h2 => (Nat.lt_or_ge mi 93).elim (fun h => ab_CT_91_93 mi h1 h) (fun h => ab_CT_93_95 mi h h2)
theorem ab_CT_95_96 : ∀ mi, 95 ≤ mi → mi < 96 → ab_CT mi := fun mi h1 h2 => by
  have e : mi = 95 := by omega
  subst e
  exact fun pc x h => ab_ct_spec ab_c95_ok rfl h
theorem ab_CT_96_97 : ∀ mi, 96 ≤ mi → mi < 97 → ab_CT mi := fun mi h1 h2 => by
  have e : mi = 96 := by omega
  subst e
  exact fun pc x h => ab_ct_spec ab_c96_ok rfl h
theorem ab_CT_95_97 : ∀ mi, 95 ≤ mi → mi < 97 → ab_CT mi := fun mi h1 h2 => (Nat.lt_or_ge mi 96).elim (fun h => ab_CT_95_96 mi h1 h) (fun h => ab_CT_96_97 mi h h2)
theorem ab_CT_97_98 : ∀ mi, 97 ≤ mi → mi < 98 → ab_CT mi := fun mi h1 h2 => by
  have e : mi = 97 := by omega
  subst e
  exact fun pc x h => ab_ct_spec ab_c97_ok rfl h
theorem ab_CT_98_99 : ∀ mi, 98 ≤ mi → mi < 99 → ab_CT mi := fun mi h1 h2 => by
  have e : mi = 98 := by omega
  subst e
  exact fun pc x h => ab_ct_spec ab_c98_ok rfl h
theorem ab_CT_99_100 : ∀ mi, 99 ≤ mi → mi < 100 → ab_CT mi := fun mi h1 h2 => by
  have e : mi = 99 := by omega
  subst e
  exact fun pc x h => ab_ct_spec ab_c99_ok rfl h
theorem ab_CT_98_100 : ∀ mi, 98 ≤ mi → mi < 100 → ab_CT mi := fun mi h1 h2 => (Nat.lt_or_ge mi 99).elim (fun h => ab_CT_98_99 mi h1 h) (fun h => ab_CT_99_100 mi h h2)
theorem ab_CT_97_100 : ∀ mi, 97 ≤ mi → mi < 100 → ab_CT mi := fun mi h1 h2 => (Nat.lt_or_ge mi 98).elim (fun h => ab_CT_97_98 mi h1 h) (fun h => ab_CT_98_100 mi h h2)
theorem ab_CT_95_100 : ∀ mi, 95 ≤ mi → mi < 100 → ab_CT mi := fun mi h1 h2 => (Nat.lt_or_ge mi 97).elim (fun h => ab_CT_95_97 mi h1 h) (fun h => ab_CT_97_100 mi h h2)
theorem ab_CT_91_100 : ∀ mi, 91 ≤ mi → mi < 100 → ab_CT mi := fun mi h1 h2 => (Nat.lt_or_ge mi 95).elim (fun h => ab_CT_91_95 mi h1 h) (fun h => ab_CT_95_100 mi h h2)
theorem ab_CT_100_101 : ∀ mi, 100 ≤ mi → mi < 101 → ab_CT mi := fun mi h1 h2 => by
  have e : mi = 100 := by omega
  subst e
  exact fun pc x h => ab_ct_spec ab_c100_ok rfl h
theorem ab_CT_101_102 : ∀ mi, 101 ≤ mi → mi < 102 → ab_CT mi := fun mi h1 h2 => by
  have e : mi = 101 := by omega
  subst e
  exact fun pc x h => ab_ct_spec ab_c101_ok rfl h
theorem ab_CT_100_102 : ∀ mi, 100 ≤ mi → mi < 102 → ab_CT mi := fun mi h1 h2 => (Nat.lt_or_ge mi 101).elim (fun h => ab_CT_100_101 mi h1 h) (fun h => ab_CT_101_102 mi h h2)
theorem ab_CT_102_103 : ∀ mi, 102 ≤ mi → mi < 103 → ab_CT mi := fun mi h1 h2 => by
  have e : mi = 102 := by omega
  subst e
  exact fun pc x h => ab_ct_spec ab_c102_ok rfl h
theorem ab_CT_103_104 : ∀ mi, 103 ≤ mi → mi < 104 → ab_CT mi := fun mi h1 h2 => by
  have e : mi = 103 := by omega
  subst e
  exact fun pc x h => ab_ct_spec ab_c103_ok rfl h
theorem ab_CT_102_104 : ∀ mi, 102 ≤ mi → mi < 104 → ab_CT mi := fun mi h1 h2 => (Nat.lt_or_ge mi 103).elim (fun h => ab_CT_102_103 mi h1 h) (fun h => ab_CT_103_104 mi h h2)
theorem ab_CT_100_104 : ∀ mi, 100 ≤ mi → mi < 104 → ab_CT mi := fun mi h1 h2 => (Nat.lt_or_ge mi 102).elim (fun h => ab_CT_100_102 mi h1 h) (fun h => ab_CT_102_104 mi h h2)
theorem ab_CT_104_105 : ∀ mi, 104 ≤ mi → mi < 105 → ab_CT mi := fun mi h1 h2 => by
  have e : mi = 104 := by omega
  subst e
  exact fun pc x h => ab_ct_spec ab_c104_ok rfl h
theorem ab_CT_105_106 : ∀ mi, 105 ≤ mi → mi < 106 → ab_CT mi := fun mi h1 h2 => by
  have e : mi = 105 := by omega
  subst e
  exact fun pc x h => ab_ct_spec ab_c105_ok rfl h
theorem ab_CT_104_106 : ∀ mi, 104 ≤ mi → mi < 106 → ab_CT mi := fun mi h1 h2 => (Nat.lt_or_ge mi 105).elim (fun h => ab_CT_104_105 mi h1 h) (fun h => ab_CT_105_106 mi h h2)
theorem ab_CT_106_107 : ∀ mi, 106 ≤ mi → mi < 107 → ab_CT mi := fun mi h1 h2 => by
  have e : mi = 106 := by omega
  subst e
  exact fun pc x h => ab_ct_spec ab_c106_ok rfl h
theorem ab_CT_107_108 : ∀ mi, 107 ≤ mi → mi < 108 → ab_CT mi := fun mi h1 h2 => by
  have e : mi = 107 := by omega
  subst e
  exact fun pc x h => ab_ct_spec ab_c107_ok rfl h
theorem ab_CT_108_109 : ∀ mi, 108 ≤ mi → mi < 109 → ab_CT mi := fun mi h1 h2 => by
  have e : mi = 108 := by omega
  subst e
  exact fun pc x h => ab_ct_spec ab_c108_ok rfl h
theorem ab_CT_107_109 : ∀ mi, 107 ≤ mi → mi < 109 → ab_CT mi := fun mi h1 h2 => (Nat.lt_or_ge mi 108).elim (fun h => ab_CT_107_108 mi h1 h) (fun h => ab_CT_108_109 mi h h2)
theorem ab_CT_106_109 : ∀ mi, 106 ≤ mi → mi < 109 → ab_CT mi := fun mi h1 h2 => (Nat.lt_or_ge mi 107).elim (fun h => ab_CT_106_107 mi h1 h) (fun h => ab_CT_107_109 mi h h2)
theorem ab_CT_104_109 : ∀ mi, 104 ≤ mi → mi < 109 → ab_CT mi := fun mi h1 h2 => (Nat.lt_or_ge mi 106).elim (fun h => ab_CT_104_106 mi h1 h) (fun h => ab_CT_106_109 mi h h2)
theorem ab_CT_100_109 : ∀ mi, 100 ≤ mi → mi < 109 → ab_CT mi := fun mi h1 h2 => (Nat.lt_or_ge mi 104).elim (fun h => ab_CT_100_104 mi h1 h) (fun h => ab_CT_104_109 mi h h2)
theorem ab_CT_91_109 : ∀ mi, 91 ≤ mi → mi < 109 → ab_CT mi := fun mi h1 h2 => (Nat.lt_or_ge mi 100).elim (fun h => ab_CT_91_100 mi h1 h) (fun h => ab_CT_100_109 mi h h2)
theorem ab_CT_73_109 : ∀ mi, 73 ≤ mi → mi < 109 → ab_CT mi := fun mi h1 h2 => (Nat.lt_or_ge mi 91).elim (fun h => ab_CT_73_91 mi h1 h) (fun h => ab_CT_91_109 mi h h2)
theorem ab_CT_109_110 : ∀ mi, 109 ≤ mi → mi < 110 → ab_CT mi := fun mi h1 h2 => by
  have e : mi = 109 := by omega
  subst e
  exact fun pc x h => ab_ct_spec ab_c109_ok rfl h
theorem ab_CT_110_111 : ∀ mi, 110 ≤ mi → mi < 111 → ab_CT mi := fun mi h1 h2 => by
  have e : mi = 110 := by omega
  subst e
  exact fun pc x h => ab_ct_spec ab_c110_ok rfl h
theorem ab_CT_109_111 : ∀ mi, 109 ≤ mi → mi < 111 → ab_CT mi := fun mi h1 h2 => (Nat.lt_or_ge mi 110).elim (fun h => ab_CT_109_110 mi h1 h) (fun h => ab_CT_110_111 mi h h2)
theorem ab_CT_111_112 : ∀ mi, 111 ≤ mi → mi < 112 → ab_CT mi := fun mi h1 h2 => by
  have e : mi = 111 := by omega
  subst e
  exact fun pc x h => ab_ct_spec ab_c111_ok rfl h
theorem ab_CT_112_113 : ∀ mi, 112 ≤ mi → mi < 113 → ab_CT mi := fun mi h1 h2 => by
  have e : mi = 112 := by omega
  subst e
  exact fun pc x h => ab_ct_spec ab_c112_ok rfl h
theorem ab_CT_111_113 : ∀ mi, 111 ≤ mi → mi < 113 → ab_CT mi := fun mi h1 h2 => (Nat.lt_or_ge mi 112).elim (fun h => ab_CT_111_112 mi h1 h) (fun h => ab_CT_112_113 mi h h2)
theorem ab_CT_109_113 : ∀ mi, 109 ≤ mi → mi < 113 → ab_CT mi := fun mi h1 h2 => (Nat.lt_or_ge mi 111).elim (fun h => ab_CT_109_111 mi h1 h) (fun h => ab_CT_111_113 mi h h2)
theorem ab_CT_113_114 : ∀ mi, 113 ≤ mi → mi < 114 → ab_CT mi := fun mi h1 h2 => by
  have e : mi = 113 := by omega
  subst e
  exact fun pc x h => ab_ct_spec ab_c113_ok rfl h
theorem ab_CT_114_115 : ∀ mi, 114 ≤ mi → mi < 115 → ab_CT mi := fun mi h1 h2 => by
  have e : mi = 114 := by omega
  subst e
  exact fun pc x h => ab_ct_spec ab_c114_ok rfl h
theorem ab_CT_113_115 : ∀ mi, 113 ≤ mi → mi < 115 → ab_CT mi := fun mi h1 h2 => (Nat.lt_or_ge mi 114).elim (fun h => ab_CT_113_114 mi h1 h) (fun h => ab_CT_114_115 mi h h2)
theorem ab_CT_115_116 : ∀ mi, 115 ≤ mi → mi < 116 → ab_CT mi := fun mi h1 h2 => by
  have e : mi = 115 := by omega
  subst e
  exact fun pc x h => ab_ct_spec ab_c115_ok rfl h
theorem ab_CT_116_117 : ∀ mi, 116 ≤ mi → mi < 117 → ab_CT mi := fun mi h1 h2 => by
  have e : mi = 116 := by omega
  subst e
  exact fun pc x h => ab_ct_spec ab_c116_ok rfl h
theorem ab_CT_117_118 : ∀ mi, 117 ≤ mi → mi < 118 → ab_CT mi := fun mi h1 h2 => by
  have e : mi = 117 := by omega
  subst e
  exact fun pc x h => ab_ct_spec ab_c117_ok rfl h
theorem ab_CT_116_118 : ∀ mi, 116 ≤ mi → mi < 118 → ab_CT mi := fun mi h1 h2 => (Nat.lt_or_ge mi 117).elim (fun h => ab_CT_116_117 mi h1 h) (fun h => ab_CT_117_118 mi h h2)
theorem ab_CT_115_118 : ∀ mi, 115 ≤ mi → mi < 118 → ab_CT mi := fun mi h1 h2 => (Nat.lt_or_ge mi 116).elim (fun h => ab_CT_115_116 mi h1 h) (fun h => ab_CT_116_118 mi h h2)
theorem ab_CT_113_118 : ∀ mi, 113 ≤ mi → mi < 118 → ab_CT mi := fun mi h1 h2 => (Nat.lt_or_ge mi 115).elim (fun h => ab_CT_113_115 mi h1 h) (fun h => ab_CT_115_118 mi h h2)
theorem ab_CT_109_118 : ∀ mi, 109 ≤ mi → mi < 118 → ab_CT mi := fun mi h1 h2 => (Nat.lt_or_ge mi 113).elim (fun h => ab_CT_109_113 mi h1 h) (fun h => ab_CT_113_118 mi h h2)
theorem ab_CT_118_119 : ∀ mi, 118 ≤ mi → mi < 119 → ab_CT mi := fun mi h1 h2 => by
  have e : mi = 118 := by omega
  subst e
  exact fun pc x h => ab_ct_spec ab_c118_ok rfl h
theorem ab_CT_119_120 : ∀ mi, 119 ≤ mi → mi < 120 → ab_CT mi := fun mi h1 h2 => by
  have e : mi = 119 := by omega
  subst e
  exact fun pc x h => ab_ct_spec ab_c119_ok rfl h
theorem ab_CT_118_120 : ∀ mi, 118 ≤ mi → mi < 120 → ab_CT mi := fun mi h1 h2 => (Nat.lt_or_ge mi 119).elim (fun h => ab_CT_118_119 mi h1 h) (fun h => ab_CT_119_120 mi h h2)
theorem ab_CT_120_121 : ∀ mi, 120 ≤ mi → mi < 121 → ab_CT mi := fun mi h1 h2 => by
  have e : mi = 120 := by omega
  subst e
  exact fun pc x h => ab_ct_spec ab_c120_ok rfl h
theorem ab_CT_121_122 : ∀ mi, 121 ≤ mi → mi < 122 → ab_CT mi := fun mi h1 h2 => by
  have e : mi = 121 := by omega
  subst e
  exact fun pc x h => ab_ct_spec ab_c121_ok rfl h
theorem ab_CT_120_122 : ∀ mi, 120 ≤ mi → mi < 122 → ab_CT mi := fun mi h1 h2 => (Nat.lt_or_ge mi 121).elim (fun h => ab_CT_120_121 mi h1 h) (fun h => ab_CT_121_122 mi h h2)
theorem ab_CT_118_122 : ∀ mi, 118 ≤ mi → mi < 122 → ab_CT mi := fun mi h1 h2 => (Nat.lt_or_ge mi 120).elim (fun h => ab_CT_118_120 mi h1 h) (fun h => ab_CT_120_122 mi h h2)
theorem ab_CT_122_123 : ∀ mi, 122 ≤ mi → mi < 123 → ab_CT mi := fun mi h1 h2 => by
  have e : mi = 122 := by omega
  subst e
  exact fun pc x h => ab_ct_spec ab_c122_ok rfl h
theorem ab_CT_123_124 : ∀ mi, 123 ≤ mi → mi < 124 → ab_CT mi := fun mi h1 h2 => by
  have e : mi = 123 := by omega
  subst e
  exact fun pc x h => ab_ct_spec ab_c123_ok rfl h
theorem ab_CT_122_124 : ∀ mi, 122 ≤ mi → mi < 124 → ab_CT mi := fun mi h1 h2 => (Nat.lt_or_ge mi 123).elim (fun h => ab_CT_122_123 mi h1 h) (fun h => ab_CT_123_124 mi h h2)
theorem ab_CT_124_125 : ∀ mi, 124 ≤ mi → mi < 125 → ab_CT mi := fun mi h1 h2 => by
  have e : mi = 124 := by omega
  subst e
  exact fun pc x h => ab_ct_spec ab_c124_ok rfl h
theorem ab_CT_125_126 : ∀ mi, 125 ≤ mi → mi < 126 → ab_CT mi := fun mi h1 h2 => by
  have e : mi = 125 := by omega
  subst e
  exact fun pc x h => ab_ct_spec ab_c125_ok rfl h
theorem ab_CT_126_127 : ∀ mi, 126 ≤ mi → mi < 127 → ab_CT mi := fun mi h1 h2 => by
  have e : mi = 126 := by omega
  subst e
  exact fun pc x h => ab_ct_spec ab_c126_ok rfl h
theorem ab_CT_125_127 : ∀ mi, 125 ≤ mi → mi < 127 → ab_CT mi := fun mi h1 h2 => (Nat.lt_or_ge mi 126).elim (fun h => ab_CT_125_126 mi h1 h) (fun h => ab_CT_126_127 mi h h2)
theorem ab_CT_124_127 : ∀ mi, 124 ≤ mi → mi < 127 → ab_CT mi := fun mi h1 h2 => (Nat.lt_or_ge mi 125).elim (fun h => ab_CT_124_125 mi h1 h) (fun h => ab_CT_125_127 mi h h2)
theorem ab_CT_122_127 : ∀ mi, 122 ≤ mi → mi < 127 → ab_CT mi := fun mi h1 h2 => (Nat.lt_or_ge mi 124).elim (fun h => ab_CT_122_124 mi h1 h) (fun h => ab_CT_124_127 mi h h2)
theorem ab_CT_118_127 : ∀ mi, 118 ≤ mi → mi < 127 → ab_CT mi := fun mi h1 h2 => (Nat.lt_or_ge mi 122).elim (fun h => ab_CT_118_122 mi h1 h) (fun h => ab_CT_122_127 mi h h2)
theorem ab_CT_109_127 : ∀ mi, 109 ≤ mi → mi < 127 → ab_CT mi := fun mi h1 h2 => (Nat.lt_or_ge mi 118).elim (fun h => ab_CT_109_118 mi h1 h) (fun h => ab_CT_118_127 mi h h2)
theorem ab_CT_127_128 : ∀ mi, 127 ≤ mi → mi < 128 → ab_CT mi := fun mi h1 h2 => by
  have e : mi = 127 := by omega
  subst e
  exact fun pc x h => ab_ct_spec ab_c127_ok rfl h
theorem ab_CT_128_129 : ∀ mi, 128 ≤ mi → mi < 129 → ab_CT mi := fun mi h1 h2 => by
  have e : mi = 128 := by omega
  subst e
  exact fun pc x h => ab_ct_spec ab_c128_ok rfl h
theorem ab_CT_127_129 : ∀ mi, 127 ≤ mi → mi < 129 → ab_CT mi := fun mi h1 h2 => (Nat.lt_or_ge mi 128).elim (fun h => ab_CT_127_128 mi h1 h) (fun h => ab_CT_128_129 mi h h2)
theorem ab_CT_129_130 : ∀ mi, 129 ≤ mi → mi < 130 → ab_CT mi := fun mi h1 h2 => by
  have e : mi = 129 := by omega
  subst e
  exact fun pc x h => ab_ct_spec ab_c129_ok rfl h
theorem ab_CT_130_131 : ∀ mi, 130 ≤ mi → mi < 131 → ab_CT mi := fun mi h1 h2 => by
  have e : mi = 130 := by omega
  subst e
  exact fun pc x h => ab_ct_spec ab_c130_ok rfl h
theorem ab_CT_129_131 : ∀ mi, 129 ≤ mi → mi < 131 → ab_CT mi := fun mi h1 h2 => (Nat.lt_or_ge mi 130).elim (fun h => ab_CT_129_130 mi h1 h) (fun h => ab_CT_130_131 mi h h2)
theorem ab_CT_127_131 : ∀ mi, 127 ≤ mi → mi < 131 → ab_CT mi := fun mi h1 h2 => (Nat.lt_or_ge mi 129).elim (fun h => ab_CT_127_129 mi h1 h) (fun h => ab_CT_129_131 mi h h2)
theorem ab_CT_131_132 : ∀ mi, 131 ≤ mi → mi < 132 → ab_CT mi := fun mi h1 h2 => by
  have e : mi = 131 := by omega
  subst e
  exact fun pc x h => ab_ct_spec ab_c131_ok rfl h
theorem ab_CT_132_133 : ∀ mi, 132 ≤ mi → mi < 133 → ab_CT mi := fun mi h1 h2 => by
  have e : mi = 132 := by omega
  subst e
  exact fun pc x h => ab_ct_spec ab_c132_ok rfl h
theorem ab_CT_131_133 : ∀ mi, 131 ≤ mi → mi < 133 → ab_CT mi := fun mi h1 h2 => (Nat.lt_or_ge mi 132).elim (fun h => ab_CT_131_132 mi h1 h) (fun h => ab_CT_132_133 mi h h2)
theorem ab_CT_133_134 : ∀ mi, 133 ≤ mi → mi < 134 → ab_CT mi := fun mi h1 h2 => by
  have e : mi = 133 := by omega
  subst e
  exact fun pc x h => ab_ct_spec ab_c133_ok rfl h
theorem ab_CT_134_135 : ∀ mi, 134 ≤ mi → mi < 135 → ab_CT mi := fun mi h1 h2 => by
  have e : mi = 134 := by omega
  subst e
  exact fun pc x h => ab_ct_spec ab_c134_ok rfl h
theorem ab_CT_135_136 : ∀ mi, 135 ≤ mi → mi < 136 → ab_CT mi := fun mi h1 h2 => by
  have e : mi = 135 := by omega
  subst e
  exact fun pc x h => ab_ct_spec ab_c135_ok rfl h
theorem ab_CT_134_136 : ∀ mi, 134 ≤ mi → mi < 136 → ab_CT mi := fun mi h1 h2 => (Nat.lt_or_ge mi 135).elim (fun h => ab_CT_134_135 mi h1 h) (fun h => ab_CT_135_136 mi h h2)
theorem ab_CT_133_136 : ∀ mi, 133 ≤ mi → mi < 136 → ab_CT mi := fun mi h1 h2 => (Nat.lt_or_ge mi 134).elim (fun h => ab_CT_133_134 mi h1 h) (fun h => ab_CT_134_136 mi h h2)
theorem ab_CT_131_136 : ∀ mi, 131 ≤ mi → mi < 136 → ab_CT mi := fun mi h1 h2 => (Nat.lt_or_ge mi 133).elim (fun h => ab_CT_131_133 mi h1 h) (fun h => ab_CT_133_136 mi h h2)
theorem ab_CT_127_136 : ∀ mi, 127 ≤ mi → mi < 136 → ab_CT mi := fun mi h1 h2 => (Nat.lt_or_ge mi 131).elim (fun h => ab_CT_127_131 mi h1 h) (fun h => ab_CT_131_136 mi h h2)
theorem ab_CT_136_137 : ∀ mi, 136 ≤ mi → mi < 137 → ab_CT mi := fun mi h1 h2 => by
  have e : mi = 136 := by omega
  subst e
  exact fun pc x h => ab_ct_spec ab_c136_ok rfl h
theorem ab_CT_137_138 : ∀ mi, 137 ≤ mi → mi < 138 → ab_CT mi := fun mi h1 h2 => by
  have e : mi = 137 := by omega
  subst e
  exact fun pc x h => ab_ct_spec ab_c137_ok rfl h
theorem ab_CT_136_138 : ∀ mi, 136 ≤ mi → mi < 138 → ab_CT mi := fun mi h1 h2 => (Nat.lt_or_ge mi 137).elim (fun h => ab_CT_136_137 mi h1 h) (fun h => ab_CT_137_138 mi h h2)
theorem ab_CT_138_139 : ∀ mi, 138 ≤ mi → mi < 139 → ab_CT mi := fun mi h1 h2 => by
  have e : mi = 138 := by omega
  subst e
  exact fun pc x h => ab_ct_spec ab_c138_ok rfl h
theorem ab_CT_139_140 : ∀ mi, 139 ≤ mi → mi < 140 → ab_CT mi := fun mi h1 h2 => by
  have e : mi = 139 := by omega
  subst e
  exact fun pc x h => ab_ct_spec ab_c139_ok rfl h
theorem ab_CT_140_141 : ∀ mi, 140 ≤ mi → mi < 141 → ab_CT mi := fun mi h1 h2 => by
  have e : mi = 140 := by omega
  subst e
  exact fun pc x h => ab_ct_spec ab_c140_ok rfl h
theorem ab_CT_139_141 : ∀ mi, 139 ≤ mi → mi < 141 → ab_CT mi := fun mi h1 h2 => (Nat.lt_or_ge mi 140).elim (fun h => ab_CT_139_140 mi h1 h) (fun h => ab_CT_140_141 mi h h2)
theorem ab_CT_138_141 : ∀ mi, 138 ≤ mi → mi < 141 → ab_CT mi := fun mi h1 h2 => (Nat.lt_or_ge mi 139).elim (fun h => ab_CT_138_139 mi h1 h) (fun h => ab_CT_139_141 mi h h2)
theorem ab_CT_136_141 : ∀ mi, 136 ≤ mi → mi < 141 → ab_CT mi := fun mi h1 h2 => (Nat.lt_or_ge mi 138).elim (fun h => ab_CT_136_138 mi h1 h) (fun h => ab_CT_138_141 mi h h2)
theorem ab_CT_141_142 : ∀ mi, 141 ≤ mi → mi < 142 → ab_CT mi := fun mi h1 h2 => by
  have e : mi = 141 := by omega
  subst e
  exact fun pc x h => ab_ct_spec ab_c141_ok rfl h
theorem ab_CT_142_143 : ∀ mi, 142 ≤ mi → mi < 143 → ab_CT mi := fun mi h1 h2 => by
  have e : mi = 142 := by omega
  subst e
  exact fun pc x h => ab_ct_spec ab_c142_ok rfl h
theorem ab_CT_141_143 : ∀ mi, 141 ≤ mi → mi < 143 → ab_CT mi := fun mi h1 h2 => (Nat.lt_or_ge mi 142).elim (fun h => ab_CT_141_142 mi h1 h) (fun h => ab_CT_142_143 mi h h2)
theorem ab_CT_143_144 : ∀ mi, 143 ≤ mi → mi < 144 → ab_CT mi := fun mi h1 h2 => by
  have e : mi = 143 := by omega
  subst e
  exact fun pc x h => ab_ct_spec ab_c143_ok rfl h
theorem ab_CT_144_145 : ∀ mi, 144 ≤ mi → mi < 145 → ab_CT mi := fun mi h1 h2 => by
  have e : mi = 144 := by omega
  subst e
  exact fun pc x h => ab_ct_spec ab_c144_ok rfl h
theorem ab_CT_145_146 : ∀ mi, 145 ≤ mi → mi < 146 → ab_CT mi := fun mi h1 h2 => by
  have e : mi = 145 := by omega
  subst e
  exact fun pc x h => ab_ct_spec ab_c145_ok rfl h
theorem ab_CT_144_146 : ∀ mi, 144 ≤ mi → mi < 146 → ab_CT mi := fun mi h1 h2 => (Nat.lt_or_ge mi 145).elim (fun h => ab_CT_144_145 mi h1 h) (fun h => ab_CT_145_146 mi h h2)
theorem ab_CT_143_146 : ∀ mi, 143 ≤ mi → mi < 146 → ab_CT mi := fun mi h1 h2 => (Nat.lt_or_ge mi 144).elim (fun h => ab_CT_143_144 mi h1 h) (fun h => ab_CT_144_146 mi h h2)
theorem ab_CT_141_146 : ∀ mi, 141 ≤ mi → mi < 146 → ab_CT mi := fun mi h1 h2 => (Nat.lt_or_ge mi 143).elim (fun h => ab_CT_141_143 mi h1 h) (fun h => ab_CT_143_146 mi h h2)
theorem ab_CT_136_146 : ∀ mi, 136 ≤ mi → mi < 146 → ab_CT mi := fun mi h1 h2 => (Nat.lt_or_ge mi 141).elim (fun h => ab_CT_136_141 mi h1 h) (fun h => ab_CT_141_146 mi h h2)
theorem ab_CT_127_146 : ∀ mi, 127 ≤ mi → mi < 146 → ab_CT mi := fun mi h1 h2 => (Nat.lt_or_ge mi 136).elim (fun h => ab_CT_127_136 mi h1 h) (fun h => ab_CT_136_146 mi h h2)
theorem ab_CT_109_146 : ∀ mi, 109 ≤ mi → mi < 146 → ab_CT mi := fun mi h1 h2 => (Nat.lt_or_ge mi 127).elim (fun h => ab_CT_109_127 mi h1 h) (fun h => ab_CT_127_146 mi h h2)
theorem ab_CT_73_146 : ∀ mi, 73 ≤ mi → mi < 146 → ab_CT mi := fun mi h1 h2 => (Nat.lt_or_ge mi 109).elim (fun h => ab_CT_73_109 mi h1 h) (fun h => ab_CT_109_146 mi h h2)
theorem ab_CT_0_146 : ∀ mi, 0 ≤ mi → mi < 146 → ab_CT mi := fun mi h1 h2 => (Nat.lt_or_ge mi 73).elim (fun h => ab_CT_0_73 mi h1 h) (fun h => ab_CT_73_146 mi h h2)
