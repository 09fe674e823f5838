/-! THE LAW, a call of both at a time -/
section LWC
variable {xs : List Int32} {i : Int32} {I : Nat → Nat → Int32} {J : Nat → Nat → Int64} {s : VS} {Q : Option Value → ab_H → Prop}
def lw_K (xs : List Int32) (i : Int32) (Q : Option Value → ab_H → Prop) : Prop := ∀ (s : VS) (I : Nat → Nat → Int32) (J : Nat → Nat → Int64), OS s → SC s I J → SM s I J → LR xs (1068, LL i, [], (SH, I, J)) Q
theorem lw_c_feed (ok : OS s) (hC : SC s I J) (hM : SM s I J) (hb : lw_B xs i) (K : lw_K xs i Q) : LR xs (172, LL i, [], (SH, I, J)) Q := by
  refine lr_int (p := 172) (k := 1) (ic := 13) (im := 17) (mc := 96) (mm := 134) (off := 878) (by decide +kernel) (by decide +kernel) (by decide) hb ?_
  show Ex 96 [.ref 0, .int (lw_x xs i 1)] (SH, I, J) _
  refine C_feed ok hC _ (fun I1 J1 c1 f1 => ⟨I1, J1, _, rfl, rfl, ?_⟩)
  show Ex 134 [.ref 199, .int (lw_x xs i 1)] (SH, I1, J1) _
  refine M_feed ok (SM_fr ok f1 hM) _ (fun I2 J2 m2 f2 => ⟨I2, J2, rfl, rfl, ?_⟩)
  exact K _ I2 J2 (OS_feed ok _) (SC_fr (OS_feed ok _) f2 c1) m2
theorem lw_c_end (ok : OS s) (hC : SC s I J) (hM : SM s I J) (hb : lw_B xs i) (K : lw_K xs i Q) : LR xs (195, LL i, [], (SH, I, J)) Q := by
  refine lr_int (p := 195) (k := 1) (ic := 18) (im := 21) (mc := 97) (mm := 135) (off := 855) (by decide +kernel) (by decide +kernel) (by decide) hb ?_
  show Ex 97 [.ref 0, .int (lw_x xs i 1)] (SH, I, J) _
  refine C_end ok hC _ (fun I1 J1 c1 f1 => ⟨I1, J1, _, rfl, rfl, ?_⟩)
  show Ex 135 [.ref 199, .int (lw_x xs i 1)] (SH, I1, J1) _
  refine M_end ok (SM_fr ok f1 hM) _ (fun I2 J2 m2 f2 => ⟨I2, J2, rfl, rfl, ?_⟩)
  exact K _ I2 J2 (OS_end ok _) (SC_fr (OS_end ok _) f2 c1) m2
theorem lw_c_text (ok : OS s) (hC : SC s I J) (hM : SM s I J) (hb : lw_B xs i) (K : lw_K xs i Q) : LR xs (218, LL i, [], (SH, I, J)) Q := by
  refine lr_int (p := 218) (k := 0) (ic := 22) (im := 26) (mc := 98) (mm := 146) (off := 842) (by decide +kernel) (by decide +kernel) (by decide) hb ?_
  show Ex 98 [.ref 0] (SH, I, J) _
  refine C_text ok hC (HW_ok ok.2.2.1.1 ok.2.2.1.2 J) (fun I1 J1 c1 f1 => ⟨I1, J1, _, rfl, rfl, ?_⟩)
  show Ex 146 [.ref 199] (SH, I1, J1) _
  refine M_text ok (SM_fr ok f1 hM) (fun I2 J2 m2 f2 => ⟨I2, J2, rfl, rfl, ?_⟩)
  exact K _ I2 J2 (OS_text ok) (SC_fr (OS_text ok) f2 c1) m2
theorem lw_c_fault (ok : OS s) (hC : SC s I J) (hM : SM s I J) (hb : lw_B xs i) (K : lw_K xs i Q) : LR xs (231, LL i, [], (SH, I, J)) Q := by
  refine lr_int (p := 231) (k := 0) (ic := 27) (im := 30) (mc := 99) (mm := 147) (off := 829) (by decide +kernel) (by decide +kernel) (by decide) hb ?_
  show Ex 99 [.ref 0] (SH, I, J) _
  rw [C_fault hC]
  refine ⟨I, J, _, rfl, rfl, ?_⟩
  show Ex 147 [.ref 199] (SH, I, J) _
  rw [M_fault hM]
  exact ⟨I, J, rfl, rfl, K s I J ok hC hM⟩
theorem lw_c_rule (ok : OS s) (hC : SC s I J) (hM : SM s I J) (hb : lw_B xs i) (K : lw_K xs i Q) : LR xs (244, LL i, [], (SH, I, J)) Q := by
  refine lr_int (p := 244) (k := 1) (ic := 31) (im := 34) (mc := 100) (mm := 162) (off := 806) (by decide +kernel) (by decide +kernel) (by decide) hb ?_
  show Ex 100 [.ref 0, .int (lw_x xs i 1)] (SH, I, J) _
  rw [c_rule is73 ok.1.1 ok.1.2.1 hC.1.1 hC.1.2 sf_0_9]
  refine ⟨I, J, _, rfl, rfl, ?_⟩
  show Ex 162 [.ref 199, .int (lw_x xs i 1)] (SH, I, J) _
  rw [m_rule ok.1.1 ok.1.2.1 hM.1.1 hM.1.2]
  exact ⟨I, J, rfl, rfl, K s I J ok hC hM⟩
theorem lw_c_block (ok : OS s) (hC : SC s I J) (hM : SM s I J) (hb : lw_B xs i) (K : lw_K xs i Q) : LR xs (267, LL i, [], (SH, I, J)) Q := by
  refine lr_int (p := 267) (k := 2) (ic := 35) (im := 39) (mc := 101) (mm := 164) (off := 773) (by decide +kernel) (by decide +kernel) (by decide) hb ?_
  show Ex 101 [.ref 0, .int (lw_x xs i 1), .int (lw_x xs i 2)] (SH, I, J) _
  rw [c_block is73 ok.1.1 ok.1.2.1 hC.1.1 hC.1.2 sf_0_9]
  refine ⟨I, J, _, rfl, rfl, ?_⟩
  show Ex 164 [.ref 199, .int (lw_x xs i 1), .int (lw_x xs i 2)] (SH, I, J) _
  rw [m_block ok.1.1 ok.1.2.1 hM.1.1 hM.1.2 ok.1.2.2.1]
  exact ⟨I, J, rfl, rfl, K s I J ok hC hM⟩
theorem lw_c_pred (ok : OS s) (hC : SC s I J) (hM : SM s I J) (hb : lw_B xs i) (K : lw_K xs i Q) : LR xs (300, LL i, [], (SH, I, J)) Q := by
  refine lr_int (p := 300) (k := 2) (ic := 40) (im := 43) (mc := 102) (mm := 165) (off := 740) (by decide +kernel) (by decide +kernel) (by decide) hb ?_
  show Ex 102 [.ref 0, .int (lw_x xs i 1), .int (lw_x xs i 2)] (SH, I, J) _
  rw [c_pred is73 ok.1.1 ok.1.2.1 hC.1.1 hC.1.2 sf_0_9]
  refine ⟨I, J, _, rfl, rfl, ?_⟩
  show Ex 165 [.ref 199, .int (lw_x xs i 1), .int (lw_x xs i 2)] (SH, I, J) _
  rw [m_pred ok.1.1 ok.1.2.1 hM.1.1 hM.1.2]
  exact ⟨I, J, rfl, rfl, K s I J ok hC hM⟩
theorem lw_c_name (ok : OS s) (hC : SC s I J) (hM : SM s I J) (hb : lw_B xs i) (K : lw_K xs i Q) : LR xs (333, LL i, [], (SH, I, J)) Q := by
  refine lr_int (p := 333) (k := 2) (ic := 44) (im := 47) (mc := 103) (mm := 166) (off := 707) (by decide +kernel) (by decide +kernel) (by decide) hb ?_
  show Ex 103 [.ref 0, .int (lw_x xs i 1), .int (lw_x xs i 2)] (SH, I, J) _
  rw [c_name is73 ok.1.1 ok.1.2.1 hC.1.1 hC.1.2 sf_0_9]
  refine ⟨I, J, _, rfl, rfl, ?_⟩
  show Ex 166 [.ref 199, .int (lw_x xs i 1), .int (lw_x xs i 2)] (SH, I, J) _
  rw [m_name ok.1.1 ok.1.2.1 hM.1.1 hM.1.2]
  exact ⟨I, J, rfl, rfl, K s I J ok hC hM⟩
theorem lw_c_operand (ok : OS s) (hC : SC s I J) (hM : SM s I J) (hb : lw_B xs i) (K : lw_K xs i Q) : LR xs (366, LL i, [], (SH, I, J)) Q := by
  refine lr_int (p := 366) (k := 2) (ic := 48) (im := 51) (mc := 104) (mm := 168) (off := 674) (by decide +kernel) (by decide +kernel) (by decide) hb ?_
  show Ex 104 [.ref 0, .int (lw_x xs i 1), .int (lw_x xs i 2)] (SH, I, J) _
  rw [c_operand is73 ok.1.1 ok.1.2.1 hC.1.1 hC.1.2 sf_0_9]
  refine ⟨I, J, _, rfl, rfl, ?_⟩
  show Ex 168 [.ref 199, .int (lw_x xs i 1), .int (lw_x xs i 2)] (SH, I, J) _
  rw [m_operand ok.1.1 ok.1.2.1 hM.1.1 hM.1.2]
  exact ⟨I, J, rfl, rfl, K s I J ok hC hM⟩
theorem lw_c_seen (ok : OS s) (hC : SC s I J) (hM : SM s I J) (hb : lw_B xs i) (K : lw_K xs i Q) : LR xs (399, LL i, [], (SH, I, J)) Q := by
  refine lr_int (p := 399) (k := 2) (ic := 52) (im := 55) (mc := 105) (mm := 169) (off := 641) (by decide +kernel) (by decide +kernel) (by decide) hb ?_
  show Ex 105 [.ref 0, .int (lw_x xs i 1), .int (lw_x xs i 2)] (SH, I, J) _
  rw [c_seen is73 ok.1.1 ok.1.2.1 hC.1.1 hC.1.2 sf_0_9]
  refine ⟨I, J, _, rfl, rfl, ?_⟩
  show Ex 169 [.ref 199, .int (lw_x xs i 1), .int (lw_x xs i 2)] (SH, I, J) _
  rw [m_seen ok.1.1 ok.1.2.1 hM.1.1 hM.1.2]
  exact ⟨I, J, rfl, rfl, K s I J ok hC hM⟩
theorem lw_c_run (ok : OS s) (hC : SC s I J) (hM : SM s I J) (hb : lw_B xs i) (K : lw_K xs i Q) : LR xs (432, LL i, [], (SH, I, J)) Q := by
  refine lr_long (p := 432) (k := 4) (ic := 56) (im := 60) (mc := 106) (mm := 176) (off := 587) (by decide +kernel) (by decide +kernel) (by decide +kernel) (by decide) hb ?_
  show Ex 106 [.ref 0, .int (lw_x xs i 1), .int (lw_x xs i 2), .int (lw_x xs i 3), .int (lw_x xs i 4)] (SH, I, J) _
  refine C_run ok hC _ _ _ _ (fun I1 J1 c1 f1 => ⟨I1, J1, _, rfl, rfl, ?_⟩)
  show Ex 176 [.ref 199, .int (lw_x xs i 1), .int (lw_x xs i 2), .int (lw_x xs i 3), .int (lw_x xs i 4)] (SH, I1, J1) _
  refine M_run ok (SM_fr ok f1 hM) _ _ _ _ (fun I2 J2 m2 f2 => ⟨I2, J2, rfl, rfl, ?_⟩)
  exact K _ I2 J2 (OS_ru ok _) (SC_fr (OS_ru ok _) f2 c1) m2
theorem lw_c_value (ok : OS s) (hC : SC s I J) (hM : SM s I J) (hb : lw_B xs i) (K : lw_K xs i Q) : LR xs (486, LL i, [], (SH, I, J)) Q := by
  refine lr_long (p := 486) (k := 1) (ic := 61) (im := 65) (mc := 107) (mm := 177) (off := 563) (by decide +kernel) (by decide +kernel) (by decide +kernel) (by decide) hb ?_
  show Ex 107 [.ref 0, .int (lw_x xs i 1)] (SH, I, J) _
  rw [C_value ok hC]
  refine ⟨I, J, _, rfl, rfl, ?_⟩
  show Ex 177 [.ref 199, .int (lw_x xs i 1)] (SH, I, J) _
  rw [M_value ok hM]
  exact ⟨I, J, rfl, rfl, K s I J ok hC hM⟩
theorem lw_c_went (ok : OS s) (hC : SC s I J) (hM : SM s I J) (hb : lw_B xs i) (K : lw_K xs i Q) : LR xs (510, LL i, [], (SH, I, J)) Q := by
  refine lr_int (p := 510) (k := 1) (ic := 66) (im := 69) (mc := 108) (mm := 178) (off := 540) (by decide +kernel) (by decide +kernel) (by decide) hb ?_
  show Ex 108 [.ref 0, .int (lw_x xs i 1)] (SH, I, J) _
  rw [C_went hC]
  refine ⟨I, J, _, rfl, rfl, ?_⟩
  show Ex 178 [.ref 199, .int (lw_x xs i 1)] (SH, I, J) _
  rw [M_went hM]
  exact ⟨I, J, rfl, rfl, K s I J ok hC hM⟩
theorem lw_c_classes (ok : OS s) (hC : SC s I J) (hM : SM s I J) (hb : lw_B xs i) (K : lw_K xs i Q) : LR xs (533, LL i, [], (SH, I, J)) Q := by
  refine lr_int (p := 533) (k := 1) (ic := 70) (im := 73) (mc := 109) (mm := 183) (off := 517) (by decide +kernel) (by decide +kernel) (by decide) hb ?_
  show Ex 109 [.ref 0, .int (lw_x xs i 1)] (SH, I, J) _
  refine C_classes ok hC _ (fun I1 J1 c1 f1 => ⟨I1, J1, _, rfl, rfl, ?_⟩)
  show Ex 183 [.ref 199, .int (lw_x xs i 1)] (SH, I1, J1) _
  refine M_classes ok (SM_fr ok f1 hM) _ (fun I2 J2 m2 f2 => ⟨I2, J2, rfl, rfl, ?_⟩)
  exact K s I2 J2 ok (SC_fr ok f2 c1) m2
theorem lw_c_part (ok : OS s) (hC : SC s I J) (hM : SM s I J) (hb : lw_B xs i) (K : lw_K xs i Q) : LR xs (556, LL i, [], (SH, I, J)) Q := by
  refine lr_int (p := 556) (k := 1) (ic := 74) (im := 77) (mc := 110) (mm := 184) (off := 494) (by decide +kernel) (by decide +kernel) (by decide) hb ?_
  show Ex 110 [.ref 0, .int (lw_x xs i 1)] (SH, I, J) _
  refine C_part ok hC _ (fun I1 J1 c1 f1 => ⟨I1, J1, _, rfl, rfl, ?_⟩)
  show Ex 184 [.ref 199, .int (lw_x xs i 1)] (SH, I1, J1) _
  refine M_part ok (SM_fr ok f1 hM) _ (fun I2 J2 m2 f2 => ⟨I2, J2, rfl, rfl, ?_⟩)
  exact K s I2 J2 ok (SC_fr ok f2 c1) m2
theorem lw_c_partAt (ok : OS s) (hC : SC s I J) (hM : SM s I J) (hb : lw_B xs i) (K : lw_K xs i Q) : LR xs (579, LL i, [], (SH, I, J)) Q := by
  refine lr_int (p := 579) (k := 2) (ic := 78) (im := 81) (mc := 111) (mm := 185) (off := 461) (by decide +kernel) (by decide +kernel) (by decide) hb ?_
  show Ex 111 [.ref 0, .int (lw_x xs i 1), .int (lw_x xs i 2)] (SH, I, J) _
  refine C_partAt ok hC _ _ (fun I1 J1 c1 f1 => ⟨I1, J1, _, rfl, rfl, ?_⟩)
  show Ex 185 [.ref 199, .int (lw_x xs i 1), .int (lw_x xs i 2)] (SH, I1, J1) _
  refine M_partAt ok (SM_fr ok f1 hM) _ _ (fun I2 J2 m2 f2 => ⟨I2, J2, rfl, rfl, ?_⟩)
  exact K s I2 J2 ok (SC_fr ok f2 c1) m2
theorem lw_c_leader (ok : OS s) (hC : SC s I J) (hM : SM s I J) (hb : lw_B xs i) (K : lw_K xs i Q) : LR xs (612, LL i, [], (SH, I, J)) Q := by
  refine lr_int (p := 612) (k := 1) (ic := 82) (im := 85) (mc := 112) (mm := 188) (off := 438) (by decide +kernel) (by decide +kernel) (by decide) hb ?_
  show Ex 112 [.ref 0, .int (lw_x xs i 1)] (SH, I, J) _
  refine C_leader ok hC _ (fun I1 J1 c1 f1 => ⟨I1, J1, _, rfl, rfl, ?_⟩)
  show Ex 188 [.ref 199, .int (lw_x xs i 1)] (SH, I1, J1) _
  refine M_leader ok (SM_fr ok f1 hM) _ (fun I2 J2 m2 f2 => ⟨I2, J2, rfl, rfl, ?_⟩)
  exact K s I2 J2 ok (SC_fr ok f2 c1) m2
theorem lw_c_form (ok : OS s) (hC : SC s I J) (hM : SM s I J) (hb : lw_B xs i) (K : lw_K xs i Q) : LR xs (635, LL i, [], (SH, I, J)) Q := by
  refine lr_int (p := 635) (k := 1) (ic := 86) (im := 89) (mc := 113) (mm := 201) (off := 415) (by decide +kernel) (by decide +kernel) (by decide) hb ?_
  show Ex 113 [.ref 0, .int (lw_x xs i 1)] (SH, I, J) _
  refine C_form ok hC _ (fun I1 J1 c1 f1 => ⟨I1, J1, _, rfl, rfl, ?_⟩)
  show Ex 201 [.ref 199, .int (lw_x xs i 1)] (SH, I1, J1) _
  refine M_form ok (SM_fr ok f1 hM) _ (fun I2 J2 m2 f2 => ⟨I2, J2, rfl, rfl, ?_⟩)
  exact K s I2 J2 ok (SC_fr ok f2 c1) m2
theorem lw_c_number (ok : OS s) (hC : SC s I J) (hM : SM s I J) (hb : lw_B xs i) (K : lw_K xs i Q) : LR xs (658, LL i, [], (SH, I, J)) Q := by
  refine lr_long (p := 658) (k := 1) (ic := 90) (im := 93) (mc := 114) (mm := 202) (off := 391) (by decide +kernel) (by decide +kernel) (by decide +kernel) (by decide) hb ?_
  show Ex 114 [.ref 0, .int (lw_x xs i 1)] (SH, I, J) _
  refine C_number ok hC _ (fun I1 J1 c1 f1 => ⟨I1, J1, _, rfl, rfl, ?_⟩)
  show Ex 202 [.ref 199, .int (lw_x xs i 1)] (SH, I1, J1) _
  refine M_number ok (SM_fr ok f1 hM) _ (fun I2 J2 m2 f2 => ⟨I2, J2, rfl, rfl, ?_⟩)
  exact K s I2 J2 ok (SC_fr ok f2 c1) m2
theorem lw_c_replace (ok : OS s) (hC : SC s I J) (hM : SM s I J) (hb : lw_B xs i) (K : lw_K xs i Q) : LR xs (682, LL i, [], (SH, I, J)) Q := by
  refine lr_int (p := 682) (k := 0) (ic := 94) (im := 97) (mc := 115) (mm := 203) (off := 378) (by decide +kernel) (by decide +kernel) (by decide) hb ?_
  show Ex 115 [.ref 0] (SH, I, J) _
  refine C_replace ok hC (fun I1 J1 c1 f1 => ⟨I1, J1, _, rfl, rfl, ?_⟩)
  show Ex 203 [.ref 199] (SH, I1, J1) _
  refine M_replace ok (SM_fr ok f1 hM) (fun I2 J2 m2 f2 => ⟨I2, J2, rfl, rfl, ?_⟩)
  exact K _ I2 J2 (OS_replace ok) (SC_fr (OS_replace ok) f2 c1) m2
theorem lw_c_sweep (ok : OS s) (hC : SC s I J) (hM : SM s I J) (hb : lw_B xs i) (K : lw_K xs i Q) : LR xs (695, LL i, [], (SH, I, J)) Q := by
  refine lr_int (p := 695) (k := 0) (ic := 98) (im := 101) (mc := 116) (mm := 204) (off := 365) (by decide +kernel) (by decide +kernel) (by decide) hb ?_
  show Ex 116 [.ref 0] (SH, I, J) _
  refine C_sweep ok hC (fun I1 J1 c1 f1 => ⟨I1, J1, _, rfl, rfl, ?_⟩)
  show Ex 204 [.ref 199] (SH, I1, J1) _
  refine M_sweep ok (SM_fr ok f1 hM) (fun I2 J2 m2 f2 => ⟨I2, J2, rfl, rfl, ?_⟩)
  exact K _ I2 J2 (OS_sweep ok) (SC_fr (OS_sweep ok) f2 c1) m2
theorem lw_c_set (ok : OS s) (hC : SC s I J) (hM : SM s I J) (hb : lw_B xs i) (K : lw_K xs i Q) : LR xs (708, LL i, [], (SH, I, J)) Q := by
  refine lr_int (p := 708) (k := 3) (ic := 102) (im := 106) (mc := 117) (mm := 205) (off := 322) (by decide +kernel) (by decide +kernel) (by decide) hb ?_
  show Ex 117 [.ref 0, .int (lw_x xs i 1), .int (lw_x xs i 2), .int (lw_x xs i 3)] (SH, I, J) _
  refine C_set ok hC _ _ _ (fun I1 J1 c1 f1 => ⟨I1, J1, _, rfl, rfl, ?_⟩)
  show Ex 205 [.ref 199, .int (lw_x xs i 1), .int (lw_x xs i 2), .int (lw_x xs i 3)] (SH, I1, J1) _
  refine M_set ok (SM_fr ok f1 hM) _ _ _ (fun I2 J2 m2 f2 => ⟨I2, J2, rfl, rfl, ?_⟩)
  exact K _ I2 J2 (OS_set ok _ _ _) (SC_fr (OS_set ok _ _ _) f2 c1) m2
theorem lw_c_alter (ok : OS s) (hC : SC s I J) (hM : SM s I J) (hb : lw_B xs i) (K : lw_K xs i Q) : LR xs (751, LL i, [], (SH, I, J)) Q := by
  refine lr_int (p := 751) (k := 2) (ic := 107) (im := 110) (mc := 118) (mm := 206) (off := 289) (by decide +kernel) (by decide +kernel) (by decide) hb ?_
  show Ex 118 [.ref 0, .int (lw_x xs i 1), .int (lw_x xs i 2)] (SH, I, J) _
  refine C_alter ok hC _ _ (fun I1 J1 c1 f1 => ⟨I1, J1, _, rfl, rfl, ?_⟩)
  show Ex 206 [.ref 199, .int (lw_x xs i 1), .int (lw_x xs i 2)] (SH, I1, J1) _
  refine M_alter ok (SM_fr ok f1 hM) _ _ (fun I2 J2 m2 f2 => ⟨I2, J2, rfl, rfl, ?_⟩)
  exact K _ I2 J2 (OS_alter ok _ _) (SC_fr (OS_alter ok _ _) f2 c1) m2
theorem lw_c_agree (ok : OS s) (hC : SC s I J) (hM : SM s I J) (hb : lw_B xs i) (K : lw_K xs i Q) : LR xs (784, LL i, [], (SH, I, J)) Q := by
  refine lr_int (p := 784) (k := 5) (ic := 111) (im := 115) (mc := 119) (mm := 207) (off := 226) (by decide +kernel) (by decide +kernel) (by decide) hb ?_
  show Ex 119 [.ref 0, .int (lw_x xs i 1), .int (lw_x xs i 2), .int (lw_x xs i 3), .int (lw_x xs i 4), .int (lw_x xs i 5)] (SH, I, J) _
  refine C_agree ok hC _ _ _ _ _ (fun I1 J1 c1 f1 => ⟨I1, J1, _, rfl, rfl, ?_⟩)
  show Ex 207 [.ref 199, .int (lw_x xs i 1), .int (lw_x xs i 2), .int (lw_x xs i 3), .int (lw_x xs i 4), .int (lw_x xs i 5)] (SH, I1, J1) _
  refine M_agree ok (SM_fr ok f1 hM) _ _ _ _ _ (fun I2 J2 m2 f2 => ⟨I2, J2, rfl, rfl, ?_⟩)
  exact K s I2 J2 ok (SC_fr ok f2 c1) m2
theorem lw_c_keep (ok : OS s) (hC : SC s I J) (hM : SM s I J) (hb : lw_B xs i) (K : lw_K xs i Q) : LR xs (847, LL i, [], (SH, I, J)) Q := by
  refine lr_int (p := 847) (k := 1) (ic := 116) (im := 119) (mc := 120) (mm := 208) (off := 203) (by decide +kernel) (by decide +kernel) (by decide) hb ?_
  show Ex 120 [.ref 0, .int (lw_x xs i 1)] (SH, I, J) _
  refine C_keep ok hC _ (fun I1 J1 c1 f1 => ⟨I1, J1, _, rfl, rfl, ?_⟩)
  show Ex 208 [.ref 199, .int (lw_x xs i 1)] (SH, I1, J1) _
  refine M_keep ok (SM_fr ok f1 hM) _ (fun I2 J2 m2 f2 => ⟨I2, J2, rfl, rfl, ?_⟩)
  exact K _ I2 J2 (OS_keep ok _) (SC_fr (OS_keep ok _) f2 c1) m2
theorem lw_c_back (ok : OS s) (hC : SC s I J) (hM : SM s I J) (hb : lw_B xs i) (K : lw_K xs i Q) : LR xs (870, LL i, [], (SH, I, J)) Q := by
  refine lr_int (p := 870) (k := 1) (ic := 120) (im := 123) (mc := 121) (mm := 209) (off := 180) (by decide +kernel) (by decide +kernel) (by decide) hb ?_
  show Ex 121 [.ref 0, .int (lw_x xs i 1)] (SH, I, J) _
  refine C_back ok hC _ (fun I1 J1 c1 f1 => ⟨I1, J1, _, rfl, rfl, ?_⟩)
  show Ex 209 [.ref 199, .int (lw_x xs i 1)] (SH, I1, J1) _
  refine M_back ok (SM_fr ok f1 hM) _ (fun I2 J2 m2 f2 => ⟨I2, J2, rfl, rfl, ?_⟩)
  exact K _ I2 J2 (OS_back ok _) (SC_fr (OS_back ok _) f2 c1) m2
theorem lw_c_sheet (ok : OS s) (hC : SC s I J) (hM : SM s I J) (hb : lw_B xs i) (K : lw_K xs i Q) : LR xs (893, LL i, [], (SH, I, J)) Q := by
  refine lr_int (p := 893) (k := 3) (ic := 124) (im := 127) (mc := 122) (mm := 210) (off := 137) (by decide +kernel) (by decide +kernel) (by decide) hb ?_
  show Ex 122 [.ref 0, .int (lw_x xs i 1), .int (lw_x xs i 2), .int (lw_x xs i 3)] (SH, I, J) _
  refine C_sheet ok hC _ _ _ (fun I1 J1 c1 f1 => ⟨I1, J1, _, rfl, rfl, ?_⟩)
  show Ex 210 [.ref 199, .int (lw_x xs i 1), .int (lw_x xs i 2), .int (lw_x xs i 3)] (SH, I1, J1) _
  refine M_sheet ok (SM_fr ok f1 hM) _ _ _ (fun I2 J2 m2 f2 => ⟨I2, J2, rfl, rfl, ?_⟩)
  exact K _ I2 J2 (OS_sheet ok _ _ _) (SC_fr (OS_sheet ok _ _ _) f2 c1) m2
theorem lw_c_lay (ok : OS s) (hC : SC s I J) (hM : SM s I J) (hb : lw_B xs i) (K : lw_K xs i Q) : LR xs (936, LL i, [], (SH, I, J)) Q := by
  refine lr_int (p := 936) (k := 3) (ic := 128) (im := 131) (mc := 123) (mm := 211) (off := 94) (by decide +kernel) (by decide +kernel) (by decide) hb ?_
  show Ex 123 [.ref 0, .int (lw_x xs i 1), .int (lw_x xs i 2), .int (lw_x xs i 3)] (SH, I, J) _
  refine C_lay ok hC _ _ _ (fun I1 J1 c1 f1 => ⟨I1, J1, _, rfl, rfl, ?_⟩)
  show Ex 211 [.ref 199, .int (lw_x xs i 1), .int (lw_x xs i 2), .int (lw_x xs i 3)] (SH, I1, J1) _
  refine M_lay ok (SM_fr ok f1 hM) _ _ _ (fun I2 J2 m2 f2 => ⟨I2, J2, rfl, rfl, ?_⟩)
  exact K _ I2 J2 (OS_lay ok _ _ _) (SC_fr (OS_lay ok _ _ _) f2 c1) m2
theorem lw_c_read (ok : OS s) (hC : SC s I J) (hM : SM s I J) (hb : lw_B xs i) (K : lw_K xs i Q) : LR xs (979, LL i, [], (SH, I, J)) Q := by
  refine lr_int (p := 979) (k := 4) (ic := 132) (im := 136) (mc := 124) (mm := 213) (off := 41) (by decide +kernel) (by decide +kernel) (by decide) hb ?_
  show Ex 124 [.ref 0, .int (lw_x xs i 1), .int (lw_x xs i 2), .int (lw_x xs i 3), .int (lw_x xs i 4)] (SH, I, J) _
  refine C_read ok hC _ _ _ _ (fun I1 J1 c1 f1 => ⟨I1, J1, _, rfl, rfl, ?_⟩)
  show Ex 213 [.ref 199, .int (lw_x xs i 1), .int (lw_x xs i 2), .int (lw_x xs i 3), .int (lw_x xs i 4)] (SH, I1, J1) _
  refine M_read ok (SM_fr ok f1 hM) _ _ _ _ (fun I2 J2 m2 f2 => ⟨I2, J2, rfl, rfl, ?_⟩)
  exact K _ I2 J2 (OS_read ok _ _ _ _) (SC_fr (OS_read ok _ _ _ _) f2 c1) m2
theorem lw_c_torn (ok : OS s) (hC : SC s I J) (hM : SM s I J) (hb : lw_B xs i) (K : lw_K xs i Q) : LR xs (1032, LL i, [], (SH, I, J)) Q := by
  refine lr_int (p := 1032) (k := 0) (ic := 137) (im := 140) (mc := 125) (mm := 214) (off := 28) (by decide +kernel) (by decide +kernel) (by decide) hb ?_
  show Ex 125 [.ref 0] (SH, I, J) _
  rw [C_torn hC]
  refine ⟨I, J, _, rfl, rfl, ?_⟩
  show Ex 214 [.ref 199] (SH, I, J) _
  rw [M_torn hM]
  exact ⟨I, J, rfl, rfl, K s I J ok hC hM⟩
theorem lw_c_count (ok : OS s) (hC : SC s I J) (hM : SM s I J) (hb : lw_B xs i) (K : lw_K xs i Q) : LR xs (1045, LL i, [], (SH, I, J)) Q := by
  refine lr_int (p := 1045) (k := 1) (ic := 141) (im := 144) (mc := 126) (mm := 215) (off := 5) (by decide +kernel) (by decide +kernel) (by decide) hb ?_
  show Ex 126 [.ref 0, .int (lw_x xs i 1)] (SH, I, J) _
  rw [C_count ok hC]
  refine ⟨I, J, _, rfl, rfl, ?_⟩
  show Ex 215 [.ref 199, .int (lw_x xs i 1)] (SH, I, J) _
  rw [M_count ok hM]
  exact ⟨I, J, rfl, rfl, K s I J ok hC hM⟩
end LWC
