/-! THE LAW: its heaps, calls, jumps -/
def yE : ab_Sh := [(10, 2, []), (10, 40, []), (10, 40, []), (10, 40, []), (10, 64, []), (10, 6, []), (10, 6, []), (10, 4, []), (11, 20, []), (10, 1, [])]
/-- the law's rows are made -/
def YX (E : ab_Sh) : Prop := E.take 10 = yE
section YHP
variable {E : ab_Sh} {I I' : Nat → Nat → Int32} {J J' : Nat → Nat → Int64} {k kd ln : Nat} {rs : List (Option Nat)}
theorem y_len : SH.length = 199 := by decide +kernel
theorem y_get : ((SH ++ E, I, J) : ab_H).1[199 + k]? = E[k]? := by
  show (SH ++ E)[199 + k]? = _
  rw [List.getElem?_append_right (by rw [y_len]; omega), y_len, Nat.add_sub_cancel_left]
theorem y_nx : ab_nx (SH ++ E, I, J) = 199 + E.length := by
  show (SH ++ E).length = _
  rw [List.length_append, y_len]
theorem y_ref (h : E[k]? = some (kd, ln, rs)) : ab_ref (SH ++ E, I, J) (199 + k) kd = true := by
  unfold ab_ref ab_kd
  rw [y_get, h, y_nx]
  have : k < E.length := (List.getElem?_eq_some_iff.mp h).1
  rw [decide_eq_true (by omega)]
  simp
theorem y_lna (h : E[k]? = some (kd, ln, rs)) : ab_ln (SH ++ E, I, J) (199 + k) = ln := by
  unfold ab_ln
  rw [y_get, h]
  rfl
theorem y_ref0 : ab_ref (SH ++ E, I, J) 0 7 = true := xt_ref (E := E) (h := (SH, I, J)) sr_0
theorem y_seti {o : Nat} {x : Int32} : ab_seti (SH ++ E, I, J) o k x = (SH ++ E, ab_up I o k x, J) := rfl
theorem y_setl {o : Nat} {x : Int64} : ab_setl (SH ++ E, I, J) o k x = (SH ++ E, I, ab_up J o k x) := rfl
theorem y_sh {L : ab_L} {S : List Value} {sh : ab_Sh} : ab_sh (sh, I, J) (sh, I', J') L S = True := eq_true (Or.inl ⟨rfl, rfl⟩)
theorem y_shh {L : ab_L} {S : List Value} {h : ab_H} : ab_sh h h L S = True := eq_true (Or.inl ⟨rfl, rfl⟩)
theorem y_new : ab_new (SH ++ E, I, J) kd ln [] = (SH ++ (E ++ [(kd, ln, [])]), (fun o k => if o < 199 + E.length then I o k else 0), (fun o k => if o < 199 + E.length then J o k else 0)) := by
  have e : (SH ++ E).length = 199 + E.length := by rw [List.length_append, y_len]
  show ((SH ++ E) ++ [(kd, ln, [])], (fun o k => if o < (SH ++ E).length then I o k else 0), (fun o k => if o < (SH ++ E).length then J o k else 0)) = _
  rw [e, List.append_assoc]
theorem YX_get (h : YX E) {x : Nat × Nat × List (Option Nat)} (hk : yE[k]? = some x) (h10 : k < 10) : E[k]? = some x := by
  rw [← h, List.getElem?_take, if_pos h10] at hk
  exact hk
theorem YX_len (h : YX E) : 10 ≤ E.length := by
  have := congrArg List.length h
  rw [List.length_take] at this
  have e : yE.length = 10 := rfl
  omega
theorem YX_app (h : YX E) (R : ab_Sh) : YX (E ++ R) := by
  unfold YX
  rw [List.take_append_of_le_length (YX_len h)]
  exact h
theorem y_ok (h : YX E) {x : Nat} (hx : x < 209 ∨ 1000 ≤ x) : ab_ok (ab_nx (SH ++ E, I, J)) (.ref x) = true := by
  have := YX_len h
  unfold ab_ok
  rw [y_nx, Bool.or_eq_true, decide_eq_true_eq, decide_eq_true_eq]
  exact hx.imp (fun z => Nat.lt_of_lt_of_le z (by omega)) id
theorem ry_199 (h : YX E) : ab_ref (SH ++ E, I, J) 199 10 = true := y_ref (k := 0) (YX_get h rfl (by decide))
theorem ny_199 (h : YX E) : ab_ln (SH ++ E, I, J) 199 = 2 := y_lna (k := 0) (YX_get h rfl (by decide))
theorem ry_200 (h : YX E) : ab_ref (SH ++ E, I, J) 200 10 = true := y_ref (k := 1) (YX_get h rfl (by decide))
theorem ny_200 (h : YX E) : ab_ln (SH ++ E, I, J) 200 = 40 := y_lna (k := 1) (YX_get h rfl (by decide))
theorem ry_201 (h : YX E) : ab_ref (SH ++ E, I, J) 201 10 = true := y_ref (k := 2) (YX_get h rfl (by decide))
theorem ny_201 (h : YX E) : ab_ln (SH ++ E, I, J) 201 = 40 := y_lna (k := 2) (YX_get h rfl (by decide))
theorem ry_202 (h : YX E) : ab_ref (SH ++ E, I, J) 202 10 = true := y_ref (k := 3) (YX_get h rfl (by decide))
theorem ny_202 (h : YX E) : ab_ln (SH ++ E, I, J) 202 = 40 := y_lna (k := 3) (YX_get h rfl (by decide))
theorem ry_203 (h : YX E) : ab_ref (SH ++ E, I, J) 203 10 = true := y_ref (k := 4) (YX_get h rfl (by decide))
theorem ny_203 (h : YX E) : ab_ln (SH ++ E, I, J) 203 = 64 := y_lna (k := 4) (YX_get h rfl (by decide))
theorem ry_204 (h : YX E) : ab_ref (SH ++ E, I, J) 204 10 = true := y_ref (k := 5) (YX_get h rfl (by decide))
theorem ny_204 (h : YX E) : ab_ln (SH ++ E, I, J) 204 = 6 := y_lna (k := 5) (YX_get h rfl (by decide))
theorem ry_205 (h : YX E) : ab_ref (SH ++ E, I, J) 205 10 = true := y_ref (k := 6) (YX_get h rfl (by decide))
theorem ny_205 (h : YX E) : ab_ln (SH ++ E, I, J) 205 = 6 := y_lna (k := 6) (YX_get h rfl (by decide))
theorem ry_206 (h : YX E) : ab_ref (SH ++ E, I, J) 206 10 = true := y_ref (k := 7) (YX_get h rfl (by decide))
theorem ny_206 (h : YX E) : ab_ln (SH ++ E, I, J) 206 = 4 := y_lna (k := 7) (YX_get h rfl (by decide))
theorem ry_207 (h : YX E) : ab_ref (SH ++ E, I, J) 207 11 = true := y_ref (k := 8) (YX_get h rfl (by decide))
theorem ny_207 (h : YX E) : ab_ln (SH ++ E, I, J) 207 = 20 := y_lna (k := 8) (YX_get h rfl (by decide))
theorem ry_208 (h : YX E) : ab_ref (SH ++ E, I, J) 208 10 = true := y_ref (k := 9) (YX_get h rfl (by decide))
theorem ny_208 (h : YX E) : ab_ln (SH ++ E, I, J) 208 = 1 := y_lna (k := 9) (YX_get h rfl (by decide))
end YHP
section YRT
variable {xs : List Int32} {mi pc len : Nat} {L : ab_L} {S : List Value} {h : ab_H} {Q : Option Value → ab_H → Prop}
theorem yrt_132 : y_rt 132 = (some .int) := by unfold y_rt; rw [if_neg (by decide)]; exact rt_132
theorem yrt_133 : y_rt 133 = (some .int) := by unfold y_rt; rw [if_neg (by decide)]; exact rt_133
theorem yrt_134 : y_rt 134 = none := by unfold y_rt; rw [if_neg (by decide)]; exact rt_134
theorem yrt_135 : y_rt 135 = none := by unfold y_rt; rw [if_neg (by decide)]; exact rt_135
theorem yrt_136 : y_rt 136 = none := by unfold y_rt; rw [if_neg (by decide)]; exact rt_136
theorem yrt_137 : y_rt 137 = (some .int) := by unfold y_rt; rw [if_neg (by decide)]; exact rt_137
theorem yrt_138 : y_rt 138 = none := by unfold y_rt; rw [if_neg (by decide)]; exact rt_138
theorem yrt_139 : y_rt 139 = (some .int) := by unfold y_rt; rw [if_neg (by decide)]; exact rt_139
theorem yrt_140 : y_rt 140 = (some .boolean) := by unfold y_rt; rw [if_neg (by decide)]; exact rt_140
theorem yrt_141 : y_rt 141 = (some .boolean) := by unfold y_rt; rw [if_neg (by decide)]; exact rt_141
theorem yrt_142 : y_rt 142 = (some .boolean) := by unfold y_rt; rw [if_neg (by decide)]; exact rt_142
theorem yrt_143 : y_rt 143 = (some .int) := by unfold y_rt; rw [if_neg (by decide)]; exact rt_143
theorem yrt_144 : y_rt 144 = (some .int) := by unfold y_rt; rw [if_neg (by decide)]; exact rt_144
theorem yrt_145 : y_rt 145 = (some .boolean) := by unfold y_rt; rw [if_neg (by decide)]; exact rt_145
theorem yrt_146 : y_rt 146 = some .boolean := if_pos rfl
theorem Gy_if0 {c : Jvm.ClassFile.Cond} {off : Int} {x : Int32} : Gy xs (some (.ifCond c off, len)) mi pc L (.int x :: S) h Q = (0 ≤ (pc : Int) + off ∧ if ab_cmp c x (nI 0) = true then Gy xs (ab_at mi ((pc : Int) + off).toNat) mi ((pc : Int) + off).toNat L S h Q else Gy xs (ab_at mi (pc + 3)) mi (pc + 3) L S h Q) := Gy_if
theorem Gy_reti {v : Int32} (hr : y_rt mi = some .int) : Gy xs (some (.ireturn, len)) mi pc L [.int v] h Q = Q (some (.int v)) h := by
  rw [Gy_ireturn hr]
  exact propext ⟨fun z => z.2, fun z => ⟨rfl, z⟩⟩
theorem Gy_retb {v : Bool} (hr : y_rt mi = some .boolean) : Gy xs (some (.ireturn, len)) mi pc L [.int (nI v.toNat)] h Q = Q (some (.int (nI v.toNat))) h := by
  rw [Gy_ireturn hr]
  exact propext ⟨fun z => z.2, fun z => ⟨by cases v <;> rfl, z⟩⟩
theorem Gy_retb0 (hr : y_rt mi = some .boolean) : Gy xs (some (.ireturn, len)) mi pc L [.int (nI 0)] h Q = Q (some (.int (nI 0))) h := Gy_retb (v := false) hr
theorem Gy_retb1 (hr : y_rt mi = some .boolean) : Gy xs (some (.ireturn, len)) mi pc L [.int (nI 1)] h Q = Q (some (.int (nI 1))) h := Gy_retb (v := true) hr
theorem Gy_icmpT {T : Nat} {c : Jvm.ClassFile.Cond} {off : Int} {x z : Int32} {P : Prop} {q : Decidable P} (hP : (ab_cmp c x z = true) = P) (h0 : 0 ≤ (pc : Int) + off) (hT : ((pc : Int) + off).toNat = T) : Gy xs (some (.if_icmp c off, len)) mi pc L (.int z :: .int x :: S) h Q = if P then Gy xs (ab_at mi T) mi T L S h Q else Gy xs (ab_at mi (pc + 3)) mi (pc + 3) L S h Q := by
  subst hP
  rw [Gy_icmp, hT, eq_true h0, true_and]
  split <;> rfl
theorem Gy_ifT {T : Nat} {c : Jvm.ClassFile.Cond} {off : Int} {x : Int32} {P : Prop} {q : Decidable P} (hP : (ab_cmp c x (nI 0) = true) = P) (h0 : 0 ≤ (pc : Int) + off) (hT : ((pc : Int) + off).toNat = T) : Gy xs (some (.ifCond c off, len)) mi pc L (.int x :: S) h Q = if P then Gy xs (ab_at mi T) mi T L S h Q else Gy xs (ab_at mi (pc + 3)) mi (pc + 3) L S h Q := by
  subst hP
  rw [Gy_if0, hT, eq_true h0, true_and]
  split <;> rfl
theorem Gy_gotoT {T : Nat} {off : Int} (h0 : 0 ≤ (pc : Int) + off) (hT : ((pc : Int) + off).toNat = T) : Gy xs (some (.goto off, len)) mi pc L S h Q = Gy xs (ab_at mi T) mi T L S h Q := by
  rw [Gy_goto, hT, eq_true h0, true_and]
theorem ldy_7 : Gy xs (some (.ldc 7, len)) mi pc L S h Q = Gy xs (ab_at mi (pc + 2)) mi (pc + 2) L (.int (nI 2147483647) :: S) h Q := Gy_ldc kI_10_7
theorem ldy_8 : Gy xs (some (.ldc 8, len)) mi pc L S h Q = Gy xs (ab_at mi (pc + 2)) mi (pc + 2) L (.int (nI 2654435) :: S) h Q := Gy_ldc kI_10_8
theorem ldy2_25 : Gy xs (some (.ldc2_w 25, len)) mi pc L S h Q = Gy xs (ab_at mi (pc + 3)) mi (pc + 3) L (.long (lN 7239021) :: S) h Q := Gy_ldc2 kL_10_25
theorem ldy2_27 : Gy xs (some (.ldc2_w 27, len)) mi pc L S h Q = Gy xs (ab_at mi (pc + 3)) mi (pc + 3) L (.long (lN 6386279) :: S) h Q := Gy_ldc2 kL_10_27
theorem ldy2_29 : Gy xs (some (.ldc2_w 29, len)) mi pc L S h Q = Gy xs (ab_at mi (pc + 3)) mi (pc + 3) L (.long (lN 6382692) :: S) h Q := Gy_ldc2 kL_10_29
theorem ldy2_31 : Gy xs (some (.ldc2_w 31, len)) mi pc L S h Q = Gy xs (ab_at mi (pc + 3)) mi (pc + 3) L (.long (lN 7173484) :: S) h Q := Gy_ldc2 kL_10_31
theorem ldy2_33 : Gy xs (some (.ldc2_w 33, len)) mi pc L S h Q = Gy xs (ab_at mi (pc + 3)) mi (pc + 3) L (.long (lN 7234919) :: S) h Q := Gy_ldc2 kL_10_33
theorem ldy2_35 : Gy xs (some (.ldc2_w 35, len)) mi pc L S h Q = Gy xs (ab_at mi (pc + 3)) mi (pc + 3) L (.long (lN 1818588019) :: S) h Q := Gy_ldc2 kL_10_35
theorem ldy2_37 : Gy xs (some (.ldc2_w 37, len)) mi pc L S h Q = Gy xs (ab_at mi (pc + 3)) mi (pc + 3) L (.long (lN 6580598) :: S) h Q := Gy_ldc2 kL_10_37
theorem ldy2_39 : Gy xs (some (.ldc2_w 39, len)) mi pc L S h Q = Gy xs (ab_at mi (pc + 3)) mi (pc + 3) L (.long (lN 7366761) :: S) h Q := Gy_ldc2 kL_10_39
theorem ldy2_41 : Gy xs (some (.ldc2_w 41, len)) mi pc L S h Q = Gy xs (ab_at mi (pc + 3)) mi (pc + 3) L (.long (lN 422726034283) :: S) h Q := Gy_ldc2 kL_10_41
theorem ldy2_43 : Gy xs (some (.ldc2_w 43, len)) mi pc L S h Q = Gy xs (ab_at mi (pc + 3)) mi (pc + 3) L (.long (lN 1735357551) :: S) h Q := Gy_ldc2 kL_10_43
theorem ldy2_45 : Gy xs (some (.ldc2_w 45, len)) mi pc L S h Q = Gy xs (ab_at mi (pc + 3)) mi (pc + 3) L (.long (lN 26982) :: S) h Q := Gy_ldc2 kL_10_45
theorem ldy2_47 : Gy xs (some (.ldc2_w 47, len)) mi pc L S h Q = Gy xs (ab_at mi (pc + 3)) mi (pc + 3) L (.long (lN 7497076) :: S) h Q := Gy_ldc2 kL_10_47
theorem ldy2_100 : Gy xs (some (.ldc2_w 100, len)) mi pc L S h Q = Gy xs (ab_at mi (pc + 3)) mi (pc + 3) L (.long (lN 2000000000000) :: S) h Q := Gy_ldc2 kL_10_100
theorem ks_7919 : (Int16.ofInt (7919)).toInt32 = nI 7919 := by decide
theorem ks_255 : (Int16.ofInt (255)).toInt32 = nI 255 := by decide
theorem ks_999 : (Int16.ofInt (999)).toInt32 = nI 999 := by decide
theorem ks_1000 : (Int16.ofInt (1000)).toInt32 = nI 1000 := by decide
theorem kb_64 : (Int8.ofInt (64)).toInt32 = nI 64 := by decide
theorem kb_m9 : (Int8.ofInt (-9)).toInt32 = -9 := by decide
theorem kb_60 : (Int8.ofInt (60)).toInt32 = nI 60 := by decide
theorem kb_41 : (Int8.ofInt (41)).toInt32 = nI 41 := by decide
theorem kb_53 : (Int8.ofInt (53)).toInt32 = nI 53 := by decide
theorem ey_132 {x1 : Int32} {x2 : Int32} : Ey xs 132 [.int x1, .int x2] h Q = Gy xs (ab_at 132 0) 132 0 [some (.int x1), some (.int x2)] [] h Q := propext (Ey_Gy own_132 ini_132 ⟨by decide, (by decide : 2 ≤ 2)⟩)
theorem ey_133 {x1 : Nat} {x2 : Int32} : Ey xs 133 [.ref x1, .int x2] h Q = Gy xs (ab_at 133 0) 133 0 [some (.ref x1), some (.int x2)] [] h Q := propext (Ey_Gy own_133 ini_133 ⟨by decide, (by decide : 2 ≤ 2)⟩)
theorem ey_134 {x1 : Nat} {x2 : Nat} {x3 : Int32} : Ey xs 134 [.ref x1, .ref x2, .int x3] h Q = Gy xs (ab_at 134 0) 134 0 [some (.ref x1), some (.ref x2), some (.int x3)] [] h Q := propext (Ey_Gy own_134 ini_134 ⟨by decide, (by decide : 3 ≤ 3)⟩)
theorem ey_135 {x1 : Nat} {x2 : Nat} {x3 : Int64} : Ey xs 135 [.ref x1, .ref x2, .long x3] h Q = Gy xs (ab_at 135 0) 135 0 [some (.ref x1), some (.ref x2), some (.long x3), none, none, none] [] h Q := propext (Ey_Gy own_135 ini_135 ⟨by decide, (by decide : 4 ≤ 6)⟩)
theorem ey_136 {x1 : Nat} {x2 : Nat} {x3 : Int32} : Ey xs 136 [.ref x1, .ref x2, .int x3] h Q = Gy xs (ab_at 136 0) 136 0 [some (.ref x1), some (.ref x2), some (.int x3)] [] h Q := propext (Ey_Gy own_136 ini_136 ⟨by decide, (by decide : 3 ≤ 3)⟩)
theorem ey_137 {x1 : Nat} {x2 : Nat} : Ey xs 137 [.ref x1, .ref x2] h Q = Gy xs (ab_at 137 0) 137 0 [some (.ref x1), some (.ref x2)] [] h Q := propext (Ey_Gy own_137 ini_137 ⟨by decide, (by decide : 2 ≤ 2)⟩)
theorem ey_138 {x1 : Nat} {x2 : Nat} {x3 : Int32} : Ey xs 138 [.ref x1, .ref x2, .int x3] h Q = Gy xs (ab_at 138 0) 138 0 [some (.ref x1), some (.ref x2), some (.int x3)] [] h Q := propext (Ey_Gy own_138 ini_138 ⟨by decide, (by decide : 3 ≤ 3)⟩)
theorem ey_139 {x1 : Int32} {x2 : Int32} {x3 : Int32} : Ey xs 139 [.int x1, .int x2, .int x3] h Q = Gy xs (ab_at 139 0) 139 0 [some (.int x1), some (.int x2), some (.int x3)] [] h Q := propext (Ey_Gy own_139 ini_139 ⟨by decide, (by decide : 3 ≤ 3)⟩)
theorem ey_140 {x1 : Int32} {x2 : Int32} {x3 : Int32} : Ey xs 140 [.int x1, .int x2, .int x3] h Q = Gy xs (ab_at 140 0) 140 0 [some (.int x1), some (.int x2), some (.int x3)] [] h Q := propext (Ey_Gy own_140 ini_140 ⟨by decide, (by decide : 3 ≤ 3)⟩)
theorem ey_141 {x1 : Nat} {x2 : Nat} {x3 : Int32} {x4 : Int32} : Ey xs 141 [.ref x1, .ref x2, .int x3, .int x4] h Q = Gy xs (ab_at 141 0) 141 0 [some (.ref x1), some (.ref x2), some (.int x3), some (.int x4)] [] h Q := propext (Ey_Gy own_141 ini_141 ⟨by decide, (by decide : 4 ≤ 4)⟩)
theorem ey_142 {x1 : Nat} {x2 : Nat} {x3 : Nat} {x4 : Int32} {x5 : Int32} {x6 : Int32} : Ey xs 142 [.ref x1, .ref x2, .ref x3, .int x4, .int x5, .int x6] h Q = Gy xs (ab_at 142 0) 142 0 [some (.ref x1), some (.ref x2), some (.ref x3), some (.int x4), some (.int x5), some (.int x6)] [] h Q := propext (Ey_Gy own_142 ini_142 ⟨by decide, (by decide : 6 ≤ 6)⟩)
theorem ey_143 {x1 : Nat} {x2 : Nat} {x3 : Nat} {x4 : Int32} {x5 : Int32} {x6 : Int32} : Ey xs 143 [.ref x1, .ref x2, .ref x3, .int x4, .int x5, .int x6] h Q = Gy xs (ab_at 143 0) 143 0 [some (.ref x1), some (.ref x2), some (.ref x3), some (.int x4), some (.int x5), some (.int x6), none, none, none] [] h Q := propext (Ey_Gy own_143 ini_143 ⟨by decide, (by decide : 6 ≤ 9)⟩)
theorem ey_144 {x1 : Nat} {x2 : Nat} {x3 : Int32} {x4 : Int32} : Ey xs 144 [.ref x1, .ref x2, .int x3, .int x4] h Q = Gy xs (ab_at 144 0) 144 0 [some (.ref x1), some (.ref x2), some (.int x3), some (.int x4), none, none, none] [] h Q := propext (Ey_Gy own_144 ini_144 ⟨by decide, (by decide : 4 ≤ 7)⟩)
theorem ey_145 {x1 : Nat} {x2 : Nat} {x3 : Int32} {x4 : Nat} {x5 : Nat} {x6 : Nat} {x7 : Nat} {x8 : Nat} {x9 : Nat} : Ey xs 145 [.ref x1, .ref x2, .int x3, .ref x4, .ref x5, .ref x6, .ref x7, .ref x8, .ref x9] h Q = Gy xs (ab_at 145 0) 145 0 [some (.ref x1), some (.ref x2), some (.int x3), some (.ref x4), some (.ref x5), some (.ref x6), some (.ref x7), some (.ref x8), some (.ref x9), none, none, none, none, none, none, none] [] h Q := propext (Ey_Gy own_145 ini_145 ⟨by decide, (by decide : 9 ≤ 16)⟩)
theorem cy_9 {b : Nat} {x1 : Int32} (hr : ab_ref h b 7 = true) : Gy xs (some (.invokevirtual 9, len)) mi pc L (.int x1 :: .ref b :: S) h Q = (ab_cat S ≤ 8 ∧ Ey xs 96 [.ref b, .int x1] h (fun r h' => ab_sh h h' L S ∧ Gy xs (ab_at mi (pc + 3)) mi (pc + 3) L (r.toList ++ S) h' Q)) := Gy_invv (rest := S) ml_10_9 rfl hr (by decide) (by
  show List.all [.int x1] (ab_ok (ab_nx h)) = true
  simp only [List.all_cons, List.all_nil, Bool.and_true]
  exact rfl)
theorem cy_15 {x1 : Nat} {x2 : Nat} {x3 : Int32} (h1 : ab_ok (ab_nx h) (.ref x1) = true) (h2 : ab_ok (ab_nx h) (.ref x2) = true) : Gy xs (some (.invokestatic 15, len)) mi pc L (.int x3 :: .ref x2 :: .ref x1 :: S) h Q = (ab_cat S ≤ 8 ∧ Ey xs 134 [.ref x1, .ref x2, .int x3] h (fun r h' => ab_sh h h' L S ∧ Gy xs (ab_at mi (pc + 3)) mi (pc + 3) L (r.toList ++ S) h' Q)) := Gy_invs (S := .int x3 :: .ref x2 :: .ref x1 :: S) (h := h) ml_10_15 (Or.inl rfl) (Nat.le_add_left 3 _) (by
  show List.all [.int x3, .ref x2, .ref x1] (ab_ok (ab_nx h)) = true
  simp only [List.all_cons, List.all_nil, Bool.and_true, Bool.and_eq_true]
  exact ⟨rfl, h2, h1⟩)
theorem cy_21 {b : Nat} (hr : ab_ref h b 7 = true) : Gy xs (some (.invokevirtual 21, len)) mi pc L (.ref b :: S) h Q = (ab_cat S ≤ 8 ∧ Ey xs 98 [.ref b] h (fun r h' => ab_sh h h' L S ∧ Gy xs (ab_at mi (pc + 3)) mi (pc + 3) L (r.toList ++ S) h' Q)) := Gy_invv (rest := S) ml_10_21 rfl hr (by decide) (rfl)
theorem cy_49 {x1 : Nat} {x2 : Nat} {x3 : Int64} (h1 : ab_ok (ab_nx h) (.ref x1) = true) (h2 : ab_ok (ab_nx h) (.ref x2) = true) : Gy xs (some (.invokestatic 49, len)) mi pc L (.long x3 :: .ref x2 :: .ref x1 :: S) h Q = (ab_cat S ≤ 8 ∧ Ey xs 135 [.ref x1, .ref x2, .long x3] h (fun r h' => ab_sh h h' L S ∧ Gy xs (ab_at mi (pc + 3)) mi (pc + 3) L (r.toList ++ S) h' Q)) := Gy_invs (S := .long x3 :: .ref x2 :: .ref x1 :: S) (h := h) ml_10_49 (Or.inl rfl) (Nat.le_add_left 3 _) (by
  show List.all [.long x3, .ref x2, .ref x1] (ab_ok (ab_nx h)) = true
  simp only [List.all_cons, List.all_nil, Bool.and_true, Bool.and_eq_true]
  exact ⟨rfl, h2, h1⟩)
theorem cy_53 {x1 : Int32} {x2 : Int32} {x3 : Int32} : Gy xs (some (.invokestatic 53, len)) mi pc L (.int x3 :: .int x2 :: .int x1 :: S) h Q = (ab_cat S ≤ 8 ∧ Ey xs 139 [.int x1, .int x2, .int x3] h (fun r h' => ab_sh h h' L S ∧ Gy xs (ab_at mi (pc + 3)) mi (pc + 3) L (r.toList ++ S) h' Q)) := Gy_invs (S := .int x3 :: .int x2 :: .int x1 :: S) (h := h) ml_10_53 (Or.inl rfl) (Nat.le_add_left 3 _) (by
  show List.all [.int x3, .int x2, .int x1] (ab_ok (ab_nx h)) = true
  simp only [List.all_cons, List.all_nil, Bool.and_true, Bool.and_eq_true]
  exact ⟨rfl, rfl, rfl⟩)
theorem cy_57 {x1 : Int32} {x2 : Int32} {x3 : Int32} : Gy xs (some (.invokestatic 57, len)) mi pc L (.int x3 :: .int x2 :: .int x1 :: S) h Q = (ab_cat S ≤ 8 ∧ Ey xs 140 [.int x1, .int x2, .int x3] h (fun r h' => ab_sh h h' L S ∧ Gy xs (ab_at mi (pc + 3)) mi (pc + 3) L (r.toList ++ S) h' Q)) := Gy_invs (S := .int x3 :: .int x2 :: .int x1 :: S) (h := h) ml_10_57 (Or.inl rfl) (Nat.le_add_left 3 _) (by
  show List.all [.int x3, .int x2, .int x1] (ab_ok (ab_nx h)) = true
  simp only [List.all_cons, List.all_nil, Bool.and_true, Bool.and_eq_true]
  exact ⟨rfl, rfl, rfl⟩)
theorem cy_61 {x1 : Nat} {x2 : Nat} {x3 : Int32} {x4 : Int32} (h1 : ab_ok (ab_nx h) (.ref x1) = true) (h2 : ab_ok (ab_nx h) (.ref x2) = true) : Gy xs (some (.invokestatic 61, len)) mi pc L (.int x4 :: .int x3 :: .ref x2 :: .ref x1 :: S) h Q = (ab_cat S ≤ 8 ∧ Ey xs 141 [.ref x1, .ref x2, .int x3, .int x4] h (fun r h' => ab_sh h h' L S ∧ Gy xs (ab_at mi (pc + 3)) mi (pc + 3) L (r.toList ++ S) h' Q)) := Gy_invs (S := .int x4 :: .int x3 :: .ref x2 :: .ref x1 :: S) (h := h) ml_10_61 (Or.inl rfl) (Nat.le_add_left 4 _) (by
  show List.all [.int x4, .int x3, .ref x2, .ref x1] (ab_ok (ab_nx h)) = true
  simp only [List.all_cons, List.all_nil, Bool.and_true, Bool.and_eq_true]
  exact ⟨rfl, rfl, h2, h1⟩)
theorem cy_65 {x1 : Nat} {x2 : Nat} {x3 : Nat} {x4 : Int32} {x5 : Int32} {x6 : Int32} (h1 : ab_ok (ab_nx h) (.ref x1) = true) (h2 : ab_ok (ab_nx h) (.ref x2) = true) (h3 : ab_ok (ab_nx h) (.ref x3) = true) : Gy xs (some (.invokestatic 65, len)) mi pc L (.int x6 :: .int x5 :: .int x4 :: .ref x3 :: .ref x2 :: .ref x1 :: S) h Q = (ab_cat S ≤ 8 ∧ Ey xs 142 [.ref x1, .ref x2, .ref x3, .int x4, .int x5, .int x6] h (fun r h' => ab_sh h h' L S ∧ Gy xs (ab_at mi (pc + 3)) mi (pc + 3) L (r.toList ++ S) h' Q)) := Gy_invs (S := .int x6 :: .int x5 :: .int x4 :: .ref x3 :: .ref x2 :: .ref x1 :: S) (h := h) ml_10_65 (Or.inl rfl) (Nat.le_add_left 6 _) (by
  show List.all [.int x6, .int x5, .int x4, .ref x3, .ref x2, .ref x1] (ab_ok (ab_nx h)) = true
  simp only [List.all_cons, List.all_nil, Bool.and_true, Bool.and_eq_true]
  exact ⟨rfl, rfl, rfl, h3, h2, h1⟩)
theorem cy_69 {x1 : Int32} {x2 : Int32} : Gy xs (some (.invokestatic 69, len)) mi pc L (.int x2 :: .int x1 :: S) h Q = (ab_cat S ≤ 8 ∧ Ey xs 132 [.int x1, .int x2] h (fun r h' => ab_sh h h' L S ∧ Gy xs (ab_at mi (pc + 3)) mi (pc + 3) L (r.toList ++ S) h' Q)) := Gy_invs (S := .int x2 :: .int x1 :: S) (h := h) ml_10_69 (Or.inl rfl) (Nat.le_add_left 2 _) (by
  show List.all [.int x2, .int x1] (ab_ok (ab_nx h)) = true
  simp only [List.all_cons, List.all_nil, Bool.and_true, Bool.and_eq_true]
  exact ⟨rfl, rfl⟩)
theorem cy_73 {x1 : Nat} {x2 : Int32} (h1 : ab_ok (ab_nx h) (.ref x1) = true) : Gy xs (some (.invokestatic 73, len)) mi pc L (.int x2 :: .ref x1 :: S) h Q = (ab_cat S ≤ 8 ∧ Ey xs 133 [.ref x1, .int x2] h (fun r h' => ab_sh h h' L S ∧ Gy xs (ab_at mi (pc + 3)) mi (pc + 3) L (r.toList ++ S) h' Q)) := Gy_invs (S := .int x2 :: .ref x1 :: S) (h := h) ml_10_73 (Or.inl rfl) (Nat.le_add_left 2 _) (by
  show List.all [.int x2, .ref x1] (ab_ok (ab_nx h)) = true
  simp only [List.all_cons, List.all_nil, Bool.and_true, Bool.and_eq_true]
  exact ⟨rfl, h1⟩)
theorem cy_77 {x1 : Nat} {x2 : Nat} {x3 : Nat} {x4 : Int32} {x5 : Int32} {x6 : Int32} (h1 : ab_ok (ab_nx h) (.ref x1) = true) (h2 : ab_ok (ab_nx h) (.ref x2) = true) (h3 : ab_ok (ab_nx h) (.ref x3) = true) : Gy xs (some (.invokestatic 77, len)) mi pc L (.int x6 :: .int x5 :: .int x4 :: .ref x3 :: .ref x2 :: .ref x1 :: S) h Q = (ab_cat S ≤ 8 ∧ Ey xs 143 [.ref x1, .ref x2, .ref x3, .int x4, .int x5, .int x6] h (fun r h' => ab_sh h h' L S ∧ Gy xs (ab_at mi (pc + 3)) mi (pc + 3) L (r.toList ++ S) h' Q)) := Gy_invs (S := .int x6 :: .int x5 :: .int x4 :: .ref x3 :: .ref x2 :: .ref x1 :: S) (h := h) ml_10_77 (Or.inl rfl) (Nat.le_add_left 6 _) (by
  show List.all [.int x6, .int x5, .int x4, .ref x3, .ref x2, .ref x1] (ab_ok (ab_nx h)) = true
  simp only [List.all_cons, List.all_nil, Bool.and_true, Bool.and_eq_true]
  exact ⟨rfl, rfl, rfl, h3, h2, h1⟩)
theorem cy_81 {x1 : Nat} {x2 : Nat} {x3 : Int32} {x4 : Int32} (h1 : ab_ok (ab_nx h) (.ref x1) = true) (h2 : ab_ok (ab_nx h) (.ref x2) = true) : Gy xs (some (.invokestatic 81, len)) mi pc L (.int x4 :: .int x3 :: .ref x2 :: .ref x1 :: S) h Q = (ab_cat S ≤ 8 ∧ Ey xs 144 [.ref x1, .ref x2, .int x3, .int x4] h (fun r h' => ab_sh h h' L S ∧ Gy xs (ab_at mi (pc + 3)) mi (pc + 3) L (r.toList ++ S) h' Q)) := Gy_invs (S := .int x4 :: .int x3 :: .ref x2 :: .ref x1 :: S) (h := h) ml_10_81 (Or.inl rfl) (Nat.le_add_left 4 _) (by
  show List.all [.int x4, .int x3, .ref x2, .ref x1] (ab_ok (ab_nx h)) = true
  simp only [List.all_cons, List.all_nil, Bool.and_true, Bool.and_eq_true]
  exact ⟨rfl, rfl, h2, h1⟩)
theorem cy_85 {x1 : Nat} {x2 : Nat} {x3 : Int32} (h1 : ab_ok (ab_nx h) (.ref x1) = true) (h2 : ab_ok (ab_nx h) (.ref x2) = true) : Gy xs (some (.invokestatic 85, len)) mi pc L (.int x3 :: .ref x2 :: .ref x1 :: S) h Q = (ab_cat S ≤ 8 ∧ Ey xs 138 [.ref x1, .ref x2, .int x3] h (fun r h' => ab_sh h h' L S ∧ Gy xs (ab_at mi (pc + 3)) mi (pc + 3) L (r.toList ++ S) h' Q)) := Gy_invs (S := .int x3 :: .ref x2 :: .ref x1 :: S) (h := h) ml_10_85 (Or.inl rfl) (Nat.le_add_left 3 _) (by
  show List.all [.int x3, .ref x2, .ref x1] (ab_ok (ab_nx h)) = true
  simp only [List.all_cons, List.all_nil, Bool.and_true, Bool.and_eq_true]
  exact ⟨rfl, h2, h1⟩)
theorem cy_88 {x1 : Nat} {x2 : Nat} {x3 : Int32} (h1 : ab_ok (ab_nx h) (.ref x1) = true) (h2 : ab_ok (ab_nx h) (.ref x2) = true) : Gy xs (some (.invokestatic 88, len)) mi pc L (.int x3 :: .ref x2 :: .ref x1 :: S) h Q = (ab_cat S ≤ 8 ∧ Ey xs 136 [.ref x1, .ref x2, .int x3] h (fun r h' => ab_sh h h' L S ∧ Gy xs (ab_at mi (pc + 3)) mi (pc + 3) L (r.toList ++ S) h' Q)) := Gy_invs (S := .int x3 :: .ref x2 :: .ref x1 :: S) (h := h) ml_10_88 (Or.inl rfl) (Nat.le_add_left 3 _) (by
  show List.all [.int x3, .ref x2, .ref x1] (ab_ok (ab_nx h)) = true
  simp only [List.all_cons, List.all_nil, Bool.and_true, Bool.and_eq_true]
  exact ⟨rfl, h2, h1⟩)
theorem cy_91 {x1 : Nat} {x2 : Nat} (h1 : ab_ok (ab_nx h) (.ref x1) = true) (h2 : ab_ok (ab_nx h) (.ref x2) = true) : Gy xs (some (.invokestatic 91, len)) mi pc L (.ref x2 :: .ref x1 :: S) h Q = (ab_cat S ≤ 8 ∧ Ey xs 137 [.ref x1, .ref x2] h (fun r h' => ab_sh h h' L S ∧ Gy xs (ab_at mi (pc + 3)) mi (pc + 3) L (r.toList ++ S) h' Q)) := Gy_invs (S := .ref x2 :: .ref x1 :: S) (h := h) ml_10_91 (Or.inl rfl) (Nat.le_add_left 2 _) (by
  show List.all [.ref x2, .ref x1] (ab_ok (ab_nx h)) = true
  simp only [List.all_cons, List.all_nil, Bool.and_true, Bool.and_eq_true]
  exact ⟨h2, h1⟩)
theorem cy_95 {b : Nat} (hr : ab_ref h b 7 = true) : Gy xs (some (.invokevirtual 95, len)) mi pc L (.ref b :: S) h Q = (ab_cat S ≤ 8 ∧ Ey xs 99 [.ref b] h (fun r h' => ab_sh h h' L S ∧ Gy xs (ab_at mi (pc + 3)) mi (pc + 3) L (r.toList ++ S) h' Q)) := Gy_invv (rest := S) ml_10_95 rfl hr (by decide) (rfl)
theorem cy_119 {b : Nat} {x1 : Int32} {x2 : Int32} (hr : ab_ref h b 7 = true) : Gy xs (some (.invokevirtual 119, len)) mi pc L (.int x2 :: .int x1 :: .ref b :: S) h Q = (ab_cat S ≤ 8 ∧ Ey xs 103 [.ref b, .int x1, .int x2] h (fun r h' => ab_sh h h' L S ∧ Gy xs (ab_at mi (pc + 3)) mi (pc + 3) L (r.toList ++ S) h' Q)) := Gy_invv (rest := S) ml_10_119 rfl hr (by decide) (by
  show List.all [.int x2, .int x1] (ab_ok (ab_nx h)) = true
  simp only [List.all_cons, List.all_nil, Bool.and_true, Bool.and_eq_true]
  exact ⟨rfl, rfl⟩)
theorem cy_121 {b : Nat} {x1 : Int32} {x2 : Int32} (hr : ab_ref h b 7 = true) : Gy xs (some (.invokevirtual 121, len)) mi pc L (.int x2 :: .int x1 :: .ref b :: S) h Q = (ab_cat S ≤ 8 ∧ Ey xs 104 [.ref b, .int x1, .int x2] h (fun r h' => ab_sh h h' L S ∧ Gy xs (ab_at mi (pc + 3)) mi (pc + 3) L (r.toList ++ S) h' Q)) := Gy_invv (rest := S) ml_10_121 rfl hr (by decide) (by
  show List.all [.int x2, .int x1] (ab_ok (ab_nx h)) = true
  simp only [List.all_cons, List.all_nil, Bool.and_true, Bool.and_eq_true]
  exact ⟨rfl, rfl⟩)
theorem cy_127 {b : Nat} {x1 : Int32} (hr : ab_ref h b 7 = true) : Gy xs (some (.invokevirtual 127, len)) mi pc L (.int x1 :: .ref b :: S) h Q = (ab_cat S ≤ 8 ∧ Ey xs 100 [.ref b, .int x1] h (fun r h' => ab_sh h h' L S ∧ Gy xs (ab_at mi (pc + 3)) mi (pc + 3) L (r.toList ++ S) h' Q)) := Gy_invv (rest := S) ml_10_127 rfl hr (by decide) (by
  show List.all [.int x1] (ab_ok (ab_nx h)) = true
  simp only [List.all_cons, List.all_nil, Bool.and_true]
  exact rfl)
theorem cy_134 {x1 : Nat} {x2 : Nat} {x3 : Int32} {x4 : Nat} {x5 : Nat} {x6 : Nat} {x7 : Nat} {x8 : Nat} {x9 : Nat} (h1 : ab_ok (ab_nx h) (.ref x1) = true) (h2 : ab_ok (ab_nx h) (.ref x2) = true) (h4 : ab_ok (ab_nx h) (.ref x4) = true) (h5 : ab_ok (ab_nx h) (.ref x5) = true) (h6 : ab_ok (ab_nx h) (.ref x6) = true) (h7 : ab_ok (ab_nx h) (.ref x7) = true) (h8 : ab_ok (ab_nx h) (.ref x8) = true) (h9 : ab_ok (ab_nx h) (.ref x9) = true) : Gy xs (some (.invokestatic 134, len)) mi pc L (.ref x9 :: .ref x8 :: .ref x7 :: .ref x6 :: .ref x5 :: .ref x4 :: .int x3 :: .ref x2 :: .ref x1 :: S) h Q = (ab_cat S ≤ 8 ∧ Ey xs 145 [.ref x1, .ref x2, .int x3, .ref x4, .ref x5, .ref x6, .ref x7, .ref x8, .ref x9] h (fun r h' => ab_sh h h' L S ∧ Gy xs (ab_at mi (pc + 3)) mi (pc + 3) L (r.toList ++ S) h' Q)) := Gy_invs (S := .ref x9 :: .ref x8 :: .ref x7 :: .ref x6 :: .ref x5 :: .ref x4 :: .int x3 :: .ref x2 :: .ref x1 :: S) (h := h) ml_10_134 (Or.inl rfl) (Nat.le_add_left 9 _) (by
  show List.all [.ref x9, .ref x8, .ref x7, .ref x6, .ref x5, .ref x4, .int x3, .ref x2, .ref x1] (ab_ok (ab_nx h)) = true
  simp only [List.all_cons, List.all_nil, Bool.and_true, Bool.and_eq_true]
  exact ⟨h9, h8, h7, h6, h5, h4, rfl, h2, h1⟩)
theorem cy_138 {b : Nat} {x1 : Int32} (hr : ab_ref h b 7 = true) : Gy xs (some (.invokevirtual 138, len)) mi pc L (.int x1 :: .ref b :: S) h Q = (ab_cat S ≤ 8 ∧ Ey xs 120 [.ref b, .int x1] h (fun r h' => ab_sh h h' L S ∧ Gy xs (ab_at mi (pc + 3)) mi (pc + 3) L (r.toList ++ S) h' Q)) := Gy_invv (rest := S) ml_10_138 rfl hr (by decide) (by
  show List.all [.int x1] (ab_ok (ab_nx h)) = true
  simp only [List.all_cons, List.all_nil, Bool.and_true]
  exact rfl)
theorem cy_141 {b : Nat} {x1 : Int32} (hr : ab_ref h b 7 = true) : Gy xs (some (.invokevirtual 141, len)) mi pc L (.int x1 :: .ref b :: S) h Q = (ab_cat S ≤ 8 ∧ Ey xs 109 [.ref b, .int x1] h (fun r h' => ab_sh h h' L S ∧ Gy xs (ab_at mi (pc + 3)) mi (pc + 3) L (r.toList ++ S) h' Q)) := Gy_invv (rest := S) ml_10_141 rfl hr (by decide) (by
  show List.all [.int x1] (ab_ok (ab_nx h)) = true
  simp only [List.all_cons, List.all_nil, Bool.and_true]
  exact rfl)
theorem cy_144 {b : Nat} {x1 : Int32} (hr : ab_ref h b 7 = true) : Gy xs (some (.invokevirtual 144, len)) mi pc L (.int x1 :: .ref b :: S) h Q = (ab_cat S ≤ 8 ∧ Ey xs 110 [.ref b, .int x1] h (fun r h' => ab_sh h h' L S ∧ Gy xs (ab_at mi (pc + 3)) mi (pc + 3) L (r.toList ++ S) h' Q)) := Gy_invv (rest := S) ml_10_144 rfl hr (by decide) (by
  show List.all [.int x1] (ab_ok (ab_nx h)) = true
  simp only [List.all_cons, List.all_nil, Bool.and_true]
  exact rfl)
theorem cy_146 {b : Nat} {x1 : Int32} {x2 : Int32} (hr : ab_ref h b 7 = true) : Gy xs (some (.invokevirtual 146, len)) mi pc L (.int x2 :: .int x1 :: .ref b :: S) h Q = (ab_cat S ≤ 8 ∧ Ey xs 111 [.ref b, .int x1, .int x2] h (fun r h' => ab_sh h h' L S ∧ Gy xs (ab_at mi (pc + 3)) mi (pc + 3) L (r.toList ++ S) h' Q)) := Gy_invv (rest := S) ml_10_146 rfl hr (by decide) (by
  show List.all [.int x2, .int x1] (ab_ok (ab_nx h)) = true
  simp only [List.all_cons, List.all_nil, Bool.and_true, Bool.and_eq_true]
  exact ⟨rfl, rfl⟩)
theorem cy_149 {b : Nat} {x1 : Int32} (hr : ab_ref h b 7 = true) : Gy xs (some (.invokevirtual 149, len)) mi pc L (.int x1 :: .ref b :: S) h Q = (ab_cat S ≤ 8 ∧ Ey xs 112 [.ref b, .int x1] h (fun r h' => ab_sh h h' L S ∧ Gy xs (ab_at mi (pc + 3)) mi (pc + 3) L (r.toList ++ S) h' Q)) := Gy_invv (rest := S) ml_10_149 rfl hr (by decide) (by
  show List.all [.int x1] (ab_ok (ab_nx h)) = true
  simp only [List.all_cons, List.all_nil, Bool.and_true]
  exact rfl)
theorem cy_152 {b : Nat} {x1 : Int32} {x2 : Int32} (hr : ab_ref h b 7 = true) : Gy xs (some (.invokevirtual 152, len)) mi pc L (.int x2 :: .int x1 :: .ref b :: S) h Q = (ab_cat S ≤ 8 ∧ Ey xs 105 [.ref b, .int x1, .int x2] h (fun r h' => ab_sh h h' L S ∧ Gy xs (ab_at mi (pc + 3)) mi (pc + 3) L (r.toList ++ S) h' Q)) := Gy_invv (rest := S) ml_10_152 rfl hr (by decide) (by
  show List.all [.int x2, .int x1] (ab_ok (ab_nx h)) = true
  simp only [List.all_cons, List.all_nil, Bool.and_true, Bool.and_eq_true]
  exact ⟨rfl, rfl⟩)
theorem cy_154 {b : Nat} {x1 : Int32} (hr : ab_ref h b 7 = true) : Gy xs (some (.invokevirtual 154, len)) mi pc L (.int x1 :: .ref b :: S) h Q = (ab_cat S ≤ 8 ∧ Ey xs 113 [.ref b, .int x1] h (fun r h' => ab_sh h h' L S ∧ Gy xs (ab_at mi (pc + 3)) mi (pc + 3) L (r.toList ++ S) h' Q)) := Gy_invv (rest := S) ml_10_154 rfl hr (by decide) (by
  show List.all [.int x1] (ab_ok (ab_nx h)) = true
  simp only [List.all_cons, List.all_nil, Bool.and_true]
  exact rfl)
theorem cy_157 {b : Nat} {x1 : Int32} (hr : ab_ref h b 7 = true) : Gy xs (some (.invokevirtual 157, len)) mi pc L (.int x1 :: .ref b :: S) h Q = (ab_cat S ≤ 8 ∧ Ey xs 114 [.ref b, .int x1] h (fun r h' => ab_sh h h' L S ∧ Gy xs (ab_at mi (pc + 3)) mi (pc + 3) L (r.toList ++ S) h' Q)) := Gy_invv (rest := S) ml_10_157 rfl hr (by decide) (by
  show List.all [.int x1] (ab_ok (ab_nx h)) = true
  simp only [List.all_cons, List.all_nil, Bool.and_true]
  exact rfl)
theorem cy_160 {b : Nat} {x1 : Int32} {x2 : Int32} {x3 : Int32} {x4 : Int32} {x5 : Int32} (hr : ab_ref h b 7 = true) : Gy xs (some (.invokevirtual 160, len)) mi pc L (.int x5 :: .int x4 :: .int x3 :: .int x2 :: .int x1 :: .ref b :: S) h Q = (ab_cat S ≤ 8 ∧ Ey xs 119 [.ref b, .int x1, .int x2, .int x3, .int x4, .int x5] h (fun r h' => ab_sh h h' L S ∧ Gy xs (ab_at mi (pc + 3)) mi (pc + 3) L (r.toList ++ S) h' Q)) := Gy_invv (rest := S) ml_10_160 rfl hr (by decide) (by
  show List.all [.int x5, .int x4, .int x3, .int x2, .int x1] (ab_ok (ab_nx h)) = true
  simp only [List.all_cons, List.all_nil, Bool.and_true, Bool.and_eq_true]
  exact ⟨rfl, rfl, rfl, rfl, rfl⟩)
theorem cy_164 {b : Nat} {x1 : Int32} {x2 : Int32} {x3 : Int32} {x4 : Int32} (hr : ab_ref h b 7 = true) : Gy xs (some (.invokevirtual 164, len)) mi pc L (.int x4 :: .int x3 :: .int x2 :: .int x1 :: .ref b :: S) h Q = (ab_cat S ≤ 8 ∧ Ey xs 106 [.ref b, .int x1, .int x2, .int x3, .int x4] h (fun r h' => ab_sh h h' L S ∧ Gy xs (ab_at mi (pc + 3)) mi (pc + 3) L (r.toList ++ S) h' Q)) := Gy_invv (rest := S) ml_10_164 rfl hr (by decide) (by
  show List.all [.int x4, .int x3, .int x2, .int x1] (ab_ok (ab_nx h)) = true
  simp only [List.all_cons, List.all_nil, Bool.and_true, Bool.and_eq_true]
  exact ⟨rfl, rfl, rfl, rfl⟩)
theorem cy_168 {b : Nat} {x1 : Int32} (hr : ab_ref h b 7 = true) : Gy xs (some (.invokevirtual 168, len)) mi pc L (.int x1 :: .ref b :: S) h Q = (ab_cat S ≤ 8 ∧ Ey xs 108 [.ref b, .int x1] h (fun r h' => ab_sh h h' L S ∧ Gy xs (ab_at mi (pc + 3)) mi (pc + 3) L (r.toList ++ S) h' Q)) := Gy_invv (rest := S) ml_10_168 rfl hr (by decide) (by
  show List.all [.int x1] (ab_ok (ab_nx h)) = true
  simp only [List.all_cons, List.all_nil, Bool.and_true]
  exact rfl)
theorem cy_171 {b : Nat} {x1 : Int32} (hr : ab_ref h b 7 = true) : Gy xs (some (.invokevirtual 171, len)) mi pc L (.int x1 :: .ref b :: S) h Q = (ab_cat S ≤ 8 ∧ Ey xs 107 [.ref b, .int x1] h (fun r h' => ab_sh h h' L S ∧ Gy xs (ab_at mi (pc + 3)) mi (pc + 3) L (r.toList ++ S) h' Q)) := Gy_invv (rest := S) ml_10_171 rfl hr (by decide) (by
  show List.all [.int x1] (ab_ok (ab_nx h)) = true
  simp only [List.all_cons, List.all_nil, Bool.and_true]
  exact rfl)
theorem cy_174 {b : Nat} (hr : ab_ref h b 7 = true) : Gy xs (some (.invokevirtual 174, len)) mi pc L (.ref b :: S) h Q = (ab_cat S ≤ 8 ∧ Ey xs 115 [.ref b] h (fun r h' => ab_sh h h' L S ∧ Gy xs (ab_at mi (pc + 3)) mi (pc + 3) L (r.toList ++ S) h' Q)) := Gy_invv (rest := S) ml_10_174 rfl hr (by decide) (rfl)
theorem cy_177 {b : Nat} (hr : ab_ref h b 7 = true) : Gy xs (some (.invokevirtual 177, len)) mi pc L (.ref b :: S) h Q = (ab_cat S ≤ 8 ∧ Ey xs 116 [.ref b] h (fun r h' => ab_sh h h' L S ∧ Gy xs (ab_at mi (pc + 3)) mi (pc + 3) L (r.toList ++ S) h' Q)) := Gy_invv (rest := S) ml_10_177 rfl hr (by decide) (rfl)
theorem cy_180 {b : Nat} {x1 : Int32} (hr : ab_ref h b 7 = true) : Gy xs (some (.invokevirtual 180, len)) mi pc L (.int x1 :: .ref b :: S) h Q = (ab_cat S ≤ 8 ∧ Ey xs 121 [.ref b, .int x1] h (fun r h' => ab_sh h h' L S ∧ Gy xs (ab_at mi (pc + 3)) mi (pc + 3) L (r.toList ++ S) h' Q)) := Gy_invv (rest := S) ml_10_180 rfl hr (by decide) (by
  show List.all [.int x1] (ab_ok (ab_nx h)) = true
  simp only [List.all_cons, List.all_nil, Bool.and_true]
  exact rfl)
theorem cy_183 {b : Nat} {x1 : Int32} {x2 : Int32} {x3 : Int32} (hr : ab_ref h b 7 = true) : Gy xs (some (.invokevirtual 183, len)) mi pc L (.int x3 :: .int x2 :: .int x1 :: .ref b :: S) h Q = (ab_cat S ≤ 8 ∧ Ey xs 117 [.ref b, .int x1, .int x2, .int x3] h (fun r h' => ab_sh h h' L S ∧ Gy xs (ab_at mi (pc + 3)) mi (pc + 3) L (r.toList ++ S) h' Q)) := Gy_invv (rest := S) ml_10_183 rfl hr (by decide) (by
  show List.all [.int x3, .int x2, .int x1] (ab_ok (ab_nx h)) = true
  simp only [List.all_cons, List.all_nil, Bool.and_true, Bool.and_eq_true]
  exact ⟨rfl, rfl, rfl⟩)
theorem cy_186 {b : Nat} {x1 : Int32} {x2 : Int32} (hr : ab_ref h b 7 = true) : Gy xs (some (.invokevirtual 186, len)) mi pc L (.int x2 :: .int x1 :: .ref b :: S) h Q = (ab_cat S ≤ 8 ∧ Ey xs 118 [.ref b, .int x1, .int x2] h (fun r h' => ab_sh h h' L S ∧ Gy xs (ab_at mi (pc + 3)) mi (pc + 3) L (r.toList ++ S) h' Q)) := Gy_invv (rest := S) ml_10_186 rfl hr (by decide) (by
  show List.all [.int x2, .int x1] (ab_ok (ab_nx h)) = true
  simp only [List.all_cons, List.all_nil, Bool.and_true, Bool.and_eq_true]
  exact ⟨rfl, rfl⟩)
end YRT
