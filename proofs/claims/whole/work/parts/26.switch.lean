/-! SWITCHES, by program -/
section SWI
variable {mi pc len : Nat} {L : ab_L} {S : List Value} {h : ab_H} {Q : Option Value → ab_H → Prop} {x : Int32}
theorem Go_tabT {dflt lo hi off : Int} {offs : Array Int} {T : Nat} (h1 : ¬ (x.toInt < lo ∨ hi < x.toInt)) (h2 : offs[(x.toInt - lo).toNat]? = some off) (h0 : 0 ≤ (pc : Int) + off) (hT : ((pc : Int) + off).toNat = T) : Go (some (.tableswitch dflt lo hi offs, len)) mi pc L (.int x :: S) h Q = Go (ab_at mi T) mi T L S h Q := by
  rw [Go_table, if_neg h1, h2]
  exact Go_gotoT h0 hT
theorem Go_tabD {dflt lo hi : Int} {offs : Array Int} {T : Nat} (h1 : x.toInt < lo ∨ hi < x.toInt) (h0 : 0 ≤ (pc : Int) + dflt) (hT : ((pc : Int) + dflt).toNat = T) : Go (some (.tableswitch dflt lo hi offs, len)) mi pc L (.int x :: S) h Q = Go (ab_at mi T) mi T L S h Q := by
  rw [Go_table, if_pos h1]
  exact Go_gotoT h0 hT
theorem sw_d {lo hi : Nat} (hl : lo < 1000) (hh : hi < 1000) (h : x < nI lo ∨ nI hi < x) : x.toInt < (lo : Int) ∨ (hi : Int) < x.toInt := by
  rw [Int32.lt_iff_toInt_lt, Int32.lt_iff_toInt_lt, nI_toInt (by omega), nI_toInt (by omega)] at h
  exact h
theorem Go_lookT {dflt : Int} {ps : Array (Int × Int)} {T : Nat} (hs : (ps.toList.zip (ps.toList.drop 1)).all (fun (a, next) => a.1 < next.1) = true) (h0 : 0 ≤ (pc : Int) + Op.lookupswitch.offset ps.toList dflt x.toInt) (hT : ((pc : Int) + Op.lookupswitch.offset ps.toList dflt x.toInt).toNat = T) : Go (some (.lookupswitch dflt ps, len)) mi pc L (.int x :: S) h Q = Go (ab_at mi T) mi T L S h Q := by
  refine Go_next fun call => ?_
  show (if _ then ab_go pc _ L S h else none) = _
  rw [if_pos hs]
  unfold ab_go
  rw [if_pos h0, hT]
theorem ts_16_6_0 : Go (ab_at 16 6) 16 6 L (.int (nI 0) :: S) h Q = Go (ab_at 16 56) 16 56 L S h Q := Go_tabT (off := 50) (by decide) (by decide) (by decide) (by decide)
theorem ts_16_6_1 : Go (ab_at 16 6) 16 6 L (.int (nI 1) :: S) h Q = Go (ab_at 16 81) 16 81 L S h Q := Go_tabT (off := 75) (by decide) (by decide) (by decide) (by decide)
theorem ts_16_6_2 : Go (ab_at 16 6) 16 6 L (.int (nI 2) :: S) h Q = Go (ab_at 16 109) 16 109 L S h Q := Go_tabT (off := 103) (by decide) (by decide) (by decide) (by decide)
theorem ts_16_6_3 : Go (ab_at 16 6) 16 6 L (.int (nI 3) :: S) h Q = Go (ab_at 16 109) 16 109 L S h Q := Go_tabT (off := 103) (by decide) (by decide) (by decide) (by decide)
theorem ts_16_6_4 : Go (ab_at 16 6) 16 6 L (.int (nI 4) :: S) h Q = Go (ab_at 16 88) 16 88 L S h Q := Go_tabT (off := 82) (by decide) (by decide) (by decide) (by decide)
theorem ts_16_6_5 : Go (ab_at 16 6) 16 6 L (.int (nI 5) :: S) h Q = Go (ab_at 16 109) 16 109 L S h Q := Go_tabT (off := 103) (by decide) (by decide) (by decide) (by decide)
theorem ts_16_6_6 : Go (ab_at 16 6) 16 6 L (.int (nI 6) :: S) h Q = Go (ab_at 16 109) 16 109 L S h Q := Go_tabT (off := 103) (by decide) (by decide) (by decide) (by decide)
theorem ts_16_6_7 : Go (ab_at 16 6) 16 6 L (.int (nI 7) :: S) h Q = Go (ab_at 16 95) 16 95 L S h Q := Go_tabT (off := 89) (by decide) (by decide) (by decide) (by decide)
theorem ts_16_6_8 : Go (ab_at 16 6) 16 6 L (.int (nI 8) :: S) h Q = Go (ab_at 16 102) 16 102 L S h Q := Go_tabT (off := 96) (by decide) (by decide) (by decide) (by decide)
theorem ts_16_6_d (hx : x < nI 0 ∨ nI 8 < x) : Go (ab_at 16 6) 16 6 L (.int x :: S) h Q = Go (ab_at 16 109) 16 109 L S h Q := Go_tabD (sw_d (lo := 0) (hi := 8) (by decide) (by decide) hx) (by decide) (by decide)
theorem ts_90_6_0 : Go (ab_at 90 6) 90 6 L (.int (nI 0) :: S) h Q = Go (ab_at 90 32) 90 32 L S h Q := Go_lookT (by decide) (by decide) (by decide)
theorem ts_90_6_1 : Go (ab_at 90 6) 90 6 L (.int (nI 1) :: S) h Q = Go (ab_at 90 45) 90 45 L S h Q := Go_lookT (by decide) (by decide) (by decide)
theorem ts_90_6_2 : Go (ab_at 90 6) 90 6 L (.int (nI 2) :: S) h Q = Go (ab_at 90 58) 90 58 L S h Q := Go_lookT (by decide) (by decide) (by decide)
theorem ts_100_1_0 : Go (ab_at 100 1) 100 1 L (.int (nI 0) :: S) h Q = Go (ab_at 100 36) 100 36 L S h Q := Go_tabT (off := 35) (by decide) (by decide) (by decide) (by decide)
theorem ts_100_1_1 : Go (ab_at 100 1) 100 1 L (.int (nI 1) :: S) h Q = Go (ab_at 100 44) 100 44 L S h Q := Go_tabT (off := 43) (by decide) (by decide) (by decide) (by decide)
theorem ts_100_1_2 : Go (ab_at 100 1) 100 1 L (.int (nI 2) :: S) h Q = Go (ab_at 100 52) 100 52 L S h Q := Go_tabT (off := 51) (by decide) (by decide) (by decide) (by decide)
theorem ts_100_1_3 : Go (ab_at 100 1) 100 1 L (.int (nI 3) :: S) h Q = Go (ab_at 100 62) 100 62 L S h Q := Go_tabT (off := 61) (by decide) (by decide) (by decide) (by decide)
theorem ts_100_1_4 : Go (ab_at 100 1) 100 1 L (.int (nI 4) :: S) h Q = Go (ab_at 100 72) 100 72 L S h Q := Go_tabT (off := 71) (by decide) (by decide) (by decide) (by decide)
theorem ts_100_1_d (hx : x < nI 0 ∨ nI 4 < x) : Go (ab_at 100 1) 100 1 L (.int x :: S) h Q = Go (ab_at 100 80) 100 80 L S h Q := Go_tabD (sw_d (lo := 0) (hi := 4) (by decide) (by decide) hx) (by decide) (by decide)
theorem ts_101_14_0 : Go (ab_at 101 14) 101 14 L (.int (nI 0) :: S) h Q = Go (ab_at 101 64) 101 64 L S h Q := Go_tabT (off := 50) (by decide) (by decide) (by decide) (by decide)
theorem ts_101_14_1 : Go (ab_at 101 14) 101 14 L (.int (nI 1) :: S) h Q = Go (ab_at 101 91) 101 91 L S h Q := Go_tabT (off := 77) (by decide) (by decide) (by decide) (by decide)
theorem ts_101_14_2 : Go (ab_at 101 14) 101 14 L (.int (nI 2) :: S) h Q = Go (ab_at 101 101) 101 101 L S h Q := Go_tabT (off := 87) (by decide) (by decide) (by decide) (by decide)
theorem ts_101_14_3 : Go (ab_at 101 14) 101 14 L (.int (nI 3) :: S) h Q = Go (ab_at 101 111) 101 111 L S h Q := Go_tabT (off := 97) (by decide) (by decide) (by decide) (by decide)
theorem ts_101_14_4 : Go (ab_at 101 14) 101 14 L (.int (nI 4) :: S) h Q = Go (ab_at 101 139) 101 139 L S h Q := Go_tabT (off := 125) (by decide) (by decide) (by decide) (by decide)
theorem ts_101_14_5 : Go (ab_at 101 14) 101 14 L (.int (nI 5) :: S) h Q = Go (ab_at 101 167) 101 167 L S h Q := Go_tabT (off := 153) (by decide) (by decide) (by decide) (by decide)
theorem ts_101_14_6 : Go (ab_at 101 14) 101 14 L (.int (nI 6) :: S) h Q = Go (ab_at 101 194) 101 194 L S h Q := Go_tabT (off := 180) (by decide) (by decide) (by decide) (by decide)
theorem ts_101_14_7 : Go (ab_at 101 14) 101 14 L (.int (nI 7) :: S) h Q = Go (ab_at 101 204) 101 204 L S h Q := Go_tabT (off := 190) (by decide) (by decide) (by decide) (by decide)
theorem ts_101_14_8 : Go (ab_at 101 14) 101 14 L (.int (nI 8) :: S) h Q = Go (ab_at 101 214) 101 214 L S h Q := Go_tabT (off := 200) (by decide) (by decide) (by decide) (by decide)
theorem ts_101_14_d (hx : x < nI 0 ∨ nI 8 < x) : Go (ab_at 101 14) 101 14 L (.int x :: S) h Q = Go (ab_at 101 223) 101 223 L S h Q := Go_tabD (sw_d (lo := 0) (hi := 8) (by decide) (by decide) hx) (by decide) (by decide)
theorem ts_103_14_0 : Go (ab_at 103 14) 103 14 L (.int (nI 0) :: S) h Q = Go (ab_at 103 48) 103 48 L S h Q := Go_tabT (off := 34) (by decide) (by decide) (by decide) (by decide)
theorem ts_103_14_1 : Go (ab_at 103 14) 103 14 L (.int (nI 1) :: S) h Q = Go (ab_at 103 58) 103 58 L S h Q := Go_tabT (off := 44) (by decide) (by decide) (by decide) (by decide)
theorem ts_103_14_2 : Go (ab_at 103 14) 103 14 L (.int (nI 2) :: S) h Q = Go (ab_at 103 68) 103 68 L S h Q := Go_tabT (off := 54) (by decide) (by decide) (by decide) (by decide)
theorem ts_103_14_3 : Go (ab_at 103 14) 103 14 L (.int (nI 3) :: S) h Q = Go (ab_at 103 78) 103 78 L S h Q := Go_tabT (off := 64) (by decide) (by decide) (by decide) (by decide)
theorem ts_103_14_4 : Go (ab_at 103 14) 103 14 L (.int (nI 4) :: S) h Q = Go (ab_at 103 104) 103 104 L S h Q := Go_tabT (off := 90) (by decide) (by decide) (by decide) (by decide)
theorem ts_103_14_d (hx : x < nI 0 ∨ nI 4 < x) : Go (ab_at 103 14) 103 14 L (.int x :: S) h Q = Go (ab_at 103 113) 103 113 L S h Q := Go_tabD (sw_d (lo := 0) (hi := 4) (by decide) (by decide) hx) (by decide) (by decide)
theorem ts_126_1_0 : Go (ab_at 126 1) 126 1 L (.int (nI 0) :: S) h Q = Go (ab_at 126 32) 126 32 L S h Q := Go_tabT (off := 31) (by decide) (by decide) (by decide) (by decide)
theorem ts_126_1_1 : Go (ab_at 126 1) 126 1 L (.int (nI 1) :: S) h Q = Go (ab_at 126 37) 126 37 L S h Q := Go_tabT (off := 36) (by decide) (by decide) (by decide) (by decide)
theorem ts_126_1_2 : Go (ab_at 126 1) 126 1 L (.int (nI 2) :: S) h Q = Go (ab_at 126 48) 126 48 L S h Q := Go_tabT (off := 47) (by decide) (by decide) (by decide) (by decide)
theorem ts_126_1_3 : Go (ab_at 126 1) 126 1 L (.int (nI 3) :: S) h Q = Go (ab_at 126 58) 126 58 L S h Q := Go_tabT (off := 57) (by decide) (by decide) (by decide) (by decide)
theorem ts_126_1_d (hx : x < nI 0 ∨ nI 3 < x) : Go (ab_at 126 1) 126 1 L (.int x :: S) h Q = Go (ab_at 126 66) 126 66 L S h Q := Go_tabD (sw_d (lo := 0) (hi := 3) (by decide) (by decide) hx) (by decide) (by decide)
theorem ts_131_47_2 : Go (ab_at 131 47) 131 47 L (.int (nI 2) :: S) h Q = Go (ab_at 131 80) 131 80 L S h Q := Go_tabT (off := 33) (by decide) (by decide) (by decide) (by decide)
theorem ts_131_47_3 : Go (ab_at 131 47) 131 47 L (.int (nI 3) :: S) h Q = Go (ab_at 131 86) 131 86 L S h Q := Go_tabT (off := 39) (by decide) (by decide) (by decide) (by decide)
theorem ts_131_47_4 : Go (ab_at 131 47) 131 47 L (.int (nI 4) :: S) h Q = Go (ab_at 131 92) 131 92 L S h Q := Go_tabT (off := 45) (by decide) (by decide) (by decide) (by decide)
theorem ts_131_47_5 : Go (ab_at 131 47) 131 47 L (.int (nI 5) :: S) h Q = Go (ab_at 131 97) 131 97 L S h Q := Go_tabT (off := 50) (by decide) (by decide) (by decide) (by decide)
theorem ts_131_47_6 : Go (ab_at 131 47) 131 47 L (.int (nI 6) :: S) h Q = Go (ab_at 131 109) 131 109 L S h Q := Go_tabT (off := 62) (by decide) (by decide) (by decide) (by decide)
theorem ts_131_47_d (hx : x < nI 2 ∨ nI 6 < x) : Go (ab_at 131 47) 131 47 L (.int x :: S) h Q = Go (ab_at 131 127) 131 127 L S h Q := Go_tabD (sw_d (lo := 2) (hi := 6) (by decide) (by decide) hx) (by decide) (by decide)
theorem ts_162_1_0 : Go (ab_at 162 1) 162 1 L (.int (nI 0) :: S) h Q = Go (ab_at 162 36) 162 36 L S h Q := Go_tabT (off := 35) (by decide) (by decide) (by decide) (by decide)
theorem ts_162_1_1 : Go (ab_at 162 1) 162 1 L (.int (nI 1) :: S) h Q = Go (ab_at 162 45) 162 45 L S h Q := Go_tabT (off := 44) (by decide) (by decide) (by decide) (by decide)
theorem ts_162_1_2 : Go (ab_at 162 1) 162 1 L (.int (nI 2) :: S) h Q = Go (ab_at 162 54) 162 54 L S h Q := Go_tabT (off := 53) (by decide) (by decide) (by decide) (by decide)
theorem ts_162_1_3 : Go (ab_at 162 1) 162 1 L (.int (nI 3) :: S) h Q = Go (ab_at 162 61) 162 61 L S h Q := Go_tabT (off := 60) (by decide) (by decide) (by decide) (by decide)
theorem ts_162_1_4 : Go (ab_at 162 1) 162 1 L (.int (nI 4) :: S) h Q = Go (ab_at 162 68) 162 68 L S h Q := Go_tabT (off := 67) (by decide) (by decide) (by decide) (by decide)
theorem ts_162_1_d (hx : x < nI 0 ∨ nI 4 < x) : Go (ab_at 162 1) 162 1 L (.int x :: S) h Q = Go (ab_at 162 75) 162 75 L S h Q := Go_tabD (sw_d (lo := 0) (hi := 4) (by decide) (by decide) hx) (by decide) (by decide)
theorem ts_164_11_0 : Go (ab_at 164 11) 164 11 L (.int (nI 0) :: S) h Q = Go (ab_at 164 60) 164 60 L S h Q := Go_tabT (off := 49) (by decide) (by decide) (by decide) (by decide)
theorem ts_164_11_1 : Go (ab_at 164 11) 164 11 L (.int (nI 1) :: S) h Q = Go (ab_at 164 86) 164 86 L S h Q := Go_tabT (off := 75) (by decide) (by decide) (by decide) (by decide)
theorem ts_164_11_2 : Go (ab_at 164 11) 164 11 L (.int (nI 2) :: S) h Q = Go (ab_at 164 96) 164 96 L S h Q := Go_tabT (off := 85) (by decide) (by decide) (by decide) (by decide)
theorem ts_164_11_3 : Go (ab_at 164 11) 164 11 L (.int (nI 3) :: S) h Q = Go (ab_at 164 106) 164 106 L S h Q := Go_tabT (off := 95) (by decide) (by decide) (by decide) (by decide)
theorem ts_164_11_4 : Go (ab_at 164 11) 164 11 L (.int (nI 4) :: S) h Q = Go (ab_at 164 116) 164 116 L S h Q := Go_tabT (off := 105) (by decide) (by decide) (by decide) (by decide)
theorem ts_164_11_5 : Go (ab_at 164 11) 164 11 L (.int (nI 5) :: S) h Q = Go (ab_at 164 126) 164 126 L S h Q := Go_tabT (off := 115) (by decide) (by decide) (by decide) (by decide)
theorem ts_164_11_6 : Go (ab_at 164 11) 164 11 L (.int (nI 6) :: S) h Q = Go (ab_at 164 136) 164 136 L S h Q := Go_tabT (off := 125) (by decide) (by decide) (by decide) (by decide)
theorem ts_164_11_7 : Go (ab_at 164 11) 164 11 L (.int (nI 7) :: S) h Q = Go (ab_at 164 143) 164 143 L S h Q := Go_tabT (off := 132) (by decide) (by decide) (by decide) (by decide)
theorem ts_164_11_8 : Go (ab_at 164 11) 164 11 L (.int (nI 8) :: S) h Q = Go (ab_at 164 150) 164 150 L S h Q := Go_tabT (off := 139) (by decide) (by decide) (by decide) (by decide)
theorem ts_164_11_d (hx : x < nI 0 ∨ nI 8 < x) : Go (ab_at 164 11) 164 11 L (.int x :: S) h Q = Go (ab_at 164 156) 164 156 L S h Q := Go_tabD (sw_d (lo := 0) (hi := 8) (by decide) (by decide) hx) (by decide) (by decide)
theorem ts_166_21_0 : Go (ab_at 166 21) 166 21 L (.int (nI 0) :: S) h Q = Go (ab_at 166 56) 166 56 L S h Q := Go_tabT (off := 35) (by decide) (by decide) (by decide) (by decide)
theorem ts_166_21_1 : Go (ab_at 166 21) 166 21 L (.int (nI 1) :: S) h Q = Go (ab_at 166 58) 166 58 L S h Q := Go_tabT (off := 37) (by decide) (by decide) (by decide) (by decide)
theorem ts_166_21_2 : Go (ab_at 166 21) 166 21 L (.int (nI 2) :: S) h Q = Go (ab_at 166 68) 166 68 L S h Q := Go_tabT (off := 47) (by decide) (by decide) (by decide) (by decide)
theorem ts_166_21_3 : Go (ab_at 166 21) 166 21 L (.int (nI 3) :: S) h Q = Go (ab_at 166 78) 166 78 L S h Q := Go_tabT (off := 57) (by decide) (by decide) (by decide) (by decide)
theorem ts_166_21_4 : Go (ab_at 166 21) 166 21 L (.int (nI 4) :: S) h Q = Go (ab_at 166 98) 166 98 L S h Q := Go_tabT (off := 77) (by decide) (by decide) (by decide) (by decide)
theorem ts_166_21_d (hx : x < nI 0 ∨ nI 4 < x) : Go (ab_at 166 21) 166 21 L (.int x :: S) h Q = Go (ab_at 166 105) 166 105 L S h Q := Go_tabD (sw_d (lo := 0) (hi := 4) (by decide) (by decide) hx) (by decide) (by decide)
theorem ts_170_30_2 : Go (ab_at 170 30) 170 30 L (.int (nI 2) :: S) h Q = Go (ab_at 170 60) 170 60 L S h Q := Go_tabT (off := 30) (by decide) (by decide) (by decide) (by decide)
theorem ts_170_30_3 : Go (ab_at 170 30) 170 30 L (.int (nI 3) :: S) h Q = Go (ab_at 170 66) 170 66 L S h Q := Go_tabT (off := 36) (by decide) (by decide) (by decide) (by decide)
theorem ts_170_30_4 : Go (ab_at 170 30) 170 30 L (.int (nI 4) :: S) h Q = Go (ab_at 170 72) 170 72 L S h Q := Go_tabT (off := 42) (by decide) (by decide) (by decide) (by decide)
theorem ts_170_30_5 : Go (ab_at 170 30) 170 30 L (.int (nI 5) :: S) h Q = Go (ab_at 170 77) 170 77 L S h Q := Go_tabT (off := 47) (by decide) (by decide) (by decide) (by decide)
theorem ts_170_30_d (hx : x < nI 2 ∨ nI 5 < x) : Go (ab_at 170 30) 170 30 L (.int x :: S) h Q = Go (ab_at 170 89) 170 89 L S h Q := Go_tabD (sw_d (lo := 2) (hi := 5) (by decide) (by decide) hx) (by decide) (by decide)
theorem ts_215_51_0 : Go (ab_at 215 51) 215 51 L (.int (nI 0) :: S) h Q = Go (ab_at 215 80) 215 80 L S h Q := Go_tabT (off := 29) (by decide) (by decide) (by decide) (by decide)
theorem ts_215_51_1 : Go (ab_at 215 51) 215 51 L (.int (nI 1) :: S) h Q = Go (ab_at 215 110) 215 110 L S h Q := Go_tabT (off := 59) (by decide) (by decide) (by decide) (by decide)
theorem ts_215_51_2 : Go (ab_at 215 51) 215 51 L (.int (nI 2) :: S) h Q = Go (ab_at 215 115) 215 115 L S h Q := Go_tabT (off := 64) (by decide) (by decide) (by decide) (by decide)
theorem ts_215_51_3 : Go (ab_at 215 51) 215 51 L (.int (nI 3) :: S) h Q = Go (ab_at 215 138) 215 138 L S h Q := Go_tabT (off := 87) (by decide) (by decide) (by decide) (by decide)
theorem ts_215_51_d (hx : x < nI 0 ∨ nI 3 < x) : Go (ab_at 215 51) 215 51 L (.int x :: S) h Q = Go (ab_at 215 140) 215 140 L S h Q := Go_tabD (sw_d (lo := 0) (hi := 3) (by decide) (by decide) hx) (by decide) (by decide)
end SWI
