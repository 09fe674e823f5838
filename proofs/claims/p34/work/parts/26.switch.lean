/-! SWITCHES, by program -/
section SWI
variable {mi pc len : Nat} {L : ab_L} {S : List Value} {h : ab_H} {Q : Option Value → ab_H → Prop} {x : Int32}
theorem Go_tabT {dflt lo hi off : Int} {offs : Array Int} {T : Nat} (h1 : ¬ (x.toInt < lo ∨ hi < x.toInt)) (h2 : offs[(x.toInt - lo).toNat]? = some off) (h0 : 0 ≤ (pc : Int) + off) (hT : ((pc : Int) + off).toNat = T) : Go (some (.tableswitch dflt lo hi offs, len)) mi pc L (.int x :: S) h Q = Go (ab_at mi T) mi T L S h Q := by
  rw [Go_table, if_neg h1, h2]
  exact Go_gotoT h0 hT
theorem Go_tabD {dflt lo hi : Int} {offs : Array Int} {T : Nat} (h1 : x.toInt < lo ∨ hi < x.toInt) (h0 : 0 ≤ (pc : Int) + dflt) (hT : ((pc : Int) + dflt).toNat = T) : Go (some (.tableswitch dflt lo hi offs, len)) mi pc L (.int x :: S) h Q = Go (ab_at mi T) mi T L S h Q := by
  rw [Go_table, if_pos h1]
  exact Go_gotoT h0 hT
theorem sw_d {lo hi : Nat} (hl : lo < 1000) (hh : hi < 1000) (h : x < nI lo ∨ nI hi < x) : x.toInt < (lo : Int) ∨ (hi : Int) < x.toInt := by
  rw [Int32.lt_iff_toInt_lt, Int32.lt_iff_toInt_lt, nI_toInt (by omega), nI_toInt (by omega)] at h
  exact h
theorem ts_16_6_0 : Go (ab_at 16 6) 16 6 L (.int (nI 0) :: S) h Q = Go (ab_at 16 56) 16 56 L S h Q := Go_tabT (off := 50) (by decide) (by decide) (by decide) (by decide)
theorem ts_16_6_1 : Go (ab_at 16 6) 16 6 L (.int (nI 1) :: S) h Q = Go (ab_at 16 81) 16 81 L S h Q := Go_tabT (off := 75) (by decide) (by decide) (by decide) (by decide)
theorem ts_16_6_2 : Go (ab_at 16 6) 16 6 L (.int (nI 2) :: S) h Q = Go (ab_at 16 109) 16 109 L S h Q := Go_tabT (off := 103) (by decide) (by decide) (by decide) (by decide)
theorem ts_16_6_3 : Go (ab_at 16 6) 16 6 L (.int (nI 3) :: S) h Q = Go (ab_at 16 109) 16 109 L S h Q := Go_tabT (off := 103) (by decide) (by decide) (by decide) (by decide)
theorem ts_16_6_4 : Go (ab_at 16 6) 16 6 L (.int (nI 4) :: S) h Q = Go (ab_at 16 88) 16 88 L S h Q := Go_tabT (off := 82) (by decide) (by decide) (by decide) (by decide)
theorem ts_16_6_5 : Go (ab_at 16 6) 16 6 L (.int (nI 5) :: S) h Q = Go (ab_at 16 109) 16 109 L S h Q := Go_tabT (off := 103) (by decide) (by decide) (by decide) (by decide)
theorem ts_16_6_6 : Go (ab_at 16 6) 16 6 L (.int (nI 6) :: S) h Q = Go (ab_at 16 109) 16 109 L S h Q := Go_tabT (off := 103) (by decide) (by decide) (by decide) (by decide)
theorem ts_16_6_7 : Go (ab_at 16 6) 16 6 L (.int (nI 7) :: S) h Q = Go (ab_at 16 95) 16 95 L S h Q := Go_tabT (off := 89) (by decide) (by decide) (by decide) (by decide)
theorem ts_16_6_8 : Go (ab_at 16 6) 16 6 L (.int (nI 8) :: S) h Q = Go (ab_at 16 102) 16 102 L S h Q := Go_tabT (off := 96) (by decide) (by decide) (by decide) (by decide)
theorem ts_16_6_d (hx : x < nI 0 ∨ nI 8 < x) : Go (ab_at 16 6) 16 6 L (.int x :: S) h Q = Go (ab_at 16 109) 16 109 L S h Q := Go_tabD (sw_d (lo := 0) (hi := 8) (by decide) (by decide) hx) (by decide) (by decide)
theorem ts_100_1_0 : Go (ab_at 100 1) 100 1 L (.int (nI 0) :: S) h Q = Go (ab_at 100 36) 100 36 L S h Q := Go_tabT (off := 35) (by decide) (by decide) (by decide) (by decide)
theorem ts_100_1_1 : Go (ab_at 100 1) 100 1 L (.int (nI 1) :: S) h Q = Go (ab_at 100 44) 100 44 L S h Q := Go_tabT (off := 43) (by decide) (by decide) (by decide) (by decide)
theorem ts_100_1_2 : Go (ab_at 100 1) 100 1 L (.int (nI 2) :: S) h Q = Go (ab_at 100 52) 100 52 L S h Q := Go_tabT (off := 51) (by decide) (by decide) (by decide) (by decide)
theorem ts_100_1_3 : Go (ab_at 100 1) 100 1 L (.int (nI 3) :: S) h Q = Go (ab_at 100 62) 100 62 L S h Q := Go_tabT (off := 61) (by decide) (by decide) (by decide) (by decide)
theorem ts_100_1_4 : Go (ab_at 100 1) 100 1 L (.int (nI 4) :: S) h Q = Go (ab_at 100 72) 100 72 L S h Q := Go_tabT (off := 71) (by decide) (by decide) (by decide) (by decide)
theorem ts_100_1_d (hx : x < nI 0 ∨ nI 4 < x) : Go (ab_at 100 1) 100 1 L (.int x :: S) h Q = Go (ab_at 100 80) 100 80 L S h Q := Go_tabD (sw_d (lo := 0) (hi := 4) (by decide) (by decide) hx) (by decide) (by decide)
theorem ts_103_14_0 : Go (ab_at 103 14) 103 14 L (.int (nI 0) :: S) h Q = Go (ab_at 103 48) 103 48 L S h Q := Go_tabT (off := 34) (by decide) (by decide) (by decide) (by decide)
theorem ts_103_14_1 : Go (ab_at 103 14) 103 14 L (.int (nI 1) :: S) h Q = Go (ab_at 103 58) 103 58 L S h Q := Go_tabT (off := 44) (by decide) (by decide) (by decide) (by decide)
theorem ts_103_14_2 : Go (ab_at 103 14) 103 14 L (.int (nI 2) :: S) h Q = Go (ab_at 103 68) 103 68 L S h Q := Go_tabT (off := 54) (by decide) (by decide) (by decide) (by decide)
theorem ts_103_14_3 : Go (ab_at 103 14) 103 14 L (.int (nI 3) :: S) h Q = Go (ab_at 103 78) 103 78 L S h Q := Go_tabT (off := 64) (by decide) (by decide) (by decide) (by decide)
theorem ts_103_14_4 : Go (ab_at 103 14) 103 14 L (.int (nI 4) :: S) h Q = Go (ab_at 103 104) 103 104 L S h Q := Go_tabT (off := 90) (by decide) (by decide) (by decide) (by decide)
theorem ts_103_14_d (hx : x < nI 0 ∨ nI 4 < x) : Go (ab_at 103 14) 103 14 L (.int x :: S) h Q = Go (ab_at 103 113) 103 113 L S h Q := Go_tabD (sw_d (lo := 0) (hi := 4) (by decide) (by decide) hx) (by decide) (by decide)
theorem ts_131_47_2 : Go (ab_at 131 47) 131 47 L (.int (nI 2) :: S) h Q = Go (ab_at 131 80) 131 80 L S h Q := Go_tabT (off := 33) (by decide) (by decide) (by decide) (by decide)
theorem ts_131_47_3 : Go (ab_at 131 47) 131 47 L (.int (nI 3) :: S) h Q = Go (ab_at 131 86) 131 86 L S h Q := Go_tabT (off := 39) (by decide) (by decide) (by decide) (by decide)
theorem ts_131_47_4 : Go (ab_at 131 47) 131 47 L (.int (nI 4) :: S) h Q = Go (ab_at 131 92) 131 92 L S h Q := Go_tabT (off := 45) (by decide) (by decide) (by decide) (by decide)
theorem ts_131_47_5 : Go (ab_at 131 47) 131 47 L (.int (nI 5) :: S) h Q = Go (ab_at 131 97) 131 97 L S h Q := Go_tabT (off := 50) (by decide) (by decide) (by decide) (by decide)
theorem ts_131_47_6 : Go (ab_at 131 47) 131 47 L (.int (nI 6) :: S) h Q = Go (ab_at 131 109) 131 109 L S h Q := Go_tabT (off := 62) (by decide) (by decide) (by decide) (by decide)
theorem ts_131_47_d (hx : x < nI 2 ∨ nI 6 < x) : Go (ab_at 131 47) 131 47 L (.int x :: S) h Q = Go (ab_at 131 127) 131 127 L S h Q := Go_tabD (sw_d (lo := 2) (hi := 6) (by decide) (by decide) hx) (by decide) (by decide)
end SWI
