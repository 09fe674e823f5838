/-! THE OBJECTS, once both are made -/
def SH : List (Nat × Nat × List (Option Nat)) := [(7, 10, [some 1, some 49, some 53, some 57, some 60, some 62, some 70, some 71, some 72, some 73]),
  (4, 12, [some 2, some 4, none, none, some 46, some 47, some 48, none, none, none, none, none]),
  (6, 2, [some 3, none]),
  (13, 320, []),
  (3, 17, [none, none, some 5, some 6, some 7, some 8, some 9, some 10, some 11, some 12, some 19, some 20, some 21, some 22, some 23, some 24, some 45]),
  (10, 6, []),
  (10, 6, []),
  (10, 6, []),
  (10, 6, []),
  (10, 6, []),
  (10, 6, []),
  (10, 6, []),
  (14, 6, [some 13, some 14, some 15, some 16, some 17, some 18]),
  (10, 6, []),
  (10, 6, []),
  (10, 6, []),
  (10, 6, []),
  (10, 6, []),
  (10, 6, []),
  (10, 6, []),
  (10, 20, []),
  (10, 20, []),
  (10, 20, []),
  (10, 20, []),
  (14, 20, [some 25, some 26, some 27, some 28, some 29, some 30, some 31, some 32, some 33, some 34, some 35, some 36, some 37, some 38, some 39, some 40, some 41, some 42, some 43, some 44]),
  (10, 6, []),
  (10, 6, []),
  (10, 6, []),
  (10, 6, []),
  (10, 6, []),
  (10, 6, []),
  (10, 6, []),
  (10, 6, []),
  (10, 6, []),
  (10, 6, []),
  (10, 6, []),
  (10, 6, []),
  (10, 6, []),
  (10, 6, []),
  (10, 6, []),
  (10, 6, []),
  (10, 6, []),
  (10, 6, []),
  (10, 6, []),
  (10, 6, []),
  (12, 20, []),
  (10, 321, []),
  (10, 321, []),
  (10, 321, []),
  (2, 10, [some 50, some 51, none, none, none, none, none, some 52, none, none]),
  (10, 4, []),
  (11, 20, []),
  (11, 20, []),
  (2, 10, [some 54, some 55, none, none, none, none, none, some 56, none, none]),
  (10, 4, []),
  (11, 20, []),
  (11, 20, []),
  (0, 3, [some 58, none, some 59]),
  (10, 20, []),
  (10, 20, []),
  (1, 1, [some 61]),
  (11, 20, []),
  (5, 4, [some 63, none, some 64, some 65]),
  (10, 4, []),
  (10, 4, []),
  (14, 4, [some 66, some 67, some 68, some 69]),
  (10, 40, []),
  (10, 40, []),
  (10, 40, []),
  (10, 40, []),
  (15, 2, [some 115, some 157]),
  (12, 2, []),
  (10, 20, []),
  (3, 17, [none, none, some 74, some 75, some 76, some 77, some 78, some 79, some 80, some 81, some 88, some 89, some 90, some 91, some 92, some 93, some 114]),
  (10, 6, []),
  (10, 6, []),
  (10, 6, []),
  (10, 6, []),
  (10, 6, []),
  (10, 6, []),
  (10, 6, []),
  (14, 6, [some 82, some 83, some 84, some 85, some 86, some 87]),
  (10, 6, []),
  (10, 6, []),
  (10, 6, []),
  (10, 6, []),
  (10, 6, []),
  (10, 6, []),
  (10, 6, []),
  (10, 20, []),
  (10, 20, []),
  (10, 20, []),
  (10, 20, []),
  (14, 20, [some 94, some 95, some 96, some 97, some 98, some 99, some 100, some 101, some 102, some 103, some 104, some 105, some 106, some 107, some 108, some 109, some 110, some 111, some 112, some 113]),
  (10, 6, []),
  (10, 6, []),
  (10, 6, []),
  (10, 6, []),
  (10, 6, []),
  (10, 6, []),
  (10, 6, []),
  (10, 6, []),
  (10, 6, []),
  (10, 6, []),
  (10, 6, []),
  (10, 6, []),
  (10, 6, []),
  (10, 6, []),
  (10, 6, []),
  (10, 6, []),
  (10, 6, []),
  (10, 6, []),
  (10, 6, []),
  (10, 6, []),
  (12, 20, []),
  (3, 17, [none, none, some 116, some 117, some 118, some 119, some 120, some 121, some 122, some 123, some 130, some 131, some 132, some 133, some 134, some 135, some 156]),
  (10, 6, []),
  (10, 6, []),
  (10, 6, []),
  (10, 6, []),
  (10, 6, []),
  (10, 6, []),
  (10, 6, []),
  (14, 6, [some 124, some 125, some 126, some 127, some 128, some 129]),
  (10, 6, []),
  (10, 6, []),
  (10, 6, []),
  (10, 6, []),
  (10, 6, []),
  (10, 6, []),
  (10, 6, []),
  (10, 20, []),
  (10, 20, []),
  (10, 20, []),
  (10, 20, []),
  (14, 20, [some 136, some 137, some 138, some 139, some 140, some 141, some 142, some 143, some 144, some 145, some 146, some 147, some 148, some 149, some 150, some 151, some 152, some 153, some 154, some 155]),
  (10, 6, []),
  (10, 6, []),
  (10, 6, []),
  (10, 6, []),
  (10, 6, []),
  (10, 6, []),
  (10, 6, []),
  (10, 6, []),
  (10, 6, []),
  (10, 6, []),
  (10, 6, []),
  (10, 6, []),
  (10, 6, []),
  (10, 6, []),
  (10, 6, []),
  (10, 6, []),
  (10, 6, []),
  (10, 6, []),
  (10, 6, []),
  (10, 6, []),
  (12, 20, []),
  (3, 17, [none, none, some 158, some 159, some 160, some 161, some 162, some 163, some 164, some 165, some 172, some 173, some 174, some 175, some 176, some 177, some 198]),
  (10, 6, []),
  (10, 6, []),
  (10, 6, []),
  (10, 6, []),
  (10, 6, []),
  (10, 6, []),
  (10, 6, []),
  (14, 6, [some 166, some 167, some 168, some 169, some 170, some 171]),
  (10, 6, []),
  (10, 6, []),
  (10, 6, []),
  (10, 6, []),
  (10, 6, []),
  (10, 6, []),
  (10, 6, []),
  (10, 20, []),
  (10, 20, []),
  (10, 20, []),
  (10, 20, []),
  (14, 20, [some 178, some 179, some 180, some 181, some 182, some 183, some 184, some 185, some 186, some 187, some 188, some 189, some 190, some 191, some 192, some 193, some 194, some 195, some 196, some 197]),
  (10, 6, []),
  (10, 6, []),
  (10, 6, []),
  (10, 6, []),
  (10, 6, []),
  (10, 6, []),
  (10, 6, []),
  (10, 6, []),
  (10, 6, []),
  (10, 6, []),
  (10, 6, []),
  (10, 6, []),
  (10, 6, []),
  (10, 6, []),
  (10, 6, []),
  (10, 6, []),
  (10, 6, []),
  (10, 6, []),
  (10, 6, []),
  (10, 6, []),
  (12, 20, [])]
def sh_z : ab_H := (SH, fun _ _ => 0, fun _ _ => 0)
theorem sh_nx (I : Nat → Nat → Int32) (J : Nat → Nat → Int64) : ab_nx (SH, I, J) = 199 := (by decide +kernel : SH.length = 199)
theorem sh_sl (I : Nat → Nat → Int32) (J : Nat → Nat → Int64) : ab_sl (SH, I, J) = ab_sl sh_z := rfl
theorem sh_ref (I : Nat → Nat → Int32) (J : Nat → Nat → Int64) (o k : Nat) : ab_ref (SH, I, J) o k = ab_ref sh_z o k := rfl
theorem sh_ln (I : Nat → Nat → Int32) (J : Nat → Nat → Int64) (o : Nat) : ab_ln (SH, I, J) o = ab_ln sh_z o := rfl
theorem sh_rf (I : Nat → Nat → Int32) (J : Nat → Nat → Int64) (o k : Nat) : ab_rf (SH, I, J) o k = ab_rf sh_z o k := rfl
theorem sh_kd (I : Nat → Nat → Int32) (J : Nat → Nat → Int64) (o : Nat) : ab_kd (SH, I, J) o = ab_kd sh_z o := rfl
theorem sh_seti (I : Nat → Nat → Int32) (J : Nat → Nat → Int64) (o k : Nat) (x : Int32) : ab_seti (SH, I, J) o k x = (SH, ab_up I o k x, J) := rfl
theorem sh_setl (I : Nat → Nat → Int32) (J : Nat → Nat → Int64) (o k : Nat) (x : Int64) : ab_setl (SH, I, J) o k x = (SH, I, ab_up J o k x) := rfl
theorem sh_same (I I' : Nat → Nat → Int32) (J J' : Nat → Nat → Int64) (L : ab_L) (S : List Value) : ab_sh (SH, I, J) (SH, I', J') L S = True := eq_true (Or.inl ⟨rfl, rfl⟩)
theorem sr_0 : ab_ref sh_z 0 7 = true := by decide +kernel
theorem sf_0_0 : va_rf (ab_rf sh_z 0 0) = .ref 1 := rfl
theorem sf_0_1 : va_rf (ab_rf sh_z 0 1) = .ref 49 := rfl
theorem sf_0_2 : va_rf (ab_rf sh_z 0 2) = .ref 53 := rfl
theorem sf_0_3 : va_rf (ab_rf sh_z 0 3) = .ref 57 := rfl
theorem sf_0_4 : va_rf (ab_rf sh_z 0 4) = .ref 60 := rfl
theorem sf_0_5 : va_rf (ab_rf sh_z 0 5) = .ref 62 := rfl
theorem sf_0_6 : va_rf (ab_rf sh_z 0 6) = .ref 70 := rfl
theorem sf_0_7 : va_rf (ab_rf sh_z 0 7) = .ref 71 := rfl
theorem sf_0_8 : va_rf (ab_rf sh_z 0 8) = .ref 72 := rfl
theorem sf_0_9 : va_rf (ab_rf sh_z 0 9) = .ref 73 := rfl
theorem sr_1 : ab_ref sh_z 1 4 = true := by decide +kernel
theorem sf_1_0 : va_rf (ab_rf sh_z 1 0) = .ref 2 := rfl
theorem sf_1_1 : va_rf (ab_rf sh_z 1 1) = .ref 4 := rfl
theorem sf_1_4 : va_rf (ab_rf sh_z 1 4) = .ref 46 := rfl
theorem sf_1_5 : va_rf (ab_rf sh_z 1 5) = .ref 47 := rfl
theorem sf_1_6 : va_rf (ab_rf sh_z 1 6) = .ref 48 := rfl
theorem sr_2 : ab_ref sh_z 2 6 = true := by decide +kernel
theorem sf_2_0 : va_rf (ab_rf sh_z 2 0) = .ref 3 := rfl
theorem sr_3 : ab_ref sh_z 3 13 = true := by decide +kernel
theorem sn_3 : ab_ln sh_z 3 = 320 := by decide +kernel
theorem sr_4 : ab_ref sh_z 4 3 = true := by decide +kernel
theorem sf_4_2 : va_rf (ab_rf sh_z 4 2) = .ref 5 := rfl
theorem sf_4_3 : va_rf (ab_rf sh_z 4 3) = .ref 6 := rfl
theorem sf_4_4 : va_rf (ab_rf sh_z 4 4) = .ref 7 := rfl
theorem sf_4_5 : va_rf (ab_rf sh_z 4 5) = .ref 8 := rfl
theorem sf_4_6 : va_rf (ab_rf sh_z 4 6) = .ref 9 := rfl
theorem sf_4_7 : va_rf (ab_rf sh_z 4 7) = .ref 10 := rfl
theorem sf_4_8 : va_rf (ab_rf sh_z 4 8) = .ref 11 := rfl
theorem sf_4_9 : va_rf (ab_rf sh_z 4 9) = .ref 12 := rfl
theorem sf_4_10 : va_rf (ab_rf sh_z 4 10) = .ref 19 := rfl
theorem sf_4_11 : va_rf (ab_rf sh_z 4 11) = .ref 20 := rfl
theorem sf_4_12 : va_rf (ab_rf sh_z 4 12) = .ref 21 := rfl
theorem sf_4_13 : va_rf (ab_rf sh_z 4 13) = .ref 22 := rfl
theorem sf_4_14 : va_rf (ab_rf sh_z 4 14) = .ref 23 := rfl
theorem sf_4_15 : va_rf (ab_rf sh_z 4 15) = .ref 24 := rfl
theorem sf_4_16 : va_rf (ab_rf sh_z 4 16) = .ref 45 := rfl
theorem sr_5 : ab_ref sh_z 5 10 = true := by decide +kernel
theorem sn_5 : ab_ln sh_z 5 = 6 := by decide +kernel
theorem sr_6 : ab_ref sh_z 6 10 = true := by decide +kernel
theorem sn_6 : ab_ln sh_z 6 = 6 := by decide +kernel
theorem sr_7 : ab_ref sh_z 7 10 = true := by decide +kernel
theorem sn_7 : ab_ln sh_z 7 = 6 := by decide +kernel
theorem sr_8 : ab_ref sh_z 8 10 = true := by decide +kernel
theorem sn_8 : ab_ln sh_z 8 = 6 := by decide +kernel
theorem sr_9 : ab_ref sh_z 9 10 = true := by decide +kernel
theorem sn_9 : ab_ln sh_z 9 = 6 := by decide +kernel
theorem sr_10 : ab_ref sh_z 10 10 = true := by decide +kernel
theorem sn_10 : ab_ln sh_z 10 = 6 := by decide +kernel
theorem sr_11 : ab_ref sh_z 11 10 = true := by decide +kernel
theorem sn_11 : ab_ln sh_z 11 = 6 := by decide +kernel
theorem sr_12 : ab_ref sh_z 12 14 = true := by decide +kernel
theorem sn_12 : ab_ln sh_z 12 = 6 := by decide +kernel
theorem sr_19 : ab_ref sh_z 19 10 = true := by decide +kernel
theorem sn_19 : ab_ln sh_z 19 = 6 := by decide +kernel
theorem sr_20 : ab_ref sh_z 20 10 = true := by decide +kernel
theorem sn_20 : ab_ln sh_z 20 = 20 := by decide +kernel
theorem sr_21 : ab_ref sh_z 21 10 = true := by decide +kernel
theorem sn_21 : ab_ln sh_z 21 = 20 := by decide +kernel
theorem sr_22 : ab_ref sh_z 22 10 = true := by decide +kernel
theorem sn_22 : ab_ln sh_z 22 = 20 := by decide +kernel
theorem sr_23 : ab_ref sh_z 23 10 = true := by decide +kernel
theorem sn_23 : ab_ln sh_z 23 = 20 := by decide +kernel
theorem sr_24 : ab_ref sh_z 24 14 = true := by decide +kernel
theorem sn_24 : ab_ln sh_z 24 = 20 := by decide +kernel
theorem sr_45 : ab_ref sh_z 45 12 = true := by decide +kernel
theorem sn_45 : ab_ln sh_z 45 = 20 := by decide +kernel
theorem sr_46 : ab_ref sh_z 46 10 = true := by decide +kernel
theorem sn_46 : ab_ln sh_z 46 = 321 := by decide +kernel
theorem sr_47 : ab_ref sh_z 47 10 = true := by decide +kernel
theorem sn_47 : ab_ln sh_z 47 = 321 := by decide +kernel
theorem sr_48 : ab_ref sh_z 48 10 = true := by decide +kernel
theorem sn_48 : ab_ln sh_z 48 = 321 := by decide +kernel
theorem sr_49 : ab_ref sh_z 49 2 = true := by decide +kernel
theorem sf_49_0 : va_rf (ab_rf sh_z 49 0) = .ref 50 := rfl
theorem sf_49_1 : va_rf (ab_rf sh_z 49 1) = .ref 51 := rfl
theorem sf_49_7 : va_rf (ab_rf sh_z 49 7) = .ref 52 := rfl
theorem sr_50 : ab_ref sh_z 50 10 = true := by decide +kernel
theorem sn_50 : ab_ln sh_z 50 = 4 := by decide +kernel
theorem sr_51 : ab_ref sh_z 51 11 = true := by decide +kernel
theorem sn_51 : ab_ln sh_z 51 = 20 := by decide +kernel
theorem sr_52 : ab_ref sh_z 52 11 = true := by decide +kernel
theorem sn_52 : ab_ln sh_z 52 = 20 := by decide +kernel
theorem sr_53 : ab_ref sh_z 53 2 = true := by decide +kernel
theorem sf_53_0 : va_rf (ab_rf sh_z 53 0) = .ref 54 := rfl
theorem sf_53_1 : va_rf (ab_rf sh_z 53 1) = .ref 55 := rfl
theorem sf_53_7 : va_rf (ab_rf sh_z 53 7) = .ref 56 := rfl
theorem sr_54 : ab_ref sh_z 54 10 = true := by decide +kernel
theorem sn_54 : ab_ln sh_z 54 = 4 := by decide +kernel
theorem sr_55 : ab_ref sh_z 55 11 = true := by decide +kernel
theorem sn_55 : ab_ln sh_z 55 = 20 := by decide +kernel
theorem sr_56 : ab_ref sh_z 56 11 = true := by decide +kernel
theorem sn_56 : ab_ln sh_z 56 = 20 := by decide +kernel
theorem sr_57 : ab_ref sh_z 57 0 = true := by decide +kernel
theorem sf_57_0 : va_rf (ab_rf sh_z 57 0) = .ref 58 := rfl
theorem sf_57_2 : va_rf (ab_rf sh_z 57 2) = .ref 59 := rfl
theorem sr_58 : ab_ref sh_z 58 10 = true := by decide +kernel
theorem sn_58 : ab_ln sh_z 58 = 20 := by decide +kernel
theorem sr_59 : ab_ref sh_z 59 10 = true := by decide +kernel
theorem sn_59 : ab_ln sh_z 59 = 20 := by decide +kernel
theorem sr_60 : ab_ref sh_z 60 1 = true := by decide +kernel
theorem sf_60_0 : va_rf (ab_rf sh_z 60 0) = .ref 61 := rfl
theorem sr_61 : ab_ref sh_z 61 11 = true := by decide +kernel
theorem sn_61 : ab_ln sh_z 61 = 20 := by decide +kernel
theorem sr_62 : ab_ref sh_z 62 5 = true := by decide +kernel
theorem sf_62_0 : va_rf (ab_rf sh_z 62 0) = .ref 63 := rfl
theorem sf_62_2 : va_rf (ab_rf sh_z 62 2) = .ref 64 := rfl
theorem sf_62_3 : va_rf (ab_rf sh_z 62 3) = .ref 65 := rfl
theorem sr_63 : ab_ref sh_z 63 10 = true := by decide +kernel
theorem sn_63 : ab_ln sh_z 63 = 4 := by decide +kernel
theorem sr_64 : ab_ref sh_z 64 10 = true := by decide +kernel
theorem sn_64 : ab_ln sh_z 64 = 4 := by decide +kernel
theorem sr_65 : ab_ref sh_z 65 14 = true := by decide +kernel
theorem sn_65 : ab_ln sh_z 65 = 4 := by decide +kernel
theorem sr_70 : ab_ref sh_z 70 15 = true := by decide +kernel
theorem sn_70 : ab_ln sh_z 70 = 2 := by decide +kernel
theorem sr_71 : ab_ref sh_z 71 12 = true := by decide +kernel
theorem sn_71 : ab_ln sh_z 71 = 2 := by decide +kernel
theorem sr_72 : ab_ref sh_z 72 10 = true := by decide +kernel
theorem sn_72 : ab_ln sh_z 72 = 20 := by decide +kernel
theorem sr_73 : ab_ref sh_z 73 3 = true := by decide +kernel
theorem sf_73_2 : va_rf (ab_rf sh_z 73 2) = .ref 74 := rfl
theorem sf_73_3 : va_rf (ab_rf sh_z 73 3) = .ref 75 := rfl
theorem sf_73_4 : va_rf (ab_rf sh_z 73 4) = .ref 76 := rfl
theorem sf_73_5 : va_rf (ab_rf sh_z 73 5) = .ref 77 := rfl
theorem sf_73_6 : va_rf (ab_rf sh_z 73 6) = .ref 78 := rfl
theorem sf_73_7 : va_rf (ab_rf sh_z 73 7) = .ref 79 := rfl
theorem sf_73_8 : va_rf (ab_rf sh_z 73 8) = .ref 80 := rfl
theorem sf_73_9 : va_rf (ab_rf sh_z 73 9) = .ref 81 := rfl
theorem sf_73_10 : va_rf (ab_rf sh_z 73 10) = .ref 88 := rfl
theorem sf_73_11 : va_rf (ab_rf sh_z 73 11) = .ref 89 := rfl
theorem sf_73_12 : va_rf (ab_rf sh_z 73 12) = .ref 90 := rfl
theorem sf_73_13 : va_rf (ab_rf sh_z 73 13) = .ref 91 := rfl
theorem sf_73_14 : va_rf (ab_rf sh_z 73 14) = .ref 92 := rfl
theorem sf_73_15 : va_rf (ab_rf sh_z 73 15) = .ref 93 := rfl
theorem sf_73_16 : va_rf (ab_rf sh_z 73 16) = .ref 114 := rfl
theorem sr_74 : ab_ref sh_z 74 10 = true := by decide +kernel
theorem sn_74 : ab_ln sh_z 74 = 6 := by decide +kernel
theorem sr_75 : ab_ref sh_z 75 10 = true := by decide +kernel
theorem sn_75 : ab_ln sh_z 75 = 6 := by decide +kernel
theorem sr_76 : ab_ref sh_z 76 10 = true := by decide +kernel
theorem sn_76 : ab_ln sh_z 76 = 6 := by decide +kernel
theorem sr_77 : ab_ref sh_z 77 10 = true := by decide +kernel
theorem sn_77 : ab_ln sh_z 77 = 6 := by decide +kernel
theorem sr_78 : ab_ref sh_z 78 10 = true := by decide +kernel
theorem sn_78 : ab_ln sh_z 78 = 6 := by decide +kernel
theorem sr_79 : ab_ref sh_z 79 10 = true := by decide +kernel
theorem sn_79 : ab_ln sh_z 79 = 6 := by decide +kernel
theorem sr_80 : ab_ref sh_z 80 10 = true := by decide +kernel
theorem sn_80 : ab_ln sh_z 80 = 6 := by decide +kernel
theorem sr_81 : ab_ref sh_z 81 14 = true := by decide +kernel
theorem sn_81 : ab_ln sh_z 81 = 6 := by decide +kernel
theorem sr_88 : ab_ref sh_z 88 10 = true := by decide +kernel
theorem sn_88 : ab_ln sh_z 88 = 6 := by decide +kernel
theorem sr_89 : ab_ref sh_z 89 10 = true := by decide +kernel
theorem sn_89 : ab_ln sh_z 89 = 20 := by decide +kernel
theorem sr_90 : ab_ref sh_z 90 10 = true := by decide +kernel
theorem sn_90 : ab_ln sh_z 90 = 20 := by decide +kernel
theorem sr_91 : ab_ref sh_z 91 10 = true := by decide +kernel
theorem sn_91 : ab_ln sh_z 91 = 20 := by decide +kernel
theorem sr_92 : ab_ref sh_z 92 10 = true := by decide +kernel
theorem sn_92 : ab_ln sh_z 92 = 20 := by decide +kernel
theorem sr_93 : ab_ref sh_z 93 14 = true := by decide +kernel
theorem sn_93 : ab_ln sh_z 93 = 20 := by decide +kernel
theorem sr_114 : ab_ref sh_z 114 12 = true := by decide +kernel
theorem sn_114 : ab_ln sh_z 114 = 20 := by decide +kernel
theorem sr_115 : ab_ref sh_z 115 3 = true := by decide +kernel
theorem sf_115_2 : va_rf (ab_rf sh_z 115 2) = .ref 116 := rfl
theorem sf_115_3 : va_rf (ab_rf sh_z 115 3) = .ref 117 := rfl
theorem sf_115_4 : va_rf (ab_rf sh_z 115 4) = .ref 118 := rfl
theorem sf_115_5 : va_rf (ab_rf sh_z 115 5) = .ref 119 := rfl
theorem sf_115_6 : va_rf (ab_rf sh_z 115 6) = .ref 120 := rfl
theorem sf_115_7 : va_rf (ab_rf sh_z 115 7) = .ref 121 := rfl
theorem sf_115_8 : va_rf (ab_rf sh_z 115 8) = .ref 122 := rfl
theorem sf_115_9 : va_rf (ab_rf sh_z 115 9) = .ref 123 := rfl
theorem sf_115_10 : va_rf (ab_rf sh_z 115 10) = .ref 130 := rfl
theorem sf_115_11 : va_rf (ab_rf sh_z 115 11) = .ref 131 := rfl
theorem sf_115_12 : va_rf (ab_rf sh_z 115 12) = .ref 132 := rfl
theorem sf_115_13 : va_rf (ab_rf sh_z 115 13) = .ref 133 := rfl
theorem sf_115_14 : va_rf (ab_rf sh_z 115 14) = .ref 134 := rfl
theorem sf_115_15 : va_rf (ab_rf sh_z 115 15) = .ref 135 := rfl
theorem sf_115_16 : va_rf (ab_rf sh_z 115 16) = .ref 156 := rfl
theorem sr_116 : ab_ref sh_z 116 10 = true := by decide +kernel
theorem sn_116 : ab_ln sh_z 116 = 6 := by decide +kernel
theorem sr_117 : ab_ref sh_z 117 10 = true := by decide +kernel
theorem sn_117 : ab_ln sh_z 117 = 6 := by decide +kernel
theorem sr_118 : ab_ref sh_z 118 10 = true := by decide +kernel
theorem sn_118 : ab_ln sh_z 118 = 6 := by decide +kernel
theorem sr_119 : ab_ref sh_z 119 10 = true := by decide +kernel
theorem sn_119 : ab_ln sh_z 119 = 6 := by decide +kernel
theorem sr_120 : ab_ref sh_z 120 10 = true := by decide +kernel
theorem sn_120 : ab_ln sh_z 120 = 6 := by decide +kernel
theorem sr_121 : ab_ref sh_z 121 10 = true := by decide +kernel
theorem sn_121 : ab_ln sh_z 121 = 6 := by decide +kernel
theorem sr_122 : ab_ref sh_z 122 10 = true := by decide +kernel
theorem sn_122 : ab_ln sh_z 122 = 6 := by decide +kernel
theorem sr_123 : ab_ref sh_z 123 14 = true := by decide +kernel
theorem sn_123 : ab_ln sh_z 123 = 6 := by decide +kernel
theorem sr_130 : ab_ref sh_z 130 10 = true := by decide +kernel
theorem sn_130 : ab_ln sh_z 130 = 6 := by decide +kernel
theorem sr_131 : ab_ref sh_z 131 10 = true := by decide +kernel
theorem sn_131 : ab_ln sh_z 131 = 20 := by decide +kernel
theorem sr_132 : ab_ref sh_z 132 10 = true := by decide +kernel
theorem sn_132 : ab_ln sh_z 132 = 20 := by decide +kernel
theorem sr_133 : ab_ref sh_z 133 10 = true := by decide +kernel
theorem sn_133 : ab_ln sh_z 133 = 20 := by decide +kernel
theorem sr_134 : ab_ref sh_z 134 10 = true := by decide +kernel
theorem sn_134 : ab_ln sh_z 134 = 20 := by decide +kernel
theorem sr_135 : ab_ref sh_z 135 14 = true := by decide +kernel
theorem sn_135 : ab_ln sh_z 135 = 20 := by decide +kernel
theorem sr_156 : ab_ref sh_z 156 12 = true := by decide +kernel
theorem sn_156 : ab_ln sh_z 156 = 20 := by decide +kernel
theorem sr_157 : ab_ref sh_z 157 3 = true := by decide +kernel
theorem sf_157_2 : va_rf (ab_rf sh_z 157 2) = .ref 158 := rfl
theorem sf_157_3 : va_rf (ab_rf sh_z 157 3) = .ref 159 := rfl
theorem sf_157_4 : va_rf (ab_rf sh_z 157 4) = .ref 160 := rfl
theorem sf_157_5 : va_rf (ab_rf sh_z 157 5) = .ref 161 := rfl
theorem sf_157_6 : va_rf (ab_rf sh_z 157 6) = .ref 162 := rfl
theorem sf_157_7 : va_rf (ab_rf sh_z 157 7) = .ref 163 := rfl
theorem sf_157_8 : va_rf (ab_rf sh_z 157 8) = .ref 164 := rfl
theorem sf_157_9 : va_rf (ab_rf sh_z 157 9) = .ref 165 := rfl
theorem sf_157_10 : va_rf (ab_rf sh_z 157 10) = .ref 172 := rfl
theorem sf_157_11 : va_rf (ab_rf sh_z 157 11) = .ref 173 := rfl
theorem sf_157_12 : va_rf (ab_rf sh_z 157 12) = .ref 174 := rfl
theorem sf_157_13 : va_rf (ab_rf sh_z 157 13) = .ref 175 := rfl
theorem sf_157_14 : va_rf (ab_rf sh_z 157 14) = .ref 176 := rfl
theorem sf_157_15 : va_rf (ab_rf sh_z 157 15) = .ref 177 := rfl
theorem sf_157_16 : va_rf (ab_rf sh_z 157 16) = .ref 198 := rfl
theorem sr_158 : ab_ref sh_z 158 10 = true := by decide +kernel
theorem sn_158 : ab_ln sh_z 158 = 6 := by decide +kernel
theorem sr_159 : ab_ref sh_z 159 10 = true := by decide +kernel
theorem sn_159 : ab_ln sh_z 159 = 6 := by decide +kernel
theorem sr_160 : ab_ref sh_z 160 10 = true := by decide +kernel
theorem sn_160 : ab_ln sh_z 160 = 6 := by decide +kernel
theorem sr_161 : ab_ref sh_z 161 10 = true := by decide +kernel
theorem sn_161 : ab_ln sh_z 161 = 6 := by decide +kernel
theorem sr_162 : ab_ref sh_z 162 10 = true := by decide +kernel
theorem sn_162 : ab_ln sh_z 162 = 6 := by decide +kernel
theorem sr_163 : ab_ref sh_z 163 10 = true := by decide +kernel
theorem sn_163 : ab_ln sh_z 163 = 6 := by decide +kernel
theorem sr_164 : ab_ref sh_z 164 10 = true := by decide +kernel
theorem sn_164 : ab_ln sh_z 164 = 6 := by decide +kernel
theorem sr_165 : ab_ref sh_z 165 14 = true := by decide +kernel
theorem sn_165 : ab_ln sh_z 165 = 6 := by decide +kernel
theorem sr_172 : ab_ref sh_z 172 10 = true := by decide +kernel
theorem sn_172 : ab_ln sh_z 172 = 6 := by decide +kernel
theorem sr_173 : ab_ref sh_z 173 10 = true := by decide +kernel
theorem sn_173 : ab_ln sh_z 173 = 20 := by decide +kernel
theorem sr_174 : ab_ref sh_z 174 10 = true := by decide +kernel
theorem sn_174 : ab_ln sh_z 174 = 20 := by decide +kernel
theorem sr_175 : ab_ref sh_z 175 10 = true := by decide +kernel
theorem sn_175 : ab_ln sh_z 175 = 20 := by decide +kernel
theorem sr_176 : ab_ref sh_z 176 10 = true := by decide +kernel
theorem sn_176 : ab_ln sh_z 176 = 20 := by decide +kernel
theorem sr_177 : ab_ref sh_z 177 14 = true := by decide +kernel
theorem sn_177 : ab_ln sh_z 177 = 20 := by decide +kernel
theorem sr_198 : ab_ref sh_z 198 12 = true := by decide +kernel
theorem sn_198 : ab_ln sh_z 198 = 20 := by decide +kernel
def isP (p : Nat) : Prop := p = 4 ∨ p = 73 ∨ p = 115 ∨ p = 157
theorem pf_2 {p : Nat} (h : isP p) : va_rf (ab_rf sh_z p 2) = .ref (p + 1) := by rcases h with rfl | rfl | rfl | rfl <;> rfl
theorem pf_3 {p : Nat} (h : isP p) : va_rf (ab_rf sh_z p 3) = .ref (p + 2) := by rcases h with rfl | rfl | rfl | rfl <;> rfl
theorem pf_4 {p : Nat} (h : isP p) : va_rf (ab_rf sh_z p 4) = .ref (p + 3) := by rcases h with rfl | rfl | rfl | rfl <;> rfl
theorem pf_5 {p : Nat} (h : isP p) : va_rf (ab_rf sh_z p 5) = .ref (p + 4) := by rcases h with rfl | rfl | rfl | rfl <;> rfl
theorem pf_6 {p : Nat} (h : isP p) : va_rf (ab_rf sh_z p 6) = .ref (p + 5) := by rcases h with rfl | rfl | rfl | rfl <;> rfl
theorem pf_7 {p : Nat} (h : isP p) : va_rf (ab_rf sh_z p 7) = .ref (p + 6) := by rcases h with rfl | rfl | rfl | rfl <;> rfl
theorem pf_8 {p : Nat} (h : isP p) : va_rf (ab_rf sh_z p 8) = .ref (p + 7) := by rcases h with rfl | rfl | rfl | rfl <;> rfl
theorem pf_9 {p : Nat} (h : isP p) : va_rf (ab_rf sh_z p 9) = .ref (p + 8) := by rcases h with rfl | rfl | rfl | rfl <;> rfl
theorem pf_10 {p : Nat} (h : isP p) : va_rf (ab_rf sh_z p 10) = .ref (p + 15) := by rcases h with rfl | rfl | rfl | rfl <;> rfl
theorem pf_11 {p : Nat} (h : isP p) : va_rf (ab_rf sh_z p 11) = .ref (p + 16) := by rcases h with rfl | rfl | rfl | rfl <;> rfl
theorem pf_12 {p : Nat} (h : isP p) : va_rf (ab_rf sh_z p 12) = .ref (p + 17) := by rcases h with rfl | rfl | rfl | rfl <;> rfl
theorem pf_13 {p : Nat} (h : isP p) : va_rf (ab_rf sh_z p 13) = .ref (p + 18) := by rcases h with rfl | rfl | rfl | rfl <;> rfl
theorem pf_14 {p : Nat} (h : isP p) : va_rf (ab_rf sh_z p 14) = .ref (p + 19) := by rcases h with rfl | rfl | rfl | rfl <;> rfl
theorem pf_15 {p : Nat} (h : isP p) : va_rf (ab_rf sh_z p 15) = .ref (p + 20) := by rcases h with rfl | rfl | rfl | rfl <;> rfl
theorem pf_16 {p : Nat} (h : isP p) : va_rf (ab_rf sh_z p 16) = .ref (p + 41) := by rcases h with rfl | rfl | rfl | rfl <;> rfl
theorem pr_0 {p : Nat} (h : isP p) : ab_ref sh_z p 3 = true := by rcases h with rfl | rfl | rfl | rfl <;> decide +kernel
theorem pr_1 {p : Nat} (h : isP p) : ab_ref sh_z (p + 1) 10 = true := by rcases h with rfl | rfl | rfl | rfl <;> decide +kernel
theorem pn_1 {p : Nat} (h : isP p) : ab_ln sh_z (p + 1) = 6 := by rcases h with rfl | rfl | rfl | rfl <;> rfl
theorem pr_2 {p : Nat} (h : isP p) : ab_ref sh_z (p + 2) 10 = true := by rcases h with rfl | rfl | rfl | rfl <;> decide +kernel
theorem pn_2 {p : Nat} (h : isP p) : ab_ln sh_z (p + 2) = 6 := by rcases h with rfl | rfl | rfl | rfl <;> rfl
theorem pr_3 {p : Nat} (h : isP p) : ab_ref sh_z (p + 3) 10 = true := by rcases h with rfl | rfl | rfl | rfl <;> decide +kernel
theorem pn_3 {p : Nat} (h : isP p) : ab_ln sh_z (p + 3) = 6 := by rcases h with rfl | rfl | rfl | rfl <;> rfl
theorem pr_4 {p : Nat} (h : isP p) : ab_ref sh_z (p + 4) 10 = true := by rcases h with rfl | rfl | rfl | rfl <;> decide +kernel
theorem pn_4 {p : Nat} (h : isP p) : ab_ln sh_z (p + 4) = 6 := by rcases h with rfl | rfl | rfl | rfl <;> rfl
theorem pr_5 {p : Nat} (h : isP p) : ab_ref sh_z (p + 5) 10 = true := by rcases h with rfl | rfl | rfl | rfl <;> decide +kernel
theorem pn_5 {p : Nat} (h : isP p) : ab_ln sh_z (p + 5) = 6 := by rcases h with rfl | rfl | rfl | rfl <;> rfl
theorem pr_6 {p : Nat} (h : isP p) : ab_ref sh_z (p + 6) 10 = true := by rcases h with rfl | rfl | rfl | rfl <;> decide +kernel
theorem pn_6 {p : Nat} (h : isP p) : ab_ln sh_z (p + 6) = 6 := by rcases h with rfl | rfl | rfl | rfl <;> rfl
theorem pr_7 {p : Nat} (h : isP p) : ab_ref sh_z (p + 7) 10 = true := by rcases h with rfl | rfl | rfl | rfl <;> decide +kernel
theorem pn_7 {p : Nat} (h : isP p) : ab_ln sh_z (p + 7) = 6 := by rcases h with rfl | rfl | rfl | rfl <;> rfl
theorem pr_8 {p : Nat} (h : isP p) : ab_ref sh_z (p + 8) 14 = true := by rcases h with rfl | rfl | rfl | rfl <;> decide +kernel
theorem pn_8 {p : Nat} (h : isP p) : ab_ln sh_z (p + 8) = 6 := by rcases h with rfl | rfl | rfl | rfl <;> rfl
theorem pr_15 {p : Nat} (h : isP p) : ab_ref sh_z (p + 15) 10 = true := by rcases h with rfl | rfl | rfl | rfl <;> decide +kernel
theorem pn_15 {p : Nat} (h : isP p) : ab_ln sh_z (p + 15) = 6 := by rcases h with rfl | rfl | rfl | rfl <;> rfl
theorem pr_16 {p : Nat} (h : isP p) : ab_ref sh_z (p + 16) 10 = true := by rcases h with rfl | rfl | rfl | rfl <;> decide +kernel
theorem pn_16 {p : Nat} (h : isP p) : ab_ln sh_z (p + 16) = 20 := by rcases h with rfl | rfl | rfl | rfl <;> rfl
theorem pr_17 {p : Nat} (h : isP p) : ab_ref sh_z (p + 17) 10 = true := by rcases h with rfl | rfl | rfl | rfl <;> decide +kernel
theorem pn_17 {p : Nat} (h : isP p) : ab_ln sh_z (p + 17) = 20 := by rcases h with rfl | rfl | rfl | rfl <;> rfl
theorem pr_18 {p : Nat} (h : isP p) : ab_ref sh_z (p + 18) 10 = true := by rcases h with rfl | rfl | rfl | rfl <;> decide +kernel
theorem pn_18 {p : Nat} (h : isP p) : ab_ln sh_z (p + 18) = 20 := by rcases h with rfl | rfl | rfl | rfl <;> rfl
theorem pr_19 {p : Nat} (h : isP p) : ab_ref sh_z (p + 19) 10 = true := by rcases h with rfl | rfl | rfl | rfl <;> decide +kernel
theorem pn_19 {p : Nat} (h : isP p) : ab_ln sh_z (p + 19) = 20 := by rcases h with rfl | rfl | rfl | rfl <;> rfl
theorem pr_20 {p : Nat} (h : isP p) : ab_ref sh_z (p + 20) 14 = true := by rcases h with rfl | rfl | rfl | rfl <;> decide +kernel
theorem pn_20 {p : Nat} (h : isP p) : ab_ln sh_z (p + 20) = 20 := by rcases h with rfl | rfl | rfl | rfl <;> rfl
theorem pr_41 {p : Nat} (h : isP p) : ab_ref sh_z (p + 41) 12 = true := by rcases h with rfl | rfl | rfl | rfl <;> decide +kernel
theorem pn_41 {p : Nat} (h : isP p) : ab_ln sh_z (p + 41) = 20 := by rcases h with rfl | rfl | rfl | rfl <;> rfl
theorem p_lt {p : Nat} (h : isP p) : p < 158 := by rcases h with rfl | rfl | rfl | rfl <;> omega
theorem pq_z1 : ∀ b, b < 6 → ∀ p, p < 158 → (p = 4 ∨ p = 73 ∨ p = 115 ∨ p = 157) → ab_rf sh_z (p + 8) b = some (p + 9 + b) ∧ ab_ref sh_z (p + 9 + b) 10 = true ∧ ab_ln sh_z (p + 9 + b) = 6 := by decide +kernel
theorem pq_z2 : ∀ b, b < 20 → ∀ p, p < 158 → (p = 4 ∨ p = 73 ∨ p = 115 ∨ p = 157) → ab_rf sh_z (p + 20) b = some (p + 21 + b) ∧ ab_ref sh_z (p + 21 + b) 10 = true ∧ ab_ln sh_z (p + 21 + b) = 6 := by decide +kernel
theorem pq_z3 : ∀ b, b < 4 → ab_rf sh_z 65 b = some (66 + b) ∧ ab_ref sh_z (66 + b) 10 = true ∧ ab_ln sh_z (66 + b) = 40 := by decide +kernel
theorem prow {p b : Nat} (h : isP p) (hb : b < 6) : va_rf (ab_rf sh_z (p + 8) b) = .ref (p + 9 + b) := by rw [(pq_z1 b hb p (p_lt h) h).1]; rfl
theorem prow_r {p b : Nat} (h : isP p) (hb : b < 6) : ab_ref sh_z (p + 9 + b) 10 = true := (pq_z1 b hb p (p_lt h) h).2.1
theorem prow_n {p b : Nat} (h : isP p) (hb : b < 6) : ab_ln sh_z (p + 9 + b) = 6 := (pq_z1 b hb p (p_lt h) h).2.2
theorem orow {p b : Nat} (h : isP p) (hb : b < 20) : va_rf (ab_rf sh_z (p + 20) b) = .ref (p + 21 + b) := by rw [(pq_z2 b hb p (p_lt h) h).1]; rfl
theorem orow_r {p b : Nat} (h : isP p) (hb : b < 20) : ab_ref sh_z (p + 21 + b) 10 = true := (pq_z2 b hb p (p_lt h) h).2.1
theorem orow_n {p b : Nat} (h : isP p) (hb : b < 20) : ab_ln sh_z (p + 21 + b) = 6 := (pq_z2 b hb p (p_lt h) h).2.2
theorem crow {b : Nat} (hb : b < 4) : va_rf (ab_rf sh_z 65 b) = .ref (66 + b) := by rw [(pq_z3 b hb).1]; rfl
theorem crow_r {b : Nat} (hb : b < 4) : ab_ref sh_z (66 + b) 10 = true := (pq_z3 b hb).2.1
theorem crow_n {b : Nat} (hb : b < 4) : ab_ln sh_z (66 + b) = 40 := (pq_z3 b hb).2.2
