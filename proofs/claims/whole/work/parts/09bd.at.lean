theorem at_96_0 : ab_at 96 0 = some (.iload_n 1, 1) := rfl
theorem at_96_1 : ab_at 96 1 = some (.ifCond .lt 9, 3) := rfl
theorem at_96_4 : ab_at 96 4 = some (.iload_n 1, 1) := rfl
theorem at_96_5 : ab_at 96 5 = some (.bipush 127, 2) := rfl
theorem at_96_7 : ab_at 96 7 = some (.if_icmp .le 5, 3) := rfl
theorem at_96_10 : ab_at 96 10 = some (.iconst (-1), 1) := rfl
theorem at_96_11 : ab_at 96 11 = some (.ireturn, 1) := rfl
theorem at_96_12 : ab_at 96 12 = some (.aload_n 0, 1) := rfl
theorem at_96_13 : ab_at 96 13 = some (.getfield 10, 3) := rfl
theorem at_96_16 : ab_at 96 16 = some (.getfield 66, 3) := rfl
theorem at_96_19 : ab_at 96 19 = some (.iload_n 1, 1) := rfl
theorem at_96_20 : ab_at 96 20 = some (.invokevirtual 70, 3) := rfl
theorem at_96_23 : ab_at 96 23 = some (.ifCond .eq 16, 3) := rfl
theorem at_96_26 : ab_at 96 26 = some (.aload_n 0, 1) := rfl
theorem at_96_27 : ab_at 96 27 = some (.getfield 10, 3) := rfl
theorem at_96_30 : ab_at 96 30 = some (.getfield 66, 3) := rfl
theorem at_96_33 : ab_at 96 33 = some (.getfield 76, 3) := rfl
theorem at_96_36 : ab_at 96 36 = some (.goto 5, 3) := rfl
theorem at_96_39 : ab_at 96 39 = some (.bipush (-3), 2) := rfl
theorem at_96_41 : ab_at 96 41 = some (.ireturn, 1) := rfl
theorem at_97_0 : ab_at 97 0 = some (.aload_n 0, 1) := rfl
theorem at_97_1 : ab_at 97 1 = some (.getfield 10, 3) := rfl
theorem at_97_4 : ab_at 97 4 = some (.getfield 66, 3) := rfl
theorem at_97_7 : ab_at 97 7 = some (.getfield 76, 3) := rfl
theorem at_97_10 : ab_at 97 10 = some (.istore_n 2, 1) := rfl
theorem at_97_11 : ab_at 97 11 = some (.iload_n 1, 1) := rfl
theorem at_97_12 : ab_at 97 12 = some (.ifCond .lt 8, 3) := rfl
theorem at_97_15 : ab_at 97 15 = some (.iload_n 1, 1) := rfl
theorem at_97_16 : ab_at 97 16 = some (.iload_n 2, 1) := rfl
theorem at_97_17 : ab_at 97 17 = some (.if_icmp .le 5, 3) := rfl
theorem at_97_20 : ab_at 97 20 = some (.iconst (-1), 1) := rfl
theorem at_97_21 : ab_at 97 21 = some (.ireturn, 1) := rfl
theorem at_97_22 : ab_at 97 22 = some (.aload_n 0, 1) := rfl
theorem at_97_23 : ab_at 97 23 = some (.getfield 10, 3) := rfl
theorem at_97_26 : ab_at 97 26 = some (.getfield 66, 3) := rfl
theorem at_97_29 : ab_at 97 29 = some (.iload_n 1, 1) := rfl
theorem at_97_30 : ab_at 97 30 = some (.putfield 76, 3) := rfl
theorem at_97_33 : ab_at 97 33 = some (.iload_n 2, 1) := rfl
theorem at_97_34 : ab_at 97 34 = some (.ireturn, 1) := rfl
theorem at_98_0 : ab_at 98 0 = some (.aload_n 0, 1) := rfl
theorem at_98_1 : ab_at 98 1 = some (.getfield 10, 3) := rfl
theorem at_98_4 : ab_at 98 4 = some (.invokevirtual 80, 3) := rfl
theorem at_98_7 : ab_at 98 7 = some (.istore_n 1, 1) := rfl
theorem at_98_8 : ab_at 98 8 = some (.aload_n 0, 1) := rfl
theorem at_98_9 : ab_at 98 9 = some (.getfield 10, 3) := rfl
theorem at_98_12 : ab_at 98 12 = some (.getfield 66, 3) := rfl
theorem at_98_15 : ab_at 98 15 = some (.iconst 0, 1) := rfl
theorem at_98_16 : ab_at 98 16 = some (.putfield 76, 3) := rfl
theorem at_98_19 : ab_at 98 19 = some (.iload_n 1, 1) := rfl
theorem at_98_20 : ab_at 98 20 = some (.ifCond .ne 14, 3) := rfl
theorem at_98_23 : ab_at 98 23 = some (.bipush (-10), 2) := rfl
theorem at_98_25 : ab_at 98 25 = some (.aload_n 0, 1) := rfl
theorem at_98_26 : ab_at 98 26 = some (.getfield 10, 3) := rfl
theorem at_98_29 : ab_at 98 29 = some (.getfield 84, 3) := rfl
theorem at_98_32 : ab_at 98 32 = some (.isub, 1) := rfl
theorem at_98_33 : ab_at 98 33 = some (.ireturn, 1) := rfl
theorem at_98_34 : ab_at 98 34 = some (.aload_n 0, 1) := rfl
theorem at_98_35 : ab_at 98 35 = some (.getfield 62, 3) := rfl
theorem at_98_38 : ab_at 98 38 = some (.aload_n 0, 1) := rfl
theorem at_98_39 : ab_at 98 39 = some (.getfield 10, 3) := rfl
theorem at_98_42 : ab_at 98 42 = some (.getfield 87, 3) := rfl
theorem at_98_45 : ab_at 98 45 = some (.invokevirtual 90, 3) := rfl
theorem at_98_48 : ab_at 98 48 = some (.iconst 0, 1) := rfl
theorem at_98_49 : ab_at 98 49 = some (.istore_n 2, 1) := rfl
theorem at_98_50 : ab_at 98 50 = some (.iload_n 2, 1) := rfl
theorem at_98_51 : ab_at 98 51 = some (.iconst 2, 1) := rfl
theorem at_98_52 : ab_at 98 52 = some (.if_icmp .ge 16, 3) := rfl
theorem at_98_55 : ab_at 98 55 = some (.aload_n 0, 1) := rfl
theorem at_98_56 : ab_at 98 56 = some (.getfield 53, 3) := rfl
theorem at_98_59 : ab_at 98 59 = some (.iload_n 2, 1) := rfl
theorem at_98_60 : ab_at 98 60 = some (.iconst 0, 1) := rfl
theorem at_98_61 : ab_at 98 61 = some (.bastore, 1) := rfl
theorem at_98_62 : ab_at 98 62 = some (.iinc 2 1, 3) := rfl
theorem at_98_65 : ab_at 98 65 = some (.goto (-15), 3) := rfl
theorem at_98_68 : ab_at 98 68 = some (.aload_n 0, 1) := rfl
theorem at_98_69 : ab_at 98 69 = some (.getfield 19, 3) := rfl
theorem at_98_72 : ab_at 98 72 = some (.invokevirtual 94, 3) := rfl
theorem at_98_75 : ab_at 98 75 = some (.aload_n 0, 1) := rfl
theorem at_98_76 : ab_at 98 76 = some (.getfield 62, 3) := rfl
theorem at_98_79 : ab_at 98 79 = some (.getfield 97, 3) := rfl
theorem at_98_82 : ab_at 98 82 = some (.ireturn, 1) := rfl
theorem at_99_0 : ab_at 99 0 = some (.aload_n 0, 1) := rfl
theorem at_99_1 : ab_at 99 1 = some (.getfield 10, 3) := rfl
theorem at_99_4 : ab_at 99 4 = some (.getfield 100, 3) := rfl
theorem at_99_7 : ab_at 99 7 = some (.ireturn, 1) := rfl
theorem at_100_0 : ab_at 100 0 = some (.iload_n 1, 1) := rfl
theorem at_100_1 : ab_at 100 1 = some (.tableswitch 79 0 4 #[35, 43, 51, 61, 71], 35) := rfl
theorem at_100_36 : ab_at 100 36 = some (.aload_n 0, 1) := rfl
theorem at_100_37 : ab_at 100 37 = some (.getfield 62, 3) := rfl
theorem at_100_40 : ab_at 100 40 = some (.getfield 103, 3) := rfl
theorem at_100_43 : ab_at 100 43 = some (.ireturn, 1) := rfl
theorem at_100_44 : ab_at 100 44 = some (.aload_n 0, 1) := rfl
theorem at_100_45 : ab_at 100 45 = some (.getfield 62, 3) := rfl
theorem at_100_48 : ab_at 100 48 = some (.getfield 97, 3) := rfl
theorem at_100_51 : ab_at 100 51 = some (.ireturn, 1) := rfl
theorem at_100_52 : ab_at 100 52 = some (.aload_n 0, 1) := rfl
theorem at_100_53 : ab_at 100 53 = some (.getfield 62, 3) := rfl
theorem at_100_56 : ab_at 100 56 = some (.bipush 8, 2) := rfl
theorem at_100_58 : ab_at 100 58 = some (.invokevirtual 106, 3) := rfl
theorem at_100_61 : ab_at 100 61 = some (.ireturn, 1) := rfl
theorem at_100_62 : ab_at 100 62 = some (.aload_n 0, 1) := rfl
theorem at_100_63 : ab_at 100 63 = some (.getfield 62, 3) := rfl
theorem at_100_66 : ab_at 100 66 = some (.bipush 7, 2) := rfl
theorem at_100_68 : ab_at 100 68 = some (.invokevirtual 106, 3) := rfl
theorem at_100_71 : ab_at 100 71 = some (.ireturn, 1) := rfl
theorem at_100_72 : ab_at 100 72 = some (.aload_n 0, 1) := rfl
theorem at_100_73 : ab_at 100 73 = some (.getfield 62, 3) := rfl
theorem at_100_76 : ab_at 100 76 = some (.invokevirtual 110, 3) := rfl
theorem at_100_79 : ab_at 100 79 = some (.ireturn, 1) := rfl
theorem at_100_80 : ab_at 100 80 = some (.iconst (-1), 1) := rfl
theorem at_100_81 : ab_at 100 81 = some (.ireturn, 1) := rfl
theorem at_101_0 : ab_at 101 0 = some (.aload_n 0, 1) := rfl
theorem at_101_1 : ab_at 101 1 = some (.getfield 62, 3) := rfl
theorem at_101_4 : ab_at 101 4 = some (.iload_n 1, 1) := rfl
theorem at_101_5 : ab_at 101 5 = some (.invokevirtual 114, 3) := rfl
theorem at_101_8 : ab_at 101 8 = some (.ifCond .ne 5, 3) := rfl
theorem at_101_11 : ab_at 101 11 = some (.iconst (-1), 1) := rfl
theorem at_101_12 : ab_at 101 12 = some (.ireturn, 1) := rfl
theorem at_101_13 : ab_at 101 13 = some (.iload_n 2, 1) := rfl
theorem at_101_14 : ab_at 101 14 = some (.tableswitch 209 0 8 #[50, 77, 87, 97, 125, 153, 180, 190, 200], 50) := rfl
theorem at_101_64 : ab_at 101 64 = some (.aload_n 0, 1) := rfl
theorem at_101_65 : ab_at 101 65 = some (.getfield 62, 3) := rfl
theorem at_101_68 : ab_at 101 68 = some (.getfield 117, 3) := rfl
theorem at_101_71 : ab_at 101 71 = some (.iload_n 1, 1) := rfl
theorem at_101_72 : ab_at 101 72 = some (.iaload, 1) := rfl
theorem at_101_73 : ab_at 101 73 = some (.ifCond .ne 8, 3) := rfl
theorem at_101_76 : ab_at 101 76 = some (.bipush (-4), 2) := rfl
theorem at_101_78 : ab_at 101 78 = some (.goto 12, 3) := rfl
theorem at_101_81 : ab_at 101 81 = some (.aload_n 0, 1) := rfl
theorem at_101_82 : ab_at 101 82 = some (.getfield 62, 3) := rfl
theorem at_101_85 : ab_at 101 85 = some (.getfield 120, 3) := rfl
theorem at_101_88 : ab_at 101 88 = some (.iload_n 1, 1) := rfl
theorem at_101_89 : ab_at 101 89 = some (.iaload, 1) := rfl
theorem at_101_90 : ab_at 101 90 = some (.ireturn, 1) := rfl
theorem at_101_91 : ab_at 101 91 = some (.aload_n 0, 1) := rfl
theorem at_101_92 : ab_at 101 92 = some (.getfield 62, 3) := rfl
theorem at_101_95 : ab_at 101 95 = some (.getfield 117, 3) := rfl
theorem at_101_98 : ab_at 101 98 = some (.iload_n 1, 1) := rfl
theorem at_101_99 : ab_at 101 99 = some (.iaload, 1) := rfl
theorem at_101_100 : ab_at 101 100 = some (.ireturn, 1) := rfl
theorem at_101_101 : ab_at 101 101 = some (.aload_n 0, 1) := rfl
theorem at_101_102 : ab_at 101 102 = some (.getfield 62, 3) := rfl
theorem at_101_105 : ab_at 101 105 = some (.getfield 123, 3) := rfl
theorem at_101_108 : ab_at 101 108 = some (.iload_n 1, 1) := rfl
theorem at_101_109 : ab_at 101 109 = some (.iaload, 1) := rfl
theorem at_101_110 : ab_at 101 110 = some (.ireturn, 1) := rfl
theorem at_101_111 : ab_at 101 111 = some (.aload_n 0, 1) := rfl
theorem at_101_112 : ab_at 101 112 = some (.getfield 62, 3) := rfl
theorem at_101_115 : ab_at 101 115 = some (.getfield 123, 3) := rfl
theorem at_101_118 : ab_at 101 118 = some (.iload_n 1, 1) := rfl
theorem at_101_119 : ab_at 101 119 = some (.iaload, 1) := rfl
theorem at_101_120 : ab_at 101 120 = some (.iconst 2, 1) := rfl
theorem at_101_121 : ab_at 101 121 = some (.if_icmp .ne 8, 3) := rfl
theorem at_101_124 : ab_at 101 124 = some (.bipush (-4), 2) := rfl
theorem at_101_126 : ab_at 101 126 = some (.goto 12, 3) := rfl
theorem at_101_129 : ab_at 101 129 = some (.aload_n 0, 1) := rfl
theorem at_101_130 : ab_at 101 130 = some (.getfield 62, 3) := rfl
theorem at_101_133 : ab_at 101 133 = some (.getfield 126, 3) := rfl
theorem at_101_136 : ab_at 101 136 = some (.iload_n 1, 1) := rfl
theorem at_101_137 : ab_at 101 137 = some (.iaload, 1) := rfl
theorem at_101_138 : ab_at 101 138 = some (.ireturn, 1) := rfl
theorem at_101_139 : ab_at 101 139 = some (.aload_n 0, 1) := rfl
theorem at_101_140 : ab_at 101 140 = some (.getfield 62, 3) := rfl
theorem at_101_143 : ab_at 101 143 = some (.getfield 123, 3) := rfl
theorem at_101_146 : ab_at 101 146 = some (.iload_n 1, 1) := rfl
theorem at_101_147 : ab_at 101 147 = some (.iaload, 1) := rfl
theorem at_101_148 : ab_at 101 148 = some (.iconst 1, 1) := rfl
theorem at_101_149 : ab_at 101 149 = some (.if_icmp .ne 15, 3) := rfl
theorem at_101_152 : ab_at 101 152 = some (.aload_n 0, 1) := rfl
theorem at_101_153 : ab_at 101 153 = some (.getfield 62, 3) := rfl
theorem at_101_156 : ab_at 101 156 = some (.getfield 129, 3) := rfl
theorem at_101_159 : ab_at 101 159 = some (.iload_n 1, 1) := rfl
theorem at_101_160 : ab_at 101 160 = some (.iaload, 1) := rfl
theorem at_101_161 : ab_at 101 161 = some (.goto 5, 3) := rfl
theorem at_101_164 : ab_at 101 164 = some (.bipush (-4), 2) := rfl
theorem at_101_166 : ab_at 101 166 = some (.ireturn, 1) := rfl
theorem at_101_167 : ab_at 101 167 = some (.aload_n 0, 1) := rfl
theorem at_101_168 : ab_at 101 168 = some (.getfield 62, 3) := rfl
theorem at_101_171 : ab_at 101 171 = some (.getfield 123, 3) := rfl
theorem at_101_174 : ab_at 101 174 = some (.iload_n 1, 1) := rfl
theorem at_101_175 : ab_at 101 175 = some (.iaload, 1) := rfl
theorem at_101_176 : ab_at 101 176 = some (.ifCond .ne 8, 3) := rfl
theorem at_101_179 : ab_at 101 179 = some (.bipush (-4), 2) := rfl
theorem at_101_181 : ab_at 101 181 = some (.goto 12, 3) := rfl
theorem at_101_184 : ab_at 101 184 = some (.aload_n 0, 1) := rfl
theorem at_101_185 : ab_at 101 185 = some (.getfield 62, 3) := rfl
theorem at_101_188 : ab_at 101 188 = some (.getfield 132, 3) := rfl
theorem at_101_191 : ab_at 101 191 = some (.iload_n 1, 1) := rfl
theorem at_101_192 : ab_at 101 192 = some (.iaload, 1) := rfl
theorem at_101_193 : ab_at 101 193 = some (.ireturn, 1) := rfl
theorem at_101_194 : ab_at 101 194 = some (.aload_n 0, 1) := rfl
theorem at_101_195 : ab_at 101 195 = some (.getfield 62, 3) := rfl
theorem at_101_198 : ab_at 101 198 = some (.getfield 135, 3) := rfl
theorem at_101_201 : ab_at 101 201 = some (.iload_n 1, 1) := rfl
theorem at_101_202 : ab_at 101 202 = some (.iaload, 1) := rfl
theorem at_101_203 : ab_at 101 203 = some (.ireturn, 1) := rfl
theorem at_101_204 : ab_at 101 204 = some (.aload_n 0, 1) := rfl
theorem at_101_205 : ab_at 101 205 = some (.getfield 62, 3) := rfl
theorem at_101_208 : ab_at 101 208 = some (.getfield 138, 3) := rfl
theorem at_101_211 : ab_at 101 211 = some (.iload_n 1, 1) := rfl
theorem at_101_212 : ab_at 101 212 = some (.iaload, 1) := rfl
theorem at_101_213 : ab_at 101 213 = some (.ireturn, 1) := rfl
theorem at_101_214 : ab_at 101 214 = some (.aload_n 0, 1) := rfl
theorem at_101_215 : ab_at 101 215 = some (.getfield 62, 3) := rfl
theorem at_101_218 : ab_at 101 218 = some (.iload_n 1, 1) := rfl
theorem at_101_219 : ab_at 101 219 = some (.invokevirtual 141, 3) := rfl
theorem at_101_222 : ab_at 101 222 = some (.ireturn, 1) := rfl
theorem at_101_223 : ab_at 101 223 = some (.iconst (-1), 1) := rfl
theorem at_101_224 : ab_at 101 224 = some (.ireturn, 1) := rfl
theorem at_102_0 : ab_at 102 0 = some (.aload_n 0, 1) := rfl
theorem at_102_1 : ab_at 102 1 = some (.getfield 62, 3) := rfl
theorem at_102_4 : ab_at 102 4 = some (.iload_n 1, 1) := rfl
theorem at_102_5 : ab_at 102 5 = some (.invokevirtual 114, 3) := rfl
theorem at_102_8 : ab_at 102 8 = some (.ifCond .eq 20, 3) := rfl
theorem at_102_11 : ab_at 102 11 = some (.iload_n 2, 1) := rfl
theorem at_102_12 : ab_at 102 12 = some (.ifCond .lt 16, 3) := rfl
theorem at_102_15 : ab_at 102 15 = some (.iload_n 2, 1) := rfl
theorem at_102_16 : ab_at 102 16 = some (.aload_n 0, 1) := rfl
theorem at_102_17 : ab_at 102 17 = some (.getfield 62, 3) := rfl
theorem at_102_20 : ab_at 102 20 = some (.getfield 135, 3) := rfl
theorem at_102_23 : ab_at 102 23 = some (.iload_n 1, 1) := rfl
theorem at_102_24 : ab_at 102 24 = some (.iaload, 1) := rfl
theorem at_102_25 : ab_at 102 25 = some (.if_icmp .lt 5, 3) := rfl
theorem at_102_28 : ab_at 102 28 = some (.iconst (-1), 1) := rfl
theorem at_102_29 : ab_at 102 29 = some (.ireturn, 1) := rfl
theorem at_102_30 : ab_at 102 30 = some (.aload_n 0, 1) := rfl
theorem at_102_31 : ab_at 102 31 = some (.getfield 62, 3) := rfl
theorem at_102_34 : ab_at 102 34 = some (.getfield 144, 3) := rfl
theorem at_102_37 : ab_at 102 37 = some (.iload_n 1, 1) := rfl
theorem at_102_38 : ab_at 102 38 = some (.aaload, 1) := rfl
theorem at_102_39 : ab_at 102 39 = some (.iload_n 2, 1) := rfl
theorem at_102_40 : ab_at 102 40 = some (.iaload, 1) := rfl
theorem at_102_41 : ab_at 102 41 = some (.ireturn, 1) := rfl
theorem at_103_0 : ab_at 103 0 = some (.aload_n 0, 1) := rfl
theorem at_103_1 : ab_at 103 1 = some (.getfield 62, 3) := rfl
theorem at_103_4 : ab_at 103 4 = some (.iload_n 1, 1) := rfl
theorem at_103_5 : ab_at 103 5 = some (.invokevirtual 148, 3) := rfl
theorem at_103_8 : ab_at 103 8 = some (.ifCond .ne 5, 3) := rfl
theorem at_103_11 : ab_at 103 11 = some (.iconst (-1), 1) := rfl
theorem at_103_12 : ab_at 103 12 = some (.ireturn, 1) := rfl
theorem at_103_13 : ab_at 103 13 = some (.iload_n 2, 1) := rfl
theorem at_103_14 : ab_at 103 14 = some (.tableswitch 99 0 4 #[34, 44, 54, 64, 90], 34) := rfl
theorem at_103_48 : ab_at 103 48 = some (.aload_n 0, 1) := rfl
theorem at_103_49 : ab_at 103 49 = some (.getfield 62, 3) := rfl
theorem at_103_52 : ab_at 103 52 = some (.getfield 151, 3) := rfl
theorem at_103_55 : ab_at 103 55 = some (.iload_n 1, 1) := rfl
theorem at_103_56 : ab_at 103 56 = some (.iaload, 1) := rfl
theorem at_103_57 : ab_at 103 57 = some (.ireturn, 1) := rfl
theorem at_103_58 : ab_at 103 58 = some (.aload_n 0, 1) := rfl
theorem at_103_59 : ab_at 103 59 = some (.getfield 62, 3) := rfl
theorem at_103_62 : ab_at 103 62 = some (.getfield 154, 3) := rfl
theorem at_103_65 : ab_at 103 65 = some (.iload_n 1, 1) := rfl
theorem at_103_66 : ab_at 103 66 = some (.iaload, 1) := rfl
theorem at_103_67 : ab_at 103 67 = some (.ireturn, 1) := rfl
theorem at_103_68 : ab_at 103 68 = some (.aload_n 0, 1) := rfl
theorem at_103_69 : ab_at 103 69 = some (.getfield 62, 3) := rfl
theorem at_103_72 : ab_at 103 72 = some (.getfield 157, 3) := rfl
theorem at_103_75 : ab_at 103 75 = some (.iload_n 1, 1) := rfl
theorem at_103_76 : ab_at 103 76 = some (.iaload, 1) := rfl
theorem at_103_77 : ab_at 103 77 = some (.ireturn, 1) := rfl
theorem at_103_78 : ab_at 103 78 = some (.aload_n 0, 1) := rfl
theorem at_103_79 : ab_at 103 79 = some (.getfield 62, 3) := rfl
theorem at_103_82 : ab_at 103 82 = some (.iload_n 1, 1) := rfl
theorem at_103_83 : ab_at 103 83 = some (.invokevirtual 160, 3) := rfl
theorem at_103_86 : ab_at 103 86 = some (.ifCond .eq 15, 3) := rfl
theorem at_103_89 : ab_at 103 89 = some (.aload_n 0, 1) := rfl
theorem at_103_90 : ab_at 103 90 = some (.getfield 62, 3) := rfl
theorem at_103_93 : ab_at 103 93 = some (.getfield 163, 3) := rfl
theorem at_103_96 : ab_at 103 96 = some (.iload_n 1, 1) := rfl
theorem at_103_97 : ab_at 103 97 = some (.iaload, 1) := rfl
theorem at_103_98 : ab_at 103 98 = some (.goto 5, 3) := rfl
theorem at_103_101 : ab_at 103 101 = some (.bipush (-4), 2) := rfl
theorem at_103_103 : ab_at 103 103 = some (.ireturn, 1) := rfl
theorem at_103_104 : ab_at 103 104 = some (.aload_n 0, 1) := rfl
theorem at_103_105 : ab_at 103 105 = some (.getfield 62, 3) := rfl
theorem at_103_108 : ab_at 103 108 = some (.iload_n 1, 1) := rfl
theorem at_103_109 : ab_at 103 109 = some (.invokevirtual 166, 3) := rfl
theorem at_103_112 : ab_at 103 112 = some (.ireturn, 1) := rfl
theorem at_103_113 : ab_at 103 113 = some (.iconst (-1), 1) := rfl
theorem at_103_114 : ab_at 103 114 = some (.ireturn, 1) := rfl
theorem at_104_0 : ab_at 104 0 = some (.aload_n 0, 1) := rfl
theorem at_104_1 : ab_at 104 1 = some (.getfield 62, 3) := rfl
theorem at_104_4 : ab_at 104 4 = some (.iload_n 1, 1) := rfl
theorem at_104_5 : ab_at 104 5 = some (.iload_n 2, 1) := rfl
theorem at_104_6 : ab_at 104 6 = some (.invokevirtual 169, 3) := rfl
theorem at_104_9 : ab_at 104 9 = some (.ifCond .eq 17, 3) := rfl
theorem at_104_12 : ab_at 104 12 = some (.aload_n 0, 1) := rfl
theorem at_104_13 : ab_at 104 13 = some (.getfield 62, 3) := rfl
theorem at_104_16 : ab_at 104 16 = some (.getfield 173, 3) := rfl
theorem at_104_19 : ab_at 104 19 = some (.iload_n 1, 1) := rfl
theorem at_104_20 : ab_at 104 20 = some (.aaload, 1) := rfl
theorem at_104_21 : ab_at 104 21 = some (.iload_n 2, 1) := rfl
theorem at_104_22 : ab_at 104 22 = some (.iaload, 1) := rfl
theorem at_104_23 : ab_at 104 23 = some (.goto 4, 3) := rfl
theorem at_104_26 : ab_at 104 26 = some (.iconst (-1), 1) := rfl
theorem at_104_27 : ab_at 104 27 = some (.ireturn, 1) := rfl
theorem at_105_0 : ab_at 105 0 = some (.aload_n 0, 1) := rfl
theorem at_105_1 : ab_at 105 1 = some (.getfield 62, 3) := rfl
theorem at_105_4 : ab_at 105 4 = some (.iload_n 1, 1) := rfl
theorem at_105_5 : ab_at 105 5 = some (.invokevirtual 148, 3) := rfl
theorem at_105_8 : ab_at 105 8 = some (.ifCond .eq 14, 3) := rfl
theorem at_105_11 : ab_at 105 11 = some (.aload_n 0, 1) := rfl
theorem at_105_12 : ab_at 105 12 = some (.getfield 62, 3) := rfl
theorem at_105_15 : ab_at 105 15 = some (.iload_n 2, 1) := rfl
theorem at_105_16 : ab_at 105 16 = some (.invokevirtual 148, 3) := rfl
theorem at_105_19 : ab_at 105 19 = some (.ifCond .ne 5, 3) := rfl
theorem at_105_22 : ab_at 105 22 = some (.iconst (-1), 1) := rfl
theorem at_105_23 : ab_at 105 23 = some (.ireturn, 1) := rfl
theorem at_105_24 : ab_at 105 24 = some (.aload_n 0, 1) := rfl
theorem at_105_25 : ab_at 105 25 = some (.getfield 62, 3) := rfl
theorem at_105_28 : ab_at 105 28 = some (.iload_n 1, 1) := rfl
theorem at_105_29 : ab_at 105 29 = some (.iload_n 2, 1) := rfl
theorem at_105_30 : ab_at 105 30 = some (.invokevirtual 176, 3) := rfl
theorem at_105_33 : ab_at 105 33 = some (.ifCond .eq 7, 3) := rfl
theorem at_105_36 : ab_at 105 36 = some (.iconst 1, 1) := rfl
theorem at_105_37 : ab_at 105 37 = some (.goto 4, 3) := rfl
theorem at_105_40 : ab_at 105 40 = some (.iconst 0, 1) := rfl
theorem at_105_41 : ab_at 105 41 = some (.ireturn, 1) := rfl
theorem at_106_0 : ab_at 106 0 = some (.aload_n 0, 1) := rfl
theorem at_106_1 : ab_at 106 1 = some (.getfield 19, 3) := rfl
theorem at_106_4 : ab_at 106 4 = some (.iload_n 1, 1) := rfl
theorem at_106_5 : ab_at 106 5 = some (.iload_n 2, 1) := rfl
theorem at_106_6 : ab_at 106 6 = some (.iload_n 3, 1) := rfl
theorem at_106_7 : ab_at 106 7 = some (.iload 4, 2) := rfl
theorem at_106_9 : ab_at 106 9 = some (.invokevirtual 179, 3) := rfl
theorem at_106_12 : ab_at 106 12 = some (.aload_n 0, 1) := rfl
theorem at_106_13 : ab_at 106 13 = some (.getfield 19, 3) := rfl
theorem at_106_16 : ab_at 106 16 = some (.aload_n 0, 1) := rfl
theorem at_106_17 : ab_at 106 17 = some (.getfield 62, 3) := rfl
theorem at_106_20 : ab_at 106 20 = some (.invokevirtual 183, 3) := rfl
theorem at_106_23 : ab_at 106 23 = some (.lreturn, 1) := rfl
theorem at_107_0 : ab_at 107 0 = some (.aload_n 0, 1) := rfl
theorem at_107_1 : ab_at 107 1 = some (.getfield 62, 3) := rfl
theorem at_107_4 : ab_at 107 4 = some (.iload_n 1, 1) := rfl
theorem at_107_5 : ab_at 107 5 = some (.invokevirtual 148, 3) := rfl
theorem at_107_8 : ab_at 107 8 = some (.ifCond .ne 7, 3) := rfl
theorem at_107_11 : ab_at 107 11 = some (.ldc2_w 187, 3) := rfl
theorem at_107_14 : ab_at 107 14 = some (.lreturn, 1) := rfl
theorem at_107_15 : ab_at 107 15 = some (.aload_n 0, 1) := rfl
theorem at_107_16 : ab_at 107 16 = some (.getfield 19, 3) := rfl
theorem at_107_19 : ab_at 107 19 = some (.getfield 189, 3) := rfl
theorem at_107_22 : ab_at 107 22 = some (.ifCond .eq 15, 3) := rfl
theorem at_107_25 : ab_at 107 25 = some (.aload_n 0, 1) := rfl
theorem at_107_26 : ab_at 107 26 = some (.getfield 19, 3) := rfl
theorem at_107_29 : ab_at 107 29 = some (.getfield 193, 3) := rfl
theorem at_107_32 : ab_at 107 32 = some (.iload_n 1, 1) := rfl
theorem at_107_33 : ab_at 107 33 = some (.laload, 1) := rfl
theorem at_107_34 : ab_at 107 34 = some (.goto 6, 3) := rfl
theorem at_107_37 : ab_at 107 37 = some (.ldc2_w 197, 3) := rfl
theorem at_107_40 : ab_at 107 40 = some (.lreturn, 1) := rfl
theorem at_108_0 : ab_at 108 0 = some (.iload_n 1, 1) := rfl
theorem at_108_1 : ab_at 108 1 = some (.ifCond .lt 8, 3) := rfl
theorem at_108_4 : ab_at 108 4 = some (.iload_n 1, 1) := rfl
theorem at_108_5 : ab_at 108 5 = some (.iconst 2, 1) := rfl
theorem at_108_6 : ab_at 108 6 = some (.if_icmp .le 5, 3) := rfl
theorem at_108_9 : ab_at 108 9 = some (.iconst (-1), 1) := rfl
theorem at_108_10 : ab_at 108 10 = some (.ireturn, 1) := rfl
theorem at_108_11 : ab_at 108 11 = some (.aload_n 0, 1) := rfl
theorem at_108_12 : ab_at 108 12 = some (.getfield 19, 3) := rfl
theorem at_108_15 : ab_at 108 15 = some (.getfield 189, 3) := rfl
theorem at_108_18 : ab_at 108 18 = some (.ifCond .ne 6, 3) := rfl
theorem at_108_21 : ab_at 108 21 = some (.bipush (-4), 2) := rfl
theorem at_108_23 : ab_at 108 23 = some (.ireturn, 1) := rfl
theorem at_108_24 : ab_at 108 24 = some (.iload_n 1, 1) := rfl
theorem at_108_25 : ab_at 108 25 = some (.ifCond .ne 11, 3) := rfl
theorem at_108_28 : ab_at 108 28 = some (.aload_n 0, 1) := rfl
theorem at_108_29 : ab_at 108 29 = some (.getfield 19, 3) := rfl
theorem at_108_32 : ab_at 108 32 = some (.getfield 199, 3) := rfl
theorem at_108_35 : ab_at 108 35 = some (.ireturn, 1) := rfl
theorem at_108_36 : ab_at 108 36 = some (.iload_n 1, 1) := rfl
theorem at_108_37 : ab_at 108 37 = some (.iconst 1, 1) := rfl
theorem at_108_38 : ab_at 108 38 = some (.if_icmp .ne 11, 3) := rfl
theorem at_108_41 : ab_at 108 41 = some (.aload_n 0, 1) := rfl
theorem at_108_42 : ab_at 108 42 = some (.getfield 19, 3) := rfl
theorem at_108_45 : ab_at 108 45 = some (.getfield 202, 3) := rfl
theorem at_108_48 : ab_at 108 48 = some (.ireturn, 1) := rfl
theorem at_108_49 : ab_at 108 49 = some (.aload_n 0, 1) := rfl
theorem at_108_50 : ab_at 108 50 = some (.getfield 19, 3) := rfl
theorem at_108_53 : ab_at 108 53 = some (.getfield 205, 3) := rfl
theorem at_108_56 : ab_at 108 56 = some (.ifCond .eq 7, 3) := rfl
theorem at_108_59 : ab_at 108 59 = some (.iconst 1, 1) := rfl
theorem at_108_60 : ab_at 108 60 = some (.goto 4, 3) := rfl
theorem at_108_63 : ab_at 108 63 = some (.iconst 0, 1) := rfl
theorem at_108_64 : ab_at 108 64 = some (.ireturn, 1) := rfl
theorem at_109_0 : ab_at 109 0 = some (.iload_n 1, 1) := rfl
theorem at_109_1 : ab_at 109 1 = some (.ifCond .lt 8, 3) := rfl
theorem at_109_4 : ab_at 109 4 = some (.iload_n 1, 1) := rfl
theorem at_109_5 : ab_at 109 5 = some (.iconst 2, 1) := rfl
theorem at_109_6 : ab_at 109 6 = some (.if_icmp .le 5, 3) := rfl
theorem at_109_9 : ab_at 109 9 = some (.iconst (-1), 1) := rfl
theorem at_109_10 : ab_at 109 10 = some (.ireturn, 1) := rfl
theorem at_109_11 : ab_at 109 11 = some (.aload_n 0, 1) := rfl
theorem at_109_12 : ab_at 109 12 = some (.getfield 29, 3) := rfl
theorem at_109_15 : ab_at 109 15 = some (.aload_n 0, 1) := rfl
theorem at_109_16 : ab_at 109 16 = some (.getfield 62, 3) := rfl
theorem at_109_19 : ab_at 109 19 = some (.bipush 100, 2) := rfl
theorem at_109_21 : ab_at 109 21 = some (.invokevirtual 208, 3) := rfl
theorem at_109_24 : ab_at 109 24 = some (.iload_n 1, 1) := rfl
theorem at_109_25 : ab_at 109 25 = some (.ifCond .ne 15, 3) := rfl
theorem at_109_28 : ab_at 109 28 = some (.aload_n 0, 1) := rfl
theorem at_109_29 : ab_at 109 29 = some (.getfield 29, 3) := rfl
theorem at_109_32 : ab_at 109 32 = some (.aload_n 0, 1) := rfl
theorem at_109_33 : ab_at 109 33 = some (.getfield 62, 3) := rfl
theorem at_109_36 : ab_at 109 36 = some (.invokevirtual 212, 3) := rfl
theorem at_109_39 : ab_at 109 39 = some (.ireturn, 1) := rfl
theorem at_109_40 : ab_at 109 40 = some (.iload_n 1, 1) := rfl
theorem at_109_41 : ab_at 109 41 = some (.iconst 1, 1) := rfl
theorem at_109_42 : ab_at 109 42 = some (.if_icmp .ne 13, 3) := rfl
theorem at_109_45 : ab_at 109 45 = some (.aload_n 0, 1) := rfl
theorem at_109_46 : ab_at 109 46 = some (.getfield 29, 3) := rfl
theorem at_109_49 : ab_at 109 49 = some (.getfield 216, 3) := rfl
theorem at_109_52 : ab_at 109 52 = some (.goto 14, 3) := rfl
theorem at_109_55 : ab_at 109 55 = some (.aload_n 0, 1) := rfl
theorem at_109_56 : ab_at 109 56 = some (.getfield 29, 3) := rfl
theorem at_109_59 : ab_at 109 59 = some (.aload_n 0, 1) := rfl
theorem at_109_60 : ab_at 109 60 = some (.getfield 62, 3) := rfl
theorem at_109_63 : ab_at 109 63 = some (.invokevirtual 219, 3) := rfl
theorem at_109_66 : ab_at 109 66 = some (.ireturn, 1) := rfl
theorem at_110_0 : ab_at 110 0 = some (.aload_n 0, 1) := rfl
theorem at_110_1 : ab_at 110 1 = some (.iload_n 1, 1) := rfl
theorem at_110_2 : ab_at 110 2 = some (.bipush 100, 2) := rfl
theorem at_110_4 : ab_at 110 4 = some (.invokevirtual 222, 3) := rfl
theorem at_110_7 : ab_at 110 7 = some (.ireturn, 1) := rfl
theorem at_111_0 : ab_at 111 0 = some (.aload_n 0, 1) := rfl
theorem at_111_1 : ab_at 111 1 = some (.getfield 62, 3) := rfl
theorem at_111_4 : ab_at 111 4 = some (.iload_n 1, 1) := rfl
theorem at_111_5 : ab_at 111 5 = some (.invokevirtual 148, 3) := rfl
theorem at_111_8 : ab_at 111 8 = some (.ifCond .eq 13, 3) := rfl
theorem at_111_11 : ab_at 111 11 = some (.iload_n 2, 1) := rfl
theorem at_111_12 : ab_at 111 12 = some (.ifCond .lt 9, 3) := rfl
theorem at_111_15 : ab_at 111 15 = some (.iload_n 2, 1) := rfl
theorem at_111_16 : ab_at 111 16 = some (.bipush 100, 2) := rfl
theorem at_111_18 : ab_at 111 18 = some (.if_icmp .le 5, 3) := rfl
theorem at_111_21 : ab_at 111 21 = some (.iconst (-1), 1) := rfl
theorem at_111_22 : ab_at 111 22 = some (.ireturn, 1) := rfl
theorem at_111_23 : ab_at 111 23 = some (.aload_n 0, 1) := rfl
theorem at_111_24 : ab_at 111 24 = some (.getfield 29, 3) := rfl
theorem at_111_27 : ab_at 111 27 = some (.aload_n 0, 1) := rfl
theorem at_111_28 : ab_at 111 28 = some (.getfield 62, 3) := rfl
theorem at_111_31 : ab_at 111 31 = some (.iload_n 2, 1) := rfl
theorem at_111_32 : ab_at 111 32 = some (.invokevirtual 208, 3) := rfl
theorem at_111_35 : ab_at 111 35 = some (.aload_n 0, 1) := rfl
theorem at_111_36 : ab_at 111 36 = some (.getfield 29, 3) := rfl
theorem at_111_39 : ab_at 111 39 = some (.getfield 226, 3) := rfl
theorem at_111_42 : ab_at 111 42 = some (.iload_n 1, 1) := rfl
theorem at_111_43 : ab_at 111 43 = some (.iaload, 1) := rfl
theorem at_111_44 : ab_at 111 44 = some (.ireturn, 1) := rfl
theorem at_112_0 : ab_at 112 0 = some (.aload_n 0, 1) := rfl
theorem at_112_1 : ab_at 112 1 = some (.getfield 62, 3) := rfl
theorem at_112_4 : ab_at 112 4 = some (.iload_n 1, 1) := rfl
theorem at_112_5 : ab_at 112 5 = some (.invokevirtual 148, 3) := rfl
theorem at_112_8 : ab_at 112 8 = some (.ifCond .ne 5, 3) := rfl
theorem at_112_11 : ab_at 112 11 = some (.iconst (-1), 1) := rfl
theorem at_112_12 : ab_at 112 12 = some (.ireturn, 1) := rfl
theorem at_112_13 : ab_at 112 13 = some (.aload_n 0, 1) := rfl
theorem at_112_14 : ab_at 112 14 = some (.getfield 29, 3) := rfl
theorem at_112_17 : ab_at 112 17 = some (.aload_n 0, 1) := rfl
theorem at_112_18 : ab_at 112 18 = some (.getfield 62, 3) := rfl
theorem at_112_21 : ab_at 112 21 = some (.bipush 100, 2) := rfl
theorem at_112_23 : ab_at 112 23 = some (.invokevirtual 208, 3) := rfl
theorem at_112_26 : ab_at 112 26 = some (.aload_n 0, 1) := rfl
theorem at_112_27 : ab_at 112 27 = some (.getfield 29, 3) := rfl
theorem at_112_30 : ab_at 112 30 = some (.aload_n 0, 1) := rfl
theorem at_112_31 : ab_at 112 31 = some (.getfield 62, 3) := rfl
theorem at_112_34 : ab_at 112 34 = some (.iload_n 1, 1) := rfl
theorem at_112_35 : ab_at 112 35 = some (.invokevirtual 227, 3) := rfl
theorem at_112_38 : ab_at 112 38 = some (.ireturn, 1) := rfl
theorem at_113_0 : ab_at 113 0 = some (.aload_n 0, 1) := rfl
theorem at_113_1 : ab_at 113 1 = some (.getfield 62, 3) := rfl
theorem at_113_4 : ab_at 113 4 = some (.iload_n 1, 1) := rfl
theorem at_113_5 : ab_at 113 5 = some (.invokevirtual 148, 3) := rfl
theorem at_113_8 : ab_at 113 8 = some (.ifCond .ne 5, 3) := rfl
theorem at_113_11 : ab_at 113 11 = some (.iconst (-1), 1) := rfl
theorem at_113_12 : ab_at 113 12 = some (.ireturn, 1) := rfl
theorem at_113_13 : ab_at 113 13 = some (.aload_n 0, 1) := rfl
theorem at_113_14 : ab_at 113 14 = some (.getfield 36, 3) := rfl
theorem at_113_17 : ab_at 113 17 = some (.aload_n 0, 1) := rfl
theorem at_113_18 : ab_at 113 18 = some (.getfield 62, 3) := rfl
theorem at_113_21 : ab_at 113 21 = some (.invokevirtual 231, 3) := rfl
theorem at_113_24 : ab_at 113 24 = some (.aload_n 0, 1) := rfl
theorem at_113_25 : ab_at 113 25 = some (.getfield 36, 3) := rfl
theorem at_113_28 : ab_at 113 28 = some (.iload_n 1, 1) := rfl
theorem at_113_29 : ab_at 113 29 = some (.invokevirtual 234, 3) := rfl
theorem at_113_32 : ab_at 113 32 = some (.ireturn, 1) := rfl
theorem at_114_0 : ab_at 114 0 = some (.aload_n 0, 1) := rfl
theorem at_114_1 : ab_at 114 1 = some (.getfield 62, 3) := rfl
theorem at_114_4 : ab_at 114 4 = some (.iload_n 1, 1) := rfl
theorem at_114_5 : ab_at 114 5 = some (.invokevirtual 148, 3) := rfl
theorem at_114_8 : ab_at 114 8 = some (.ifCond .ne 7, 3) := rfl
theorem at_114_11 : ab_at 114 11 = some (.ldc2_w 187, 3) := rfl
theorem at_114_14 : ab_at 114 14 = some (.lreturn, 1) := rfl
theorem at_114_15 : ab_at 114 15 = some (.aload_n 0, 1) := rfl
theorem at_114_16 : ab_at 114 16 = some (.getfield 36, 3) := rfl
theorem at_114_19 : ab_at 114 19 = some (.aload_n 0, 1) := rfl
theorem at_114_20 : ab_at 114 20 = some (.getfield 62, 3) := rfl
theorem at_114_23 : ab_at 114 23 = some (.invokevirtual 231, 3) := rfl
theorem at_114_26 : ab_at 114 26 = some (.aload_n 0, 1) := rfl
theorem at_114_27 : ab_at 114 27 = some (.getfield 36, 3) := rfl
theorem at_114_30 : ab_at 114 30 = some (.iload_n 1, 1) := rfl
theorem at_114_31 : ab_at 114 31 = some (.invokevirtual 237, 3) := rfl
theorem at_114_34 : ab_at 114 34 = some (.lreturn, 1) := rfl
theorem at_115_0 : ab_at 115 0 = some (.aload_n 0, 1) := rfl
theorem at_115_1 : ab_at 115 1 = some (.getfield 29, 3) := rfl
theorem at_115_4 : ab_at 115 4 = some (.aload_n 0, 1) := rfl
theorem at_115_5 : ab_at 115 5 = some (.getfield 62, 3) := rfl
theorem at_115_8 : ab_at 115 8 = some (.bipush 100, 2) := rfl
theorem at_115_10 : ab_at 115 10 = some (.invokevirtual 208, 3) := rfl
theorem at_115_13 : ab_at 115 13 = some (.iconst 0, 1) := rfl
theorem at_115_14 : ab_at 115 14 = some (.istore_n 1, 1) := rfl
theorem at_115_15 : ab_at 115 15 = some (.iload_n 1, 1) := rfl
theorem at_115_16 : ab_at 115 16 = some (.aload_n 0, 1) := rfl
theorem at_115_17 : ab_at 115 17 = some (.getfield 62, 3) := rfl
theorem at_115_20 : ab_at 115 20 = some (.getfield 97, 3) := rfl
theorem at_115_23 : ab_at 115 23 = some (.if_icmp .ge 27, 3) := rfl
theorem at_115_26 : ab_at 115 26 = some (.aload_n 0, 1) := rfl
theorem at_115_27 : ab_at 115 27 = some (.getfield 57, 3) := rfl
theorem at_115_30 : ab_at 115 30 = some (.iload_n 1, 1) := rfl
theorem at_115_31 : ab_at 115 31 = some (.aload_n 0, 1) := rfl
theorem at_115_32 : ab_at 115 32 = some (.getfield 29, 3) := rfl
theorem at_115_35 : ab_at 115 35 = some (.aload_n 0, 1) := rfl
theorem at_115_36 : ab_at 115 36 = some (.getfield 62, 3) := rfl
theorem at_115_39 : ab_at 115 39 = some (.iload_n 1, 1) := rfl
theorem at_115_40 : ab_at 115 40 = some (.invokevirtual 227, 3) := rfl
theorem at_115_43 : ab_at 115 43 = some (.iastore, 1) := rfl
theorem at_115_44 : ab_at 115 44 = some (.iinc 1 1, 3) := rfl
theorem at_115_47 : ab_at 115 47 = some (.goto (-32), 3) := rfl
theorem at_115_50 : ab_at 115 50 = some (.aload_n 0, 1) := rfl
theorem at_115_51 : ab_at 115 51 = some (.getfield 62, 3) := rfl
theorem at_115_54 : ab_at 115 54 = some (.aload_n 0, 1) := rfl
theorem at_115_55 : ab_at 115 55 = some (.getfield 57, 3) := rfl
theorem at_115_58 : ab_at 115 58 = some (.invokevirtual 241, 3) := rfl
theorem at_115_61 : ab_at 115 61 = some (.ireturn, 1) := rfl
theorem at_116_0 : ab_at 116 0 = some (.aload_n 0, 1) := rfl
theorem at_116_1 : ab_at 116 1 = some (.getfield 62, 3) := rfl
theorem at_116_4 : ab_at 116 4 = some (.invokevirtual 245, 3) := rfl
theorem at_116_7 : ab_at 116 7 = some (.ireturn, 1) := rfl
theorem at_117_0 : ab_at 117 0 = some (.aload_n 0, 1) := rfl
theorem at_117_1 : ab_at 117 1 = some (.getfield 62, 3) := rfl
theorem at_117_4 : ab_at 117 4 = some (.iload_n 1, 1) := rfl
theorem at_117_5 : ab_at 117 5 = some (.iload_n 2, 1) := rfl
theorem at_117_6 : ab_at 117 6 = some (.invokevirtual 169, 3) := rfl
theorem at_117_9 : ab_at 117 9 = some (.ifCond .eq 14, 3) := rfl
theorem at_117_12 : ab_at 117 12 = some (.aload_n 0, 1) := rfl
theorem at_117_13 : ab_at 117 13 = some (.getfield 62, 3) := rfl
theorem at_117_16 : ab_at 117 16 = some (.iload_n 3, 1) := rfl
theorem at_117_17 : ab_at 117 17 = some (.invokevirtual 148, 3) := rfl
theorem at_117_20 : ab_at 117 20 = some (.ifCond .ne 5, 3) := rfl
theorem at_117_23 : ab_at 117 23 = some (.iconst (-1), 1) := rfl
theorem at_117_24 : ab_at 117 24 = some (.ireturn, 1) := rfl
theorem at_117_25 : ab_at 117 25 = some (.aload_n 0, 1) := rfl
theorem at_117_26 : ab_at 117 26 = some (.getfield 62, 3) := rfl
theorem at_117_29 : ab_at 117 29 = some (.getfield 151, 3) := rfl
theorem at_117_32 : ab_at 117 32 = some (.iload_n 3, 1) := rfl
theorem at_117_33 : ab_at 117 33 = some (.iaload, 1) := rfl
theorem at_117_34 : ab_at 117 34 = some (.bipush 8, 2) := rfl
theorem at_117_36 : ab_at 117 36 = some (.if_icmp .eq 16, 3) := rfl
theorem at_117_39 : ab_at 117 39 = some (.aload_n 0, 1) := rfl
theorem at_117_40 : ab_at 117 40 = some (.getfield 62, 3) := rfl
theorem at_117_43 : ab_at 117 43 = some (.iload_n 3, 1) := rfl
theorem at_117_44 : ab_at 117 44 = some (.iload_n 1, 1) := rfl
theorem at_117_45 : ab_at 117 45 = some (.iload_n 2, 1) := rfl
theorem at_117_46 : ab_at 117 46 = some (.invokevirtual 248, 3) := rfl
theorem at_117_49 : ab_at 117 49 = some (.ifCond .ne 6, 3) := rfl
theorem at_117_52 : ab_at 117 52 = some (.bipush (-2), 2) := rfl
theorem at_117_54 : ab_at 117 54 = some (.ireturn, 1) := rfl
theorem at_117_55 : ab_at 117 55 = some (.aload_n 0, 1) := rfl
theorem at_117_56 : ab_at 117 56 = some (.getfield 62, 3) := rfl
theorem at_117_59 : ab_at 117 59 = some (.getfield 173, 3) := rfl
theorem at_117_62 : ab_at 117 62 = some (.iload_n 1, 1) := rfl
theorem at_117_63 : ab_at 117 63 = some (.aaload, 1) := rfl
theorem at_117_64 : ab_at 117 64 = some (.iload_n 2, 1) := rfl
theorem at_117_65 : ab_at 117 65 = some (.iaload, 1) := rfl
theorem at_117_66 : ab_at 117 66 = some (.istore 4, 2) := rfl
theorem at_117_68 : ab_at 117 68 = some (.aload_n 0, 1) := rfl
theorem at_117_69 : ab_at 117 69 = some (.getfield 62, 3) := rfl
theorem at_117_72 : ab_at 117 72 = some (.getfield 173, 3) := rfl
theorem at_117_75 : ab_at 117 75 = some (.iload_n 1, 1) := rfl
theorem at_117_76 : ab_at 117 76 = some (.aaload, 1) := rfl
theorem at_117_77 : ab_at 117 77 = some (.iload_n 2, 1) := rfl
theorem at_117_78 : ab_at 117 78 = some (.iload_n 3, 1) := rfl
theorem at_117_79 : ab_at 117 79 = some (.iastore, 1) := rfl
theorem at_117_80 : ab_at 117 80 = some (.iload 4, 2) := rfl
theorem at_117_82 : ab_at 117 82 = some (.ireturn, 1) := rfl
theorem at_118_0 : ab_at 118 0 = some (.aload_n 0, 1) := rfl
theorem at_118_1 : ab_at 118 1 = some (.getfield 62, 3) := rfl
theorem at_118_4 : ab_at 118 4 = some (.iload_n 1, 1) := rfl
theorem at_118_5 : ab_at 118 5 = some (.invokevirtual 148, 3) := rfl
theorem at_118_8 : ab_at 118 8 = some (.ifCond .eq 14, 3) := rfl
theorem at_118_11 : ab_at 118 11 = some (.aload_n 0, 1) := rfl
theorem at_118_12 : ab_at 118 12 = some (.getfield 62, 3) := rfl
theorem at_118_15 : ab_at 118 15 = some (.iload_n 1, 1) := rfl
theorem at_118_16 : ab_at 118 16 = some (.invokevirtual 160, 3) := rfl
theorem at_118_19 : ab_at 118 19 = some (.ifCond .ne 5, 3) := rfl
theorem at_118_22 : ab_at 118 22 = some (.iconst (-1), 1) := rfl
theorem at_118_23 : ab_at 118 23 = some (.ireturn, 1) := rfl
theorem at_118_24 : ab_at 118 24 = some (.iload_n 2, 1) := rfl
theorem at_118_25 : ab_at 118 25 = some (.ifCond .lt 19, 3) := rfl
theorem at_118_28 : ab_at 118 28 = some (.iload_n 2, 1) := rfl
theorem at_118_29 : ab_at 118 29 = some (.aload_n 0, 1) := rfl
theorem at_118_30 : ab_at 118 30 = some (.getfield 62, 3) := rfl
theorem at_118_33 : ab_at 118 33 = some (.getfield 151, 3) := rfl
theorem at_118_36 : ab_at 118 36 = some (.iload_n 1, 1) := rfl
theorem at_118_37 : ab_at 118 37 = some (.iaload, 1) := rfl
theorem at_118_38 : ab_at 118 38 = some (.invokestatic 252, 3) := rfl
theorem at_118_41 : ab_at 118 41 = some (.if_icmp .le 5, 3) := rfl
theorem at_118_44 : ab_at 118 44 = some (.iconst (-1), 1) := rfl
theorem at_118_45 : ab_at 118 45 = some (.ireturn, 1) := rfl
theorem at_118_46 : ab_at 118 46 = some (.aload_n 0, 1) := rfl
theorem at_118_47 : ab_at 118 47 = some (.getfield 62, 3) := rfl
theorem at_118_50 : ab_at 118 50 = some (.getfield 163, 3) := rfl
theorem at_118_53 : ab_at 118 53 = some (.iload_n 1, 1) := rfl
theorem at_118_54 : ab_at 118 54 = some (.iaload, 1) := rfl
theorem at_118_55 : ab_at 118 55 = some (.istore_n 3, 1) := rfl
theorem at_118_56 : ab_at 118 56 = some (.aload_n 0, 1) := rfl
theorem at_118_57 : ab_at 118 57 = some (.getfield 62, 3) := rfl
theorem at_118_60 : ab_at 118 60 = some (.getfield 163, 3) := rfl
theorem at_118_63 : ab_at 118 63 = some (.iload_n 1, 1) := rfl
theorem at_118_64 : ab_at 118 64 = some (.iload_n 2, 1) := rfl
theorem at_118_65 : ab_at 118 65 = some (.iastore, 1) := rfl
theorem at_118_66 : ab_at 118 66 = some (.iload_n 3, 1) := rfl
theorem at_118_67 : ab_at 118 67 = some (.ireturn, 1) := rfl
theorem at_119_0 : ab_at 119 0 = some (.iload_n 2, 1) := rfl
theorem at_119_1 : ab_at 119 1 = some (.iconst 1, 1) := rfl
theorem at_119_2 : ab_at 119 2 = some (.if_icmp .lt 20, 3) := rfl
theorem at_119_5 : ab_at 119 5 = some (.iload_n 2, 1) := rfl
theorem at_119_6 : ab_at 119 6 = some (.bipush 50, 2) := rfl
theorem at_119_8 : ab_at 119 8 = some (.if_icmp .gt 14, 3) := rfl
theorem at_119_11 : ab_at 119 11 = some (.iload 5, 2) := rfl
theorem at_119_13 : ab_at 119 13 = some (.ifCond .lt 9, 3) := rfl
theorem at_119_16 : ab_at 119 16 = some (.iload 5, 2) := rfl
theorem at_119_18 : ab_at 119 18 = some (.iconst 1, 1) := rfl
theorem at_119_19 : ab_at 119 19 = some (.if_icmp .le 5, 3) := rfl
theorem at_119_22 : ab_at 119 22 = some (.iconst (-1), 1) := rfl
theorem at_119_23 : ab_at 119 23 = some (.ireturn, 1) := rfl
theorem at_119_24 : ab_at 119 24 = some (.aload_n 0, 1) := rfl
theorem at_119_25 : ab_at 119 25 = some (.getfield 62, 3) := rfl
theorem at_119_28 : ab_at 119 28 = some (.iload_n 3, 1) := rfl
theorem at_119_29 : ab_at 119 29 = some (.invokevirtual 148, 3) := rfl
theorem at_119_32 : ab_at 119 32 = some (.ifCond .eq 15, 3) := rfl
theorem at_119_35 : ab_at 119 35 = some (.aload_n 0, 1) := rfl
theorem at_119_36 : ab_at 119 36 = some (.getfield 62, 3) := rfl
theorem at_119_39 : ab_at 119 39 = some (.iload 4, 2) := rfl
theorem at_119_41 : ab_at 119 41 = some (.invokevirtual 148, 3) := rfl
theorem at_119_44 : ab_at 119 44 = some (.ifCond .ne 5, 3) := rfl
theorem at_119_47 : ab_at 119 47 = some (.iconst (-1), 1) := rfl
theorem at_119_48 : ab_at 119 48 = some (.ireturn, 1) := rfl
theorem at_119_49 : ab_at 119 49 = some (.iload_n 1, 1) := rfl
theorem at_119_50 : ab_at 119 50 = some (.istore 6, 2) := rfl
theorem at_119_52 : ab_at 119 52 = some (.iconst 0, 1) := rfl
theorem at_119_53 : ab_at 119 53 = some (.istore 7, 2) := rfl
theorem at_119_55 : ab_at 119 55 = some (.aload_n 0, 1) := rfl
theorem at_119_56 : ab_at 119 56 = some (.getfield 23, 3) := rfl
theorem at_119_59 : ab_at 119 59 = some (.iload_n 3, 1) := rfl
theorem at_119_60 : ab_at 119 60 = some (.iload 4, 2) := rfl
theorem at_119_62 : ab_at 119 62 = some (.invokevirtual 255, 3) := rfl
theorem at_119_65 : ab_at 119 65 = some (.iconst 0, 1) := rfl
theorem at_119_66 : ab_at 119 66 = some (.istore 8, 2) := rfl
theorem at_119_68 : ab_at 119 68 = some (.iload 8, 2) := rfl
theorem at_119_70 : ab_at 119 70 = some (.iload_n 2, 1) := rfl
theorem at_119_71 : ab_at 119 71 = some (.if_icmp .ge 45, 3) := rfl
theorem at_119_74 : ab_at 119 74 = some (.aload_n 0, 1) := rfl
theorem at_119_75 : ab_at 119 75 = some (.getfield 23, 3) := rfl
theorem at_119_78 : ab_at 119 78 = some (.iload 6, 2) := rfl
theorem at_119_80 : ab_at 119 80 = some (.invokevirtual 259, 3) := rfl
theorem at_119_83 : ab_at 119 83 = some (.istore 6, 2) := rfl
theorem at_119_85 : ab_at 119 85 = some (.aload_n 0, 1) := rfl
theorem at_119_86 : ab_at 119 86 = some (.getfield 23, 3) := rfl
theorem at_119_89 : ab_at 119 89 = some (.aload_n 0, 1) := rfl
theorem at_119_90 : ab_at 119 90 = some (.getfield 62, 3) := rfl
theorem at_119_93 : ab_at 119 93 = some (.invokevirtual 183, 3) := rfl
theorem at_119_96 : ab_at 119 96 = some (.pop2, 1) := rfl
theorem at_119_97 : ab_at 119 97 = some (.aload_n 0, 1) := rfl
theorem at_119_98 : ab_at 119 98 = some (.getfield 23, 3) := rfl
theorem at_119_101 : ab_at 119 101 = some (.getfield 205, 3) := rfl
theorem at_119_104 : ab_at 119 104 = some (.ifCond .eq 6, 3) := rfl
theorem at_119_107 : ab_at 119 107 = some (.iinc 7 1, 3) := rfl
theorem at_119_110 : ab_at 119 110 = some (.iinc 8 1, 3) := rfl
theorem at_119_113 : ab_at 119 113 = some (.goto (-45), 3) := rfl
theorem at_119_116 : ab_at 119 116 = some (.iload 5, 2) := rfl
theorem at_119_118 : ab_at 119 118 = some (.ifCond .ne 13, 3) := rfl
theorem at_119_121 : ab_at 119 121 = some (.aload_n 0, 1) := rfl
theorem at_119_122 : ab_at 119 122 = some (.getfield 23, 3) := rfl
theorem at_119_125 : ab_at 119 125 = some (.getfield 262, 3) := rfl
theorem at_119_128 : ab_at 119 128 = some (.goto 5, 3) := rfl
theorem at_119_131 : ab_at 119 131 = some (.iload 7, 2) := rfl
theorem at_119_133 : ab_at 119 133 = some (.ireturn, 1) := rfl
theorem at_120_0 : ab_at 120 0 = some (.iload_n 1, 1) := rfl
theorem at_120_1 : ab_at 120 1 = some (.ifCond .lt 8, 3) := rfl
theorem at_120_4 : ab_at 120 4 = some (.iload_n 1, 1) := rfl
theorem at_120_5 : ab_at 120 5 = some (.iconst 2, 1) := rfl
theorem at_120_6 : ab_at 120 6 = some (.if_icmp .lt 5, 3) := rfl
theorem at_120_9 : ab_at 120 9 = some (.iconst (-1), 1) := rfl
theorem at_120_10 : ab_at 120 10 = some (.ireturn, 1) := rfl
theorem at_120_11 : ab_at 120 11 = some (.aload_n 0, 1) := rfl
theorem at_120_12 : ab_at 120 12 = some (.getfield 53, 3) := rfl
theorem at_120_15 : ab_at 120 15 = some (.iload_n 1, 1) := rfl
theorem at_120_16 : ab_at 120 16 = some (.baload, 1) := rfl
theorem at_120_17 : ab_at 120 17 = some (.ifCond .eq 7, 3) := rfl
theorem at_120_20 : ab_at 120 20 = some (.iconst 1, 1) := rfl
theorem at_120_21 : ab_at 120 21 = some (.goto 4, 3) := rfl
theorem at_120_24 : ab_at 120 24 = some (.iconst 0, 1) := rfl
theorem at_120_25 : ab_at 120 25 = some (.istore_n 2, 1) := rfl
theorem at_120_26 : ab_at 120 26 = some (.aload_n 0, 1) := rfl
theorem at_120_27 : ab_at 120 27 = some (.getfield 49, 3) := rfl
theorem at_120_30 : ab_at 120 30 = some (.iload_n 1, 1) := rfl
theorem at_120_31 : ab_at 120 31 = some (.aaload, 1) := rfl
theorem at_120_32 : ab_at 120 32 = some (.aload_n 0, 1) := rfl
theorem at_120_33 : ab_at 120 33 = some (.getfield 62, 3) := rfl
theorem at_120_36 : ab_at 120 36 = some (.invokevirtual 90, 3) := rfl
theorem at_120_39 : ab_at 120 39 = some (.aload_n 0, 1) := rfl
theorem at_120_40 : ab_at 120 40 = some (.getfield 53, 3) := rfl
theorem at_120_43 : ab_at 120 43 = some (.iload_n 1, 1) := rfl
theorem at_120_44 : ab_at 120 44 = some (.iconst 1, 1) := rfl
theorem at_120_45 : ab_at 120 45 = some (.bastore, 1) := rfl
theorem at_120_46 : ab_at 120 46 = some (.iload_n 2, 1) := rfl
theorem at_120_47 : ab_at 120 47 = some (.ireturn, 1) := rfl
theorem at_121_0 : ab_at 121 0 = some (.iload_n 1, 1) := rfl
theorem at_121_1 : ab_at 121 1 = some (.ifCond .lt 8, 3) := rfl
theorem at_121_4 : ab_at 121 4 = some (.iload_n 1, 1) := rfl
theorem at_121_5 : ab_at 121 5 = some (.iconst 2, 1) := rfl
theorem at_121_6 : ab_at 121 6 = some (.if_icmp .lt 5, 3) := rfl
theorem at_121_9 : ab_at 121 9 = some (.iconst (-1), 1) := rfl
theorem at_121_10 : ab_at 121 10 = some (.ireturn, 1) := rfl
theorem at_121_11 : ab_at 121 11 = some (.aload_n 0, 1) := rfl
theorem at_121_12 : ab_at 121 12 = some (.getfield 53, 3) := rfl
theorem at_121_15 : ab_at 121 15 = some (.iload_n 1, 1) := rfl
theorem at_121_16 : ab_at 121 16 = some (.baload, 1) := rfl
theorem at_121_17 : ab_at 121 17 = some (.ifCond .ne 6, 3) := rfl
theorem at_121_20 : ab_at 121 20 = some (.bipush (-2), 2) := rfl
theorem at_121_22 : ab_at 121 22 = some (.ireturn, 1) := rfl
theorem at_121_23 : ab_at 121 23 = some (.aload_n 0, 1) := rfl
theorem at_121_24 : ab_at 121 24 = some (.getfield 62, 3) := rfl
theorem at_121_27 : ab_at 121 27 = some (.aload_n 0, 1) := rfl
theorem at_121_28 : ab_at 121 28 = some (.getfield 49, 3) := rfl
theorem at_121_31 : ab_at 121 31 = some (.iload_n 1, 1) := rfl
theorem at_121_32 : ab_at 121 32 = some (.aaload, 1) := rfl
theorem at_121_33 : ab_at 121 33 = some (.invokevirtual 90, 3) := rfl
theorem at_121_36 : ab_at 121 36 = some (.aload_n 0, 1) := rfl
theorem at_121_37 : ab_at 121 37 = some (.getfield 19, 3) := rfl
theorem at_121_40 : ab_at 121 40 = some (.invokevirtual 94, 3) := rfl
theorem at_121_43 : ab_at 121 43 = some (.aload_n 0, 1) := rfl
theorem at_121_44 : ab_at 121 44 = some (.getfield 62, 3) := rfl
theorem at_121_47 : ab_at 121 47 = some (.getfield 97, 3) := rfl
theorem at_121_50 : ab_at 121 50 = some (.ireturn, 1) := rfl
theorem at_122_0 : ab_at 122 0 = some (.iload_n 1, 1) := rfl
theorem at_122_1 : ab_at 122 1 = some (.ifCond .lt 23, 3) := rfl
theorem at_122_4 : ab_at 122 4 = some (.iload_n 1, 1) := rfl
theorem at_122_5 : ab_at 122 5 = some (.iconst 4, 1) := rfl
theorem at_122_6 : ab_at 122 6 = some (.if_icmp .ge 18, 3) := rfl
theorem at_122_9 : ab_at 122 9 = some (.iload_n 2, 1) := rfl
theorem at_122_10 : ab_at 122 10 = some (.ifCond .lt 14, 3) := rfl
theorem at_122_13 : ab_at 122 13 = some (.iload_n 2, 1) := rfl
theorem at_122_14 : ab_at 122 14 = some (.iconst 3, 1) := rfl
theorem at_122_15 : ab_at 122 15 = some (.if_icmp .ge 9, 3) := rfl
theorem at_122_18 : ab_at 122 18 = some (.iload_n 3, 1) := rfl
theorem at_122_19 : ab_at 122 19 = some (.bipush 40, 2) := rfl
theorem at_122_21 : ab_at 122 21 = some (.if_icmp .le 5, 3) := rfl
theorem at_122_24 : ab_at 122 24 = some (.iconst (-1), 1) := rfl
theorem at_122_25 : ab_at 122 25 = some (.ireturn, 1) := rfl
theorem at_122_26 : ab_at 122 26 = some (.iload_n 3, 1) := rfl
theorem at_122_27 : ab_at 122 27 = some (.ifCond .ge 6, 3) := rfl
theorem at_122_30 : ab_at 122 30 = some (.bipush (-14), 2) := rfl
theorem at_122_32 : ab_at 122 32 = some (.ireturn, 1) := rfl
theorem at_122_33 : ab_at 122 33 = some (.aload_n 0, 1) := rfl
theorem at_122_34 : ab_at 122 34 = some (.getfield 43, 3) := rfl
theorem at_122_37 : ab_at 122 37 = some (.iload_n 1, 1) := rfl
theorem at_122_38 : ab_at 122 38 = some (.iload_n 2, 1) := rfl
theorem at_122_39 : ab_at 122 39 = some (.iload_n 3, 1) := rfl
theorem at_122_40 : ab_at 122 40 = some (.invokevirtual 265, 3) := rfl
theorem at_122_43 : ab_at 122 43 = some (.iconst 1, 1) := rfl
theorem at_122_44 : ab_at 122 44 = some (.ireturn, 1) := rfl
theorem at_123_0 : ab_at 123 0 = some (.iload_n 1, 1) := rfl
theorem at_123_1 : ab_at 123 1 = some (.ifCond .lt 8, 3) := rfl
theorem at_123_4 : ab_at 123 4 = some (.iload_n 1, 1) := rfl
theorem at_123_5 : ab_at 123 5 = some (.iconst 4, 1) := rfl
theorem at_123_6 : ab_at 123 6 = some (.if_icmp .lt 5, 3) := rfl
theorem at_123_9 : ab_at 123 9 = some (.iconst (-1), 1) := rfl
theorem at_123_10 : ab_at 123 10 = some (.ireturn, 1) := rfl
theorem at_123_11 : ab_at 123 11 = some (.aload_n 0, 1) := rfl
theorem at_123_12 : ab_at 123 12 = some (.getfield 43, 3) := rfl
theorem at_123_15 : ab_at 123 15 = some (.iload_n 1, 1) := rfl
theorem at_123_16 : ab_at 123 16 = some (.iload_n 2, 1) := rfl
theorem at_123_17 : ab_at 123 17 = some (.invokevirtual 269, 3) := rfl
theorem at_123_20 : ab_at 123 20 = some (.istore 4, 2) := rfl
theorem at_123_22 : ab_at 123 22 = some (.iload 4, 2) := rfl
theorem at_123_24 : ab_at 123 24 = some (.ifCond .eq 9, 3) := rfl
theorem at_123_27 : ab_at 123 27 = some (.bipush (-10), 2) := rfl
theorem at_123_29 : ab_at 123 29 = some (.iload 4, 2) := rfl
theorem at_123_31 : ab_at 123 31 = some (.isub, 1) := rfl
theorem at_123_32 : ab_at 123 32 = some (.ireturn, 1) := rfl
theorem at_123_33 : ab_at 123 33 = some (.aload_n 0, 1) := rfl
theorem at_123_34 : ab_at 123 34 = some (.getfield 43, 3) := rfl
theorem at_123_37 : ab_at 123 37 = some (.iload_n 1, 1) := rfl
theorem at_123_38 : ab_at 123 38 = some (.iload_n 2, 1) := rfl
theorem at_123_39 : ab_at 123 39 = some (.iload_n 3, 1) := rfl
theorem at_123_40 : ab_at 123 40 = some (.invokevirtual 272, 3) := rfl
theorem at_123_43 : ab_at 123 43 = some (.iconst 1, 1) := rfl
theorem at_123_44 : ab_at 123 44 = some (.ireturn, 1) := rfl
theorem at_124_0 : ab_at 124 0 = some (.iload_n 1, 1) := rfl
theorem at_124_1 : ab_at 124 1 = some (.ifCond .lt 29, 3) := rfl
theorem at_124_4 : ab_at 124 4 = some (.iload_n 1, 1) := rfl
theorem at_124_5 : ab_at 124 5 = some (.iconst 4, 1) := rfl
theorem at_124_6 : ab_at 124 6 = some (.if_icmp .ge 24, 3) := rfl
theorem at_124_9 : ab_at 124 9 = some (.iload_n 2, 1) := rfl
theorem at_124_10 : ab_at 124 10 = some (.ifCond .lt 20, 3) := rfl
theorem at_124_13 : ab_at 124 13 = some (.iload_n 2, 1) := rfl
theorem at_124_14 : ab_at 124 14 = some (.iconst 3, 1) := rfl
theorem at_124_15 : ab_at 124 15 = some (.if_icmp .ge 15, 3) := rfl
theorem at_124_18 : ab_at 124 18 = some (.iload 4, 2) := rfl
theorem at_124_20 : ab_at 124 20 = some (.ifCond .lt 10, 3) := rfl
theorem at_124_23 : ab_at 124 23 = some (.iload 4, 2) := rfl
theorem at_124_25 : ab_at 124 25 = some (.bipush 20, 2) := rfl
theorem at_124_27 : ab_at 124 27 = some (.if_icmp .le 5, 3) := rfl
theorem at_124_30 : ab_at 124 30 = some (.iconst (-1), 1) := rfl
theorem at_124_31 : ab_at 124 31 = some (.ireturn, 1) := rfl
theorem at_124_32 : ab_at 124 32 = some (.aload_n 0, 1) := rfl
theorem at_124_33 : ab_at 124 33 = some (.getfield 43, 3) := rfl
theorem at_124_36 : ab_at 124 36 = some (.iconst 0, 1) := rfl
theorem at_124_37 : ab_at 124 37 = some (.putfield 275, 3) := rfl
theorem at_124_40 : ab_at 124 40 = some (.iconst 0, 1) := rfl
theorem at_124_41 : ab_at 124 41 = some (.istore 5, 2) := rfl
theorem at_124_43 : ab_at 124 43 = some (.iload 5, 2) := rfl
theorem at_124_45 : ab_at 124 45 = some (.iload 4, 2) := rfl
theorem at_124_47 : ab_at 124 47 = some (.if_icmp .ge 67, 3) := rfl
theorem at_124_50 : ab_at 124 50 = some (.aload_n 0, 1) := rfl
theorem at_124_51 : ab_at 124 51 = some (.getfield 43, 3) := rfl
theorem at_124_54 : ab_at 124 54 = some (.aload_n 0, 1) := rfl
theorem at_124_55 : ab_at 124 55 = some (.getfield 43, 3) := rfl
theorem at_124_58 : ab_at 124 58 = some (.iload_n 1, 1) := rfl
theorem at_124_59 : ab_at 124 59 = some (.iload_n 2, 1) := rfl
theorem at_124_60 : ab_at 124 60 = some (.iload_n 3, 1) := rfl
theorem at_124_61 : ab_at 124 61 = some (.iconst 4, 1) := rfl
theorem at_124_62 : ab_at 124 62 = some (.iload 5, 2) := rfl
theorem at_124_64 : ab_at 124 64 = some (.imul, 1) := rfl
theorem at_124_65 : ab_at 124 65 = some (.iadd, 1) := rfl
theorem at_124_66 : ab_at 124 66 = some (.invokevirtual 278, 3) := rfl
theorem at_124_69 : ab_at 124 69 = some (.putfield 275, 3) := rfl
theorem at_124_72 : ab_at 124 72 = some (.aload_n 0, 1) := rfl
theorem at_124_73 : ab_at 124 73 = some (.getfield 43, 3) := rfl
theorem at_124_76 : ab_at 124 76 = some (.getfield 275, 3) := rfl
theorem at_124_79 : ab_at 124 79 = some (.ifCond .eq 6, 3) := rfl
theorem at_124_82 : ab_at 124 82 = some (.iload 5, 2) := rfl
theorem at_124_84 : ab_at 124 84 = some (.ireturn, 1) := rfl
theorem at_124_85 : ab_at 124 85 = some (.aload_n 0, 1) := rfl
theorem at_124_86 : ab_at 124 86 = some (.iload_n 1, 1) := rfl
theorem at_124_87 : ab_at 124 87 = some (.iload_n 3, 1) := rfl
theorem at_124_88 : ab_at 124 88 = some (.iconst 4, 1) := rfl
theorem at_124_89 : ab_at 124 89 = some (.iload 5, 2) := rfl
theorem at_124_91 : ab_at 124 91 = some (.imul, 1) := rfl
theorem at_124_92 : ab_at 124 92 = some (.iadd, 1) := rfl
theorem at_124_93 : ab_at 124 93 = some (.invokevirtual 282, 3) := rfl
theorem at_124_96 : ab_at 124 96 = some (.aload_n 0, 1) := rfl
theorem at_124_97 : ab_at 124 97 = some (.getfield 19, 3) := rfl
theorem at_124_100 : ab_at 124 100 = some (.aload_n 0, 1) := rfl
theorem at_124_101 : ab_at 124 101 = some (.getfield 62, 3) := rfl
theorem at_124_104 : ab_at 124 104 = some (.invokevirtual 183, 3) := rfl
theorem at_124_107 : ab_at 124 107 = some (.pop2, 1) := rfl
theorem at_124_108 : ab_at 124 108 = some (.iinc 5 1, 3) := rfl
theorem at_124_111 : ab_at 124 111 = some (.goto (-68), 3) := rfl
theorem at_124_114 : ab_at 124 114 = some (.iload 4, 2) := rfl
theorem at_124_116 : ab_at 124 116 = some (.ireturn, 1) := rfl
theorem at_125_0 : ab_at 125 0 = some (.aload_n 0, 1) := rfl
theorem at_125_1 : ab_at 125 1 = some (.getfield 43, 3) := rfl
theorem at_125_4 : ab_at 125 4 = some (.getfield 275, 3) := rfl
theorem at_125_7 : ab_at 125 7 = some (.ireturn, 1) := rfl
theorem at_126_0 : ab_at 126 0 = some (.iload_n 1, 1) := rfl
theorem at_126_1 : ab_at 126 1 = some (.tableswitch 65 0 3 #[31, 36, 47, 57], 31) := rfl
theorem at_126_32 : ab_at 126 32 = some (.aload_n 0, 1) := rfl
theorem at_126_33 : ab_at 126 33 = some (.invokevirtual 285, 3) := rfl
theorem at_126_36 : ab_at 126 36 = some (.ireturn, 1) := rfl
theorem at_126_37 : ab_at 126 37 = some (.aload_n 0, 1) := rfl
theorem at_126_38 : ab_at 126 38 = some (.getfield 10, 3) := rfl
theorem at_126_41 : ab_at 126 41 = some (.getfield 66, 3) := rfl
theorem at_126_44 : ab_at 126 44 = some (.getfield 76, 3) := rfl
theorem at_126_47 : ab_at 126 47 = some (.ireturn, 1) := rfl
theorem at_126_48 : ab_at 126 48 = some (.aload_n 0, 1) := rfl
theorem at_126_49 : ab_at 126 49 = some (.getfield 43, 3) := rfl
theorem at_126_52 : ab_at 126 52 = some (.getfield 288, 3) := rfl
theorem at_126_55 : ab_at 126 55 = some (.iconst 0, 1) := rfl
theorem at_126_56 : ab_at 126 56 = some (.iaload, 1) := rfl
theorem at_126_57 : ab_at 126 57 = some (.ireturn, 1) := rfl
theorem at_126_58 : ab_at 126 58 = some (.aload_n 0, 1) := rfl
theorem at_126_59 : ab_at 126 59 = some (.getfield 62, 3) := rfl
theorem at_126_62 : ab_at 126 62 = some (.invokevirtual 290, 3) := rfl
theorem at_126_65 : ab_at 126 65 = some (.ireturn, 1) := rfl
theorem at_126_66 : ab_at 126 66 = some (.iconst (-1), 1) := rfl
theorem at_126_67 : ab_at 126 67 = some (.ireturn, 1) := rfl
theorem at_127_0 : ab_at 127 0 = some (.iconst 0, 1) := rfl
theorem at_127_1 : ab_at 127 1 = some (.istore_n 1, 1) := rfl
theorem at_127_2 : ab_at 127 2 = some (.iconst 0, 1) := rfl
theorem at_127_3 : ab_at 127 3 = some (.istore_n 2, 1) := rfl
theorem at_127_4 : ab_at 127 4 = some (.iload_n 2, 1) := rfl
theorem at_127_5 : ab_at 127 5 = some (.iconst 2, 1) := rfl
theorem at_127_6 : ab_at 127 6 = some (.if_icmp .ge 21, 3) := rfl
theorem at_127_9 : ab_at 127 9 = some (.aload_n 0, 1) := rfl
theorem at_127_10 : ab_at 127 10 = some (.getfield 53, 3) := rfl
theorem at_127_13 : ab_at 127 13 = some (.iload_n 2, 1) := rfl
theorem at_127_14 : ab_at 127 14 = some (.baload, 1) := rfl
theorem at_127_15 : ab_at 127 15 = some (.ifCond .eq 6, 3) := rfl
theorem at_127_18 : ab_at 127 18 = some (.iinc 1 1, 3) := rfl
theorem at_127_21 : ab_at 127 21 = some (.iinc 2 1, 3) := rfl
theorem at_127_24 : ab_at 127 24 = some (.goto (-20), 3) := rfl
theorem at_127_27 : ab_at 127 27 = some (.iload_n 1, 1) := rfl
theorem at_127_28 : ab_at 127 28 = some (.ireturn, 1) := rfl
theorem at_128_0 : ab_at 128 0 = some (.iconst 0, 1) := rfl
theorem at_128_1 : ab_at 128 1 = some (.istore_n 3, 1) := rfl
theorem at_128_2 : ab_at 128 2 = some (.iload_n 3, 1) := rfl
theorem at_128_3 : ab_at 128 3 = some (.iconst 4, 1) := rfl
theorem at_128_4 : ab_at 128 4 = some (.if_icmp .ge 29, 3) := rfl
theorem at_128_7 : ab_at 128 7 = some (.aload_n 0, 1) := rfl
theorem at_128_8 : ab_at 128 8 = some (.getfield 19, 3) := rfl
theorem at_128_11 : ab_at 128 11 = some (.getfield 293, 3) := rfl
theorem at_128_14 : ab_at 128 14 = some (.iload_n 3, 1) := rfl
theorem at_128_15 : ab_at 128 15 = some (.aload_n 0, 1) := rfl
theorem at_128_16 : ab_at 128 16 = some (.getfield 43, 3) := rfl
theorem at_128_19 : ab_at 128 19 = some (.iload_n 1, 1) := rfl
theorem at_128_20 : ab_at 128 20 = some (.iload_n 2, 1) := rfl
theorem at_128_21 : ab_at 128 21 = some (.iload_n 3, 1) := rfl
theorem at_128_22 : ab_at 128 22 = some (.iadd, 1) := rfl
theorem at_128_23 : ab_at 128 23 = some (.invokevirtual 296, 3) := rfl
theorem at_128_26 : ab_at 128 26 = some (.iastore, 1) := rfl
theorem at_128_27 : ab_at 128 27 = some (.iinc 3 1, 3) := rfl
theorem at_128_30 : ab_at 128 30 = some (.goto (-28), 3) := rfl
theorem at_128_33 : ab_at 128 33 = some (.return_, 1) := rfl
theorem at_129_0 : ab_at 129 0 = some (.iload_n 0, 1) := rfl
theorem at_129_1 : ab_at 129 1 = some (.iconst 1, 1) := rfl
theorem at_129_2 : ab_at 129 2 = some (.if_icmp .ne 7, 3) := rfl
theorem at_129_5 : ab_at 129 5 = some (.iconst 3, 1) := rfl
theorem at_129_6 : ab_at 129 6 = some (.goto 5, 3) := rfl
theorem at_129_9 : ab_at 129 9 = some (.bipush 99, 2) := rfl
theorem at_129_11 : ab_at 129 11 = some (.ireturn, 1) := rfl
theorem at_130_0 : ab_at 130 0 = some (.iload_n 0, 1) := rfl
theorem at_130_1 : ab_at 130 1 = some (.iload_n 1, 1) := rfl
theorem at_130_2 : ab_at 130 2 = some (.ishr, 1) := rfl
theorem at_130_3 : ab_at 130 3 = some (.iconst 1, 1) := rfl
theorem at_130_4 : ab_at 130 4 = some (.iand, 1) := rfl
theorem at_130_5 : ab_at 130 5 = some (.ifCond .eq 7, 3) := rfl
theorem at_130_8 : ab_at 130 8 = some (.iconst 1, 1) := rfl
theorem at_130_9 : ab_at 130 9 = some (.goto 4, 3) := rfl
theorem at_130_12 : ab_at 130 12 = some (.iconst 0, 1) := rfl
theorem at_130_13 : ab_at 130 13 = some (.ireturn, 1) := rfl
theorem at_131_0 : ab_at 131 0 = some (.lload_n 1, 1) := rfl
theorem at_131_1 : ab_at 131 1 = some (.ldc2_w 299, 3) := rfl
theorem at_131_4 : ab_at 131 4 = some (.lcmp, 1) := rfl
theorem at_131_5 : ab_at 131 5 = some (.ifCond .eq 16, 3) := rfl
theorem at_131_8 : ab_at 131 8 = some (.iload_n 0, 1) := rfl
theorem at_131_9 : ab_at 131 9 = some (.iconst 4, 1) := rfl
theorem at_131_10 : ab_at 131 10 = some (.if_icmp .eq 15, 3) := rfl
theorem at_131_13 : ab_at 131 13 = some (.lload_n 3, 1) := rfl
theorem at_131_14 : ab_at 131 14 = some (.ldc2_w 299, 3) := rfl
theorem at_131_17 : ab_at 131 17 = some (.lcmp, 1) := rfl
theorem at_131_18 : ab_at 131 18 = some (.ifCond .ne 7, 3) := rfl
theorem at_131_21 : ab_at 131 21 = some (.iconst 1, 1) := rfl
theorem at_131_22 : ab_at 131 22 = some (.goto 4, 3) := rfl
theorem at_131_25 : ab_at 131 25 = some (.iconst 0, 1) := rfl
theorem at_131_26 : ab_at 131 26 = some (.istore 5, 2) := rfl
theorem at_131_28 : ab_at 131 28 = some (.iload 5, 2) := rfl
theorem at_131_30 : ab_at 131 30 = some (.ifCond .eq 16, 3) := rfl
theorem at_131_33 : ab_at 131 33 = some (.iload_n 0, 1) := rfl
theorem at_131_34 : ab_at 131 34 = some (.iconst 5, 1) := rfl
theorem at_131_35 : ab_at 131 35 = some (.if_icmp .ne 7, 3) := rfl
theorem at_131_38 : ab_at 131 38 = some (.lconst 0, 1) := rfl
theorem at_131_39 : ab_at 131 39 = some (.goto 6, 3) := rfl
theorem at_131_42 : ab_at 131 42 = some (.ldc2_w 299, 3) := rfl
theorem at_131_45 : ab_at 131 45 = some (.lreturn, 1) := rfl
theorem at_131_46 : ab_at 131 46 = some (.iload_n 0, 1) := rfl
theorem at_131_47 : ab_at 131 47 = some (.tableswitch 80 2 6 #[33, 39, 45, 50, 62], 33) := rfl
theorem at_131_80 : ab_at 131 80 = some (.lload_n 1, 1) := rfl
theorem at_131_81 : ab_at 131 81 = some (.lload_n 3, 1) := rfl
theorem at_131_82 : ab_at 131 82 = some (.ladd, 1) := rfl
theorem at_131_83 : ab_at 131 83 = some (.l2i, 1) := rfl
theorem at_131_84 : ab_at 131 84 = some (.i2l, 1) := rfl
theorem at_131_85 : ab_at 131 85 = some (.lreturn, 1) := rfl
theorem at_131_86 : ab_at 131 86 = some (.lload_n 1, 1) := rfl
theorem at_131_87 : ab_at 131 87 = some (.lload_n 3, 1) := rfl
theorem at_131_88 : ab_at 131 88 = some (.lmul, 1) := rfl
theorem at_131_89 : ab_at 131 89 = some (.l2i, 1) := rfl
theorem at_131_90 : ab_at 131 90 = some (.i2l, 1) := rfl
theorem at_131_91 : ab_at 131 91 = some (.lreturn, 1) := rfl
theorem at_131_92 : ab_at 131 92 = some (.lload_n 1, 1) := rfl
theorem at_131_93 : ab_at 131 93 = some (.lneg, 1) := rfl
theorem at_131_94 : ab_at 131 94 = some (.l2i, 1) := rfl
theorem at_131_95 : ab_at 131 95 = some (.i2l, 1) := rfl
theorem at_131_96 : ab_at 131 96 = some (.lreturn, 1) := rfl
theorem at_131_97 : ab_at 131 97 = some (.lload_n 1, 1) := rfl
theorem at_131_98 : ab_at 131 98 = some (.lload_n 3, 1) := rfl
theorem at_131_99 : ab_at 131 99 = some (.lcmp, 1) := rfl
theorem at_131_100 : ab_at 131 100 = some (.ifCond .ge 7, 3) := rfl
theorem at_131_103 : ab_at 131 103 = some (.lconst 1, 1) := rfl
theorem at_131_104 : ab_at 131 104 = some (.goto 4, 3) := rfl
theorem at_131_107 : ab_at 131 107 = some (.lconst 0, 1) := rfl
theorem at_131_108 : ab_at 131 108 = some (.lreturn, 1) := rfl
theorem at_131_109 : ab_at 131 109 = some (.lload_n 3, 1) := rfl
theorem at_131_110 : ab_at 131 110 = some (.lconst 0, 1) := rfl
theorem at_131_111 : ab_at 131 111 = some (.lcmp, 1) := rfl
theorem at_131_112 : ab_at 131 112 = some (.ifCond .ne 9, 3) := rfl
theorem at_131_115 : ab_at 131 115 = some (.ldc2_w 299, 3) := rfl
theorem at_131_118 : ab_at 131 118 = some (.goto 8, 3) := rfl
theorem at_131_121 : ab_at 131 121 = some (.lload_n 1, 1) := rfl
theorem at_131_122 : ab_at 131 122 = some (.lload_n 3, 1) := rfl
theorem at_131_123 : ab_at 131 123 = some (.ldiv, 1) := rfl
theorem at_131_124 : ab_at 131 124 = some (.l2i, 1) := rfl
theorem at_131_125 : ab_at 131 125 = some (.i2l, 1) := rfl
theorem at_131_126 : ab_at 131 126 = some (.lreturn, 1) := rfl
theorem at_131_127 : ab_at 131 127 = some (.ldc2_w 299, 3) := rfl
theorem at_131_130 : ab_at 131 130 = some (.lreturn, 1) := rfl
theorem at_216_0 : ab_at 216 0 = some (.iload_n 0, 1) := rfl
theorem at_216_1 : ab_at 216 1 = some (.iload_n 0, 1) := rfl
theorem at_216_2 : ab_at 216 2 = some (.iconst 1, 1) := rfl
theorem at_216_3 : ab_at 216 3 = some (.iushr, 1) := rfl
theorem at_216_4 : ab_at 216 4 = some (.ldc_w 265, 3) := rfl
theorem at_216_7 : ab_at 216 7 = some (.iand, 1) := rfl
theorem at_216_8 : ab_at 216 8 = some (.isub, 1) := rfl
theorem at_216_9 : ab_at 216 9 = some (.istore_n 0, 1) := rfl
theorem at_216_10 : ab_at 216 10 = some (.iload_n 0, 1) := rfl
theorem at_216_11 : ab_at 216 11 = some (.ldc_w 266, 3) := rfl
theorem at_216_14 : ab_at 216 14 = some (.iand, 1) := rfl
theorem at_216_15 : ab_at 216 15 = some (.iload_n 0, 1) := rfl
theorem at_216_16 : ab_at 216 16 = some (.iconst 2, 1) := rfl
theorem at_216_17 : ab_at 216 17 = some (.iushr, 1) := rfl
theorem at_216_18 : ab_at 216 18 = some (.ldc_w 266, 3) := rfl
theorem at_216_21 : ab_at 216 21 = some (.iand, 1) := rfl
theorem at_216_22 : ab_at 216 22 = some (.iadd, 1) := rfl
theorem at_216_23 : ab_at 216 23 = some (.istore_n 0, 1) := rfl
theorem at_216_24 : ab_at 216 24 = some (.iload_n 0, 1) := rfl
theorem at_216_25 : ab_at 216 25 = some (.iload_n 0, 1) := rfl
theorem at_216_26 : ab_at 216 26 = some (.iconst 4, 1) := rfl
theorem at_216_27 : ab_at 216 27 = some (.iushr, 1) := rfl
theorem at_216_28 : ab_at 216 28 = some (.iadd, 1) := rfl
theorem at_216_29 : ab_at 216 29 = some (.ldc_w 267, 3) := rfl
theorem at_216_32 : ab_at 216 32 = some (.iand, 1) := rfl
theorem at_216_33 : ab_at 216 33 = some (.istore_n 0, 1) := rfl
theorem at_216_34 : ab_at 216 34 = some (.iload_n 0, 1) := rfl
theorem at_216_35 : ab_at 216 35 = some (.iload_n 0, 1) := rfl
theorem at_216_36 : ab_at 216 36 = some (.bipush 8, 2) := rfl
theorem at_216_38 : ab_at 216 38 = some (.iushr, 1) := rfl
theorem at_216_39 : ab_at 216 39 = some (.iadd, 1) := rfl
theorem at_216_40 : ab_at 216 40 = some (.istore_n 0, 1) := rfl
theorem at_216_41 : ab_at 216 41 = some (.iload_n 0, 1) := rfl
theorem at_216_42 : ab_at 216 42 = some (.iload_n 0, 1) := rfl
theorem at_216_43 : ab_at 216 43 = some (.bipush 16, 2) := rfl
theorem at_216_45 : ab_at 216 45 = some (.iushr, 1) := rfl
theorem at_216_46 : ab_at 216 46 = some (.iadd, 1) := rfl
theorem at_216_47 : ab_at 216 47 = some (.istore_n 0, 1) := rfl
theorem at_216_48 : ab_at 216 48 = some (.iload_n 0, 1) := rfl
theorem at_216_49 : ab_at 216 49 = some (.bipush 63, 2) := rfl
theorem at_216_51 : ab_at 216 51 = some (.iand, 1) := rfl
theorem at_216_52 : ab_at 216 52 = some (.ireturn, 1) := rfl
