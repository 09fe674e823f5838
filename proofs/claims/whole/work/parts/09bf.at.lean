theorem at_175_0 : ab_at 175 0 = some (.aload_n 0, 1) := rfl
theorem at_175_1 : ab_at 175 1 = some (.iconst 0, 1) := rfl
theorem at_175_2 : ab_at 175 2 = some (.bipush (-4), 2) := rfl
theorem at_175_4 : ab_at 175 4 = some (.bipush (-4), 2) := rfl
theorem at_175_6 : ab_at 175 6 = some (.invokevirtual 239, 3) := rfl
theorem at_175_9 : ab_at 175 9 = some (.lstore_n 1, 1) := rfl
theorem at_175_10 : ab_at 175 10 = some (.aload_n 0, 1) := rfl
theorem at_175_11 : ab_at 175 11 = some (.iconst 1, 1) := rfl
theorem at_175_12 : ab_at 175 12 = some (.putfield 159, 3) := rfl
theorem at_175_15 : ab_at 175 15 = some (.aload_n 0, 1) := rfl
theorem at_175_16 : ab_at 175 16 = some (.aload_n 0, 1) := rfl
theorem at_175_17 : ab_at 175 17 = some (.getfield 229, 3) := rfl
theorem at_175_20 : ab_at 175 20 = some (.putfield 243, 3) := rfl
theorem at_175_23 : ab_at 175 23 = some (.aload_n 0, 1) := rfl
theorem at_175_24 : ab_at 175 24 = some (.aload_n 0, 1) := rfl
theorem at_175_25 : ab_at 175 25 = some (.getfield 218, 3) := rfl
theorem at_175_28 : ab_at 175 28 = some (.putfield 246, 3) := rfl
theorem at_175_31 : ab_at 175 31 = some (.aload_n 0, 1) := rfl
theorem at_175_32 : ab_at 175 32 = some (.aload_n 0, 1) := rfl
theorem at_175_33 : ab_at 175 33 = some (.getfield 232, 3) := rfl
theorem at_175_36 : ab_at 175 36 = some (.putfield 249, 3) := rfl
theorem at_175_39 : ab_at 175 39 = some (.lload_n 1, 1) := rfl
theorem at_175_40 : ab_at 175 40 = some (.lreturn, 1) := rfl
theorem at_176_0 : ab_at 176 0 = some (.aload_n 0, 1) := rfl
theorem at_176_1 : ab_at 176 1 = some (.getfield 38, 3) := rfl
theorem at_176_4 : ab_at 176 4 = some (.iconst 0, 1) := rfl
theorem at_176_5 : ab_at 176 5 = some (.iload_n 1, 1) := rfl
theorem at_176_6 : ab_at 176 6 = some (.iastore, 1) := rfl
theorem at_176_7 : ab_at 176 7 = some (.aload_n 0, 1) := rfl
theorem at_176_8 : ab_at 176 8 = some (.getfield 38, 3) := rfl
theorem at_176_11 : ab_at 176 11 = some (.iconst 1, 1) := rfl
theorem at_176_12 : ab_at 176 12 = some (.iload_n 2, 1) := rfl
theorem at_176_13 : ab_at 176 13 = some (.iastore, 1) := rfl
theorem at_176_14 : ab_at 176 14 = some (.aload_n 0, 1) := rfl
theorem at_176_15 : ab_at 176 15 = some (.getfield 38, 3) := rfl
theorem at_176_18 : ab_at 176 18 = some (.iconst 2, 1) := rfl
theorem at_176_19 : ab_at 176 19 = some (.iload_n 3, 1) := rfl
theorem at_176_20 : ab_at 176 20 = some (.iastore, 1) := rfl
theorem at_176_21 : ab_at 176 21 = some (.aload_n 0, 1) := rfl
theorem at_176_22 : ab_at 176 22 = some (.getfield 38, 3) := rfl
theorem at_176_25 : ab_at 176 25 = some (.iconst 3, 1) := rfl
theorem at_176_26 : ab_at 176 26 = some (.iload 4, 2) := rfl
theorem at_176_28 : ab_at 176 28 = some (.iastore, 1) := rfl
theorem at_176_29 : ab_at 176 29 = some (.aload_n 0, 1) := rfl
theorem at_176_30 : ab_at 176 30 = some (.invokevirtual 252, 3) := rfl
theorem at_176_33 : ab_at 176 33 = some (.lreturn, 1) := rfl
theorem at_177_0 : ab_at 177 0 = some (.aload_n 0, 1) := rfl
theorem at_177_1 : ab_at 177 1 = some (.iload_n 1, 1) := rfl
theorem at_177_2 : ab_at 177 2 = some (.invokevirtual 201, 3) := rfl
theorem at_177_5 : ab_at 177 5 = some (.ifCond .ne 9, 3) := rfl
theorem at_177_8 : ab_at 177 8 = some (.ldc2_w 256, 3) := rfl
theorem at_177_11 : ab_at 177 11 = some (.goto 22, 3) := rfl
theorem at_177_14 : ab_at 177 14 = some (.aload_n 0, 1) := rfl
theorem at_177_15 : ab_at 177 15 = some (.getfield 159, 3) := rfl
theorem at_177_18 : ab_at 177 18 = some (.ifCond .eq 12, 3) := rfl
theorem at_177_21 : ab_at 177 21 = some (.aload_n 0, 1) := rfl
theorem at_177_22 : ab_at 177 22 = some (.getfield 31, 3) := rfl
theorem at_177_25 : ab_at 177 25 = some (.iload_n 1, 1) := rfl
theorem at_177_26 : ab_at 177 26 = some (.laload, 1) := rfl
theorem at_177_27 : ab_at 177 27 = some (.goto 6, 3) := rfl
theorem at_177_30 : ab_at 177 30 = some (.ldc2_w 216, 3) := rfl
theorem at_177_33 : ab_at 177 33 = some (.lreturn, 1) := rfl
theorem at_178_0 : ab_at 178 0 = some (.iload_n 1, 1) := rfl
theorem at_178_1 : ab_at 178 1 = some (.i2l, 1) := rfl
theorem at_178_2 : ab_at 178 2 = some (.lconst 0, 1) := rfl
theorem at_178_3 : ab_at 178 3 = some (.ldc2_w 258, 3) := rfl
theorem at_178_6 : ab_at 178 6 = some (.invokestatic 71, 3) := rfl
theorem at_178_9 : ab_at 178 9 = some (.ifCond .ne 5, 3) := rfl
theorem at_178_12 : ab_at 178 12 = some (.iconst (-1), 1) := rfl
theorem at_178_13 : ab_at 178 13 = some (.ireturn, 1) := rfl
theorem at_178_14 : ab_at 178 14 = some (.aload_n 0, 1) := rfl
theorem at_178_15 : ab_at 178 15 = some (.getfield 159, 3) := rfl
theorem at_178_18 : ab_at 178 18 = some (.ifCond .ne 6, 3) := rfl
theorem at_178_21 : ab_at 178 21 = some (.bipush (-4), 2) := rfl
theorem at_178_23 : ab_at 178 23 = some (.ireturn, 1) := rfl
theorem at_178_24 : ab_at 178 24 = some (.iload_n 1, 1) := rfl
theorem at_178_25 : ab_at 178 25 = some (.ifCond .ne 10, 3) := rfl
theorem at_178_28 : ab_at 178 28 = some (.aload_n 0, 1) := rfl
theorem at_178_29 : ab_at 178 29 = some (.getfield 243, 3) := rfl
theorem at_178_32 : ab_at 178 32 = some (.goto 27, 3) := rfl
theorem at_178_35 : ab_at 178 35 = some (.iload_n 1, 1) := rfl
theorem at_178_36 : ab_at 178 36 = some (.iconst 1, 1) := rfl
theorem at_178_37 : ab_at 178 37 = some (.if_icmp .ne 10, 3) := rfl
theorem at_178_40 : ab_at 178 40 = some (.aload_n 0, 1) := rfl
theorem at_178_41 : ab_at 178 41 = some (.getfield 246, 3) := rfl
theorem at_178_44 : ab_at 178 44 = some (.goto 15, 3) := rfl
theorem at_178_47 : ab_at 178 47 = some (.aload_n 0, 1) := rfl
theorem at_178_48 : ab_at 178 48 = some (.getfield 249, 3) := rfl
theorem at_178_51 : ab_at 178 51 = some (.ifCond .eq 7, 3) := rfl
theorem at_178_54 : ab_at 178 54 = some (.iconst 1, 1) := rfl
theorem at_178_55 : ab_at 178 55 = some (.goto 4, 3) := rfl
theorem at_178_58 : ab_at 178 58 = some (.iconst 0, 1) := rfl
theorem at_178_59 : ab_at 178 59 = some (.ireturn, 1) := rfl
theorem at_179_0 : ab_at 179 0 = some (.aload_n 0, 1) := rfl
theorem at_179_1 : ab_at 179 1 = some (.getfield 7, 3) := rfl
theorem at_179_4 : ab_at 179 4 = some (.bipush 36, 2) := rfl
theorem at_179_6 : ab_at 179 6 = some (.iload_n 1, 1) := rfl
theorem at_179_7 : ab_at 179 7 = some (.iadd, 1) := rfl
theorem at_179_8 : ab_at 179 8 = some (.iaload, 1) := rfl
theorem at_179_9 : ab_at 179 9 = some (.istore_n 3, 1) := rfl
theorem at_179_10 : ab_at 179 10 = some (.iload_n 3, 1) := rfl
theorem at_179_11 : ab_at 179 11 = some (.aload_n 0, 1) := rfl
theorem at_179_12 : ab_at 179 12 = some (.getfield 7, 3) := rfl
theorem at_179_15 : ab_at 179 15 = some (.bipush 36, 2) := rfl
theorem at_179_17 : ab_at 179 17 = some (.iload_n 2, 1) := rfl
theorem at_179_18 : ab_at 179 18 = some (.iadd, 1) := rfl
theorem at_179_19 : ab_at 179 19 = some (.iaload, 1) := rfl
theorem at_179_20 : ab_at 179 20 = some (.if_icmp .ne 9, 3) := rfl
theorem at_179_23 : ab_at 179 23 = some (.iload_n 3, 1) := rfl
theorem at_179_24 : ab_at 179 24 = some (.bipush 8, 2) := rfl
theorem at_179_26 : ab_at 179 26 = some (.if_icmp .ne 14, 3) := rfl
theorem at_179_29 : ab_at 179 29 = some (.iload_n 1, 1) := rfl
theorem at_179_30 : ab_at 179 30 = some (.iload_n 2, 1) := rfl
theorem at_179_31 : ab_at 179 31 = some (.if_icmp .ne 7, 3) := rfl
theorem at_179_34 : ab_at 179 34 = some (.iconst 1, 1) := rfl
theorem at_179_35 : ab_at 179 35 = some (.goto 4, 3) := rfl
theorem at_179_38 : ab_at 179 38 = some (.iconst 0, 1) := rfl
theorem at_179_39 : ab_at 179 39 = some (.ireturn, 1) := rfl
theorem at_179_40 : ab_at 179 40 = some (.iload_n 3, 1) := rfl
theorem at_179_41 : ab_at 179 41 = some (.iconst 2, 1) := rfl
theorem at_179_42 : ab_at 179 42 = some (.if_icmp .ge 32, 3) := rfl
theorem at_179_45 : ab_at 179 45 = some (.aload_n 0, 1) := rfl
theorem at_179_46 : ab_at 179 46 = some (.getfield 7, 3) := rfl
theorem at_179_49 : ab_at 179 49 = some (.bipush 96, 2) := rfl
theorem at_179_51 : ab_at 179 51 = some (.iload_n 1, 1) := rfl
theorem at_179_52 : ab_at 179 52 = some (.iadd, 1) := rfl
theorem at_179_53 : ab_at 179 53 = some (.iaload, 1) := rfl
theorem at_179_54 : ab_at 179 54 = some (.aload_n 0, 1) := rfl
theorem at_179_55 : ab_at 179 55 = some (.getfield 7, 3) := rfl
theorem at_179_58 : ab_at 179 58 = some (.bipush 96, 2) := rfl
theorem at_179_60 : ab_at 179 60 = some (.iload_n 2, 1) := rfl
theorem at_179_61 : ab_at 179 61 = some (.iadd, 1) := rfl
theorem at_179_62 : ab_at 179 62 = some (.iaload, 1) := rfl
theorem at_179_63 : ab_at 179 63 = some (.if_icmp .ne 7, 3) := rfl
theorem at_179_66 : ab_at 179 66 = some (.iconst 1, 1) := rfl
theorem at_179_67 : ab_at 179 67 = some (.goto 39, 3) := rfl
theorem at_179_70 : ab_at 179 70 = some (.iconst 0, 1) := rfl
theorem at_179_71 : ab_at 179 71 = some (.goto 35, 3) := rfl
theorem at_179_74 : ab_at 179 74 = some (.iload_n 3, 1) := rfl
theorem at_179_75 : ab_at 179 75 = some (.bipush 7, 2) := rfl
theorem at_179_77 : ab_at 179 77 = some (.if_icmp .ne 24, 3) := rfl
theorem at_179_80 : ab_at 179 80 = some (.aload_n 0, 1) := rfl
theorem at_179_81 : ab_at 179 81 = some (.getfield 7, 3) := rfl
theorem at_179_84 : ab_at 179 84 = some (.bipush 56, 2) := rfl
theorem at_179_86 : ab_at 179 86 = some (.iload_n 1, 1) := rfl
theorem at_179_87 : ab_at 179 87 = some (.iadd, 1) := rfl
theorem at_179_88 : ab_at 179 88 = some (.iaload, 1) := rfl
theorem at_179_89 : ab_at 179 89 = some (.aload_n 0, 1) := rfl
theorem at_179_90 : ab_at 179 90 = some (.getfield 7, 3) := rfl
theorem at_179_93 : ab_at 179 93 = some (.bipush 56, 2) := rfl
theorem at_179_95 : ab_at 179 95 = some (.iload_n 2, 1) := rfl
theorem at_179_96 : ab_at 179 96 = some (.iadd, 1) := rfl
theorem at_179_97 : ab_at 179 97 = some (.iaload, 1) := rfl
theorem at_179_98 : ab_at 179 98 = some (.if_icmp .ne 7, 3) := rfl
theorem at_179_101 : ab_at 179 101 = some (.iconst 1, 1) := rfl
theorem at_179_102 : ab_at 179 102 = some (.goto 4, 3) := rfl
theorem at_179_105 : ab_at 179 105 = some (.iconst 0, 1) := rfl
theorem at_179_106 : ab_at 179 106 = some (.ireturn, 1) := rfl
theorem at_180_0 : ab_at 180 0 = some (.aload_n 0, 1) := rfl
theorem at_180_1 : ab_at 180 1 = some (.getfield 41, 3) := rfl
theorem at_180_4 : ab_at 180 4 = some (.iload_n 1, 1) := rfl
theorem at_180_5 : ab_at 180 5 = some (.iaload, 1) := rfl
theorem at_180_6 : ab_at 180 6 = some (.aload_n 0, 1) := rfl
theorem at_180_7 : ab_at 180 7 = some (.getfield 41, 3) := rfl
theorem at_180_10 : ab_at 180 10 = some (.iload_n 2, 1) := rfl
theorem at_180_11 : ab_at 180 11 = some (.iaload, 1) := rfl
theorem at_180_12 : ab_at 180 12 = some (.if_icmp .eq 5, 3) := rfl
theorem at_180_15 : ab_at 180 15 = some (.iconst 0, 1) := rfl
theorem at_180_16 : ab_at 180 16 = some (.ireturn, 1) := rfl
theorem at_180_17 : ab_at 180 17 = some (.bipush 116, 2) := rfl
theorem at_180_19 : ab_at 180 19 = some (.bipush 6, 2) := rfl
theorem at_180_21 : ab_at 180 21 = some (.iload_n 1, 1) := rfl
theorem at_180_22 : ab_at 180 22 = some (.imul, 1) := rfl
theorem at_180_23 : ab_at 180 23 = some (.iadd, 1) := rfl
theorem at_180_24 : ab_at 180 24 = some (.istore_n 3, 1) := rfl
theorem at_180_25 : ab_at 180 25 = some (.bipush 116, 2) := rfl
theorem at_180_27 : ab_at 180 27 = some (.bipush 6, 2) := rfl
theorem at_180_29 : ab_at 180 29 = some (.iload_n 2, 1) := rfl
theorem at_180_30 : ab_at 180 30 = some (.imul, 1) := rfl
theorem at_180_31 : ab_at 180 31 = some (.iadd, 1) := rfl
theorem at_180_32 : ab_at 180 32 = some (.istore 4, 2) := rfl
theorem at_180_34 : ab_at 180 34 = some (.iconst 1, 1) := rfl
theorem at_180_35 : ab_at 180 35 = some (.istore 5, 2) := rfl
theorem at_180_37 : ab_at 180 37 = some (.iconst 0, 1) := rfl
theorem at_180_38 : ab_at 180 38 = some (.istore 6, 2) := rfl
theorem at_180_40 : ab_at 180 40 = some (.iload 6, 2) := rfl
theorem at_180_42 : ab_at 180 42 = some (.aload_n 0, 1) := rfl
theorem at_180_43 : ab_at 180 43 = some (.getfield 7, 3) := rfl
theorem at_180_46 : ab_at 180 46 = some (.bipush 76, 2) := rfl
theorem at_180_48 : ab_at 180 48 = some (.iload_n 1, 1) := rfl
theorem at_180_49 : ab_at 180 49 = some (.iadd, 1) := rfl
theorem at_180_50 : ab_at 180 50 = some (.iaload, 1) := rfl
theorem at_180_51 : ab_at 180 51 = some (.if_icmp .ge 53, 3) := rfl
theorem at_180_54 : ab_at 180 54 = some (.iload 5, 2) := rfl
theorem at_180_56 : ab_at 180 56 = some (.ifCond .eq 39, 3) := rfl
theorem at_180_59 : ab_at 180 59 = some (.aload_n 0, 1) := rfl
theorem at_180_60 : ab_at 180 60 = some (.getfield 41, 3) := rfl
theorem at_180_63 : ab_at 180 63 = some (.aload_n 0, 1) := rfl
theorem at_180_64 : ab_at 180 64 = some (.getfield 7, 3) := rfl
theorem at_180_67 : ab_at 180 67 = some (.iload_n 3, 1) := rfl
theorem at_180_68 : ab_at 180 68 = some (.iload 6, 2) := rfl
theorem at_180_70 : ab_at 180 70 = some (.iadd, 1) := rfl
theorem at_180_71 : ab_at 180 71 = some (.iaload, 1) := rfl
theorem at_180_72 : ab_at 180 72 = some (.iaload, 1) := rfl
theorem at_180_73 : ab_at 180 73 = some (.aload_n 0, 1) := rfl
theorem at_180_74 : ab_at 180 74 = some (.getfield 41, 3) := rfl
theorem at_180_77 : ab_at 180 77 = some (.aload_n 0, 1) := rfl
theorem at_180_78 : ab_at 180 78 = some (.getfield 7, 3) := rfl
theorem at_180_81 : ab_at 180 81 = some (.iload 4, 2) := rfl
theorem at_180_83 : ab_at 180 83 = some (.iload 6, 2) := rfl
theorem at_180_85 : ab_at 180 85 = some (.iadd, 1) := rfl
theorem at_180_86 : ab_at 180 86 = some (.iaload, 1) := rfl
theorem at_180_87 : ab_at 180 87 = some (.iaload, 1) := rfl
theorem at_180_88 : ab_at 180 88 = some (.if_icmp .ne 7, 3) := rfl
theorem at_180_91 : ab_at 180 91 = some (.iconst 1, 1) := rfl
theorem at_180_92 : ab_at 180 92 = some (.goto 4, 3) := rfl
theorem at_180_95 : ab_at 180 95 = some (.iconst 0, 1) := rfl
theorem at_180_96 : ab_at 180 96 = some (.istore 5, 2) := rfl
theorem at_180_98 : ab_at 180 98 = some (.iinc 6 1, 3) := rfl
theorem at_180_101 : ab_at 180 101 = some (.goto (-61), 3) := rfl
theorem at_180_104 : ab_at 180 104 = some (.aload_n 0, 1) := rfl
theorem at_180_105 : ab_at 180 105 = some (.getfield 7, 3) := rfl
theorem at_180_108 : ab_at 180 108 = some (.bipush 36, 2) := rfl
theorem at_180_110 : ab_at 180 110 = some (.iload_n 1, 1) := rfl
theorem at_180_111 : ab_at 180 111 = some (.iadd, 1) := rfl
theorem at_180_112 : ab_at 180 112 = some (.iaload, 1) := rfl
theorem at_180_113 : ab_at 180 113 = some (.iconst 2, 1) := rfl
theorem at_180_114 : ab_at 180 114 = some (.if_icmp .eq 16, 3) := rfl
theorem at_180_117 : ab_at 180 117 = some (.aload_n 0, 1) := rfl
theorem at_180_118 : ab_at 180 118 = some (.getfield 7, 3) := rfl
theorem at_180_121 : ab_at 180 121 = some (.bipush 36, 2) := rfl
theorem at_180_123 : ab_at 180 123 = some (.iload_n 1, 1) := rfl
theorem at_180_124 : ab_at 180 124 = some (.iadd, 1) := rfl
theorem at_180_125 : ab_at 180 125 = some (.iaload, 1) := rfl
theorem at_180_126 : ab_at 180 126 = some (.iconst 3, 1) := rfl
theorem at_180_127 : ab_at 180 127 = some (.if_icmp .ne 7, 3) := rfl
theorem at_180_130 : ab_at 180 130 = some (.iconst 1, 1) := rfl
theorem at_180_131 : ab_at 180 131 = some (.goto 4, 3) := rfl
theorem at_180_134 : ab_at 180 134 = some (.iconst 0, 1) := rfl
theorem at_180_135 : ab_at 180 135 = some (.istore 6, 2) := rfl
theorem at_180_137 : ab_at 180 137 = some (.iload 5, 2) := rfl
theorem at_180_139 : ab_at 180 139 = some (.ifCond .ne 64, 3) := rfl
theorem at_180_142 : ab_at 180 142 = some (.iload 6, 2) := rfl
theorem at_180_144 : ab_at 180 144 = some (.ifCond .eq 63, 3) := rfl
theorem at_180_147 : ab_at 180 147 = some (.aload_n 0, 1) := rfl
theorem at_180_148 : ab_at 180 148 = some (.getfield 41, 3) := rfl
theorem at_180_151 : ab_at 180 151 = some (.aload_n 0, 1) := rfl
theorem at_180_152 : ab_at 180 152 = some (.getfield 7, 3) := rfl
theorem at_180_155 : ab_at 180 155 = some (.iload_n 3, 1) := rfl
theorem at_180_156 : ab_at 180 156 = some (.iaload, 1) := rfl
theorem at_180_157 : ab_at 180 157 = some (.iaload, 1) := rfl
theorem at_180_158 : ab_at 180 158 = some (.aload_n 0, 1) := rfl
theorem at_180_159 : ab_at 180 159 = some (.getfield 41, 3) := rfl
theorem at_180_162 : ab_at 180 162 = some (.aload_n 0, 1) := rfl
theorem at_180_163 : ab_at 180 163 = some (.getfield 7, 3) := rfl
theorem at_180_166 : ab_at 180 166 = some (.iload 4, 2) := rfl
theorem at_180_168 : ab_at 180 168 = some (.iconst 1, 1) := rfl
theorem at_180_169 : ab_at 180 169 = some (.iadd, 1) := rfl
theorem at_180_170 : ab_at 180 170 = some (.iaload, 1) := rfl
theorem at_180_171 : ab_at 180 171 = some (.iaload, 1) := rfl
theorem at_180_172 : ab_at 180 172 = some (.if_icmp .ne 35, 3) := rfl
theorem at_180_175 : ab_at 180 175 = some (.aload_n 0, 1) := rfl
theorem at_180_176 : ab_at 180 176 = some (.getfield 41, 3) := rfl
theorem at_180_179 : ab_at 180 179 = some (.aload_n 0, 1) := rfl
theorem at_180_180 : ab_at 180 180 = some (.getfield 7, 3) := rfl
theorem at_180_183 : ab_at 180 183 = some (.iload_n 3, 1) := rfl
theorem at_180_184 : ab_at 180 184 = some (.iconst 1, 1) := rfl
theorem at_180_185 : ab_at 180 185 = some (.iadd, 1) := rfl
theorem at_180_186 : ab_at 180 186 = some (.iaload, 1) := rfl
theorem at_180_187 : ab_at 180 187 = some (.iaload, 1) := rfl
theorem at_180_188 : ab_at 180 188 = some (.aload_n 0, 1) := rfl
theorem at_180_189 : ab_at 180 189 = some (.getfield 41, 3) := rfl
theorem at_180_192 : ab_at 180 192 = some (.aload_n 0, 1) := rfl
theorem at_180_193 : ab_at 180 193 = some (.getfield 7, 3) := rfl
theorem at_180_196 : ab_at 180 196 = some (.iload 4, 2) := rfl
theorem at_180_198 : ab_at 180 198 = some (.iaload, 1) := rfl
theorem at_180_199 : ab_at 180 199 = some (.iaload, 1) := rfl
theorem at_180_200 : ab_at 180 200 = some (.if_icmp .ne 7, 3) := rfl
theorem at_180_203 : ab_at 180 203 = some (.iconst 1, 1) := rfl
theorem at_180_204 : ab_at 180 204 = some (.goto 4, 3) := rfl
theorem at_180_207 : ab_at 180 207 = some (.iconst 0, 1) := rfl
theorem at_180_208 : ab_at 180 208 = some (.ireturn, 1) := rfl
theorem at_181_0 : ab_at 181 0 = some (.iconst 0, 1) := rfl
theorem at_181_1 : ab_at 181 1 = some (.istore_n 1, 1) := rfl
theorem at_181_2 : ab_at 181 2 = some (.iconst 0, 1) := rfl
theorem at_181_3 : ab_at 181 3 = some (.istore_n 2, 1) := rfl
theorem at_181_4 : ab_at 181 4 = some (.iload_n 2, 1) := rfl
theorem at_181_5 : ab_at 181 5 = some (.aload_n 0, 1) := rfl
theorem at_181_6 : ab_at 181 6 = some (.getfield 7, 3) := rfl
theorem at_181_9 : ab_at 181 9 = some (.sipush 237, 3) := rfl
theorem at_181_12 : ab_at 181 12 = some (.iaload, 1) := rfl
theorem at_181_13 : ab_at 181 13 = some (.if_icmp .ge 53, 3) := rfl
theorem at_181_16 : ab_at 181 16 = some (.iconst 0, 1) := rfl
theorem at_181_17 : ab_at 181 17 = some (.istore_n 3, 1) := rfl
theorem at_181_18 : ab_at 181 18 = some (.aload_n 0, 1) := rfl
theorem at_181_19 : ab_at 181 19 = some (.iload_n 2, 1) := rfl
theorem at_181_20 : ab_at 181 20 = some (.iload_n 3, 1) := rfl
theorem at_181_21 : ab_at 181 21 = some (.invokevirtual 260, 3) := rfl
theorem at_181_24 : ab_at 181 24 = some (.ifCond .ne 9, 3) := rfl
theorem at_181_27 : ab_at 181 27 = some (.iinc 3 1, 3) := rfl
theorem at_181_30 : ab_at 181 30 = some (.goto (-12), 3) := rfl
theorem at_181_33 : ab_at 181 33 = some (.aload_n 0, 1) := rfl
theorem at_181_34 : ab_at 181 34 = some (.getfield 44, 3) := rfl
theorem at_181_37 : ab_at 181 37 = some (.iload_n 2, 1) := rfl
theorem at_181_38 : ab_at 181 38 = some (.iload_n 3, 1) := rfl
theorem at_181_39 : ab_at 181 39 = some (.iastore, 1) := rfl
theorem at_181_40 : ab_at 181 40 = some (.iload_n 1, 1) := rfl
theorem at_181_41 : ab_at 181 41 = some (.ifCond .ne 13, 3) := rfl
theorem at_181_44 : ab_at 181 44 = some (.iload_n 3, 1) := rfl
theorem at_181_45 : ab_at 181 45 = some (.aload_n 0, 1) := rfl
theorem at_181_46 : ab_at 181 46 = some (.getfield 41, 3) := rfl
theorem at_181_49 : ab_at 181 49 = some (.iload_n 2, 1) := rfl
theorem at_181_50 : ab_at 181 50 = some (.iaload, 1) := rfl
theorem at_181_51 : ab_at 181 51 = some (.if_icmp .eq 7, 3) := rfl
theorem at_181_54 : ab_at 181 54 = some (.iconst 1, 1) := rfl
theorem at_181_55 : ab_at 181 55 = some (.goto 4, 3) := rfl
theorem at_181_58 : ab_at 181 58 = some (.iconst 0, 1) := rfl
theorem at_181_59 : ab_at 181 59 = some (.istore_n 1, 1) := rfl
theorem at_181_60 : ab_at 181 60 = some (.iinc 2 1, 3) := rfl
theorem at_181_63 : ab_at 181 63 = some (.goto (-59), 3) := rfl
theorem at_181_66 : ab_at 181 66 = some (.iconst 0, 1) := rfl
theorem at_181_67 : ab_at 181 67 = some (.istore_n 2, 1) := rfl
theorem at_181_68 : ab_at 181 68 = some (.iload_n 2, 1) := rfl
theorem at_181_69 : ab_at 181 69 = some (.aload_n 0, 1) := rfl
theorem at_181_70 : ab_at 181 70 = some (.getfield 7, 3) := rfl
theorem at_181_73 : ab_at 181 73 = some (.sipush 237, 3) := rfl
theorem at_181_76 : ab_at 181 76 = some (.iaload, 1) := rfl
theorem at_181_77 : ab_at 181 77 = some (.if_icmp .ge 21, 3) := rfl
theorem at_181_80 : ab_at 181 80 = some (.aload_n 0, 1) := rfl
theorem at_181_81 : ab_at 181 81 = some (.getfield 41, 3) := rfl
theorem at_181_84 : ab_at 181 84 = some (.iload_n 2, 1) := rfl
theorem at_181_85 : ab_at 181 85 = some (.aload_n 0, 1) := rfl
theorem at_181_86 : ab_at 181 86 = some (.getfield 44, 3) := rfl
theorem at_181_89 : ab_at 181 89 = some (.iload_n 2, 1) := rfl
theorem at_181_90 : ab_at 181 90 = some (.iaload, 1) := rfl
theorem at_181_91 : ab_at 181 91 = some (.iastore, 1) := rfl
theorem at_181_92 : ab_at 181 92 = some (.iinc 2 1, 3) := rfl
theorem at_181_95 : ab_at 181 95 = some (.goto (-27), 3) := rfl
theorem at_181_98 : ab_at 181 98 = some (.iload_n 1, 1) := rfl
theorem at_181_99 : ab_at 181 99 = some (.ireturn, 1) := rfl
theorem at_182_0 : ab_at 182 0 = some (.iconst 0, 1) := rfl
theorem at_182_1 : ab_at 182 1 = some (.istore_n 2, 1) := rfl
theorem at_182_2 : ab_at 182 2 = some (.iload_n 2, 1) := rfl
theorem at_182_3 : ab_at 182 3 = some (.aload_n 0, 1) := rfl
theorem at_182_4 : ab_at 182 4 = some (.getfield 7, 3) := rfl
theorem at_182_7 : ab_at 182 7 = some (.sipush 237, 3) := rfl
theorem at_182_10 : ab_at 182 10 = some (.iaload, 1) := rfl
theorem at_182_11 : ab_at 182 11 = some (.if_icmp .ge 33, 3) := rfl
theorem at_182_14 : ab_at 182 14 = some (.iconst 0, 1) := rfl
theorem at_182_15 : ab_at 182 15 = some (.istore_n 3, 1) := rfl
theorem at_182_16 : ab_at 182 16 = some (.aload_n 0, 1) := rfl
theorem at_182_17 : ab_at 182 17 = some (.iload_n 2, 1) := rfl
theorem at_182_18 : ab_at 182 18 = some (.iload_n 3, 1) := rfl
theorem at_182_19 : ab_at 182 19 = some (.invokevirtual 263, 3) := rfl
theorem at_182_22 : ab_at 182 22 = some (.ifCond .ne 9, 3) := rfl
theorem at_182_25 : ab_at 182 25 = some (.iinc 3 1, 3) := rfl
theorem at_182_28 : ab_at 182 28 = some (.goto (-12), 3) := rfl
theorem at_182_31 : ab_at 182 31 = some (.aload_n 0, 1) := rfl
theorem at_182_32 : ab_at 182 32 = some (.getfield 41, 3) := rfl
theorem at_182_35 : ab_at 182 35 = some (.iload_n 2, 1) := rfl
theorem at_182_36 : ab_at 182 36 = some (.iload_n 3, 1) := rfl
theorem at_182_37 : ab_at 182 37 = some (.iastore, 1) := rfl
theorem at_182_38 : ab_at 182 38 = some (.iinc 2 1, 3) := rfl
theorem at_182_41 : ab_at 182 41 = some (.goto (-39), 3) := rfl
theorem at_182_44 : ab_at 182 44 = some (.iconst 0, 1) := rfl
theorem at_182_45 : ab_at 182 45 = some (.istore_n 2, 1) := rfl
theorem at_182_46 : ab_at 182 46 = some (.iload_n 2, 1) := rfl
theorem at_182_47 : ab_at 182 47 = some (.iload_n 1, 1) := rfl
theorem at_182_48 : ab_at 182 48 = some (.if_icmp .ge 16, 3) := rfl
theorem at_182_51 : ab_at 182 51 = some (.aload_n 0, 1) := rfl
theorem at_182_52 : ab_at 182 52 = some (.invokevirtual 266, 3) := rfl
theorem at_182_55 : ab_at 182 55 = some (.ifCond .eq 9, 3) := rfl
theorem at_182_58 : ab_at 182 58 = some (.iinc 2 1, 3) := rfl
theorem at_182_61 : ab_at 182 61 = some (.goto (-15), 3) := rfl
theorem at_182_64 : ab_at 182 64 = some (.iload_n 2, 1) := rfl
theorem at_182_65 : ab_at 182 65 = some (.ireturn, 1) := rfl
theorem at_183_0 : ab_at 183 0 = some (.aload_n 0, 1) := rfl
theorem at_183_1 : ab_at 183 1 = some (.bipush 100, 2) := rfl
theorem at_183_3 : ab_at 183 3 = some (.invokevirtual 269, 3) := rfl
theorem at_183_6 : ab_at 183 6 = some (.istore_n 2, 1) := rfl
theorem at_183_7 : ab_at 183 7 = some (.iconst 0, 1) := rfl
theorem at_183_8 : ab_at 183 8 = some (.istore_n 3, 1) := rfl
theorem at_183_9 : ab_at 183 9 = some (.iconst 0, 1) := rfl
theorem at_183_10 : ab_at 183 10 = some (.istore 4, 2) := rfl
theorem at_183_12 : ab_at 183 12 = some (.iconst 0, 1) := rfl
theorem at_183_13 : ab_at 183 13 = some (.istore 5, 2) := rfl
theorem at_183_15 : ab_at 183 15 = some (.iload 5, 2) := rfl
theorem at_183_17 : ab_at 183 17 = some (.aload_n 0, 1) := rfl
theorem at_183_18 : ab_at 183 18 = some (.getfield 7, 3) := rfl
theorem at_183_21 : ab_at 183 21 = some (.sipush 237, 3) := rfl
theorem at_183_24 : ab_at 183 24 = some (.iaload, 1) := rfl
theorem at_183_25 : ab_at 183 25 = some (.if_icmp .ge 100, 3) := rfl
theorem at_183_28 : ab_at 183 28 = some (.iconst 0, 1) := rfl
theorem at_183_29 : ab_at 183 29 = some (.istore 6, 2) := rfl
theorem at_183_31 : ab_at 183 31 = some (.iconst 0, 1) := rfl
theorem at_183_32 : ab_at 183 32 = some (.istore 7, 2) := rfl
theorem at_183_34 : ab_at 183 34 = some (.iload 7, 2) := rfl
theorem at_183_36 : ab_at 183 36 = some (.aload_n 0, 1) := rfl
theorem at_183_37 : ab_at 183 37 = some (.getfield 7, 3) := rfl
theorem at_183_40 : ab_at 183 40 = some (.sipush 237, 3) := rfl
theorem at_183_43 : ab_at 183 43 = some (.iaload, 1) := rfl
theorem at_183_44 : ab_at 183 44 = some (.if_icmp .ge 46, 3) := rfl
theorem at_183_47 : ab_at 183 47 = some (.aload_n 0, 1) := rfl
theorem at_183_48 : ab_at 183 48 = some (.getfield 7, 3) := rfl
theorem at_183_51 : ab_at 183 51 = some (.bipush 36, 2) := rfl
theorem at_183_53 : ab_at 183 53 = some (.iload 5, 2) := rfl
theorem at_183_55 : ab_at 183 55 = some (.iadd, 1) := rfl
theorem at_183_56 : ab_at 183 56 = some (.iaload, 1) := rfl
theorem at_183_57 : ab_at 183 57 = some (.bipush 8, 2) := rfl
theorem at_183_59 : ab_at 183 59 = some (.if_icmp .eq 31, 3) := rfl
theorem at_183_62 : ab_at 183 62 = some (.iload 6, 2) := rfl
theorem at_183_64 : ab_at 183 64 = some (.aload_n 0, 1) := rfl
theorem at_183_65 : ab_at 183 65 = some (.getfield 41, 3) := rfl
theorem at_183_68 : ab_at 183 68 = some (.iload 7, 2) := rfl
theorem at_183_70 : ab_at 183 70 = some (.iaload, 1) := rfl
theorem at_183_71 : ab_at 183 71 = some (.iload 5, 2) := rfl
theorem at_183_73 : ab_at 183 73 = some (.if_icmp .ne 7, 3) := rfl
theorem at_183_76 : ab_at 183 76 = some (.iconst 1, 1) := rfl
theorem at_183_77 : ab_at 183 77 = some (.goto 4, 3) := rfl
theorem at_183_80 : ab_at 183 80 = some (.iconst 0, 1) := rfl
theorem at_183_81 : ab_at 183 81 = some (.iadd, 1) := rfl
theorem at_183_82 : ab_at 183 82 = some (.istore 6, 2) := rfl
theorem at_183_84 : ab_at 183 84 = some (.iinc 7 1, 3) := rfl
theorem at_183_87 : ab_at 183 87 = some (.goto (-53), 3) := rfl
theorem at_183_90 : ab_at 183 90 = some (.iload_n 3, 1) := rfl
theorem at_183_91 : ab_at 183 91 = some (.iload 6, 2) := rfl
theorem at_183_93 : ab_at 183 93 = some (.ifCond .le 7, 3) := rfl
theorem at_183_96 : ab_at 183 96 = some (.iconst 1, 1) := rfl
theorem at_183_97 : ab_at 183 97 = some (.goto 4, 3) := rfl
theorem at_183_100 : ab_at 183 100 = some (.iconst 0, 1) := rfl
theorem at_183_101 : ab_at 183 101 = some (.iadd, 1) := rfl
theorem at_183_102 : ab_at 183 102 = some (.istore_n 3, 1) := rfl
theorem at_183_103 : ab_at 183 103 = some (.iload 6, 2) := rfl
theorem at_183_105 : ab_at 183 105 = some (.iload 4, 2) := rfl
theorem at_183_107 : ab_at 183 107 = some (.if_icmp .le 8, 3) := rfl
theorem at_183_110 : ab_at 183 110 = some (.iload 6, 2) := rfl
theorem at_183_112 : ab_at 183 112 = some (.goto 5, 3) := rfl
theorem at_183_115 : ab_at 183 115 = some (.iload 4, 2) := rfl
theorem at_183_117 : ab_at 183 117 = some (.istore 4, 2) := rfl
theorem at_183_119 : ab_at 183 119 = some (.iinc 5 1, 3) := rfl
theorem at_183_122 : ab_at 183 122 = some (.goto (-107), 3) := rfl
theorem at_183_125 : ab_at 183 125 = some (.iload_n 1, 1) := rfl
theorem at_183_126 : ab_at 183 126 = some (.ifCond .ne 7, 3) := rfl
theorem at_183_129 : ab_at 183 129 = some (.iload_n 3, 1) := rfl
theorem at_183_130 : ab_at 183 130 = some (.goto 23, 3) := rfl
theorem at_183_133 : ab_at 183 133 = some (.iload_n 1, 1) := rfl
theorem at_183_134 : ab_at 183 134 = some (.iconst 1, 1) := rfl
theorem at_183_135 : ab_at 183 135 = some (.if_icmp .ne 7, 3) := rfl
theorem at_183_138 : ab_at 183 138 = some (.iload_n 2, 1) := rfl
theorem at_183_139 : ab_at 183 139 = some (.goto 14, 3) := rfl
theorem at_183_142 : ab_at 183 142 = some (.iload_n 1, 1) := rfl
theorem at_183_143 : ab_at 183 143 = some (.iconst 2, 1) := rfl
theorem at_183_144 : ab_at 183 144 = some (.if_icmp .ne 8, 3) := rfl
theorem at_183_147 : ab_at 183 147 = some (.iload 4, 2) := rfl
theorem at_183_149 : ab_at 183 149 = some (.goto 4, 3) := rfl
theorem at_183_152 : ab_at 183 152 = some (.iconst (-1), 1) := rfl
theorem at_183_153 : ab_at 183 153 = some (.ireturn, 1) := rfl
theorem at_184_0 : ab_at 184 0 = some (.aload_n 0, 1) := rfl
theorem at_184_1 : ab_at 184 1 = some (.iload_n 1, 1) := rfl
theorem at_184_2 : ab_at 184 2 = some (.bipush 100, 2) := rfl
theorem at_184_4 : ab_at 184 4 = some (.invokevirtual 272, 3) := rfl
theorem at_184_7 : ab_at 184 7 = some (.ireturn, 1) := rfl
theorem at_185_0 : ab_at 185 0 = some (.aload_n 0, 1) := rfl
theorem at_185_1 : ab_at 185 1 = some (.iload_n 1, 1) := rfl
theorem at_185_2 : ab_at 185 2 = some (.invokevirtual 201, 3) := rfl
theorem at_185_5 : ab_at 185 5 = some (.ifCond .eq 15, 3) := rfl
theorem at_185_8 : ab_at 185 8 = some (.iload_n 2, 1) := rfl
theorem at_185_9 : ab_at 185 9 = some (.i2l, 1) := rfl
theorem at_185_10 : ab_at 185 10 = some (.lconst 0, 1) := rfl
theorem at_185_11 : ab_at 185 11 = some (.ldc2_w 275, 3) := rfl
theorem at_185_14 : ab_at 185 14 = some (.invokestatic 71, 3) := rfl
theorem at_185_17 : ab_at 185 17 = some (.ifCond .ne 5, 3) := rfl
theorem at_185_20 : ab_at 185 20 = some (.iconst (-1), 1) := rfl
theorem at_185_21 : ab_at 185 21 = some (.ireturn, 1) := rfl
theorem at_185_22 : ab_at 185 22 = some (.aload_n 0, 1) := rfl
theorem at_185_23 : ab_at 185 23 = some (.iload_n 2, 1) := rfl
theorem at_185_24 : ab_at 185 24 = some (.invokevirtual 269, 3) := rfl
theorem at_185_27 : ab_at 185 27 = some (.pop, 1) := rfl
theorem at_185_28 : ab_at 185 28 = some (.aload_n 0, 1) := rfl
theorem at_185_29 : ab_at 185 29 = some (.getfield 41, 3) := rfl
theorem at_185_32 : ab_at 185 32 = some (.iload_n 1, 1) := rfl
theorem at_185_33 : ab_at 185 33 = some (.iaload, 1) := rfl
theorem at_185_34 : ab_at 185 34 = some (.ireturn, 1) := rfl
theorem at_186_0 : ab_at 186 0 = some (.aload_n 0, 1) := rfl
theorem at_186_1 : ab_at 186 1 = some (.getfield 41, 3) := rfl
theorem at_186_4 : ab_at 186 4 = some (.iload_n 1, 1) := rfl
theorem at_186_5 : ab_at 186 5 = some (.iaload, 1) := rfl
theorem at_186_6 : ab_at 186 6 = some (.aload_n 0, 1) := rfl
theorem at_186_7 : ab_at 186 7 = some (.getfield 41, 3) := rfl
theorem at_186_10 : ab_at 186 10 = some (.iload_n 2, 1) := rfl
theorem at_186_11 : ab_at 186 11 = some (.iaload, 1) := rfl
theorem at_186_12 : ab_at 186 12 = some (.if_icmp .ne 22, 3) := rfl
theorem at_186_15 : ab_at 186 15 = some (.iload_n 1, 1) := rfl
theorem at_186_16 : ab_at 186 16 = some (.iload_n 2, 1) := rfl
theorem at_186_17 : ab_at 186 17 = some (.if_icmp .eq 13, 3) := rfl
theorem at_186_20 : ab_at 186 20 = some (.aload_n 0, 1) := rfl
theorem at_186_21 : ab_at 186 21 = some (.iconst 0, 1) := rfl
theorem at_186_22 : ab_at 186 22 = some (.iload_n 1, 1) := rfl
theorem at_186_23 : ab_at 186 23 = some (.iload_n 2, 1) := rfl
theorem at_186_24 : ab_at 186 24 = some (.invokevirtual 174, 3) := rfl
theorem at_186_27 : ab_at 186 27 = some (.ifCond .eq 7, 3) := rfl
theorem at_186_30 : ab_at 186 30 = some (.iconst 1, 1) := rfl
theorem at_186_31 : ab_at 186 31 = some (.goto 4, 3) := rfl
theorem at_186_34 : ab_at 186 34 = some (.iconst 0, 1) := rfl
theorem at_186_35 : ab_at 186 35 = some (.ireturn, 1) := rfl
theorem at_187_0 : ab_at 187 0 = some (.iconst 0, 1) := rfl
theorem at_187_1 : ab_at 187 1 = some (.istore_n 2, 1) := rfl
theorem at_187_2 : ab_at 187 2 = some (.iload_n 2, 1) := rfl
theorem at_187_3 : ab_at 187 3 = some (.aload_n 0, 1) := rfl
theorem at_187_4 : ab_at 187 4 = some (.getfield 7, 3) := rfl
theorem at_187_7 : ab_at 187 7 = some (.sipush 237, 3) := rfl
theorem at_187_10 : ab_at 187 10 = some (.iaload, 1) := rfl
theorem at_187_11 : ab_at 187 11 = some (.if_icmp .ge 81, 3) := rfl
theorem at_187_14 : ab_at 187 14 = some (.aload_n 0, 1) := rfl
theorem at_187_15 : ab_at 187 15 = some (.iload_n 2, 1) := rfl
theorem at_187_16 : ab_at 187 16 = some (.iload_n 1, 1) := rfl
theorem at_187_17 : ab_at 187 17 = some (.invokevirtual 277, 3) := rfl
theorem at_187_20 : ab_at 187 20 = some (.istore_n 3, 1) := rfl
theorem at_187_21 : ab_at 187 21 = some (.iconst 0, 1) := rfl
theorem at_187_22 : ab_at 187 22 = some (.istore 4, 2) := rfl
theorem at_187_24 : ab_at 187 24 = some (.iload_n 3, 1) := rfl
theorem at_187_25 : ab_at 187 25 = some (.ifCond .eq 55, 3) := rfl
theorem at_187_28 : ab_at 187 28 = some (.iload 4, 2) := rfl
theorem at_187_30 : ab_at 187 30 = some (.aload_n 0, 1) := rfl
theorem at_187_31 : ab_at 187 31 = some (.getfield 7, 3) := rfl
theorem at_187_34 : ab_at 187 34 = some (.sipush 237, 3) := rfl
theorem at_187_37 : ab_at 187 37 = some (.iaload, 1) := rfl
theorem at_187_38 : ab_at 187 38 = some (.if_icmp .ge 42, 3) := rfl
theorem at_187_41 : ab_at 187 41 = some (.iload 4, 2) := rfl
theorem at_187_43 : ab_at 187 43 = some (.iload_n 2, 1) := rfl
theorem at_187_44 : ab_at 187 44 = some (.if_icmp .eq 24, 3) := rfl
theorem at_187_47 : ab_at 187 47 = some (.aload_n 0, 1) := rfl
theorem at_187_48 : ab_at 187 48 = some (.iload 4, 2) := rfl
theorem at_187_50 : ab_at 187 50 = some (.iload_n 1, 1) := rfl
theorem at_187_51 : ab_at 187 51 = some (.invokevirtual 277, 3) := rfl
theorem at_187_54 : ab_at 187 54 = some (.ifCond .eq 14, 3) := rfl
theorem at_187_57 : ab_at 187 57 = some (.aload_n 0, 1) := rfl
theorem at_187_58 : ab_at 187 58 = some (.iconst 0, 1) := rfl
theorem at_187_59 : ab_at 187 59 = some (.iload_n 2, 1) := rfl
theorem at_187_60 : ab_at 187 60 = some (.iload 4, 2) := rfl
theorem at_187_62 : ab_at 187 62 = some (.invokevirtual 174, 3) := rfl
theorem at_187_65 : ab_at 187 65 = some (.ifCond .eq 7, 3) := rfl
theorem at_187_68 : ab_at 187 68 = some (.iconst 1, 1) := rfl
theorem at_187_69 : ab_at 187 69 = some (.goto 4, 3) := rfl
theorem at_187_72 : ab_at 187 72 = some (.iconst 0, 1) := rfl
theorem at_187_73 : ab_at 187 73 = some (.istore_n 3, 1) := rfl
theorem at_187_74 : ab_at 187 74 = some (.iinc 4 1, 3) := rfl
theorem at_187_77 : ab_at 187 77 = some (.goto (-53), 3) := rfl
theorem at_187_80 : ab_at 187 80 = some (.iload_n 3, 1) := rfl
theorem at_187_81 : ab_at 187 81 = some (.ifCond .eq 5, 3) := rfl
theorem at_187_84 : ab_at 187 84 = some (.iload_n 2, 1) := rfl
theorem at_187_85 : ab_at 187 85 = some (.ireturn, 1) := rfl
theorem at_187_86 : ab_at 187 86 = some (.iinc 2 1, 3) := rfl
theorem at_187_89 : ab_at 187 89 = some (.goto (-87), 3) := rfl
theorem at_187_92 : ab_at 187 92 = some (.iload_n 1, 1) := rfl
theorem at_187_93 : ab_at 187 93 = some (.ireturn, 1) := rfl
theorem at_188_0 : ab_at 188 0 = some (.aload_n 0, 1) := rfl
theorem at_188_1 : ab_at 188 1 = some (.iload_n 1, 1) := rfl
theorem at_188_2 : ab_at 188 2 = some (.invokevirtual 201, 3) := rfl
theorem at_188_5 : ab_at 188 5 = some (.ifCond .ne 5, 3) := rfl
theorem at_188_8 : ab_at 188 8 = some (.iconst (-1), 1) := rfl
theorem at_188_9 : ab_at 188 9 = some (.ireturn, 1) := rfl
theorem at_188_10 : ab_at 188 10 = some (.aload_n 0, 1) := rfl
theorem at_188_11 : ab_at 188 11 = some (.bipush 100, 2) := rfl
theorem at_188_13 : ab_at 188 13 = some (.invokevirtual 269, 3) := rfl
theorem at_188_16 : ab_at 188 16 = some (.pop, 1) := rfl
theorem at_188_17 : ab_at 188 17 = some (.aload_n 0, 1) := rfl
theorem at_188_18 : ab_at 188 18 = some (.iload_n 1, 1) := rfl
theorem at_188_19 : ab_at 188 19 = some (.invokevirtual 280, 3) := rfl
theorem at_188_22 : ab_at 188 22 = some (.ireturn, 1) := rfl
theorem at_189_0 : ab_at 189 0 = some (.aload_n 0, 1) := rfl
theorem at_189_1 : ab_at 189 1 = some (.getfield 47, 3) := rfl
theorem at_189_4 : ab_at 189 4 = some (.iload_n 1, 1) := rfl
theorem at_189_5 : ab_at 189 5 = some (.iaload, 1) := rfl
theorem at_189_6 : ab_at 189 6 = some (.aload_n 0, 1) := rfl
theorem at_189_7 : ab_at 189 7 = some (.getfield 47, 3) := rfl
theorem at_189_10 : ab_at 189 10 = some (.iload_n 2, 1) := rfl
theorem at_189_11 : ab_at 189 11 = some (.iaload, 1) := rfl
theorem at_189_12 : ab_at 189 12 = some (.if_icmp .ne 23, 3) := rfl
theorem at_189_15 : ab_at 189 15 = some (.aload_n 0, 1) := rfl
theorem at_189_16 : ab_at 189 16 = some (.getfield 50, 3) := rfl
theorem at_189_19 : ab_at 189 19 = some (.iload_n 1, 1) := rfl
theorem at_189_20 : ab_at 189 20 = some (.laload, 1) := rfl
theorem at_189_21 : ab_at 189 21 = some (.aload_n 0, 1) := rfl
theorem at_189_22 : ab_at 189 22 = some (.getfield 50, 3) := rfl
theorem at_189_25 : ab_at 189 25 = some (.iload_n 2, 1) := rfl
theorem at_189_26 : ab_at 189 26 = some (.laload, 1) := rfl
theorem at_189_27 : ab_at 189 27 = some (.lcmp, 1) := rfl
theorem at_189_28 : ab_at 189 28 = some (.ifCond .ne 7, 3) := rfl
theorem at_189_31 : ab_at 189 31 = some (.iconst 1, 1) := rfl
theorem at_189_32 : ab_at 189 32 = some (.goto 4, 3) := rfl
theorem at_189_35 : ab_at 189 35 = some (.iconst 0, 1) := rfl
theorem at_189_36 : ab_at 189 36 = some (.ireturn, 1) := rfl
theorem at_190_0 : ab_at 190 0 = some (.aload_n 0, 1) := rfl
theorem at_190_1 : ab_at 190 1 = some (.getfield 47, 3) := rfl
theorem at_190_4 : ab_at 190 4 = some (.iload_n 1, 1) := rfl
theorem at_190_5 : ab_at 190 5 = some (.iaload, 1) := rfl
theorem at_190_6 : ab_at 190 6 = some (.bipush (-4), 2) := rfl
theorem at_190_8 : ab_at 190 8 = some (.if_icmp .ne 18, 3) := rfl
theorem at_190_11 : ab_at 190 11 = some (.aload_n 0, 1) := rfl
theorem at_190_12 : ab_at 190 12 = some (.getfield 50, 3) := rfl
theorem at_190_15 : ab_at 190 15 = some (.iload_n 1, 1) := rfl
theorem at_190_16 : ab_at 190 16 = some (.laload, 1) := rfl
theorem at_190_17 : ab_at 190 17 = some (.lload_n 2, 1) := rfl
theorem at_190_18 : ab_at 190 18 = some (.lcmp, 1) := rfl
theorem at_190_19 : ab_at 190 19 = some (.ifCond .ne 7, 3) := rfl
theorem at_190_22 : ab_at 190 22 = some (.iconst 1, 1) := rfl
theorem at_190_23 : ab_at 190 23 = some (.goto 4, 3) := rfl
theorem at_190_26 : ab_at 190 26 = some (.iconst 0, 1) := rfl
theorem at_190_27 : ab_at 190 27 = some (.ireturn, 1) := rfl
theorem at_191_0 : ab_at 191 0 = some (.aload_n 0, 1) := rfl
theorem at_191_1 : ab_at 191 1 = some (.getfield 47, 3) := rfl
theorem at_191_4 : ab_at 191 4 = some (.iload_n 1, 1) := rfl
theorem at_191_5 : ab_at 191 5 = some (.iload_n 2, 1) := rfl
theorem at_191_6 : ab_at 191 6 = some (.iastore, 1) := rfl
theorem at_191_7 : ab_at 191 7 = some (.aload_n 0, 1) := rfl
theorem at_191_8 : ab_at 191 8 = some (.getfield 50, 3) := rfl
theorem at_191_11 : ab_at 191 11 = some (.iload_n 1, 1) := rfl
theorem at_191_12 : ab_at 191 12 = some (.lload_n 3, 1) := rfl
theorem at_191_13 : ab_at 191 13 = some (.lastore, 1) := rfl
theorem at_191_14 : ab_at 191 14 = some (.return_, 1) := rfl
theorem at_192_0 : ab_at 192 0 = some (.aload_n 0, 1) := rfl
theorem at_192_1 : ab_at 192 1 = some (.iload_n 1, 1) := rfl
theorem at_192_2 : ab_at 192 2 = some (.aload_n 0, 1) := rfl
theorem at_192_3 : ab_at 192 3 = some (.getfield 47, 3) := rfl
theorem at_192_6 : ab_at 192 6 = some (.iload_n 2, 1) := rfl
theorem at_192_7 : ab_at 192 7 = some (.iaload, 1) := rfl
theorem at_192_8 : ab_at 192 8 = some (.aload_n 0, 1) := rfl
theorem at_192_9 : ab_at 192 9 = some (.getfield 50, 3) := rfl
theorem at_192_12 : ab_at 192 12 = some (.iload_n 2, 1) := rfl
theorem at_192_13 : ab_at 192 13 = some (.laload, 1) := rfl
theorem at_192_14 : ab_at 192 14 = some (.invokevirtual 283, 3) := rfl
theorem at_192_17 : ab_at 192 17 = some (.return_, 1) := rfl
theorem at_193_0 : ab_at 193 0 = some (.aload_n 0, 1) := rfl
theorem at_193_1 : ab_at 193 1 = some (.getfield 7, 3) := rfl
theorem at_193_4 : ab_at 193 4 = some (.bipush 116, 2) := rfl
theorem at_193_6 : ab_at 193 6 = some (.bipush 6, 2) := rfl
theorem at_193_8 : ab_at 193 8 = some (.iload_n 1, 1) := rfl
theorem at_193_9 : ab_at 193 9 = some (.imul, 1) := rfl
theorem at_193_10 : ab_at 193 10 = some (.iadd, 1) := rfl
theorem at_193_11 : ab_at 193 11 = some (.iload_n 2, 1) := rfl
theorem at_193_12 : ab_at 193 12 = some (.iadd, 1) := rfl
theorem at_193_13 : ab_at 193 13 = some (.iaload, 1) := rfl
theorem at_193_14 : ab_at 193 14 = some (.ireturn, 1) := rfl
theorem at_194_0 : ab_at 194 0 = some (.iconst 1, 1) := rfl
theorem at_194_1 : ab_at 194 1 = some (.istore_n 2, 1) := rfl
theorem at_194_2 : ab_at 194 2 = some (.iconst 0, 1) := rfl
theorem at_194_3 : ab_at 194 3 = some (.istore_n 3, 1) := rfl
theorem at_194_4 : ab_at 194 4 = some (.iload_n 3, 1) := rfl
theorem at_194_5 : ab_at 194 5 = some (.aload_n 0, 1) := rfl
theorem at_194_6 : ab_at 194 6 = some (.getfield 7, 3) := rfl
theorem at_194_9 : ab_at 194 9 = some (.bipush 76, 2) := rfl
theorem at_194_11 : ab_at 194 11 = some (.iload_n 1, 1) := rfl
theorem at_194_12 : ab_at 194 12 = some (.iadd, 1) := rfl
theorem at_194_13 : ab_at 194 13 = some (.iaload, 1) := rfl
theorem at_194_14 : ab_at 194 14 = some (.if_icmp .ge 29, 3) := rfl
theorem at_194_17 : ab_at 194 17 = some (.iload_n 2, 1) := rfl
theorem at_194_18 : ab_at 194 18 = some (.ifCond .eq 17, 3) := rfl
theorem at_194_21 : ab_at 194 21 = some (.aload_n 0, 1) := rfl
theorem at_194_22 : ab_at 194 22 = some (.iload_n 1, 1) := rfl
theorem at_194_23 : ab_at 194 23 = some (.iload_n 3, 1) := rfl
theorem at_194_24 : ab_at 194 24 = some (.invokevirtual 287, 3) := rfl
theorem at_194_27 : ab_at 194 27 = some (.iload_n 1, 1) := rfl
theorem at_194_28 : ab_at 194 28 = some (.if_icmp .ge 7, 3) := rfl
theorem at_194_31 : ab_at 194 31 = some (.iconst 1, 1) := rfl
theorem at_194_32 : ab_at 194 32 = some (.goto 4, 3) := rfl
theorem at_194_35 : ab_at 194 35 = some (.iconst 0, 1) := rfl
theorem at_194_36 : ab_at 194 36 = some (.istore_n 2, 1) := rfl
theorem at_194_37 : ab_at 194 37 = some (.iinc 3 1, 3) := rfl
theorem at_194_40 : ab_at 194 40 = some (.goto (-36), 3) := rfl
theorem at_194_43 : ab_at 194 43 = some (.iload_n 2, 1) := rfl
theorem at_194_44 : ab_at 194 44 = some (.ireturn, 1) := rfl
theorem at_195_0 : ab_at 195 0 = some (.aload_n 0, 1) := rfl
theorem at_195_1 : ab_at 195 1 = some (.iload_n 1, 1) := rfl
theorem at_195_2 : ab_at 195 2 = some (.invokevirtual 290, 3) := rfl
theorem at_195_5 : ab_at 195 5 = some (.istore_n 2, 1) := rfl
theorem at_195_6 : ab_at 195 6 = some (.iconst 1, 1) := rfl
theorem at_195_7 : ab_at 195 7 = some (.istore_n 3, 1) := rfl
theorem at_195_8 : ab_at 195 8 = some (.iload_n 2, 1) := rfl
theorem at_195_9 : ab_at 195 9 = some (.ifCond .eq 39, 3) := rfl
theorem at_195_12 : ab_at 195 12 = some (.iload_n 3, 1) := rfl
theorem at_195_13 : ab_at 195 13 = some (.aload_n 0, 1) := rfl
theorem at_195_14 : ab_at 195 14 = some (.getfield 7, 3) := rfl
theorem at_195_17 : ab_at 195 17 = some (.bipush 76, 2) := rfl
theorem at_195_19 : ab_at 195 19 = some (.iload_n 1, 1) := rfl
theorem at_195_20 : ab_at 195 20 = some (.iadd, 1) := rfl
theorem at_195_21 : ab_at 195 21 = some (.iaload, 1) := rfl
theorem at_195_22 : ab_at 195 22 = some (.if_icmp .ge 26, 3) := rfl
theorem at_195_25 : ab_at 195 25 = some (.aload_n 0, 1) := rfl
theorem at_195_26 : ab_at 195 26 = some (.aload_n 0, 1) := rfl
theorem at_195_27 : ab_at 195 27 = some (.iload_n 1, 1) := rfl
theorem at_195_28 : ab_at 195 28 = some (.iload_n 3, 1) := rfl
theorem at_195_29 : ab_at 195 29 = some (.invokevirtual 287, 3) := rfl
theorem at_195_32 : ab_at 195 32 = some (.aload_n 0, 1) := rfl
theorem at_195_33 : ab_at 195 33 = some (.iload_n 1, 1) := rfl
theorem at_195_34 : ab_at 195 34 = some (.iconst 0, 1) := rfl
theorem at_195_35 : ab_at 195 35 = some (.invokevirtual 287, 3) := rfl
theorem at_195_38 : ab_at 195 38 = some (.invokevirtual 293, 3) := rfl
theorem at_195_41 : ab_at 195 41 = some (.istore_n 2, 1) := rfl
theorem at_195_42 : ab_at 195 42 = some (.iinc 3 1, 3) := rfl
theorem at_195_45 : ab_at 195 45 = some (.goto (-37), 3) := rfl
theorem at_195_48 : ab_at 195 48 = some (.iload_n 2, 1) := rfl
theorem at_195_49 : ab_at 195 49 = some (.ireturn, 1) := rfl
theorem at_196_0 : ab_at 196 0 = some (.aload_n 0, 1) := rfl
theorem at_196_1 : ab_at 196 1 = some (.getfield 7, 3) := rfl
theorem at_196_4 : ab_at 196 4 = some (.bipush 36, 2) := rfl
theorem at_196_6 : ab_at 196 6 = some (.iload_n 1, 1) := rfl
theorem at_196_7 : ab_at 196 7 = some (.iadd, 1) := rfl
theorem at_196_8 : ab_at 196 8 = some (.iaload, 1) := rfl
theorem at_196_9 : ab_at 196 9 = some (.istore_n 3, 1) := rfl
theorem at_196_10 : ab_at 196 10 = some (.iload_n 3, 1) := rfl
theorem at_196_11 : ab_at 196 11 = some (.aload_n 0, 1) := rfl
theorem at_196_12 : ab_at 196 12 = some (.getfield 7, 3) := rfl
theorem at_196_15 : ab_at 196 15 = some (.bipush 36, 2) := rfl
theorem at_196_17 : ab_at 196 17 = some (.iload_n 2, 1) := rfl
theorem at_196_18 : ab_at 196 18 = some (.iadd, 1) := rfl
theorem at_196_19 : ab_at 196 19 = some (.iaload, 1) := rfl
theorem at_196_20 : ab_at 196 20 = some (.if_icmp .ne 13, 3) := rfl
theorem at_196_23 : ab_at 196 23 = some (.aload_n 0, 1) := rfl
theorem at_196_24 : ab_at 196 24 = some (.getfield 47, 3) := rfl
theorem at_196_27 : ab_at 196 27 = some (.iload_n 2, 1) := rfl
theorem at_196_28 : ab_at 196 28 = some (.iaload, 1) := rfl
theorem at_196_29 : ab_at 196 29 = some (.iload_n 2, 1) := rfl
theorem at_196_30 : ab_at 196 30 = some (.if_icmp .eq 5, 3) := rfl
theorem at_196_33 : ab_at 196 33 = some (.iconst 0, 1) := rfl
theorem at_196_34 : ab_at 196 34 = some (.ireturn, 1) := rfl
theorem at_196_35 : ab_at 196 35 = some (.iload_n 3, 1) := rfl
theorem at_196_36 : ab_at 196 36 = some (.iconst 1, 1) := rfl
theorem at_196_37 : ab_at 196 37 = some (.if_icmp .ne 30, 3) := rfl
theorem at_196_40 : ab_at 196 40 = some (.aload_n 0, 1) := rfl
theorem at_196_41 : ab_at 196 41 = some (.getfield 7, 3) := rfl
theorem at_196_44 : ab_at 196 44 = some (.bipush 96, 2) := rfl
theorem at_196_46 : ab_at 196 46 = some (.iload_n 1, 1) := rfl
theorem at_196_47 : ab_at 196 47 = some (.iadd, 1) := rfl
theorem at_196_48 : ab_at 196 48 = some (.iaload, 1) := rfl
theorem at_196_49 : ab_at 196 49 = some (.aload_n 0, 1) := rfl
theorem at_196_50 : ab_at 196 50 = some (.getfield 7, 3) := rfl
theorem at_196_53 : ab_at 196 53 = some (.bipush 96, 2) := rfl
theorem at_196_55 : ab_at 196 55 = some (.iload_n 2, 1) := rfl
theorem at_196_56 : ab_at 196 56 = some (.iadd, 1) := rfl
theorem at_196_57 : ab_at 196 57 = some (.iaload, 1) := rfl
theorem at_196_58 : ab_at 196 58 = some (.if_icmp .ne 7, 3) := rfl
theorem at_196_61 : ab_at 196 61 = some (.iconst 1, 1) := rfl
theorem at_196_62 : ab_at 196 62 = some (.goto 4, 3) := rfl
theorem at_196_65 : ab_at 196 65 = some (.iconst 0, 1) := rfl
theorem at_196_66 : ab_at 196 66 = some (.ireturn, 1) := rfl
theorem at_196_67 : ab_at 196 67 = some (.iload_n 3, 1) := rfl
theorem at_196_68 : ab_at 196 68 = some (.bipush 7, 2) := rfl
theorem at_196_70 : ab_at 196 70 = some (.if_icmp .ne 42, 3) := rfl
theorem at_196_73 : ab_at 196 73 = some (.aload_n 0, 1) := rfl
theorem at_196_74 : ab_at 196 74 = some (.getfield 7, 3) := rfl
theorem at_196_77 : ab_at 196 77 = some (.bipush 56, 2) := rfl
theorem at_196_79 : ab_at 196 79 = some (.iload_n 1, 1) := rfl
theorem at_196_80 : ab_at 196 80 = some (.iadd, 1) := rfl
theorem at_196_81 : ab_at 196 81 = some (.iaload, 1) := rfl
theorem at_196_82 : ab_at 196 82 = some (.aload_n 0, 1) := rfl
theorem at_196_83 : ab_at 196 83 = some (.getfield 7, 3) := rfl
theorem at_196_86 : ab_at 196 86 = some (.bipush 56, 2) := rfl
theorem at_196_88 : ab_at 196 88 = some (.iload_n 2, 1) := rfl
theorem at_196_89 : ab_at 196 89 = some (.iadd, 1) := rfl
theorem at_196_90 : ab_at 196 90 = some (.iaload, 1) := rfl
theorem at_196_91 : ab_at 196 91 = some (.if_icmp .ne 19, 3) := rfl
theorem at_196_94 : ab_at 196 94 = some (.aload_n 0, 1) := rfl
theorem at_196_95 : ab_at 196 95 = some (.iload_n 1, 1) := rfl
theorem at_196_96 : ab_at 196 96 = some (.invokevirtual 290, 3) := rfl
theorem at_196_99 : ab_at 196 99 = some (.ifCond .eq 11, 3) := rfl
theorem at_196_102 : ab_at 196 102 = some (.aload_n 0, 1) := rfl
theorem at_196_103 : ab_at 196 103 = some (.iload_n 2, 1) := rfl
theorem at_196_104 : ab_at 196 104 = some (.invokevirtual 290, 3) := rfl
theorem at_196_107 : ab_at 196 107 = some (.ifCond .ne 5, 3) := rfl
theorem at_196_110 : ab_at 196 110 = some (.iconst 0, 1) := rfl
theorem at_196_111 : ab_at 196 111 = some (.ireturn, 1) := rfl
theorem at_196_112 : ab_at 196 112 = some (.iconst 1, 1) := rfl
theorem at_196_113 : ab_at 196 113 = some (.istore 4, 2) := rfl
theorem at_196_115 : ab_at 196 115 = some (.iconst 0, 1) := rfl
theorem at_196_116 : ab_at 196 116 = some (.istore 5, 2) := rfl
theorem at_196_118 : ab_at 196 118 = some (.iload 5, 2) := rfl
theorem at_196_120 : ab_at 196 120 = some (.aload_n 0, 1) := rfl
theorem at_196_121 : ab_at 196 121 = some (.getfield 7, 3) := rfl
theorem at_196_124 : ab_at 196 124 = some (.bipush 76, 2) := rfl
theorem at_196_126 : ab_at 196 126 = some (.iload_n 1, 1) := rfl
theorem at_196_127 : ab_at 196 127 = some (.iadd, 1) := rfl
theorem at_196_128 : ab_at 196 128 = some (.iaload, 1) := rfl
theorem at_196_129 : ab_at 196 129 = some (.if_icmp .ge 42, 3) := rfl
theorem at_196_132 : ab_at 196 132 = some (.iload 4, 2) := rfl
theorem at_196_134 : ab_at 196 134 = some (.ifCond .eq 28, 3) := rfl
theorem at_196_137 : ab_at 196 137 = some (.aload_n 0, 1) := rfl
theorem at_196_138 : ab_at 196 138 = some (.aload_n 0, 1) := rfl
theorem at_196_139 : ab_at 196 139 = some (.iload_n 1, 1) := rfl
theorem at_196_140 : ab_at 196 140 = some (.iload 5, 2) := rfl
theorem at_196_142 : ab_at 196 142 = some (.invokevirtual 287, 3) := rfl
theorem at_196_145 : ab_at 196 145 = some (.aload_n 0, 1) := rfl
theorem at_196_146 : ab_at 196 146 = some (.iload_n 2, 1) := rfl
theorem at_196_147 : ab_at 196 147 = some (.iload 5, 2) := rfl
theorem at_196_149 : ab_at 196 149 = some (.invokevirtual 287, 3) := rfl
theorem at_196_152 : ab_at 196 152 = some (.invokevirtual 293, 3) := rfl
theorem at_196_155 : ab_at 196 155 = some (.ifCond .eq 7, 3) := rfl
theorem at_196_158 : ab_at 196 158 = some (.iconst 1, 1) := rfl
theorem at_196_159 : ab_at 196 159 = some (.goto 4, 3) := rfl
theorem at_196_162 : ab_at 196 162 = some (.iconst 0, 1) := rfl
theorem at_196_163 : ab_at 196 163 = some (.istore 4, 2) := rfl
theorem at_196_165 : ab_at 196 165 = some (.iinc 5 1, 3) := rfl
theorem at_196_168 : ab_at 196 168 = some (.goto (-50), 3) := rfl
theorem at_196_171 : ab_at 196 171 = some (.iload_n 3, 1) := rfl
theorem at_196_172 : ab_at 196 172 = some (.iconst 2, 1) := rfl
theorem at_196_173 : ab_at 196 173 = some (.if_icmp .eq 8, 3) := rfl
theorem at_196_176 : ab_at 196 176 = some (.iload_n 3, 1) := rfl
theorem at_196_177 : ab_at 196 177 = some (.iconst 3, 1) := rfl
theorem at_196_178 : ab_at 196 178 = some (.if_icmp .ne 7, 3) := rfl
theorem at_196_181 : ab_at 196 181 = some (.iconst 1, 1) := rfl
theorem at_196_182 : ab_at 196 182 = some (.goto 4, 3) := rfl
theorem at_196_185 : ab_at 196 185 = some (.iconst 0, 1) := rfl
theorem at_196_186 : ab_at 196 186 = some (.istore 5, 2) := rfl
theorem at_196_188 : ab_at 196 188 = some (.iload 4, 2) := rfl
theorem at_196_190 : ab_at 196 190 = some (.ifCond .ne 46, 3) := rfl
theorem at_196_193 : ab_at 196 193 = some (.iload 5, 2) := rfl
theorem at_196_195 : ab_at 196 195 = some (.ifCond .eq 45, 3) := rfl
theorem at_196_198 : ab_at 196 198 = some (.aload_n 0, 1) := rfl
theorem at_196_199 : ab_at 196 199 = some (.aload_n 0, 1) := rfl
theorem at_196_200 : ab_at 196 200 = some (.iload_n 1, 1) := rfl
theorem at_196_201 : ab_at 196 201 = some (.iconst 0, 1) := rfl
theorem at_196_202 : ab_at 196 202 = some (.invokevirtual 287, 3) := rfl
theorem at_196_205 : ab_at 196 205 = some (.aload_n 0, 1) := rfl
theorem at_196_206 : ab_at 196 206 = some (.iload_n 2, 1) := rfl
theorem at_196_207 : ab_at 196 207 = some (.iconst 1, 1) := rfl
theorem at_196_208 : ab_at 196 208 = some (.invokevirtual 287, 3) := rfl
theorem at_196_211 : ab_at 196 211 = some (.invokevirtual 293, 3) := rfl
theorem at_196_214 : ab_at 196 214 = some (.ifCond .eq 26, 3) := rfl
theorem at_196_217 : ab_at 196 217 = some (.aload_n 0, 1) := rfl
theorem at_196_218 : ab_at 196 218 = some (.aload_n 0, 1) := rfl
theorem at_196_219 : ab_at 196 219 = some (.iload_n 1, 1) := rfl
theorem at_196_220 : ab_at 196 220 = some (.iconst 1, 1) := rfl
theorem at_196_221 : ab_at 196 221 = some (.invokevirtual 287, 3) := rfl
theorem at_196_224 : ab_at 196 224 = some (.aload_n 0, 1) := rfl
theorem at_196_225 : ab_at 196 225 = some (.iload_n 2, 1) := rfl
theorem at_196_226 : ab_at 196 226 = some (.iconst 0, 1) := rfl
theorem at_196_227 : ab_at 196 227 = some (.invokevirtual 287, 3) := rfl
theorem at_196_230 : ab_at 196 230 = some (.invokevirtual 293, 3) := rfl
theorem at_196_233 : ab_at 196 233 = some (.ifCond .eq 7, 3) := rfl
theorem at_196_236 : ab_at 196 236 = some (.iconst 1, 1) := rfl
theorem at_196_237 : ab_at 196 237 = some (.goto 4, 3) := rfl
theorem at_196_240 : ab_at 196 240 = some (.iconst 0, 1) := rfl
theorem at_196_241 : ab_at 196 241 = some (.ireturn, 1) := rfl
theorem at_197_0 : ab_at 197 0 = some (.iconst 0, 1) := rfl
theorem at_197_1 : ab_at 197 1 = some (.istore_n 2, 1) := rfl
theorem at_197_2 : ab_at 197 2 = some (.iload_n 2, 1) := rfl
theorem at_197_3 : ab_at 197 3 = some (.iload_n 1, 1) := rfl
theorem at_197_4 : ab_at 197 4 = some (.if_icmp .ge 28, 3) := rfl
theorem at_197_7 : ab_at 197 7 = some (.aload_n 0, 1) := rfl
theorem at_197_8 : ab_at 197 8 = some (.iload_n 1, 1) := rfl
theorem at_197_9 : ab_at 197 9 = some (.iload_n 2, 1) := rfl
theorem at_197_10 : ab_at 197 10 = some (.invokevirtual 296, 3) := rfl
theorem at_197_13 : ab_at 197 13 = some (.ifCond .eq 13, 3) := rfl
theorem at_197_16 : ab_at 197 16 = some (.aload_n 0, 1) := rfl
theorem at_197_17 : ab_at 197 17 = some (.iload_n 1, 1) := rfl
theorem at_197_18 : ab_at 197 18 = some (.iload_n 2, 1) := rfl
theorem at_197_19 : ab_at 197 19 = some (.ldc2_w 216, 3) := rfl
theorem at_197_22 : ab_at 197 22 = some (.invokevirtual 283, 3) := rfl
theorem at_197_25 : ab_at 197 25 = some (.return_, 1) := rfl
theorem at_197_26 : ab_at 197 26 = some (.iinc 2 1, 3) := rfl
theorem at_197_29 : ab_at 197 29 = some (.goto (-27), 3) := rfl
theorem at_197_32 : ab_at 197 32 = some (.aload_n 0, 1) := rfl
theorem at_197_33 : ab_at 197 33 = some (.iload_n 1, 1) := rfl
theorem at_197_34 : ab_at 197 34 = some (.iload_n 1, 1) := rfl
theorem at_197_35 : ab_at 197 35 = some (.ldc2_w 216, 3) := rfl
theorem at_197_38 : ab_at 197 38 = some (.invokevirtual 283, 3) := rfl
theorem at_197_41 : ab_at 197 41 = some (.return_, 1) := rfl
theorem at_198_0 : ab_at 198 0 = some (.aload_n 0, 1) := rfl
theorem at_198_1 : ab_at 198 1 = some (.iload_n 1, 1) := rfl
theorem at_198_2 : ab_at 198 2 = some (.iconst 0, 1) := rfl
theorem at_198_3 : ab_at 198 3 = some (.invokevirtual 287, 3) := rfl
theorem at_198_6 : ab_at 198 6 = some (.istore_n 2, 1) := rfl
theorem at_198_7 : ab_at 198 7 = some (.aload_n 0, 1) := rfl
theorem at_198_8 : ab_at 198 8 = some (.getfield 47, 3) := rfl
theorem at_198_11 : ab_at 198 11 = some (.iload_n 2, 1) := rfl
theorem at_198_12 : ab_at 198 12 = some (.iaload, 1) := rfl
theorem at_198_13 : ab_at 198 13 = some (.istore_n 3, 1) := rfl
theorem at_198_14 : ab_at 198 14 = some (.iload_n 3, 1) := rfl
theorem at_198_15 : ab_at 198 15 = some (.bipush (-4), 2) := rfl
theorem at_198_17 : ab_at 198 17 = some (.if_icmp .ne 24, 3) := rfl
theorem at_198_20 : ab_at 198 20 = some (.aload_n 0, 1) := rfl
theorem at_198_21 : ab_at 198 21 = some (.iload_n 1, 1) := rfl
theorem at_198_22 : ab_at 198 22 = some (.bipush (-4), 2) := rfl
theorem at_198_24 : ab_at 198 24 = some (.iconst 4, 1) := rfl
theorem at_198_25 : ab_at 198 25 = some (.aload_n 0, 1) := rfl
theorem at_198_26 : ab_at 198 26 = some (.getfield 50, 3) := rfl
theorem at_198_29 : ab_at 198 29 = some (.iload_n 2, 1) := rfl
theorem at_198_30 : ab_at 198 30 = some (.laload, 1) := rfl
theorem at_198_31 : ab_at 198 31 = some (.lconst 0, 1) := rfl
theorem at_198_32 : ab_at 198 32 = some (.invokestatic 209, 3) := rfl
theorem at_198_35 : ab_at 198 35 = some (.invokevirtual 283, 3) := rfl
theorem at_198_38 : ab_at 198 38 = some (.goto 35, 3) := rfl
theorem at_198_41 : ab_at 198 41 = some (.aload_n 0, 1) := rfl
theorem at_198_42 : ab_at 198 42 = some (.getfield 7, 3) := rfl
theorem at_198_45 : ab_at 198 45 = some (.bipush 36, 2) := rfl
theorem at_198_47 : ab_at 198 47 = some (.iload_n 3, 1) := rfl
theorem at_198_48 : ab_at 198 48 = some (.iadd, 1) := rfl
theorem at_198_49 : ab_at 198 49 = some (.iaload, 1) := rfl
theorem at_198_50 : ab_at 198 50 = some (.iconst 4, 1) := rfl
theorem at_198_51 : ab_at 198 51 = some (.if_icmp .ne 17, 3) := rfl
theorem at_198_54 : ab_at 198 54 = some (.aload_n 0, 1) := rfl
theorem at_198_55 : ab_at 198 55 = some (.iload_n 1, 1) := rfl
theorem at_198_56 : ab_at 198 56 = some (.aload_n 0, 1) := rfl
theorem at_198_57 : ab_at 198 57 = some (.iload_n 3, 1) := rfl
theorem at_198_58 : ab_at 198 58 = some (.iconst 0, 1) := rfl
theorem at_198_59 : ab_at 198 59 = some (.invokevirtual 287, 3) := rfl
theorem at_198_62 : ab_at 198 62 = some (.invokevirtual 299, 3) := rfl
theorem at_198_65 : ab_at 198 65 = some (.goto 8, 3) := rfl
theorem at_198_68 : ab_at 198 68 = some (.aload_n 0, 1) := rfl
theorem at_198_69 : ab_at 198 69 = some (.iload_n 1, 1) := rfl
theorem at_198_70 : ab_at 198 70 = some (.invokevirtual 302, 3) := rfl
theorem at_198_73 : ab_at 198 73 = some (.return_, 1) := rfl
theorem at_199_0 : ab_at 199 0 = some (.aload_n 0, 1) := rfl
theorem at_199_1 : ab_at 199 1 = some (.getfield 7, 3) := rfl
theorem at_199_4 : ab_at 199 4 = some (.bipush 36, 2) := rfl
theorem at_199_6 : ab_at 199 6 = some (.iload_n 1, 1) := rfl
theorem at_199_7 : ab_at 199 7 = some (.iadd, 1) := rfl
theorem at_199_8 : ab_at 199 8 = some (.iaload, 1) := rfl
theorem at_199_9 : ab_at 199 9 = some (.istore_n 2, 1) := rfl
theorem at_199_10 : ab_at 199 10 = some (.aload_n 0, 1) := rfl
theorem at_199_11 : ab_at 199 11 = some (.iload_n 1, 1) := rfl
theorem at_199_12 : ab_at 199 12 = some (.iconst 0, 1) := rfl
theorem at_199_13 : ab_at 199 13 = some (.invokevirtual 287, 3) := rfl
theorem at_199_16 : ab_at 199 16 = some (.istore_n 3, 1) := rfl
theorem at_199_17 : ab_at 199 17 = some (.aload_n 0, 1) := rfl
theorem at_199_18 : ab_at 199 18 = some (.iload_n 1, 1) := rfl
theorem at_199_19 : ab_at 199 19 = some (.iconst 1, 1) := rfl
theorem at_199_20 : ab_at 199 20 = some (.invokevirtual 287, 3) := rfl
theorem at_199_23 : ab_at 199 23 = some (.istore 4, 2) := rfl
theorem at_199_25 : ab_at 199 25 = some (.aload_n 0, 1) := rfl
theorem at_199_26 : ab_at 199 26 = some (.getfield 47, 3) := rfl
theorem at_199_29 : ab_at 199 29 = some (.iload_n 3, 1) := rfl
theorem at_199_30 : ab_at 199 30 = some (.iaload, 1) := rfl
theorem at_199_31 : ab_at 199 31 = some (.bipush (-4), 2) := rfl
theorem at_199_33 : ab_at 199 33 = some (.if_icmp .ne 42, 3) := rfl
theorem at_199_36 : ab_at 199 36 = some (.aload_n 0, 1) := rfl
theorem at_199_37 : ab_at 199 37 = some (.getfield 47, 3) := rfl
theorem at_199_40 : ab_at 199 40 = some (.iload 4, 2) := rfl
theorem at_199_42 : ab_at 199 42 = some (.iaload, 1) := rfl
theorem at_199_43 : ab_at 199 43 = some (.bipush (-4), 2) := rfl
theorem at_199_45 : ab_at 199 45 = some (.if_icmp .ne 30, 3) := rfl
theorem at_199_48 : ab_at 199 48 = some (.aload_n 0, 1) := rfl
theorem at_199_49 : ab_at 199 49 = some (.iload_n 1, 1) := rfl
theorem at_199_50 : ab_at 199 50 = some (.bipush (-4), 2) := rfl
theorem at_199_52 : ab_at 199 52 = some (.iload_n 2, 1) := rfl
theorem at_199_53 : ab_at 199 53 = some (.aload_n 0, 1) := rfl
theorem at_199_54 : ab_at 199 54 = some (.getfield 50, 3) := rfl
theorem at_199_57 : ab_at 199 57 = some (.iload_n 3, 1) := rfl
theorem at_199_58 : ab_at 199 58 = some (.laload, 1) := rfl
theorem at_199_59 : ab_at 199 59 = some (.aload_n 0, 1) := rfl
theorem at_199_60 : ab_at 199 60 = some (.getfield 50, 3) := rfl
theorem at_199_63 : ab_at 199 63 = some (.iload 4, 2) := rfl
theorem at_199_65 : ab_at 199 65 = some (.laload, 1) := rfl
theorem at_199_66 : ab_at 199 66 = some (.invokestatic 209, 3) := rfl
theorem at_199_69 : ab_at 199 69 = some (.invokevirtual 283, 3) := rfl
theorem at_199_72 : ab_at 199 72 = some (.goto 136, 3) := rfl
theorem at_199_75 : ab_at 199 75 = some (.iload_n 2, 1) := rfl
theorem at_199_76 : ab_at 199 76 = some (.iconst 2, 1) := rfl
theorem at_199_77 : ab_at 199 77 = some (.if_icmp .ne 12, 3) := rfl
theorem at_199_80 : ab_at 199 80 = some (.aload_n 0, 1) := rfl
theorem at_199_81 : ab_at 199 81 = some (.iload_n 3, 1) := rfl
theorem at_199_82 : ab_at 199 82 = some (.lconst 0, 1) := rfl
theorem at_199_83 : ab_at 199 83 = some (.invokevirtual 305, 3) := rfl
theorem at_199_86 : ab_at 199 86 = some (.ifCond .ne 17, 3) := rfl
theorem at_199_89 : ab_at 199 89 = some (.iload_n 2, 1) := rfl
theorem at_199_90 : ab_at 199 90 = some (.iconst 3, 1) := rfl
theorem at_199_91 : ab_at 199 91 = some (.if_icmp .ne 22, 3) := rfl
theorem at_199_94 : ab_at 199 94 = some (.aload_n 0, 1) := rfl
theorem at_199_95 : ab_at 199 95 = some (.iload_n 3, 1) := rfl
theorem at_199_96 : ab_at 199 96 = some (.lconst 1, 1) := rfl
theorem at_199_97 : ab_at 199 97 = some (.invokevirtual 305, 3) := rfl
theorem at_199_100 : ab_at 199 100 = some (.ifCond .eq 13, 3) := rfl
theorem at_199_103 : ab_at 199 103 = some (.aload_n 0, 1) := rfl
theorem at_199_104 : ab_at 199 104 = some (.iload_n 1, 1) := rfl
theorem at_199_105 : ab_at 199 105 = some (.iload 4, 2) := rfl
theorem at_199_107 : ab_at 199 107 = some (.invokevirtual 299, 3) := rfl
theorem at_199_110 : ab_at 199 110 = some (.goto 98, 3) := rfl
theorem at_199_113 : ab_at 199 113 = some (.iload_n 2, 1) := rfl
theorem at_199_114 : ab_at 199 114 = some (.iconst 2, 1) := rfl
theorem at_199_115 : ab_at 199 115 = some (.if_icmp .ne 13, 3) := rfl
theorem at_199_118 : ab_at 199 118 = some (.aload_n 0, 1) := rfl
theorem at_199_119 : ab_at 199 119 = some (.iload 4, 2) := rfl
theorem at_199_121 : ab_at 199 121 = some (.lconst 0, 1) := rfl
theorem at_199_122 : ab_at 199 122 = some (.invokevirtual 305, 3) := rfl
theorem at_199_125 : ab_at 199 125 = some (.ifCond .ne 24, 3) := rfl
theorem at_199_128 : ab_at 199 128 = some (.iload_n 2, 1) := rfl
theorem at_199_129 : ab_at 199 129 = some (.iconst 3, 1) := rfl
theorem at_199_130 : ab_at 199 130 = some (.if_icmp .eq 9, 3) := rfl
theorem at_199_133 : ab_at 199 133 = some (.iload_n 2, 1) := rfl
theorem at_199_134 : ab_at 199 134 = some (.bipush 6, 2) := rfl
theorem at_199_136 : ab_at 199 136 = some (.if_icmp .ne 22, 3) := rfl
theorem at_199_139 : ab_at 199 139 = some (.aload_n 0, 1) := rfl
theorem at_199_140 : ab_at 199 140 = some (.iload 4, 2) := rfl
theorem at_199_142 : ab_at 199 142 = some (.lconst 1, 1) := rfl
theorem at_199_143 : ab_at 199 143 = some (.invokevirtual 305, 3) := rfl
theorem at_199_146 : ab_at 199 146 = some (.ifCond .eq 12, 3) := rfl
theorem at_199_149 : ab_at 199 149 = some (.aload_n 0, 1) := rfl
theorem at_199_150 : ab_at 199 150 = some (.iload_n 1, 1) := rfl
theorem at_199_151 : ab_at 199 151 = some (.iload_n 3, 1) := rfl
theorem at_199_152 : ab_at 199 152 = some (.invokevirtual 299, 3) := rfl
theorem at_199_155 : ab_at 199 155 = some (.goto 53, 3) := rfl
theorem at_199_158 : ab_at 199 158 = some (.aload_n 0, 1) := rfl
theorem at_199_159 : ab_at 199 159 = some (.iload_n 3, 1) := rfl
theorem at_199_160 : ab_at 199 160 = some (.ldc2_w 207, 3) := rfl
theorem at_199_163 : ab_at 199 163 = some (.invokevirtual 305, 3) := rfl
theorem at_199_166 : ab_at 199 166 = some (.ifCond .ne 15, 3) := rfl
theorem at_199_169 : ab_at 199 169 = some (.aload_n 0, 1) := rfl
theorem at_199_170 : ab_at 199 170 = some (.iload 4, 2) := rfl
theorem at_199_172 : ab_at 199 172 = some (.ldc2_w 207, 3) := rfl
theorem at_199_175 : ab_at 199 175 = some (.invokevirtual 305, 3) := rfl
theorem at_199_178 : ab_at 199 178 = some (.ifCond .eq 25, 3) := rfl
theorem at_199_181 : ab_at 199 181 = some (.aload_n 0, 1) := rfl
theorem at_199_182 : ab_at 199 182 = some (.iload_n 1, 1) := rfl
theorem at_199_183 : ab_at 199 183 = some (.bipush (-4), 2) := rfl
theorem at_199_185 : ab_at 199 185 = some (.iload_n 2, 1) := rfl
theorem at_199_186 : ab_at 199 186 = some (.iconst 5, 1) := rfl
theorem at_199_187 : ab_at 199 187 = some (.if_icmp .ne 7, 3) := rfl
theorem at_199_190 : ab_at 199 190 = some (.lconst 0, 1) := rfl
theorem at_199_191 : ab_at 199 191 = some (.goto 6, 3) := rfl
theorem at_199_194 : ab_at 199 194 = some (.ldc2_w 207, 3) := rfl
theorem at_199_197 : ab_at 199 197 = some (.invokevirtual 283, 3) := rfl
theorem at_199_200 : ab_at 199 200 = some (.goto 8, 3) := rfl
theorem at_199_203 : ab_at 199 203 = some (.aload_n 0, 1) := rfl
theorem at_199_204 : ab_at 199 204 = some (.iload_n 1, 1) := rfl
theorem at_199_205 : ab_at 199 205 = some (.invokevirtual 302, 3) := rfl
theorem at_199_208 : ab_at 199 208 = some (.return_, 1) := rfl
theorem at_200_0 : ab_at 200 0 = some (.iconst 0, 1) := rfl
theorem at_200_1 : ab_at 200 1 = some (.istore_n 1, 1) := rfl
theorem at_200_2 : ab_at 200 2 = some (.iload_n 1, 1) := rfl
theorem at_200_3 : ab_at 200 3 = some (.aload_n 0, 1) := rfl
theorem at_200_4 : ab_at 200 4 = some (.getfield 7, 3) := rfl
theorem at_200_7 : ab_at 200 7 = some (.sipush 237, 3) := rfl
theorem at_200_10 : ab_at 200 10 = some (.iaload, 1) := rfl
theorem at_200_11 : ab_at 200 11 = some (.if_icmp .ge 18, 3) := rfl
theorem at_200_14 : ab_at 200 14 = some (.aload_n 0, 1) := rfl
theorem at_200_15 : ab_at 200 15 = some (.iload_n 1, 1) := rfl
theorem at_200_16 : ab_at 200 16 = some (.iload_n 1, 1) := rfl
theorem at_200_17 : ab_at 200 17 = some (.ldc2_w 216, 3) := rfl
theorem at_200_20 : ab_at 200 20 = some (.invokevirtual 283, 3) := rfl
theorem at_200_23 : ab_at 200 23 = some (.iinc 1 1, 3) := rfl
theorem at_200_26 : ab_at 200 26 = some (.goto (-24), 3) := rfl
theorem at_200_29 : ab_at 200 29 = some (.iconst 0, 1) := rfl
theorem at_200_30 : ab_at 200 30 = some (.istore_n 1, 1) := rfl
theorem at_200_31 : ab_at 200 31 = some (.iload_n 1, 1) := rfl
theorem at_200_32 : ab_at 200 32 = some (.aload_n 0, 1) := rfl
theorem at_200_33 : ab_at 200 33 = some (.getfield 7, 3) := rfl
theorem at_200_36 : ab_at 200 36 = some (.sipush 237, 3) := rfl
theorem at_200_39 : ab_at 200 39 = some (.iaload, 1) := rfl
theorem at_200_40 : ab_at 200 40 = some (.if_icmp .ge 137, 3) := rfl
theorem at_200_43 : ab_at 200 43 = some (.aload_n 0, 1) := rfl
theorem at_200_44 : ab_at 200 44 = some (.getfield 7, 3) := rfl
theorem at_200_47 : ab_at 200 47 = some (.bipush 36, 2) := rfl
theorem at_200_49 : ab_at 200 49 = some (.iload_n 1, 1) := rfl
theorem at_200_50 : ab_at 200 50 = some (.iadd, 1) := rfl
theorem at_200_51 : ab_at 200 51 = some (.iaload, 1) := rfl
theorem at_200_52 : ab_at 200 52 = some (.istore_n 2, 1) := rfl
theorem at_200_53 : ab_at 200 53 = some (.iload_n 2, 1) := rfl
theorem at_200_54 : ab_at 200 54 = some (.ifCond .ne 43, 3) := rfl
theorem at_200_57 : ab_at 200 57 = some (.aload_n 0, 1) := rfl
theorem at_200_58 : ab_at 200 58 = some (.iload_n 1, 1) := rfl
theorem at_200_59 : ab_at 200 59 = some (.bipush (-4), 2) := rfl
theorem at_200_61 : ab_at 200 61 = some (.aload_n 0, 1) := rfl
theorem at_200_62 : ab_at 200 62 = some (.getfield 7, 3) := rfl
theorem at_200_65 : ab_at 200 65 = some (.bipush 96, 2) := rfl
theorem at_200_67 : ab_at 200 67 = some (.iload_n 1, 1) := rfl
theorem at_200_68 : ab_at 200 68 = some (.iadd, 1) := rfl
theorem at_200_69 : ab_at 200 69 = some (.iaload, 1) := rfl
theorem at_200_70 : ab_at 200 70 = some (.bipush 99, 2) := rfl
theorem at_200_72 : ab_at 200 72 = some (.if_icmp .ne 9, 3) := rfl
theorem at_200_75 : ab_at 200 75 = some (.ldc2_w 207, 3) := rfl
theorem at_200_78 : ab_at 200 78 = some (.goto 13, 3) := rfl
theorem at_200_81 : ab_at 200 81 = some (.aload_n 0, 1) := rfl
theorem at_200_82 : ab_at 200 82 = some (.getfield 7, 3) := rfl
theorem at_200_85 : ab_at 200 85 = some (.bipush 96, 2) := rfl
theorem at_200_87 : ab_at 200 87 = some (.iload_n 1, 1) := rfl
theorem at_200_88 : ab_at 200 88 = some (.iadd, 1) := rfl
theorem at_200_89 : ab_at 200 89 = some (.iaload, 1) := rfl
theorem at_200_90 : ab_at 200 90 = some (.i2l, 1) := rfl
theorem at_200_91 : ab_at 200 91 = some (.invokevirtual 283, 3) := rfl
theorem at_200_94 : ab_at 200 94 = some (.goto 77, 3) := rfl
theorem at_200_97 : ab_at 200 97 = some (.iload_n 2, 1) := rfl
theorem at_200_98 : ab_at 200 98 = some (.iconst 4, 1) := rfl
theorem at_200_99 : ab_at 200 99 = some (.if_icmp .ne 11, 3) := rfl
theorem at_200_102 : ab_at 200 102 = some (.aload_n 0, 1) := rfl
theorem at_200_103 : ab_at 200 103 = some (.iload_n 1, 1) := rfl
theorem at_200_104 : ab_at 200 104 = some (.invokevirtual 309, 3) := rfl
theorem at_200_107 : ab_at 200 107 = some (.goto 64, 3) := rfl
theorem at_200_110 : ab_at 200 110 = some (.iload_n 2, 1) := rfl
theorem at_200_111 : ab_at 200 111 = some (.i2l, 1) := rfl
theorem at_200_112 : ab_at 200 112 = some (.ldc2_w 258, 3) := rfl
theorem at_200_115 : ab_at 200 115 = some (.ldc2_w 130, 3) := rfl
theorem at_200_118 : ab_at 200 118 = some (.invokestatic 71, 3) := rfl
theorem at_200_121 : ab_at 200 121 = some (.ifCond .eq 11, 3) := rfl
theorem at_200_124 : ab_at 200 124 = some (.aload_n 0, 1) := rfl
theorem at_200_125 : ab_at 200 125 = some (.iload_n 1, 1) := rfl
theorem at_200_126 : ab_at 200 126 = some (.invokevirtual 312, 3) := rfl
theorem at_200_129 : ab_at 200 129 = some (.goto 42, 3) := rfl
theorem at_200_132 : ab_at 200 132 = some (.iload_n 2, 1) := rfl
theorem at_200_133 : ab_at 200 133 = some (.bipush 7, 2) := rfl
theorem at_200_135 : ab_at 200 135 = some (.if_icmp .ne 25, 3) := rfl
theorem at_200_138 : ab_at 200 138 = some (.aload_n 0, 1) := rfl
theorem at_200_139 : ab_at 200 139 = some (.iload_n 1, 1) := rfl
theorem at_200_140 : ab_at 200 140 = some (.invokevirtual 315, 3) := rfl
theorem at_200_143 : ab_at 200 143 = some (.ifCond .eq 17, 3) := rfl
theorem at_200_146 : ab_at 200 146 = some (.aload_n 0, 1) := rfl
theorem at_200_147 : ab_at 200 147 = some (.iload_n 1, 1) := rfl
theorem at_200_148 : ab_at 200 148 = some (.aload_n 0, 1) := rfl
theorem at_200_149 : ab_at 200 149 = some (.iload_n 1, 1) := rfl
theorem at_200_150 : ab_at 200 150 = some (.iconst 0, 1) := rfl
theorem at_200_151 : ab_at 200 151 = some (.invokevirtual 287, 3) := rfl
theorem at_200_154 : ab_at 200 154 = some (.invokevirtual 299, 3) := rfl
theorem at_200_157 : ab_at 200 157 = some (.goto 14, 3) := rfl
theorem at_200_160 : ab_at 200 160 = some (.iload_n 2, 1) := rfl
theorem at_200_161 : ab_at 200 161 = some (.bipush 8, 2) := rfl
theorem at_200_163 : ab_at 200 163 = some (.if_icmp .eq 8, 3) := rfl
theorem at_200_166 : ab_at 200 166 = some (.aload_n 0, 1) := rfl
theorem at_200_167 : ab_at 200 167 = some (.iload_n 1, 1) := rfl
theorem at_200_168 : ab_at 200 168 = some (.invokevirtual 302, 3) := rfl
theorem at_200_171 : ab_at 200 171 = some (.iinc 1 1, 3) := rfl
theorem at_200_174 : ab_at 200 174 = some (.goto (-143), 3) := rfl
theorem at_200_177 : ab_at 200 177 = some (.return_, 1) := rfl
theorem at_201_0 : ab_at 201 0 = some (.aload_n 0, 1) := rfl
theorem at_201_1 : ab_at 201 1 = some (.iload_n 1, 1) := rfl
theorem at_201_2 : ab_at 201 2 = some (.invokevirtual 201, 3) := rfl
theorem at_201_5 : ab_at 201 5 = some (.ifCond .ne 5, 3) := rfl
theorem at_201_8 : ab_at 201 8 = some (.iconst (-1), 1) := rfl
theorem at_201_9 : ab_at 201 9 = some (.ireturn, 1) := rfl
theorem at_201_10 : ab_at 201 10 = some (.aload_n 0, 1) := rfl
theorem at_201_11 : ab_at 201 11 = some (.invokevirtual 318, 3) := rfl
theorem at_201_14 : ab_at 201 14 = some (.aload_n 0, 1) := rfl
theorem at_201_15 : ab_at 201 15 = some (.getfield 47, 3) := rfl
theorem at_201_18 : ab_at 201 18 = some (.iload_n 1, 1) := rfl
theorem at_201_19 : ab_at 201 19 = some (.iaload, 1) := rfl
theorem at_201_20 : ab_at 201 20 = some (.ireturn, 1) := rfl
theorem at_202_0 : ab_at 202 0 = some (.aload_n 0, 1) := rfl
theorem at_202_1 : ab_at 202 1 = some (.iload_n 1, 1) := rfl
theorem at_202_2 : ab_at 202 2 = some (.invokevirtual 201, 3) := rfl
theorem at_202_5 : ab_at 202 5 = some (.ifCond .ne 7, 3) := rfl
theorem at_202_8 : ab_at 202 8 = some (.ldc2_w 256, 3) := rfl
theorem at_202_11 : ab_at 202 11 = some (.lreturn, 1) := rfl
theorem at_202_12 : ab_at 202 12 = some (.aload_n 0, 1) := rfl
theorem at_202_13 : ab_at 202 13 = some (.invokevirtual 318, 3) := rfl
theorem at_202_16 : ab_at 202 16 = some (.aload_n 0, 1) := rfl
theorem at_202_17 : ab_at 202 17 = some (.getfield 50, 3) := rfl
theorem at_202_20 : ab_at 202 20 = some (.iload_n 1, 1) := rfl
theorem at_202_21 : ab_at 202 21 = some (.laload, 1) := rfl
theorem at_202_22 : ab_at 202 22 = some (.lreturn, 1) := rfl
theorem at_203_0 : ab_at 203 0 = some (.aload_n 0, 1) := rfl
theorem at_203_1 : ab_at 203 1 = some (.bipush 100, 2) := rfl
theorem at_203_3 : ab_at 203 3 = some (.invokevirtual 269, 3) := rfl
theorem at_203_6 : ab_at 203 6 = some (.pop, 1) := rfl
theorem at_203_7 : ab_at 203 7 = some (.iconst 0, 1) := rfl
theorem at_203_8 : ab_at 203 8 = some (.istore_n 1, 1) := rfl
theorem at_203_9 : ab_at 203 9 = some (.iload_n 1, 1) := rfl
theorem at_203_10 : ab_at 203 10 = some (.aload_n 0, 1) := rfl
theorem at_203_11 : ab_at 203 11 = some (.getfield 7, 3) := rfl
theorem at_203_14 : ab_at 203 14 = some (.sipush 237, 3) := rfl
theorem at_203_17 : ab_at 203 17 = some (.iaload, 1) := rfl
theorem at_203_18 : ab_at 203 18 = some (.if_icmp .ge 20, 3) := rfl
theorem at_203_21 : ab_at 203 21 = some (.aload_n 0, 1) := rfl
theorem at_203_22 : ab_at 203 22 = some (.getfield 53, 3) := rfl
theorem at_203_25 : ab_at 203 25 = some (.iload_n 1, 1) := rfl
theorem at_203_26 : ab_at 203 26 = some (.aload_n 0, 1) := rfl
theorem at_203_27 : ab_at 203 27 = some (.iload_n 1, 1) := rfl
theorem at_203_28 : ab_at 203 28 = some (.invokevirtual 280, 3) := rfl
theorem at_203_31 : ab_at 203 31 = some (.iastore, 1) := rfl
theorem at_203_32 : ab_at 203 32 = some (.iinc 1 1, 3) := rfl
theorem at_203_35 : ab_at 203 35 = some (.goto (-26), 3) := rfl
theorem at_203_38 : ab_at 203 38 = some (.iconst 0, 1) := rfl
theorem at_203_39 : ab_at 203 39 = some (.istore_n 1, 1) := rfl
theorem at_203_40 : ab_at 203 40 = some (.iconst 0, 1) := rfl
theorem at_203_41 : ab_at 203 41 = some (.istore_n 2, 1) := rfl
theorem at_203_42 : ab_at 203 42 = some (.iload_n 2, 1) := rfl
theorem at_203_43 : ab_at 203 43 = some (.aload_n 0, 1) := rfl
theorem at_203_44 : ab_at 203 44 = some (.getfield 7, 3) := rfl
theorem at_203_47 : ab_at 203 47 = some (.sipush 237, 3) := rfl
theorem at_203_50 : ab_at 203 50 = some (.iaload, 1) := rfl
theorem at_203_51 : ab_at 203 51 = some (.if_icmp .ge 83, 3) := rfl
theorem at_203_54 : ab_at 203 54 = some (.iconst 0, 1) := rfl
theorem at_203_55 : ab_at 203 55 = some (.istore_n 3, 1) := rfl
theorem at_203_56 : ab_at 203 56 = some (.iload_n 3, 1) := rfl
theorem at_203_57 : ab_at 203 57 = some (.aload_n 0, 1) := rfl
theorem at_203_58 : ab_at 203 58 = some (.getfield 7, 3) := rfl
theorem at_203_61 : ab_at 203 61 = some (.bipush 76, 2) := rfl
theorem at_203_63 : ab_at 203 63 = some (.iload_n 2, 1) := rfl
theorem at_203_64 : ab_at 203 64 = some (.iadd, 1) := rfl
theorem at_203_65 : ab_at 203 65 = some (.iaload, 1) := rfl
theorem at_203_66 : ab_at 203 66 = some (.if_icmp .ge 62, 3) := rfl
theorem at_203_69 : ab_at 203 69 = some (.iload_n 1, 1) := rfl
theorem at_203_70 : ab_at 203 70 = some (.aload_n 0, 1) := rfl
theorem at_203_71 : ab_at 203 71 = some (.getfield 53, 3) := rfl
theorem at_203_74 : ab_at 203 74 = some (.aload_n 0, 1) := rfl
theorem at_203_75 : ab_at 203 75 = some (.iload_n 2, 1) := rfl
theorem at_203_76 : ab_at 203 76 = some (.iload_n 3, 1) := rfl
theorem at_203_77 : ab_at 203 77 = some (.invokevirtual 287, 3) := rfl
theorem at_203_80 : ab_at 203 80 = some (.iaload, 1) := rfl
theorem at_203_81 : ab_at 203 81 = some (.aload_n 0, 1) := rfl
theorem at_203_82 : ab_at 203 82 = some (.iload_n 2, 1) := rfl
theorem at_203_83 : ab_at 203 83 = some (.iload_n 3, 1) := rfl
theorem at_203_84 : ab_at 203 84 = some (.invokevirtual 287, 3) := rfl
theorem at_203_87 : ab_at 203 87 = some (.if_icmp .ne 7, 3) := rfl
theorem at_203_90 : ab_at 203 90 = some (.iconst 0, 1) := rfl
theorem at_203_91 : ab_at 203 91 = some (.goto 4, 3) := rfl
theorem at_203_94 : ab_at 203 94 = some (.iconst 1, 1) := rfl
theorem at_203_95 : ab_at 203 95 = some (.iadd, 1) := rfl
theorem at_203_96 : ab_at 203 96 = some (.istore_n 1, 1) := rfl
theorem at_203_97 : ab_at 203 97 = some (.aload_n 0, 1) := rfl
theorem at_203_98 : ab_at 203 98 = some (.getfield 7, 3) := rfl
theorem at_203_101 : ab_at 203 101 = some (.bipush 116, 2) := rfl
theorem at_203_103 : ab_at 203 103 = some (.bipush 6, 2) := rfl
theorem at_203_105 : ab_at 203 105 = some (.iload_n 2, 1) := rfl
theorem at_203_106 : ab_at 203 106 = some (.imul, 1) := rfl
theorem at_203_107 : ab_at 203 107 = some (.iadd, 1) := rfl
theorem at_203_108 : ab_at 203 108 = some (.iload_n 3, 1) := rfl
theorem at_203_109 : ab_at 203 109 = some (.iadd, 1) := rfl
theorem at_203_110 : ab_at 203 110 = some (.aload_n 0, 1) := rfl
theorem at_203_111 : ab_at 203 111 = some (.getfield 53, 3) := rfl
theorem at_203_114 : ab_at 203 114 = some (.aload_n 0, 1) := rfl
theorem at_203_115 : ab_at 203 115 = some (.iload_n 2, 1) := rfl
theorem at_203_116 : ab_at 203 116 = some (.iload_n 3, 1) := rfl
theorem at_203_117 : ab_at 203 117 = some (.invokevirtual 287, 3) := rfl
theorem at_203_120 : ab_at 203 120 = some (.iaload, 1) := rfl
theorem at_203_121 : ab_at 203 121 = some (.iastore, 1) := rfl
theorem at_203_122 : ab_at 203 122 = some (.iinc 3 1, 3) := rfl
theorem at_203_125 : ab_at 203 125 = some (.goto (-69), 3) := rfl
theorem at_203_128 : ab_at 203 128 = some (.iinc 2 1, 3) := rfl
theorem at_203_131 : ab_at 203 131 = some (.goto (-89), 3) := rfl
theorem at_203_134 : ab_at 203 134 = some (.iconst 0, 1) := rfl
theorem at_203_135 : ab_at 203 135 = some (.istore_n 2, 1) := rfl
theorem at_203_136 : ab_at 203 136 = some (.iload_n 2, 1) := rfl
theorem at_203_137 : ab_at 203 137 = some (.aload_n 0, 1) := rfl
theorem at_203_138 : ab_at 203 138 = some (.getfield 7, 3) := rfl
theorem at_203_141 : ab_at 203 141 = some (.sipush 236, 3) := rfl
theorem at_203_144 : ab_at 203 144 = some (.iaload, 1) := rfl
theorem at_203_145 : ab_at 203 145 = some (.if_icmp .ge 58, 3) := rfl
theorem at_203_148 : ab_at 203 148 = some (.aload_n 0, 1) := rfl
theorem at_203_149 : ab_at 203 149 = some (.getfield 7, 3) := rfl
theorem at_203_152 : ab_at 203 152 = some (.bipush 30, 2) := rfl
theorem at_203_154 : ab_at 203 154 = some (.iload_n 2, 1) := rfl
theorem at_203_155 : ab_at 203 155 = some (.iadd, 1) := rfl
theorem at_203_156 : ab_at 203 156 = some (.iaload, 1) := rfl
theorem at_203_157 : ab_at 203 157 = some (.istore_n 3, 1) := rfl
theorem at_203_158 : ab_at 203 158 = some (.iload_n 3, 1) := rfl
theorem at_203_159 : ab_at 203 159 = some (.bipush (-4), 2) := rfl
theorem at_203_161 : ab_at 203 161 = some (.if_icmp .eq 36, 3) := rfl
theorem at_203_164 : ab_at 203 164 = some (.iload_n 1, 1) := rfl
theorem at_203_165 : ab_at 203 165 = some (.aload_n 0, 1) := rfl
theorem at_203_166 : ab_at 203 166 = some (.getfield 53, 3) := rfl
theorem at_203_169 : ab_at 203 169 = some (.iload_n 3, 1) := rfl
theorem at_203_170 : ab_at 203 170 = some (.iaload, 1) := rfl
theorem at_203_171 : ab_at 203 171 = some (.iload_n 3, 1) := rfl
theorem at_203_172 : ab_at 203 172 = some (.if_icmp .ne 7, 3) := rfl
theorem at_203_175 : ab_at 203 175 = some (.iconst 0, 1) := rfl
theorem at_203_176 : ab_at 203 176 = some (.goto 4, 3) := rfl
theorem at_203_179 : ab_at 203 179 = some (.iconst 1, 1) := rfl
theorem at_203_180 : ab_at 203 180 = some (.iadd, 1) := rfl
theorem at_203_181 : ab_at 203 181 = some (.istore_n 1, 1) := rfl
theorem at_203_182 : ab_at 203 182 = some (.aload_n 0, 1) := rfl
theorem at_203_183 : ab_at 203 183 = some (.getfield 7, 3) := rfl
theorem at_203_186 : ab_at 203 186 = some (.bipush 30, 2) := rfl
theorem at_203_188 : ab_at 203 188 = some (.iload_n 2, 1) := rfl
theorem at_203_189 : ab_at 203 189 = some (.iadd, 1) := rfl
theorem at_203_190 : ab_at 203 190 = some (.aload_n 0, 1) := rfl
theorem at_203_191 : ab_at 203 191 = some (.getfield 53, 3) := rfl
theorem at_203_194 : ab_at 203 194 = some (.iload_n 3, 1) := rfl
theorem at_203_195 : ab_at 203 195 = some (.iaload, 1) := rfl
theorem at_203_196 : ab_at 203 196 = some (.iastore, 1) := rfl
theorem at_203_197 : ab_at 203 197 = some (.iinc 2 1, 3) := rfl
theorem at_203_200 : ab_at 203 200 = some (.goto (-64), 3) := rfl
theorem at_203_203 : ab_at 203 203 = some (.iload_n 1, 1) := rfl
theorem at_203_204 : ab_at 203 204 = some (.ireturn, 1) := rfl
theorem at_204_0 : ab_at 204 0 = some (.iconst 0, 1) := rfl
theorem at_204_1 : ab_at 204 1 = some (.istore_n 1, 1) := rfl
theorem at_204_2 : ab_at 204 2 = some (.iconst 0, 1) := rfl
theorem at_204_3 : ab_at 204 3 = some (.istore_n 2, 1) := rfl
theorem at_204_4 : ab_at 204 4 = some (.iload_n 2, 1) := rfl
theorem at_204_5 : ab_at 204 5 = some (.aload_n 0, 1) := rfl
theorem at_204_6 : ab_at 204 6 = some (.getfield 7, 3) := rfl
theorem at_204_9 : ab_at 204 9 = some (.sipush 236, 3) := rfl
theorem at_204_12 : ab_at 204 12 = some (.iaload, 1) := rfl
theorem at_204_13 : ab_at 204 13 = some (.if_icmp .ge 41, 3) := rfl
theorem at_204_16 : ab_at 204 16 = some (.iload_n 1, 1) := rfl
theorem at_204_17 : ab_at 204 17 = some (.aload_n 0, 1) := rfl
theorem at_204_18 : ab_at 204 18 = some (.getfield 7, 3) := rfl
theorem at_204_21 : ab_at 204 21 = some (.bipush 30, 2) := rfl
theorem at_204_23 : ab_at 204 23 = some (.iload_n 2, 1) := rfl
theorem at_204_24 : ab_at 204 24 = some (.iadd, 1) := rfl
theorem at_204_25 : ab_at 204 25 = some (.iaload, 1) := rfl
theorem at_204_26 : ab_at 204 26 = some (.bipush (-4), 2) := rfl
theorem at_204_28 : ab_at 204 28 = some (.if_icmp .ne 7, 3) := rfl
theorem at_204_31 : ab_at 204 31 = some (.iconst 0, 1) := rfl
theorem at_204_32 : ab_at 204 32 = some (.goto 14, 3) := rfl
theorem at_204_35 : ab_at 204 35 = some (.iconst 1, 1) := rfl
theorem at_204_36 : ab_at 204 36 = some (.aload_n 0, 1) := rfl
theorem at_204_37 : ab_at 204 37 = some (.getfield 7, 3) := rfl
theorem at_204_40 : ab_at 204 40 = some (.bipush 30, 2) := rfl
theorem at_204_42 : ab_at 204 42 = some (.iload_n 2, 1) := rfl
theorem at_204_43 : ab_at 204 43 = some (.iadd, 1) := rfl
theorem at_204_44 : ab_at 204 44 = some (.iaload, 1) := rfl
theorem at_204_45 : ab_at 204 45 = some (.ishl, 1) := rfl
theorem at_204_46 : ab_at 204 46 = some (.ior, 1) := rfl
theorem at_204_47 : ab_at 204 47 = some (.istore_n 1, 1) := rfl
theorem at_204_48 : ab_at 204 48 = some (.iinc 2 1, 3) := rfl
theorem at_204_51 : ab_at 204 51 = some (.goto (-47), 3) := rfl
theorem at_204_54 : ab_at 204 54 = some (.iconst 0, 1) := rfl
theorem at_204_55 : ab_at 204 55 = some (.istore_n 2, 1) := rfl
theorem at_204_56 : ab_at 204 56 = some (.iload_n 2, 1) := rfl
theorem at_204_57 : ab_at 204 57 = some (.bipush 20, 2) := rfl
theorem at_204_59 : ab_at 204 59 = some (.if_icmp .ge 73, 3) := rfl
theorem at_204_62 : ab_at 204 62 = some (.iconst 0, 1) := rfl
theorem at_204_63 : ab_at 204 63 = some (.istore_n 3, 1) := rfl
theorem at_204_64 : ab_at 204 64 = some (.iload_n 3, 1) := rfl
theorem at_204_65 : ab_at 204 65 = some (.aload_n 0, 1) := rfl
theorem at_204_66 : ab_at 204 66 = some (.getfield 7, 3) := rfl
theorem at_204_69 : ab_at 204 69 = some (.sipush 237, 3) := rfl
theorem at_204_72 : ab_at 204 72 = some (.iaload, 1) := rfl
theorem at_204_73 : ab_at 204 73 = some (.if_icmp .ge 53, 3) := rfl
theorem at_204_76 : ab_at 204 76 = some (.iconst 0, 1) := rfl
theorem at_204_77 : ab_at 204 77 = some (.istore 4, 2) := rfl
theorem at_204_79 : ab_at 204 79 = some (.iload 4, 2) := rfl
theorem at_204_81 : ab_at 204 81 = some (.aload_n 0, 1) := rfl
theorem at_204_82 : ab_at 204 82 = some (.getfield 7, 3) := rfl
theorem at_204_85 : ab_at 204 85 = some (.bipush 76, 2) := rfl
theorem at_204_87 : ab_at 204 87 = some (.iload_n 3, 1) := rfl
theorem at_204_88 : ab_at 204 88 = some (.iadd, 1) := rfl
theorem at_204_89 : ab_at 204 89 = some (.iaload, 1) := rfl
theorem at_204_90 : ab_at 204 90 = some (.if_icmp .ge 30, 3) := rfl
theorem at_204_93 : ab_at 204 93 = some (.iload_n 1, 1) := rfl
theorem at_204_94 : ab_at 204 94 = some (.iload_n 3, 1) := rfl
theorem at_204_95 : ab_at 204 95 = some (.ishr, 1) := rfl
theorem at_204_96 : ab_at 204 96 = some (.iconst 1, 1) := rfl
theorem at_204_97 : ab_at 204 97 = some (.iand, 1) := rfl
theorem at_204_98 : ab_at 204 98 = some (.iconst 1, 1) := rfl
theorem at_204_99 : ab_at 204 99 = some (.if_icmp .ne 21, 3) := rfl
theorem at_204_102 : ab_at 204 102 = some (.iload_n 1, 1) := rfl
theorem at_204_103 : ab_at 204 103 = some (.iconst 1, 1) := rfl
theorem at_204_104 : ab_at 204 104 = some (.aload_n 0, 1) := rfl
theorem at_204_105 : ab_at 204 105 = some (.iload_n 3, 1) := rfl
theorem at_204_106 : ab_at 204 106 = some (.iload 4, 2) := rfl
theorem at_204_108 : ab_at 204 108 = some (.invokevirtual 287, 3) := rfl
theorem at_204_111 : ab_at 204 111 = some (.ishl, 1) := rfl
theorem at_204_112 : ab_at 204 112 = some (.ior, 1) := rfl
theorem at_204_113 : ab_at 204 113 = some (.istore_n 1, 1) := rfl
theorem at_204_114 : ab_at 204 114 = some (.iinc 4 1, 3) := rfl
theorem at_204_117 : ab_at 204 117 = some (.goto (-38), 3) := rfl
theorem at_204_120 : ab_at 204 120 = some (.iinc 3 1, 3) := rfl
theorem at_204_123 : ab_at 204 123 = some (.goto (-59), 3) := rfl
theorem at_204_126 : ab_at 204 126 = some (.iinc 2 1, 3) := rfl
theorem at_204_129 : ab_at 204 129 = some (.goto (-73), 3) := rfl
theorem at_204_132 : ab_at 204 132 = some (.iconst 0, 1) := rfl
theorem at_204_133 : ab_at 204 133 = some (.istore_n 2, 1) := rfl
theorem at_204_134 : ab_at 204 134 = some (.iconst 0, 1) := rfl
theorem at_204_135 : ab_at 204 135 = some (.istore_n 3, 1) := rfl
theorem at_204_136 : ab_at 204 136 = some (.iload_n 3, 1) := rfl
theorem at_204_137 : ab_at 204 137 = some (.aload_n 0, 1) := rfl
theorem at_204_138 : ab_at 204 138 = some (.getfield 7, 3) := rfl
theorem at_204_141 : ab_at 204 141 = some (.sipush 237, 3) := rfl
theorem at_204_144 : ab_at 204 144 = some (.iaload, 1) := rfl
theorem at_204_145 : ab_at 204 145 = some (.if_icmp .ge 55, 3) := rfl
theorem at_204_148 : ab_at 204 148 = some (.iload_n 1, 1) := rfl
theorem at_204_149 : ab_at 204 149 = some (.iload_n 3, 1) := rfl
theorem at_204_150 : ab_at 204 150 = some (.ishr, 1) := rfl
theorem at_204_151 : ab_at 204 151 = some (.iconst 1, 1) := rfl
theorem at_204_152 : ab_at 204 152 = some (.iand, 1) := rfl
theorem at_204_153 : ab_at 204 153 = some (.ifCond .ne 41, 3) := rfl
theorem at_204_156 : ab_at 204 156 = some (.aload_n 0, 1) := rfl
theorem at_204_157 : ab_at 204 157 = some (.getfield 7, 3) := rfl
theorem at_204_160 : ab_at 204 160 = some (.bipush 36, 2) := rfl
theorem at_204_162 : ab_at 204 162 = some (.iload_n 3, 1) := rfl
theorem at_204_163 : ab_at 204 163 = some (.iadd, 1) := rfl
theorem at_204_164 : ab_at 204 164 = some (.iaload, 1) := rfl
theorem at_204_165 : ab_at 204 165 = some (.bipush 8, 2) := rfl
theorem at_204_167 : ab_at 204 167 = some (.if_icmp .eq 27, 3) := rfl
theorem at_204_170 : ab_at 204 170 = some (.aload_n 0, 1) := rfl
theorem at_204_171 : ab_at 204 171 = some (.getfield 7, 3) := rfl
theorem at_204_174 : ab_at 204 174 = some (.bipush 36, 2) := rfl
theorem at_204_176 : ab_at 204 176 = some (.iload_n 3, 1) := rfl
theorem at_204_177 : ab_at 204 177 = some (.iadd, 1) := rfl
theorem at_204_178 : ab_at 204 178 = some (.bipush 8, 2) := rfl
theorem at_204_180 : ab_at 204 180 = some (.iastore, 1) := rfl
theorem at_204_181 : ab_at 204 181 = some (.aload_n 0, 1) := rfl
theorem at_204_182 : ab_at 204 182 = some (.getfield 7, 3) := rfl
theorem at_204_185 : ab_at 204 185 = some (.bipush 76, 2) := rfl
theorem at_204_187 : ab_at 204 187 = some (.iload_n 3, 1) := rfl
theorem at_204_188 : ab_at 204 188 = some (.iadd, 1) := rfl
theorem at_204_189 : ab_at 204 189 = some (.iconst 0, 1) := rfl
theorem at_204_190 : ab_at 204 190 = some (.iastore, 1) := rfl
theorem at_204_191 : ab_at 204 191 = some (.iinc 2 1, 3) := rfl
theorem at_204_194 : ab_at 204 194 = some (.iinc 3 1, 3) := rfl
theorem at_204_197 : ab_at 204 197 = some (.goto (-61), 3) := rfl
theorem at_204_200 : ab_at 204 200 = some (.iload_n 2, 1) := rfl
theorem at_204_201 : ab_at 204 201 = some (.ireturn, 1) := rfl
theorem at_205_0 : ab_at 205 0 = some (.aload_n 0, 1) := rfl
theorem at_205_1 : ab_at 205 1 = some (.iload_n 1, 1) := rfl
theorem at_205_2 : ab_at 205 2 = some (.iload_n 2, 1) := rfl
theorem at_205_3 : ab_at 205 3 = some (.invokevirtual 204, 3) := rfl
theorem at_205_6 : ab_at 205 6 = some (.ifCond .eq 11, 3) := rfl
theorem at_205_9 : ab_at 205 9 = some (.aload_n 0, 1) := rfl
theorem at_205_10 : ab_at 205 10 = some (.iload_n 3, 1) := rfl
theorem at_205_11 : ab_at 205 11 = some (.invokevirtual 201, 3) := rfl
theorem at_205_14 : ab_at 205 14 = some (.ifCond .ne 5, 3) := rfl
theorem at_205_17 : ab_at 205 17 = some (.iconst (-1), 1) := rfl
theorem at_205_18 : ab_at 205 18 = some (.ireturn, 1) := rfl
theorem at_205_19 : ab_at 205 19 = some (.aload_n 0, 1) := rfl
theorem at_205_20 : ab_at 205 20 = some (.getfield 7, 3) := rfl
theorem at_205_23 : ab_at 205 23 = some (.bipush 36, 2) := rfl
theorem at_205_25 : ab_at 205 25 = some (.iload_n 3, 1) := rfl
theorem at_205_26 : ab_at 205 26 = some (.iadd, 1) := rfl
theorem at_205_27 : ab_at 205 27 = some (.iaload, 1) := rfl
theorem at_205_28 : ab_at 205 28 = some (.bipush 8, 2) := rfl
theorem at_205_30 : ab_at 205 30 = some (.if_icmp .eq 14, 3) := rfl
theorem at_205_33 : ab_at 205 33 = some (.aload_n 0, 1) := rfl
theorem at_205_34 : ab_at 205 34 = some (.iconst 0, 1) := rfl
theorem at_205_35 : ab_at 205 35 = some (.iload_n 3, 1) := rfl
theorem at_205_36 : ab_at 205 36 = some (.iload_n 1, 1) := rfl
theorem at_205_37 : ab_at 205 37 = some (.iload_n 2, 1) := rfl
theorem at_205_38 : ab_at 205 38 = some (.invokevirtual 177, 3) := rfl
theorem at_205_41 : ab_at 205 41 = some (.ifCond .ne 6, 3) := rfl
theorem at_205_44 : ab_at 205 44 = some (.bipush (-2), 2) := rfl
theorem at_205_46 : ab_at 205 46 = some (.ireturn, 1) := rfl
theorem at_205_47 : ab_at 205 47 = some (.aload_n 0, 1) := rfl
theorem at_205_48 : ab_at 205 48 = some (.iload_n 1, 1) := rfl
theorem at_205_49 : ab_at 205 49 = some (.iload_n 2, 1) := rfl
theorem at_205_50 : ab_at 205 50 = some (.invokevirtual 287, 3) := rfl
theorem at_205_53 : ab_at 205 53 = some (.istore 4, 2) := rfl
theorem at_205_55 : ab_at 205 55 = some (.aload_n 0, 1) := rfl
theorem at_205_56 : ab_at 205 56 = some (.getfield 7, 3) := rfl
theorem at_205_59 : ab_at 205 59 = some (.bipush 116, 2) := rfl
theorem at_205_61 : ab_at 205 61 = some (.bipush 6, 2) := rfl
theorem at_205_63 : ab_at 205 63 = some (.iload_n 1, 1) := rfl
theorem at_205_64 : ab_at 205 64 = some (.imul, 1) := rfl
theorem at_205_65 : ab_at 205 65 = some (.iadd, 1) := rfl
theorem at_205_66 : ab_at 205 66 = some (.iload_n 2, 1) := rfl
theorem at_205_67 : ab_at 205 67 = some (.iadd, 1) := rfl
theorem at_205_68 : ab_at 205 68 = some (.iload_n 3, 1) := rfl
theorem at_205_69 : ab_at 205 69 = some (.iastore, 1) := rfl
theorem at_205_70 : ab_at 205 70 = some (.iload 4, 2) := rfl
theorem at_205_72 : ab_at 205 72 = some (.ireturn, 1) := rfl
theorem at_206_0 : ab_at 206 0 = some (.aload_n 0, 1) := rfl
theorem at_206_1 : ab_at 206 1 = some (.iload_n 1, 1) := rfl
theorem at_206_2 : ab_at 206 2 = some (.invokevirtual 201, 3) := rfl
theorem at_206_5 : ab_at 206 5 = some (.ifCond .eq 46, 3) := rfl
theorem at_206_8 : ab_at 206 8 = some (.aload_n 0, 1) := rfl
theorem at_206_9 : ab_at 206 9 = some (.getfield 7, 3) := rfl
theorem at_206_12 : ab_at 206 12 = some (.bipush 36, 2) := rfl
theorem at_206_14 : ab_at 206 14 = some (.iload_n 1, 1) := rfl
theorem at_206_15 : ab_at 206 15 = some (.iadd, 1) := rfl
theorem at_206_16 : ab_at 206 16 = some (.iaload, 1) := rfl
theorem at_206_17 : ab_at 206 17 = some (.iconst 1, 1) := rfl
theorem at_206_18 : ab_at 206 18 = some (.if_icmp .gt 33, 3) := rfl
theorem at_206_21 : ab_at 206 21 = some (.iload_n 2, 1) := rfl
theorem at_206_22 : ab_at 206 22 = some (.i2l, 1) := rfl
theorem at_206_23 : ab_at 206 23 = some (.lconst 0, 1) := rfl
theorem at_206_24 : ab_at 206 24 = some (.aload_n 0, 1) := rfl
theorem at_206_25 : ab_at 206 25 = some (.getfield 7, 3) := rfl
theorem at_206_28 : ab_at 206 28 = some (.bipush 36, 2) := rfl
theorem at_206_30 : ab_at 206 30 = some (.iload_n 1, 1) := rfl
theorem at_206_31 : ab_at 206 31 = some (.iadd, 1) := rfl
theorem at_206_32 : ab_at 206 32 = some (.iaload, 1) := rfl
theorem at_206_33 : ab_at 206 33 = some (.ifCond .ne 9, 3) := rfl
theorem at_206_36 : ab_at 206 36 = some (.ldc2_w 321, 3) := rfl
theorem at_206_39 : ab_at 206 39 = some (.goto 6, 3) := rfl
theorem at_206_42 : ab_at 206 42 = some (.ldc2_w 323, 3) := rfl
theorem at_206_45 : ab_at 206 45 = some (.invokestatic 71, 3) := rfl
theorem at_206_48 : ab_at 206 48 = some (.ifCond .ne 5, 3) := rfl
theorem at_206_51 : ab_at 206 51 = some (.iconst (-1), 1) := rfl
theorem at_206_52 : ab_at 206 52 = some (.ireturn, 1) := rfl
theorem at_206_53 : ab_at 206 53 = some (.aload_n 0, 1) := rfl
theorem at_206_54 : ab_at 206 54 = some (.getfield 7, 3) := rfl
theorem at_206_57 : ab_at 206 57 = some (.bipush 96, 2) := rfl
theorem at_206_59 : ab_at 206 59 = some (.iload_n 1, 1) := rfl
theorem at_206_60 : ab_at 206 60 = some (.iadd, 1) := rfl
theorem at_206_61 : ab_at 206 61 = some (.iaload, 1) := rfl
theorem at_206_62 : ab_at 206 62 = some (.istore_n 3, 1) := rfl
theorem at_206_63 : ab_at 206 63 = some (.aload_n 0, 1) := rfl
theorem at_206_64 : ab_at 206 64 = some (.getfield 7, 3) := rfl
theorem at_206_67 : ab_at 206 67 = some (.bipush 96, 2) := rfl
theorem at_206_69 : ab_at 206 69 = some (.iload_n 1, 1) := rfl
theorem at_206_70 : ab_at 206 70 = some (.iadd, 1) := rfl
theorem at_206_71 : ab_at 206 71 = some (.iload_n 2, 1) := rfl
theorem at_206_72 : ab_at 206 72 = some (.iastore, 1) := rfl
theorem at_206_73 : ab_at 206 73 = some (.iload_n 3, 1) := rfl
theorem at_206_74 : ab_at 206 74 = some (.ireturn, 1) := rfl
theorem at_207_0 : ab_at 207 0 = some (.iload_n 2, 1) := rfl
theorem at_207_1 : ab_at 207 1 = some (.i2l, 1) := rfl
theorem at_207_2 : ab_at 207 2 = some (.lconst 1, 1) := rfl
theorem at_207_3 : ab_at 207 3 = some (.ldc2_w 325, 3) := rfl
theorem at_207_6 : ab_at 207 6 = some (.invokestatic 71, 3) := rfl
theorem at_207_9 : ab_at 207 9 = some (.ifCond .eq 31, 3) := rfl
theorem at_207_12 : ab_at 207 12 = some (.aload_n 0, 1) := rfl
theorem at_207_13 : ab_at 207 13 = some (.iload_n 3, 1) := rfl
theorem at_207_14 : ab_at 207 14 = some (.invokevirtual 201, 3) := rfl
theorem at_207_17 : ab_at 207 17 = some (.ifCond .eq 23, 3) := rfl
theorem at_207_20 : ab_at 207 20 = some (.aload_n 0, 1) := rfl
theorem at_207_21 : ab_at 207 21 = some (.iload 4, 2) := rfl
theorem at_207_23 : ab_at 207 23 = some (.invokevirtual 201, 3) := rfl
theorem at_207_26 : ab_at 207 26 = some (.ifCond .eq 14, 3) := rfl
theorem at_207_29 : ab_at 207 29 = some (.iload 5, 2) := rfl
theorem at_207_31 : ab_at 207 31 = some (.i2l, 1) := rfl
theorem at_207_32 : ab_at 207 32 = some (.lconst 0, 1) := rfl
theorem at_207_33 : ab_at 207 33 = some (.lconst 1, 1) := rfl
theorem at_207_34 : ab_at 207 34 = some (.invokestatic 71, 3) := rfl
theorem at_207_37 : ab_at 207 37 = some (.ifCond .ne 5, 3) := rfl
theorem at_207_40 : ab_at 207 40 = some (.iconst (-1), 1) := rfl
theorem at_207_41 : ab_at 207 41 = some (.ireturn, 1) := rfl
theorem at_207_42 : ab_at 207 42 = some (.iload_n 1, 1) := rfl
theorem at_207_43 : ab_at 207 43 = some (.istore 6, 2) := rfl
theorem at_207_45 : ab_at 207 45 = some (.iconst 0, 1) := rfl
theorem at_207_46 : ab_at 207 46 = some (.istore 7, 2) := rfl
theorem at_207_48 : ab_at 207 48 = some (.aload_n 0, 1) := rfl
theorem at_207_49 : ab_at 207 49 = some (.iconst 0, 1) := rfl
theorem at_207_50 : ab_at 207 50 = some (.putfield 213, 3) := rfl
theorem at_207_53 : ab_at 207 53 = some (.iconst 0, 1) := rfl
theorem at_207_54 : ab_at 207 54 = some (.istore 8, 2) := rfl
theorem at_207_56 : ab_at 207 56 = some (.iload 8, 2) := rfl
theorem at_207_58 : ab_at 207 58 = some (.iload_n 2, 1) := rfl
theorem at_207_59 : ab_at 207 59 = some (.if_icmp .ge 84, 3) := rfl
theorem at_207_62 : ab_at 207 62 = some (.iconst 0, 1) := rfl
theorem at_207_63 : ab_at 207 63 = some (.istore 9, 2) := rfl
theorem at_207_65 : ab_at 207 65 = some (.iload 9, 2) := rfl
theorem at_207_67 : ab_at 207 67 = some (.iconst 4, 1) := rfl
theorem at_207_68 : ab_at 207 68 = some (.if_icmp .ge 42, 3) := rfl
theorem at_207_71 : ab_at 207 71 = some (.iload 6, 2) := rfl
theorem at_207_73 : ab_at 207 73 = some (.ldc_w 327, 3) := rfl
theorem at_207_76 : ab_at 207 76 = some (.imul, 1) := rfl
theorem at_207_77 : ab_at 207 77 = some (.sipush 12345, 3) := rfl
theorem at_207_80 : ab_at 207 80 = some (.iadd, 1) := rfl
theorem at_207_81 : ab_at 207 81 = some (.istore 6, 2) := rfl
theorem at_207_83 : ab_at 207 83 = some (.aload_n 0, 1) := rfl
theorem at_207_84 : ab_at 207 84 = some (.getfield 38, 3) := rfl
theorem at_207_87 : ab_at 207 87 = some (.iload 9, 2) := rfl
theorem at_207_89 : ab_at 207 89 = some (.iload 6, 2) := rfl
theorem at_207_91 : ab_at 207 91 = some (.bipush 16, 2) := rfl
theorem at_207_93 : ab_at 207 93 = some (.ishr, 1) := rfl
theorem at_207_94 : ab_at 207 94 = some (.sipush 32767, 3) := rfl
theorem at_207_97 : ab_at 207 97 = some (.iand, 1) := rfl
theorem at_207_98 : ab_at 207 98 = some (.bipush 9, 2) := rfl
theorem at_207_100 : ab_at 207 100 = some (.irem, 1) := rfl
theorem at_207_101 : ab_at 207 101 = some (.iconst 4, 1) := rfl
theorem at_207_102 : ab_at 207 102 = some (.isub, 1) := rfl
theorem at_207_103 : ab_at 207 103 = some (.iastore, 1) := rfl
theorem at_207_104 : ab_at 207 104 = some (.iinc 9 1, 3) := rfl
theorem at_207_107 : ab_at 207 107 = some (.goto (-42), 3) := rfl
theorem at_207_110 : ab_at 207 110 = some (.aload_n 0, 1) := rfl
theorem at_207_111 : ab_at 207 111 = some (.bipush 20, 2) := rfl
theorem at_207_113 : ab_at 207 113 = some (.iload_n 3, 1) := rfl
theorem at_207_114 : ab_at 207 114 = some (.iload 4, 2) := rfl
theorem at_207_116 : ab_at 207 116 = some (.invokevirtual 239, 3) := rfl
theorem at_207_119 : ab_at 207 119 = some (.pop2, 1) := rfl
theorem at_207_120 : ab_at 207 120 = some (.iload 7, 2) := rfl
theorem at_207_122 : ab_at 207 122 = some (.aload_n 0, 1) := rfl
theorem at_207_123 : ab_at 207 123 = some (.getfield 232, 3) := rfl
theorem at_207_126 : ab_at 207 126 = some (.ifCond .eq 7, 3) := rfl
theorem at_207_129 : ab_at 207 129 = some (.iconst 1, 1) := rfl
theorem at_207_130 : ab_at 207 130 = some (.goto 4, 3) := rfl
theorem at_207_133 : ab_at 207 133 = some (.iconst 0, 1) := rfl
theorem at_207_134 : ab_at 207 134 = some (.iadd, 1) := rfl
theorem at_207_135 : ab_at 207 135 = some (.istore 7, 2) := rfl
theorem at_207_137 : ab_at 207 137 = some (.iinc 8 1, 3) := rfl
theorem at_207_140 : ab_at 207 140 = some (.goto (-84), 3) := rfl
theorem at_207_143 : ab_at 207 143 = some (.iload 5, 2) := rfl
theorem at_207_145 : ab_at 207 145 = some (.ifCond .ne 10, 3) := rfl
theorem at_207_148 : ab_at 207 148 = some (.aload_n 0, 1) := rfl
theorem at_207_149 : ab_at 207 149 = some (.getfield 213, 3) := rfl
theorem at_207_152 : ab_at 207 152 = some (.goto 5, 3) := rfl
theorem at_207_155 : ab_at 207 155 = some (.iload 7, 2) := rfl
theorem at_207_157 : ab_at 207 157 = some (.ireturn, 1) := rfl
theorem at_208_0 : ab_at 208 0 = some (.iload_n 1, 1) := rfl
theorem at_208_1 : ab_at 208 1 = some (.i2l, 1) := rfl
theorem at_208_2 : ab_at 208 2 = some (.lconst 0, 1) := rfl
theorem at_208_3 : ab_at 208 3 = some (.lconst 1, 1) := rfl
theorem at_208_4 : ab_at 208 4 = some (.invokestatic 71, 3) := rfl
theorem at_208_7 : ab_at 208 7 = some (.ifCond .ne 5, 3) := rfl
theorem at_208_10 : ab_at 208 10 = some (.iconst (-1), 1) := rfl
theorem at_208_11 : ab_at 208 11 = some (.ireturn, 1) := rfl
theorem at_208_12 : ab_at 208 12 = some (.aload_n 0, 1) := rfl
theorem at_208_13 : ab_at 208 13 = some (.getfield 56, 3) := rfl
theorem at_208_16 : ab_at 208 16 = some (.iload_n 1, 1) := rfl
theorem at_208_17 : ab_at 208 17 = some (.baload, 1) := rfl
theorem at_208_18 : ab_at 208 18 = some (.ifCond .eq 7, 3) := rfl
theorem at_208_21 : ab_at 208 21 = some (.iconst 1, 1) := rfl
theorem at_208_22 : ab_at 208 22 = some (.goto 4, 3) := rfl
theorem at_208_25 : ab_at 208 25 = some (.iconst 0, 1) := rfl
theorem at_208_26 : ab_at 208 26 = some (.istore_n 2, 1) := rfl
theorem at_208_27 : ab_at 208 27 = some (.aload_n 0, 1) := rfl
theorem at_208_28 : ab_at 208 28 = some (.iconst 0, 1) := rfl
theorem at_208_29 : ab_at 208 29 = some (.sipush 238, 3) := rfl
theorem at_208_32 : ab_at 208 32 = some (.iload_n 1, 1) := rfl
theorem at_208_33 : ab_at 208 33 = some (.imul, 1) := rfl
theorem at_208_34 : ab_at 208 34 = some (.sipush 238, 3) := rfl
theorem at_208_37 : ab_at 208 37 = some (.iadd, 1) := rfl
theorem at_208_38 : ab_at 208 38 = some (.invokevirtual 156, 3) := rfl
theorem at_208_41 : ab_at 208 41 = some (.aload_n 0, 1) := rfl
theorem at_208_42 : ab_at 208 42 = some (.getfield 56, 3) := rfl
theorem at_208_45 : ab_at 208 45 = some (.iload_n 1, 1) := rfl
theorem at_208_46 : ab_at 208 46 = some (.iconst 1, 1) := rfl
theorem at_208_47 : ab_at 208 47 = some (.bastore, 1) := rfl
theorem at_208_48 : ab_at 208 48 = some (.iload_n 2, 1) := rfl
theorem at_208_49 : ab_at 208 49 = some (.ireturn, 1) := rfl
theorem at_209_0 : ab_at 209 0 = some (.iload_n 1, 1) := rfl
theorem at_209_1 : ab_at 209 1 = some (.i2l, 1) := rfl
theorem at_209_2 : ab_at 209 2 = some (.lconst 0, 1) := rfl
theorem at_209_3 : ab_at 209 3 = some (.lconst 1, 1) := rfl
theorem at_209_4 : ab_at 209 4 = some (.invokestatic 71, 3) := rfl
theorem at_209_7 : ab_at 209 7 = some (.ifCond .ne 5, 3) := rfl
theorem at_209_10 : ab_at 209 10 = some (.iconst (-1), 1) := rfl
theorem at_209_11 : ab_at 209 11 = some (.ireturn, 1) := rfl
theorem at_209_12 : ab_at 209 12 = some (.aload_n 0, 1) := rfl
theorem at_209_13 : ab_at 209 13 = some (.getfield 56, 3) := rfl
theorem at_209_16 : ab_at 209 16 = some (.iload_n 1, 1) := rfl
theorem at_209_17 : ab_at 209 17 = some (.baload, 1) := rfl
theorem at_209_18 : ab_at 209 18 = some (.ifCond .ne 6, 3) := rfl
theorem at_209_21 : ab_at 209 21 = some (.bipush (-2), 2) := rfl
theorem at_209_23 : ab_at 209 23 = some (.ireturn, 1) := rfl
theorem at_209_24 : ab_at 209 24 = some (.aload_n 0, 1) := rfl
theorem at_209_25 : ab_at 209 25 = some (.sipush 238, 3) := rfl
theorem at_209_28 : ab_at 209 28 = some (.iload_n 1, 1) := rfl
theorem at_209_29 : ab_at 209 29 = some (.imul, 1) := rfl
theorem at_209_30 : ab_at 209 30 = some (.sipush 238, 3) := rfl
theorem at_209_33 : ab_at 209 33 = some (.iadd, 1) := rfl
theorem at_209_34 : ab_at 209 34 = some (.iconst 0, 1) := rfl
theorem at_209_35 : ab_at 209 35 = some (.invokevirtual 156, 3) := rfl
theorem at_209_38 : ab_at 209 38 = some (.aload_n 0, 1) := rfl
theorem at_209_39 : ab_at 209 39 = some (.iconst 0, 1) := rfl
theorem at_209_40 : ab_at 209 40 = some (.invokevirtual 153, 3) := rfl
theorem at_209_43 : ab_at 209 43 = some (.aload_n 0, 1) := rfl
theorem at_209_44 : ab_at 209 44 = some (.iconst 0, 1) := rfl
theorem at_209_45 : ab_at 209 45 = some (.putfield 159, 3) := rfl
theorem at_209_48 : ab_at 209 48 = some (.aload_n 0, 1) := rfl
theorem at_209_49 : ab_at 209 49 = some (.getfield 7, 3) := rfl
theorem at_209_52 : ab_at 209 52 = some (.sipush 237, 3) := rfl
theorem at_209_55 : ab_at 209 55 = some (.iaload, 1) := rfl
theorem at_209_56 : ab_at 209 56 = some (.ireturn, 1) := rfl
theorem at_210_0 : ab_at 210 0 = some (.iload_n 1, 1) := rfl
theorem at_210_1 : ab_at 210 1 = some (.i2l, 1) := rfl
theorem at_210_2 : ab_at 210 2 = some (.lconst 0, 1) := rfl
theorem at_210_3 : ab_at 210 3 = some (.ldc2_w 323, 3) := rfl
theorem at_210_6 : ab_at 210 6 = some (.invokestatic 71, 3) := rfl
theorem at_210_9 : ab_at 210 9 = some (.ifCond .eq 21, 3) := rfl
theorem at_210_12 : ab_at 210 12 = some (.iload_n 2, 1) := rfl
theorem at_210_13 : ab_at 210 13 = some (.i2l, 1) := rfl
theorem at_210_14 : ab_at 210 14 = some (.lconst 0, 1) := rfl
theorem at_210_15 : ab_at 210 15 = some (.ldc2_w 258, 3) := rfl
theorem at_210_18 : ab_at 210 18 = some (.invokestatic 71, 3) := rfl
theorem at_210_21 : ab_at 210 21 = some (.ifCond .eq 9, 3) := rfl
theorem at_210_24 : ab_at 210 24 = some (.iload_n 3, 1) := rfl
theorem at_210_25 : ab_at 210 25 = some (.bipush 40, 2) := rfl
theorem at_210_27 : ab_at 210 27 = some (.if_icmp .le 5, 3) := rfl
theorem at_210_30 : ab_at 210 30 = some (.iconst (-1), 1) := rfl
theorem at_210_31 : ab_at 210 31 = some (.ireturn, 1) := rfl
theorem at_210_32 : ab_at 210 32 = some (.iload_n 3, 1) := rfl
theorem at_210_33 : ab_at 210 33 = some (.ifCond .ge 6, 3) := rfl
theorem at_210_36 : ab_at 210 36 = some (.bipush (-14), 2) := rfl
theorem at_210_38 : ab_at 210 38 = some (.ireturn, 1) := rfl
theorem at_210_39 : ab_at 210 39 = some (.aload_n 0, 1) := rfl
theorem at_210_40 : ab_at 210 40 = some (.getfield 60, 3) := rfl
theorem at_210_43 : ab_at 210 43 = some (.iload_n 1, 1) := rfl
theorem at_210_44 : ab_at 210 44 = some (.iload_n 2, 1) := rfl
theorem at_210_45 : ab_at 210 45 = some (.iastore, 1) := rfl
theorem at_210_46 : ab_at 210 46 = some (.aload_n 0, 1) := rfl
theorem at_210_47 : ab_at 210 47 = some (.getfield 63, 3) := rfl
theorem at_210_50 : ab_at 210 50 = some (.iload_n 1, 1) := rfl
theorem at_210_51 : ab_at 210 51 = some (.iload_n 3, 1) := rfl
theorem at_210_52 : ab_at 210 52 = some (.iastore, 1) := rfl
theorem at_210_53 : ab_at 210 53 = some (.iconst 0, 1) := rfl
theorem at_210_54 : ab_at 210 54 = some (.istore 4, 2) := rfl
theorem at_210_56 : ab_at 210 56 = some (.iload 4, 2) := rfl
theorem at_210_58 : ab_at 210 58 = some (.bipush 40, 2) := rfl
theorem at_210_60 : ab_at 210 60 = some (.if_icmp .ge 22, 3) := rfl
theorem at_210_63 : ab_at 210 63 = some (.aload_n 0, 1) := rfl
theorem at_210_64 : ab_at 210 64 = some (.getfield 66, 3) := rfl
theorem at_210_67 : ab_at 210 67 = some (.bipush 40, 2) := rfl
theorem at_210_69 : ab_at 210 69 = some (.iload_n 1, 1) := rfl
theorem at_210_70 : ab_at 210 70 = some (.imul, 1) := rfl
theorem at_210_71 : ab_at 210 71 = some (.iload 4, 2) := rfl
theorem at_210_73 : ab_at 210 73 = some (.iadd, 1) := rfl
theorem at_210_74 : ab_at 210 74 = some (.iconst 0, 1) := rfl
theorem at_210_75 : ab_at 210 75 = some (.iastore, 1) := rfl
theorem at_210_76 : ab_at 210 76 = some (.iinc 4 1, 3) := rfl
theorem at_210_79 : ab_at 210 79 = some (.goto (-23), 3) := rfl
theorem at_210_82 : ab_at 210 82 = some (.iconst 1, 1) := rfl
theorem at_210_83 : ab_at 210 83 = some (.ireturn, 1) := rfl
theorem at_211_0 : ab_at 211 0 = some (.iload_n 1, 1) := rfl
theorem at_211_1 : ab_at 211 1 = some (.i2l, 1) := rfl
theorem at_211_2 : ab_at 211 2 = some (.lconst 0, 1) := rfl
theorem at_211_3 : ab_at 211 3 = some (.ldc2_w 323, 3) := rfl
theorem at_211_6 : ab_at 211 6 = some (.invokestatic 71, 3) := rfl
theorem at_211_9 : ab_at 211 9 = some (.ifCond .ne 5, 3) := rfl
theorem at_211_12 : ab_at 211 12 = some (.iconst (-1), 1) := rfl
theorem at_211_13 : ab_at 211 13 = some (.ireturn, 1) := rfl
theorem at_211_14 : ab_at 211 14 = some (.aload_n 0, 1) := rfl
theorem at_211_15 : ab_at 211 15 = some (.getfield 60, 3) := rfl
theorem at_211_18 : ab_at 211 18 = some (.iload_n 1, 1) := rfl
theorem at_211_19 : ab_at 211 19 = some (.iaload, 1) := rfl
theorem at_211_20 : ab_at 211 20 = some (.bipush (-4), 2) := rfl
theorem at_211_22 : ab_at 211 22 = some (.if_icmp .ne 6, 3) := rfl
theorem at_211_25 : ab_at 211 25 = some (.bipush (-11), 2) := rfl
theorem at_211_27 : ab_at 211 27 = some (.ireturn, 1) := rfl
theorem at_211_28 : ab_at 211 28 = some (.iload_n 2, 1) := rfl
theorem at_211_29 : ab_at 211 29 = some (.i2l, 1) := rfl
theorem at_211_30 : ab_at 211 30 = some (.lconst 0, 1) := rfl
theorem at_211_31 : ab_at 211 31 = some (.aload_n 0, 1) := rfl
theorem at_211_32 : ab_at 211 32 = some (.getfield 63, 3) := rfl
theorem at_211_35 : ab_at 211 35 = some (.iload_n 1, 1) := rfl
theorem at_211_36 : ab_at 211 36 = some (.iaload, 1) := rfl
theorem at_211_37 : ab_at 211 37 = some (.iconst 1, 1) := rfl
theorem at_211_38 : ab_at 211 38 = some (.isub, 1) := rfl
theorem at_211_39 : ab_at 211 39 = some (.i2l, 1) := rfl
theorem at_211_40 : ab_at 211 40 = some (.invokestatic 71, 3) := rfl
theorem at_211_43 : ab_at 211 43 = some (.ifCond .ne 6, 3) := rfl
theorem at_211_46 : ab_at 211 46 = some (.bipush (-12), 2) := rfl
theorem at_211_48 : ab_at 211 48 = some (.ireturn, 1) := rfl
theorem at_211_49 : ab_at 211 49 = some (.aload_n 0, 1) := rfl
theorem at_211_50 : ab_at 211 50 = some (.getfield 66, 3) := rfl
theorem at_211_53 : ab_at 211 53 = some (.bipush 40, 2) := rfl
theorem at_211_55 : ab_at 211 55 = some (.iload_n 1, 1) := rfl
theorem at_211_56 : ab_at 211 56 = some (.imul, 1) := rfl
theorem at_211_57 : ab_at 211 57 = some (.iload_n 2, 1) := rfl
theorem at_211_58 : ab_at 211 58 = some (.iadd, 1) := rfl
theorem at_211_59 : ab_at 211 59 = some (.aload_n 0, 1) := rfl
theorem at_211_60 : ab_at 211 60 = some (.getfield 60, 3) := rfl
theorem at_211_63 : ab_at 211 63 = some (.iload_n 1, 1) := rfl
theorem at_211_64 : ab_at 211 64 = some (.iaload, 1) := rfl
theorem at_211_65 : ab_at 211 65 = some (.ifCond .ne 13, 3) := rfl
theorem at_211_68 : ab_at 211 68 = some (.iload_n 3, 1) := rfl
theorem at_211_69 : ab_at 211 69 = some (.bipush 24, 2) := rfl
theorem at_211_71 : ab_at 211 71 = some (.ishl, 1) := rfl
theorem at_211_72 : ab_at 211 72 = some (.bipush 24, 2) := rfl
theorem at_211_74 : ab_at 211 74 = some (.ishr, 1) := rfl
theorem at_211_75 : ab_at 211 75 = some (.goto 24, 3) := rfl
theorem at_211_78 : ab_at 211 78 = some (.aload_n 0, 1) := rfl
theorem at_211_79 : ab_at 211 79 = some (.getfield 60, 3) := rfl
theorem at_211_82 : ab_at 211 82 = some (.iload_n 1, 1) := rfl
theorem at_211_83 : ab_at 211 83 = some (.iaload, 1) := rfl
theorem at_211_84 : ab_at 211 84 = some (.iconst 1, 1) := rfl
theorem at_211_85 : ab_at 211 85 = some (.if_icmp .ne 13, 3) := rfl
theorem at_211_88 : ab_at 211 88 = some (.iload_n 3, 1) := rfl
theorem at_211_89 : ab_at 211 89 = some (.bipush 16, 2) := rfl
theorem at_211_91 : ab_at 211 91 = some (.ishl, 1) := rfl
theorem at_211_92 : ab_at 211 92 = some (.bipush 16, 2) := rfl
theorem at_211_94 : ab_at 211 94 = some (.ishr, 1) := rfl
theorem at_211_95 : ab_at 211 95 = some (.goto 4, 3) := rfl
theorem at_211_98 : ab_at 211 98 = some (.iload_n 3, 1) := rfl
theorem at_211_99 : ab_at 211 99 = some (.iastore, 1) := rfl
theorem at_211_100 : ab_at 211 100 = some (.iconst 1, 1) := rfl
theorem at_211_101 : ab_at 211 101 = some (.ireturn, 1) := rfl
theorem at_212_0 : ab_at 212 0 = some (.aload_n 0, 1) := rfl
theorem at_212_1 : ab_at 212 1 = some (.getfield 60, 3) := rfl
theorem at_212_4 : ab_at 212 4 = some (.iload_n 1, 1) := rfl
theorem at_212_5 : ab_at 212 5 = some (.iaload, 1) := rfl
theorem at_212_6 : ab_at 212 6 = some (.bipush (-4), 2) := rfl
theorem at_212_8 : ab_at 212 8 = some (.if_icmp .ne 7, 3) := rfl
theorem at_212_11 : ab_at 212 11 = some (.iconst 1, 1) := rfl
theorem at_212_12 : ab_at 212 12 = some (.goto 39, 3) := rfl
theorem at_212_15 : ab_at 212 15 = some (.aload_n 0, 1) := rfl
theorem at_212_16 : ab_at 212 16 = some (.getfield 60, 3) := rfl
theorem at_212_19 : ab_at 212 19 = some (.iload_n 1, 1) := rfl
theorem at_212_20 : ab_at 212 20 = some (.iaload, 1) := rfl
theorem at_212_21 : ab_at 212 21 = some (.iload_n 2, 1) := rfl
theorem at_212_22 : ab_at 212 22 = some (.if_icmp .eq 7, 3) := rfl
theorem at_212_25 : ab_at 212 25 = some (.iconst 3, 1) := rfl
theorem at_212_26 : ab_at 212 26 = some (.goto 25, 3) := rfl
theorem at_212_29 : ab_at 212 29 = some (.lload_n 3, 1) := rfl
theorem at_212_30 : ab_at 212 30 = some (.lconst 0, 1) := rfl
theorem at_212_31 : ab_at 212 31 = some (.aload_n 0, 1) := rfl
theorem at_212_32 : ab_at 212 32 = some (.getfield 63, 3) := rfl
theorem at_212_35 : ab_at 212 35 = some (.iload_n 1, 1) := rfl
theorem at_212_36 : ab_at 212 36 = some (.iaload, 1) := rfl
theorem at_212_37 : ab_at 212 37 = some (.iconst 1, 1) := rfl
theorem at_212_38 : ab_at 212 38 = some (.isub, 1) := rfl
theorem at_212_39 : ab_at 212 39 = some (.i2l, 1) := rfl
theorem at_212_40 : ab_at 212 40 = some (.invokestatic 71, 3) := rfl
theorem at_212_43 : ab_at 212 43 = some (.ifCond .ne 7, 3) := rfl
theorem at_212_46 : ab_at 212 46 = some (.iconst 2, 1) := rfl
theorem at_212_47 : ab_at 212 47 = some (.goto 4, 3) := rfl
theorem at_212_50 : ab_at 212 50 = some (.iconst 0, 1) := rfl
theorem at_212_51 : ab_at 212 51 = some (.ireturn, 1) := rfl
theorem at_213_0 : ab_at 213 0 = some (.iload_n 1, 1) := rfl
theorem at_213_1 : ab_at 213 1 = some (.i2l, 1) := rfl
theorem at_213_2 : ab_at 213 2 = some (.lconst 0, 1) := rfl
theorem at_213_3 : ab_at 213 3 = some (.ldc2_w 323, 3) := rfl
theorem at_213_6 : ab_at 213 6 = some (.invokestatic 71, 3) := rfl
theorem at_213_9 : ab_at 213 9 = some (.ifCond .eq 28, 3) := rfl
theorem at_213_12 : ab_at 213 12 = some (.iload_n 2, 1) := rfl
theorem at_213_13 : ab_at 213 13 = some (.i2l, 1) := rfl
theorem at_213_14 : ab_at 213 14 = some (.lconst 0, 1) := rfl
theorem at_213_15 : ab_at 213 15 = some (.ldc2_w 258, 3) := rfl
theorem at_213_18 : ab_at 213 18 = some (.invokestatic 71, 3) := rfl
theorem at_213_21 : ab_at 213 21 = some (.ifCond .eq 16, 3) := rfl
theorem at_213_24 : ab_at 213 24 = some (.iload 4, 2) := rfl
theorem at_213_26 : ab_at 213 26 = some (.i2l, 1) := rfl
theorem at_213_27 : ab_at 213 27 = some (.lconst 0, 1) := rfl
theorem at_213_28 : ab_at 213 28 = some (.ldc2_w 328, 3) := rfl
theorem at_213_31 : ab_at 213 31 = some (.invokestatic 71, 3) := rfl
theorem at_213_34 : ab_at 213 34 = some (.ifCond .ne 5, 3) := rfl
theorem at_213_37 : ab_at 213 37 = some (.iconst (-1), 1) := rfl
theorem at_213_38 : ab_at 213 38 = some (.ireturn, 1) := rfl
theorem at_213_39 : ab_at 213 39 = some (.aload_n 0, 1) := rfl
theorem at_213_40 : ab_at 213 40 = some (.iconst 0, 1) := rfl
theorem at_213_41 : ab_at 213 41 = some (.putfield 330, 3) := rfl
theorem at_213_44 : ab_at 213 44 = some (.iconst 0, 1) := rfl
theorem at_213_45 : ab_at 213 45 = some (.istore 5, 2) := rfl
theorem at_213_47 : ab_at 213 47 = some (.iconst 0, 1) := rfl
theorem at_213_48 : ab_at 213 48 = some (.istore 6, 2) := rfl
theorem at_213_50 : ab_at 213 50 = some (.iload 6, 2) := rfl
theorem at_213_52 : ab_at 213 52 = some (.iload 4, 2) := rfl
theorem at_213_54 : ab_at 213 54 = some (.if_icmp .ge 110, 3) := rfl
theorem at_213_57 : ab_at 213 57 = some (.aload_n 0, 1) := rfl
theorem at_213_58 : ab_at 213 58 = some (.getfield 330, 3) := rfl
theorem at_213_61 : ab_at 213 61 = some (.ifCond .ne 103, 3) := rfl
theorem at_213_64 : ab_at 213 64 = some (.iconst 0, 1) := rfl
theorem at_213_65 : ab_at 213 65 = some (.istore 7, 2) := rfl
theorem at_213_67 : ab_at 213 67 = some (.iload 7, 2) := rfl
theorem at_213_69 : ab_at 213 69 = some (.iconst 4, 1) := rfl
theorem at_213_70 : ab_at 213 70 = some (.if_icmp .ge 73, 3) := rfl
theorem at_213_73 : ab_at 213 73 = some (.aload_n 0, 1) := rfl
theorem at_213_74 : ab_at 213 74 = some (.getfield 330, 3) := rfl
theorem at_213_77 : ab_at 213 77 = some (.ifCond .ne 66, 3) := rfl
theorem at_213_80 : ab_at 213 80 = some (.iload_n 3, 1) := rfl
theorem at_213_81 : ab_at 213 81 = some (.i2l, 1) := rfl
theorem at_213_82 : ab_at 213 82 = some (.iconst 4, 1) := rfl
theorem at_213_83 : ab_at 213 83 = some (.iload 6, 2) := rfl
theorem at_213_85 : ab_at 213 85 = some (.imul, 1) := rfl
theorem at_213_86 : ab_at 213 86 = some (.i2l, 1) := rfl
theorem at_213_87 : ab_at 213 87 = some (.ladd, 1) := rfl
theorem at_213_88 : ab_at 213 88 = some (.iload 7, 2) := rfl
theorem at_213_90 : ab_at 213 90 = some (.i2l, 1) := rfl
theorem at_213_91 : ab_at 213 91 = some (.ladd, 1) := rfl
theorem at_213_92 : ab_at 213 92 = some (.lstore 8, 2) := rfl
theorem at_213_94 : ab_at 213 94 = some (.aload_n 0, 1) := rfl
theorem at_213_95 : ab_at 213 95 = some (.aload_n 0, 1) := rfl
theorem at_213_96 : ab_at 213 96 = some (.iload_n 1, 1) := rfl
theorem at_213_97 : ab_at 213 97 = some (.iload_n 2, 1) := rfl
theorem at_213_98 : ab_at 213 98 = some (.lload 8, 2) := rfl
theorem at_213_100 : ab_at 213 100 = some (.invokevirtual 333, 3) := rfl
theorem at_213_103 : ab_at 213 103 = some (.putfield 330, 3) := rfl
theorem at_213_106 : ab_at 213 106 = some (.aload_n 0, 1) := rfl
theorem at_213_107 : ab_at 213 107 = some (.getfield 38, 3) := rfl
theorem at_213_110 : ab_at 213 110 = some (.iload 7, 2) := rfl
theorem at_213_112 : ab_at 213 112 = some (.aload_n 0, 1) := rfl
theorem at_213_113 : ab_at 213 113 = some (.getfield 330, 3) := rfl
theorem at_213_116 : ab_at 213 116 = some (.ifCond .ne 19, 3) := rfl
theorem at_213_119 : ab_at 213 119 = some (.aload_n 0, 1) := rfl
theorem at_213_120 : ab_at 213 120 = some (.getfield 66, 3) := rfl
theorem at_213_123 : ab_at 213 123 = some (.bipush 40, 2) := rfl
theorem at_213_125 : ab_at 213 125 = some (.iload_n 1, 1) := rfl
theorem at_213_126 : ab_at 213 126 = some (.imul, 1) := rfl
theorem at_213_127 : ab_at 213 127 = some (.lload 8, 2) := rfl
theorem at_213_129 : ab_at 213 129 = some (.l2i, 1) := rfl
theorem at_213_130 : ab_at 213 130 = some (.iadd, 1) := rfl
theorem at_213_131 : ab_at 213 131 = some (.iaload, 1) := rfl
theorem at_213_132 : ab_at 213 132 = some (.goto 4, 3) := rfl
theorem at_213_135 : ab_at 213 135 = some (.iconst 0, 1) := rfl
theorem at_213_136 : ab_at 213 136 = some (.iastore, 1) := rfl
theorem at_213_137 : ab_at 213 137 = some (.iinc 7 1, 3) := rfl
theorem at_213_140 : ab_at 213 140 = some (.goto (-73), 3) := rfl
theorem at_213_143 : ab_at 213 143 = some (.aload_n 0, 1) := rfl
theorem at_213_144 : ab_at 213 144 = some (.getfield 330, 3) := rfl
theorem at_213_147 : ab_at 213 147 = some (.ifCond .ne 11, 3) := rfl
theorem at_213_150 : ab_at 213 150 = some (.aload_n 0, 1) := rfl
theorem at_213_151 : ab_at 213 151 = some (.invokevirtual 252, 3) := rfl
theorem at_213_154 : ab_at 213 154 = some (.pop2, 1) := rfl
theorem at_213_155 : ab_at 213 155 = some (.iinc 5 1, 3) := rfl
theorem at_213_158 : ab_at 213 158 = some (.iinc 6 1, 3) := rfl
theorem at_213_161 : ab_at 213 161 = some (.goto (-111), 3) := rfl
theorem at_213_164 : ab_at 213 164 = some (.iload 5, 2) := rfl
theorem at_213_166 : ab_at 213 166 = some (.ireturn, 1) := rfl
theorem at_214_0 : ab_at 214 0 = some (.aload_n 0, 1) := rfl
theorem at_214_1 : ab_at 214 1 = some (.getfield 330, 3) := rfl
theorem at_214_4 : ab_at 214 4 = some (.ireturn, 1) := rfl
theorem at_215_0 : ab_at 215 0 = some (.iconst 0, 1) := rfl
theorem at_215_1 : ab_at 215 1 = some (.istore_n 2, 1) := rfl
theorem at_215_2 : ab_at 215 2 = some (.iconst 0, 1) := rfl
theorem at_215_3 : ab_at 215 3 = some (.istore_n 3, 1) := rfl
theorem at_215_4 : ab_at 215 4 = some (.iload_n 3, 1) := rfl
theorem at_215_5 : ab_at 215 5 = some (.aload_n 0, 1) := rfl
theorem at_215_6 : ab_at 215 6 = some (.getfield 7, 3) := rfl
theorem at_215_9 : ab_at 215 9 = some (.sipush 237, 3) := rfl
theorem at_215_12 : ab_at 215 12 = some (.iaload, 1) := rfl
theorem at_215_13 : ab_at 215 13 = some (.if_icmp .ge 37, 3) := rfl
theorem at_215_16 : ab_at 215 16 = some (.iload_n 2, 1) := rfl
theorem at_215_17 : ab_at 215 17 = some (.aload_n 0, 1) := rfl
theorem at_215_18 : ab_at 215 18 = some (.getfield 7, 3) := rfl
theorem at_215_21 : ab_at 215 21 = some (.bipush 36, 2) := rfl
theorem at_215_23 : ab_at 215 23 = some (.iload_n 3, 1) := rfl
theorem at_215_24 : ab_at 215 24 = some (.iadd, 1) := rfl
theorem at_215_25 : ab_at 215 25 = some (.iaload, 1) := rfl
theorem at_215_26 : ab_at 215 26 = some (.ifCond .ne 15, 3) := rfl
theorem at_215_29 : ab_at 215 29 = some (.aload_n 0, 1) := rfl
theorem at_215_30 : ab_at 215 30 = some (.getfield 7, 3) := rfl
theorem at_215_33 : ab_at 215 33 = some (.bipush 96, 2) := rfl
theorem at_215_35 : ab_at 215 35 = some (.iload_n 3, 1) := rfl
theorem at_215_36 : ab_at 215 36 = some (.iadd, 1) := rfl
theorem at_215_37 : ab_at 215 37 = some (.iaload, 1) := rfl
theorem at_215_38 : ab_at 215 38 = some (.goto 4, 3) := rfl
theorem at_215_41 : ab_at 215 41 = some (.iconst 0, 1) := rfl
theorem at_215_42 : ab_at 215 42 = some (.iadd, 1) := rfl
theorem at_215_43 : ab_at 215 43 = some (.istore_n 2, 1) := rfl
theorem at_215_44 : ab_at 215 44 = some (.iinc 3 1, 3) := rfl
theorem at_215_47 : ab_at 215 47 = some (.goto (-43), 3) := rfl
theorem at_215_50 : ab_at 215 50 = some (.iload_n 1, 1) := rfl
theorem at_215_51 : ab_at 215 51 = some (.tableswitch 89 0 3 #[29, 59, 64, 87], 29) := rfl
theorem at_215_80 : ab_at 215 80 = some (.aload_n 0, 1) := rfl
theorem at_215_81 : ab_at 215 81 = some (.getfield 56, 3) := rfl
theorem at_215_84 : ab_at 215 84 = some (.iconst 0, 1) := rfl
theorem at_215_85 : ab_at 215 85 = some (.baload, 1) := rfl
theorem at_215_86 : ab_at 215 86 = some (.ifCond .eq 7, 3) := rfl
theorem at_215_89 : ab_at 215 89 = some (.iconst 1, 1) := rfl
theorem at_215_90 : ab_at 215 90 = some (.goto 4, 3) := rfl
theorem at_215_93 : ab_at 215 93 = some (.iconst 0, 1) := rfl
theorem at_215_94 : ab_at 215 94 = some (.aload_n 0, 1) := rfl
theorem at_215_95 : ab_at 215 95 = some (.getfield 56, 3) := rfl
theorem at_215_98 : ab_at 215 98 = some (.iconst 1, 1) := rfl
theorem at_215_99 : ab_at 215 99 = some (.baload, 1) := rfl
theorem at_215_100 : ab_at 215 100 = some (.ifCond .eq 7, 3) := rfl
theorem at_215_103 : ab_at 215 103 = some (.iconst 1, 1) := rfl
theorem at_215_104 : ab_at 215 104 = some (.goto 4, 3) := rfl
theorem at_215_107 : ab_at 215 107 = some (.iconst 0, 1) := rfl
theorem at_215_108 : ab_at 215 108 = some (.iadd, 1) := rfl
theorem at_215_109 : ab_at 215 109 = some (.ireturn, 1) := rfl
theorem at_215_110 : ab_at 215 110 = some (.aload_n 0, 1) := rfl
theorem at_215_111 : ab_at 215 111 = some (.getfield 75, 3) := rfl
theorem at_215_114 : ab_at 215 114 = some (.ireturn, 1) := rfl
theorem at_215_115 : ab_at 215 115 = some (.aload_n 0, 1) := rfl
theorem at_215_116 : ab_at 215 116 = some (.getfield 60, 3) := rfl
theorem at_215_119 : ab_at 215 119 = some (.iconst 0, 1) := rfl
theorem at_215_120 : ab_at 215 120 = some (.iaload, 1) := rfl
theorem at_215_121 : ab_at 215 121 = some (.bipush (-4), 2) := rfl
theorem at_215_123 : ab_at 215 123 = some (.if_icmp .ne 8, 3) := rfl
theorem at_215_126 : ab_at 215 126 = some (.bipush (-4), 2) := rfl
theorem at_215_128 : ab_at 215 128 = some (.goto 9, 3) := rfl
theorem at_215_131 : ab_at 215 131 = some (.aload_n 0, 1) := rfl
theorem at_215_132 : ab_at 215 132 = some (.getfield 63, 3) := rfl
theorem at_215_135 : ab_at 215 135 = some (.iconst 0, 1) := rfl
theorem at_215_136 : ab_at 215 136 = some (.iaload, 1) := rfl
theorem at_215_137 : ab_at 215 137 = some (.ireturn, 1) := rfl
theorem at_215_138 : ab_at 215 138 = some (.iload_n 2, 1) := rfl
theorem at_215_139 : ab_at 215 139 = some (.ireturn, 1) := rfl
theorem at_215_140 : ab_at 215 140 = some (.iconst (-1), 1) := rfl
theorem at_215_141 : ab_at 215 141 = some (.ireturn, 1) := rfl
