theorem at_133_0 : ab_at 133 0 = some (.lload_n 0, 1) := rfl
theorem at_133_1 : ab_at 133 1 = some (.lload_n 2, 1) := rfl
theorem at_133_2 : ab_at 133 2 = some (.lcmp, 1) := rfl
theorem at_133_3 : ab_at 133 3 = some (.ifCond .lt 14, 3) := rfl
theorem at_133_6 : ab_at 133 6 = some (.lload_n 0, 1) := rfl
theorem at_133_7 : ab_at 133 7 = some (.lload 4, 2) := rfl
theorem at_133_9 : ab_at 133 9 = some (.lcmp, 1) := rfl
theorem at_133_10 : ab_at 133 10 = some (.ifCond .gt 7, 3) := rfl
theorem at_133_13 : ab_at 133 13 = some (.iconst 1, 1) := rfl
theorem at_133_14 : ab_at 133 14 = some (.goto 4, 3) := rfl
theorem at_133_17 : ab_at 133 17 = some (.iconst 0, 1) := rfl
theorem at_133_18 : ab_at 133 18 = some (.ireturn, 1) := rfl
theorem at_134_0 : ab_at 134 0 = some (.iload_n 1, 1) := rfl
theorem at_134_1 : ab_at 134 1 = some (.i2l, 1) := rfl
theorem at_134_2 : ab_at 134 2 = some (.lconst 0, 1) := rfl
theorem at_134_3 : ab_at 134 3 = some (.ldc2_w 69, 3) := rfl
theorem at_134_6 : ab_at 134 6 = some (.invokestatic 71, 3) := rfl
theorem at_134_9 : ab_at 134 9 = some (.ifCond .ne 5, 3) := rfl
theorem at_134_12 : ab_at 134 12 = some (.iconst (-1), 1) := rfl
theorem at_134_13 : ab_at 134 13 = some (.ireturn, 1) := rfl
theorem at_134_14 : ab_at 134 14 = some (.aload_n 0, 1) := rfl
theorem at_134_15 : ab_at 134 15 = some (.getfield 75, 3) := rfl
theorem at_134_18 : ab_at 134 18 = some (.sipush 320, 3) := rfl
theorem at_134_21 : ab_at 134 21 = some (.if_icmp .ne 6, 3) := rfl
theorem at_134_24 : ab_at 134 24 = some (.bipush (-3), 2) := rfl
theorem at_134_26 : ab_at 134 26 = some (.ireturn, 1) := rfl
theorem at_134_27 : ab_at 134 27 = some (.aload_n 0, 1) := rfl
theorem at_134_28 : ab_at 134 28 = some (.getfield 13, 3) := rfl
theorem at_134_31 : ab_at 134 31 = some (.aload_n 0, 1) := rfl
theorem at_134_32 : ab_at 134 32 = some (.getfield 75, 3) := rfl
theorem at_134_35 : ab_at 134 35 = some (.iload_n 1, 1) := rfl
theorem at_134_36 : ab_at 134 36 = some (.iastore, 1) := rfl
theorem at_134_37 : ab_at 134 37 = some (.aload_n 0, 1) := rfl
theorem at_134_38 : ab_at 134 38 = some (.dup, 1) := rfl
theorem at_134_39 : ab_at 134 39 = some (.getfield 75, 3) := rfl
theorem at_134_42 : ab_at 134 42 = some (.iconst 1, 1) := rfl
theorem at_134_43 : ab_at 134 43 = some (.iadd, 1) := rfl
theorem at_134_44 : ab_at 134 44 = some (.putfield 75, 3) := rfl
theorem at_134_47 : ab_at 134 47 = some (.aload_n 0, 1) := rfl
theorem at_134_48 : ab_at 134 48 = some (.getfield 75, 3) := rfl
theorem at_134_51 : ab_at 134 51 = some (.ireturn, 1) := rfl
theorem at_135_0 : ab_at 135 0 = some (.iload_n 1, 1) := rfl
theorem at_135_1 : ab_at 135 1 = some (.i2l, 1) := rfl
theorem at_135_2 : ab_at 135 2 = some (.lconst 0, 1) := rfl
theorem at_135_3 : ab_at 135 3 = some (.aload_n 0, 1) := rfl
theorem at_135_4 : ab_at 135 4 = some (.getfield 75, 3) := rfl
theorem at_135_7 : ab_at 135 7 = some (.i2l, 1) := rfl
theorem at_135_8 : ab_at 135 8 = some (.invokestatic 71, 3) := rfl
theorem at_135_11 : ab_at 135 11 = some (.ifCond .ne 5, 3) := rfl
theorem at_135_14 : ab_at 135 14 = some (.iconst (-1), 1) := rfl
theorem at_135_15 : ab_at 135 15 = some (.ireturn, 1) := rfl
theorem at_135_16 : ab_at 135 16 = some (.aload_n 0, 1) := rfl
theorem at_135_17 : ab_at 135 17 = some (.getfield 75, 3) := rfl
theorem at_135_20 : ab_at 135 20 = some (.istore_n 2, 1) := rfl
theorem at_135_21 : ab_at 135 21 = some (.aload_n 0, 1) := rfl
theorem at_135_22 : ab_at 135 22 = some (.iload_n 1, 1) := rfl
theorem at_135_23 : ab_at 135 23 = some (.putfield 75, 3) := rfl
theorem at_135_26 : ab_at 135 26 = some (.iload_n 2, 1) := rfl
theorem at_135_27 : ab_at 135 27 = some (.ireturn, 1) := rfl
theorem at_136_0 : ab_at 136 0 = some (.iload_n 1, 1) := rfl
theorem at_136_1 : ab_at 136 1 = some (.aload_n 0, 1) := rfl
theorem at_136_2 : ab_at 136 2 = some (.getfield 75, 3) := rfl
theorem at_136_5 : ab_at 136 5 = some (.if_icmp .ge 12, 3) := rfl
theorem at_136_8 : ab_at 136 8 = some (.aload_n 0, 1) := rfl
theorem at_136_9 : ab_at 136 9 = some (.getfield 13, 3) := rfl
theorem at_136_12 : ab_at 136 12 = some (.iload_n 1, 1) := rfl
theorem at_136_13 : ab_at 136 13 = some (.iaload, 1) := rfl
theorem at_136_14 : ab_at 136 14 = some (.goto 5, 3) := rfl
theorem at_136_17 : ab_at 136 17 = some (.bipush (-4), 2) := rfl
theorem at_136_19 : ab_at 136 19 = some (.ireturn, 1) := rfl
theorem at_137_0 : ab_at 137 0 = some (.aload_n 0, 1) := rfl
theorem at_137_1 : ab_at 137 1 = some (.getfield 79, 3) := rfl
theorem at_137_4 : ab_at 137 4 = some (.ifCond .ne 16, 3) := rfl
theorem at_137_7 : ab_at 137 7 = some (.aload_n 0, 1) := rfl
theorem at_137_8 : ab_at 137 8 = some (.iload_n 1, 1) := rfl
theorem at_137_9 : ab_at 137 9 = some (.putfield 79, 3) := rfl
theorem at_137_12 : ab_at 137 12 = some (.aload_n 0, 1) := rfl
theorem at_137_13 : ab_at 137 13 = some (.aload_n 0, 1) := rfl
theorem at_137_14 : ab_at 137 14 = some (.getfield 82, 3) := rfl
theorem at_137_17 : ab_at 137 17 = some (.putfield 85, 3) := rfl
theorem at_137_20 : ab_at 137 20 = some (.return_, 1) := rfl
theorem at_138_0 : ab_at 138 0 = some (.iconst 0, 1) := rfl
theorem at_138_1 : ab_at 138 1 = some (.istore_n 1, 1) := rfl
theorem at_138_2 : ab_at 138 2 = some (.iload_n 1, 1) := rfl
theorem at_138_3 : ab_at 138 3 = some (.bipush 12, 2) := rfl
theorem at_138_5 : ab_at 138 5 = some (.if_icmp .ge 113, 3) := rfl
theorem at_138_8 : ab_at 138 8 = some (.aload_n 0, 1) := rfl
theorem at_138_9 : ab_at 138 9 = some (.getfield 88, 3) := rfl
theorem at_138_12 : ab_at 138 12 = some (.iconst 1, 1) := rfl
theorem at_138_13 : ab_at 138 13 = some (.if_icmp .ne 105, 3) := rfl
theorem at_138_16 : ab_at 138 16 = some (.aload_n 0, 1) := rfl
theorem at_138_17 : ab_at 138 17 = some (.getfield 91, 3) := rfl
theorem at_138_20 : ab_at 138 20 = some (.aload_n 0, 1) := rfl
theorem at_138_21 : ab_at 138 21 = some (.getfield 82, 3) := rfl
theorem at_138_24 : ab_at 138 24 = some (.isub, 1) := rfl
theorem at_138_25 : ab_at 138 25 = some (.aload_n 0, 1) := rfl
theorem at_138_26 : ab_at 138 26 = some (.getfield 16, 3) := rfl
theorem at_138_29 : ab_at 138 29 = some (.iload_n 1, 1) := rfl
theorem at_138_30 : ab_at 138 30 = some (.iconst 1, 1) := rfl
theorem at_138_31 : ab_at 138 31 = some (.iadd, 1) := rfl
theorem at_138_32 : ab_at 138 32 = some (.iaload, 1) := rfl
theorem at_138_33 : ab_at 138 33 = some (.aload_n 0, 1) := rfl
theorem at_138_34 : ab_at 138 34 = some (.getfield 16, 3) := rfl
theorem at_138_37 : ab_at 138 37 = some (.iload_n 1, 1) := rfl
theorem at_138_38 : ab_at 138 38 = some (.iaload, 1) := rfl
theorem at_138_39 : ab_at 138 39 = some (.isub, 1) := rfl
theorem at_138_40 : ab_at 138 40 = some (.if_icmp .ne 7, 3) := rfl
theorem at_138_43 : ab_at 138 43 = some (.iconst 1, 1) := rfl
theorem at_138_44 : ab_at 138 44 = some (.goto 4, 3) := rfl
theorem at_138_47 : ab_at 138 47 = some (.iconst 0, 1) := rfl
theorem at_138_48 : ab_at 138 48 = some (.istore_n 2, 1) := rfl
theorem at_138_49 : ab_at 138 49 = some (.iconst 0, 1) := rfl
theorem at_138_50 : ab_at 138 50 = some (.istore_n 3, 1) := rfl
theorem at_138_51 : ab_at 138 51 = some (.iload_n 2, 1) := rfl
theorem at_138_52 : ab_at 138 52 = some (.ifCond .eq 54, 3) := rfl
theorem at_138_55 : ab_at 138 55 = some (.iload_n 3, 1) := rfl
theorem at_138_56 : ab_at 138 56 = some (.aload_n 0, 1) := rfl
theorem at_138_57 : ab_at 138 57 = some (.getfield 91, 3) := rfl
theorem at_138_60 : ab_at 138 60 = some (.aload_n 0, 1) := rfl
theorem at_138_61 : ab_at 138 61 = some (.getfield 82, 3) := rfl
theorem at_138_64 : ab_at 138 64 = some (.isub, 1) := rfl
theorem at_138_65 : ab_at 138 65 = some (.if_icmp .ge 41, 3) := rfl
theorem at_138_68 : ab_at 138 68 = some (.aload_n 0, 1) := rfl
theorem at_138_69 : ab_at 138 69 = some (.aload_n 0, 1) := rfl
theorem at_138_70 : ab_at 138 70 = some (.getfield 82, 3) := rfl
theorem at_138_73 : ab_at 138 73 = some (.iload_n 3, 1) := rfl
theorem at_138_74 : ab_at 138 74 = some (.iadd, 1) := rfl
theorem at_138_75 : ab_at 138 75 = some (.invokevirtual 94, 3) := rfl
theorem at_138_78 : ab_at 138 78 = some (.aload_n 0, 1) := rfl
theorem at_138_79 : ab_at 138 79 = some (.getfield 19, 3) := rfl
theorem at_138_82 : ab_at 138 82 = some (.aload_n 0, 1) := rfl
theorem at_138_83 : ab_at 138 83 = some (.getfield 16, 3) := rfl
theorem at_138_86 : ab_at 138 86 = some (.iload_n 1, 1) := rfl
theorem at_138_87 : ab_at 138 87 = some (.iaload, 1) := rfl
theorem at_138_88 : ab_at 138 88 = some (.iload_n 3, 1) := rfl
theorem at_138_89 : ab_at 138 89 = some (.iadd, 1) := rfl
theorem at_138_90 : ab_at 138 90 = some (.iaload, 1) := rfl
theorem at_138_91 : ab_at 138 91 = some (.if_icmp .ne 7, 3) := rfl
theorem at_138_94 : ab_at 138 94 = some (.iconst 1, 1) := rfl
theorem at_138_95 : ab_at 138 95 = some (.goto 4, 3) := rfl
theorem at_138_98 : ab_at 138 98 = some (.iconst 0, 1) := rfl
theorem at_138_99 : ab_at 138 99 = some (.istore_n 2, 1) := rfl
theorem at_138_100 : ab_at 138 100 = some (.iinc 3 1, 3) := rfl
theorem at_138_103 : ab_at 138 103 = some (.goto (-52), 3) := rfl
theorem at_138_106 : ab_at 138 106 = some (.iload_n 2, 1) := rfl
theorem at_138_107 : ab_at 138 107 = some (.ifCond .eq 5, 3) := rfl
theorem at_138_110 : ab_at 138 110 = some (.iload_n 1, 1) := rfl
theorem at_138_111 : ab_at 138 111 = some (.ireturn, 1) := rfl
theorem at_138_112 : ab_at 138 112 = some (.iinc 1 1, 3) := rfl
theorem at_138_115 : ab_at 138 115 = some (.goto (-113), 3) := rfl
theorem at_138_118 : ab_at 138 118 = some (.bipush (-4), 2) := rfl
theorem at_138_120 : ab_at 138 120 = some (.ireturn, 1) := rfl
theorem at_139_0 : ab_at 139 0 = some (.aload_n 0, 1) := rfl
theorem at_139_1 : ab_at 139 1 = some (.getfield 79, 3) := rfl
theorem at_139_4 : ab_at 139 4 = some (.ifCond .le 4, 3) := rfl
theorem at_139_7 : ab_at 139 7 = some (.return_, 1) := rfl
theorem at_139_8 : ab_at 139 8 = some (.aload_n 0, 1) := rfl
theorem at_139_9 : ab_at 139 9 = some (.aload_n 0, 1) := rfl
theorem at_139_10 : ab_at 139 10 = some (.getfield 91, 3) := rfl
theorem at_139_13 : ab_at 139 13 = some (.invokevirtual 94, 3) := rfl
theorem at_139_16 : ab_at 139 16 = some (.bipush 32, 2) := rfl
theorem at_139_18 : ab_at 139 18 = some (.if_icmp .ne 16, 3) := rfl
theorem at_139_21 : ab_at 139 21 = some (.aload_n 0, 1) := rfl
theorem at_139_22 : ab_at 139 22 = some (.dup, 1) := rfl
theorem at_139_23 : ab_at 139 23 = some (.getfield 91, 3) := rfl
theorem at_139_26 : ab_at 139 26 = some (.iconst 1, 1) := rfl
theorem at_139_27 : ab_at 139 27 = some (.iadd, 1) := rfl
theorem at_139_28 : ab_at 139 28 = some (.putfield 91, 3) := rfl
theorem at_139_31 : ab_at 139 31 = some (.goto (-23), 3) := rfl
theorem at_139_34 : ab_at 139 34 = some (.aload_n 0, 1) := rfl
theorem at_139_35 : ab_at 139 35 = some (.aload_n 0, 1) := rfl
theorem at_139_36 : ab_at 139 36 = some (.getfield 91, 3) := rfl
theorem at_139_39 : ab_at 139 39 = some (.putfield 82, 3) := rfl
theorem at_139_42 : ab_at 139 42 = some (.aload_n 0, 1) := rfl
theorem at_139_43 : ab_at 139 43 = some (.aload_n 0, 1) := rfl
theorem at_139_44 : ab_at 139 44 = some (.getfield 91, 3) := rfl
theorem at_139_47 : ab_at 139 47 = some (.invokevirtual 94, 3) := rfl
theorem at_139_50 : ab_at 139 50 = some (.istore_n 1, 1) := rfl
theorem at_139_51 : ab_at 139 51 = some (.aload_n 0, 1) := rfl
theorem at_139_52 : ab_at 139 52 = some (.iconst 0, 1) := rfl
theorem at_139_53 : ab_at 139 53 = some (.putfield 98, 3) := rfl
theorem at_139_56 : ab_at 139 56 = some (.iload_n 1, 1) := rfl
theorem at_139_57 : ab_at 139 57 = some (.bipush (-4), 2) := rfl
theorem at_139_59 : ab_at 139 59 = some (.if_icmp .ne 11, 3) := rfl
theorem at_139_62 : ab_at 139 62 = some (.aload_n 0, 1) := rfl
theorem at_139_63 : ab_at 139 63 = some (.iconst 0, 1) := rfl
theorem at_139_64 : ab_at 139 64 = some (.putfield 88, 3) := rfl
theorem at_139_67 : ab_at 139 67 = some (.goto 202, 3) := rfl
theorem at_139_70 : ab_at 139 70 = some (.iload_n 1, 1) := rfl
theorem at_139_71 : ab_at 139 71 = some (.i2l, 1) := rfl
theorem at_139_72 : ab_at 139 72 = some (.ldc2_w 101, 3) := rfl
theorem at_139_75 : ab_at 139 75 = some (.ldc2_w 103, 3) := rfl
theorem at_139_78 : ab_at 139 78 = some (.invokestatic 71, 3) := rfl
theorem at_139_81 : ab_at 139 81 = some (.ifCond .eq 45, 3) := rfl
theorem at_139_84 : ab_at 139 84 = some (.aload_n 0, 1) := rfl
theorem at_139_85 : ab_at 139 85 = some (.aload_n 0, 1) := rfl
theorem at_139_86 : ab_at 139 86 = some (.getfield 91, 3) := rfl
theorem at_139_89 : ab_at 139 89 = some (.invokevirtual 94, 3) := rfl
theorem at_139_92 : ab_at 139 92 = some (.i2l, 1) := rfl
theorem at_139_93 : ab_at 139 93 = some (.ldc2_w 101, 3) := rfl
theorem at_139_96 : ab_at 139 96 = some (.ldc2_w 103, 3) := rfl
theorem at_139_99 : ab_at 139 99 = some (.invokestatic 71, 3) := rfl
theorem at_139_102 : ab_at 139 102 = some (.ifCond .eq 16, 3) := rfl
theorem at_139_105 : ab_at 139 105 = some (.aload_n 0, 1) := rfl
theorem at_139_106 : ab_at 139 106 = some (.dup, 1) := rfl
theorem at_139_107 : ab_at 139 107 = some (.getfield 91, 3) := rfl
theorem at_139_110 : ab_at 139 110 = some (.iconst 1, 1) := rfl
theorem at_139_111 : ab_at 139 111 = some (.iadd, 1) := rfl
theorem at_139_112 : ab_at 139 112 = some (.putfield 91, 3) := rfl
theorem at_139_115 : ab_at 139 115 = some (.goto (-31), 3) := rfl
theorem at_139_118 : ab_at 139 118 = some (.aload_n 0, 1) := rfl
theorem at_139_119 : ab_at 139 119 = some (.iconst 1, 1) := rfl
theorem at_139_120 : ab_at 139 120 = some (.putfield 88, 3) := rfl
theorem at_139_123 : ab_at 139 123 = some (.goto 146, 3) := rfl
theorem at_139_126 : ab_at 139 126 = some (.iload_n 1, 1) := rfl
theorem at_139_127 : ab_at 139 127 = some (.i2l, 1) := rfl
theorem at_139_128 : ab_at 139 128 = some (.ldc2_w 105, 3) := rfl
theorem at_139_131 : ab_at 139 131 = some (.ldc2_w 107, 3) := rfl
theorem at_139_134 : ab_at 139 134 = some (.invokestatic 71, 3) := rfl
theorem at_139_137 : ab_at 139 137 = some (.ifCond .eq 106, 3) := rfl
theorem at_139_140 : ab_at 139 140 = some (.aload_n 0, 1) := rfl
theorem at_139_141 : ab_at 139 141 = some (.aload_n 0, 1) := rfl
theorem at_139_142 : ab_at 139 142 = some (.getfield 91, 3) := rfl
theorem at_139_145 : ab_at 139 145 = some (.invokevirtual 94, 3) := rfl
theorem at_139_148 : ab_at 139 148 = some (.i2l, 1) := rfl
theorem at_139_149 : ab_at 139 149 = some (.ldc2_w 105, 3) := rfl
theorem at_139_152 : ab_at 139 152 = some (.ldc2_w 107, 3) := rfl
theorem at_139_155 : ab_at 139 155 = some (.invokestatic 71, 3) := rfl
theorem at_139_158 : ab_at 139 158 = some (.ifCond .eq 59, 3) := rfl
theorem at_139_161 : ab_at 139 161 = some (.aload_n 0, 1) := rfl
theorem at_139_162 : ab_at 139 162 = some (.aload_n 0, 1) := rfl
theorem at_139_163 : ab_at 139 163 = some (.getfield 91, 3) := rfl
theorem at_139_166 : ab_at 139 166 = some (.aload_n 0, 1) := rfl
theorem at_139_167 : ab_at 139 167 = some (.getfield 82, 3) := rfl
theorem at_139_170 : ab_at 139 170 = some (.isub, 1) := rfl
theorem at_139_171 : ab_at 139 171 = some (.iconst 2, 1) := rfl
theorem at_139_172 : ab_at 139 172 = some (.if_icmp .ge 25, 3) := rfl
theorem at_139_175 : ab_at 139 175 = some (.bipush 10, 2) := rfl
theorem at_139_177 : ab_at 139 177 = some (.aload_n 0, 1) := rfl
theorem at_139_178 : ab_at 139 178 = some (.getfield 98, 3) := rfl
theorem at_139_181 : ab_at 139 181 = some (.imul, 1) := rfl
theorem at_139_182 : ab_at 139 182 = some (.aload_n 0, 1) := rfl
theorem at_139_183 : ab_at 139 183 = some (.aload_n 0, 1) := rfl
theorem at_139_184 : ab_at 139 184 = some (.getfield 91, 3) := rfl
theorem at_139_187 : ab_at 139 187 = some (.invokevirtual 94, 3) := rfl
theorem at_139_190 : ab_at 139 190 = some (.iadd, 1) := rfl
theorem at_139_191 : ab_at 139 191 = some (.bipush 48, 2) := rfl
theorem at_139_193 : ab_at 139 193 = some (.isub, 1) := rfl
theorem at_139_194 : ab_at 139 194 = some (.goto 7, 3) := rfl
theorem at_139_197 : ab_at 139 197 = some (.aload_n 0, 1) := rfl
theorem at_139_198 : ab_at 139 198 = some (.getfield 98, 3) := rfl
theorem at_139_201 : ab_at 139 201 = some (.putfield 98, 3) := rfl
theorem at_139_204 : ab_at 139 204 = some (.aload_n 0, 1) := rfl
theorem at_139_205 : ab_at 139 205 = some (.dup, 1) := rfl
theorem at_139_206 : ab_at 139 206 = some (.getfield 91, 3) := rfl
theorem at_139_209 : ab_at 139 209 = some (.iconst 1, 1) := rfl
theorem at_139_210 : ab_at 139 210 = some (.iadd, 1) := rfl
theorem at_139_211 : ab_at 139 211 = some (.putfield 91, 3) := rfl
theorem at_139_214 : ab_at 139 214 = some (.goto (-74), 3) := rfl
theorem at_139_217 : ab_at 139 217 = some (.aload_n 0, 1) := rfl
theorem at_139_218 : ab_at 139 218 = some (.iconst 2, 1) := rfl
theorem at_139_219 : ab_at 139 219 = some (.putfield 88, 3) := rfl
theorem at_139_222 : ab_at 139 222 = some (.aload_n 0, 1) := rfl
theorem at_139_223 : ab_at 139 223 = some (.getfield 91, 3) := rfl
theorem at_139_226 : ab_at 139 226 = some (.aload_n 0, 1) := rfl
theorem at_139_227 : ab_at 139 227 = some (.getfield 82, 3) := rfl
theorem at_139_230 : ab_at 139 230 = some (.isub, 1) := rfl
theorem at_139_231 : ab_at 139 231 = some (.iconst 2, 1) := rfl
theorem at_139_232 : ab_at 139 232 = some (.if_icmp .le 37, 3) := rfl
theorem at_139_235 : ab_at 139 235 = some (.aload_n 0, 1) := rfl
theorem at_139_236 : ab_at 139 236 = some (.iconst 1, 1) := rfl
theorem at_139_237 : ab_at 139 237 = some (.invokevirtual 109, 3) := rfl
theorem at_139_240 : ab_at 139 240 = some (.goto 29, 3) := rfl
theorem at_139_243 : ab_at 139 243 = some (.aload_n 0, 1) := rfl
theorem at_139_244 : ab_at 139 244 = some (.iconst 3, 1) := rfl
theorem at_139_245 : ab_at 139 245 = some (.putfield 88, 3) := rfl
theorem at_139_248 : ab_at 139 248 = some (.aload_n 0, 1) := rfl
theorem at_139_249 : ab_at 139 249 = some (.dup, 1) := rfl
theorem at_139_250 : ab_at 139 250 = some (.getfield 91, 3) := rfl
theorem at_139_253 : ab_at 139 253 = some (.iconst 1, 1) := rfl
theorem at_139_254 : ab_at 139 254 = some (.iadd, 1) := rfl
theorem at_139_255 : ab_at 139 255 = some (.putfield 91, 3) := rfl
theorem at_139_258 : ab_at 139 258 = some (.iload_n 1, 1) := rfl
theorem at_139_259 : ab_at 139 259 = some (.bipush 59, 2) := rfl
theorem at_139_261 : ab_at 139 261 = some (.if_icmp .eq 8, 3) := rfl
theorem at_139_264 : ab_at 139 264 = some (.aload_n 0, 1) := rfl
theorem at_139_265 : ab_at 139 265 = some (.iconst 1, 1) := rfl
theorem at_139_266 : ab_at 139 266 = some (.invokevirtual 109, 3) := rfl
theorem at_139_269 : ab_at 139 269 = some (.return_, 1) := rfl
theorem at_140_0 : ab_at 140 0 = some (.aload_n 0, 1) := rfl
theorem at_140_1 : ab_at 140 1 = some (.getfield 79, 3) := rfl
theorem at_140_4 : ab_at 140 4 = some (.ifCond .ne 16, 3) := rfl
theorem at_140_7 : ab_at 140 7 = some (.aload_n 0, 1) := rfl
theorem at_140_8 : ab_at 140 8 = some (.getfield 88, 3) := rfl
theorem at_140_11 : ab_at 140 11 = some (.iconst 2, 1) := rfl
theorem at_140_12 : ab_at 140 12 = some (.if_icmp .eq 8, 3) := rfl
theorem at_140_15 : ab_at 140 15 = some (.aload_n 0, 1) := rfl
theorem at_140_16 : ab_at 140 16 = some (.iconst 2, 1) := rfl
theorem at_140_17 : ab_at 140 17 = some (.invokevirtual 109, 3) := rfl
theorem at_140_20 : ab_at 140 20 = some (.aload_n 0, 1) := rfl
theorem at_140_21 : ab_at 140 21 = some (.getfield 79, 3) := rfl
theorem at_140_24 : ab_at 140 24 = some (.ifCond .ne 23, 3) := rfl
theorem at_140_27 : ab_at 140 27 = some (.aload_n 0, 1) := rfl
theorem at_140_28 : ab_at 140 28 = some (.getfield 98, 3) := rfl
theorem at_140_31 : ab_at 140 31 = some (.i2l, 1) := rfl
theorem at_140_32 : ab_at 140 32 = some (.iload_n 1, 1) := rfl
theorem at_140_33 : ab_at 140 33 = some (.i2l, 1) := rfl
theorem at_140_34 : ab_at 140 34 = some (.iload_n 2, 1) := rfl
theorem at_140_35 : ab_at 140 35 = some (.i2l, 1) := rfl
theorem at_140_36 : ab_at 140 36 = some (.invokestatic 71, 3) := rfl
theorem at_140_39 : ab_at 140 39 = some (.ifCond .ne 8, 3) := rfl
theorem at_140_42 : ab_at 140 42 = some (.aload_n 0, 1) := rfl
theorem at_140_43 : ab_at 140 43 = some (.iconst 3, 1) := rfl
theorem at_140_44 : ab_at 140 44 = some (.invokevirtual 109, 3) := rfl
theorem at_140_47 : ab_at 140 47 = some (.aload_n 0, 1) := rfl
theorem at_140_48 : ab_at 140 48 = some (.getfield 79, 3) := rfl
theorem at_140_51 : ab_at 140 51 = some (.ifCond .ne 10, 3) := rfl
theorem at_140_54 : ab_at 140 54 = some (.aload_n 0, 1) := rfl
theorem at_140_55 : ab_at 140 55 = some (.getfield 98, 3) := rfl
theorem at_140_58 : ab_at 140 58 = some (.goto 4, 3) := rfl
theorem at_140_61 : ab_at 140 61 = some (.iload_n 1, 1) := rfl
theorem at_140_62 : ab_at 140 62 = some (.istore_n 3, 1) := rfl
theorem at_140_63 : ab_at 140 63 = some (.aload_n 0, 1) := rfl
theorem at_140_64 : ab_at 140 64 = some (.invokevirtual 113, 3) := rfl
theorem at_140_67 : ab_at 140 67 = some (.iload_n 3, 1) := rfl
theorem at_140_68 : ab_at 140 68 = some (.ireturn, 1) := rfl
theorem at_141_0 : ab_at 141 0 = some (.aload_n 0, 1) := rfl
theorem at_141_1 : ab_at 141 1 = some (.getfield 79, 3) := rfl
theorem at_141_4 : ab_at 141 4 = some (.ifCond .ne 16, 3) := rfl
theorem at_141_7 : ab_at 141 7 = some (.aload_n 0, 1) := rfl
theorem at_141_8 : ab_at 141 8 = some (.getfield 88, 3) := rfl
theorem at_141_11 : ab_at 141 11 = some (.iconst 3, 1) := rfl
theorem at_141_12 : ab_at 141 12 = some (.if_icmp .eq 8, 3) := rfl
theorem at_141_15 : ab_at 141 15 = some (.aload_n 0, 1) := rfl
theorem at_141_16 : ab_at 141 16 = some (.iconst 2, 1) := rfl
theorem at_141_17 : ab_at 141 17 = some (.invokevirtual 109, 3) := rfl
theorem at_141_20 : ab_at 141 20 = some (.aload_n 0, 1) := rfl
theorem at_141_21 : ab_at 141 21 = some (.invokevirtual 113, 3) := rfl
theorem at_141_24 : ab_at 141 24 = some (.return_, 1) := rfl
theorem at_142_0 : ab_at 142 0 = some (.iload_n 0, 1) := rfl
theorem at_142_1 : ab_at 142 1 = some (.iconst 2, 1) := rfl
theorem at_142_2 : ab_at 142 2 = some (.if_icmp .ge 7, 3) := rfl
theorem at_142_5 : ab_at 142 5 = some (.iconst 0, 1) := rfl
theorem at_142_6 : ab_at 142 6 = some (.goto 13, 3) := rfl
theorem at_142_9 : ab_at 142 9 = some (.iload_n 0, 1) := rfl
theorem at_142_10 : ab_at 142 10 = some (.iconst 4, 1) := rfl
theorem at_142_11 : ab_at 142 11 = some (.if_icmp .ne 7, 3) := rfl
theorem at_142_14 : ab_at 142 14 = some (.iconst 1, 1) := rfl
theorem at_142_15 : ab_at 142 15 = some (.goto 4, 3) := rfl
theorem at_142_18 : ab_at 142 18 = some (.iconst 2, 1) := rfl
theorem at_142_19 : ab_at 142 19 = some (.ireturn, 1) := rfl
theorem at_143_0 : ab_at 143 0 = some (.aload_n 0, 1) := rfl
theorem at_143_1 : ab_at 143 1 = some (.getfield 7, 3) := rfl
theorem at_143_4 : ab_at 143 4 = some (.sipush 951, 3) := rfl
theorem at_143_7 : ab_at 143 7 = some (.iaload, 1) := rfl
theorem at_143_8 : ab_at 143 8 = some (.istore_n 3, 1) := rfl
theorem at_143_9 : ab_at 143 9 = some (.iload_n 3, 1) := rfl
theorem at_143_10 : ab_at 143 10 = some (.bipush 20, 2) := rfl
theorem at_143_12 : ab_at 143 12 = some (.if_icmp .ne 9, 3) := rfl
theorem at_143_15 : ab_at 143 15 = some (.aload_n 0, 1) := rfl
theorem at_143_16 : ab_at 143 16 = some (.iconst 5, 1) := rfl
theorem at_143_17 : ab_at 143 17 = some (.invokevirtual 109, 3) := rfl
theorem at_143_20 : ab_at 143 20 = some (.return_, 1) := rfl
theorem at_143_21 : ab_at 143 21 = some (.aload_n 0, 1) := rfl
theorem at_143_22 : ab_at 143 22 = some (.invokevirtual 113, 3) := rfl
theorem at_143_25 : ab_at 143 25 = some (.aload_n 0, 1) := rfl
theorem at_143_26 : ab_at 143 26 = some (.getfield 7, 3) := rfl
theorem at_143_29 : ab_at 143 29 = some (.sipush 750, 3) := rfl
theorem at_143_32 : ab_at 143 32 = some (.iload_n 3, 1) := rfl
theorem at_143_33 : ab_at 143 33 = some (.iadd, 1) := rfl
theorem at_143_34 : ab_at 143 34 = some (.iload_n 1, 1) := rfl
theorem at_143_35 : ab_at 143 35 = some (.iastore, 1) := rfl
theorem at_143_36 : ab_at 143 36 = some (.aload_n 0, 1) := rfl
theorem at_143_37 : ab_at 143 37 = some (.getfield 7, 3) := rfl
theorem at_143_40 : ab_at 143 40 = some (.sipush 770, 3) := rfl
theorem at_143_43 : ab_at 143 43 = some (.iload_n 3, 1) := rfl
theorem at_143_44 : ab_at 143 44 = some (.iadd, 1) := rfl
theorem at_143_45 : ab_at 143 45 = some (.iload_n 2, 1) := rfl
theorem at_143_46 : ab_at 143 46 = some (.iastore, 1) := rfl
theorem at_143_47 : ab_at 143 47 = some (.aload_n 0, 1) := rfl
theorem at_143_48 : ab_at 143 48 = some (.getfield 7, 3) := rfl
theorem at_143_51 : ab_at 143 51 = some (.sipush 810, 3) := rfl
theorem at_143_54 : ab_at 143 54 = some (.iload_n 3, 1) := rfl
theorem at_143_55 : ab_at 143 55 = some (.iadd, 1) := rfl
theorem at_143_56 : ab_at 143 56 = some (.iconst 0, 1) := rfl
theorem at_143_57 : ab_at 143 57 = some (.iastore, 1) := rfl
theorem at_143_58 : ab_at 143 58 = some (.iconst 0, 1) := rfl
theorem at_143_59 : ab_at 143 59 = some (.istore 4, 2) := rfl
theorem at_143_61 : ab_at 143 61 = some (.iload_n 1, 1) := rfl
theorem at_143_62 : ab_at 143 62 = some (.bipush 7, 2) := rfl
theorem at_143_64 : ab_at 143 64 = some (.if_icmp .ne 62, 3) := rfl
theorem at_143_67 : ab_at 143 67 = some (.aload_n 0, 1) := rfl
theorem at_143_68 : ab_at 143 68 = some (.iconst 0, 1) := rfl
theorem at_143_69 : ab_at 143 69 = some (.bipush 19, 2) := rfl
theorem at_143_71 : ab_at 143 71 = some (.invokevirtual 116, 3) := rfl
theorem at_143_74 : ab_at 143 74 = some (.istore 5, 2) := rfl
theorem at_143_76 : ab_at 143 76 = some (.aload_n 0, 1) := rfl
theorem at_143_77 : ab_at 143 77 = some (.getfield 7, 3) := rfl
theorem at_143_80 : ab_at 143 80 = some (.sipush 830, 3) := rfl
theorem at_143_83 : ab_at 143 83 = some (.bipush 6, 2) := rfl
theorem at_143_85 : ab_at 143 85 = some (.iload_n 3, 1) := rfl
theorem at_143_86 : ab_at 143 86 = some (.imul, 1) := rfl
theorem at_143_87 : ab_at 143 87 = some (.iadd, 1) := rfl
theorem at_143_88 : ab_at 143 88 = some (.iload 4, 2) := rfl
theorem at_143_90 : ab_at 143 90 = some (.bipush 6, 2) := rfl
theorem at_143_92 : ab_at 143 92 = some (.if_icmp .ge 8, 3) := rfl
theorem at_143_95 : ab_at 143 95 = some (.iload 4, 2) := rfl
theorem at_143_97 : ab_at 143 97 = some (.goto 4, 3) := rfl
theorem at_143_100 : ab_at 143 100 = some (.iconst 5, 1) := rfl
theorem at_143_101 : ab_at 143 101 = some (.iadd, 1) := rfl
theorem at_143_102 : ab_at 143 102 = some (.iload 5, 2) := rfl
theorem at_143_104 : ab_at 143 104 = some (.iastore, 1) := rfl
theorem at_143_105 : ab_at 143 105 = some (.iinc 4 1, 3) := rfl
theorem at_143_108 : ab_at 143 108 = some (.aload_n 0, 1) := rfl
theorem at_143_109 : ab_at 143 109 = some (.getfield 79, 3) := rfl
theorem at_143_112 : ab_at 143 112 = some (.ifCond .ne 85, 3) := rfl
theorem at_143_115 : ab_at 143 115 = some (.aload_n 0, 1) := rfl
theorem at_143_116 : ab_at 143 116 = some (.getfield 88, 3) := rfl
theorem at_143_119 : ab_at 143 119 = some (.iconst 2, 1) := rfl
theorem at_143_120 : ab_at 143 120 = some (.if_icmp .eq (-53), 3) := rfl
theorem at_143_123 : ab_at 143 123 = some (.goto 74, 3) := rfl
theorem at_143_126 : ab_at 143 126 = some (.iload_n 1, 1) := rfl
theorem at_143_127 : ab_at 143 127 = some (.iconst 2, 1) := rfl
theorem at_143_128 : ab_at 143 128 = some (.if_icmp .ge 31, 3) := rfl
theorem at_143_131 : ab_at 143 131 = some (.aload_n 0, 1) := rfl
theorem at_143_132 : ab_at 143 132 = some (.getfield 7, 3) := rfl
theorem at_143_135 : ab_at 143 135 = some (.sipush 810, 3) := rfl
theorem at_143_138 : ab_at 143 138 = some (.iload_n 3, 1) := rfl
theorem at_143_139 : ab_at 143 139 = some (.iadd, 1) := rfl
theorem at_143_140 : ab_at 143 140 = some (.aload_n 0, 1) := rfl
theorem at_143_141 : ab_at 143 141 = some (.iconst 0, 1) := rfl
theorem at_143_142 : ab_at 143 142 = some (.iload_n 1, 1) := rfl
theorem at_143_143 : ab_at 143 143 = some (.ifCond .ne 8, 3) := rfl
theorem at_143_146 : ab_at 143 146 = some (.bipush 99, 2) := rfl
theorem at_143_148 : ab_at 143 148 = some (.goto 4, 3) := rfl
theorem at_143_151 : ab_at 143 151 = some (.iconst 3, 1) := rfl
theorem at_143_152 : ab_at 143 152 = some (.invokevirtual 116, 3) := rfl
theorem at_143_155 : ab_at 143 155 = some (.iastore, 1) := rfl
theorem at_143_156 : ab_at 143 156 = some (.goto 41, 3) := rfl
theorem at_143_159 : ab_at 143 159 = some (.iload 4, 2) := rfl
theorem at_143_161 : ab_at 143 161 = some (.iload_n 1, 1) := rfl
theorem at_143_162 : ab_at 143 162 = some (.invokestatic 120, 3) := rfl
theorem at_143_165 : ab_at 143 165 = some (.if_icmp .ge 32, 3) := rfl
theorem at_143_168 : ab_at 143 168 = some (.aload_n 0, 1) := rfl
theorem at_143_169 : ab_at 143 169 = some (.getfield 7, 3) := rfl
theorem at_143_172 : ab_at 143 172 = some (.sipush 830, 3) := rfl
theorem at_143_175 : ab_at 143 175 = some (.bipush 6, 2) := rfl
theorem at_143_177 : ab_at 143 177 = some (.iload_n 3, 1) := rfl
theorem at_143_178 : ab_at 143 178 = some (.imul, 1) := rfl
theorem at_143_179 : ab_at 143 179 = some (.iadd, 1) := rfl
theorem at_143_180 : ab_at 143 180 = some (.iload 4, 2) := rfl
theorem at_143_182 : ab_at 143 182 = some (.iadd, 1) := rfl
theorem at_143_183 : ab_at 143 183 = some (.aload_n 0, 1) := rfl
theorem at_143_184 : ab_at 143 184 = some (.iconst 0, 1) := rfl
theorem at_143_185 : ab_at 143 185 = some (.bipush 19, 2) := rfl
theorem at_143_187 : ab_at 143 187 = some (.invokevirtual 116, 3) := rfl
theorem at_143_190 : ab_at 143 190 = some (.iastore, 1) := rfl
theorem at_143_191 : ab_at 143 191 = some (.iinc 4 1, 3) := rfl
theorem at_143_194 : ab_at 143 194 = some (.goto (-35), 3) := rfl
theorem at_143_197 : ab_at 143 197 = some (.aload_n 0, 1) := rfl
theorem at_143_198 : ab_at 143 198 = some (.getfield 7, 3) := rfl
theorem at_143_201 : ab_at 143 201 = some (.sipush 790, 3) := rfl
theorem at_143_204 : ab_at 143 204 = some (.iload_n 3, 1) := rfl
theorem at_143_205 : ab_at 143 205 = some (.iadd, 1) := rfl
theorem at_143_206 : ab_at 143 206 = some (.iload 4, 2) := rfl
theorem at_143_208 : ab_at 143 208 = some (.iastore, 1) := rfl
theorem at_143_209 : ab_at 143 209 = some (.aload_n 0, 1) := rfl
theorem at_143_210 : ab_at 143 210 = some (.getfield 7, 3) := rfl
theorem at_143_213 : ab_at 143 213 = some (.sipush 951, 3) := rfl
theorem at_143_216 : ab_at 143 216 = some (.dup2, 1) := rfl
theorem at_143_217 : ab_at 143 217 = some (.iaload, 1) := rfl
theorem at_143_218 : ab_at 143 218 = some (.iconst 1, 1) := rfl
theorem at_143_219 : ab_at 143 219 = some (.iadd, 1) := rfl
theorem at_143_220 : ab_at 143 220 = some (.iastore, 1) := rfl
theorem at_143_221 : ab_at 143 221 = some (.aload_n 0, 1) := rfl
theorem at_143_222 : ab_at 143 222 = some (.getfield 7, 3) := rfl
theorem at_143_225 : ab_at 143 225 = some (.sipush 720, 3) := rfl
theorem at_143_228 : ab_at 143 228 = some (.iload_n 2, 1) := rfl
theorem at_143_229 : ab_at 143 229 = some (.iadd, 1) := rfl
theorem at_143_230 : ab_at 143 230 = some (.dup2, 1) := rfl
theorem at_143_231 : ab_at 143 231 = some (.iaload, 1) := rfl
theorem at_143_232 : ab_at 143 232 = some (.iconst 1, 1) := rfl
theorem at_143_233 : ab_at 143 233 = some (.iadd, 1) := rfl
theorem at_143_234 : ab_at 143 234 = some (.iastore, 1) := rfl
theorem at_143_235 : ab_at 143 235 = some (.aload_n 0, 1) := rfl
theorem at_143_236 : ab_at 143 236 = some (.invokevirtual 123, 3) := rfl
theorem at_143_239 : ab_at 143 239 = some (.return_, 1) := rfl
theorem at_144_0 : ab_at 144 0 = some (.aload_n 0, 1) := rfl
theorem at_144_1 : ab_at 144 1 = some (.invokevirtual 113, 3) := rfl
theorem at_144_4 : ab_at 144 4 = some (.aload_n 0, 1) := rfl
theorem at_144_5 : ab_at 144 5 = some (.getfield 7, 3) := rfl
theorem at_144_8 : ab_at 144 8 = some (.sipush 726, 3) := rfl
theorem at_144_11 : ab_at 144 11 = some (.iload_n 2, 1) := rfl
theorem at_144_12 : ab_at 144 12 = some (.iadd, 1) := rfl
theorem at_144_13 : ab_at 144 13 = some (.iload_n 1, 1) := rfl
theorem at_144_14 : ab_at 144 14 = some (.bipush 9, 2) := rfl
theorem at_144_16 : ab_at 144 16 = some (.isub, 1) := rfl
theorem at_144_17 : ab_at 144 17 = some (.iastore, 1) := rfl
theorem at_144_18 : ab_at 144 18 = some (.aload_n 0, 1) := rfl
theorem at_144_19 : ab_at 144 19 = some (.getfield 7, 3) := rfl
theorem at_144_22 : ab_at 144 22 = some (.sipush 744, 3) := rfl
theorem at_144_25 : ab_at 144 25 = some (.iload_n 2, 1) := rfl
theorem at_144_26 : ab_at 144 26 = some (.iadd, 1) := rfl
theorem at_144_27 : ab_at 144 27 = some (.iload_n 1, 1) := rfl
theorem at_144_28 : ab_at 144 28 = some (.bipush 9, 2) := rfl
theorem at_144_30 : ab_at 144 30 = some (.if_icmp .ne 8, 3) := rfl
theorem at_144_33 : ab_at 144 33 = some (.bipush (-4), 2) := rfl
theorem at_144_35 : ab_at 144 35 = some (.goto 10, 3) := rfl
theorem at_144_38 : ab_at 144 38 = some (.aload_n 0, 1) := rfl
theorem at_144_39 : ab_at 144 39 = some (.iconst 0, 1) := rfl
theorem at_144_40 : ab_at 144 40 = some (.bipush 19, 2) := rfl
theorem at_144_42 : ab_at 144 42 = some (.invokevirtual 116, 3) := rfl
theorem at_144_45 : ab_at 144 45 = some (.iastore, 1) := rfl
theorem at_144_46 : ab_at 144 46 = some (.aload_n 0, 1) := rfl
theorem at_144_47 : ab_at 144 47 = some (.getfield 7, 3) := rfl
theorem at_144_50 : ab_at 144 50 = some (.sipush 732, 3) := rfl
theorem at_144_53 : ab_at 144 53 = some (.iload_n 2, 1) := rfl
theorem at_144_54 : ab_at 144 54 = some (.iadd, 1) := rfl
theorem at_144_55 : ab_at 144 55 = some (.iload_n 1, 1) := rfl
theorem at_144_56 : ab_at 144 56 = some (.bipush 11, 2) := rfl
theorem at_144_58 : ab_at 144 58 = some (.if_icmp .ne 8, 3) := rfl
theorem at_144_61 : ab_at 144 61 = some (.bipush (-4), 2) := rfl
theorem at_144_63 : ab_at 144 63 = some (.goto 9, 3) := rfl
theorem at_144_66 : ab_at 144 66 = some (.aload_n 0, 1) := rfl
theorem at_144_67 : ab_at 144 67 = some (.iconst 1, 1) := rfl
theorem at_144_68 : ab_at 144 68 = some (.iconst 5, 1) := rfl
theorem at_144_69 : ab_at 144 69 = some (.invokevirtual 116, 3) := rfl
theorem at_144_72 : ab_at 144 72 = some (.iastore, 1) := rfl
theorem at_144_73 : ab_at 144 73 = some (.aload_n 0, 1) := rfl
theorem at_144_74 : ab_at 144 74 = some (.getfield 7, 3) := rfl
theorem at_144_77 : ab_at 144 77 = some (.sipush 738, 3) := rfl
theorem at_144_80 : ab_at 144 80 = some (.iload_n 2, 1) := rfl
theorem at_144_81 : ab_at 144 81 = some (.iadd, 1) := rfl
theorem at_144_82 : ab_at 144 82 = some (.iload_n 1, 1) := rfl
theorem at_144_83 : ab_at 144 83 = some (.bipush 10, 2) := rfl
theorem at_144_85 : ab_at 144 85 = some (.if_icmp .ne 12, 3) := rfl
theorem at_144_88 : ab_at 144 88 = some (.aload_n 0, 1) := rfl
theorem at_144_89 : ab_at 144 89 = some (.iconst 1, 1) := rfl
theorem at_144_90 : ab_at 144 90 = some (.iconst 5, 1) := rfl
theorem at_144_91 : ab_at 144 91 = some (.invokevirtual 116, 3) := rfl
theorem at_144_94 : ab_at 144 94 = some (.goto 5, 3) := rfl
theorem at_144_97 : ab_at 144 97 = some (.bipush (-4), 2) := rfl
theorem at_144_99 : ab_at 144 99 = some (.iastore, 1) := rfl
theorem at_144_100 : ab_at 144 100 = some (.aload_n 0, 1) := rfl
theorem at_144_101 : ab_at 144 101 = some (.invokevirtual 123, 3) := rfl
theorem at_144_104 : ab_at 144 104 = some (.return_, 1) := rfl
theorem at_145_0 : ab_at 145 0 = some (.aload_n 0, 1) := rfl
theorem at_145_1 : ab_at 145 1 = some (.invokevirtual 126, 3) := rfl
theorem at_145_4 : ab_at 145 4 = some (.bipush 8, 2) := rfl
theorem at_145_6 : ab_at 145 6 = some (.if_icmp .eq 9, 3) := rfl
theorem at_145_9 : ab_at 145 9 = some (.aload_n 0, 1) := rfl
theorem at_145_10 : ab_at 145 10 = some (.iconst 2, 1) := rfl
theorem at_145_11 : ab_at 145 11 = some (.invokevirtual 109, 3) := rfl
theorem at_145_14 : ab_at 145 14 = some (.return_, 1) := rfl
theorem at_145_15 : ab_at 145 15 = some (.aload_n 0, 1) := rfl
theorem at_145_16 : ab_at 145 16 = some (.getfield 7, 3) := rfl
theorem at_145_19 : ab_at 145 19 = some (.sipush 950, 3) := rfl
theorem at_145_22 : ab_at 145 22 = some (.iaload, 1) := rfl
theorem at_145_23 : ab_at 145 23 = some (.istore_n 1, 1) := rfl
theorem at_145_24 : ab_at 145 24 = some (.iload_n 1, 1) := rfl
theorem at_145_25 : ab_at 145 25 = some (.bipush 6, 2) := rfl
theorem at_145_27 : ab_at 145 27 = some (.if_icmp .ne 9, 3) := rfl
theorem at_145_30 : ab_at 145 30 = some (.aload_n 0, 1) := rfl
theorem at_145_31 : ab_at 145 31 = some (.iconst 5, 1) := rfl
theorem at_145_32 : ab_at 145 32 = some (.invokevirtual 109, 3) := rfl
theorem at_145_35 : ab_at 145 35 = some (.return_, 1) := rfl
theorem at_145_36 : ab_at 145 36 = some (.aload_n 0, 1) := rfl
theorem at_145_37 : ab_at 145 37 = some (.invokevirtual 113, 3) := rfl
theorem at_145_40 : ab_at 145 40 = some (.aload_n 0, 1) := rfl
theorem at_145_41 : ab_at 145 41 = some (.invokevirtual 123, 3) := rfl
theorem at_145_44 : ab_at 145 44 = some (.aload_n 0, 1) := rfl
theorem at_145_45 : ab_at 145 45 = some (.getfield 7, 3) := rfl
theorem at_145_48 : ab_at 145 48 = some (.sipush 714, 3) := rfl
theorem at_145_51 : ab_at 145 51 = some (.iload_n 1, 1) := rfl
theorem at_145_52 : ab_at 145 52 = some (.iadd, 1) := rfl
theorem at_145_53 : ab_at 145 53 = some (.aload_n 0, 1) := rfl
theorem at_145_54 : ab_at 145 54 = some (.getfield 7, 3) := rfl
theorem at_145_57 : ab_at 145 57 = some (.sipush 951, 3) := rfl
theorem at_145_60 : ab_at 145 60 = some (.iaload, 1) := rfl
theorem at_145_61 : ab_at 145 61 = some (.iastore, 1) := rfl
theorem at_145_62 : ab_at 145 62 = some (.aload_n 0, 1) := rfl
theorem at_145_63 : ab_at 145 63 = some (.getfield 7, 3) := rfl
theorem at_145_66 : ab_at 145 66 = some (.sipush 720, 3) := rfl
theorem at_145_69 : ab_at 145 69 = some (.iload_n 1, 1) := rfl
theorem at_145_70 : ab_at 145 70 = some (.iadd, 1) := rfl
theorem at_145_71 : ab_at 145 71 = some (.iconst 0, 1) := rfl
theorem at_145_72 : ab_at 145 72 = some (.iastore, 1) := rfl
theorem at_145_73 : ab_at 145 73 = some (.aload_n 0, 1) := rfl
theorem at_145_74 : ab_at 145 74 = some (.getfield 7, 3) := rfl
theorem at_145_77 : ab_at 145 77 = some (.sipush 950, 3) := rfl
theorem at_145_80 : ab_at 145 80 = some (.dup2, 1) := rfl
theorem at_145_81 : ab_at 145 81 = some (.iaload, 1) := rfl
theorem at_145_82 : ab_at 145 82 = some (.iconst 1, 1) := rfl
theorem at_145_83 : ab_at 145 83 = some (.iadd, 1) := rfl
theorem at_145_84 : ab_at 145 84 = some (.iastore, 1) := rfl
theorem at_145_85 : ab_at 145 85 = some (.iconst 1, 1) := rfl
theorem at_145_86 : ab_at 145 86 = some (.istore_n 2, 1) := rfl
theorem at_145_87 : ab_at 145 87 = some (.aload_n 0, 1) := rfl
theorem at_145_88 : ab_at 145 88 = some (.invokevirtual 126, 3) := rfl
theorem at_145_91 : ab_at 145 91 = some (.istore_n 3, 1) := rfl
theorem at_145_92 : ab_at 145 92 = some (.aload_n 0, 1) := rfl
theorem at_145_93 : ab_at 145 93 = some (.getfield 79, 3) := rfl
theorem at_145_96 : ab_at 145 96 = some (.ifCond .ne 51, 3) := rfl
theorem at_145_99 : ab_at 145 99 = some (.iload_n 3, 1) := rfl
theorem at_145_100 : ab_at 145 100 = some (.i2l, 1) := rfl
theorem at_145_101 : ab_at 145 101 = some (.lconst 0, 1) := rfl
theorem at_145_102 : ab_at 145 102 = some (.ldc2_w 130, 3) := rfl
theorem at_145_105 : ab_at 145 105 = some (.invokestatic 71, 3) := rfl
theorem at_145_108 : ab_at 145 108 = some (.ifCond .ne 13, 3) := rfl
theorem at_145_111 : ab_at 145 111 = some (.iload_n 3, 1) := rfl
theorem at_145_112 : ab_at 145 112 = some (.bipush 7, 2) := rfl
theorem at_145_114 : ab_at 145 114 = some (.if_icmp .ne 33, 3) := rfl
theorem at_145_117 : ab_at 145 117 = some (.iload_n 2, 1) := rfl
theorem at_145_118 : ab_at 145 118 = some (.ifCond .eq 29, 3) := rfl
theorem at_145_121 : ab_at 145 121 = some (.iload_n 3, 1) := rfl
theorem at_145_122 : ab_at 145 122 = some (.bipush 7, 2) := rfl
theorem at_145_124 : ab_at 145 124 = some (.if_icmp .ne 7, 3) := rfl
theorem at_145_127 : ab_at 145 127 = some (.iconst 1, 1) := rfl
theorem at_145_128 : ab_at 145 128 = some (.goto 4, 3) := rfl
theorem at_145_131 : ab_at 145 131 = some (.iconst 0, 1) := rfl
theorem at_145_132 : ab_at 145 132 = some (.istore_n 2, 1) := rfl
theorem at_145_133 : ab_at 145 133 = some (.aload_n 0, 1) := rfl
theorem at_145_134 : ab_at 145 134 = some (.iload_n 3, 1) := rfl
theorem at_145_135 : ab_at 145 135 = some (.iload_n 1, 1) := rfl
theorem at_145_136 : ab_at 145 136 = some (.invokevirtual 132, 3) := rfl
theorem at_145_139 : ab_at 145 139 = some (.aload_n 0, 1) := rfl
theorem at_145_140 : ab_at 145 140 = some (.invokevirtual 126, 3) := rfl
theorem at_145_143 : ab_at 145 143 = some (.istore_n 3, 1) := rfl
theorem at_145_144 : ab_at 145 144 = some (.goto (-52), 3) := rfl
theorem at_145_147 : ab_at 145 147 = some (.aload_n 0, 1) := rfl
theorem at_145_148 : ab_at 145 148 = some (.getfield 79, 3) := rfl
theorem at_145_151 : ab_at 145 151 = some (.ifCond .ne 22, 3) := rfl
theorem at_145_154 : ab_at 145 154 = some (.iload_n 3, 1) := rfl
theorem at_145_155 : ab_at 145 155 = some (.i2l, 1) := rfl
theorem at_145_156 : ab_at 145 156 = some (.ldc2_w 136, 3) := rfl
theorem at_145_159 : ab_at 145 159 = some (.ldc2_w 138, 3) := rfl
theorem at_145_162 : ab_at 145 162 = some (.invokestatic 71, 3) := rfl
theorem at_145_165 : ab_at 145 165 = some (.ifCond .ne 8, 3) := rfl
theorem at_145_168 : ab_at 145 168 = some (.aload_n 0, 1) := rfl
theorem at_145_169 : ab_at 145 169 = some (.iconst 2, 1) := rfl
theorem at_145_170 : ab_at 145 170 = some (.invokevirtual 109, 3) := rfl
theorem at_145_173 : ab_at 145 173 = some (.aload_n 0, 1) := rfl
theorem at_145_174 : ab_at 145 174 = some (.getfield 79, 3) := rfl
theorem at_145_177 : ab_at 145 177 = some (.ifCond .ne 9, 3) := rfl
theorem at_145_180 : ab_at 145 180 = some (.aload_n 0, 1) := rfl
theorem at_145_181 : ab_at 145 181 = some (.iload_n 3, 1) := rfl
theorem at_145_182 : ab_at 145 182 = some (.iload_n 1, 1) := rfl
theorem at_145_183 : ab_at 145 183 = some (.invokevirtual 140, 3) := rfl
theorem at_145_186 : ab_at 145 186 = some (.return_, 1) := rfl
theorem at_146_0 : ab_at 146 0 = some (.aload_n 0, 1) := rfl
theorem at_146_1 : ab_at 146 1 = some (.iconst 0, 1) := rfl
theorem at_146_2 : ab_at 146 2 = some (.putfield 79, 3) := rfl
theorem at_146_5 : ab_at 146 5 = some (.aload_n 0, 1) := rfl
theorem at_146_6 : ab_at 146 6 = some (.iconst 0, 1) := rfl
theorem at_146_7 : ab_at 146 7 = some (.putfield 91, 3) := rfl
theorem at_146_10 : ab_at 146 10 = some (.aload_n 0, 1) := rfl
theorem at_146_11 : ab_at 146 11 = some (.getfield 7, 3) := rfl
theorem at_146_14 : ab_at 146 14 = some (.sipush 950, 3) := rfl
theorem at_146_17 : ab_at 146 17 = some (.iconst 0, 1) := rfl
theorem at_146_18 : ab_at 146 18 = some (.iastore, 1) := rfl
theorem at_146_19 : ab_at 146 19 = some (.aload_n 0, 1) := rfl
theorem at_146_20 : ab_at 146 20 = some (.getfield 7, 3) := rfl
theorem at_146_23 : ab_at 146 23 = some (.sipush 951, 3) := rfl
theorem at_146_26 : ab_at 146 26 = some (.iconst 0, 1) := rfl
theorem at_146_27 : ab_at 146 27 = some (.iastore, 1) := rfl
theorem at_146_28 : ab_at 146 28 = some (.aload_n 0, 1) := rfl
theorem at_146_29 : ab_at 146 29 = some (.invokevirtual 113, 3) := rfl
theorem at_146_32 : ab_at 146 32 = some (.aload_n 0, 1) := rfl
theorem at_146_33 : ab_at 146 33 = some (.getfield 79, 3) := rfl
theorem at_146_36 : ab_at 146 36 = some (.ifCond .ne 17, 3) := rfl
theorem at_146_39 : ab_at 146 39 = some (.aload_n 0, 1) := rfl
theorem at_146_40 : ab_at 146 40 = some (.getfield 88, 3) := rfl
theorem at_146_43 : ab_at 146 43 = some (.ifCond .eq 10, 3) := rfl
theorem at_146_46 : ab_at 146 46 = some (.aload_n 0, 1) := rfl
theorem at_146_47 : ab_at 146 47 = some (.invokevirtual 143, 3) := rfl
theorem at_146_50 : ab_at 146 50 = some (.goto (-18), 3) := rfl
theorem at_146_53 : ab_at 146 53 = some (.aload_n 0, 1) := rfl
theorem at_146_54 : ab_at 146 54 = some (.getfield 79, 3) := rfl
theorem at_146_57 : ab_at 146 57 = some (.ifCond .ne 16, 3) := rfl
theorem at_146_60 : ab_at 146 60 = some (.aload_n 0, 1) := rfl
theorem at_146_61 : ab_at 146 61 = some (.invokevirtual 146, 3) := rfl
theorem at_146_64 : ab_at 146 64 = some (.ifCond .ne 9, 3) := rfl
theorem at_146_67 : ab_at 146 67 = some (.aload_n 0, 1) := rfl
theorem at_146_68 : ab_at 146 68 = some (.bipush 6, 2) := rfl
theorem at_146_70 : ab_at 146 70 = some (.invokevirtual 109, 3) := rfl
theorem at_146_73 : ab_at 146 73 = some (.aload_n 0, 1) := rfl
theorem at_146_74 : ab_at 146 74 = some (.iconst 0, 1) := rfl
theorem at_146_75 : ab_at 146 75 = some (.putfield 75, 3) := rfl
theorem at_146_78 : ab_at 146 78 = some (.aload_n 0, 1) := rfl
theorem at_146_79 : ab_at 146 79 = some (.aload_n 0, 1) := rfl
theorem at_146_80 : ab_at 146 80 = some (.getfield 79, 3) := rfl
theorem at_146_83 : ab_at 146 83 = some (.putfield 150, 3) := rfl
theorem at_146_86 : ab_at 146 86 = some (.aload_n 0, 1) := rfl
theorem at_146_87 : ab_at 146 87 = some (.getfield 79, 3) := rfl
theorem at_146_90 : ab_at 146 90 = some (.ifCond .le 16, 3) := rfl
theorem at_146_93 : ab_at 146 93 = some (.aload_n 0, 1) := rfl
theorem at_146_94 : ab_at 146 94 = some (.iconst 0, 1) := rfl
theorem at_146_95 : ab_at 146 95 = some (.invokevirtual 153, 3) := rfl
theorem at_146_98 : ab_at 146 98 = some (.bipush (-10), 2) := rfl
theorem at_146_100 : ab_at 146 100 = some (.aload_n 0, 1) := rfl
theorem at_146_101 : ab_at 146 101 = some (.getfield 85, 3) := rfl
theorem at_146_104 : ab_at 146 104 = some (.isub, 1) := rfl
theorem at_146_105 : ab_at 146 105 = some (.ireturn, 1) := rfl
theorem at_146_106 : ab_at 146 106 = some (.aload_n 0, 1) := rfl
theorem at_146_107 : ab_at 146 107 = some (.sipush 714, 3) := rfl
theorem at_146_110 : ab_at 146 110 = some (.iconst 0, 1) := rfl
theorem at_146_111 : ab_at 146 111 = some (.invokevirtual 156, 3) := rfl
theorem at_146_114 : ab_at 146 114 = some (.aload_n 0, 1) := rfl
theorem at_146_115 : ab_at 146 115 = some (.iconst 0, 1) := rfl
theorem at_146_116 : ab_at 146 116 = some (.invokevirtual 153, 3) := rfl
theorem at_146_119 : ab_at 146 119 = some (.aload_n 0, 1) := rfl
theorem at_146_120 : ab_at 146 120 = some (.iconst 0, 1) := rfl
theorem at_146_121 : ab_at 146 121 = some (.putfield 159, 3) := rfl
theorem at_146_124 : ab_at 146 124 = some (.aload_n 0, 1) := rfl
theorem at_146_125 : ab_at 146 125 = some (.getfield 56, 3) := rfl
theorem at_146_128 : ab_at 146 128 = some (.iconst 0, 1) := rfl
theorem at_146_129 : ab_at 146 129 = some (.iconst 0, 1) := rfl
theorem at_146_130 : ab_at 146 130 = some (.bastore, 1) := rfl
theorem at_146_131 : ab_at 146 131 = some (.aload_n 0, 1) := rfl
theorem at_146_132 : ab_at 146 132 = some (.getfield 56, 3) := rfl
theorem at_146_135 : ab_at 146 135 = some (.iconst 1, 1) := rfl
theorem at_146_136 : ab_at 146 136 = some (.iconst 0, 1) := rfl
theorem at_146_137 : ab_at 146 137 = some (.bastore, 1) := rfl
theorem at_146_138 : ab_at 146 138 = some (.aload_n 0, 1) := rfl
theorem at_146_139 : ab_at 146 139 = some (.getfield 7, 3) := rfl
theorem at_146_142 : ab_at 146 142 = some (.sipush 237, 3) := rfl
theorem at_146_145 : ab_at 146 145 = some (.iaload, 1) := rfl
theorem at_146_146 : ab_at 146 146 = some (.ireturn, 1) := rfl
theorem at_147_0 : ab_at 147 0 = some (.aload_n 0, 1) := rfl
theorem at_147_1 : ab_at 147 1 = some (.getfield 150, 3) := rfl
theorem at_147_4 : ab_at 147 4 = some (.ireturn, 1) := rfl
theorem at_148_0 : ab_at 148 0 = some (.iconst 0, 1) := rfl
theorem at_148_1 : ab_at 148 1 = some (.istore_n 3, 1) := rfl
theorem at_148_2 : ab_at 148 2 = some (.iload_n 3, 1) := rfl
theorem at_148_3 : ab_at 148 3 = some (.sipush 238, 3) := rfl
theorem at_148_6 : ab_at 148 6 = some (.if_icmp .ge 25, 3) := rfl
theorem at_148_9 : ab_at 148 9 = some (.aload_n 0, 1) := rfl
theorem at_148_10 : ab_at 148 10 = some (.getfield 7, 3) := rfl
theorem at_148_13 : ab_at 148 13 = some (.iload_n 2, 1) := rfl
theorem at_148_14 : ab_at 148 14 = some (.iload_n 3, 1) := rfl
theorem at_148_15 : ab_at 148 15 = some (.iadd, 1) := rfl
theorem at_148_16 : ab_at 148 16 = some (.aload_n 0, 1) := rfl
theorem at_148_17 : ab_at 148 17 = some (.getfield 7, 3) := rfl
theorem at_148_20 : ab_at 148 20 = some (.iload_n 1, 1) := rfl
theorem at_148_21 : ab_at 148 21 = some (.iload_n 3, 1) := rfl
theorem at_148_22 : ab_at 148 22 = some (.iadd, 1) := rfl
theorem at_148_23 : ab_at 148 23 = some (.iaload, 1) := rfl
theorem at_148_24 : ab_at 148 24 = some (.iastore, 1) := rfl
theorem at_148_25 : ab_at 148 25 = some (.iinc 3 1, 3) := rfl
theorem at_148_28 : ab_at 148 28 = some (.goto (-26), 3) := rfl
theorem at_148_31 : ab_at 148 31 = some (.return_, 1) := rfl
theorem at_149_0 : ab_at 149 0 = some (.iload_n 2, 1) := rfl
theorem at_149_1 : ab_at 149 1 = some (.ifCond .ne 7, 3) := rfl
theorem at_149_4 : ab_at 149 4 = some (.iconst 0, 1) := rfl
theorem at_149_5 : ab_at 149 5 = some (.goto 4, 3) := rfl
theorem at_149_8 : ab_at 149 8 = some (.iconst 1, 1) := rfl
theorem at_149_9 : ab_at 149 9 = some (.istore_n 3, 1) := rfl
theorem at_149_10 : ab_at 149 10 = some (.iconst 0, 1) := rfl
theorem at_149_11 : ab_at 149 11 = some (.istore 4, 2) := rfl
theorem at_149_13 : ab_at 149 13 = some (.iload 4, 2) := rfl
theorem at_149_15 : ab_at 149 15 = some (.bipush 6, 2) := rfl
theorem at_149_17 : ab_at 149 17 = some (.if_icmp .ge 143, 3) := rfl
theorem at_149_20 : ab_at 149 20 = some (.iconst 0, 1) := rfl
theorem at_149_21 : ab_at 149 21 = some (.istore 5, 2) := rfl
theorem at_149_23 : ab_at 149 23 = some (.iload 5, 2) := rfl
theorem at_149_25 : ab_at 149 25 = some (.aload_n 0, 1) := rfl
theorem at_149_26 : ab_at 149 26 = some (.getfield 7, 3) := rfl
theorem at_149_29 : ab_at 149 29 = some (.iload_n 1, 1) := rfl
theorem at_149_30 : ab_at 149 30 = some (.sipush 236, 3) := rfl
theorem at_149_33 : ab_at 149 33 = some (.iadd, 1) := rfl
theorem at_149_34 : ab_at 149 34 = some (.iaload, 1) := rfl
theorem at_149_35 : ab_at 149 35 = some (.if_icmp .ge 101, 3) := rfl
theorem at_149_38 : ab_at 149 38 = some (.iload 5, 2) := rfl
theorem at_149_40 : ab_at 149 40 = some (.iload_n 2, 1) := rfl
theorem at_149_41 : ab_at 149 41 = some (.if_icmp .eq 89, 3) := rfl
theorem at_149_44 : ab_at 149 44 = some (.iload_n 3, 1) := rfl
theorem at_149_45 : ab_at 149 45 = some (.iload 5, 2) := rfl
theorem at_149_47 : ab_at 149 47 = some (.ishr, 1) := rfl
theorem at_149_48 : ab_at 149 48 = some (.iconst 1, 1) := rfl
theorem at_149_49 : ab_at 149 49 = some (.iand, 1) := rfl
theorem at_149_50 : ab_at 149 50 = some (.iconst 1, 1) := rfl
theorem at_149_51 : ab_at 149 51 = some (.if_icmp .ne 79, 3) := rfl
theorem at_149_54 : ab_at 149 54 = some (.iload_n 3, 1) := rfl
theorem at_149_55 : ab_at 149 55 = some (.aload_n 0, 1) := rfl
theorem at_149_56 : ab_at 149 56 = some (.getfield 7, 3) := rfl
theorem at_149_59 : ab_at 149 59 = some (.iload_n 1, 1) := rfl
theorem at_149_60 : ab_at 149 60 = some (.bipush 18, 2) := rfl
theorem at_149_62 : ab_at 149 62 = some (.iadd, 1) := rfl
theorem at_149_63 : ab_at 149 63 = some (.iload 5, 2) := rfl
theorem at_149_65 : ab_at 149 65 = some (.iadd, 1) := rfl
theorem at_149_66 : ab_at 149 66 = some (.iaload, 1) := rfl
theorem at_149_67 : ab_at 149 67 = some (.bipush (-4), 2) := rfl
theorem at_149_69 : ab_at 149 69 = some (.if_icmp .ne 7, 3) := rfl
theorem at_149_72 : ab_at 149 72 = some (.iconst 0, 1) := rfl
theorem at_149_73 : ab_at 149 73 = some (.goto 17, 3) := rfl
theorem at_149_76 : ab_at 149 76 = some (.iconst 1, 1) := rfl
theorem at_149_77 : ab_at 149 77 = some (.aload_n 0, 1) := rfl
theorem at_149_78 : ab_at 149 78 = some (.getfield 7, 3) := rfl
theorem at_149_81 : ab_at 149 81 = some (.iload_n 1, 1) := rfl
theorem at_149_82 : ab_at 149 82 = some (.bipush 18, 2) := rfl
theorem at_149_84 : ab_at 149 84 = some (.iadd, 1) := rfl
theorem at_149_85 : ab_at 149 85 = some (.iload 5, 2) := rfl
theorem at_149_87 : ab_at 149 87 = some (.iadd, 1) := rfl
theorem at_149_88 : ab_at 149 88 = some (.iaload, 1) := rfl
theorem at_149_89 : ab_at 149 89 = some (.ishl, 1) := rfl
theorem at_149_90 : ab_at 149 90 = some (.ior, 1) := rfl
theorem at_149_91 : ab_at 149 91 = some (.istore_n 3, 1) := rfl
theorem at_149_92 : ab_at 149 92 = some (.iload_n 3, 1) := rfl
theorem at_149_93 : ab_at 149 93 = some (.aload_n 0, 1) := rfl
theorem at_149_94 : ab_at 149 94 = some (.getfield 7, 3) := rfl
theorem at_149_97 : ab_at 149 97 = some (.iload_n 1, 1) := rfl
theorem at_149_98 : ab_at 149 98 = some (.bipush 24, 2) := rfl
theorem at_149_100 : ab_at 149 100 = some (.iadd, 1) := rfl
theorem at_149_101 : ab_at 149 101 = some (.iload 5, 2) := rfl
theorem at_149_103 : ab_at 149 103 = some (.iadd, 1) := rfl
theorem at_149_104 : ab_at 149 104 = some (.iaload, 1) := rfl
theorem at_149_105 : ab_at 149 105 = some (.bipush (-4), 2) := rfl
theorem at_149_107 : ab_at 149 107 = some (.if_icmp .ne 7, 3) := rfl
theorem at_149_110 : ab_at 149 110 = some (.iconst 0, 1) := rfl
theorem at_149_111 : ab_at 149 111 = some (.goto 17, 3) := rfl
theorem at_149_114 : ab_at 149 114 = some (.iconst 1, 1) := rfl
theorem at_149_115 : ab_at 149 115 = some (.aload_n 0, 1) := rfl
theorem at_149_116 : ab_at 149 116 = some (.getfield 7, 3) := rfl
theorem at_149_119 : ab_at 149 119 = some (.iload_n 1, 1) := rfl
theorem at_149_120 : ab_at 149 120 = some (.bipush 24, 2) := rfl
theorem at_149_122 : ab_at 149 122 = some (.iadd, 1) := rfl
theorem at_149_123 : ab_at 149 123 = some (.iload 5, 2) := rfl
theorem at_149_125 : ab_at 149 125 = some (.iadd, 1) := rfl
theorem at_149_126 : ab_at 149 126 = some (.iaload, 1) := rfl
theorem at_149_127 : ab_at 149 127 = some (.ishl, 1) := rfl
theorem at_149_128 : ab_at 149 128 = some (.ior, 1) := rfl
theorem at_149_129 : ab_at 149 129 = some (.istore_n 3, 1) := rfl
theorem at_149_130 : ab_at 149 130 = some (.iinc 5 1, 3) := rfl
theorem at_149_133 : ab_at 149 133 = some (.goto (-110), 3) := rfl
theorem at_149_136 : ab_at 149 136 = some (.iload_n 3, 1) := rfl
theorem at_149_137 : ab_at 149 137 = some (.iload_n 2, 1) := rfl
theorem at_149_138 : ab_at 149 138 = some (.bipush (-4), 2) := rfl
theorem at_149_140 : ab_at 149 140 = some (.if_icmp .ne 7, 3) := rfl
theorem at_149_143 : ab_at 149 143 = some (.iload_n 3, 1) := rfl
theorem at_149_144 : ab_at 149 144 = some (.goto 8, 3) := rfl
theorem at_149_147 : ab_at 149 147 = some (.iconst 1, 1) := rfl
theorem at_149_148 : ab_at 149 148 = some (.iload_n 2, 1) := rfl
theorem at_149_149 : ab_at 149 149 = some (.ishl, 1) := rfl
theorem at_149_150 : ab_at 149 150 = some (.iconst (-1), 1) := rfl
theorem at_149_151 : ab_at 149 151 = some (.ixor, 1) := rfl
theorem at_149_152 : ab_at 149 152 = some (.iand, 1) := rfl
theorem at_149_153 : ab_at 149 153 = some (.istore_n 3, 1) := rfl
theorem at_149_154 : ab_at 149 154 = some (.iinc 4 1, 3) := rfl
theorem at_149_157 : ab_at 149 157 = some (.goto (-144), 3) := rfl
theorem at_149_160 : ab_at 149 160 = some (.iload_n 3, 1) := rfl
theorem at_149_161 : ab_at 149 161 = some (.ireturn, 1) := rfl
theorem at_150_0 : ab_at 150 0 = some (.aload_n 0, 1) := rfl
theorem at_150_1 : ab_at 150 1 = some (.getfield 7, 3) := rfl
theorem at_150_4 : ab_at 150 4 = some (.iload_n 1, 1) := rfl
theorem at_150_5 : ab_at 150 5 = some (.sipush 236, 3) := rfl
theorem at_150_8 : ab_at 150 8 = some (.iadd, 1) := rfl
theorem at_150_9 : ab_at 150 9 = some (.iaload, 1) := rfl
theorem at_150_10 : ab_at 150 10 = some (.istore_n 2, 1) := rfl
theorem at_150_11 : ab_at 150 11 = some (.iconst 0, 1) := rfl
theorem at_150_12 : ab_at 150 12 = some (.istore_n 3, 1) := rfl
theorem at_150_13 : ab_at 150 13 = some (.iload_n 3, 1) := rfl
theorem at_150_14 : ab_at 150 14 = some (.iload_n 2, 1) := rfl
theorem at_150_15 : ab_at 150 15 = some (.if_icmp .ge 135, 3) := rfl
theorem at_150_18 : ab_at 150 18 = some (.aload_n 0, 1) := rfl
theorem at_150_19 : ab_at 150 19 = some (.getfield 25, 3) := rfl
theorem at_150_22 : ab_at 150 22 = some (.iload_n 3, 1) := rfl
theorem at_150_23 : ab_at 150 23 = some (.iconst 0, 1) := rfl
theorem at_150_24 : ab_at 150 24 = some (.iastore, 1) := rfl
theorem at_150_25 : ab_at 150 25 = some (.aload_n 0, 1) := rfl
theorem at_150_26 : ab_at 150 26 = some (.getfield 28, 3) := rfl
theorem at_150_29 : ab_at 150 29 = some (.iload_n 3, 1) := rfl
theorem at_150_30 : ab_at 150 30 = some (.iconst 0, 1) := rfl
theorem at_150_31 : ab_at 150 31 = some (.iastore, 1) := rfl
theorem at_150_32 : ab_at 150 32 = some (.iconst 0, 1) := rfl
theorem at_150_33 : ab_at 150 33 = some (.istore 4, 2) := rfl
theorem at_150_35 : ab_at 150 35 = some (.iload 4, 2) := rfl
theorem at_150_37 : ab_at 150 37 = some (.iload_n 2, 1) := rfl
theorem at_150_38 : ab_at 150 38 = some (.if_icmp .ge 106, 3) := rfl
theorem at_150_41 : ab_at 150 41 = some (.aload_n 0, 1) := rfl
theorem at_150_42 : ab_at 150 42 = some (.getfield 7, 3) := rfl
theorem at_150_45 : ab_at 150 45 = some (.iload_n 1, 1) := rfl
theorem at_150_46 : ab_at 150 46 = some (.bipush 18, 2) := rfl
theorem at_150_48 : ab_at 150 48 = some (.iadd, 1) := rfl
theorem at_150_49 : ab_at 150 49 = some (.iload 4, 2) := rfl
theorem at_150_51 : ab_at 150 51 = some (.iadd, 1) := rfl
theorem at_150_52 : ab_at 150 52 = some (.iaload, 1) := rfl
theorem at_150_53 : ab_at 150 53 = some (.iload_n 3, 1) := rfl
theorem at_150_54 : ab_at 150 54 = some (.if_icmp .eq 19, 3) := rfl
theorem at_150_57 : ab_at 150 57 = some (.aload_n 0, 1) := rfl
theorem at_150_58 : ab_at 150 58 = some (.getfield 7, 3) := rfl
theorem at_150_61 : ab_at 150 61 = some (.iload_n 1, 1) := rfl
theorem at_150_62 : ab_at 150 62 = some (.bipush 24, 2) := rfl
theorem at_150_64 : ab_at 150 64 = some (.iadd, 1) := rfl
theorem at_150_65 : ab_at 150 65 = some (.iload 4, 2) := rfl
theorem at_150_67 : ab_at 150 67 = some (.iadd, 1) := rfl
theorem at_150_68 : ab_at 150 68 = some (.iaload, 1) := rfl
theorem at_150_69 : ab_at 150 69 = some (.iload_n 3, 1) := rfl
theorem at_150_70 : ab_at 150 70 = some (.if_icmp .ne 31, 3) := rfl
theorem at_150_73 : ab_at 150 73 = some (.aload_n 0, 1) := rfl
theorem at_150_74 : ab_at 150 74 = some (.getfield 22, 3) := rfl
theorem at_150_77 : ab_at 150 77 = some (.bipush 6, 2) := rfl
theorem at_150_79 : ab_at 150 79 = some (.iload_n 3, 1) := rfl
theorem at_150_80 : ab_at 150 80 = some (.imul, 1) := rfl
theorem at_150_81 : ab_at 150 81 = some (.aload_n 0, 1) := rfl
theorem at_150_82 : ab_at 150 82 = some (.getfield 25, 3) := rfl
theorem at_150_85 : ab_at 150 85 = some (.iload_n 3, 1) := rfl
theorem at_150_86 : ab_at 150 86 = some (.iaload, 1) := rfl
theorem at_150_87 : ab_at 150 87 = some (.iadd, 1) := rfl
theorem at_150_88 : ab_at 150 88 = some (.iload 4, 2) := rfl
theorem at_150_90 : ab_at 150 90 = some (.iastore, 1) := rfl
theorem at_150_91 : ab_at 150 91 = some (.aload_n 0, 1) := rfl
theorem at_150_92 : ab_at 150 92 = some (.getfield 25, 3) := rfl
theorem at_150_95 : ab_at 150 95 = some (.iload_n 3, 1) := rfl
theorem at_150_96 : ab_at 150 96 = some (.dup2, 1) := rfl
theorem at_150_97 : ab_at 150 97 = some (.iaload, 1) := rfl
theorem at_150_98 : ab_at 150 98 = some (.iconst 1, 1) := rfl
theorem at_150_99 : ab_at 150 99 = some (.iadd, 1) := rfl
theorem at_150_100 : ab_at 150 100 = some (.iastore, 1) := rfl
theorem at_150_101 : ab_at 150 101 = some (.aload_n 0, 1) := rfl
theorem at_150_102 : ab_at 150 102 = some (.getfield 28, 3) := rfl
theorem at_150_105 : ab_at 150 105 = some (.iload_n 3, 1) := rfl
theorem at_150_106 : ab_at 150 106 = some (.dup2, 1) := rfl
theorem at_150_107 : ab_at 150 107 = some (.iaload, 1) := rfl
theorem at_150_108 : ab_at 150 108 = some (.iload 4, 2) := rfl
theorem at_150_110 : ab_at 150 110 = some (.iload_n 3, 1) := rfl
theorem at_150_111 : ab_at 150 111 = some (.if_icmp .eq 17, 3) := rfl
theorem at_150_114 : ab_at 150 114 = some (.aload_n 0, 1) := rfl
theorem at_150_115 : ab_at 150 115 = some (.iload_n 1, 1) := rfl
theorem at_150_116 : ab_at 150 116 = some (.iload 4, 2) := rfl
theorem at_150_118 : ab_at 150 118 = some (.invokevirtual 163, 3) := rfl
theorem at_150_121 : ab_at 150 121 = some (.iload_n 3, 1) := rfl
theorem at_150_122 : ab_at 150 122 = some (.ishr, 1) := rfl
theorem at_150_123 : ab_at 150 123 = some (.iconst 1, 1) := rfl
theorem at_150_124 : ab_at 150 124 = some (.iand, 1) := rfl
theorem at_150_125 : ab_at 150 125 = some (.ifCond .ne 10, 3) := rfl
theorem at_150_128 : ab_at 150 128 = some (.iconst 1, 1) := rfl
theorem at_150_129 : ab_at 150 129 = some (.iload 4, 2) := rfl
theorem at_150_131 : ab_at 150 131 = some (.ishl, 1) := rfl
theorem at_150_132 : ab_at 150 132 = some (.goto 4, 3) := rfl
theorem at_150_135 : ab_at 150 135 = some (.iconst 0, 1) := rfl
theorem at_150_136 : ab_at 150 136 = some (.ior, 1) := rfl
theorem at_150_137 : ab_at 150 137 = some (.iastore, 1) := rfl
theorem at_150_138 : ab_at 150 138 = some (.iinc 4 1, 3) := rfl
theorem at_150_141 : ab_at 150 141 = some (.goto (-106), 3) := rfl
theorem at_150_144 : ab_at 150 144 = some (.iinc 3 1, 3) := rfl
theorem at_150_147 : ab_at 150 147 = some (.goto (-134), 3) := rfl
theorem at_150_150 : ab_at 150 150 = some (.return_, 1) := rfl
theorem at_151_0 : ab_at 151 0 = some (.aload_n 0, 1) := rfl
theorem at_151_1 : ab_at 151 1 = some (.getfield 28, 3) := rfl
theorem at_151_4 : ab_at 151 4 = some (.iload_n 2, 1) := rfl
theorem at_151_5 : ab_at 151 5 = some (.iaload, 1) := rfl
theorem at_151_6 : ab_at 151 6 = some (.iload_n 1, 1) := rfl
theorem at_151_7 : ab_at 151 7 = some (.ishr, 1) := rfl
theorem at_151_8 : ab_at 151 8 = some (.iconst 1, 1) := rfl
theorem at_151_9 : ab_at 151 9 = some (.iand, 1) := rfl
theorem at_151_10 : ab_at 151 10 = some (.iconst 1, 1) := rfl
theorem at_151_11 : ab_at 151 11 = some (.if_icmp .ne 7, 3) := rfl
theorem at_151_14 : ab_at 151 14 = some (.iconst 1, 1) := rfl
theorem at_151_15 : ab_at 151 15 = some (.goto 4, 3) := rfl
theorem at_151_18 : ab_at 151 18 = some (.iconst 0, 1) := rfl
theorem at_151_19 : ab_at 151 19 = some (.ireturn, 1) := rfl
theorem at_152_0 : ab_at 152 0 = some (.aload_n 0, 1) := rfl
theorem at_152_1 : ab_at 152 1 = some (.getfield 7, 3) := rfl
theorem at_152_4 : ab_at 152 4 = some (.iload_n 1, 1) := rfl
theorem at_152_5 : ab_at 152 5 = some (.bipush 56, 2) := rfl
theorem at_152_7 : ab_at 152 7 = some (.iadd, 1) := rfl
theorem at_152_8 : ab_at 152 8 = some (.iload_n 2, 1) := rfl
theorem at_152_9 : ab_at 152 9 = some (.iadd, 1) := rfl
theorem at_152_10 : ab_at 152 10 = some (.iaload, 1) := rfl
theorem at_152_11 : ab_at 152 11 = some (.istore 4, 2) := rfl
theorem at_152_13 : ab_at 152 13 = some (.aload_n 0, 1) := rfl
theorem at_152_14 : ab_at 152 14 = some (.getfield 7, 3) := rfl
theorem at_152_17 : ab_at 152 17 = some (.iload_n 1, 1) := rfl
theorem at_152_18 : ab_at 152 18 = some (.bipush 56, 2) := rfl
theorem at_152_20 : ab_at 152 20 = some (.iadd, 1) := rfl
theorem at_152_21 : ab_at 152 21 = some (.iload_n 3, 1) := rfl
theorem at_152_22 : ab_at 152 22 = some (.iadd, 1) := rfl
theorem at_152_23 : ab_at 152 23 = some (.iaload, 1) := rfl
theorem at_152_24 : ab_at 152 24 = some (.istore 5, 2) := rfl
theorem at_152_26 : ab_at 152 26 = some (.iload 4, 2) := rfl
theorem at_152_28 : ab_at 152 28 = some (.iload 5, 2) := rfl
theorem at_152_30 : ab_at 152 30 = some (.if_icmp .ne 16, 3) := rfl
theorem at_152_33 : ab_at 152 33 = some (.iload_n 2, 1) := rfl
theorem at_152_34 : ab_at 152 34 = some (.iload_n 3, 1) := rfl
theorem at_152_35 : ab_at 152 35 = some (.if_icmp .ge 7, 3) := rfl
theorem at_152_38 : ab_at 152 38 = some (.iconst 1, 1) := rfl
theorem at_152_39 : ab_at 152 39 = some (.goto 15, 3) := rfl
theorem at_152_42 : ab_at 152 42 = some (.iconst 0, 1) := rfl
theorem at_152_43 : ab_at 152 43 = some (.goto 11, 3) := rfl
theorem at_152_46 : ab_at 152 46 = some (.aload_n 0, 1) := rfl
theorem at_152_47 : ab_at 152 47 = some (.iload 4, 2) := rfl
theorem at_152_49 : ab_at 152 49 = some (.iload 5, 2) := rfl
theorem at_152_51 : ab_at 152 51 = some (.invokevirtual 166, 3) := rfl
theorem at_152_54 : ab_at 152 54 = some (.ireturn, 1) := rfl
theorem at_153_0 : ab_at 153 0 = some (.aload_n 0, 1) := rfl
theorem at_153_1 : ab_at 153 1 = some (.aload_n 0, 1) := rfl
theorem at_153_2 : ab_at 153 2 = some (.getfield 7, 3) := rfl
theorem at_153_5 : ab_at 153 5 = some (.iload_n 1, 1) := rfl
theorem at_153_6 : ab_at 153 6 = some (.bipush 56, 2) := rfl
theorem at_153_8 : ab_at 153 8 = some (.iadd, 1) := rfl
theorem at_153_9 : ab_at 153 9 = some (.iload_n 2, 1) := rfl
theorem at_153_10 : ab_at 153 10 = some (.iadd, 1) := rfl
theorem at_153_11 : ab_at 153 11 = some (.iaload, 1) := rfl
theorem at_153_12 : ab_at 153 12 = some (.iload_n 3, 1) := rfl
theorem at_153_13 : ab_at 153 13 = some (.invokevirtual 166, 3) := rfl
theorem at_153_16 : ab_at 153 16 = some (.ireturn, 1) := rfl
theorem at_154_0 : ab_at 154 0 = some (.aload_n 0, 1) := rfl
theorem at_154_1 : ab_at 154 1 = some (.getfield 7, 3) := rfl
theorem at_154_4 : ab_at 154 4 = some (.iload_n 1, 1) := rfl
theorem at_154_5 : ab_at 154 5 = some (.bipush 36, 2) := rfl
theorem at_154_7 : ab_at 154 7 = some (.iadd, 1) := rfl
theorem at_154_8 : ab_at 154 8 = some (.iload_n 3, 1) := rfl
theorem at_154_9 : ab_at 154 9 = some (.iadd, 1) := rfl
theorem at_154_10 : ab_at 154 10 = some (.iaload, 1) := rfl
theorem at_154_11 : ab_at 154 11 = some (.bipush 7, 2) := rfl
theorem at_154_13 : ab_at 154 13 = some (.if_icmp .ne 34, 3) := rfl
theorem at_154_16 : ab_at 154 16 = some (.aload_n 0, 1) := rfl
theorem at_154_17 : ab_at 154 17 = some (.iload_n 1, 1) := rfl
theorem at_154_18 : ab_at 154 18 = some (.iload_n 2, 1) := rfl
theorem at_154_19 : ab_at 154 19 = some (.aload_n 0, 1) := rfl
theorem at_154_20 : ab_at 154 20 = some (.getfield 22, 3) := rfl
theorem at_154_23 : ab_at 154 23 = some (.bipush 6, 2) := rfl
theorem at_154_25 : ab_at 154 25 = some (.aload_n 0, 1) := rfl
theorem at_154_26 : ab_at 154 26 = some (.getfield 7, 3) := rfl
theorem at_154_29 : ab_at 154 29 = some (.iload_n 1, 1) := rfl
theorem at_154_30 : ab_at 154 30 = some (.bipush 56, 2) := rfl
theorem at_154_32 : ab_at 154 32 = some (.iadd, 1) := rfl
theorem at_154_33 : ab_at 154 33 = some (.iload_n 3, 1) := rfl
theorem at_154_34 : ab_at 154 34 = some (.iadd, 1) := rfl
theorem at_154_35 : ab_at 154 35 = some (.iaload, 1) := rfl
theorem at_154_36 : ab_at 154 36 = some (.imul, 1) := rfl
theorem at_154_37 : ab_at 154 37 = some (.iload 4, 2) := rfl
theorem at_154_39 : ab_at 154 39 = some (.iadd, 1) := rfl
theorem at_154_40 : ab_at 154 40 = some (.iaload, 1) := rfl
theorem at_154_41 : ab_at 154 41 = some (.invokevirtual 170, 3) := rfl
theorem at_154_44 : ab_at 154 44 = some (.goto 10, 3) := rfl
theorem at_154_47 : ab_at 154 47 = some (.aload_n 0, 1) := rfl
theorem at_154_48 : ab_at 154 48 = some (.iload_n 1, 1) := rfl
theorem at_154_49 : ab_at 154 49 = some (.iload_n 2, 1) := rfl
theorem at_154_50 : ab_at 154 50 = some (.iload_n 3, 1) := rfl
theorem at_154_51 : ab_at 154 51 = some (.invokevirtual 174, 3) := rfl
theorem at_154_54 : ab_at 154 54 = some (.ireturn, 1) := rfl
theorem at_155_0 : ab_at 155 0 = some (.aload_n 0, 1) := rfl
theorem at_155_1 : ab_at 155 1 = some (.getfield 7, 3) := rfl
theorem at_155_4 : ab_at 155 4 = some (.sipush 950, 3) := rfl
theorem at_155_7 : ab_at 155 7 = some (.iaload, 1) := rfl
theorem at_155_8 : ab_at 155 8 = some (.istore_n 2, 1) := rfl
theorem at_155_9 : ab_at 155 9 = some (.aload_n 0, 1) := rfl
theorem at_155_10 : ab_at 155 10 = some (.getfield 7, 3) := rfl
theorem at_155_13 : ab_at 155 13 = some (.sipush 744, 3) := rfl
theorem at_155_16 : ab_at 155 16 = some (.iload_n 1, 1) := rfl
theorem at_155_17 : ab_at 155 17 = some (.iadd, 1) := rfl
theorem at_155_18 : ab_at 155 18 = some (.iaload, 1) := rfl
theorem at_155_19 : ab_at 155 19 = some (.istore_n 3, 1) := rfl
theorem at_155_20 : ab_at 155 20 = some (.aload_n 0, 1) := rfl
theorem at_155_21 : ab_at 155 21 = some (.getfield 7, 3) := rfl
theorem at_155_24 : ab_at 155 24 = some (.sipush 732, 3) := rfl
theorem at_155_27 : ab_at 155 27 = some (.iload_n 1, 1) := rfl
theorem at_155_28 : ab_at 155 28 = some (.iadd, 1) := rfl
theorem at_155_29 : ab_at 155 29 = some (.iaload, 1) := rfl
theorem at_155_30 : ab_at 155 30 = some (.iload_n 2, 1) := rfl
theorem at_155_31 : ab_at 155 31 = some (.if_icmp .ge 33, 3) := rfl
theorem at_155_34 : ab_at 155 34 = some (.aload_n 0, 1) := rfl
theorem at_155_35 : ab_at 155 35 = some (.getfield 7, 3) := rfl
theorem at_155_38 : ab_at 155 38 = some (.sipush 738, 3) := rfl
theorem at_155_41 : ab_at 155 41 = some (.iload_n 1, 1) := rfl
theorem at_155_42 : ab_at 155 42 = some (.iadd, 1) := rfl
theorem at_155_43 : ab_at 155 43 = some (.iaload, 1) := rfl
theorem at_155_44 : ab_at 155 44 = some (.iload_n 2, 1) := rfl
theorem at_155_45 : ab_at 155 45 = some (.if_icmp .ge 19, 3) := rfl
theorem at_155_48 : ab_at 155 48 = some (.iload_n 3, 1) := rfl
theorem at_155_49 : ab_at 155 49 = some (.aload_n 0, 1) := rfl
theorem at_155_50 : ab_at 155 50 = some (.getfield 7, 3) := rfl
theorem at_155_53 : ab_at 155 53 = some (.sipush 951, 3) := rfl
theorem at_155_56 : ab_at 155 56 = some (.iaload, 1) := rfl
theorem at_155_57 : ab_at 155 57 = some (.if_icmp .ge 7, 3) := rfl
theorem at_155_60 : ab_at 155 60 = some (.iconst 1, 1) := rfl
theorem at_155_61 : ab_at 155 61 = some (.goto 4, 3) := rfl
theorem at_155_64 : ab_at 155 64 = some (.iconst 0, 1) := rfl
theorem at_155_65 : ab_at 155 65 = some (.ireturn, 1) := rfl
theorem at_156_0 : ab_at 156 0 = some (.aload_n 0, 1) := rfl
theorem at_156_1 : ab_at 156 1 = some (.getfield 7, 3) := rfl
theorem at_156_4 : ab_at 156 4 = some (.sipush 750, 3) := rfl
theorem at_156_7 : ab_at 156 7 = some (.iload_n 1, 1) := rfl
theorem at_156_8 : ab_at 156 8 = some (.iadd, 1) := rfl
theorem at_156_9 : ab_at 156 9 = some (.iaload, 1) := rfl
theorem at_156_10 : ab_at 156 10 = some (.bipush 7, 2) := rfl
theorem at_156_12 : ab_at 156 12 = some (.if_icmp .ne 31, 3) := rfl
theorem at_156_15 : ab_at 156 15 = some (.aload_n 0, 1) := rfl
theorem at_156_16 : ab_at 156 16 = some (.getfield 7, 3) := rfl
theorem at_156_19 : ab_at 156 19 = some (.sipush 790, 3) := rfl
theorem at_156_22 : ab_at 156 22 = some (.iload_n 1, 1) := rfl
theorem at_156_23 : ab_at 156 23 = some (.iadd, 1) := rfl
theorem at_156_24 : ab_at 156 24 = some (.iaload, 1) := rfl
theorem at_156_25 : ab_at 156 25 = some (.aload_n 0, 1) := rfl
theorem at_156_26 : ab_at 156 26 = some (.getfield 25, 3) := rfl
theorem at_156_29 : ab_at 156 29 = some (.aload_n 0, 1) := rfl
theorem at_156_30 : ab_at 156 30 = some (.getfield 7, 3) := rfl
theorem at_156_33 : ab_at 156 33 = some (.sipush 770, 3) := rfl
theorem at_156_36 : ab_at 156 36 = some (.iload_n 1, 1) := rfl
theorem at_156_37 : ab_at 156 37 = some (.iadd, 1) := rfl
theorem at_156_38 : ab_at 156 38 = some (.iaload, 1) := rfl
theorem at_156_39 : ab_at 156 39 = some (.iaload, 1) := rfl
theorem at_156_40 : ab_at 156 40 = some (.if_icmp .ne 7, 3) := rfl
theorem at_156_43 : ab_at 156 43 = some (.iconst 1, 1) := rfl
theorem at_156_44 : ab_at 156 44 = some (.goto 4, 3) := rfl
theorem at_156_47 : ab_at 156 47 = some (.iconst 0, 1) := rfl
theorem at_156_48 : ab_at 156 48 = some (.istore_n 2, 1) := rfl
theorem at_156_49 : ab_at 156 49 = some (.iconst 0, 1) := rfl
theorem at_156_50 : ab_at 156 50 = some (.istore_n 3, 1) := rfl
theorem at_156_51 : ab_at 156 51 = some (.iload_n 2, 1) := rfl
theorem at_156_52 : ab_at 156 52 = some (.ifCond .eq 73, 3) := rfl
theorem at_156_55 : ab_at 156 55 = some (.iload_n 3, 1) := rfl
theorem at_156_56 : ab_at 156 56 = some (.aload_n 0, 1) := rfl
theorem at_156_57 : ab_at 156 57 = some (.getfield 7, 3) := rfl
theorem at_156_60 : ab_at 156 60 = some (.sipush 790, 3) := rfl
theorem at_156_63 : ab_at 156 63 = some (.iload_n 1, 1) := rfl
theorem at_156_64 : ab_at 156 64 = some (.iadd, 1) := rfl
theorem at_156_65 : ab_at 156 65 = some (.iaload, 1) := rfl
theorem at_156_66 : ab_at 156 66 = some (.if_icmp .ge 59, 3) := rfl
theorem at_156_69 : ab_at 156 69 = some (.aload_n 0, 1) := rfl
theorem at_156_70 : ab_at 156 70 = some (.getfield 7, 3) := rfl
theorem at_156_73 : ab_at 156 73 = some (.sipush 830, 3) := rfl
theorem at_156_76 : ab_at 156 76 = some (.bipush 6, 2) := rfl
theorem at_156_78 : ab_at 156 78 = some (.iload_n 1, 1) := rfl
theorem at_156_79 : ab_at 156 79 = some (.imul, 1) := rfl
theorem at_156_80 : ab_at 156 80 = some (.iadd, 1) := rfl
theorem at_156_81 : ab_at 156 81 = some (.iload_n 3, 1) := rfl
theorem at_156_82 : ab_at 156 82 = some (.iadd, 1) := rfl
theorem at_156_83 : ab_at 156 83 = some (.iaload, 1) := rfl
theorem at_156_84 : ab_at 156 84 = some (.istore 4, 2) := rfl
theorem at_156_86 : ab_at 156 86 = some (.iload 4, 2) := rfl
theorem at_156_88 : ab_at 156 88 = some (.aload_n 0, 1) := rfl
theorem at_156_89 : ab_at 156 89 = some (.getfield 7, 3) := rfl
theorem at_156_92 : ab_at 156 92 = some (.sipush 951, 3) := rfl
theorem at_156_95 : ab_at 156 95 = some (.iaload, 1) := rfl
theorem at_156_96 : ab_at 156 96 = some (.if_icmp .ge 21, 3) := rfl
theorem at_156_99 : ab_at 156 99 = some (.aload_n 0, 1) := rfl
theorem at_156_100 : ab_at 156 100 = some (.sipush 714, 3) := rfl
theorem at_156_103 : ab_at 156 103 = some (.iload 4, 2) := rfl
theorem at_156_105 : ab_at 156 105 = some (.iload_n 1, 1) := rfl
theorem at_156_106 : ab_at 156 106 = some (.iload_n 3, 1) := rfl
theorem at_156_107 : ab_at 156 107 = some (.invokevirtual 177, 3) := rfl
theorem at_156_110 : ab_at 156 110 = some (.ifCond .eq 7, 3) := rfl
theorem at_156_113 : ab_at 156 113 = some (.iconst 1, 1) := rfl
theorem at_156_114 : ab_at 156 114 = some (.goto 4, 3) := rfl
theorem at_156_117 : ab_at 156 117 = some (.iconst 0, 1) := rfl
theorem at_156_118 : ab_at 156 118 = some (.istore_n 2, 1) := rfl
theorem at_156_119 : ab_at 156 119 = some (.iinc 3 1, 3) := rfl
theorem at_156_122 : ab_at 156 122 = some (.goto (-71), 3) := rfl
theorem at_156_125 : ab_at 156 125 = some (.iload_n 2, 1) := rfl
theorem at_156_126 : ab_at 156 126 = some (.ireturn, 1) := rfl
theorem at_157_0 : ab_at 157 0 = some (.aload_n 0, 1) := rfl
theorem at_157_1 : ab_at 157 1 = some (.getfield 7, 3) := rfl
theorem at_157_4 : ab_at 157 4 = some (.sipush 950, 3) := rfl
theorem at_157_7 : ab_at 157 7 = some (.iaload, 1) := rfl
theorem at_157_8 : ab_at 157 8 = some (.istore_n 1, 1) := rfl
theorem at_157_9 : ab_at 157 9 = some (.iconst 0, 1) := rfl
theorem at_157_10 : ab_at 157 10 = some (.istore_n 2, 1) := rfl
theorem at_157_11 : ab_at 157 11 = some (.iload_n 2, 1) := rfl
theorem at_157_12 : ab_at 157 12 = some (.iload_n 1, 1) := rfl
theorem at_157_13 : ab_at 157 13 = some (.if_icmp .ge 19, 3) := rfl
theorem at_157_16 : ab_at 157 16 = some (.aload_n 0, 1) := rfl
theorem at_157_17 : ab_at 157 17 = some (.iload_n 2, 1) := rfl
theorem at_157_18 : ab_at 157 18 = some (.invokevirtual 181, 3) := rfl
theorem at_157_21 : ab_at 157 21 = some (.ifCond .ne 5, 3) := rfl
theorem at_157_24 : ab_at 157 24 = some (.iconst 0, 1) := rfl
theorem at_157_25 : ab_at 157 25 = some (.ireturn, 1) := rfl
theorem at_157_26 : ab_at 157 26 = some (.iinc 2 1, 3) := rfl
theorem at_157_29 : ab_at 157 29 = some (.goto (-18), 3) := rfl
theorem at_157_32 : ab_at 157 32 = some (.aload_n 0, 1) := rfl
theorem at_157_33 : ab_at 157 33 = some (.sipush 714, 3) := rfl
theorem at_157_36 : ab_at 157 36 = some (.invokevirtual 153, 3) := rfl
theorem at_157_39 : ab_at 157 39 = some (.iload_n 1, 1) := rfl
theorem at_157_40 : ab_at 157 40 = some (.ifCond .eq 20, 3) := rfl
theorem at_157_43 : ab_at 157 43 = some (.aload_n 0, 1) := rfl
theorem at_157_44 : ab_at 157 44 = some (.sipush 714, 3) := rfl
theorem at_157_47 : ab_at 157 47 = some (.bipush (-4), 2) := rfl
theorem at_157_49 : ab_at 157 49 = some (.invokevirtual 163, 3) := rfl
theorem at_157_52 : ab_at 157 52 = some (.iconst 1, 1) := rfl
theorem at_157_53 : ab_at 157 53 = some (.iload_n 1, 1) := rfl
theorem at_157_54 : ab_at 157 54 = some (.ishl, 1) := rfl
theorem at_157_55 : ab_at 157 55 = some (.iconst 1, 1) := rfl
theorem at_157_56 : ab_at 157 56 = some (.isub, 1) := rfl
theorem at_157_57 : ab_at 157 57 = some (.if_icmp .ne 7, 3) := rfl
theorem at_157_60 : ab_at 157 60 = some (.iconst 1, 1) := rfl
theorem at_157_61 : ab_at 157 61 = some (.goto 4, 3) := rfl
theorem at_157_64 : ab_at 157 64 = some (.iconst 0, 1) := rfl
theorem at_157_65 : ab_at 157 65 = some (.istore_n 2, 1) := rfl
theorem at_157_66 : ab_at 157 66 = some (.iconst 0, 1) := rfl
theorem at_157_67 : ab_at 157 67 = some (.istore_n 3, 1) := rfl
theorem at_157_68 : ab_at 157 68 = some (.iload_n 2, 1) := rfl
theorem at_157_69 : ab_at 157 69 = some (.ifCond .eq 27, 3) := rfl
theorem at_157_72 : ab_at 157 72 = some (.iload_n 3, 1) := rfl
theorem at_157_73 : ab_at 157 73 = some (.aload_n 0, 1) := rfl
theorem at_157_74 : ab_at 157 74 = some (.getfield 7, 3) := rfl
theorem at_157_77 : ab_at 157 77 = some (.sipush 951, 3) := rfl
theorem at_157_80 : ab_at 157 80 = some (.iaload, 1) := rfl
theorem at_157_81 : ab_at 157 81 = some (.if_icmp .ge 15, 3) := rfl
theorem at_157_84 : ab_at 157 84 = some (.aload_n 0, 1) := rfl
theorem at_157_85 : ab_at 157 85 = some (.iload_n 3, 1) := rfl
theorem at_157_86 : ab_at 157 86 = some (.invokevirtual 185, 3) := rfl
theorem at_157_89 : ab_at 157 89 = some (.istore_n 2, 1) := rfl
theorem at_157_90 : ab_at 157 90 = some (.iinc 3 1, 3) := rfl
theorem at_157_93 : ab_at 157 93 = some (.goto (-25), 3) := rfl
theorem at_157_96 : ab_at 157 96 = some (.iconst 0, 1) := rfl
theorem at_157_97 : ab_at 157 97 = some (.istore_n 3, 1) := rfl
theorem at_157_98 : ab_at 157 98 = some (.iload_n 2, 1) := rfl
theorem at_157_99 : ab_at 157 99 = some (.ifCond .eq 56, 3) := rfl
theorem at_157_102 : ab_at 157 102 = some (.iload_n 3, 1) := rfl
theorem at_157_103 : ab_at 157 103 = some (.iload_n 1, 1) := rfl
theorem at_157_104 : ab_at 157 104 = some (.if_icmp .ge 51, 3) := rfl
theorem at_157_107 : ab_at 157 107 = some (.aload_n 0, 1) := rfl
theorem at_157_108 : ab_at 157 108 = some (.getfield 7, 3) := rfl
theorem at_157_111 : ab_at 157 111 = some (.sipush 744, 3) := rfl
theorem at_157_114 : ab_at 157 114 = some (.iload_n 3, 1) := rfl
theorem at_157_115 : ab_at 157 115 = some (.iadd, 1) := rfl
theorem at_157_116 : ab_at 157 116 = some (.iaload, 1) := rfl
theorem at_157_117 : ab_at 157 117 = some (.bipush (-4), 2) := rfl
theorem at_157_119 : ab_at 157 119 = some (.if_icmp .eq 24, 3) := rfl
theorem at_157_122 : ab_at 157 122 = some (.aload_n 0, 1) := rfl
theorem at_157_123 : ab_at 157 123 = some (.sipush 714, 3) := rfl
theorem at_157_126 : ab_at 157 126 = some (.aload_n 0, 1) := rfl
theorem at_157_127 : ab_at 157 127 = some (.getfield 7, 3) := rfl
theorem at_157_130 : ab_at 157 130 = some (.sipush 744, 3) := rfl
theorem at_157_133 : ab_at 157 133 = some (.iload_n 3, 1) := rfl
theorem at_157_134 : ab_at 157 134 = some (.iadd, 1) := rfl
theorem at_157_135 : ab_at 157 135 = some (.iaload, 1) := rfl
theorem at_157_136 : ab_at 157 136 = some (.iload_n 3, 1) := rfl
theorem at_157_137 : ab_at 157 137 = some (.invokevirtual 170, 3) := rfl
theorem at_157_140 : ab_at 157 140 = some (.ifCond .eq 7, 3) := rfl
theorem at_157_143 : ab_at 157 143 = some (.iconst 1, 1) := rfl
theorem at_157_144 : ab_at 157 144 = some (.goto 4, 3) := rfl
theorem at_157_147 : ab_at 157 147 = some (.iconst 0, 1) := rfl
theorem at_157_148 : ab_at 157 148 = some (.istore_n 2, 1) := rfl
theorem at_157_149 : ab_at 157 149 = some (.iinc 3 1, 3) := rfl
theorem at_157_152 : ab_at 157 152 = some (.goto (-54), 3) := rfl
theorem at_157_155 : ab_at 157 155 = some (.iload_n 2, 1) := rfl
theorem at_157_156 : ab_at 157 156 = some (.ireturn, 1) := rfl
theorem at_158_0 : ab_at 158 0 = some (.iload_n 1, 1) := rfl
theorem at_158_1 : ab_at 158 1 = some (.i2l, 1) := rfl
theorem at_158_2 : ab_at 158 2 = some (.lconst 0, 1) := rfl
theorem at_158_3 : ab_at 158 3 = some (.aload_n 0, 1) := rfl
theorem at_158_4 : ab_at 158 4 = some (.getfield 7, 3) := rfl
theorem at_158_7 : ab_at 158 7 = some (.sipush 236, 3) := rfl
theorem at_158_10 : ab_at 158 10 = some (.iaload, 1) := rfl
theorem at_158_11 : ab_at 158 11 = some (.iconst 1, 1) := rfl
theorem at_158_12 : ab_at 158 12 = some (.isub, 1) := rfl
theorem at_158_13 : ab_at 158 13 = some (.i2l, 1) := rfl
theorem at_158_14 : ab_at 158 14 = some (.invokestatic 71, 3) := rfl
theorem at_158_17 : ab_at 158 17 = some (.ireturn, 1) := rfl
theorem at_159_0 : ab_at 159 0 = some (.iload_n 1, 1) := rfl
theorem at_159_1 : ab_at 159 1 = some (.i2l, 1) := rfl
theorem at_159_2 : ab_at 159 2 = some (.lconst 0, 1) := rfl
theorem at_159_3 : ab_at 159 3 = some (.aload_n 0, 1) := rfl
theorem at_159_4 : ab_at 159 4 = some (.getfield 7, 3) := rfl
theorem at_159_7 : ab_at 159 7 = some (.sipush 237, 3) := rfl
theorem at_159_10 : ab_at 159 10 = some (.iaload, 1) := rfl
theorem at_159_11 : ab_at 159 11 = some (.iconst 1, 1) := rfl
theorem at_159_12 : ab_at 159 12 = some (.isub, 1) := rfl
theorem at_159_13 : ab_at 159 13 = some (.i2l, 1) := rfl
theorem at_159_14 : ab_at 159 14 = some (.invokestatic 71, 3) := rfl
theorem at_159_17 : ab_at 159 17 = some (.ireturn, 1) := rfl
theorem at_160_0 : ab_at 160 0 = some (.iconst 0, 1) := rfl
theorem at_160_1 : ab_at 160 1 = some (.istore_n 2, 1) := rfl
theorem at_160_2 : ab_at 160 2 = some (.iconst 0, 1) := rfl
theorem at_160_3 : ab_at 160 3 = some (.istore_n 3, 1) := rfl
theorem at_160_4 : ab_at 160 4 = some (.iload_n 3, 1) := rfl
theorem at_160_5 : ab_at 160 5 = some (.aload_n 0, 1) := rfl
theorem at_160_6 : ab_at 160 6 = some (.getfield 7, 3) := rfl
theorem at_160_9 : ab_at 160 9 = some (.sipush 237, 3) := rfl
theorem at_160_12 : ab_at 160 12 = some (.iaload, 1) := rfl
theorem at_160_13 : ab_at 160 13 = some (.if_icmp .ge 30, 3) := rfl
theorem at_160_16 : ab_at 160 16 = some (.iload_n 2, 1) := rfl
theorem at_160_17 : ab_at 160 17 = some (.aload_n 0, 1) := rfl
theorem at_160_18 : ab_at 160 18 = some (.getfield 7, 3) := rfl
theorem at_160_21 : ab_at 160 21 = some (.bipush 36, 2) := rfl
theorem at_160_23 : ab_at 160 23 = some (.iload_n 3, 1) := rfl
theorem at_160_24 : ab_at 160 24 = some (.iadd, 1) := rfl
theorem at_160_25 : ab_at 160 25 = some (.iaload, 1) := rfl
theorem at_160_26 : ab_at 160 26 = some (.iload_n 1, 1) := rfl
theorem at_160_27 : ab_at 160 27 = some (.if_icmp .ne 7, 3) := rfl
theorem at_160_30 : ab_at 160 30 = some (.iconst 1, 1) := rfl
theorem at_160_31 : ab_at 160 31 = some (.goto 4, 3) := rfl
theorem at_160_34 : ab_at 160 34 = some (.iconst 0, 1) := rfl
theorem at_160_35 : ab_at 160 35 = some (.iadd, 1) := rfl
theorem at_160_36 : ab_at 160 36 = some (.istore_n 2, 1) := rfl
theorem at_160_37 : ab_at 160 37 = some (.iinc 3 1, 3) := rfl
theorem at_160_40 : ab_at 160 40 = some (.goto (-36), 3) := rfl
theorem at_160_43 : ab_at 160 43 = some (.iload_n 2, 1) := rfl
theorem at_160_44 : ab_at 160 44 = some (.ireturn, 1) := rfl
theorem at_161_0 : ab_at 161 0 = some (.iconst 0, 1) := rfl
theorem at_161_1 : ab_at 161 1 = some (.istore_n 3, 1) := rfl
theorem at_161_2 : ab_at 161 2 = some (.iconst 0, 1) := rfl
theorem at_161_3 : ab_at 161 3 = some (.istore 4, 2) := rfl
theorem at_161_5 : ab_at 161 5 = some (.iload 4, 2) := rfl
theorem at_161_7 : ab_at 161 7 = some (.aload_n 0, 1) := rfl
theorem at_161_8 : ab_at 161 8 = some (.getfield 7, 3) := rfl
theorem at_161_11 : ab_at 161 11 = some (.sipush 237, 3) := rfl
theorem at_161_14 : ab_at 161 14 = some (.iaload, 1) := rfl
theorem at_161_15 : ab_at 161 15 = some (.if_icmp .ge 65, 3) := rfl
theorem at_161_18 : ab_at 161 18 = some (.iconst 0, 1) := rfl
theorem at_161_19 : ab_at 161 19 = some (.istore 5, 2) := rfl
theorem at_161_21 : ab_at 161 21 = some (.iload 5, 2) := rfl
theorem at_161_23 : ab_at 161 23 = some (.aload_n 0, 1) := rfl
theorem at_161_24 : ab_at 161 24 = some (.getfield 7, 3) := rfl
theorem at_161_27 : ab_at 161 27 = some (.bipush 76, 2) := rfl
theorem at_161_29 : ab_at 161 29 = some (.iload 4, 2) := rfl
theorem at_161_31 : ab_at 161 31 = some (.iadd, 1) := rfl
theorem at_161_32 : ab_at 161 32 = some (.iaload, 1) := rfl
theorem at_161_33 : ab_at 161 33 = some (.if_icmp .ge 41, 3) := rfl
theorem at_161_36 : ab_at 161 36 = some (.iload_n 3, 1) := rfl
theorem at_161_37 : ab_at 161 37 = some (.iload_n 2, 1) := rfl
theorem at_161_38 : ab_at 161 38 = some (.ifCond .ne 23, 3) := rfl
theorem at_161_41 : ab_at 161 41 = some (.aload_n 0, 1) := rfl
theorem at_161_42 : ab_at 161 42 = some (.getfield 7, 3) := rfl
theorem at_161_45 : ab_at 161 45 = some (.bipush 116, 2) := rfl
theorem at_161_47 : ab_at 161 47 = some (.bipush 6, 2) := rfl
theorem at_161_49 : ab_at 161 49 = some (.iload 4, 2) := rfl
theorem at_161_51 : ab_at 161 51 = some (.imul, 1) := rfl
theorem at_161_52 : ab_at 161 52 = some (.iadd, 1) := rfl
theorem at_161_53 : ab_at 161 53 = some (.iload 5, 2) := rfl
theorem at_161_55 : ab_at 161 55 = some (.iadd, 1) := rfl
theorem at_161_56 : ab_at 161 56 = some (.iaload, 1) := rfl
theorem at_161_57 : ab_at 161 57 = some (.iload_n 1, 1) := rfl
theorem at_161_58 : ab_at 161 58 = some (.if_icmp .ne 7, 3) := rfl
theorem at_161_61 : ab_at 161 61 = some (.iconst 1, 1) := rfl
theorem at_161_62 : ab_at 161 62 = some (.goto 4, 3) := rfl
theorem at_161_65 : ab_at 161 65 = some (.iconst 0, 1) := rfl
theorem at_161_66 : ab_at 161 66 = some (.iadd, 1) := rfl
theorem at_161_67 : ab_at 161 67 = some (.istore_n 3, 1) := rfl
theorem at_161_68 : ab_at 161 68 = some (.iinc 5 1, 3) := rfl
theorem at_161_71 : ab_at 161 71 = some (.goto (-50), 3) := rfl
theorem at_161_74 : ab_at 161 74 = some (.iinc 4 1, 3) := rfl
theorem at_161_77 : ab_at 161 77 = some (.goto (-72), 3) := rfl
theorem at_161_80 : ab_at 161 80 = some (.iconst 0, 1) := rfl
theorem at_161_81 : ab_at 161 81 = some (.istore 4, 2) := rfl
theorem at_161_83 : ab_at 161 83 = some (.iload 4, 2) := rfl
theorem at_161_85 : ab_at 161 85 = some (.aload_n 0, 1) := rfl
theorem at_161_86 : ab_at 161 86 = some (.getfield 7, 3) := rfl
theorem at_161_89 : ab_at 161 89 = some (.sipush 236, 3) := rfl
theorem at_161_92 : ab_at 161 92 = some (.iaload, 1) := rfl
theorem at_161_93 : ab_at 161 93 = some (.if_icmp .ge 46, 3) := rfl
theorem at_161_96 : ab_at 161 96 = some (.aload_n 0, 1) := rfl
theorem at_161_97 : ab_at 161 97 = some (.getfield 7, 3) := rfl
theorem at_161_100 : ab_at 161 100 = some (.bipush 30, 2) := rfl
theorem at_161_102 : ab_at 161 102 = some (.iload 4, 2) := rfl
theorem at_161_104 : ab_at 161 104 = some (.iadd, 1) := rfl
theorem at_161_105 : ab_at 161 105 = some (.iaload, 1) := rfl
theorem at_161_106 : ab_at 161 106 = some (.istore 5, 2) := rfl
theorem at_161_108 : ab_at 161 108 = some (.iload_n 3, 1) := rfl
theorem at_161_109 : ab_at 161 109 = some (.iload 5, 2) := rfl
theorem at_161_111 : ab_at 161 111 = some (.bipush (-4), 2) := rfl
theorem at_161_113 : ab_at 161 113 = some (.if_icmp .eq 17, 3) := rfl
theorem at_161_116 : ab_at 161 116 = some (.iload_n 2, 1) := rfl
theorem at_161_117 : ab_at 161 117 = some (.ifCond .ne 9, 3) := rfl
theorem at_161_120 : ab_at 161 120 = some (.iload 5, 2) := rfl
theorem at_161_122 : ab_at 161 122 = some (.iload_n 1, 1) := rfl
theorem at_161_123 : ab_at 161 123 = some (.if_icmp .ne 7, 3) := rfl
theorem at_161_126 : ab_at 161 126 = some (.iconst 1, 1) := rfl
theorem at_161_127 : ab_at 161 127 = some (.goto 4, 3) := rfl
theorem at_161_130 : ab_at 161 130 = some (.iconst 0, 1) := rfl
theorem at_161_131 : ab_at 161 131 = some (.iadd, 1) := rfl
theorem at_161_132 : ab_at 161 132 = some (.istore_n 3, 1) := rfl
theorem at_161_133 : ab_at 161 133 = some (.iinc 4 1, 3) := rfl
theorem at_161_136 : ab_at 161 136 = some (.goto (-53), 3) := rfl
theorem at_161_139 : ab_at 161 139 = some (.iload_n 3, 1) := rfl
theorem at_161_140 : ab_at 161 140 = some (.ireturn, 1) := rfl
theorem at_162_0 : ab_at 162 0 = some (.iload_n 1, 1) := rfl
theorem at_162_1 : ab_at 162 1 = some (.tableswitch 74 0 4 #[35, 44, 53, 60, 67], 35) := rfl
theorem at_162_36 : ab_at 162 36 = some (.aload_n 0, 1) := rfl
theorem at_162_37 : ab_at 162 37 = some (.getfield 7, 3) := rfl
theorem at_162_40 : ab_at 162 40 = some (.sipush 236, 3) := rfl
theorem at_162_43 : ab_at 162 43 = some (.iaload, 1) := rfl
theorem at_162_44 : ab_at 162 44 = some (.ireturn, 1) := rfl
theorem at_162_45 : ab_at 162 45 = some (.aload_n 0, 1) := rfl
theorem at_162_46 : ab_at 162 46 = some (.getfield 7, 3) := rfl
theorem at_162_49 : ab_at 162 49 = some (.sipush 237, 3) := rfl
theorem at_162_52 : ab_at 162 52 = some (.iaload, 1) := rfl
theorem at_162_53 : ab_at 162 53 = some (.ireturn, 1) := rfl
theorem at_162_54 : ab_at 162 54 = some (.aload_n 0, 1) := rfl
theorem at_162_55 : ab_at 162 55 = some (.bipush 8, 2) := rfl
theorem at_162_57 : ab_at 162 57 = some (.invokevirtual 188, 3) := rfl
theorem at_162_60 : ab_at 162 60 = some (.ireturn, 1) := rfl
theorem at_162_61 : ab_at 162 61 = some (.aload_n 0, 1) := rfl
theorem at_162_62 : ab_at 162 62 = some (.bipush 7, 2) := rfl
theorem at_162_64 : ab_at 162 64 = some (.invokevirtual 188, 3) := rfl
theorem at_162_67 : ab_at 162 67 = some (.ireturn, 1) := rfl
theorem at_162_68 : ab_at 162 68 = some (.aload_n 0, 1) := rfl
theorem at_162_69 : ab_at 162 69 = some (.iconst 0, 1) := rfl
theorem at_162_70 : ab_at 162 70 = some (.iconst 1, 1) := rfl
theorem at_162_71 : ab_at 162 71 = some (.invokevirtual 191, 3) := rfl
theorem at_162_74 : ab_at 162 74 = some (.ireturn, 1) := rfl
theorem at_162_75 : ab_at 162 75 = some (.iconst (-1), 1) := rfl
theorem at_162_76 : ab_at 162 76 = some (.ireturn, 1) := rfl
theorem at_163_0 : ab_at 163 0 = some (.iconst 0, 1) := rfl
theorem at_163_1 : ab_at 163 1 = some (.istore_n 2, 1) := rfl
theorem at_163_2 : ab_at 163 2 = some (.iload_n 2, 1) := rfl
theorem at_163_3 : ab_at 163 3 = some (.aload_n 0, 1) := rfl
theorem at_163_4 : ab_at 163 4 = some (.getfield 7, 3) := rfl
theorem at_163_7 : ab_at 163 7 = some (.sipush 236, 3) := rfl
theorem at_163_10 : ab_at 163 10 = some (.iaload, 1) := rfl
theorem at_163_11 : ab_at 163 11 = some (.if_icmp .ge 49, 3) := rfl
theorem at_163_14 : ab_at 163 14 = some (.iload_n 2, 1) := rfl
theorem at_163_15 : ab_at 163 15 = some (.iload_n 1, 1) := rfl
theorem at_163_16 : ab_at 163 16 = some (.if_icmp .eq 38, 3) := rfl
theorem at_163_19 : ab_at 163 19 = some (.aload_n 0, 1) := rfl
theorem at_163_20 : ab_at 163 20 = some (.iload_n 2, 1) := rfl
theorem at_163_21 : ab_at 163 21 = some (.iload_n 1, 1) := rfl
theorem at_163_22 : ab_at 163 22 = some (.invokevirtual 166, 3) := rfl
theorem at_163_25 : ab_at 163 25 = some (.ifCond .eq 29, 3) := rfl
theorem at_163_28 : ab_at 163 28 = some (.aload_n 0, 1) := rfl
theorem at_163_29 : ab_at 163 29 = some (.getfield 28, 3) := rfl
theorem at_163_32 : ab_at 163 32 = some (.iload_n 1, 1) := rfl
theorem at_163_33 : ab_at 163 33 = some (.iaload, 1) := rfl
theorem at_163_34 : ab_at 163 34 = some (.iconst 1, 1) := rfl
theorem at_163_35 : ab_at 163 35 = some (.iload_n 1, 1) := rfl
theorem at_163_36 : ab_at 163 36 = some (.ishl, 1) := rfl
theorem at_163_37 : ab_at 163 37 = some (.iconst (-1), 1) := rfl
theorem at_163_38 : ab_at 163 38 = some (.ixor, 1) := rfl
theorem at_163_39 : ab_at 163 39 = some (.iand, 1) := rfl
theorem at_163_40 : ab_at 163 40 = some (.aload_n 0, 1) := rfl
theorem at_163_41 : ab_at 163 41 = some (.getfield 28, 3) := rfl
theorem at_163_44 : ab_at 163 44 = some (.iload_n 2, 1) := rfl
theorem at_163_45 : ab_at 163 45 = some (.iaload, 1) := rfl
theorem at_163_46 : ab_at 163 46 = some (.iconst (-1), 1) := rfl
theorem at_163_47 : ab_at 163 47 = some (.ixor, 1) := rfl
theorem at_163_48 : ab_at 163 48 = some (.iand, 1) := rfl
theorem at_163_49 : ab_at 163 49 = some (.ifCond .ne 5, 3) := rfl
theorem at_163_52 : ab_at 163 52 = some (.iload_n 2, 1) := rfl
theorem at_163_53 : ab_at 163 53 = some (.ireturn, 1) := rfl
theorem at_163_54 : ab_at 163 54 = some (.iinc 2 1, 3) := rfl
theorem at_163_57 : ab_at 163 57 = some (.goto (-55), 3) := rfl
theorem at_163_60 : ab_at 163 60 = some (.bipush (-4), 2) := rfl
theorem at_163_62 : ab_at 163 62 = some (.ireturn, 1) := rfl
theorem at_164_0 : ab_at 164 0 = some (.aload_n 0, 1) := rfl
theorem at_164_1 : ab_at 164 1 = some (.iload_n 1, 1) := rfl
theorem at_164_2 : ab_at 164 2 = some (.invokevirtual 195, 3) := rfl
theorem at_164_5 : ab_at 164 5 = some (.ifCond .ne 5, 3) := rfl
theorem at_164_8 : ab_at 164 8 = some (.iconst (-1), 1) := rfl
theorem at_164_9 : ab_at 164 9 = some (.ireturn, 1) := rfl
theorem at_164_10 : ab_at 164 10 = some (.iload_n 2, 1) := rfl
theorem at_164_11 : ab_at 164 11 = some (.tableswitch 145 0 8 #[49, 75, 85, 95, 105, 115, 125, 132, 139], 49) := rfl
theorem at_164_60 : ab_at 164 60 = some (.aload_n 0, 1) := rfl
theorem at_164_61 : ab_at 164 61 = some (.getfield 7, 3) := rfl
theorem at_164_64 : ab_at 164 64 = some (.bipush 6, 2) := rfl
theorem at_164_66 : ab_at 164 66 = some (.iload_n 1, 1) := rfl
theorem at_164_67 : ab_at 164 67 = some (.iadd, 1) := rfl
theorem at_164_68 : ab_at 164 68 = some (.iaload, 1) := rfl
theorem at_164_69 : ab_at 164 69 = some (.ifCond .ne 8, 3) := rfl
theorem at_164_72 : ab_at 164 72 = some (.bipush (-4), 2) := rfl
theorem at_164_74 : ab_at 164 74 = some (.goto 11, 3) := rfl
theorem at_164_77 : ab_at 164 77 = some (.aload_n 0, 1) := rfl
theorem at_164_78 : ab_at 164 78 = some (.getfield 7, 3) := rfl
theorem at_164_81 : ab_at 164 81 = some (.iconst 0, 1) := rfl
theorem at_164_82 : ab_at 164 82 = some (.iload_n 1, 1) := rfl
theorem at_164_83 : ab_at 164 83 = some (.iadd, 1) := rfl
theorem at_164_84 : ab_at 164 84 = some (.iaload, 1) := rfl
theorem at_164_85 : ab_at 164 85 = some (.ireturn, 1) := rfl
theorem at_164_86 : ab_at 164 86 = some (.aload_n 0, 1) := rfl
theorem at_164_87 : ab_at 164 87 = some (.getfield 7, 3) := rfl
theorem at_164_90 : ab_at 164 90 = some (.bipush 6, 2) := rfl
theorem at_164_92 : ab_at 164 92 = some (.iload_n 1, 1) := rfl
theorem at_164_93 : ab_at 164 93 = some (.iadd, 1) := rfl
theorem at_164_94 : ab_at 164 94 = some (.iaload, 1) := rfl
theorem at_164_95 : ab_at 164 95 = some (.ireturn, 1) := rfl
theorem at_164_96 : ab_at 164 96 = some (.aload_n 0, 1) := rfl
theorem at_164_97 : ab_at 164 97 = some (.getfield 7, 3) := rfl
theorem at_164_100 : ab_at 164 100 = some (.bipush 12, 2) := rfl
theorem at_164_102 : ab_at 164 102 = some (.iload_n 1, 1) := rfl
theorem at_164_103 : ab_at 164 103 = some (.iadd, 1) := rfl
theorem at_164_104 : ab_at 164 104 = some (.iaload, 1) := rfl
theorem at_164_105 : ab_at 164 105 = some (.ireturn, 1) := rfl
theorem at_164_106 : ab_at 164 106 = some (.aload_n 0, 1) := rfl
theorem at_164_107 : ab_at 164 107 = some (.getfield 7, 3) := rfl
theorem at_164_110 : ab_at 164 110 = some (.bipush 18, 2) := rfl
theorem at_164_112 : ab_at 164 112 = some (.iload_n 1, 1) := rfl
theorem at_164_113 : ab_at 164 113 = some (.iadd, 1) := rfl
theorem at_164_114 : ab_at 164 114 = some (.iaload, 1) := rfl
theorem at_164_115 : ab_at 164 115 = some (.ireturn, 1) := rfl
theorem at_164_116 : ab_at 164 116 = some (.aload_n 0, 1) := rfl
theorem at_164_117 : ab_at 164 117 = some (.getfield 7, 3) := rfl
theorem at_164_120 : ab_at 164 120 = some (.bipush 24, 2) := rfl
theorem at_164_122 : ab_at 164 122 = some (.iload_n 1, 1) := rfl
theorem at_164_123 : ab_at 164 123 = some (.iadd, 1) := rfl
theorem at_164_124 : ab_at 164 124 = some (.iaload, 1) := rfl
theorem at_164_125 : ab_at 164 125 = some (.ireturn, 1) := rfl
theorem at_164_126 : ab_at 164 126 = some (.aload_n 0, 1) := rfl
theorem at_164_127 : ab_at 164 127 = some (.getfield 7, 3) := rfl
theorem at_164_130 : ab_at 164 130 = some (.bipush 30, 2) := rfl
theorem at_164_132 : ab_at 164 132 = some (.iload_n 1, 1) := rfl
theorem at_164_133 : ab_at 164 133 = some (.iadd, 1) := rfl
theorem at_164_134 : ab_at 164 134 = some (.iaload, 1) := rfl
theorem at_164_135 : ab_at 164 135 = some (.ireturn, 1) := rfl
theorem at_164_136 : ab_at 164 136 = some (.aload_n 0, 1) := rfl
theorem at_164_137 : ab_at 164 137 = some (.getfield 25, 3) := rfl
theorem at_164_140 : ab_at 164 140 = some (.iload_n 1, 1) := rfl
theorem at_164_141 : ab_at 164 141 = some (.iaload, 1) := rfl
theorem at_164_142 : ab_at 164 142 = some (.ireturn, 1) := rfl
theorem at_164_143 : ab_at 164 143 = some (.aload_n 0, 1) := rfl
theorem at_164_144 : ab_at 164 144 = some (.getfield 28, 3) := rfl
theorem at_164_147 : ab_at 164 147 = some (.iload_n 1, 1) := rfl
theorem at_164_148 : ab_at 164 148 = some (.iaload, 1) := rfl
theorem at_164_149 : ab_at 164 149 = some (.ireturn, 1) := rfl
theorem at_164_150 : ab_at 164 150 = some (.aload_n 0, 1) := rfl
theorem at_164_151 : ab_at 164 151 = some (.iload_n 1, 1) := rfl
theorem at_164_152 : ab_at 164 152 = some (.invokevirtual 198, 3) := rfl
theorem at_164_155 : ab_at 164 155 = some (.ireturn, 1) := rfl
theorem at_164_156 : ab_at 164 156 = some (.iconst (-1), 1) := rfl
theorem at_164_157 : ab_at 164 157 = some (.ireturn, 1) := rfl
theorem at_165_0 : ab_at 165 0 = some (.aload_n 0, 1) := rfl
theorem at_165_1 : ab_at 165 1 = some (.iload_n 1, 1) := rfl
theorem at_165_2 : ab_at 165 2 = some (.invokevirtual 195, 3) := rfl
theorem at_165_5 : ab_at 165 5 = some (.ifCond .eq 35, 3) := rfl
theorem at_165_8 : ab_at 165 8 = some (.iload_n 2, 1) := rfl
theorem at_165_9 : ab_at 165 9 = some (.i2l, 1) := rfl
theorem at_165_10 : ab_at 165 10 = some (.lconst 0, 1) := rfl
theorem at_165_11 : ab_at 165 11 = some (.aload_n 0, 1) := rfl
theorem at_165_12 : ab_at 165 12 = some (.getfield 25, 3) := rfl
theorem at_165_15 : ab_at 165 15 = some (.iload_n 1, 1) := rfl
theorem at_165_16 : ab_at 165 16 = some (.iaload, 1) := rfl
theorem at_165_17 : ab_at 165 17 = some (.iconst 1, 1) := rfl
theorem at_165_18 : ab_at 165 18 = some (.isub, 1) := rfl
theorem at_165_19 : ab_at 165 19 = some (.i2l, 1) := rfl
theorem at_165_20 : ab_at 165 20 = some (.invokestatic 71, 3) := rfl
theorem at_165_23 : ab_at 165 23 = some (.ifCond .eq 17, 3) := rfl
theorem at_165_26 : ab_at 165 26 = some (.aload_n 0, 1) := rfl
theorem at_165_27 : ab_at 165 27 = some (.getfield 22, 3) := rfl
theorem at_165_30 : ab_at 165 30 = some (.bipush 6, 2) := rfl
theorem at_165_32 : ab_at 165 32 = some (.iload_n 1, 1) := rfl
theorem at_165_33 : ab_at 165 33 = some (.imul, 1) := rfl
theorem at_165_34 : ab_at 165 34 = some (.iload_n 2, 1) := rfl
theorem at_165_35 : ab_at 165 35 = some (.iadd, 1) := rfl
theorem at_165_36 : ab_at 165 36 = some (.iaload, 1) := rfl
theorem at_165_37 : ab_at 165 37 = some (.goto 4, 3) := rfl
theorem at_165_40 : ab_at 165 40 = some (.iconst (-1), 1) := rfl
theorem at_165_41 : ab_at 165 41 = some (.ireturn, 1) := rfl
theorem at_166_0 : ab_at 166 0 = some (.aload_n 0, 1) := rfl
theorem at_166_1 : ab_at 166 1 = some (.iload_n 1, 1) := rfl
theorem at_166_2 : ab_at 166 2 = some (.invokevirtual 201, 3) := rfl
theorem at_166_5 : ab_at 166 5 = some (.ifCond .ne 5, 3) := rfl
theorem at_166_8 : ab_at 166 8 = some (.iconst (-1), 1) := rfl
theorem at_166_9 : ab_at 166 9 = some (.ireturn, 1) := rfl
theorem at_166_10 : ab_at 166 10 = some (.aload_n 0, 1) := rfl
theorem at_166_11 : ab_at 166 11 = some (.getfield 7, 3) := rfl
theorem at_166_14 : ab_at 166 14 = some (.bipush 36, 2) := rfl
theorem at_166_16 : ab_at 166 16 = some (.iload_n 1, 1) := rfl
theorem at_166_17 : ab_at 166 17 = some (.iadd, 1) := rfl
theorem at_166_18 : ab_at 166 18 = some (.iaload, 1) := rfl
theorem at_166_19 : ab_at 166 19 = some (.istore_n 3, 1) := rfl
theorem at_166_20 : ab_at 166 20 = some (.iload_n 2, 1) := rfl
theorem at_166_21 : ab_at 166 21 = some (.tableswitch 84 0 4 #[35, 37, 47, 57, 77], 35) := rfl
theorem at_166_56 : ab_at 166 56 = some (.iload_n 3, 1) := rfl
theorem at_166_57 : ab_at 166 57 = some (.ireturn, 1) := rfl
theorem at_166_58 : ab_at 166 58 = some (.aload_n 0, 1) := rfl
theorem at_166_59 : ab_at 166 59 = some (.getfield 7, 3) := rfl
theorem at_166_62 : ab_at 166 62 = some (.bipush 56, 2) := rfl
theorem at_166_64 : ab_at 166 64 = some (.iload_n 1, 1) := rfl
theorem at_166_65 : ab_at 166 65 = some (.iadd, 1) := rfl
theorem at_166_66 : ab_at 166 66 = some (.iaload, 1) := rfl
theorem at_166_67 : ab_at 166 67 = some (.ireturn, 1) := rfl
theorem at_166_68 : ab_at 166 68 = some (.aload_n 0, 1) := rfl
theorem at_166_69 : ab_at 166 69 = some (.getfield 7, 3) := rfl
theorem at_166_72 : ab_at 166 72 = some (.bipush 76, 2) := rfl
theorem at_166_74 : ab_at 166 74 = some (.iload_n 1, 1) := rfl
theorem at_166_75 : ab_at 166 75 = some (.iadd, 1) := rfl
theorem at_166_76 : ab_at 166 76 = some (.iaload, 1) := rfl
theorem at_166_77 : ab_at 166 77 = some (.ireturn, 1) := rfl
theorem at_166_78 : ab_at 166 78 = some (.iload_n 3, 1) := rfl
theorem at_166_79 : ab_at 166 79 = some (.iconst 2, 1) := rfl
theorem at_166_80 : ab_at 166 80 = some (.if_icmp .ge 15, 3) := rfl
theorem at_166_83 : ab_at 166 83 = some (.aload_n 0, 1) := rfl
theorem at_166_84 : ab_at 166 84 = some (.getfield 7, 3) := rfl
theorem at_166_87 : ab_at 166 87 = some (.bipush 96, 2) := rfl
theorem at_166_89 : ab_at 166 89 = some (.iload_n 1, 1) := rfl
theorem at_166_90 : ab_at 166 90 = some (.iadd, 1) := rfl
theorem at_166_91 : ab_at 166 91 = some (.iaload, 1) := rfl
theorem at_166_92 : ab_at 166 92 = some (.goto 5, 3) := rfl
theorem at_166_95 : ab_at 166 95 = some (.bipush (-4), 2) := rfl
theorem at_166_97 : ab_at 166 97 = some (.ireturn, 1) := rfl
theorem at_166_98 : ab_at 166 98 = some (.aload_n 0, 1) := rfl
theorem at_166_99 : ab_at 166 99 = some (.iload_n 1, 1) := rfl
theorem at_166_100 : ab_at 166 100 = some (.iconst 0, 1) := rfl
theorem at_166_101 : ab_at 166 101 = some (.invokevirtual 191, 3) := rfl
theorem at_166_104 : ab_at 166 104 = some (.ireturn, 1) := rfl
theorem at_166_105 : ab_at 166 105 = some (.iconst (-1), 1) := rfl
theorem at_166_106 : ab_at 166 106 = some (.ireturn, 1) := rfl
theorem at_167_0 : ab_at 167 0 = some (.aload_n 0, 1) := rfl
theorem at_167_1 : ab_at 167 1 = some (.iload_n 1, 1) := rfl
theorem at_167_2 : ab_at 167 2 = some (.invokevirtual 201, 3) := rfl
theorem at_167_5 : ab_at 167 5 = some (.ifCond .eq 28, 3) := rfl
theorem at_167_8 : ab_at 167 8 = some (.iload_n 2, 1) := rfl
theorem at_167_9 : ab_at 167 9 = some (.i2l, 1) := rfl
theorem at_167_10 : ab_at 167 10 = some (.lconst 0, 1) := rfl
theorem at_167_11 : ab_at 167 11 = some (.aload_n 0, 1) := rfl
theorem at_167_12 : ab_at 167 12 = some (.getfield 7, 3) := rfl
theorem at_167_15 : ab_at 167 15 = some (.bipush 76, 2) := rfl
theorem at_167_17 : ab_at 167 17 = some (.iload_n 1, 1) := rfl
theorem at_167_18 : ab_at 167 18 = some (.iadd, 1) := rfl
theorem at_167_19 : ab_at 167 19 = some (.iaload, 1) := rfl
theorem at_167_20 : ab_at 167 20 = some (.iconst 1, 1) := rfl
theorem at_167_21 : ab_at 167 21 = some (.isub, 1) := rfl
theorem at_167_22 : ab_at 167 22 = some (.i2l, 1) := rfl
theorem at_167_23 : ab_at 167 23 = some (.invokestatic 71, 3) := rfl
theorem at_167_26 : ab_at 167 26 = some (.ifCond .eq 7, 3) := rfl
theorem at_167_29 : ab_at 167 29 = some (.iconst 1, 1) := rfl
theorem at_167_30 : ab_at 167 30 = some (.goto 4, 3) := rfl
theorem at_167_33 : ab_at 167 33 = some (.iconst 0, 1) := rfl
theorem at_167_34 : ab_at 167 34 = some (.ireturn, 1) := rfl
theorem at_168_0 : ab_at 168 0 = some (.aload_n 0, 1) := rfl
theorem at_168_1 : ab_at 168 1 = some (.iload_n 1, 1) := rfl
theorem at_168_2 : ab_at 168 2 = some (.iload_n 2, 1) := rfl
theorem at_168_3 : ab_at 168 3 = some (.invokevirtual 204, 3) := rfl
theorem at_168_6 : ab_at 168 6 = some (.ifCond .eq 20, 3) := rfl
theorem at_168_9 : ab_at 168 9 = some (.aload_n 0, 1) := rfl
theorem at_168_10 : ab_at 168 10 = some (.getfield 7, 3) := rfl
theorem at_168_13 : ab_at 168 13 = some (.bipush 116, 2) := rfl
theorem at_168_15 : ab_at 168 15 = some (.bipush 6, 2) := rfl
theorem at_168_17 : ab_at 168 17 = some (.iload_n 1, 1) := rfl
theorem at_168_18 : ab_at 168 18 = some (.imul, 1) := rfl
theorem at_168_19 : ab_at 168 19 = some (.iadd, 1) := rfl
theorem at_168_20 : ab_at 168 20 = some (.iload_n 2, 1) := rfl
theorem at_168_21 : ab_at 168 21 = some (.iadd, 1) := rfl
theorem at_168_22 : ab_at 168 22 = some (.iaload, 1) := rfl
theorem at_168_23 : ab_at 168 23 = some (.goto 4, 3) := rfl
theorem at_168_26 : ab_at 168 26 = some (.iconst (-1), 1) := rfl
theorem at_168_27 : ab_at 168 27 = some (.ireturn, 1) := rfl
theorem at_169_0 : ab_at 169 0 = some (.aload_n 0, 1) := rfl
theorem at_169_1 : ab_at 169 1 = some (.iload_n 1, 1) := rfl
theorem at_169_2 : ab_at 169 2 = some (.invokevirtual 201, 3) := rfl
theorem at_169_5 : ab_at 169 5 = some (.ifCond .eq 11, 3) := rfl
theorem at_169_8 : ab_at 169 8 = some (.aload_n 0, 1) := rfl
theorem at_169_9 : ab_at 169 9 = some (.iload_n 2, 1) := rfl
theorem at_169_10 : ab_at 169 10 = some (.invokevirtual 201, 3) := rfl
theorem at_169_13 : ab_at 169 13 = some (.ifCond .ne 7, 3) := rfl
theorem at_169_16 : ab_at 169 16 = some (.iconst (-1), 1) := rfl
theorem at_169_17 : ab_at 169 17 = some (.goto 18, 3) := rfl
theorem at_169_20 : ab_at 169 20 = some (.aload_n 0, 1) := rfl
theorem at_169_21 : ab_at 169 21 = some (.iconst 0, 1) := rfl
theorem at_169_22 : ab_at 169 22 = some (.iload_n 1, 1) := rfl
theorem at_169_23 : ab_at 169 23 = some (.iload_n 2, 1) := rfl
theorem at_169_24 : ab_at 169 24 = some (.invokevirtual 174, 3) := rfl
theorem at_169_27 : ab_at 169 27 = some (.ifCond .eq 7, 3) := rfl
theorem at_169_30 : ab_at 169 30 = some (.iconst 1, 1) := rfl
theorem at_169_31 : ab_at 169 31 = some (.goto 4, 3) := rfl
theorem at_169_34 : ab_at 169 34 = some (.iconst 0, 1) := rfl
theorem at_169_35 : ab_at 169 35 = some (.ireturn, 1) := rfl
theorem at_170_0 : ab_at 170 0 = some (.lload_n 1, 1) := rfl
theorem at_170_1 : ab_at 170 1 = some (.ldc2_w 207, 3) := rfl
theorem at_170_4 : ab_at 170 4 = some (.lcmp, 1) := rfl
theorem at_170_5 : ab_at 170 5 = some (.ifCond .eq 11, 3) := rfl
theorem at_170_8 : ab_at 170 8 = some (.lload_n 3, 1) := rfl
theorem at_170_9 : ab_at 170 9 = some (.ldc2_w 207, 3) := rfl
theorem at_170_12 : ab_at 170 12 = some (.lcmp, 1) := rfl
theorem at_170_13 : ab_at 170 13 = some (.ifCond .ne 16, 3) := rfl
theorem at_170_16 : ab_at 170 16 = some (.iload_n 0, 1) := rfl
theorem at_170_17 : ab_at 170 17 = some (.iconst 5, 1) := rfl
theorem at_170_18 : ab_at 170 18 = some (.if_icmp .ne 7, 3) := rfl
theorem at_170_21 : ab_at 170 21 = some (.lconst 0, 1) := rfl
theorem at_170_22 : ab_at 170 22 = some (.goto 6, 3) := rfl
theorem at_170_25 : ab_at 170 25 = some (.ldc2_w 207, 3) := rfl
theorem at_170_28 : ab_at 170 28 = some (.lreturn, 1) := rfl
theorem at_170_29 : ab_at 170 29 = some (.iload_n 0, 1) := rfl
theorem at_170_30 : ab_at 170 30 = some (.tableswitch 59 2 5 #[30, 36, 42, 47], 30) := rfl
theorem at_170_60 : ab_at 170 60 = some (.lload_n 1, 1) := rfl
theorem at_170_61 : ab_at 170 61 = some (.lload_n 3, 1) := rfl
theorem at_170_62 : ab_at 170 62 = some (.ladd, 1) := rfl
theorem at_170_63 : ab_at 170 63 = some (.l2i, 1) := rfl
theorem at_170_64 : ab_at 170 64 = some (.i2l, 1) := rfl
theorem at_170_65 : ab_at 170 65 = some (.lreturn, 1) := rfl
theorem at_170_66 : ab_at 170 66 = some (.lload_n 1, 1) := rfl
theorem at_170_67 : ab_at 170 67 = some (.lload_n 3, 1) := rfl
theorem at_170_68 : ab_at 170 68 = some (.lmul, 1) := rfl
theorem at_170_69 : ab_at 170 69 = some (.l2i, 1) := rfl
theorem at_170_70 : ab_at 170 70 = some (.i2l, 1) := rfl
theorem at_170_71 : ab_at 170 71 = some (.lreturn, 1) := rfl
theorem at_170_72 : ab_at 170 72 = some (.lload_n 1, 1) := rfl
theorem at_170_73 : ab_at 170 73 = some (.lneg, 1) := rfl
theorem at_170_74 : ab_at 170 74 = some (.l2i, 1) := rfl
theorem at_170_75 : ab_at 170 75 = some (.i2l, 1) := rfl
theorem at_170_76 : ab_at 170 76 = some (.lreturn, 1) := rfl
theorem at_170_77 : ab_at 170 77 = some (.lload_n 1, 1) := rfl
theorem at_170_78 : ab_at 170 78 = some (.lload_n 3, 1) := rfl
theorem at_170_79 : ab_at 170 79 = some (.lcmp, 1) := rfl
theorem at_170_80 : ab_at 170 80 = some (.ifCond .ge 7, 3) := rfl
theorem at_170_83 : ab_at 170 83 = some (.lconst 1, 1) := rfl
theorem at_170_84 : ab_at 170 84 = some (.goto 4, 3) := rfl
theorem at_170_87 : ab_at 170 87 = some (.lconst 0, 1) := rfl
theorem at_170_88 : ab_at 170 88 = some (.lreturn, 1) := rfl
theorem at_170_89 : ab_at 170 89 = some (.lload_n 3, 1) := rfl
theorem at_170_90 : ab_at 170 90 = some (.lconst 0, 1) := rfl
theorem at_170_91 : ab_at 170 91 = some (.lcmp, 1) := rfl
theorem at_170_92 : ab_at 170 92 = some (.ifCond .ne 9, 3) := rfl
theorem at_170_95 : ab_at 170 95 = some (.ldc2_w 207, 3) := rfl
theorem at_170_98 : ab_at 170 98 = some (.goto 8, 3) := rfl
theorem at_170_101 : ab_at 170 101 = some (.lload_n 1, 1) := rfl
theorem at_170_102 : ab_at 170 102 = some (.lload_n 3, 1) := rfl
theorem at_170_103 : ab_at 170 103 = some (.ldiv, 1) := rfl
theorem at_170_104 : ab_at 170 104 = some (.l2i, 1) := rfl
theorem at_170_105 : ab_at 170 105 = some (.i2l, 1) := rfl
theorem at_170_106 : ab_at 170 106 = some (.lreturn, 1) := rfl
theorem at_171_0 : ab_at 171 0 = some (.aload_n 0, 1) := rfl
theorem at_171_1 : ab_at 171 1 = some (.getfield 7, 3) := rfl
theorem at_171_4 : ab_at 171 4 = some (.bipush 36, 2) := rfl
theorem at_171_6 : ab_at 171 6 = some (.iload_n 2, 1) := rfl
theorem at_171_7 : ab_at 171 7 = some (.iadd, 1) := rfl
theorem at_171_8 : ab_at 171 8 = some (.iaload, 1) := rfl
theorem at_171_9 : ab_at 171 9 = some (.istore_n 3, 1) := rfl
theorem at_171_10 : ab_at 171 10 = some (.aload_n 0, 1) := rfl
theorem at_171_11 : ab_at 171 11 = some (.getfield 7, 3) := rfl
theorem at_171_14 : ab_at 171 14 = some (.bipush 96, 2) := rfl
theorem at_171_16 : ab_at 171 16 = some (.iload_n 2, 1) := rfl
theorem at_171_17 : ab_at 171 17 = some (.iadd, 1) := rfl
theorem at_171_18 : ab_at 171 18 = some (.iaload, 1) := rfl
theorem at_171_19 : ab_at 171 19 = some (.istore 4, 2) := rfl
theorem at_171_21 : ab_at 171 21 = some (.iload_n 3, 1) := rfl
theorem at_171_22 : ab_at 171 22 = some (.ifCond .ne 20, 3) := rfl
theorem at_171_25 : ab_at 171 25 = some (.iload 4, 2) := rfl
theorem at_171_27 : ab_at 171 27 = some (.bipush 99, 2) := rfl
theorem at_171_29 : ab_at 171 29 = some (.if_icmp .ne 9, 3) := rfl
theorem at_171_32 : ab_at 171 32 = some (.ldc2_w 207, 3) := rfl
theorem at_171_35 : ab_at 171 35 = some (.goto 6, 3) := rfl
theorem at_171_38 : ab_at 171 38 = some (.iload 4, 2) := rfl
theorem at_171_40 : ab_at 171 40 = some (.i2l, 1) := rfl
theorem at_171_41 : ab_at 171 41 = some (.lreturn, 1) := rfl
theorem at_171_42 : ab_at 171 42 = some (.iload_n 3, 1) := rfl
theorem at_171_43 : ab_at 171 43 = some (.iconst 1, 1) := rfl
theorem at_171_44 : ab_at 171 44 = some (.if_icmp .ne 12, 3) := rfl
theorem at_171_47 : ab_at 171 47 = some (.aload_n 0, 1) := rfl
theorem at_171_48 : ab_at 171 48 = some (.getfield 38, 3) := rfl
theorem at_171_51 : ab_at 171 51 = some (.iload 4, 2) := rfl
theorem at_171_53 : ab_at 171 53 = some (.iaload, 1) := rfl
theorem at_171_54 : ab_at 171 54 = some (.i2l, 1) := rfl
theorem at_171_55 : ab_at 171 55 = some (.lreturn, 1) := rfl
theorem at_171_56 : ab_at 171 56 = some (.aload_n 0, 1) := rfl
theorem at_171_57 : ab_at 171 57 = some (.getfield 31, 3) := rfl
theorem at_171_60 : ab_at 171 60 = some (.iload_n 1, 1) := rfl
theorem at_171_61 : ab_at 171 61 = some (.aload_n 0, 1) := rfl
theorem at_171_62 : ab_at 171 62 = some (.getfield 7, 3) := rfl
theorem at_171_65 : ab_at 171 65 = some (.bipush 116, 2) := rfl
theorem at_171_67 : ab_at 171 67 = some (.bipush 6, 2) := rfl
theorem at_171_69 : ab_at 171 69 = some (.iload_n 2, 1) := rfl
theorem at_171_70 : ab_at 171 70 = some (.imul, 1) := rfl
theorem at_171_71 : ab_at 171 71 = some (.iadd, 1) := rfl
theorem at_171_72 : ab_at 171 72 = some (.iaload, 1) := rfl
theorem at_171_73 : ab_at 171 73 = some (.iadd, 1) := rfl
theorem at_171_74 : ab_at 171 74 = some (.laload, 1) := rfl
theorem at_171_75 : ab_at 171 75 = some (.lstore 5, 2) := rfl
theorem at_171_77 : ab_at 171 77 = some (.iload_n 3, 1) := rfl
theorem at_171_78 : ab_at 171 78 = some (.iconst 4, 1) := rfl
theorem at_171_79 : ab_at 171 79 = some (.if_icmp .ne 7, 3) := rfl
theorem at_171_82 : ab_at 171 82 = some (.lconst 0, 1) := rfl
theorem at_171_83 : ab_at 171 83 = some (.goto 24, 3) := rfl
theorem at_171_86 : ab_at 171 86 = some (.aload_n 0, 1) := rfl
theorem at_171_87 : ab_at 171 87 = some (.getfield 31, 3) := rfl
theorem at_171_90 : ab_at 171 90 = some (.iload_n 1, 1) := rfl
theorem at_171_91 : ab_at 171 91 = some (.aload_n 0, 1) := rfl
theorem at_171_92 : ab_at 171 92 = some (.getfield 7, 3) := rfl
theorem at_171_95 : ab_at 171 95 = some (.bipush 116, 2) := rfl
theorem at_171_97 : ab_at 171 97 = some (.bipush 6, 2) := rfl
theorem at_171_99 : ab_at 171 99 = some (.iload_n 2, 1) := rfl
theorem at_171_100 : ab_at 171 100 = some (.imul, 1) := rfl
theorem at_171_101 : ab_at 171 101 = some (.iadd, 1) := rfl
theorem at_171_102 : ab_at 171 102 = some (.iconst 1, 1) := rfl
theorem at_171_103 : ab_at 171 103 = some (.iadd, 1) := rfl
theorem at_171_104 : ab_at 171 104 = some (.iaload, 1) := rfl
theorem at_171_105 : ab_at 171 105 = some (.iadd, 1) := rfl
theorem at_171_106 : ab_at 171 106 = some (.laload, 1) := rfl
theorem at_171_107 : ab_at 171 107 = some (.lstore 7, 2) := rfl
theorem at_171_109 : ab_at 171 109 = some (.iload_n 3, 1) := rfl
theorem at_171_110 : ab_at 171 110 = some (.lload 5, 2) := rfl
theorem at_171_112 : ab_at 171 112 = some (.lload 7, 2) := rfl
theorem at_171_114 : ab_at 171 114 = some (.invokestatic 209, 3) := rfl
theorem at_171_117 : ab_at 171 117 = some (.lreturn, 1) := rfl
theorem at_172_0 : ab_at 172 0 = some (.iload_n 2, 1) := rfl
theorem at_172_1 : ab_at 172 1 = some (.bipush (-4), 2) := rfl
theorem at_172_3 : ab_at 172 3 = some (.if_icmp .eq 52, 3) := rfl
theorem at_172_6 : ab_at 172 6 = some (.aload_n 0, 1) := rfl
theorem at_172_7 : ab_at 172 7 = some (.dup, 1) := rfl
theorem at_172_8 : ab_at 172 8 = some (.getfield 213, 3) := rfl
theorem at_172_11 : ab_at 172 11 = some (.aload_n 0, 1) := rfl
theorem at_172_12 : ab_at 172 12 = some (.getfield 31, 3) := rfl
theorem at_172_15 : ab_at 172 15 = some (.iload_n 1, 1) := rfl
theorem at_172_16 : ab_at 172 16 = some (.iload_n 2, 1) := rfl
theorem at_172_17 : ab_at 172 17 = some (.iadd, 1) := rfl
theorem at_172_18 : ab_at 172 18 = some (.laload, 1) := rfl
theorem at_172_19 : ab_at 172 19 = some (.ldc2_w 216, 3) := rfl
theorem at_172_22 : ab_at 172 22 = some (.lcmp, 1) := rfl
theorem at_172_23 : ab_at 172 23 = some (.ifCond .eq 27, 3) := rfl
theorem at_172_26 : ab_at 172 26 = some (.aload_n 0, 1) := rfl
theorem at_172_27 : ab_at 172 27 = some (.getfield 31, 3) := rfl
theorem at_172_30 : ab_at 172 30 = some (.iload_n 1, 1) := rfl
theorem at_172_31 : ab_at 172 31 = some (.iload_n 2, 1) := rfl
theorem at_172_32 : ab_at 172 32 = some (.iadd, 1) := rfl
theorem at_172_33 : ab_at 172 33 = some (.laload, 1) := rfl
theorem at_172_34 : ab_at 172 34 = some (.aload_n 0, 1) := rfl
theorem at_172_35 : ab_at 172 35 = some (.getfield 31, 3) := rfl
theorem at_172_38 : ab_at 172 38 = some (.iload_n 1, 1) := rfl
theorem at_172_39 : ab_at 172 39 = some (.iload_n 3, 1) := rfl
theorem at_172_40 : ab_at 172 40 = some (.iadd, 1) := rfl
theorem at_172_41 : ab_at 172 41 = some (.laload, 1) := rfl
theorem at_172_42 : ab_at 172 42 = some (.lcmp, 1) := rfl
theorem at_172_43 : ab_at 172 43 = some (.ifCond .eq 7, 3) := rfl
theorem at_172_46 : ab_at 172 46 = some (.iconst 1, 1) := rfl
theorem at_172_47 : ab_at 172 47 = some (.goto 4, 3) := rfl
theorem at_172_50 : ab_at 172 50 = some (.iconst 0, 1) := rfl
theorem at_172_51 : ab_at 172 51 = some (.iadd, 1) := rfl
theorem at_172_52 : ab_at 172 52 = some (.putfield 213, 3) := rfl
theorem at_172_55 : ab_at 172 55 = some (.return_, 1) := rfl
theorem at_173_0 : ab_at 173 0 = some (.iconst 0, 1) := rfl
theorem at_173_1 : ab_at 173 1 = some (.istore 6, 2) := rfl
theorem at_173_3 : ab_at 173 3 = some (.iload 6, 2) := rfl
theorem at_173_5 : ab_at 173 5 = some (.aload_n 0, 1) := rfl
theorem at_173_6 : ab_at 173 6 = some (.getfield 25, 3) := rfl
theorem at_173_9 : ab_at 173 9 = some (.iload_n 2, 1) := rfl
theorem at_173_10 : ab_at 173 10 = some (.iaload, 1) := rfl
theorem at_173_11 : ab_at 173 11 = some (.if_icmp .ge 25, 3) := rfl
theorem at_173_14 : ab_at 173 14 = some (.aload_n 0, 1) := rfl
theorem at_173_15 : ab_at 173 15 = some (.getfield 22, 3) := rfl
theorem at_173_18 : ab_at 173 18 = some (.bipush 6, 2) := rfl
theorem at_173_20 : ab_at 173 20 = some (.iload_n 2, 1) := rfl
theorem at_173_21 : ab_at 173 21 = some (.imul, 1) := rfl
theorem at_173_22 : ab_at 173 22 = some (.iload 6, 2) := rfl
theorem at_173_24 : ab_at 173 24 = some (.iadd, 1) := rfl
theorem at_173_25 : ab_at 173 25 = some (.iaload, 1) := rfl
theorem at_173_26 : ab_at 173 26 = some (.iload_n 3, 1) := rfl
theorem at_173_27 : ab_at 173 27 = some (.if_icmp .eq 9, 3) := rfl
theorem at_173_30 : ab_at 173 30 = some (.iinc 6 1, 3) := rfl
theorem at_173_33 : ab_at 173 33 = some (.goto (-30), 3) := rfl
theorem at_173_36 : ab_at 173 36 = some (.aload_n 0, 1) := rfl
theorem at_173_37 : ab_at 173 37 = some (.getfield 7, 3) := rfl
theorem at_173_40 : ab_at 173 40 = some (.iconst 0, 1) := rfl
theorem at_173_41 : ab_at 173 41 = some (.iload_n 2, 1) := rfl
theorem at_173_42 : ab_at 173 42 = some (.iadd, 1) := rfl
theorem at_173_43 : ab_at 173 43 = some (.iaload, 1) := rfl
theorem at_173_44 : ab_at 173 44 = some (.istore 7, 2) := rfl
theorem at_173_46 : ab_at 173 46 = some (.iload 7, 2) := rfl
theorem at_173_48 : ab_at 173 48 = some (.aload_n 0, 1) := rfl
theorem at_173_49 : ab_at 173 49 = some (.getfield 7, 3) := rfl
theorem at_173_52 : ab_at 173 52 = some (.bipush 6, 2) := rfl
theorem at_173_54 : ab_at 173 54 = some (.iload_n 2, 1) := rfl
theorem at_173_55 : ab_at 173 55 = some (.iadd, 1) := rfl
theorem at_173_56 : ab_at 173 56 = some (.iaload, 1) := rfl
theorem at_173_57 : ab_at 173 57 = some (.iadd, 1) := rfl
theorem at_173_58 : ab_at 173 58 = some (.istore 8, 2) := rfl
theorem at_173_60 : ab_at 173 60 = some (.iload 7, 2) := rfl
theorem at_173_62 : ab_at 173 62 = some (.istore 9, 2) := rfl
theorem at_173_64 : ab_at 173 64 = some (.iload 9, 2) := rfl
theorem at_173_66 : ab_at 173 66 = some (.iload 8, 2) := rfl
theorem at_173_68 : ab_at 173 68 = some (.if_icmp .ge 60, 3) := rfl
theorem at_173_71 : ab_at 173 71 = some (.aload_n 0, 1) := rfl
theorem at_173_72 : ab_at 173 72 = some (.getfield 35, 3) := rfl
theorem at_173_75 : ab_at 173 75 = some (.iload 9, 2) := rfl
theorem at_173_77 : ab_at 173 77 = some (.aload_n 0, 1) := rfl
theorem at_173_78 : ab_at 173 78 = some (.getfield 7, 3) := rfl
theorem at_173_81 : ab_at 173 81 = some (.bipush 36, 2) := rfl
theorem at_173_83 : ab_at 173 83 = some (.iload 9, 2) := rfl
theorem at_173_85 : ab_at 173 85 = some (.iadd, 1) := rfl
theorem at_173_86 : ab_at 173 86 = some (.iaload, 1) := rfl
theorem at_173_87 : ab_at 173 87 = some (.bipush 7, 2) := rfl
theorem at_173_89 : ab_at 173 89 = some (.if_icmp .ne 29, 3) := rfl
theorem at_173_92 : ab_at 173 92 = some (.aload_n 0, 1) := rfl
theorem at_173_93 : ab_at 173 93 = some (.getfield 31, 3) := rfl
theorem at_173_96 : ab_at 173 96 = some (.iload_n 1, 1) := rfl
theorem at_173_97 : ab_at 173 97 = some (.aload_n 0, 1) := rfl
theorem at_173_98 : ab_at 173 98 = some (.getfield 7, 3) := rfl
theorem at_173_101 : ab_at 173 101 = some (.bipush 116, 2) := rfl
theorem at_173_103 : ab_at 173 103 = some (.bipush 6, 2) := rfl
theorem at_173_105 : ab_at 173 105 = some (.iload 9, 2) := rfl
theorem at_173_107 : ab_at 173 107 = some (.imul, 1) := rfl
theorem at_173_108 : ab_at 173 108 = some (.iadd, 1) := rfl
theorem at_173_109 : ab_at 173 109 = some (.iload 6, 2) := rfl
theorem at_173_111 : ab_at 173 111 = some (.iadd, 1) := rfl
theorem at_173_112 : ab_at 173 112 = some (.iaload, 1) := rfl
theorem at_173_113 : ab_at 173 113 = some (.iadd, 1) := rfl
theorem at_173_114 : ab_at 173 114 = some (.laload, 1) := rfl
theorem at_173_115 : ab_at 173 115 = some (.goto 6, 3) := rfl
theorem at_173_118 : ab_at 173 118 = some (.ldc2_w 216, 3) := rfl
theorem at_173_121 : ab_at 173 121 = some (.lastore, 1) := rfl
theorem at_173_122 : ab_at 173 122 = some (.iinc 9 1, 3) := rfl
theorem at_173_125 : ab_at 173 125 = some (.goto (-61), 3) := rfl
theorem at_173_128 : ab_at 173 128 = some (.iconst 0, 1) := rfl
theorem at_173_129 : ab_at 173 129 = some (.istore 9, 2) := rfl
theorem at_173_131 : ab_at 173 131 = some (.iload 7, 2) := rfl
theorem at_173_133 : ab_at 173 133 = some (.istore 10, 2) := rfl
theorem at_173_135 : ab_at 173 135 = some (.iload 10, 2) := rfl
theorem at_173_137 : ab_at 173 137 = some (.iload 8, 2) := rfl
theorem at_173_139 : ab_at 173 139 = some (.if_icmp .ge 69, 3) := rfl
theorem at_173_142 : ab_at 173 142 = some (.aload_n 0, 1) := rfl
theorem at_173_143 : ab_at 173 143 = some (.getfield 7, 3) := rfl
theorem at_173_146 : ab_at 173 146 = some (.bipush 36, 2) := rfl
theorem at_173_148 : ab_at 173 148 = some (.iload 10, 2) := rfl
theorem at_173_150 : ab_at 173 150 = some (.iadd, 1) := rfl
theorem at_173_151 : ab_at 173 151 = some (.iaload, 1) := rfl
theorem at_173_152 : ab_at 173 152 = some (.bipush 7, 2) := rfl
theorem at_173_154 : ab_at 173 154 = some (.if_icmp .ne 48, 3) := rfl
theorem at_173_157 : ab_at 173 157 = some (.aload_n 0, 1) := rfl
theorem at_173_158 : ab_at 173 158 = some (.getfield 31, 3) := rfl
theorem at_173_161 : ab_at 173 161 = some (.iload_n 1, 1) := rfl
theorem at_173_162 : ab_at 173 162 = some (.iload 10, 2) := rfl
theorem at_173_164 : ab_at 173 164 = some (.iadd, 1) := rfl
theorem at_173_165 : ab_at 173 165 = some (.aload_n 0, 1) := rfl
theorem at_173_166 : ab_at 173 166 = some (.getfield 35, 3) := rfl
theorem at_173_169 : ab_at 173 169 = some (.iload 10, 2) := rfl
theorem at_173_171 : ab_at 173 171 = some (.laload, 1) := rfl
theorem at_173_172 : ab_at 173 172 = some (.lastore, 1) := rfl
theorem at_173_173 : ab_at 173 173 = some (.aload_n 0, 1) := rfl
theorem at_173_174 : ab_at 173 174 = some (.dup, 1) := rfl
theorem at_173_175 : ab_at 173 175 = some (.getfield 218, 3) := rfl
theorem at_173_178 : ab_at 173 178 = some (.iconst 1, 1) := rfl
theorem at_173_179 : ab_at 173 179 = some (.iadd, 1) := rfl
theorem at_173_180 : ab_at 173 180 = some (.putfield 218, 3) := rfl
theorem at_173_183 : ab_at 173 183 = some (.iload 9, 2) := rfl
theorem at_173_185 : ab_at 173 185 = some (.ifCond .ne 10, 3) := rfl
theorem at_173_188 : ab_at 173 188 = some (.iload 10, 2) := rfl
theorem at_173_190 : ab_at 173 190 = some (.iload 5, 2) := rfl
theorem at_173_192 : ab_at 173 192 = some (.if_icmp .ne 7, 3) := rfl
theorem at_173_195 : ab_at 173 195 = some (.iconst 1, 1) := rfl
theorem at_173_196 : ab_at 173 196 = some (.goto 4, 3) := rfl
theorem at_173_199 : ab_at 173 199 = some (.iconst 0, 1) := rfl
theorem at_173_200 : ab_at 173 200 = some (.istore 9, 2) := rfl
theorem at_173_202 : ab_at 173 202 = some (.iinc 10 1, 3) := rfl
theorem at_173_205 : ab_at 173 205 = some (.goto (-70), 3) := rfl
theorem at_173_208 : ab_at 173 208 = some (.iload 9, 2) := rfl
theorem at_173_210 : ab_at 173 210 = some (.ifCond .eq 12, 3) := rfl
theorem at_173_213 : ab_at 173 213 = some (.aload_n 0, 1) := rfl
theorem at_173_214 : ab_at 173 214 = some (.iload_n 1, 1) := rfl
theorem at_173_215 : ab_at 173 215 = some (.iload 4, 2) := rfl
theorem at_173_217 : ab_at 173 217 = some (.iload 5, 2) := rfl
theorem at_173_219 : ab_at 173 219 = some (.invokevirtual 221, 3) := rfl
theorem at_173_222 : ab_at 173 222 = some (.iload 7, 2) := rfl
theorem at_173_224 : ab_at 173 224 = some (.istore 10, 2) := rfl
theorem at_173_226 : ab_at 173 226 = some (.iload 10, 2) := rfl
theorem at_173_228 : ab_at 173 228 = some (.iload 8, 2) := rfl
theorem at_173_230 : ab_at 173 230 = some (.if_icmp .ge 66, 3) := rfl
theorem at_173_233 : ab_at 173 233 = some (.aload_n 0, 1) := rfl
theorem at_173_234 : ab_at 173 234 = some (.getfield 7, 3) := rfl
theorem at_173_237 : ab_at 173 237 = some (.bipush 36, 2) := rfl
theorem at_173_239 : ab_at 173 239 = some (.iload 10, 2) := rfl
theorem at_173_241 : ab_at 173 241 = some (.iadd, 1) := rfl
theorem at_173_242 : ab_at 173 242 = some (.iaload, 1) := rfl
theorem at_173_243 : ab_at 173 243 = some (.bipush 7, 2) := rfl
theorem at_173_245 : ab_at 173 245 = some (.if_icmp .ge 45, 3) := rfl
theorem at_173_248 : ab_at 173 248 = some (.aload_n 0, 1) := rfl
theorem at_173_249 : ab_at 173 249 = some (.getfield 31, 3) := rfl
theorem at_173_252 : ab_at 173 252 = some (.iload_n 1, 1) := rfl
theorem at_173_253 : ab_at 173 253 = some (.iload 10, 2) := rfl
theorem at_173_255 : ab_at 173 255 = some (.iadd, 1) := rfl
theorem at_173_256 : ab_at 173 256 = some (.aload_n 0, 1) := rfl
theorem at_173_257 : ab_at 173 257 = some (.iload_n 1, 1) := rfl
theorem at_173_258 : ab_at 173 258 = some (.iload 10, 2) := rfl
theorem at_173_260 : ab_at 173 260 = some (.invokevirtual 225, 3) := rfl
theorem at_173_263 : ab_at 173 263 = some (.lastore, 1) := rfl
theorem at_173_264 : ab_at 173 264 = some (.aload_n 0, 1) := rfl
theorem at_173_265 : ab_at 173 265 = some (.dup, 1) := rfl
theorem at_173_266 : ab_at 173 266 = some (.getfield 218, 3) := rfl
theorem at_173_269 : ab_at 173 269 = some (.iconst 1, 1) := rfl
theorem at_173_270 : ab_at 173 270 = some (.iadd, 1) := rfl
theorem at_173_271 : ab_at 173 271 = some (.putfield 218, 3) := rfl
theorem at_173_274 : ab_at 173 274 = some (.iload 10, 2) := rfl
theorem at_173_276 : ab_at 173 276 = some (.iload 5, 2) := rfl
theorem at_173_278 : ab_at 173 278 = some (.if_icmp .ne 12, 3) := rfl
theorem at_173_281 : ab_at 173 281 = some (.aload_n 0, 1) := rfl
theorem at_173_282 : ab_at 173 282 = some (.iload_n 1, 1) := rfl
theorem at_173_283 : ab_at 173 283 = some (.iload 4, 2) := rfl
theorem at_173_285 : ab_at 173 285 = some (.iload 5, 2) := rfl
theorem at_173_287 : ab_at 173 287 = some (.invokevirtual 221, 3) := rfl
theorem at_173_290 : ab_at 173 290 = some (.iinc 10 1, 3) := rfl
theorem at_173_293 : ab_at 173 293 = some (.goto (-67), 3) := rfl
theorem at_173_296 : ab_at 173 296 = some (.return_, 1) := rfl
theorem at_174_0 : ab_at 174 0 = some (.iconst 0, 1) := rfl
theorem at_174_1 : ab_at 174 1 = some (.istore 4, 2) := rfl
theorem at_174_3 : ab_at 174 3 = some (.iload 4, 2) := rfl
theorem at_174_5 : ab_at 174 5 = some (.bipush 20, 2) := rfl
theorem at_174_7 : ab_at 174 7 = some (.if_icmp .ge 21, 3) := rfl
theorem at_174_10 : ab_at 174 10 = some (.aload_n 0, 1) := rfl
theorem at_174_11 : ab_at 174 11 = some (.getfield 31, 3) := rfl
theorem at_174_14 : ab_at 174 14 = some (.iload_n 1, 1) := rfl
theorem at_174_15 : ab_at 174 15 = some (.iload 4, 2) := rfl
theorem at_174_17 : ab_at 174 17 = some (.iadd, 1) := rfl
theorem at_174_18 : ab_at 174 18 = some (.ldc2_w 216, 3) := rfl
theorem at_174_21 : ab_at 174 21 = some (.lastore, 1) := rfl
theorem at_174_22 : ab_at 174 22 = some (.iinc 4 1, 3) := rfl
theorem at_174_25 : ab_at 174 25 = some (.goto (-22), 3) := rfl
theorem at_174_28 : ab_at 174 28 = some (.aload_n 0, 1) := rfl
theorem at_174_29 : ab_at 174 29 = some (.iconst 0, 1) := rfl
theorem at_174_30 : ab_at 174 30 = some (.putfield 229, 3) := rfl
theorem at_174_33 : ab_at 174 33 = some (.aload_n 0, 1) := rfl
theorem at_174_34 : ab_at 174 34 = some (.iconst 0, 1) := rfl
theorem at_174_35 : ab_at 174 35 = some (.putfield 218, 3) := rfl
theorem at_174_38 : ab_at 174 38 = some (.aload_n 0, 1) := rfl
theorem at_174_39 : ab_at 174 39 = some (.iconst 0, 1) := rfl
theorem at_174_40 : ab_at 174 40 = some (.putfield 232, 3) := rfl
theorem at_174_43 : ab_at 174 43 = some (.aload_n 0, 1) := rfl
theorem at_174_44 : ab_at 174 44 = some (.getfield 7, 3) := rfl
theorem at_174_47 : ab_at 174 47 = some (.sipush 236, 3) := rfl
theorem at_174_50 : ab_at 174 50 = some (.iaload, 1) := rfl
theorem at_174_51 : ab_at 174 51 = some (.ifCond .ne 8, 3) := rfl
theorem at_174_54 : ab_at 174 54 = some (.bipush (-4), 2) := rfl
theorem at_174_56 : ab_at 174 56 = some (.goto 4, 3) := rfl
theorem at_174_59 : ab_at 174 59 = some (.iconst 0, 1) := rfl
theorem at_174_60 : ab_at 174 60 = some (.istore 4, 2) := rfl
theorem at_174_62 : ab_at 174 62 = some (.bipush (-4), 2) := rfl
theorem at_174_64 : ab_at 174 64 = some (.istore 5, 2) := rfl
theorem at_174_66 : ab_at 174 66 = some (.iload 4, 2) := rfl
theorem at_174_68 : ab_at 174 68 = some (.bipush (-4), 2) := rfl
theorem at_174_70 : ab_at 174 70 = some (.if_icmp .eq 152, 3) := rfl
theorem at_174_73 : ab_at 174 73 = some (.aload_n 0, 1) := rfl
theorem at_174_74 : ab_at 174 74 = some (.getfield 229, 3) := rfl
theorem at_174_77 : ab_at 174 77 = some (.sipush 200, 3) := rfl
theorem at_174_80 : ab_at 174 80 = some (.if_icmp .ge 142, 3) := rfl
theorem at_174_83 : ab_at 174 83 = some (.aload_n 0, 1) := rfl
theorem at_174_84 : ab_at 174 84 = some (.iload_n 1, 1) := rfl
theorem at_174_85 : ab_at 174 85 = some (.iload 4, 2) := rfl
theorem at_174_87 : ab_at 174 87 = some (.iload 5, 2) := rfl
theorem at_174_89 : ab_at 174 89 = some (.iload_n 2, 1) := rfl
theorem at_174_90 : ab_at 174 90 = some (.iload_n 3, 1) := rfl
theorem at_174_91 : ab_at 174 91 = some (.invokevirtual 235, 3) := rfl
theorem at_174_94 : ab_at 174 94 = some (.aload_n 0, 1) := rfl
theorem at_174_95 : ab_at 174 95 = some (.dup, 1) := rfl
theorem at_174_96 : ab_at 174 96 = some (.getfield 229, 3) := rfl
theorem at_174_99 : ab_at 174 99 = some (.iconst 1, 1) := rfl
theorem at_174_100 : ab_at 174 100 = some (.iadd, 1) := rfl
theorem at_174_101 : ab_at 174 101 = some (.putfield 229, 3) := rfl
theorem at_174_104 : ab_at 174 104 = some (.iload 4, 2) := rfl
theorem at_174_106 : ab_at 174 106 = some (.istore 5, 2) := rfl
theorem at_174_108 : ab_at 174 108 = some (.aload_n 0, 1) := rfl
theorem at_174_109 : ab_at 174 109 = some (.getfield 7, 3) := rfl
theorem at_174_112 : ab_at 174 112 = some (.bipush 12, 2) := rfl
theorem at_174_114 : ab_at 174 114 = some (.iload 4, 2) := rfl
theorem at_174_116 : ab_at 174 116 = some (.iadd, 1) := rfl
theorem at_174_117 : ab_at 174 117 = some (.iaload, 1) := rfl
theorem at_174_118 : ab_at 174 118 = some (.istore 6, 2) := rfl
theorem at_174_120 : ab_at 174 120 = some (.iload 6, 2) := rfl
theorem at_174_122 : ab_at 174 122 = some (.iconst 2, 1) := rfl
theorem at_174_123 : ab_at 174 123 = some (.if_icmp .ne 26, 3) := rfl
theorem at_174_126 : ab_at 174 126 = some (.aload_n 0, 1) := rfl
theorem at_174_127 : ab_at 174 127 = some (.iconst 1, 1) := rfl
theorem at_174_128 : ab_at 174 128 = some (.putfield 232, 3) := rfl
theorem at_174_131 : ab_at 174 131 = some (.aload_n 0, 1) := rfl
theorem at_174_132 : ab_at 174 132 = some (.getfield 31, 3) := rfl
theorem at_174_135 : ab_at 174 135 = some (.iload_n 1, 1) := rfl
theorem at_174_136 : ab_at 174 136 = some (.aload_n 0, 1) := rfl
theorem at_174_137 : ab_at 174 137 = some (.getfield 7, 3) := rfl
theorem at_174_140 : ab_at 174 140 = some (.bipush 30, 2) := rfl
theorem at_174_142 : ab_at 174 142 = some (.iload 4, 2) := rfl
theorem at_174_144 : ab_at 174 144 = some (.iadd, 1) := rfl
theorem at_174_145 : ab_at 174 145 = some (.iaload, 1) := rfl
theorem at_174_146 : ab_at 174 146 = some (.iadd, 1) := rfl
theorem at_174_147 : ab_at 174 147 = some (.laload, 1) := rfl
theorem at_174_148 : ab_at 174 148 = some (.lreturn, 1) := rfl
theorem at_174_149 : ab_at 174 149 = some (.iload 6, 2) := rfl
theorem at_174_151 : ab_at 174 151 = some (.iconst 1, 1) := rfl
theorem at_174_152 : ab_at 174 152 = some (.if_icmp .ne 23, 3) := rfl
theorem at_174_155 : ab_at 174 155 = some (.aload_n 0, 1) := rfl
theorem at_174_156 : ab_at 174 156 = some (.getfield 31, 3) := rfl
theorem at_174_159 : ab_at 174 159 = some (.iload_n 1, 1) := rfl
theorem at_174_160 : ab_at 174 160 = some (.aload_n 0, 1) := rfl
theorem at_174_161 : ab_at 174 161 = some (.getfield 7, 3) := rfl
theorem at_174_164 : ab_at 174 164 = some (.bipush 30, 2) := rfl
theorem at_174_166 : ab_at 174 166 = some (.iload 4, 2) := rfl
theorem at_174_168 : ab_at 174 168 = some (.iadd, 1) := rfl
theorem at_174_169 : ab_at 174 169 = some (.iaload, 1) := rfl
theorem at_174_170 : ab_at 174 170 = some (.iadd, 1) := rfl
theorem at_174_171 : ab_at 174 171 = some (.laload, 1) := rfl
theorem at_174_172 : ab_at 174 172 = some (.goto 4, 3) := rfl
theorem at_174_175 : ab_at 174 175 = some (.lconst 1, 1) := rfl
theorem at_174_176 : ab_at 174 176 = some (.lstore 7, 2) := rfl
theorem at_174_178 : ab_at 174 178 = some (.lload 7, 2) := rfl
theorem at_174_180 : ab_at 174 180 = some (.lconst 0, 1) := rfl
theorem at_174_181 : ab_at 174 181 = some (.lcmp, 1) := rfl
theorem at_174_182 : ab_at 174 182 = some (.ifCond .le 25, 3) := rfl
theorem at_174_185 : ab_at 174 185 = some (.lload 7, 2) := rfl
theorem at_174_187 : ab_at 174 187 = some (.ldc2_w 207, 3) := rfl
theorem at_174_190 : ab_at 174 190 = some (.lcmp, 1) := rfl
theorem at_174_191 : ab_at 174 191 = some (.ifCond .eq 16, 3) := rfl
theorem at_174_194 : ab_at 174 194 = some (.aload_n 0, 1) := rfl
theorem at_174_195 : ab_at 174 195 = some (.getfield 7, 3) := rfl
theorem at_174_198 : ab_at 174 198 = some (.bipush 18, 2) := rfl
theorem at_174_200 : ab_at 174 200 = some (.iload 4, 2) := rfl
theorem at_174_202 : ab_at 174 202 = some (.iadd, 1) := rfl
theorem at_174_203 : ab_at 174 203 = some (.iaload, 1) := rfl
theorem at_174_204 : ab_at 174 204 = some (.goto 13, 3) := rfl
theorem at_174_207 : ab_at 174 207 = some (.aload_n 0, 1) := rfl
theorem at_174_208 : ab_at 174 208 = some (.getfield 7, 3) := rfl
theorem at_174_211 : ab_at 174 211 = some (.bipush 24, 2) := rfl
theorem at_174_213 : ab_at 174 213 = some (.iload 4, 2) := rfl
theorem at_174_215 : ab_at 174 215 = some (.iadd, 1) := rfl
theorem at_174_216 : ab_at 174 216 = some (.iaload, 1) := rfl
theorem at_174_217 : ab_at 174 217 = some (.istore 4, 2) := rfl
theorem at_174_219 : ab_at 174 219 = some (.goto (-153), 3) := rfl
theorem at_174_222 : ab_at 174 222 = some (.ldc2_w 216, 3) := rfl
theorem at_174_225 : ab_at 174 225 = some (.lreturn, 1) := rfl
