theorem at_132_0 : ab_at 132 0 = some (.iload_n 0, 1) := by decide +kernel
theorem at_132_1 : ab_at 132 1 = some (.ldc 7, 2) := by decide +kernel
theorem at_132_3 : ab_at 132 3 = some (.iand, 1) := by decide +kernel
theorem at_132_4 : ab_at 132 4 = some (.iload_n 1, 1) := by decide +kernel
theorem at_132_5 : ab_at 132 5 = some (.irem, 1) := by decide +kernel
theorem at_132_6 : ab_at 132 6 = some (.ireturn, 1) := by decide +kernel
theorem at_133_0 : ab_at 133 0 = some (.aload_n 0, 1) := by decide +kernel
theorem at_133_1 : ab_at 133 1 = some (.arraylength, 1) := by decide +kernel
theorem at_133_2 : ab_at 133 2 = some (.ifCond .ne 13, 3) := by decide +kernel
theorem at_133_5 : ab_at 133 5 = some (.sipush 7919, 3) := by decide +kernel
theorem at_133_8 : ab_at 133 8 = some (.iload_n 1, 1) := by decide +kernel
theorem at_133_9 : ab_at 133 9 = some (.imul, 1) := by decide +kernel
theorem at_133_10 : ab_at 133 10 = some (.iconst 3, 1) := by decide +kernel
theorem at_133_11 : ab_at 133 11 = some (.iadd, 1) := by decide +kernel
theorem at_133_12 : ab_at 133 12 = some (.goto 27, 3) := by decide +kernel
theorem at_133_15 : ab_at 133 15 = some (.aload_n 0, 1) := by decide +kernel
theorem at_133_16 : ab_at 133 16 = some (.iload_n 1, 1) := by decide +kernel
theorem at_133_17 : ab_at 133 17 = some (.aload_n 0, 1) := by decide +kernel
theorem at_133_18 : ab_at 133 18 = some (.arraylength, 1) := by decide +kernel
theorem at_133_19 : ab_at 133 19 = some (.irem, 1) := by decide +kernel
theorem at_133_20 : ab_at 133 20 = some (.iaload, 1) := by decide +kernel
theorem at_133_21 : ab_at 133 21 = some (.iload_n 1, 1) := by decide +kernel
theorem at_133_22 : ab_at 133 22 = some (.bipush 7, 2) := by decide +kernel
theorem at_133_24 : ab_at 133 24 = some (.irem, 1) := by decide +kernel
theorem at_133_25 : ab_at 133 25 = some (.ishr, 1) := by decide +kernel
theorem at_133_26 : ab_at 133 26 = some (.iload_n 1, 1) := by decide +kernel
theorem at_133_27 : ab_at 133 27 = some (.aload_n 0, 1) := by decide +kernel
theorem at_133_28 : ab_at 133 28 = some (.arraylength, 1) := by decide +kernel
theorem at_133_29 : ab_at 133 29 = some (.idiv, 1) := by decide +kernel
theorem at_133_30 : ab_at 133 30 = some (.bipush 31, 2) := by decide +kernel
theorem at_133_32 : ab_at 133 32 = some (.imul, 1) := by decide +kernel
theorem at_133_33 : ab_at 133 33 = some (.ixor, 1) := by decide +kernel
theorem at_133_34 : ab_at 133 34 = some (.iload_n 1, 1) := by decide +kernel
theorem at_133_35 : ab_at 133 35 = some (.ldc 8, 2) := by decide +kernel
theorem at_133_37 : ab_at 133 37 = some (.imul, 1) := by decide +kernel
theorem at_133_38 : ab_at 133 38 = some (.ixor, 1) := by decide +kernel
theorem at_133_39 : ab_at 133 39 = some (.ireturn, 1) := by decide +kernel
theorem at_134_0 : ab_at 134 0 = some (.aload_n 0, 1) := by decide +kernel
theorem at_134_1 : ab_at 134 1 = some (.iload_n 2, 1) := by decide +kernel
theorem at_134_2 : ab_at 134 2 = some (.invokevirtual 9, 3) := by decide +kernel
theorem at_134_5 : ab_at 134 5 = some (.pop, 1) := by decide +kernel
theorem at_134_6 : ab_at 134 6 = some (.aload_n 1, 1) := by decide +kernel
theorem at_134_7 : ab_at 134 7 = some (.iconst 0, 1) := by decide +kernel
theorem at_134_8 : ab_at 134 8 = some (.dup2, 1) := by decide +kernel
theorem at_134_9 : ab_at 134 9 = some (.iaload, 1) := by decide +kernel
theorem at_134_10 : ab_at 134 10 = some (.iconst 1, 1) := by decide +kernel
theorem at_134_11 : ab_at 134 11 = some (.iadd, 1) := by decide +kernel
theorem at_134_12 : ab_at 134 12 = some (.iastore, 1) := by decide +kernel
theorem at_134_13 : ab_at 134 13 = some (.return_, 1) := by decide +kernel
theorem at_135_0 : ab_at 135 0 = some (.bipush 56, 2) := by decide +kernel
theorem at_135_2 : ab_at 135 2 = some (.istore 4, 2) := by decide +kernel
theorem at_135_4 : ab_at 135 4 = some (.iload 4, 2) := by decide +kernel
theorem at_135_6 : ab_at 135 6 = some (.ifCond .lt 32, 3) := by decide +kernel
theorem at_135_9 : ab_at 135 9 = some (.lload_n 2, 1) := by decide +kernel
theorem at_135_10 : ab_at 135 10 = some (.iload 4, 2) := by decide +kernel
theorem at_135_12 : ab_at 135 12 = some (.lshr, 1) := by decide +kernel
theorem at_135_13 : ab_at 135 13 = some (.l2i, 1) := by decide +kernel
theorem at_135_14 : ab_at 135 14 = some (.sipush 255, 3) := by decide +kernel
theorem at_135_17 : ab_at 135 17 = some (.iand, 1) := by decide +kernel
theorem at_135_18 : ab_at 135 18 = some (.istore 5, 2) := by decide +kernel
theorem at_135_20 : ab_at 135 20 = some (.iload 5, 2) := by decide +kernel
theorem at_135_22 : ab_at 135 22 = some (.ifCond .le 10, 3) := by decide +kernel
theorem at_135_25 : ab_at 135 25 = some (.aload_n 0, 1) := by decide +kernel
theorem at_135_26 : ab_at 135 26 = some (.aload_n 1, 1) := by decide +kernel
theorem at_135_27 : ab_at 135 27 = some (.iload 5, 2) := by decide +kernel
theorem at_135_29 : ab_at 135 29 = some (.invokestatic 15, 3) := by decide +kernel
theorem at_135_32 : ab_at 135 32 = some (.iinc 4 (-8), 3) := by decide +kernel
theorem at_135_35 : ab_at 135 35 = some (.goto (-31), 3) := by decide +kernel
theorem at_135_38 : ab_at 135 38 = some (.return_, 1) := by decide +kernel
theorem at_136_0 : ab_at 136 0 = some (.aload_n 0, 1) := by decide +kernel
theorem at_136_1 : ab_at 136 1 = some (.aload_n 1, 1) := by decide +kernel
theorem at_136_2 : ab_at 136 2 = some (.bipush 32, 2) := by decide +kernel
theorem at_136_4 : ab_at 136 4 = some (.invokestatic 15, 3) := by decide +kernel
theorem at_136_7 : ab_at 136 7 = some (.iload_n 2, 1) := by decide +kernel
theorem at_136_8 : ab_at 136 8 = some (.sipush 999, 3) := by decide +kernel
theorem at_136_11 : ab_at 136 11 = some (.if_icmp .le 19, 3) := by decide +kernel
theorem at_136_14 : ab_at 136 14 = some (.aload_n 0, 1) := by decide +kernel
theorem at_136_15 : ab_at 136 15 = some (.aload_n 1, 1) := by decide +kernel
theorem at_136_16 : ab_at 136 16 = some (.bipush 48, 2) := by decide +kernel
theorem at_136_18 : ab_at 136 18 = some (.iload_n 2, 1) := by decide +kernel
theorem at_136_19 : ab_at 136 19 = some (.sipush 1000, 3) := by decide +kernel
theorem at_136_22 : ab_at 136 22 = some (.idiv, 1) := by decide +kernel
theorem at_136_23 : ab_at 136 23 = some (.bipush 10, 2) := by decide +kernel
theorem at_136_25 : ab_at 136 25 = some (.irem, 1) := by decide +kernel
theorem at_136_26 : ab_at 136 26 = some (.iadd, 1) := by decide +kernel
theorem at_136_27 : ab_at 136 27 = some (.invokestatic 15, 3) := by decide +kernel
theorem at_136_30 : ab_at 136 30 = some (.iload_n 2, 1) := by decide +kernel
theorem at_136_31 : ab_at 136 31 = some (.bipush 99, 2) := by decide +kernel
theorem at_136_33 : ab_at 136 33 = some (.if_icmp .le 18, 3) := by decide +kernel
theorem at_136_36 : ab_at 136 36 = some (.aload_n 0, 1) := by decide +kernel
theorem at_136_37 : ab_at 136 37 = some (.aload_n 1, 1) := by decide +kernel
theorem at_136_38 : ab_at 136 38 = some (.bipush 48, 2) := by decide +kernel
theorem at_136_40 : ab_at 136 40 = some (.iload_n 2, 1) := by decide +kernel
theorem at_136_41 : ab_at 136 41 = some (.bipush 100, 2) := by decide +kernel
theorem at_136_43 : ab_at 136 43 = some (.idiv, 1) := by decide +kernel
theorem at_136_44 : ab_at 136 44 = some (.bipush 10, 2) := by decide +kernel
theorem at_136_46 : ab_at 136 46 = some (.irem, 1) := by decide +kernel
theorem at_136_47 : ab_at 136 47 = some (.iadd, 1) := by decide +kernel
theorem at_136_48 : ab_at 136 48 = some (.invokestatic 15, 3) := by decide +kernel
theorem at_136_51 : ab_at 136 51 = some (.iload_n 2, 1) := by decide +kernel
theorem at_136_52 : ab_at 136 52 = some (.bipush 9, 2) := by decide +kernel
theorem at_136_54 : ab_at 136 54 = some (.if_icmp .le 18, 3) := by decide +kernel
theorem at_136_57 : ab_at 136 57 = some (.aload_n 0, 1) := by decide +kernel
theorem at_136_58 : ab_at 136 58 = some (.aload_n 1, 1) := by decide +kernel
theorem at_136_59 : ab_at 136 59 = some (.bipush 48, 2) := by decide +kernel
theorem at_136_61 : ab_at 136 61 = some (.iload_n 2, 1) := by decide +kernel
theorem at_136_62 : ab_at 136 62 = some (.bipush 10, 2) := by decide +kernel
theorem at_136_64 : ab_at 136 64 = some (.idiv, 1) := by decide +kernel
theorem at_136_65 : ab_at 136 65 = some (.bipush 10, 2) := by decide +kernel
theorem at_136_67 : ab_at 136 67 = some (.irem, 1) := by decide +kernel
theorem at_136_68 : ab_at 136 68 = some (.iadd, 1) := by decide +kernel
theorem at_136_69 : ab_at 136 69 = some (.invokestatic 15, 3) := by decide +kernel
theorem at_136_72 : ab_at 136 72 = some (.aload_n 0, 1) := by decide +kernel
theorem at_136_73 : ab_at 136 73 = some (.aload_n 1, 1) := by decide +kernel
theorem at_136_74 : ab_at 136 74 = some (.bipush 48, 2) := by decide +kernel
theorem at_136_76 : ab_at 136 76 = some (.iload_n 2, 1) := by decide +kernel
theorem at_136_77 : ab_at 136 77 = some (.bipush 10, 2) := by decide +kernel
theorem at_136_79 : ab_at 136 79 = some (.irem, 1) := by decide +kernel
theorem at_136_80 : ab_at 136 80 = some (.iadd, 1) := by decide +kernel
theorem at_136_81 : ab_at 136 81 = some (.invokestatic 15, 3) := by decide +kernel
theorem at_136_84 : ab_at 136 84 = some (.return_, 1) := by decide +kernel
theorem at_137_0 : ab_at 137 0 = some (.aload_n 1, 1) := by decide +kernel
theorem at_137_1 : ab_at 137 1 = some (.iconst 0, 1) := by decide +kernel
theorem at_137_2 : ab_at 137 2 = some (.iconst 0, 1) := by decide +kernel
theorem at_137_3 : ab_at 137 3 = some (.iastore, 1) := by decide +kernel
theorem at_137_4 : ab_at 137 4 = some (.aload_n 0, 1) := by decide +kernel
theorem at_137_5 : ab_at 137 5 = some (.invokevirtual 21, 3) := by decide +kernel
theorem at_137_8 : ab_at 137 8 = some (.ireturn, 1) := by decide +kernel
theorem at_138_0 : ab_at 138 0 = some (.aload_n 0, 1) := by decide +kernel
theorem at_138_1 : ab_at 138 1 = some (.aload_n 1, 1) := by decide +kernel
theorem at_138_2 : ab_at 138 2 = some (.iload_n 2, 1) := by decide +kernel
theorem at_138_3 : ab_at 138 3 = some (.ifCond .ne 9, 3) := by decide +kernel
theorem at_138_6 : ab_at 138 6 = some (.ldc2_w 25, 3) := by decide +kernel
theorem at_138_9 : ab_at 138 9 = some (.goto 121, 3) := by decide +kernel
theorem at_138_12 : ab_at 138 12 = some (.iload_n 2, 1) := by decide +kernel
theorem at_138_13 : ab_at 138 13 = some (.iconst 1, 1) := by decide +kernel
theorem at_138_14 : ab_at 138 14 = some (.if_icmp .ne 9, 3) := by decide +kernel
theorem at_138_17 : ab_at 138 17 = some (.ldc2_w 27, 3) := by decide +kernel
theorem at_138_20 : ab_at 138 20 = some (.goto 110, 3) := by decide +kernel
theorem at_138_23 : ab_at 138 23 = some (.iload_n 2, 1) := by decide +kernel
theorem at_138_24 : ab_at 138 24 = some (.iconst 2, 1) := by decide +kernel
theorem at_138_25 : ab_at 138 25 = some (.if_icmp .ne 9, 3) := by decide +kernel
theorem at_138_28 : ab_at 138 28 = some (.ldc2_w 29, 3) := by decide +kernel
theorem at_138_31 : ab_at 138 31 = some (.goto 99, 3) := by decide +kernel
theorem at_138_34 : ab_at 138 34 = some (.iload_n 2, 1) := by decide +kernel
theorem at_138_35 : ab_at 138 35 = some (.iconst 3, 1) := by decide +kernel
theorem at_138_36 : ab_at 138 36 = some (.if_icmp .ne 9, 3) := by decide +kernel
theorem at_138_39 : ab_at 138 39 = some (.ldc2_w 31, 3) := by decide +kernel
theorem at_138_42 : ab_at 138 42 = some (.goto 88, 3) := by decide +kernel
theorem at_138_45 : ab_at 138 45 = some (.iload_n 2, 1) := by decide +kernel
theorem at_138_46 : ab_at 138 46 = some (.iconst 4, 1) := by decide +kernel
theorem at_138_47 : ab_at 138 47 = some (.if_icmp .ne 9, 3) := by decide +kernel
theorem at_138_50 : ab_at 138 50 = some (.ldc2_w 33, 3) := by decide +kernel
theorem at_138_53 : ab_at 138 53 = some (.goto 77, 3) := by decide +kernel
theorem at_138_56 : ab_at 138 56 = some (.iload_n 2, 1) := by decide +kernel
theorem at_138_57 : ab_at 138 57 = some (.iconst 5, 1) := by decide +kernel
theorem at_138_58 : ab_at 138 58 = some (.if_icmp .ne 9, 3) := by decide +kernel
theorem at_138_61 : ab_at 138 61 = some (.ldc2_w 35, 3) := by decide +kernel
theorem at_138_64 : ab_at 138 64 = some (.goto 66, 3) := by decide +kernel
theorem at_138_67 : ab_at 138 67 = some (.iload_n 2, 1) := by decide +kernel
theorem at_138_68 : ab_at 138 68 = some (.bipush 6, 2) := by decide +kernel
theorem at_138_70 : ab_at 138 70 = some (.if_icmp .ne 9, 3) := by decide +kernel
theorem at_138_73 : ab_at 138 73 = some (.ldc2_w 37, 3) := by decide +kernel
theorem at_138_76 : ab_at 138 76 = some (.goto 54, 3) := by decide +kernel
theorem at_138_79 : ab_at 138 79 = some (.iload_n 2, 1) := by decide +kernel
theorem at_138_80 : ab_at 138 80 = some (.bipush 7, 2) := by decide +kernel
theorem at_138_82 : ab_at 138 82 = some (.if_icmp .ne 9, 3) := by decide +kernel
theorem at_138_85 : ab_at 138 85 = some (.ldc2_w 39, 3) := by decide +kernel
theorem at_138_88 : ab_at 138 88 = some (.goto 42, 3) := by decide +kernel
theorem at_138_91 : ab_at 138 91 = some (.iload_n 2, 1) := by decide +kernel
theorem at_138_92 : ab_at 138 92 = some (.bipush 8, 2) := by decide +kernel
theorem at_138_94 : ab_at 138 94 = some (.if_icmp .ne 9, 3) := by decide +kernel
theorem at_138_97 : ab_at 138 97 = some (.ldc2_w 41, 3) := by decide +kernel
theorem at_138_100 : ab_at 138 100 = some (.goto 30, 3) := by decide +kernel
theorem at_138_103 : ab_at 138 103 = some (.iload_n 2, 1) := by decide +kernel
theorem at_138_104 : ab_at 138 104 = some (.bipush 9, 2) := by decide +kernel
theorem at_138_106 : ab_at 138 106 = some (.if_icmp .ne 9, 3) := by decide +kernel
theorem at_138_109 : ab_at 138 109 = some (.ldc2_w 43, 3) := by decide +kernel
theorem at_138_112 : ab_at 138 112 = some (.goto 18, 3) := by decide +kernel
theorem at_138_115 : ab_at 138 115 = some (.iload_n 2, 1) := by decide +kernel
theorem at_138_116 : ab_at 138 116 = some (.bipush 10, 2) := by decide +kernel
theorem at_138_118 : ab_at 138 118 = some (.if_icmp .ne 9, 3) := by decide +kernel
theorem at_138_121 : ab_at 138 121 = some (.ldc2_w 45, 3) := by decide +kernel
theorem at_138_124 : ab_at 138 124 = some (.goto 6, 3) := by decide +kernel
theorem at_138_127 : ab_at 138 127 = some (.ldc2_w 47, 3) := by decide +kernel
theorem at_138_130 : ab_at 138 130 = some (.invokestatic 49, 3) := by decide +kernel
theorem at_138_133 : ab_at 138 133 = some (.return_, 1) := by decide +kernel
theorem at_139_0 : ab_at 139 0 = some (.iload_n 2, 1) := by decide +kernel
theorem at_139_1 : ab_at 139 1 = some (.ifCond .ne 23, 3) := by decide +kernel
theorem at_139_4 : ab_at 139 4 = some (.iload_n 0, 1) := by decide +kernel
theorem at_139_5 : ab_at 139 5 = some (.ifCond .ne 7, 3) := by decide +kernel
theorem at_139_8 : ab_at 139 8 = some (.iconst 1, 1) := by decide +kernel
theorem at_139_9 : ab_at 139 9 = some (.goto 14, 3) := by decide +kernel
theorem at_139_12 : ab_at 139 12 = some (.iload_n 0, 1) := by decide +kernel
theorem at_139_13 : ab_at 139 13 = some (.iconst 3, 1) := by decide +kernel
theorem at_139_14 : ab_at 139 14 = some (.if_icmp .ne 8, 3) := by decide +kernel
theorem at_139_17 : ab_at 139 17 = some (.bipush 6, 2) := by decide +kernel
theorem at_139_19 : ab_at 139 19 = some (.goto 4, 3) := by decide +kernel
theorem at_139_22 : ab_at 139 22 = some (.iconst 4, 1) := by decide +kernel
theorem at_139_23 : ab_at 139 23 = some (.ireturn, 1) := by decide +kernel
theorem at_139_24 : ab_at 139 24 = some (.iload_n 0, 1) := by decide +kernel
theorem at_139_25 : ab_at 139 25 = some (.ifCond .ne 23, 3) := by decide +kernel
theorem at_139_28 : ab_at 139 28 = some (.iload_n 2, 1) := by decide +kernel
theorem at_139_29 : ab_at 139 29 = some (.iconst 1, 1) := by decide +kernel
theorem at_139_30 : ab_at 139 30 = some (.if_icmp .ne 7, 3) := by decide +kernel
theorem at_139_33 : ab_at 139 33 = some (.iconst 2, 1) := by decide +kernel
theorem at_139_34 : ab_at 139 34 = some (.goto 13, 3) := by decide +kernel
theorem at_139_37 : ab_at 139 37 = some (.iload_n 2, 1) := by decide +kernel
theorem at_139_38 : ab_at 139 38 = some (.iconst 4, 1) := by decide +kernel
theorem at_139_39 : ab_at 139 39 = some (.if_icmp .ne 7, 3) := by decide +kernel
theorem at_139_42 : ab_at 139 42 = some (.iconst 1, 1) := by decide +kernel
theorem at_139_43 : ab_at 139 43 = some (.goto 4, 3) := by decide +kernel
theorem at_139_46 : ab_at 139 46 = some (.iconst 0, 1) := by decide +kernel
theorem at_139_47 : ab_at 139 47 = some (.ireturn, 1) := by decide +kernel
theorem at_139_48 : ab_at 139 48 = some (.iload_n 0, 1) := by decide +kernel
theorem at_139_49 : ab_at 139 49 = some (.iconst 1, 1) := by decide +kernel
theorem at_139_50 : ab_at 139 50 = some (.if_icmp .ne 123, 3) := by decide +kernel
theorem at_139_53 : ab_at 139 53 = some (.iload_n 2, 1) := by decide +kernel
theorem at_139_54 : ab_at 139 54 = some (.iconst 1, 1) := by decide +kernel
theorem at_139_55 : ab_at 139 55 = some (.if_icmp .ne 24, 3) := by decide +kernel
theorem at_139_58 : ab_at 139 58 = some (.iload_n 1, 1) := by decide +kernel
theorem at_139_59 : ab_at 139 59 = some (.ifCond .ne 7, 3) := by decide +kernel
theorem at_139_62 : ab_at 139 62 = some (.iconst 1, 1) := by decide +kernel
theorem at_139_63 : ab_at 139 63 = some (.goto 109, 3) := by decide +kernel
theorem at_139_66 : ab_at 139 66 = some (.iload_n 1, 1) := by decide +kernel
theorem at_139_67 : ab_at 139 67 = some (.iconst 3, 1) := by decide +kernel
theorem at_139_68 : ab_at 139 68 = some (.if_icmp .ne 7, 3) := by decide +kernel
theorem at_139_71 : ab_at 139 71 = some (.iconst 2, 1) := by decide +kernel
theorem at_139_72 : ab_at 139 72 = some (.goto 100, 3) := by decide +kernel
theorem at_139_75 : ab_at 139 75 = some (.iconst 0, 1) := by decide +kernel
theorem at_139_76 : ab_at 139 76 = some (.goto 96, 3) := by decide +kernel
theorem at_139_79 : ab_at 139 79 = some (.iload_n 2, 1) := by decide +kernel
theorem at_139_80 : ab_at 139 80 = some (.iconst 2, 1) := by decide +kernel
theorem at_139_81 : ab_at 139 81 = some (.if_icmp .ne 15, 3) := by decide +kernel
theorem at_139_84 : ab_at 139 84 = some (.iload_n 1, 1) := by decide +kernel
theorem at_139_85 : ab_at 139 85 = some (.ifCond .ne 7, 3) := by decide +kernel
theorem at_139_88 : ab_at 139 88 = some (.iconst 1, 1) := by decide +kernel
theorem at_139_89 : ab_at 139 89 = some (.goto 83, 3) := by decide +kernel
theorem at_139_92 : ab_at 139 92 = some (.iconst 3, 1) := by decide +kernel
theorem at_139_93 : ab_at 139 93 = some (.goto 79, 3) := by decide +kernel
theorem at_139_96 : ab_at 139 96 = some (.iload_n 2, 1) := by decide +kernel
theorem at_139_97 : ab_at 139 97 = some (.iconst 3, 1) := by decide +kernel
theorem at_139_98 : ab_at 139 98 = some (.if_icmp .ne 7, 3) := by decide +kernel
theorem at_139_101 : ab_at 139 101 = some (.iconst 2, 1) := by decide +kernel
theorem at_139_102 : ab_at 139 102 = some (.goto 70, 3) := by decide +kernel
theorem at_139_105 : ab_at 139 105 = some (.iload_n 2, 1) := by decide +kernel
theorem at_139_106 : ab_at 139 106 = some (.iconst 4, 1) := by decide +kernel
theorem at_139_107 : ab_at 139 107 = some (.if_icmp .ne 19, 3) := by decide +kernel
theorem at_139_110 : ab_at 139 110 = some (.iload_n 1, 1) := by decide +kernel
theorem at_139_111 : ab_at 139 111 = some (.ifCond .ne 7, 3) := by decide +kernel
theorem at_139_114 : ab_at 139 114 = some (.iconst 1, 1) := by decide +kernel
theorem at_139_115 : ab_at 139 115 = some (.goto 57, 3) := by decide +kernel
theorem at_139_118 : ab_at 139 118 = some (.iconst 1, 1) := by decide +kernel
theorem at_139_119 : ab_at 139 119 = some (.iconst 1, 1) := by decide +kernel
theorem at_139_120 : ab_at 139 120 = some (.iload_n 1, 1) := by decide +kernel
theorem at_139_121 : ab_at 139 121 = some (.ishl, 1) := by decide +kernel
theorem at_139_122 : ab_at 139 122 = some (.ior, 1) := by decide +kernel
theorem at_139_123 : ab_at 139 123 = some (.goto 49, 3) := by decide +kernel
theorem at_139_126 : ab_at 139 126 = some (.iload_n 2, 1) := by decide +kernel
theorem at_139_127 : ab_at 139 127 = some (.iconst 5, 1) := by decide +kernel
theorem at_139_128 : ab_at 139 128 = some (.if_icmp .ne 24, 3) := by decide +kernel
theorem at_139_131 : ab_at 139 131 = some (.iload_n 1, 1) := by decide +kernel
theorem at_139_132 : ab_at 139 132 = some (.ifCond .ne 7, 3) := by decide +kernel
theorem at_139_135 : ab_at 139 135 = some (.iconst 0, 1) := by decide +kernel
theorem at_139_136 : ab_at 139 136 = some (.goto 36, 3) := by decide +kernel
theorem at_139_139 : ab_at 139 139 = some (.iload_n 1, 1) := by decide +kernel
theorem at_139_140 : ab_at 139 140 = some (.iconst 3, 1) := by decide +kernel
theorem at_139_141 : ab_at 139 141 = some (.if_icmp .ne 7, 3) := by decide +kernel
theorem at_139_144 : ab_at 139 144 = some (.iconst 2, 1) := by decide +kernel
theorem at_139_145 : ab_at 139 145 = some (.goto 27, 3) := by decide +kernel
theorem at_139_148 : ab_at 139 148 = some (.iconst 1, 1) := by decide +kernel
theorem at_139_149 : ab_at 139 149 = some (.goto 23, 3) := by decide +kernel
theorem at_139_152 : ab_at 139 152 = some (.iload_n 2, 1) := by decide +kernel
theorem at_139_153 : ab_at 139 153 = some (.bipush 6, 2) := by decide +kernel
theorem at_139_155 : ab_at 139 155 = some (.if_icmp .ne 16, 3) := by decide +kernel
theorem at_139_158 : ab_at 139 158 = some (.iload_n 1, 1) := by decide +kernel
theorem at_139_159 : ab_at 139 159 = some (.iconst 3, 1) := by decide +kernel
theorem at_139_160 : ab_at 139 160 = some (.if_icmp .ne 7, 3) := by decide +kernel
theorem at_139_163 : ab_at 139 163 = some (.iconst 1, 1) := by decide +kernel
theorem at_139_164 : ab_at 139 164 = some (.goto 8, 3) := by decide +kernel
theorem at_139_167 : ab_at 139 167 = some (.iconst 0, 1) := by decide +kernel
theorem at_139_168 : ab_at 139 168 = some (.goto 4, 3) := by decide +kernel
theorem at_139_171 : ab_at 139 171 = some (.iconst 2, 1) := by decide +kernel
theorem at_139_172 : ab_at 139 172 = some (.ireturn, 1) := by decide +kernel
theorem at_139_173 : ab_at 139 173 = some (.iload_n 0, 1) := by decide +kernel
theorem at_139_174 : ab_at 139 174 = some (.iconst 2, 1) := by decide +kernel
theorem at_139_175 : ab_at 139 175 = some (.if_icmp .ne 134, 3) := by decide +kernel
theorem at_139_178 : ab_at 139 178 = some (.iload_n 2, 1) := by decide +kernel
theorem at_139_179 : ab_at 139 179 = some (.iconst 1, 1) := by decide +kernel
theorem at_139_180 : ab_at 139 180 = some (.if_icmp .ne 25, 3) := by decide +kernel
theorem at_139_183 : ab_at 139 183 = some (.iload_n 1, 1) := by decide +kernel
theorem at_139_184 : ab_at 139 184 = some (.iconst 1, 1) := by decide +kernel
theorem at_139_185 : ab_at 139 185 = some (.if_icmp .ne 7, 3) := by decide +kernel
theorem at_139_188 : ab_at 139 188 = some (.iconst 1, 1) := by decide +kernel
theorem at_139_189 : ab_at 139 189 = some (.goto 119, 3) := by decide +kernel
theorem at_139_192 : ab_at 139 192 = some (.iload_n 1, 1) := by decide +kernel
theorem at_139_193 : ab_at 139 193 = some (.iconst 3, 1) := by decide +kernel
theorem at_139_194 : ab_at 139 194 = some (.if_icmp .ne 7, 3) := by decide +kernel
theorem at_139_197 : ab_at 139 197 = some (.iconst 2, 1) := by decide +kernel
theorem at_139_198 : ab_at 139 198 = some (.goto 110, 3) := by decide +kernel
theorem at_139_201 : ab_at 139 201 = some (.iconst 0, 1) := by decide +kernel
theorem at_139_202 : ab_at 139 202 = some (.goto 106, 3) := by decide +kernel
theorem at_139_205 : ab_at 139 205 = some (.iload_n 2, 1) := by decide +kernel
theorem at_139_206 : ab_at 139 206 = some (.iconst 2, 1) := by decide +kernel
theorem at_139_207 : ab_at 139 207 = some (.if_icmp .ne 16, 3) := by decide +kernel
theorem at_139_210 : ab_at 139 210 = some (.iload_n 1, 1) := by decide +kernel
theorem at_139_211 : ab_at 139 211 = some (.iconst 1, 1) := by decide +kernel
theorem at_139_212 : ab_at 139 212 = some (.if_icmp .ne 7, 3) := by decide +kernel
theorem at_139_215 : ab_at 139 215 = some (.iconst 2, 1) := by decide +kernel
theorem at_139_216 : ab_at 139 216 = some (.goto 92, 3) := by decide +kernel
theorem at_139_219 : ab_at 139 219 = some (.iconst 1, 1) := by decide +kernel
theorem at_139_220 : ab_at 139 220 = some (.goto 88, 3) := by decide +kernel
theorem at_139_223 : ab_at 139 223 = some (.iload_n 2, 1) := by decide +kernel
theorem at_139_224 : ab_at 139 224 = some (.iconst 3, 1) := by decide +kernel
theorem at_139_225 : ab_at 139 225 = some (.if_icmp .ne 7, 3) := by decide +kernel
theorem at_139_228 : ab_at 139 228 = some (.iconst 3, 1) := by decide +kernel
theorem at_139_229 : ab_at 139 229 = some (.goto 79, 3) := by decide +kernel
theorem at_139_232 : ab_at 139 232 = some (.iload_n 2, 1) := by decide +kernel
theorem at_139_233 : ab_at 139 233 = some (.iconst 4, 1) := by decide +kernel
theorem at_139_234 : ab_at 139 234 = some (.if_icmp .ne 28, 3) := by decide +kernel
theorem at_139_237 : ab_at 139 237 = some (.iload_n 1, 1) := by decide +kernel
theorem at_139_238 : ab_at 139 238 = some (.ifCond .ne 7, 3) := by decide +kernel
theorem at_139_241 : ab_at 139 241 = some (.iconst 1, 1) := by decide +kernel
theorem at_139_242 : ab_at 139 242 = some (.goto 66, 3) := by decide +kernel
theorem at_139_245 : ab_at 139 245 = some (.iload_n 1, 1) := by decide +kernel
theorem at_139_246 : ab_at 139 246 = some (.iconst 1, 1) := by decide +kernel
theorem at_139_247 : ab_at 139 247 = some (.if_icmp .ne 7, 3) := by decide +kernel
theorem at_139_250 : ab_at 139 250 = some (.iconst 3, 1) := by decide +kernel
theorem at_139_251 : ab_at 139 251 = some (.goto 57, 3) := by decide +kernel
theorem at_139_254 : ab_at 139 254 = some (.iconst 3, 1) := by decide +kernel
theorem at_139_255 : ab_at 139 255 = some (.iconst 1, 1) := by decide +kernel
theorem at_139_256 : ab_at 139 256 = some (.iload_n 1, 1) := by decide +kernel
theorem at_139_257 : ab_at 139 257 = some (.ishl, 1) := by decide +kernel
theorem at_139_258 : ab_at 139 258 = some (.ior, 1) := by decide +kernel
theorem at_139_259 : ab_at 139 259 = some (.goto 49, 3) := by decide +kernel
theorem at_139_262 : ab_at 139 262 = some (.iload_n 2, 1) := by decide +kernel
theorem at_139_263 : ab_at 139 263 = some (.iconst 5, 1) := by decide +kernel
theorem at_139_264 : ab_at 139 264 = some (.if_icmp .ne 24, 3) := by decide +kernel
theorem at_139_267 : ab_at 139 267 = some (.iload_n 1, 1) := by decide +kernel
theorem at_139_268 : ab_at 139 268 = some (.ifCond .ne 7, 3) := by decide +kernel
theorem at_139_271 : ab_at 139 271 = some (.iconst 0, 1) := by decide +kernel
theorem at_139_272 : ab_at 139 272 = some (.goto 36, 3) := by decide +kernel
theorem at_139_275 : ab_at 139 275 = some (.iload_n 1, 1) := by decide +kernel
theorem at_139_276 : ab_at 139 276 = some (.iconst 1, 1) := by decide +kernel
theorem at_139_277 : ab_at 139 277 = some (.if_icmp .ne 7, 3) := by decide +kernel
theorem at_139_280 : ab_at 139 280 = some (.iconst 2, 1) := by decide +kernel
theorem at_139_281 : ab_at 139 281 = some (.goto 27, 3) := by decide +kernel
theorem at_139_284 : ab_at 139 284 = some (.iconst 1, 1) := by decide +kernel
theorem at_139_285 : ab_at 139 285 = some (.goto 23, 3) := by decide +kernel
theorem at_139_288 : ab_at 139 288 = some (.iload_n 2, 1) := by decide +kernel
theorem at_139_289 : ab_at 139 289 = some (.bipush 6, 2) := by decide +kernel
theorem at_139_291 : ab_at 139 291 = some (.if_icmp .ne 16, 3) := by decide +kernel
theorem at_139_294 : ab_at 139 294 = some (.iload_n 1, 1) := by decide +kernel
theorem at_139_295 : ab_at 139 295 = some (.iconst 1, 1) := by decide +kernel
theorem at_139_296 : ab_at 139 296 = some (.if_icmp .ne 7, 3) := by decide +kernel
theorem at_139_299 : ab_at 139 299 = some (.iconst 0, 1) := by decide +kernel
theorem at_139_300 : ab_at 139 300 = some (.goto 8, 3) := by decide +kernel
theorem at_139_303 : ab_at 139 303 = some (.iconst 1, 1) := by decide +kernel
theorem at_139_304 : ab_at 139 304 = some (.goto 4, 3) := by decide +kernel
theorem at_139_307 : ab_at 139 307 = some (.iconst 2, 1) := by decide +kernel
theorem at_139_308 : ab_at 139 308 = some (.ireturn, 1) := by decide +kernel
theorem at_139_309 : ab_at 139 309 = some (.iload_n 2, 1) := by decide +kernel
theorem at_139_310 : ab_at 139 310 = some (.iconst 1, 1) := by decide +kernel
theorem at_139_311 : ab_at 139 311 = some (.if_icmp .ne 28, 3) := by decide +kernel
theorem at_139_314 : ab_at 139 314 = some (.iload_n 1, 1) := by decide +kernel
theorem at_139_315 : ab_at 139 315 = some (.iconst 1, 1) := by decide +kernel
theorem at_139_316 : ab_at 139 316 = some (.if_icmp .eq 8, 3) := by decide +kernel
theorem at_139_319 : ab_at 139 319 = some (.iload_n 1, 1) := by decide +kernel
theorem at_139_320 : ab_at 139 320 = some (.iconst 2, 1) := by decide +kernel
theorem at_139_321 : ab_at 139 321 = some (.if_icmp .ne 7, 3) := by decide +kernel
theorem at_139_324 : ab_at 139 324 = some (.iconst 1, 1) := by decide +kernel
theorem at_139_325 : ab_at 139 325 = some (.goto 13, 3) := by decide +kernel
theorem at_139_328 : ab_at 139 328 = some (.iload_n 1, 1) := by decide +kernel
theorem at_139_329 : ab_at 139 329 = some (.iconst 5, 1) := by decide +kernel
theorem at_139_330 : ab_at 139 330 = some (.if_icmp .ne 7, 3) := by decide +kernel
theorem at_139_333 : ab_at 139 333 = some (.iconst 2, 1) := by decide +kernel
theorem at_139_334 : ab_at 139 334 = some (.goto 4, 3) := by decide +kernel
theorem at_139_337 : ab_at 139 337 = some (.iconst 0, 1) := by decide +kernel
theorem at_139_338 : ab_at 139 338 = some (.ireturn, 1) := by decide +kernel
theorem at_139_339 : ab_at 139 339 = some (.iload_n 2, 1) := by decide +kernel
theorem at_139_340 : ab_at 139 340 = some (.iconst 2, 1) := by decide +kernel
theorem at_139_341 : ab_at 139 341 = some (.if_icmp .ne 36, 3) := by decide +kernel
theorem at_139_344 : ab_at 139 344 = some (.iload_n 1, 1) := by decide +kernel
theorem at_139_345 : ab_at 139 345 = some (.ifCond .eq 8, 3) := by decide +kernel
theorem at_139_348 : ab_at 139 348 = some (.iload_n 1, 1) := by decide +kernel
theorem at_139_349 : ab_at 139 349 = some (.iconst 4, 1) := by decide +kernel
theorem at_139_350 : ab_at 139 350 = some (.if_icmp .ne 7, 3) := by decide +kernel
theorem at_139_353 : ab_at 139 353 = some (.iconst 1, 1) := by decide +kernel
theorem at_139_354 : ab_at 139 354 = some (.goto 22, 3) := by decide +kernel
theorem at_139_357 : ab_at 139 357 = some (.iload_n 1, 1) := by decide +kernel
theorem at_139_358 : ab_at 139 358 = some (.iconst 1, 1) := by decide +kernel
theorem at_139_359 : ab_at 139 359 = some (.if_icmp .ne 7, 3) := by decide +kernel
theorem at_139_362 : ab_at 139 362 = some (.iconst 2, 1) := by decide +kernel
theorem at_139_363 : ab_at 139 363 = some (.goto 13, 3) := by decide +kernel
theorem at_139_366 : ab_at 139 366 = some (.iload_n 1, 1) := by decide +kernel
theorem at_139_367 : ab_at 139 367 = some (.iconst 2, 1) := by decide +kernel
theorem at_139_368 : ab_at 139 368 = some (.if_icmp .ne 7, 3) := by decide +kernel
theorem at_139_371 : ab_at 139 371 = some (.iconst 3, 1) := by decide +kernel
theorem at_139_372 : ab_at 139 372 = some (.goto 4, 3) := by decide +kernel
theorem at_139_375 : ab_at 139 375 = some (.iconst 4, 1) := by decide +kernel
theorem at_139_376 : ab_at 139 376 = some (.ireturn, 1) := by decide +kernel
theorem at_139_377 : ab_at 139 377 = some (.iload_n 2, 1) := by decide +kernel
theorem at_139_378 : ab_at 139 378 = some (.iconst 3, 1) := by decide +kernel
theorem at_139_379 : ab_at 139 379 = some (.if_icmp .ne 14, 3) := by decide +kernel
theorem at_139_382 : ab_at 139 382 = some (.iload_n 1, 1) := by decide +kernel
theorem at_139_383 : ab_at 139 383 = some (.iconst 1, 1) := by decide +kernel
theorem at_139_384 : ab_at 139 384 = some (.if_icmp .ne 7, 3) := by decide +kernel
theorem at_139_387 : ab_at 139 387 = some (.iconst 5, 1) := by decide +kernel
theorem at_139_388 : ab_at 139 388 = some (.goto 4, 3) := by decide +kernel
theorem at_139_391 : ab_at 139 391 = some (.iconst 4, 1) := by decide +kernel
theorem at_139_392 : ab_at 139 392 = some (.ireturn, 1) := by decide +kernel
theorem at_139_393 : ab_at 139 393 = some (.iload_n 2, 1) := by decide +kernel
theorem at_139_394 : ab_at 139 394 = some (.iconst 4, 1) := by decide +kernel
theorem at_139_395 : ab_at 139 395 = some (.if_icmp .ne 47, 3) := by decide +kernel
theorem at_139_398 : ab_at 139 398 = some (.iload_n 1, 1) := by decide +kernel
theorem at_139_399 : ab_at 139 399 = some (.ifCond .ne 7, 3) := by decide +kernel
theorem at_139_402 : ab_at 139 402 = some (.iconst 1, 1) := by decide +kernel
theorem at_139_403 : ab_at 139 403 = some (.goto 38, 3) := by decide +kernel
theorem at_139_406 : ab_at 139 406 = some (.iload_n 1, 1) := by decide +kernel
theorem at_139_407 : ab_at 139 407 = some (.iconst 1, 1) := by decide +kernel
theorem at_139_408 : ab_at 139 408 = some (.if_icmp .ne 7, 3) := by decide +kernel
theorem at_139_411 : ab_at 139 411 = some (.iconst 3, 1) := by decide +kernel
theorem at_139_412 : ab_at 139 412 = some (.goto 29, 3) := by decide +kernel
theorem at_139_415 : ab_at 139 415 = some (.iload_n 1, 1) := by decide +kernel
theorem at_139_416 : ab_at 139 416 = some (.iconst 2, 1) := by decide +kernel
theorem at_139_417 : ab_at 139 417 = some (.if_icmp .ne 8, 3) := by decide +kernel
theorem at_139_420 : ab_at 139 420 = some (.bipush 7, 2) := by decide +kernel
theorem at_139_422 : ab_at 139 422 = some (.goto 19, 3) := by decide +kernel
theorem at_139_425 : ab_at 139 425 = some (.iload_n 1, 1) := by decide +kernel
theorem at_139_426 : ab_at 139 426 = some (.iconst 5, 1) := by decide +kernel
theorem at_139_427 : ab_at 139 427 = some (.if_icmp .ne 8, 3) := by decide +kernel
theorem at_139_430 : ab_at 139 430 = some (.bipush 35, 2) := by decide +kernel
theorem at_139_432 : ab_at 139 432 = some (.goto 9, 3) := by decide +kernel
theorem at_139_435 : ab_at 139 435 = some (.bipush 7, 2) := by decide +kernel
theorem at_139_437 : ab_at 139 437 = some (.iconst 1, 1) := by decide +kernel
theorem at_139_438 : ab_at 139 438 = some (.iload_n 1, 1) := by decide +kernel
theorem at_139_439 : ab_at 139 439 = some (.ishl, 1) := by decide +kernel
theorem at_139_440 : ab_at 139 440 = some (.ior, 1) := by decide +kernel
theorem at_139_441 : ab_at 139 441 = some (.ireturn, 1) := by decide +kernel
theorem at_139_442 : ab_at 139 442 = some (.iload_n 2, 1) := by decide +kernel
theorem at_139_443 : ab_at 139 443 = some (.iconst 5, 1) := by decide +kernel
theorem at_139_444 : ab_at 139 444 = some (.if_icmp .ne 27, 3) := by decide +kernel
theorem at_139_447 : ab_at 139 447 = some (.iload_n 1, 1) := by decide +kernel
theorem at_139_448 : ab_at 139 448 = some (.ifCond .ne 7, 3) := by decide +kernel
theorem at_139_451 : ab_at 139 451 = some (.iconst 0, 1) := by decide +kernel
theorem at_139_452 : ab_at 139 452 = some (.goto 18, 3) := by decide +kernel
theorem at_139_455 : ab_at 139 455 = some (.iload_n 1, 1) := by decide +kernel
theorem at_139_456 : ab_at 139 456 = some (.iconst 1, 1) := by decide +kernel
theorem at_139_457 : ab_at 139 457 = some (.if_icmp .eq 8, 3) := by decide +kernel
theorem at_139_460 : ab_at 139 460 = some (.iload_n 1, 1) := by decide +kernel
theorem at_139_461 : ab_at 139 461 = some (.iconst 4, 1) := by decide +kernel
theorem at_139_462 : ab_at 139 462 = some (.if_icmp .ne 7, 3) := by decide +kernel
theorem at_139_465 : ab_at 139 465 = some (.iconst 2, 1) := by decide +kernel
theorem at_139_466 : ab_at 139 466 = some (.goto 4, 3) := by decide +kernel
theorem at_139_469 : ab_at 139 469 = some (.iconst 1, 1) := by decide +kernel
theorem at_139_470 : ab_at 139 470 = some (.ireturn, 1) := by decide +kernel
theorem at_139_471 : ab_at 139 471 = some (.iload_n 2, 1) := by decide +kernel
theorem at_139_472 : ab_at 139 472 = some (.bipush 6, 2) := by decide +kernel
theorem at_139_474 : ab_at 139 474 = some (.if_icmp .ne 34, 3) := by decide +kernel
theorem at_139_477 : ab_at 139 477 = some (.iload_n 1, 1) := by decide +kernel
theorem at_139_478 : ab_at 139 478 = some (.iconst 1, 1) := by decide +kernel
theorem at_139_479 : ab_at 139 479 = some (.if_icmp .ne 7, 3) := by decide +kernel
theorem at_139_482 : ab_at 139 482 = some (.iconst 0, 1) := by decide +kernel
theorem at_139_483 : ab_at 139 483 = some (.goto 35, 3) := by decide +kernel
theorem at_139_486 : ab_at 139 486 = some (.iload_n 1, 1) := by decide +kernel
theorem at_139_487 : ab_at 139 487 = some (.iconst 4, 1) := by decide +kernel
theorem at_139_488 : ab_at 139 488 = some (.if_icmp .ne 7, 3) := by decide +kernel
theorem at_139_491 : ab_at 139 491 = some (.iconst 2, 1) := by decide +kernel
theorem at_139_492 : ab_at 139 492 = some (.goto 26, 3) := by decide +kernel
theorem at_139_495 : ab_at 139 495 = some (.iload_n 1, 1) := by decide +kernel
theorem at_139_496 : ab_at 139 496 = some (.iconst 3, 1) := by decide +kernel
theorem at_139_497 : ab_at 139 497 = some (.if_icmp .ne 7, 3) := by decide +kernel
theorem at_139_500 : ab_at 139 500 = some (.iconst 2, 1) := by decide +kernel
theorem at_139_501 : ab_at 139 501 = some (.goto 17, 3) := by decide +kernel
theorem at_139_504 : ab_at 139 504 = some (.iconst 1, 1) := by decide +kernel
theorem at_139_505 : ab_at 139 505 = some (.goto 13, 3) := by decide +kernel
theorem at_139_508 : ab_at 139 508 = some (.iload_n 1, 1) := by decide +kernel
theorem at_139_509 : ab_at 139 509 = some (.iconst 1, 1) := by decide +kernel
theorem at_139_510 : ab_at 139 510 = some (.if_icmp .ne 7, 3) := by decide +kernel
theorem at_139_513 : ab_at 139 513 = some (.iconst 4, 1) := by decide +kernel
theorem at_139_514 : ab_at 139 514 = some (.goto 4, 3) := by decide +kernel
theorem at_139_517 : ab_at 139 517 = some (.iconst 3, 1) := by decide +kernel
theorem at_139_518 : ab_at 139 518 = some (.ireturn, 1) := by decide +kernel
theorem at_140_0 : ab_at 140 0 = some (.iload_n 0, 1) := by decide +kernel
theorem at_140_1 : ab_at 140 1 = some (.iload_n 2, 1) := by decide +kernel
theorem at_140_2 : ab_at 140 2 = some (.iconst 4, 1) := by decide +kernel
theorem at_140_3 : ab_at 140 3 = some (.invokestatic 53, 3) := by decide +kernel
theorem at_140_6 : ab_at 140 6 = some (.iload_n 1, 1) := by decide +kernel
theorem at_140_7 : ab_at 140 7 = some (.ishr, 1) := by decide +kernel
theorem at_140_8 : ab_at 140 8 = some (.iconst 1, 1) := by decide +kernel
theorem at_140_9 : ab_at 140 9 = some (.iand, 1) := by decide +kernel
theorem at_140_10 : ab_at 140 10 = some (.iconst 1, 1) := by decide +kernel
theorem at_140_11 : ab_at 140 11 = some (.if_icmp .ne 7, 3) := by decide +kernel
theorem at_140_14 : ab_at 140 14 = some (.iconst 1, 1) := by decide +kernel
theorem at_140_15 : ab_at 140 15 = some (.goto 4, 3) := by decide +kernel
theorem at_140_18 : ab_at 140 18 = some (.iconst 0, 1) := by decide +kernel
theorem at_140_19 : ab_at 140 19 = some (.ireturn, 1) := by decide +kernel
theorem at_141_0 : ab_at 141 0 = some (.aload_n 1, 1) := by decide +kernel
theorem at_141_1 : ab_at 141 1 = some (.iload_n 2, 1) := by decide +kernel
theorem at_141_2 : ab_at 141 2 = some (.iaload, 1) := by decide +kernel
theorem at_141_3 : ab_at 141 3 = some (.aload_n 1, 1) := by decide +kernel
theorem at_141_4 : ab_at 141 4 = some (.iload_n 3, 1) := by decide +kernel
theorem at_141_5 : ab_at 141 5 = some (.iaload, 1) := by decide +kernel
theorem at_141_6 : ab_at 141 6 = some (.if_icmp .ne 16, 3) := by decide +kernel
theorem at_141_9 : ab_at 141 9 = some (.iload_n 2, 1) := by decide +kernel
theorem at_141_10 : ab_at 141 10 = some (.iload_n 3, 1) := by decide +kernel
theorem at_141_11 : ab_at 141 11 = some (.if_icmp .ge 7, 3) := by decide +kernel
theorem at_141_14 : ab_at 141 14 = some (.iconst 1, 1) := by decide +kernel
theorem at_141_15 : ab_at 141 15 = some (.goto 19, 3) := by decide +kernel
theorem at_141_18 : ab_at 141 18 = some (.iconst 0, 1) := by decide +kernel
theorem at_141_19 : ab_at 141 19 = some (.goto 15, 3) := by decide +kernel
theorem at_141_22 : ab_at 141 22 = some (.aload_n 0, 1) := by decide +kernel
theorem at_141_23 : ab_at 141 23 = some (.iconst 0, 1) := by decide +kernel
theorem at_141_24 : ab_at 141 24 = some (.iaload, 1) := by decide +kernel
theorem at_141_25 : ab_at 141 25 = some (.aload_n 1, 1) := by decide +kernel
theorem at_141_26 : ab_at 141 26 = some (.iload_n 2, 1) := by decide +kernel
theorem at_141_27 : ab_at 141 27 = some (.iaload, 1) := by decide +kernel
theorem at_141_28 : ab_at 141 28 = some (.aload_n 1, 1) := by decide +kernel
theorem at_141_29 : ab_at 141 29 = some (.iload_n 3, 1) := by decide +kernel
theorem at_141_30 : ab_at 141 30 = some (.iaload, 1) := by decide +kernel
theorem at_141_31 : ab_at 141 31 = some (.invokestatic 57, 3) := by decide +kernel
theorem at_141_34 : ab_at 141 34 = some (.ireturn, 1) := by decide +kernel
theorem at_142_0 : ab_at 142 0 = some (.aload_n 1, 1) := by decide +kernel
theorem at_142_1 : ab_at 142 1 = some (.iload 4, 2) := by decide +kernel
theorem at_142_3 : ab_at 142 3 = some (.iaload, 1) := by decide +kernel
theorem at_142_4 : ab_at 142 4 = some (.bipush 7, 2) := by decide +kernel
theorem at_142_6 : ab_at 142 6 = some (.if_icmp .ne 30, 3) := by decide +kernel
theorem at_142_9 : ab_at 142 9 = some (.aload_n 0, 1) := by decide +kernel
theorem at_142_10 : ab_at 142 10 = some (.iconst 0, 1) := by decide +kernel
theorem at_142_11 : ab_at 142 11 = some (.iaload, 1) := by decide +kernel
theorem at_142_12 : ab_at 142 12 = some (.aload_n 2, 1) := by decide +kernel
theorem at_142_13 : ab_at 142 13 = some (.iload_n 3, 1) := by decide +kernel
theorem at_142_14 : ab_at 142 14 = some (.iaload, 1) := by decide +kernel
theorem at_142_15 : ab_at 142 15 = some (.aload_n 0, 1) := by decide +kernel
theorem at_142_16 : ab_at 142 16 = some (.iconst 0, 1) := by decide +kernel
theorem at_142_17 : ab_at 142 17 = some (.iaload, 1) := by decide +kernel
theorem at_142_18 : ab_at 142 18 = some (.aload_n 2, 1) := by decide +kernel
theorem at_142_19 : ab_at 142 19 = some (.iload 4, 2) := by decide +kernel
theorem at_142_21 : ab_at 142 21 = some (.iaload, 1) := by decide +kernel
theorem at_142_22 : ab_at 142 22 = some (.bipush 6, 2) := by decide +kernel
theorem at_142_24 : ab_at 142 24 = some (.iload 5, 2) := by decide +kernel
theorem at_142_26 : ab_at 142 26 = some (.iadd, 1) := by decide +kernel
theorem at_142_27 : ab_at 142 27 = some (.invokestatic 53, 3) := by decide +kernel
theorem at_142_30 : ab_at 142 30 = some (.invokestatic 57, 3) := by decide +kernel
theorem at_142_33 : ab_at 142 33 = some (.goto 11, 3) := by decide +kernel
theorem at_142_36 : ab_at 142 36 = some (.aload_n 0, 1) := by decide +kernel
theorem at_142_37 : ab_at 142 37 = some (.aload_n 2, 1) := by decide +kernel
theorem at_142_38 : ab_at 142 38 = some (.iload_n 3, 1) := by decide +kernel
theorem at_142_39 : ab_at 142 39 = some (.iload 4, 2) := by decide +kernel
theorem at_142_41 : ab_at 142 41 = some (.invokestatic 61, 3) := by decide +kernel
theorem at_142_44 : ab_at 142 44 = some (.ireturn, 1) := by decide +kernel
theorem at_143_0 : ab_at 143 0 = some (.iconst 0, 1) := by decide +kernel
theorem at_143_1 : ab_at 143 1 = some (.istore 6, 2) := by decide +kernel
theorem at_143_3 : ab_at 143 3 = some (.iconst 0, 1) := by decide +kernel
theorem at_143_4 : ab_at 143 4 = some (.istore 7, 2) := by decide +kernel
theorem at_143_6 : ab_at 143 6 = some (.iload 7, 2) := by decide +kernel
theorem at_143_8 : ab_at 143 8 = some (.aload_n 0, 1) := by decide +kernel
theorem at_143_9 : ab_at 143 9 = some (.iconst 1, 1) := by decide +kernel
theorem at_143_10 : ab_at 143 10 = some (.iaload, 1) := by decide +kernel
theorem at_143_11 : ab_at 143 11 = some (.if_icmp .ge 33, 3) := by decide +kernel
theorem at_143_14 : ab_at 143 14 = some (.iload 6, 2) := by decide +kernel
theorem at_143_16 : ab_at 143 16 = some (.aload_n 0, 1) := by decide +kernel
theorem at_143_17 : ab_at 143 17 = some (.aload_n 1, 1) := by decide +kernel
theorem at_143_18 : ab_at 143 18 = some (.aload_n 2, 1) := by decide +kernel
theorem at_143_19 : ab_at 143 19 = some (.iload 7, 2) := by decide +kernel
theorem at_143_21 : ab_at 143 21 = some (.iload_n 3, 1) := by decide +kernel
theorem at_143_22 : ab_at 143 22 = some (.iload 4, 2) := by decide +kernel
theorem at_143_24 : ab_at 143 24 = some (.invokestatic 65, 3) := by decide +kernel
theorem at_143_27 : ab_at 143 27 = some (.ifCond .eq 7, 3) := by decide +kernel
theorem at_143_30 : ab_at 143 30 = some (.iconst 1, 1) := by decide +kernel
theorem at_143_31 : ab_at 143 31 = some (.goto 4, 3) := by decide +kernel
theorem at_143_34 : ab_at 143 34 = some (.iconst 0, 1) := by decide +kernel
theorem at_143_35 : ab_at 143 35 = some (.iadd, 1) := by decide +kernel
theorem at_143_36 : ab_at 143 36 = some (.istore 6, 2) := by decide +kernel
theorem at_143_38 : ab_at 143 38 = some (.iinc 7 1, 3) := by decide +kernel
theorem at_143_41 : ab_at 143 41 = some (.goto (-35), 3) := by decide +kernel
theorem at_143_44 : ab_at 143 44 = some (.iload 6, 2) := by decide +kernel
theorem at_143_46 : ab_at 143 46 = some (.ifCond .ne 5, 3) := by decide +kernel
theorem at_143_49 : ab_at 143 49 = some (.iconst (-1), 1) := by decide +kernel
theorem at_143_50 : ab_at 143 50 = some (.ireturn, 1) := by decide +kernel
theorem at_143_51 : ab_at 143 51 = some (.iload 5, 2) := by decide +kernel
theorem at_143_53 : ab_at 143 53 = some (.iload 6, 2) := by decide +kernel
theorem at_143_55 : ab_at 143 55 = some (.invokestatic 69, 3) := by decide +kernel
theorem at_143_58 : ab_at 143 58 = some (.istore 7, 2) := by decide +kernel
theorem at_143_60 : ab_at 143 60 = some (.iconst 0, 1) := by decide +kernel
theorem at_143_61 : ab_at 143 61 = some (.istore 8, 2) := by decide +kernel
theorem at_143_63 : ab_at 143 63 = some (.iload 8, 2) := by decide +kernel
theorem at_143_65 : ab_at 143 65 = some (.aload_n 0, 1) := by decide +kernel
theorem at_143_66 : ab_at 143 66 = some (.iconst 1, 1) := by decide +kernel
theorem at_143_67 : ab_at 143 67 = some (.iaload, 1) := by decide +kernel
theorem at_143_68 : ab_at 143 68 = some (.if_icmp .ge 34, 3) := by decide +kernel
theorem at_143_71 : ab_at 143 71 = some (.aload_n 0, 1) := by decide +kernel
theorem at_143_72 : ab_at 143 72 = some (.aload_n 1, 1) := by decide +kernel
theorem at_143_73 : ab_at 143 73 = some (.aload_n 2, 1) := by decide +kernel
theorem at_143_74 : ab_at 143 74 = some (.iload 8, 2) := by decide +kernel
theorem at_143_76 : ab_at 143 76 = some (.iload_n 3, 1) := by decide +kernel
theorem at_143_77 : ab_at 143 77 = some (.iload 4, 2) := by decide +kernel
theorem at_143_79 : ab_at 143 79 = some (.invokestatic 65, 3) := by decide +kernel
theorem at_143_82 : ab_at 143 82 = some (.ifCond .eq 14, 3) := by decide +kernel
theorem at_143_85 : ab_at 143 85 = some (.iload 7, 2) := by decide +kernel
theorem at_143_87 : ab_at 143 87 = some (.iinc 7 (-1), 3) := by decide +kernel
theorem at_143_90 : ab_at 143 90 = some (.ifCond .ne 6, 3) := by decide +kernel
theorem at_143_93 : ab_at 143 93 = some (.iload 8, 2) := by decide +kernel
theorem at_143_95 : ab_at 143 95 = some (.ireturn, 1) := by decide +kernel
theorem at_143_96 : ab_at 143 96 = some (.iinc 8 1, 3) := by decide +kernel
theorem at_143_99 : ab_at 143 99 = some (.goto (-36), 3) := by decide +kernel
theorem at_143_102 : ab_at 143 102 = some (.iconst (-1), 1) := by decide +kernel
theorem at_143_103 : ab_at 143 103 = some (.ireturn, 1) := by decide +kernel
theorem at_144_0 : ab_at 144 0 = some (.iconst 0, 1) := by decide +kernel
theorem at_144_1 : ab_at 144 1 = some (.istore 4, 2) := by decide +kernel
theorem at_144_3 : ab_at 144 3 = some (.iconst 0, 1) := by decide +kernel
theorem at_144_4 : ab_at 144 4 = some (.istore 5, 2) := by decide +kernel
theorem at_144_6 : ab_at 144 6 = some (.iload 5, 2) := by decide +kernel
theorem at_144_8 : ab_at 144 8 = some (.aload_n 0, 1) := by decide +kernel
theorem at_144_9 : ab_at 144 9 = some (.iconst 1, 1) := by decide +kernel
theorem at_144_10 : ab_at 144 10 = some (.iaload, 1) := by decide +kernel
theorem at_144_11 : ab_at 144 11 = some (.if_icmp .ge 33, 3) := by decide +kernel
theorem at_144_14 : ab_at 144 14 = some (.iload 4, 2) := by decide +kernel
theorem at_144_16 : ab_at 144 16 = some (.aload_n 0, 1) := by decide +kernel
theorem at_144_17 : ab_at 144 17 = some (.iconst 0, 1) := by decide +kernel
theorem at_144_18 : ab_at 144 18 = some (.iaload, 1) := by decide +kernel
theorem at_144_19 : ab_at 144 19 = some (.aload_n 1, 1) := by decide +kernel
theorem at_144_20 : ab_at 144 20 = some (.iload 5, 2) := by decide +kernel
theorem at_144_22 : ab_at 144 22 = some (.iaload, 1) := by decide +kernel
theorem at_144_23 : ab_at 144 23 = some (.iload_n 2, 1) := by decide +kernel
theorem at_144_24 : ab_at 144 24 = some (.invokestatic 57, 3) := by decide +kernel
theorem at_144_27 : ab_at 144 27 = some (.ifCond .eq 7, 3) := by decide +kernel
theorem at_144_30 : ab_at 144 30 = some (.iconst 1, 1) := by decide +kernel
theorem at_144_31 : ab_at 144 31 = some (.goto 4, 3) := by decide +kernel
theorem at_144_34 : ab_at 144 34 = some (.iconst 0, 1) := by decide +kernel
theorem at_144_35 : ab_at 144 35 = some (.iadd, 1) := by decide +kernel
theorem at_144_36 : ab_at 144 36 = some (.istore 4, 2) := by decide +kernel
theorem at_144_38 : ab_at 144 38 = some (.iinc 5 1, 3) := by decide +kernel
theorem at_144_41 : ab_at 144 41 = some (.goto (-35), 3) := by decide +kernel
theorem at_144_44 : ab_at 144 44 = some (.iload_n 3, 1) := by decide +kernel
theorem at_144_45 : ab_at 144 45 = some (.iload 4, 2) := by decide +kernel
theorem at_144_47 : ab_at 144 47 = some (.invokestatic 69, 3) := by decide +kernel
theorem at_144_50 : ab_at 144 50 = some (.istore 5, 2) := by decide +kernel
theorem at_144_52 : ab_at 144 52 = some (.iconst 0, 1) := by decide +kernel
theorem at_144_53 : ab_at 144 53 = some (.istore 6, 2) := by decide +kernel
theorem at_144_55 : ab_at 144 55 = some (.iload 6, 2) := by decide +kernel
theorem at_144_57 : ab_at 144 57 = some (.aload_n 0, 1) := by decide +kernel
theorem at_144_58 : ab_at 144 58 = some (.iconst 1, 1) := by decide +kernel
theorem at_144_59 : ab_at 144 59 = some (.iaload, 1) := by decide +kernel
theorem at_144_60 : ab_at 144 60 = some (.if_icmp .ge 34, 3) := by decide +kernel
theorem at_144_63 : ab_at 144 63 = some (.aload_n 0, 1) := by decide +kernel
theorem at_144_64 : ab_at 144 64 = some (.iconst 0, 1) := by decide +kernel
theorem at_144_65 : ab_at 144 65 = some (.iaload, 1) := by decide +kernel
theorem at_144_66 : ab_at 144 66 = some (.aload_n 1, 1) := by decide +kernel
theorem at_144_67 : ab_at 144 67 = some (.iload 6, 2) := by decide +kernel
theorem at_144_69 : ab_at 144 69 = some (.iaload, 1) := by decide +kernel
theorem at_144_70 : ab_at 144 70 = some (.iload_n 2, 1) := by decide +kernel
theorem at_144_71 : ab_at 144 71 = some (.invokestatic 57, 3) := by decide +kernel
theorem at_144_74 : ab_at 144 74 = some (.ifCond .eq 14, 3) := by decide +kernel
theorem at_144_77 : ab_at 144 77 = some (.iload 5, 2) := by decide +kernel
theorem at_144_79 : ab_at 144 79 = some (.iinc 5 (-1), 3) := by decide +kernel
theorem at_144_82 : ab_at 144 82 = some (.ifCond .ne 6, 3) := by decide +kernel
theorem at_144_85 : ab_at 144 85 = some (.iload 6, 2) := by decide +kernel
theorem at_144_87 : ab_at 144 87 = some (.ireturn, 1) := by decide +kernel
theorem at_144_88 : ab_at 144 88 = some (.iinc 6 1, 3) := by decide +kernel
theorem at_144_91 : ab_at 144 91 = some (.goto (-36), 3) := by decide +kernel
theorem at_144_94 : ab_at 144 94 = some (.iconst (-1), 1) := by decide +kernel
theorem at_144_95 : ab_at 144 95 = some (.ireturn, 1) := by decide +kernel
theorem at_145_0 : ab_at 145 0 = some (.iconst 1, 1) := by decide +kernel
theorem at_145_1 : ab_at 145 1 = some (.newarray .int, 2) := by decide +kernel
theorem at_145_3 : ab_at 145 3 = some (.astore 9, 2) := by decide +kernel
theorem at_145_5 : ab_at 145 5 = some (.aload_n 3, 1) := by decide +kernel
theorem at_145_6 : ab_at 145 6 = some (.iconst 0, 1) := by decide +kernel
theorem at_145_7 : ab_at 145 7 = some (.aload_n 1, 1) := by decide +kernel
theorem at_145_8 : ab_at 145 8 = some (.iload_n 2, 1) := by decide +kernel
theorem at_145_9 : ab_at 145 9 = some (.invokestatic 73, 3) := by decide +kernel
theorem at_145_12 : ab_at 145 12 = some (.iconst 4, 1) := by decide +kernel
theorem at_145_13 : ab_at 145 13 = some (.invokestatic 69, 3) := by decide +kernel
theorem at_145_16 : ab_at 145 16 = some (.iastore, 1) := by decide +kernel
theorem at_145_17 : ab_at 145 17 = some (.aload_n 3, 1) := by decide +kernel
theorem at_145_18 : ab_at 145 18 = some (.iconst 1, 1) := by decide +kernel
theorem at_145_19 : ab_at 145 19 = some (.iconst 0, 1) := by decide +kernel
theorem at_145_20 : ab_at 145 20 = some (.iastore, 1) := by decide +kernel
theorem at_145_21 : ab_at 145 21 = some (.aload_n 3, 1) := by decide +kernel
theorem at_145_22 : ab_at 145 22 = some (.iconst 0, 1) := by decide +kernel
theorem at_145_23 : ab_at 145 23 = some (.iaload, 1) := by decide +kernel
theorem at_145_24 : ab_at 145 24 = some (.iconst 0, 1) := by decide +kernel
theorem at_145_25 : ab_at 145 25 = some (.iconst 0, 1) := by decide +kernel
theorem at_145_26 : ab_at 145 26 = some (.invokestatic 53, 3) := by decide +kernel
theorem at_145_29 : ab_at 145 29 = some (.istore 10, 2) := by decide +kernel
theorem at_145_31 : ab_at 145 31 = some (.iconst 0, 1) := by decide +kernel
theorem at_145_32 : ab_at 145 32 = some (.istore 11, 2) := by decide +kernel
theorem at_145_34 : ab_at 145 34 = some (.iload 11, 2) := by decide +kernel
theorem at_145_36 : ab_at 145 36 = some (.iload 10, 2) := by decide +kernel
theorem at_145_38 : ab_at 145 38 = some (.if_icmp .ge 133, 3) := by decide +kernel
theorem at_145_41 : ab_at 145 41 = some (.aload_n 1, 1) := by decide +kernel
theorem at_145_42 : ab_at 145 42 = some (.iload_n 2, 1) := by decide +kernel
theorem at_145_43 : ab_at 145 43 = some (.iconst 1, 1) := by decide +kernel
theorem at_145_44 : ab_at 145 44 = some (.iadd, 1) := by decide +kernel
theorem at_145_45 : ab_at 145 45 = some (.iload 11, 2) := by decide +kernel
theorem at_145_47 : ab_at 145 47 = some (.iadd, 1) := by decide +kernel
theorem at_145_48 : ab_at 145 48 = some (.invokestatic 73, 3) := by decide +kernel
theorem at_145_51 : ab_at 145 51 = some (.istore 12, 2) := by decide +kernel
theorem at_145_53 : ab_at 145 53 = some (.aload_n 3, 1) := by decide +kernel
theorem at_145_54 : ab_at 145 54 = some (.iconst 0, 1) := by decide +kernel
theorem at_145_55 : ab_at 145 55 = some (.iaload, 1) := by decide +kernel
theorem at_145_56 : ab_at 145 56 = some (.iload 11, 2) := by decide +kernel
theorem at_145_58 : ab_at 145 58 = some (.iconst 5, 1) := by decide +kernel
theorem at_145_59 : ab_at 145 59 = some (.invokestatic 53, 3) := by decide +kernel
theorem at_145_62 : ab_at 145 62 = some (.iconst 2, 1) := by decide +kernel
theorem at_145_63 : ab_at 145 63 = some (.if_icmp .ne 12, 3) := by decide +kernel
theorem at_145_66 : ab_at 145 66 = some (.iload 12, 2) := by decide +kernel
theorem at_145_68 : ab_at 145 68 = some (.iconst 3, 1) := by decide +kernel
theorem at_145_69 : ab_at 145 69 = some (.invokestatic 69, 3) := by decide +kernel
theorem at_145_72 : ab_at 145 72 = some (.goto 4, 3) := by decide +kernel
theorem at_145_75 : ab_at 145 75 = some (.iconst 0, 1) := by decide +kernel
theorem at_145_76 : ab_at 145 76 = some (.istore 13, 2) := by decide +kernel
theorem at_145_78 : ab_at 145 78 = some (.iconst 1, 1) := by decide +kernel
theorem at_145_79 : ab_at 145 79 = some (.iload 12, 2) := by decide +kernel
theorem at_145_81 : ab_at 145 81 = some (.iconst 3, 1) := by decide +kernel
theorem at_145_82 : ab_at 145 82 = some (.ishr, 1) := by decide +kernel
theorem at_145_83 : ab_at 145 83 = some (.aload_n 3, 1) := by decide +kernel
theorem at_145_84 : ab_at 145 84 = some (.iconst 0, 1) := by decide +kernel
theorem at_145_85 : ab_at 145 85 = some (.iaload, 1) := by decide +kernel
theorem at_145_86 : ab_at 145 86 = some (.ifCond .ne 8, 3) := by decide +kernel
theorem at_145_89 : ab_at 145 89 = some (.bipush 20, 2) := by decide +kernel
theorem at_145_91 : ab_at 145 91 = some (.goto 15, 3) := by decide +kernel
theorem at_145_94 : ab_at 145 94 = some (.aload_n 3, 1) := by decide +kernel
theorem at_145_95 : ab_at 145 95 = some (.iconst 0, 1) := by decide +kernel
theorem at_145_96 : ab_at 145 96 = some (.iaload, 1) := by decide +kernel
theorem at_145_97 : ab_at 145 97 = some (.iconst 3, 1) := by decide +kernel
theorem at_145_98 : ab_at 145 98 = some (.if_icmp .ne 7, 3) := by decide +kernel
theorem at_145_101 : ab_at 145 101 = some (.iconst 2, 1) := by decide +kernel
theorem at_145_102 : ab_at 145 102 = some (.goto 4, 3) := by decide +kernel
theorem at_145_105 : ab_at 145 105 = some (.iconst 4, 1) := by decide +kernel
theorem at_145_106 : ab_at 145 106 = some (.invokestatic 69, 3) := by decide +kernel
theorem at_145_109 : ab_at 145 109 = some (.iadd, 1) := by decide +kernel
theorem at_145_110 : ab_at 145 110 = some (.istore 14, 2) := by decide +kernel
theorem at_145_112 : ab_at 145 112 = some (.iconst 0, 1) := by decide +kernel
theorem at_145_113 : ab_at 145 113 = some (.istore 15, 2) := by decide +kernel
theorem at_145_115 : ab_at 145 115 = some (.iload 15, 2) := by decide +kernel
theorem at_145_117 : ab_at 145 117 = some (.iload 13, 2) := by decide +kernel
theorem at_145_119 : ab_at 145 119 = some (.iload 14, 2) := by decide +kernel
theorem at_145_121 : ab_at 145 121 = some (.iadd, 1) := by decide +kernel
theorem at_145_122 : ab_at 145 122 = some (.if_icmp .ge 43, 3) := by decide +kernel
theorem at_145_125 : ab_at 145 125 = some (.aload 4, 2) := by decide +kernel
theorem at_145_127 : ab_at 145 127 = some (.aload_n 3, 1) := by decide +kernel
theorem at_145_128 : ab_at 145 128 = some (.iconst 1, 1) := by decide +kernel
theorem at_145_129 : ab_at 145 129 = some (.iaload, 1) := by decide +kernel
theorem at_145_130 : ab_at 145 130 = some (.iload 15, 2) := by decide +kernel
theorem at_145_132 : ab_at 145 132 = some (.iload 13, 2) := by decide +kernel
theorem at_145_134 : ab_at 145 134 = some (.if_icmp .ge 8, 3) := by decide +kernel
theorem at_145_137 : ab_at 145 137 = some (.bipush 7, 2) := by decide +kernel
theorem at_145_139 : ab_at 145 139 = some (.goto 4, 3) := by decide +kernel
theorem at_145_142 : ab_at 145 142 = some (.iconst 0, 1) := by decide +kernel
theorem at_145_143 : ab_at 145 143 = some (.iastore, 1) := by decide +kernel
theorem at_145_144 : ab_at 145 144 = some (.aload 5, 2) := by decide +kernel
theorem at_145_146 : ab_at 145 146 = some (.aload_n 3, 1) := by decide +kernel
theorem at_145_147 : ab_at 145 147 = some (.iconst 1, 1) := by decide +kernel
theorem at_145_148 : ab_at 145 148 = some (.iaload, 1) := by decide +kernel
theorem at_145_149 : ab_at 145 149 = some (.iload 11, 2) := by decide +kernel
theorem at_145_151 : ab_at 145 151 = some (.iastore, 1) := by decide +kernel
theorem at_145_152 : ab_at 145 152 = some (.aload_n 3, 1) := by decide +kernel
theorem at_145_153 : ab_at 145 153 = some (.iconst 1, 1) := by decide +kernel
theorem at_145_154 : ab_at 145 154 = some (.dup2, 1) := by decide +kernel
theorem at_145_155 : ab_at 145 155 = some (.iaload, 1) := by decide +kernel
theorem at_145_156 : ab_at 145 156 = some (.iconst 1, 1) := by decide +kernel
theorem at_145_157 : ab_at 145 157 = some (.iadd, 1) := by decide +kernel
theorem at_145_158 : ab_at 145 158 = some (.iastore, 1) := by decide +kernel
theorem at_145_159 : ab_at 145 159 = some (.iinc 15 1, 3) := by decide +kernel
theorem at_145_162 : ab_at 145 162 = some (.goto (-47), 3) := by decide +kernel
theorem at_145_165 : ab_at 145 165 = some (.iinc 11 1, 3) := by decide +kernel
theorem at_145_168 : ab_at 145 168 = some (.goto (-134), 3) := by decide +kernel
theorem at_145_171 : ab_at 145 171 = some (.iconst 0, 1) := by decide +kernel
theorem at_145_172 : ab_at 145 172 = some (.istore 11, 2) := by decide +kernel
theorem at_145_174 : ab_at 145 174 = some (.iload 11, 2) := by decide +kernel
theorem at_145_176 : ab_at 145 176 = some (.aload_n 3, 1) := by decide +kernel
theorem at_145_177 : ab_at 145 177 = some (.iconst 1, 1) := by decide +kernel
theorem at_145_178 : ab_at 145 178 = some (.iaload, 1) := by decide +kernel
theorem at_145_179 : ab_at 145 179 = some (.if_icmp .ge 235, 3) := by decide +kernel
theorem at_145_182 : ab_at 145 182 = some (.aload_n 1, 1) := by decide +kernel
theorem at_145_183 : ab_at 145 183 = some (.iload_n 2, 1) := by decide +kernel
theorem at_145_184 : ab_at 145 184 = some (.bipush 7, 2) := by decide +kernel
theorem at_145_186 : ab_at 145 186 = some (.iadd, 1) := by decide +kernel
theorem at_145_187 : ab_at 145 187 = some (.iload 11, 2) := by decide +kernel
theorem at_145_189 : ab_at 145 189 = some (.iadd, 1) := by decide +kernel
theorem at_145_190 : ab_at 145 190 = some (.invokestatic 73, 3) := by decide +kernel
theorem at_145_193 : ab_at 145 193 = some (.istore 12, 2) := by decide +kernel
theorem at_145_195 : ab_at 145 195 = some (.aload 4, 2) := by decide +kernel
theorem at_145_197 : ab_at 145 197 = some (.iload 11, 2) := by decide +kernel
theorem at_145_199 : ab_at 145 199 = some (.iaload, 1) := by decide +kernel
theorem at_145_200 : ab_at 145 200 = some (.ifCond .ne 155, 3) := by decide +kernel
theorem at_145_203 : ab_at 145 203 = some (.aload_n 3, 1) := by decide +kernel
theorem at_145_204 : ab_at 145 204 = some (.aload 4, 2) := by decide +kernel
theorem at_145_206 : ab_at 145 206 = some (.aload 5, 2) := by decide +kernel
theorem at_145_208 : ab_at 145 208 = some (.iload 11, 2) := by decide +kernel
theorem at_145_210 : ab_at 145 210 = some (.iconst 0, 1) := by decide +kernel
theorem at_145_211 : ab_at 145 211 = some (.iconst 0, 1) := by decide +kernel
theorem at_145_212 : ab_at 145 212 = some (.invokestatic 77, 3) := by decide +kernel
theorem at_145_215 : ab_at 145 215 = some (.ifCond .lt 7, 3) := by decide +kernel
theorem at_145_218 : ab_at 145 218 = some (.iconst 1, 1) := by decide +kernel
theorem at_145_219 : ab_at 145 219 = some (.goto 4, 3) := by decide +kernel
theorem at_145_222 : ab_at 145 222 = some (.iconst 0, 1) := by decide +kernel
theorem at_145_223 : ab_at 145 223 = some (.istore 13, 2) := by decide +kernel
theorem at_145_225 : ab_at 145 225 = some (.aload 4, 2) := by decide +kernel
theorem at_145_227 : ab_at 145 227 = some (.iload 11, 2) := by decide +kernel
theorem at_145_229 : ab_at 145 229 = some (.iload 13, 2) := by decide +kernel
theorem at_145_231 : ab_at 145 231 = some (.ifCond .eq 51, 3) := by decide +kernel
theorem at_145_234 : ab_at 145 234 = some (.iload 12, 2) := by decide +kernel
theorem at_145_236 : ab_at 145 236 = some (.bipush 7, 2) := by decide +kernel
theorem at_145_238 : ab_at 145 238 = some (.ishr, 1) := by decide +kernel
theorem at_145_239 : ab_at 145 239 = some (.iconst 3, 1) := by decide +kernel
theorem at_145_240 : ab_at 145 240 = some (.invokestatic 69, 3) := by decide +kernel
theorem at_145_243 : ab_at 145 243 = some (.ifCond .ne 12, 3) := by decide +kernel
theorem at_145_246 : ab_at 145 246 = some (.iload 12, 2) := by decide +kernel
theorem at_145_248 : ab_at 145 248 = some (.iconst 2, 1) := by decide +kernel
theorem at_145_249 : ab_at 145 249 = some (.invokestatic 69, 3) := by decide +kernel
theorem at_145_252 : ab_at 145 252 = some (.goto 36, 3) := by decide +kernel
theorem at_145_255 : ab_at 145 255 = some (.iload 12, 2) := by decide +kernel
theorem at_145_257 : ab_at 145 257 = some (.bipush 9, 2) := by decide +kernel
theorem at_145_259 : ab_at 145 259 = some (.ishr, 1) := by decide +kernel
theorem at_145_260 : ab_at 145 260 = some (.iconst 2, 1) := by decide +kernel
theorem at_145_261 : ab_at 145 261 = some (.invokestatic 69, 3) := by decide +kernel
theorem at_145_264 : ab_at 145 264 = some (.ifCond .ne 7, 3) := by decide +kernel
theorem at_145_267 : ab_at 145 267 = some (.iconst 2, 1) := by decide +kernel
theorem at_145_268 : ab_at 145 268 = some (.goto 20, 3) := by decide +kernel
theorem at_145_271 : ab_at 145 271 = some (.iconst 2, 1) := by decide +kernel
theorem at_145_272 : ab_at 145 272 = some (.iload 12, 2) := by decide +kernel
theorem at_145_274 : ab_at 145 274 = some (.iconst 5, 1) := by decide +kernel
theorem at_145_275 : ab_at 145 275 = some (.invokestatic 69, 3) := by decide +kernel
theorem at_145_278 : ab_at 145 278 = some (.iadd, 1) := by decide +kernel
theorem at_145_279 : ab_at 145 279 = some (.goto 9, 3) := by decide +kernel
theorem at_145_282 : ab_at 145 282 = some (.iload 12, 2) := by decide +kernel
theorem at_145_284 : ab_at 145 284 = some (.iconst 2, 1) := by decide +kernel
theorem at_145_285 : ab_at 145 285 = some (.invokestatic 69, 3) := by decide +kernel
theorem at_145_288 : ab_at 145 288 = some (.iastore, 1) := by decide +kernel
theorem at_145_289 : ab_at 145 289 = some (.aload 6, 2) := by decide +kernel
theorem at_145_291 : ab_at 145 291 = some (.iload 11, 2) := by decide +kernel
theorem at_145_293 : ab_at 145 293 = some (.aload 4, 2) := by decide +kernel
theorem at_145_295 : ab_at 145 295 = some (.iload 11, 2) := by decide +kernel
theorem at_145_297 : ab_at 145 297 = some (.iaload, 1) := by decide +kernel
theorem at_145_298 : ab_at 145 298 = some (.iconst 1, 1) := by decide +kernel
theorem at_145_299 : ab_at 145 299 = some (.if_icmp .ne 14, 3) := by decide +kernel
theorem at_145_302 : ab_at 145 302 = some (.iload 12, 2) := by decide +kernel
theorem at_145_304 : ab_at 145 304 = some (.iconst 2, 1) := by decide +kernel
theorem at_145_305 : ab_at 145 305 = some (.ishr, 1) := by decide +kernel
theorem at_145_306 : ab_at 145 306 = some (.iconst 4, 1) := by decide +kernel
theorem at_145_307 : ab_at 145 307 = some (.invokestatic 69, 3) := by decide +kernel
theorem at_145_310 : ab_at 145 310 = some (.goto 44, 3) := by decide +kernel
theorem at_145_313 : ab_at 145 313 = some (.iload 12, 2) := by decide +kernel
theorem at_145_315 : ab_at 145 315 = some (.iconst 2, 1) := by decide +kernel
theorem at_145_316 : ab_at 145 316 = some (.ishr, 1) := by decide +kernel
theorem at_145_317 : ab_at 145 317 = some (.iconst 5, 1) := by decide +kernel
theorem at_145_318 : ab_at 145 318 = some (.invokestatic 69, 3) := by decide +kernel
theorem at_145_321 : ab_at 145 321 = some (.ifCond .ne 8, 3) := by decide +kernel
theorem at_145_324 : ab_at 145 324 = some (.bipush 99, 2) := by decide +kernel
theorem at_145_326 : ab_at 145 326 = some (.goto 28, 3) := by decide +kernel
theorem at_145_329 : ab_at 145 329 = some (.iload 12, 2) := by decide +kernel
theorem at_145_331 : ab_at 145 331 = some (.iconst 4, 1) := by decide +kernel
theorem at_145_332 : ab_at 145 332 = some (.ishr, 1) := by decide +kernel
theorem at_145_333 : ab_at 145 333 = some (.iload 12, 2) := by decide +kernel
theorem at_145_335 : ab_at 145 335 = some (.bipush 8, 2) := by decide +kernel
theorem at_145_337 : ab_at 145 337 = some (.ishr, 1) := by decide +kernel
theorem at_145_338 : ab_at 145 338 = some (.iconst 2, 1) := by decide +kernel
theorem at_145_339 : ab_at 145 339 = some (.invokestatic 69, 3) := by decide +kernel
theorem at_145_342 : ab_at 145 342 = some (.ifCond .ne 7, 3) := by decide +kernel
theorem at_145_345 : ab_at 145 345 = some (.iconst 3, 1) := by decide +kernel
theorem at_145_346 : ab_at 145 346 = some (.goto 5, 3) := by decide +kernel
theorem at_145_349 : ab_at 145 349 = some (.bipush 99, 2) := by decide +kernel
theorem at_145_351 : ab_at 145 351 = some (.invokestatic 69, 3) := by decide +kernel
theorem at_145_354 : ab_at 145 354 = some (.iastore, 1) := by decide +kernel
theorem at_145_355 : ab_at 145 355 = some (.aload 4, 2) := by decide +kernel
theorem at_145_357 : ab_at 145 357 = some (.iload 11, 2) := by decide +kernel
theorem at_145_359 : ab_at 145 359 = some (.iaload, 1) := by decide +kernel
theorem at_145_360 : ab_at 145 360 = some (.iconst 1, 1) := by decide +kernel
theorem at_145_361 : ab_at 145 361 = some (.if_icmp .le 47, 3) := by decide +kernel
theorem at_145_364 : ab_at 145 364 = some (.iconst 0, 1) := by decide +kernel
theorem at_145_365 : ab_at 145 365 = some (.istore 13, 2) := by decide +kernel
theorem at_145_367 : ab_at 145 367 = some (.iload 13, 2) := by decide +kernel
theorem at_145_369 : ab_at 145 369 = some (.iconst 2, 1) := by decide +kernel
theorem at_145_370 : ab_at 145 370 = some (.if_icmp .ge 38, 3) := by decide +kernel
theorem at_145_373 : ab_at 145 373 = some (.aload 7, 2) := by decide +kernel
theorem at_145_375 : ab_at 145 375 = some (.iconst 2, 1) := by decide +kernel
theorem at_145_376 : ab_at 145 376 = some (.iload 11, 2) := by decide +kernel
theorem at_145_378 : ab_at 145 378 = some (.imul, 1) := by decide +kernel
theorem at_145_379 : ab_at 145 379 = some (.iload 13, 2) := by decide +kernel
theorem at_145_381 : ab_at 145 381 = some (.iadd, 1) := by decide +kernel
theorem at_145_382 : ab_at 145 382 = some (.aload_n 3, 1) := by decide +kernel
theorem at_145_383 : ab_at 145 383 = some (.aload 4, 2) := by decide +kernel
theorem at_145_385 : ab_at 145 385 = some (.aload 5, 2) := by decide +kernel
theorem at_145_387 : ab_at 145 387 = some (.iload 11, 2) := by decide +kernel
theorem at_145_389 : ab_at 145 389 = some (.iload 13, 2) := by decide +kernel
theorem at_145_391 : ab_at 145 391 = some (.iload 12, 2) := by decide +kernel
theorem at_145_393 : ab_at 145 393 = some (.iconst 3, 1) := by decide +kernel
theorem at_145_394 : ab_at 145 394 = some (.iload 13, 2) := by decide +kernel
theorem at_145_396 : ab_at 145 396 = some (.imul, 1) := by decide +kernel
theorem at_145_397 : ab_at 145 397 = some (.ishr, 1) := by decide +kernel
theorem at_145_398 : ab_at 145 398 = some (.invokestatic 77, 3) := by decide +kernel
theorem at_145_401 : ab_at 145 401 = some (.iastore, 1) := by decide +kernel
theorem at_145_402 : ab_at 145 402 = some (.iinc 13 1, 3) := by decide +kernel
theorem at_145_405 : ab_at 145 405 = some (.goto (-38), 3) := by decide +kernel
theorem at_145_408 : ab_at 145 408 = some (.iinc 11 1, 3) := by decide +kernel
theorem at_145_411 : ab_at 145 411 = some (.goto (-237), 3) := by decide +kernel
theorem at_145_414 : ab_at 145 414 = some (.iconst 0, 1) := by decide +kernel
theorem at_145_415 : ab_at 145 415 = some (.istore 11, 2) := by decide +kernel
theorem at_145_417 : ab_at 145 417 = some (.iload 11, 2) := by decide +kernel
theorem at_145_419 : ab_at 145 419 = some (.iload 10, 2) := by decide +kernel
theorem at_145_421 : ab_at 145 421 = some (.if_icmp .ge 33, 3) := by decide +kernel
theorem at_145_424 : ab_at 145 424 = some (.aload 8, 2) := by decide +kernel
theorem at_145_426 : ab_at 145 426 = some (.iload 11, 2) := by decide +kernel
theorem at_145_428 : ab_at 145 428 = some (.aload_n 3, 1) := by decide +kernel
theorem at_145_429 : ab_at 145 429 = some (.aload 5, 2) := by decide +kernel
theorem at_145_431 : ab_at 145 431 = some (.iload 11, 2) := by decide +kernel
theorem at_145_433 : ab_at 145 433 = some (.aload_n 1, 1) := by decide +kernel
theorem at_145_434 : ab_at 145 434 = some (.iload_n 2, 1) := by decide +kernel
theorem at_145_435 : ab_at 145 435 = some (.bipush 27, 2) := by decide +kernel
theorem at_145_437 : ab_at 145 437 = some (.iadd, 1) := by decide +kernel
theorem at_145_438 : ab_at 145 438 = some (.iload 11, 2) := by decide +kernel
theorem at_145_440 : ab_at 145 440 = some (.iadd, 1) := by decide +kernel
theorem at_145_441 : ab_at 145 441 = some (.invokestatic 73, 3) := by decide +kernel
theorem at_145_444 : ab_at 145 444 = some (.invokestatic 81, 3) := by decide +kernel
theorem at_145_447 : ab_at 145 447 = some (.iastore, 1) := by decide +kernel
theorem at_145_448 : ab_at 145 448 = some (.iinc 11 1, 3) := by decide +kernel
theorem at_145_451 : ab_at 145 451 = some (.goto (-34), 3) := by decide +kernel
theorem at_145_454 : ab_at 145 454 = some (.iconst 0, 1) := by decide +kernel
theorem at_145_455 : ab_at 145 455 = some (.istore 11, 2) := by decide +kernel
theorem at_145_457 : ab_at 145 457 = some (.iconst 0, 1) := by decide +kernel
theorem at_145_458 : ab_at 145 458 = some (.istore 12, 2) := by decide +kernel
theorem at_145_460 : ab_at 145 460 = some (.iload 12, 2) := by decide +kernel
theorem at_145_462 : ab_at 145 462 = some (.iload 10, 2) := by decide +kernel
theorem at_145_464 : ab_at 145 464 = some (.if_icmp .ge 219, 3) := by decide +kernel
theorem at_145_467 : ab_at 145 467 = some (.aload_n 0, 1) := by decide +kernel
theorem at_145_468 : ab_at 145 468 = some (.aload 9, 2) := by decide +kernel
theorem at_145_470 : ab_at 145 470 = some (.bipush 8, 2) := by decide +kernel
theorem at_145_472 : ab_at 145 472 = some (.invokestatic 85, 3) := by decide +kernel
theorem at_145_475 : ab_at 145 475 = some (.aload_n 0, 1) := by decide +kernel
theorem at_145_476 : ab_at 145 476 = some (.aload 9, 2) := by decide +kernel
theorem at_145_478 : ab_at 145 478 = some (.bipush 59, 2) := by decide +kernel
theorem at_145_480 : ab_at 145 480 = some (.invokestatic 15, 3) := by decide +kernel
theorem at_145_483 : ab_at 145 483 = some (.iload 11, 2) := by decide +kernel
theorem at_145_485 : ab_at 145 485 = some (.aload_n 3, 1) := by decide +kernel
theorem at_145_486 : ab_at 145 486 = some (.iconst 1, 1) := by decide +kernel
theorem at_145_487 : ab_at 145 487 = some (.iaload, 1) := by decide +kernel
theorem at_145_488 : ab_at 145 488 = some (.if_icmp .ge 101, 3) := by decide +kernel
theorem at_145_491 : ab_at 145 491 = some (.aload 5, 2) := by decide +kernel
theorem at_145_493 : ab_at 145 493 = some (.iload 11, 2) := by decide +kernel
theorem at_145_495 : ab_at 145 495 = some (.iaload, 1) := by decide +kernel
theorem at_145_496 : ab_at 145 496 = some (.iload 12, 2) := by decide +kernel
theorem at_145_498 : ab_at 145 498 = some (.if_icmp .ne 91, 3) := by decide +kernel
theorem at_145_501 : ab_at 145 501 = some (.aload_n 0, 1) := by decide +kernel
theorem at_145_502 : ab_at 145 502 = some (.aload 9, 2) := by decide +kernel
theorem at_145_504 : ab_at 145 504 = some (.aload 4, 2) := by decide +kernel
theorem at_145_506 : ab_at 145 506 = some (.iload 11, 2) := by decide +kernel
theorem at_145_508 : ab_at 145 508 = some (.iaload, 1) := by decide +kernel
theorem at_145_509 : ab_at 145 509 = some (.invokestatic 85, 3) := by decide +kernel
theorem at_145_512 : ab_at 145 512 = some (.aload_n 0, 1) := by decide +kernel
theorem at_145_513 : ab_at 145 513 = some (.aload 9, 2) := by decide +kernel
theorem at_145_515 : ab_at 145 515 = some (.aload 4, 2) := by decide +kernel
theorem at_145_517 : ab_at 145 517 = some (.iload 11, 2) := by decide +kernel
theorem at_145_519 : ab_at 145 519 = some (.iaload, 1) := by decide +kernel
theorem at_145_520 : ab_at 145 520 = some (.iconst 2, 1) := by decide +kernel
theorem at_145_521 : ab_at 145 521 = some (.if_icmp .ge 11, 3) := by decide +kernel
theorem at_145_524 : ab_at 145 524 = some (.aload 6, 2) := by decide +kernel
theorem at_145_526 : ab_at 145 526 = some (.iload 11, 2) := by decide +kernel
theorem at_145_528 : ab_at 145 528 = some (.iaload, 1) := by decide +kernel
theorem at_145_529 : ab_at 145 529 = some (.goto 10, 3) := by decide +kernel
theorem at_145_532 : ab_at 145 532 = some (.aload 7, 2) := by decide +kernel
theorem at_145_534 : ab_at 145 534 = some (.iconst 2, 1) := by decide +kernel
theorem at_145_535 : ab_at 145 535 = some (.iload 11, 2) := by decide +kernel
theorem at_145_537 : ab_at 145 537 = some (.imul, 1) := by decide +kernel
theorem at_145_538 : ab_at 145 538 = some (.iaload, 1) := by decide +kernel
theorem at_145_539 : ab_at 145 539 = some (.invokestatic 88, 3) := by decide +kernel
theorem at_145_542 : ab_at 145 542 = some (.aload 4, 2) := by decide +kernel
theorem at_145_544 : ab_at 145 544 = some (.iload 11, 2) := by decide +kernel
theorem at_145_546 : ab_at 145 546 = some (.iaload, 1) := by decide +kernel
theorem at_145_547 : ab_at 145 547 = some (.iconst 1, 1) := by decide +kernel
theorem at_145_548 : ab_at 145 548 = some (.if_icmp .le 27, 3) := by decide +kernel
theorem at_145_551 : ab_at 145 551 = some (.aload 4, 2) := by decide +kernel
theorem at_145_553 : ab_at 145 553 = some (.iload 11, 2) := by decide +kernel
theorem at_145_555 : ab_at 145 555 = some (.iaload, 1) := by decide +kernel
theorem at_145_556 : ab_at 145 556 = some (.iconst 4, 1) := by decide +kernel
theorem at_145_557 : ab_at 145 557 = some (.if_icmp .eq 18, 3) := by decide +kernel
theorem at_145_560 : ab_at 145 560 = some (.aload_n 0, 1) := by decide +kernel
theorem at_145_561 : ab_at 145 561 = some (.aload 9, 2) := by decide +kernel
theorem at_145_563 : ab_at 145 563 = some (.aload 7, 2) := by decide +kernel
theorem at_145_565 : ab_at 145 565 = some (.iconst 2, 1) := by decide +kernel
theorem at_145_566 : ab_at 145 566 = some (.iload 11, 2) := by decide +kernel
theorem at_145_568 : ab_at 145 568 = some (.imul, 1) := by decide +kernel
theorem at_145_569 : ab_at 145 569 = some (.iconst 1, 1) := by decide +kernel
theorem at_145_570 : ab_at 145 570 = some (.iadd, 1) := by decide +kernel
theorem at_145_571 : ab_at 145 571 = some (.iaload, 1) := by decide +kernel
theorem at_145_572 : ab_at 145 572 = some (.invokestatic 88, 3) := by decide +kernel
theorem at_145_575 : ab_at 145 575 = some (.aload_n 0, 1) := by decide +kernel
theorem at_145_576 : ab_at 145 576 = some (.aload 9, 2) := by decide +kernel
theorem at_145_578 : ab_at 145 578 = some (.bipush 59, 2) := by decide +kernel
theorem at_145_580 : ab_at 145 580 = some (.invokestatic 15, 3) := by decide +kernel
theorem at_145_583 : ab_at 145 583 = some (.iinc 11 1, 3) := by decide +kernel
theorem at_145_586 : ab_at 145 586 = some (.goto (-103), 3) := by decide +kernel
theorem at_145_589 : ab_at 145 589 = some (.aload_n 3, 1) := by decide +kernel
theorem at_145_590 : ab_at 145 590 = some (.iconst 0, 1) := by decide +kernel
theorem at_145_591 : ab_at 145 591 = some (.iaload, 1) := by decide +kernel
theorem at_145_592 : ab_at 145 592 = some (.iload 12, 2) := by decide +kernel
theorem at_145_594 : ab_at 145 594 = some (.iconst 1, 1) := by decide +kernel
theorem at_145_595 : ab_at 145 595 = some (.invokestatic 53, 3) := by decide +kernel
theorem at_145_598 : ab_at 145 598 = some (.istore 13, 2) := by decide +kernel
theorem at_145_600 : ab_at 145 600 = some (.aload_n 0, 1) := by decide +kernel
theorem at_145_601 : ab_at 145 601 = some (.aload 9, 2) := by decide +kernel
theorem at_145_603 : ab_at 145 603 = some (.bipush 9, 2) := by decide +kernel
theorem at_145_605 : ab_at 145 605 = some (.iload 13, 2) := by decide +kernel
theorem at_145_607 : ab_at 145 607 = some (.iadd, 1) := by decide +kernel
theorem at_145_608 : ab_at 145 608 = some (.invokestatic 85, 3) := by decide +kernel
theorem at_145_611 : ab_at 145 611 = some (.iload 13, 2) := by decide +kernel
theorem at_145_613 : ab_at 145 613 = some (.ifCond .le 14, 3) := by decide +kernel
theorem at_145_616 : ab_at 145 616 = some (.aload_n 0, 1) := by decide +kernel
theorem at_145_617 : ab_at 145 617 = some (.aload 9, 2) := by decide +kernel
theorem at_145_619 : ab_at 145 619 = some (.aload 8, 2) := by decide +kernel
theorem at_145_621 : ab_at 145 621 = some (.iload 12, 2) := by decide +kernel
theorem at_145_623 : ab_at 145 623 = some (.iaload, 1) := by decide +kernel
theorem at_145_624 : ab_at 145 624 = some (.invokestatic 88, 3) := by decide +kernel
theorem at_145_627 : ab_at 145 627 = some (.iload 13, 2) := by decide +kernel
theorem at_145_629 : ab_at 145 629 = some (.iconst 2, 1) := by decide +kernel
theorem at_145_630 : ab_at 145 630 = some (.if_icmp .ge 18, 3) := by decide +kernel
theorem at_145_633 : ab_at 145 633 = some (.aload_n 0, 1) := by decide +kernel
theorem at_145_634 : ab_at 145 634 = some (.aload 9, 2) := by decide +kernel
theorem at_145_636 : ab_at 145 636 = some (.aload_n 3, 1) := by decide +kernel
theorem at_145_637 : ab_at 145 637 = some (.iconst 0, 1) := by decide +kernel
theorem at_145_638 : ab_at 145 638 = some (.iaload, 1) := by decide +kernel
theorem at_145_639 : ab_at 145 639 = some (.iload 12, 2) := by decide +kernel
theorem at_145_641 : ab_at 145 641 = some (.iconst 2, 1) := by decide +kernel
theorem at_145_642 : ab_at 145 642 = some (.invokestatic 53, 3) := by decide +kernel
theorem at_145_645 : ab_at 145 645 = some (.invokestatic 88, 3) := by decide +kernel
theorem at_145_648 : ab_at 145 648 = some (.iload 13, 2) := by decide +kernel
theorem at_145_650 : ab_at 145 650 = some (.iconst 1, 1) := by decide +kernel
theorem at_145_651 : ab_at 145 651 = some (.if_icmp .ne 18, 3) := by decide +kernel
theorem at_145_654 : ab_at 145 654 = some (.aload_n 0, 1) := by decide +kernel
theorem at_145_655 : ab_at 145 655 = some (.aload 9, 2) := by decide +kernel
theorem at_145_657 : ab_at 145 657 = some (.aload_n 3, 1) := by decide +kernel
theorem at_145_658 : ab_at 145 658 = some (.iconst 0, 1) := by decide +kernel
theorem at_145_659 : ab_at 145 659 = some (.iaload, 1) := by decide +kernel
theorem at_145_660 : ab_at 145 660 = some (.iload 12, 2) := by decide +kernel
theorem at_145_662 : ab_at 145 662 = some (.iconst 3, 1) := by decide +kernel
theorem at_145_663 : ab_at 145 663 = some (.invokestatic 53, 3) := by decide +kernel
theorem at_145_666 : ab_at 145 666 = some (.invokestatic 88, 3) := by decide +kernel
theorem at_145_669 : ab_at 145 669 = some (.aload_n 0, 1) := by decide +kernel
theorem at_145_670 : ab_at 145 670 = some (.aload 9, 2) := by decide +kernel
theorem at_145_672 : ab_at 145 672 = some (.bipush 59, 2) := by decide +kernel
theorem at_145_674 : ab_at 145 674 = some (.invokestatic 15, 3) := by decide +kernel
theorem at_145_677 : ab_at 145 677 = some (.iinc 12 1, 3) := by decide +kernel
theorem at_145_680 : ab_at 145 680 = some (.goto (-220), 3) := by decide +kernel
theorem at_145_683 : ab_at 145 683 = some (.aload_n 0, 1) := by decide +kernel
theorem at_145_684 : ab_at 145 684 = some (.aload 9, 2) := by decide +kernel
theorem at_145_686 : ab_at 145 686 = some (.invokestatic 91, 3) := by decide +kernel
theorem at_145_689 : ab_at 145 689 = some (.aload_n 3, 1) := by decide +kernel
theorem at_145_690 : ab_at 145 690 = some (.iconst 1, 1) := by decide +kernel
theorem at_145_691 : ab_at 145 691 = some (.iaload, 1) := by decide +kernel
theorem at_145_692 : ab_at 145 692 = some (.if_icmp .ne 14, 3) := by decide +kernel
theorem at_145_695 : ab_at 145 695 = some (.aload_n 0, 1) := by decide +kernel
theorem at_145_696 : ab_at 145 696 = some (.invokevirtual 95, 3) := by decide +kernel
theorem at_145_699 : ab_at 145 699 = some (.ifCond .ne 7, 3) := by decide +kernel
theorem at_145_702 : ab_at 145 702 = some (.iconst 1, 1) := by decide +kernel
theorem at_145_703 : ab_at 145 703 = some (.goto 4, 3) := by decide +kernel
theorem at_145_706 : ab_at 145 706 = some (.iconst 0, 1) := by decide +kernel
theorem at_145_707 : ab_at 145 707 = some (.ireturn, 1) := by decide +kernel
