theorem at_35_0 : ab_at 35 0 = some (.aload_n 0, 1) := rfl
theorem at_35_1 : ab_at 35 1 = some (.iconst 0, 1) := rfl
theorem at_35_2 : ab_at 35 2 = some (.putfield 60, 3) := rfl
theorem at_35_5 : ab_at 35 5 = some (.aload_n 0, 1) := rfl
theorem at_35_6 : ab_at 35 6 = some (.iconst 0, 1) := rfl
theorem at_35_7 : ab_at 35 7 = some (.putfield 64, 3) := rfl
theorem at_35_10 : ab_at 35 10 = some (.return_, 1) := rfl
theorem at_36_0 : ab_at 36 0 = some (.aload_n 0, 1) := rfl
theorem at_36_1 : ab_at 36 1 = some (.getfield 60, 3) := rfl
theorem at_36_4 : ab_at 36 4 = some (.bipush 6, 2) := rfl
theorem at_36_6 : ab_at 36 6 = some (.if_icmp .lt 5, 3) := rfl
theorem at_36_9 : ab_at 36 9 = some (.iconst 0, 1) := rfl
theorem at_36_10 : ab_at 36 10 = some (.ireturn, 1) := rfl
theorem at_36_11 : ab_at 36 11 = some (.aload_n 0, 1) := rfl
theorem at_36_12 : ab_at 36 12 = some (.getfield 9, 3) := rfl
theorem at_36_15 : ab_at 36 15 = some (.aload_n 0, 1) := rfl
theorem at_36_16 : ab_at 36 16 = some (.getfield 60, 3) := rfl
theorem at_36_19 : ab_at 36 19 = some (.aload_n 0, 1) := rfl
theorem at_36_20 : ab_at 36 20 = some (.getfield 64, 3) := rfl
theorem at_36_23 : ab_at 36 23 = some (.iastore, 1) := rfl
theorem at_36_24 : ab_at 36 24 = some (.aload_n 0, 1) := rfl
theorem at_36_25 : ab_at 36 25 = some (.getfield 15, 3) := rfl
theorem at_36_28 : ab_at 36 28 = some (.aload_n 0, 1) := rfl
theorem at_36_29 : ab_at 36 29 = some (.getfield 60, 3) := rfl
theorem at_36_32 : ab_at 36 32 = some (.iconst 0, 1) := rfl
theorem at_36_33 : ab_at 36 33 = some (.iastore, 1) := rfl
theorem at_36_34 : ab_at 36 34 = some (.aload_n 0, 1) := rfl
theorem at_36_35 : ab_at 36 35 = some (.dup, 1) := rfl
theorem at_36_36 : ab_at 36 36 = some (.getfield 60, 3) := rfl
theorem at_36_39 : ab_at 36 39 = some (.iconst 1, 1) := rfl
theorem at_36_40 : ab_at 36 40 = some (.iadd, 1) := rfl
theorem at_36_41 : ab_at 36 41 = some (.putfield 60, 3) := rfl
theorem at_36_44 : ab_at 36 44 = some (.iconst 1, 1) := rfl
theorem at_36_45 : ab_at 36 45 = some (.ireturn, 1) := rfl
theorem at_37_0 : ab_at 37 0 = some (.aload_n 0, 1) := rfl
theorem at_37_1 : ab_at 37 1 = some (.getfield 60, 3) := rfl
theorem at_37_4 : ab_at 37 4 = some (.iconst 1, 1) := rfl
theorem at_37_5 : ab_at 37 5 = some (.if_icmp .lt 12, 3) := rfl
theorem at_37_8 : ab_at 37 8 = some (.aload_n 0, 1) := rfl
theorem at_37_9 : ab_at 37 9 = some (.getfield 64, 3) := rfl
theorem at_37_12 : ab_at 37 12 = some (.bipush 20, 2) := rfl
theorem at_37_14 : ab_at 37 14 = some (.if_icmp .lt 5, 3) := rfl
theorem at_37_17 : ab_at 37 17 = some (.iconst 0, 1) := rfl
theorem at_37_18 : ab_at 37 18 = some (.ireturn, 1) := rfl
theorem at_37_19 : ab_at 37 19 = some (.aload_n 0, 1) := rfl
theorem at_37_20 : ab_at 37 20 = some (.getfield 41, 3) := rfl
theorem at_37_23 : ab_at 37 23 = some (.aload_n 0, 1) := rfl
theorem at_37_24 : ab_at 37 24 = some (.getfield 64, 3) := rfl
theorem at_37_27 : ab_at 37 27 = some (.iload_n 1, 1) := rfl
theorem at_37_28 : ab_at 37 28 = some (.iastore, 1) := rfl
theorem at_37_29 : ab_at 37 29 = some (.aload_n 0, 1) := rfl
theorem at_37_30 : ab_at 37 30 = some (.getfield 44, 3) := rfl
theorem at_37_33 : ab_at 37 33 = some (.aload_n 0, 1) := rfl
theorem at_37_34 : ab_at 37 34 = some (.getfield 64, 3) := rfl
theorem at_37_37 : ab_at 37 37 = some (.aload_n 0, 1) := rfl
theorem at_37_38 : ab_at 37 38 = some (.getfield 60, 3) := rfl
theorem at_37_41 : ab_at 37 41 = some (.iconst 1, 1) := rfl
theorem at_37_42 : ab_at 37 42 = some (.isub, 1) := rfl
theorem at_37_43 : ab_at 37 43 = some (.iastore, 1) := rfl
theorem at_37_44 : ab_at 37 44 = some (.aload_n 0, 1) := rfl
theorem at_37_45 : ab_at 37 45 = some (.getfield 47, 3) := rfl
theorem at_37_48 : ab_at 37 48 = some (.aload_n 0, 1) := rfl
theorem at_37_49 : ab_at 37 49 = some (.getfield 64, 3) := rfl
theorem at_37_52 : ab_at 37 52 = some (.iconst 0, 1) := rfl
theorem at_37_53 : ab_at 37 53 = some (.iastore, 1) := rfl
theorem at_37_54 : ab_at 37 54 = some (.aload_n 0, 1) := rfl
theorem at_37_55 : ab_at 37 55 = some (.getfield 15, 3) := rfl
theorem at_37_58 : ab_at 37 58 = some (.aload_n 0, 1) := rfl
theorem at_37_59 : ab_at 37 59 = some (.getfield 60, 3) := rfl
theorem at_37_62 : ab_at 37 62 = some (.iconst 1, 1) := rfl
theorem at_37_63 : ab_at 37 63 = some (.isub, 1) := rfl
theorem at_37_64 : ab_at 37 64 = some (.dup2, 1) := rfl
theorem at_37_65 : ab_at 37 65 = some (.iaload, 1) := rfl
theorem at_37_66 : ab_at 37 66 = some (.iconst 1, 1) := rfl
theorem at_37_67 : ab_at 37 67 = some (.iadd, 1) := rfl
theorem at_37_68 : ab_at 37 68 = some (.iastore, 1) := rfl
theorem at_37_69 : ab_at 37 69 = some (.aload_n 0, 1) := rfl
theorem at_37_70 : ab_at 37 70 = some (.dup, 1) := rfl
theorem at_37_71 : ab_at 37 71 = some (.getfield 64, 3) := rfl
theorem at_37_74 : ab_at 37 74 = some (.iconst 1, 1) := rfl
theorem at_37_75 : ab_at 37 75 = some (.iadd, 1) := rfl
theorem at_37_76 : ab_at 37 76 = some (.putfield 64, 3) := rfl
theorem at_37_79 : ab_at 37 79 = some (.iconst 1, 1) := rfl
theorem at_37_80 : ab_at 37 80 = some (.ireturn, 1) := rfl
theorem at_38_0 : ab_at 38 0 = some (.aload_n 0, 1) := rfl
theorem at_38_1 : ab_at 38 1 = some (.getfield 64, 3) := rfl
theorem at_38_4 : ab_at 38 4 = some (.ifCond .le 15, 3) := rfl
theorem at_38_7 : ab_at 38 7 = some (.aload_n 0, 1) := rfl
theorem at_38_8 : ab_at 38 8 = some (.getfield 50, 3) := rfl
theorem at_38_11 : ab_at 38 11 = some (.aload_n 0, 1) := rfl
theorem at_38_12 : ab_at 38 12 = some (.getfield 64, 3) := rfl
theorem at_38_15 : ab_at 38 15 = some (.iconst 1, 1) := rfl
theorem at_38_16 : ab_at 38 16 = some (.isub, 1) := rfl
theorem at_38_17 : ab_at 38 17 = some (.iload_n 1, 1) := rfl
theorem at_38_18 : ab_at 38 18 = some (.iastore, 1) := rfl
theorem at_38_19 : ab_at 38 19 = some (.return_, 1) := rfl
theorem at_39_0 : ab_at 39 0 = some (.aload_n 0, 1) := rfl
theorem at_39_1 : ab_at 39 1 = some (.getfield 64, 3) := rfl
theorem at_39_4 : ab_at 39 4 = some (.iconst 1, 1) := rfl
theorem at_39_5 : ab_at 39 5 = some (.if_icmp .ge 4, 3) := rfl
theorem at_39_8 : ab_at 39 8 = some (.return_, 1) := rfl
theorem at_39_9 : ab_at 39 9 = some (.aload_n 0, 1) := rfl
theorem at_39_10 : ab_at 39 10 = some (.getfield 64, 3) := rfl
theorem at_39_13 : ab_at 39 13 = some (.iconst 1, 1) := rfl
theorem at_39_14 : ab_at 39 14 = some (.isub, 1) := rfl
theorem at_39_15 : ab_at 39 15 = some (.istore_n 2, 1) := rfl
theorem at_39_16 : ab_at 39 16 = some (.aload_n 0, 1) := rfl
theorem at_39_17 : ab_at 39 17 = some (.getfield 47, 3) := rfl
theorem at_39_20 : ab_at 39 20 = some (.iload_n 2, 1) := rfl
theorem at_39_21 : ab_at 39 21 = some (.iaload, 1) := rfl
theorem at_39_22 : ab_at 39 22 = some (.ifCond .lt 28, 3) := rfl
theorem at_39_25 : ab_at 39 25 = some (.aload_n 0, 1) := rfl
theorem at_39_26 : ab_at 39 26 = some (.getfield 47, 3) := rfl
theorem at_39_29 : ab_at 39 29 = some (.iload_n 2, 1) := rfl
theorem at_39_30 : ab_at 39 30 = some (.iaload, 1) := rfl
theorem at_39_31 : ab_at 39 31 = some (.bipush 6, 2) := rfl
theorem at_39_33 : ab_at 39 33 = some (.if_icmp .ge 17, 3) := rfl
theorem at_39_36 : ab_at 39 36 = some (.aload_n 0, 1) := rfl
theorem at_39_37 : ab_at 39 37 = some (.getfield 53, 3) := rfl
theorem at_39_40 : ab_at 39 40 = some (.iload_n 2, 1) := rfl
theorem at_39_41 : ab_at 39 41 = some (.aaload, 1) := rfl
theorem at_39_42 : ab_at 39 42 = some (.aload_n 0, 1) := rfl
theorem at_39_43 : ab_at 39 43 = some (.getfield 47, 3) := rfl
theorem at_39_46 : ab_at 39 46 = some (.iload_n 2, 1) := rfl
theorem at_39_47 : ab_at 39 47 = some (.iaload, 1) := rfl
theorem at_39_48 : ab_at 39 48 = some (.iload_n 1, 1) := rfl
theorem at_39_49 : ab_at 39 49 = some (.iastore, 1) := rfl
theorem at_39_50 : ab_at 39 50 = some (.aload_n 0, 1) := rfl
theorem at_39_51 : ab_at 39 51 = some (.getfield 47, 3) := rfl
theorem at_39_54 : ab_at 39 54 = some (.iload_n 2, 1) := rfl
theorem at_39_55 : ab_at 39 55 = some (.dup2, 1) := rfl
theorem at_39_56 : ab_at 39 56 = some (.iaload, 1) := rfl
theorem at_39_57 : ab_at 39 57 = some (.iconst 1, 1) := rfl
theorem at_39_58 : ab_at 39 58 = some (.iadd, 1) := rfl
theorem at_39_59 : ab_at 39 59 = some (.iastore, 1) := rfl
theorem at_39_60 : ab_at 39 60 = some (.return_, 1) := rfl
theorem at_40_0 : ab_at 40 0 = some (.aload_n 0, 1) := rfl
theorem at_40_1 : ab_at 40 1 = some (.getfield 60, 3) := rfl
theorem at_40_4 : ab_at 40 4 = some (.ifCond .le 15, 3) := rfl
theorem at_40_7 : ab_at 40 7 = some (.aload_n 0, 1) := rfl
theorem at_40_8 : ab_at 40 8 = some (.getfield 18, 3) := rfl
theorem at_40_11 : ab_at 40 11 = some (.aload_n 0, 1) := rfl
theorem at_40_12 : ab_at 40 12 = some (.getfield 60, 3) := rfl
theorem at_40_15 : ab_at 40 15 = some (.iconst 1, 1) := rfl
theorem at_40_16 : ab_at 40 16 = some (.isub, 1) := rfl
theorem at_40_17 : ab_at 40 17 = some (.iload_n 1, 1) := rfl
theorem at_40_18 : ab_at 40 18 = some (.iastore, 1) := rfl
theorem at_40_19 : ab_at 40 19 = some (.return_, 1) := rfl
theorem at_41_0 : ab_at 41 0 = some (.aload_n 0, 1) := rfl
theorem at_41_1 : ab_at 41 1 = some (.getfield 60, 3) := rfl
theorem at_41_4 : ab_at 41 4 = some (.ifCond .le 15, 3) := rfl
theorem at_41_7 : ab_at 41 7 = some (.aload_n 0, 1) := rfl
theorem at_41_8 : ab_at 41 8 = some (.getfield 27, 3) := rfl
theorem at_41_11 : ab_at 41 11 = some (.aload_n 0, 1) := rfl
theorem at_41_12 : ab_at 41 12 = some (.getfield 60, 3) := rfl
theorem at_41_15 : ab_at 41 15 = some (.iconst 1, 1) := rfl
theorem at_41_16 : ab_at 41 16 = some (.isub, 1) := rfl
theorem at_41_17 : ab_at 41 17 = some (.iload_n 1, 1) := rfl
theorem at_41_18 : ab_at 41 18 = some (.iastore, 1) := rfl
theorem at_41_19 : ab_at 41 19 = some (.return_, 1) := rfl
theorem at_42_0 : ab_at 42 0 = some (.aload_n 0, 1) := rfl
theorem at_42_1 : ab_at 42 1 = some (.getfield 60, 3) := rfl
theorem at_42_4 : ab_at 42 4 = some (.ifCond .le 15, 3) := rfl
theorem at_42_7 : ab_at 42 7 = some (.aload_n 0, 1) := rfl
theorem at_42_8 : ab_at 42 8 = some (.getfield 21, 3) := rfl
theorem at_42_11 : ab_at 42 11 = some (.aload_n 0, 1) := rfl
theorem at_42_12 : ab_at 42 12 = some (.getfield 60, 3) := rfl
theorem at_42_15 : ab_at 42 15 = some (.iconst 1, 1) := rfl
theorem at_42_16 : ab_at 42 16 = some (.isub, 1) := rfl
theorem at_42_17 : ab_at 42 17 = some (.iload_n 1, 1) := rfl
theorem at_42_18 : ab_at 42 18 = some (.iastore, 1) := rfl
theorem at_42_19 : ab_at 42 19 = some (.return_, 1) := rfl
theorem at_43_0 : ab_at 43 0 = some (.aload_n 0, 1) := rfl
theorem at_43_1 : ab_at 43 1 = some (.getfield 60, 3) := rfl
theorem at_43_4 : ab_at 43 4 = some (.ifCond .le 15, 3) := rfl
theorem at_43_7 : ab_at 43 7 = some (.aload_n 0, 1) := rfl
theorem at_43_8 : ab_at 43 8 = some (.getfield 24, 3) := rfl
theorem at_43_11 : ab_at 43 11 = some (.aload_n 0, 1) := rfl
theorem at_43_12 : ab_at 43 12 = some (.getfield 60, 3) := rfl
theorem at_43_15 : ab_at 43 15 = some (.iconst 1, 1) := rfl
theorem at_43_16 : ab_at 43 16 = some (.isub, 1) := rfl
theorem at_43_17 : ab_at 43 17 = some (.iload_n 1, 1) := rfl
theorem at_43_18 : ab_at 43 18 = some (.iastore, 1) := rfl
theorem at_43_19 : ab_at 43 19 = some (.return_, 1) := rfl
theorem at_44_0 : ab_at 44 0 = some (.aload_n 0, 1) := rfl
theorem at_44_1 : ab_at 44 1 = some (.aload_n 1, 1) := rfl
theorem at_44_2 : ab_at 44 2 = some (.getfield 60, 3) := rfl
theorem at_44_5 : ab_at 44 5 = some (.putfield 60, 3) := rfl
theorem at_44_8 : ab_at 44 8 = some (.aload_n 0, 1) := rfl
theorem at_44_9 : ab_at 44 9 = some (.aload_n 1, 1) := rfl
theorem at_44_10 : ab_at 44 10 = some (.getfield 64, 3) := rfl
theorem at_44_13 : ab_at 44 13 = some (.putfield 64, 3) := rfl
theorem at_44_16 : ab_at 44 16 = some (.aload_n 1, 1) := rfl
theorem at_44_17 : ab_at 44 17 = some (.getfield 9, 3) := rfl
theorem at_44_20 : ab_at 44 20 = some (.iconst 0, 1) := rfl
theorem at_44_21 : ab_at 44 21 = some (.aload_n 0, 1) := rfl
theorem at_44_22 : ab_at 44 22 = some (.getfield 9, 3) := rfl
theorem at_44_25 : ab_at 44 25 = some (.iconst 0, 1) := rfl
theorem at_44_26 : ab_at 44 26 = some (.bipush 6, 2) := rfl
theorem at_44_28 : ab_at 44 28 = some (.invokestatic 67, 3) := rfl
theorem at_44_31 : ab_at 44 31 = some (.aload_n 1, 1) := rfl
theorem at_44_32 : ab_at 44 32 = some (.getfield 15, 3) := rfl
theorem at_44_35 : ab_at 44 35 = some (.iconst 0, 1) := rfl
theorem at_44_36 : ab_at 44 36 = some (.aload_n 0, 1) := rfl
theorem at_44_37 : ab_at 44 37 = some (.getfield 15, 3) := rfl
theorem at_44_40 : ab_at 44 40 = some (.iconst 0, 1) := rfl
theorem at_44_41 : ab_at 44 41 = some (.bipush 6, 2) := rfl
theorem at_44_43 : ab_at 44 43 = some (.invokestatic 67, 3) := rfl
theorem at_44_46 : ab_at 44 46 = some (.aload_n 1, 1) := rfl
theorem at_44_47 : ab_at 44 47 = some (.getfield 18, 3) := rfl
theorem at_44_50 : ab_at 44 50 = some (.iconst 0, 1) := rfl
theorem at_44_51 : ab_at 44 51 = some (.aload_n 0, 1) := rfl
theorem at_44_52 : ab_at 44 52 = some (.getfield 18, 3) := rfl
theorem at_44_55 : ab_at 44 55 = some (.iconst 0, 1) := rfl
theorem at_44_56 : ab_at 44 56 = some (.bipush 6, 2) := rfl
theorem at_44_58 : ab_at 44 58 = some (.invokestatic 67, 3) := rfl
theorem at_44_61 : ab_at 44 61 = some (.aload_n 1, 1) := rfl
theorem at_44_62 : ab_at 44 62 = some (.getfield 21, 3) := rfl
theorem at_44_65 : ab_at 44 65 = some (.iconst 0, 1) := rfl
theorem at_44_66 : ab_at 44 66 = some (.aload_n 0, 1) := rfl
theorem at_44_67 : ab_at 44 67 = some (.getfield 21, 3) := rfl
theorem at_44_70 : ab_at 44 70 = some (.iconst 0, 1) := rfl
theorem at_44_71 : ab_at 44 71 = some (.bipush 6, 2) := rfl
theorem at_44_73 : ab_at 44 73 = some (.invokestatic 67, 3) := rfl
theorem at_44_76 : ab_at 44 76 = some (.aload_n 1, 1) := rfl
theorem at_44_77 : ab_at 44 77 = some (.getfield 24, 3) := rfl
theorem at_44_80 : ab_at 44 80 = some (.iconst 0, 1) := rfl
theorem at_44_81 : ab_at 44 81 = some (.aload_n 0, 1) := rfl
theorem at_44_82 : ab_at 44 82 = some (.getfield 24, 3) := rfl
theorem at_44_85 : ab_at 44 85 = some (.iconst 0, 1) := rfl
theorem at_44_86 : ab_at 44 86 = some (.bipush 6, 2) := rfl
theorem at_44_88 : ab_at 44 88 = some (.invokestatic 67, 3) := rfl
theorem at_44_91 : ab_at 44 91 = some (.aload_n 1, 1) := rfl
theorem at_44_92 : ab_at 44 92 = some (.getfield 27, 3) := rfl
theorem at_44_95 : ab_at 44 95 = some (.iconst 0, 1) := rfl
theorem at_44_96 : ab_at 44 96 = some (.aload_n 0, 1) := rfl
theorem at_44_97 : ab_at 44 97 = some (.getfield 27, 3) := rfl
theorem at_44_100 : ab_at 44 100 = some (.iconst 0, 1) := rfl
theorem at_44_101 : ab_at 44 101 = some (.bipush 6, 2) := rfl
theorem at_44_103 : ab_at 44 103 = some (.invokestatic 67, 3) := rfl
theorem at_44_106 : ab_at 44 106 = some (.aload_n 1, 1) := rfl
theorem at_44_107 : ab_at 44 107 = some (.getfield 30, 3) := rfl
theorem at_44_110 : ab_at 44 110 = some (.iconst 0, 1) := rfl
theorem at_44_111 : ab_at 44 111 = some (.aload_n 0, 1) := rfl
theorem at_44_112 : ab_at 44 112 = some (.getfield 30, 3) := rfl
theorem at_44_115 : ab_at 44 115 = some (.iconst 0, 1) := rfl
theorem at_44_116 : ab_at 44 116 = some (.bipush 6, 2) := rfl
theorem at_44_118 : ab_at 44 118 = some (.invokestatic 67, 3) := rfl
theorem at_44_121 : ab_at 44 121 = some (.aload_n 1, 1) := rfl
theorem at_44_122 : ab_at 44 122 = some (.getfield 38, 3) := rfl
theorem at_44_125 : ab_at 44 125 = some (.iconst 0, 1) := rfl
theorem at_44_126 : ab_at 44 126 = some (.aload_n 0, 1) := rfl
theorem at_44_127 : ab_at 44 127 = some (.getfield 38, 3) := rfl
theorem at_44_130 : ab_at 44 130 = some (.iconst 0, 1) := rfl
theorem at_44_131 : ab_at 44 131 = some (.bipush 6, 2) := rfl
theorem at_44_133 : ab_at 44 133 = some (.invokestatic 67, 3) := rfl
theorem at_44_136 : ab_at 44 136 = some (.aload_n 1, 1) := rfl
theorem at_44_137 : ab_at 44 137 = some (.getfield 41, 3) := rfl
theorem at_44_140 : ab_at 44 140 = some (.iconst 0, 1) := rfl
theorem at_44_141 : ab_at 44 141 = some (.aload_n 0, 1) := rfl
theorem at_44_142 : ab_at 44 142 = some (.getfield 41, 3) := rfl
theorem at_44_145 : ab_at 44 145 = some (.iconst 0, 1) := rfl
theorem at_44_146 : ab_at 44 146 = some (.bipush 20, 2) := rfl
theorem at_44_148 : ab_at 44 148 = some (.invokestatic 67, 3) := rfl
theorem at_44_151 : ab_at 44 151 = some (.aload_n 1, 1) := rfl
theorem at_44_152 : ab_at 44 152 = some (.getfield 44, 3) := rfl
theorem at_44_155 : ab_at 44 155 = some (.iconst 0, 1) := rfl
theorem at_44_156 : ab_at 44 156 = some (.aload_n 0, 1) := rfl
theorem at_44_157 : ab_at 44 157 = some (.getfield 44, 3) := rfl
theorem at_44_160 : ab_at 44 160 = some (.iconst 0, 1) := rfl
theorem at_44_161 : ab_at 44 161 = some (.bipush 20, 2) := rfl
theorem at_44_163 : ab_at 44 163 = some (.invokestatic 67, 3) := rfl
theorem at_44_166 : ab_at 44 166 = some (.aload_n 1, 1) := rfl
theorem at_44_167 : ab_at 44 167 = some (.getfield 47, 3) := rfl
theorem at_44_170 : ab_at 44 170 = some (.iconst 0, 1) := rfl
theorem at_44_171 : ab_at 44 171 = some (.aload_n 0, 1) := rfl
theorem at_44_172 : ab_at 44 172 = some (.getfield 47, 3) := rfl
theorem at_44_175 : ab_at 44 175 = some (.iconst 0, 1) := rfl
theorem at_44_176 : ab_at 44 176 = some (.bipush 20, 2) := rfl
theorem at_44_178 : ab_at 44 178 = some (.invokestatic 67, 3) := rfl
theorem at_44_181 : ab_at 44 181 = some (.aload_n 1, 1) := rfl
theorem at_44_182 : ab_at 44 182 = some (.getfield 50, 3) := rfl
theorem at_44_185 : ab_at 44 185 = some (.iconst 0, 1) := rfl
theorem at_44_186 : ab_at 44 186 = some (.aload_n 0, 1) := rfl
theorem at_44_187 : ab_at 44 187 = some (.getfield 50, 3) := rfl
theorem at_44_190 : ab_at 44 190 = some (.iconst 0, 1) := rfl
theorem at_44_191 : ab_at 44 191 = some (.bipush 20, 2) := rfl
theorem at_44_193 : ab_at 44 193 = some (.invokestatic 67, 3) := rfl
theorem at_44_196 : ab_at 44 196 = some (.iconst 0, 1) := rfl
theorem at_44_197 : ab_at 44 197 = some (.istore_n 2, 1) := rfl
theorem at_44_198 : ab_at 44 198 = some (.iload_n 2, 1) := rfl
theorem at_44_199 : ab_at 44 199 = some (.bipush 6, 2) := rfl
theorem at_44_201 : ab_at 44 201 = some (.if_icmp .ge 28, 3) := rfl
theorem at_44_204 : ab_at 44 204 = some (.aload_n 1, 1) := rfl
theorem at_44_205 : ab_at 44 205 = some (.getfield 35, 3) := rfl
theorem at_44_208 : ab_at 44 208 = some (.iload_n 2, 1) := rfl
theorem at_44_209 : ab_at 44 209 = some (.aaload, 1) := rfl
theorem at_44_210 : ab_at 44 210 = some (.iconst 0, 1) := rfl
theorem at_44_211 : ab_at 44 211 = some (.aload_n 0, 1) := rfl
theorem at_44_212 : ab_at 44 212 = some (.getfield 35, 3) := rfl
theorem at_44_215 : ab_at 44 215 = some (.iload_n 2, 1) := rfl
theorem at_44_216 : ab_at 44 216 = some (.aaload, 1) := rfl
theorem at_44_217 : ab_at 44 217 = some (.iconst 0, 1) := rfl
theorem at_44_218 : ab_at 44 218 = some (.bipush 6, 2) := rfl
theorem at_44_220 : ab_at 44 220 = some (.invokestatic 67, 3) := rfl
theorem at_44_223 : ab_at 44 223 = some (.iinc 2 1, 3) := rfl
theorem at_44_226 : ab_at 44 226 = some (.goto (-28), 3) := rfl
theorem at_44_229 : ab_at 44 229 = some (.iconst 0, 1) := rfl
theorem at_44_230 : ab_at 44 230 = some (.istore_n 2, 1) := rfl
theorem at_44_231 : ab_at 44 231 = some (.iload_n 2, 1) := rfl
theorem at_44_232 : ab_at 44 232 = some (.bipush 20, 2) := rfl
theorem at_44_234 : ab_at 44 234 = some (.if_icmp .ge 28, 3) := rfl
theorem at_44_237 : ab_at 44 237 = some (.aload_n 1, 1) := rfl
theorem at_44_238 : ab_at 44 238 = some (.getfield 53, 3) := rfl
theorem at_44_241 : ab_at 44 241 = some (.iload_n 2, 1) := rfl
theorem at_44_242 : ab_at 44 242 = some (.aaload, 1) := rfl
theorem at_44_243 : ab_at 44 243 = some (.iconst 0, 1) := rfl
theorem at_44_244 : ab_at 44 244 = some (.aload_n 0, 1) := rfl
theorem at_44_245 : ab_at 44 245 = some (.getfield 53, 3) := rfl
theorem at_44_248 : ab_at 44 248 = some (.iload_n 2, 1) := rfl
theorem at_44_249 : ab_at 44 249 = some (.aaload, 1) := rfl
theorem at_44_250 : ab_at 44 250 = some (.iconst 0, 1) := rfl
theorem at_44_251 : ab_at 44 251 = some (.bipush 6, 2) := rfl
theorem at_44_253 : ab_at 44 253 = some (.invokestatic 67, 3) := rfl
theorem at_44_256 : ab_at 44 256 = some (.iinc 2 1, 3) := rfl
theorem at_44_259 : ab_at 44 259 = some (.goto (-28), 3) := rfl
theorem at_44_262 : ab_at 44 262 = some (.return_, 1) := rfl
theorem at_45_0 : ab_at 45 0 = some (.iload_n 1, 1) := rfl
theorem at_45_1 : ab_at 45 1 = some (.ifCond .lt 15, 3) := rfl
theorem at_45_4 : ab_at 45 4 = some (.iload_n 1, 1) := rfl
theorem at_45_5 : ab_at 45 5 = some (.aload_n 0, 1) := rfl
theorem at_45_6 : ab_at 45 6 = some (.getfield 60, 3) := rfl
theorem at_45_9 : ab_at 45 9 = some (.if_icmp .ge 7, 3) := rfl
theorem at_45_12 : ab_at 45 12 = some (.iconst 1, 1) := rfl
theorem at_45_13 : ab_at 45 13 = some (.goto 4, 3) := rfl
theorem at_45_16 : ab_at 45 16 = some (.iconst 0, 1) := rfl
theorem at_45_17 : ab_at 45 17 = some (.ireturn, 1) := rfl
theorem at_46_0 : ab_at 46 0 = some (.iload_n 1, 1) := rfl
theorem at_46_1 : ab_at 46 1 = some (.ifCond .lt 15, 3) := rfl
theorem at_46_4 : ab_at 46 4 = some (.iload_n 1, 1) := rfl
theorem at_46_5 : ab_at 46 5 = some (.aload_n 0, 1) := rfl
theorem at_46_6 : ab_at 46 6 = some (.getfield 64, 3) := rfl
theorem at_46_9 : ab_at 46 9 = some (.if_icmp .ge 7, 3) := rfl
theorem at_46_12 : ab_at 46 12 = some (.iconst 1, 1) := rfl
theorem at_46_13 : ab_at 46 13 = some (.goto 4, 3) := rfl
theorem at_46_16 : ab_at 46 16 = some (.iconst 0, 1) := rfl
theorem at_46_17 : ab_at 46 17 = some (.ireturn, 1) := rfl
theorem at_47_0 : ab_at 47 0 = some (.aload_n 0, 1) := rfl
theorem at_47_1 : ab_at 47 1 = some (.iload_n 1, 1) := rfl
theorem at_47_2 : ab_at 47 2 = some (.invokevirtual 73, 3) := rfl
theorem at_47_5 : ab_at 47 5 = some (.ifCond .eq 27, 3) := rfl
theorem at_47_8 : ab_at 47 8 = some (.iload_n 2, 1) := rfl
theorem at_47_9 : ab_at 47 9 = some (.ifCond .lt 23, 3) := rfl
theorem at_47_12 : ab_at 47 12 = some (.iload_n 2, 1) := rfl
theorem at_47_13 : ab_at 47 13 = some (.aload_n 0, 1) := rfl
theorem at_47_14 : ab_at 47 14 = some (.getfield 47, 3) := rfl
theorem at_47_17 : ab_at 47 17 = some (.iload_n 1, 1) := rfl
theorem at_47_18 : ab_at 47 18 = some (.iaload, 1) := rfl
theorem at_47_19 : ab_at 47 19 = some (.if_icmp .ge 13, 3) := rfl
theorem at_47_22 : ab_at 47 22 = some (.iload_n 2, 1) := rfl
theorem at_47_23 : ab_at 47 23 = some (.bipush 6, 2) := rfl
theorem at_47_25 : ab_at 47 25 = some (.if_icmp .ge 7, 3) := rfl
theorem at_47_28 : ab_at 47 28 = some (.iconst 1, 1) := rfl
theorem at_47_29 : ab_at 47 29 = some (.goto 4, 3) := rfl
theorem at_47_32 : ab_at 47 32 = some (.iconst 0, 1) := rfl
theorem at_47_33 : ab_at 47 33 = some (.ireturn, 1) := rfl
theorem at_48_0 : ab_at 48 0 = some (.aload_n 0, 1) := rfl
theorem at_48_1 : ab_at 48 1 = some (.getfield 41, 3) := rfl
theorem at_48_4 : ab_at 48 4 = some (.iload_n 1, 1) := rfl
theorem at_48_5 : ab_at 48 5 = some (.iaload, 1) := rfl
theorem at_48_6 : ab_at 48 6 = some (.ifCond .eq 13, 3) := rfl
theorem at_48_9 : ab_at 48 9 = some (.aload_n 0, 1) := rfl
theorem at_48_10 : ab_at 48 10 = some (.getfield 41, 3) := rfl
theorem at_48_13 : ab_at 48 13 = some (.iload_n 1, 1) := rfl
theorem at_48_14 : ab_at 48 14 = some (.iaload, 1) := rfl
theorem at_48_15 : ab_at 48 15 = some (.iconst 1, 1) := rfl
theorem at_48_16 : ab_at 48 16 = some (.if_icmp .ne 7, 3) := rfl
theorem at_48_19 : ab_at 48 19 = some (.iconst 1, 1) := rfl
theorem at_48_20 : ab_at 48 20 = some (.goto 4, 3) := rfl
theorem at_48_23 : ab_at 48 23 = some (.iconst 0, 1) := rfl
theorem at_48_24 : ab_at 48 24 = some (.ireturn, 1) := rfl
theorem at_49_0 : ab_at 49 0 = some (.aload_n 0, 1) := rfl
theorem at_49_1 : ab_at 49 1 = some (.getfield 18, 3) := rfl
theorem at_49_4 : ab_at 49 4 = some (.iload_n 1, 1) := rfl
theorem at_49_5 : ab_at 49 5 = some (.iaload, 1) := rfl
theorem at_49_6 : ab_at 49 6 = some (.iconst 2, 1) := rfl
theorem at_49_7 : ab_at 49 7 = some (.if_icmp .ne 5, 3) := rfl
theorem at_49_10 : ab_at 49 10 = some (.iconst 0, 1) := rfl
theorem at_49_11 : ab_at 49 11 = some (.ireturn, 1) := rfl
theorem at_49_12 : ab_at 49 12 = some (.aload_n 0, 1) := rfl
theorem at_49_13 : ab_at 49 13 = some (.getfield 18, 3) := rfl
theorem at_49_16 : ab_at 49 16 = some (.iload_n 1, 1) := rfl
theorem at_49_17 : ab_at 49 17 = some (.iaload, 1) := rfl
theorem at_49_18 : ab_at 49 18 = some (.ifCond .ne 14, 3) := rfl
theorem at_49_21 : ab_at 49 21 = some (.iconst 1, 1) := rfl
theorem at_49_22 : ab_at 49 22 = some (.aload_n 0, 1) := rfl
theorem at_49_23 : ab_at 49 23 = some (.getfield 21, 3) := rfl
theorem at_49_26 : ab_at 49 26 = some (.iload_n 1, 1) := rfl
theorem at_49_27 : ab_at 49 27 = some (.iaload, 1) := rfl
theorem at_49_28 : ab_at 49 28 = some (.ishl, 1) := rfl
theorem at_49_29 : ab_at 49 29 = some (.goto 20, 3) := rfl
theorem at_49_32 : ab_at 49 32 = some (.iconst 1, 1) := rfl
theorem at_49_33 : ab_at 49 33 = some (.aload_n 0, 1) := rfl
theorem at_49_34 : ab_at 49 34 = some (.getfield 21, 3) := rfl
theorem at_49_37 : ab_at 49 37 = some (.iload_n 1, 1) := rfl
theorem at_49_38 : ab_at 49 38 = some (.iaload, 1) := rfl
theorem at_49_39 : ab_at 49 39 = some (.ishl, 1) := rfl
theorem at_49_40 : ab_at 49 40 = some (.iconst 1, 1) := rfl
theorem at_49_41 : ab_at 49 41 = some (.aload_n 0, 1) := rfl
theorem at_49_42 : ab_at 49 42 = some (.getfield 24, 3) := rfl
theorem at_49_45 : ab_at 49 45 = some (.iload_n 1, 1) := rfl
theorem at_49_46 : ab_at 49 46 = some (.iaload, 1) := rfl
theorem at_49_47 : ab_at 49 47 = some (.ishl, 1) := rfl
theorem at_49_48 : ab_at 49 48 = some (.ior, 1) := rfl
theorem at_49_49 : ab_at 49 49 = some (.ireturn, 1) := rfl
theorem at_50_0 : ab_at 50 0 = some (.aload_n 0, 1) := rfl
theorem at_50_1 : ab_at 50 1 = some (.getfield 60, 3) := rfl
theorem at_50_4 : ab_at 50 4 = some (.ifCond .eq 11, 3) := rfl
theorem at_50_7 : ab_at 50 7 = some (.iload_n 1, 1) := rfl
theorem at_50_8 : ab_at 50 8 = some (.iconst 0, 1) := rfl
theorem at_50_9 : ab_at 50 9 = some (.invokestatic 77, 3) := rfl
theorem at_50_12 : ab_at 50 12 = some (.ifCond .eq 5, 3) := rfl
theorem at_50_15 : ab_at 50 15 = some (.iconst 0, 1) := rfl
theorem at_50_16 : ab_at 50 16 = some (.ireturn, 1) := rfl
theorem at_50_17 : ab_at 50 17 = some (.iconst 1, 1) := rfl
theorem at_50_18 : ab_at 50 18 = some (.istore_n 2, 1) := rfl
theorem at_50_19 : ab_at 50 19 = some (.iconst 0, 1) := rfl
theorem at_50_20 : ab_at 50 20 = some (.istore_n 3, 1) := rfl
theorem at_50_21 : ab_at 50 21 = some (.iload_n 3, 1) := rfl
theorem at_50_22 : ab_at 50 22 = some (.aload_n 0, 1) := rfl
theorem at_50_23 : ab_at 50 23 = some (.getfield 60, 3) := rfl
theorem at_50_26 : ab_at 50 26 = some (.if_icmp .ge 49, 3) := rfl
theorem at_50_29 : ab_at 50 29 = some (.iconst 0, 1) := rfl
theorem at_50_30 : ab_at 50 30 = some (.istore 4, 2) := rfl
theorem at_50_32 : ab_at 50 32 = some (.iload 4, 2) := rfl
theorem at_50_34 : ab_at 50 34 = some (.aload_n 0, 1) := rfl
theorem at_50_35 : ab_at 50 35 = some (.getfield 60, 3) := rfl
theorem at_50_38 : ab_at 50 38 = some (.if_icmp .ge 31, 3) := rfl
theorem at_50_41 : ab_at 50 41 = some (.iload_n 2, 1) := rfl
theorem at_50_42 : ab_at 50 42 = some (.iload 4, 2) := rfl
theorem at_50_44 : ab_at 50 44 = some (.invokestatic 77, 3) := rfl
theorem at_50_47 : ab_at 50 47 = some (.ifCond .eq 16, 3) := rfl
theorem at_50_50 : ab_at 50 50 = some (.iload_n 2, 1) := rfl
theorem at_50_51 : ab_at 50 51 = some (.aload_n 0, 1) := rfl
theorem at_50_52 : ab_at 50 52 = some (.iload 4, 2) := rfl
theorem at_50_54 : ab_at 50 54 = some (.invokevirtual 81, 3) := rfl
theorem at_50_57 : ab_at 50 57 = some (.iload_n 1, 1) := rfl
theorem at_50_58 : ab_at 50 58 = some (.iconst (-1), 1) := rfl
theorem at_50_59 : ab_at 50 59 = some (.ixor, 1) := rfl
theorem at_50_60 : ab_at 50 60 = some (.iand, 1) := rfl
theorem at_50_61 : ab_at 50 61 = some (.ior, 1) := rfl
theorem at_50_62 : ab_at 50 62 = some (.istore_n 2, 1) := rfl
theorem at_50_63 : ab_at 50 63 = some (.iinc 4 1, 3) := rfl
theorem at_50_66 : ab_at 50 66 = some (.goto (-34), 3) := rfl
theorem at_50_69 : ab_at 50 69 = some (.iinc 3 1, 3) := rfl
theorem at_50_72 : ab_at 50 72 = some (.goto (-51), 3) := rfl
theorem at_50_75 : ab_at 50 75 = some (.iload_n 2, 1) := rfl
theorem at_50_76 : ab_at 50 76 = some (.ireturn, 1) := rfl
theorem at_51_0 : ab_at 51 0 = some (.iconst 0, 1) := rfl
theorem at_51_1 : ab_at 51 1 = some (.istore_n 1, 1) := rfl
theorem at_51_2 : ab_at 51 2 = some (.iload_n 1, 1) := rfl
theorem at_51_3 : ab_at 51 3 = some (.aload_n 0, 1) := rfl
theorem at_51_4 : ab_at 51 4 = some (.getfield 60, 3) := rfl
theorem at_51_7 : ab_at 51 7 = some (.if_icmp .ge 16, 3) := rfl
theorem at_51_10 : ab_at 51 10 = some (.aload_n 0, 1) := rfl
theorem at_51_11 : ab_at 51 11 = some (.getfield 38, 3) := rfl
theorem at_51_14 : ab_at 51 14 = some (.iload_n 1, 1) := rfl
theorem at_51_15 : ab_at 51 15 = some (.iconst 0, 1) := rfl
theorem at_51_16 : ab_at 51 16 = some (.iastore, 1) := rfl
theorem at_51_17 : ab_at 51 17 = some (.iinc 1 1, 3) := rfl
theorem at_51_20 : ab_at 51 20 = some (.goto (-18), 3) := rfl
theorem at_51_23 : ab_at 51 23 = some (.iconst 0, 1) := rfl
theorem at_51_24 : ab_at 51 24 = some (.istore_n 1, 1) := rfl
theorem at_51_25 : ab_at 51 25 = some (.iload_n 1, 1) := rfl
theorem at_51_26 : ab_at 51 26 = some (.aload_n 0, 1) := rfl
theorem at_51_27 : ab_at 51 27 = some (.getfield 60, 3) := rfl
theorem at_51_30 : ab_at 51 30 = some (.if_icmp .ge 53, 3) := rfl
theorem at_51_33 : ab_at 51 33 = some (.aload_n 0, 1) := rfl
theorem at_51_34 : ab_at 51 34 = some (.iconst 1, 1) := rfl
theorem at_51_35 : ab_at 51 35 = some (.iload_n 1, 1) := rfl
theorem at_51_36 : ab_at 51 36 = some (.ishl, 1) := rfl
theorem at_51_37 : ab_at 51 37 = some (.invokevirtual 85, 3) := rfl
theorem at_51_40 : ab_at 51 40 = some (.istore_n 2, 1) := rfl
theorem at_51_41 : ab_at 51 41 = some (.iconst 0, 1) := rfl
theorem at_51_42 : ab_at 51 42 = some (.istore_n 3, 1) := rfl
theorem at_51_43 : ab_at 51 43 = some (.iload_n 3, 1) := rfl
theorem at_51_44 : ab_at 51 44 = some (.aload_n 0, 1) := rfl
theorem at_51_45 : ab_at 51 45 = some (.getfield 60, 3) := rfl
theorem at_51_48 : ab_at 51 48 = some (.if_icmp .ge 29, 3) := rfl
theorem at_51_51 : ab_at 51 51 = some (.iload_n 2, 1) := rfl
theorem at_51_52 : ab_at 51 52 = some (.iload_n 3, 1) := rfl
theorem at_51_53 : ab_at 51 53 = some (.invokestatic 77, 3) := rfl
theorem at_51_56 : ab_at 51 56 = some (.ifCond .ne 15, 3) := rfl
theorem at_51_59 : ab_at 51 59 = some (.aload_n 0, 1) := rfl
theorem at_51_60 : ab_at 51 60 = some (.getfield 38, 3) := rfl
theorem at_51_63 : ab_at 51 63 = some (.iload_n 3, 1) := rfl
theorem at_51_64 : ab_at 51 64 = some (.dup2, 1) := rfl
theorem at_51_65 : ab_at 51 65 = some (.iaload, 1) := rfl
theorem at_51_66 : ab_at 51 66 = some (.iconst 1, 1) := rfl
theorem at_51_67 : ab_at 51 67 = some (.iload_n 1, 1) := rfl
theorem at_51_68 : ab_at 51 68 = some (.ishl, 1) := rfl
theorem at_51_69 : ab_at 51 69 = some (.ior, 1) := rfl
theorem at_51_70 : ab_at 51 70 = some (.iastore, 1) := rfl
theorem at_51_71 : ab_at 51 71 = some (.iinc 3 1, 3) := rfl
theorem at_51_74 : ab_at 51 74 = some (.goto (-31), 3) := rfl
theorem at_51_77 : ab_at 51 77 = some (.iinc 1 1, 3) := rfl
theorem at_51_80 : ab_at 51 80 = some (.goto (-55), 3) := rfl
theorem at_51_83 : ab_at 51 83 = some (.return_, 1) := rfl
theorem at_52_0 : ab_at 52 0 = some (.iconst 0, 1) := rfl
theorem at_52_1 : ab_at 52 1 = some (.istore_n 1, 1) := rfl
theorem at_52_2 : ab_at 52 2 = some (.iload_n 1, 1) := rfl
theorem at_52_3 : ab_at 52 3 = some (.aload_n 0, 1) := rfl
theorem at_52_4 : ab_at 52 4 = some (.getfield 60, 3) := rfl
theorem at_52_7 : ab_at 52 7 = some (.if_icmp .ge 68, 3) := rfl
theorem at_52_10 : ab_at 52 10 = some (.aload_n 0, 1) := rfl
theorem at_52_11 : ab_at 52 11 = some (.getfield 30, 3) := rfl
theorem at_52_14 : ab_at 52 14 = some (.iload_n 1, 1) := rfl
theorem at_52_15 : ab_at 52 15 = some (.iconst 0, 1) := rfl
theorem at_52_16 : ab_at 52 16 = some (.iastore, 1) := rfl
theorem at_52_17 : ab_at 52 17 = some (.iconst 0, 1) := rfl
theorem at_52_18 : ab_at 52 18 = some (.istore_n 2, 1) := rfl
theorem at_52_19 : ab_at 52 19 = some (.iload_n 2, 1) := rfl
theorem at_52_20 : ab_at 52 20 = some (.aload_n 0, 1) := rfl
theorem at_52_21 : ab_at 52 21 = some (.getfield 60, 3) := rfl
theorem at_52_24 : ab_at 52 24 = some (.if_icmp .ge 45, 3) := rfl
theorem at_52_27 : ab_at 52 27 = some (.aload_n 0, 1) := rfl
theorem at_52_28 : ab_at 52 28 = some (.iload_n 2, 1) := rfl
theorem at_52_29 : ab_at 52 29 = some (.invokevirtual 81, 3) := rfl
theorem at_52_32 : ab_at 52 32 = some (.iload_n 1, 1) := rfl
theorem at_52_33 : ab_at 52 33 = some (.invokestatic 77, 3) := rfl
theorem at_52_36 : ab_at 52 36 = some (.ifCond .eq 27, 3) := rfl
theorem at_52_39 : ab_at 52 39 = some (.aload_n 0, 1) := rfl
theorem at_52_40 : ab_at 52 40 = some (.getfield 35, 3) := rfl
theorem at_52_43 : ab_at 52 43 = some (.iload_n 1, 1) := rfl
theorem at_52_44 : ab_at 52 44 = some (.aaload, 1) := rfl
theorem at_52_45 : ab_at 52 45 = some (.aload_n 0, 1) := rfl
theorem at_52_46 : ab_at 52 46 = some (.getfield 30, 3) := rfl
theorem at_52_49 : ab_at 52 49 = some (.iload_n 1, 1) := rfl
theorem at_52_50 : ab_at 52 50 = some (.iaload, 1) := rfl
theorem at_52_51 : ab_at 52 51 = some (.iload_n 2, 1) := rfl
theorem at_52_52 : ab_at 52 52 = some (.iastore, 1) := rfl
theorem at_52_53 : ab_at 52 53 = some (.aload_n 0, 1) := rfl
theorem at_52_54 : ab_at 52 54 = some (.getfield 30, 3) := rfl
theorem at_52_57 : ab_at 52 57 = some (.iload_n 1, 1) := rfl
theorem at_52_58 : ab_at 52 58 = some (.dup2, 1) := rfl
theorem at_52_59 : ab_at 52 59 = some (.iaload, 1) := rfl
theorem at_52_60 : ab_at 52 60 = some (.iconst 1, 1) := rfl
theorem at_52_61 : ab_at 52 61 = some (.iadd, 1) := rfl
theorem at_52_62 : ab_at 52 62 = some (.iastore, 1) := rfl
theorem at_52_63 : ab_at 52 63 = some (.iinc 2 1, 3) := rfl
theorem at_52_66 : ab_at 52 66 = some (.goto (-47), 3) := rfl
theorem at_52_69 : ab_at 52 69 = some (.iinc 1 1, 3) := rfl
theorem at_52_72 : ab_at 52 72 = some (.goto (-70), 3) := rfl
theorem at_52_75 : ab_at 52 75 = some (.return_, 1) := rfl
theorem at_54_0 : ab_at 54 0 = some (.iconst 0, 1) := rfl
theorem at_54_1 : ab_at 54 1 = some (.istore_n 3, 1) := rfl
theorem at_54_2 : ab_at 54 2 = some (.iload_n 3, 1) := rfl
theorem at_54_3 : ab_at 54 3 = some (.aload_n 0, 1) := rfl
theorem at_54_4 : ab_at 54 4 = some (.getfield 30, 3) := rfl
theorem at_54_7 : ab_at 54 7 = some (.iload_n 2, 1) := rfl
theorem at_54_8 : ab_at 54 8 = some (.iaload, 1) := rfl
theorem at_54_9 : ab_at 54 9 = some (.if_icmp .ge 23, 3) := rfl
theorem at_54_12 : ab_at 54 12 = some (.aload_n 0, 1) := rfl
theorem at_54_13 : ab_at 54 13 = some (.getfield 35, 3) := rfl
theorem at_54_16 : ab_at 54 16 = some (.iload_n 2, 1) := rfl
theorem at_54_17 : ab_at 54 17 = some (.aaload, 1) := rfl
theorem at_54_18 : ab_at 54 18 = some (.iload_n 3, 1) := rfl
theorem at_54_19 : ab_at 54 19 = some (.iaload, 1) := rfl
theorem at_54_20 : ab_at 54 20 = some (.iload_n 1, 1) := rfl
theorem at_54_21 : ab_at 54 21 = some (.if_icmp .ne 5, 3) := rfl
theorem at_54_24 : ab_at 54 24 = some (.iload_n 3, 1) := rfl
theorem at_54_25 : ab_at 54 25 = some (.ireturn, 1) := rfl
theorem at_54_26 : ab_at 54 26 = some (.iinc 3 1, 3) := rfl
theorem at_54_29 : ab_at 54 29 = some (.goto (-27), 3) := rfl
theorem at_54_32 : ab_at 54 32 = some (.bipush (-4), 2) := rfl
theorem at_54_34 : ab_at 54 34 = some (.ireturn, 1) := rfl
theorem at_55_0 : ab_at 55 0 = some (.aload_n 0, 1) := rfl
theorem at_55_1 : ab_at 55 1 = some (.getfield 44, 3) := rfl
theorem at_55_4 : ab_at 55 4 = some (.iload_n 1, 1) := rfl
theorem at_55_5 : ab_at 55 5 = some (.iaload, 1) := rfl
theorem at_55_6 : ab_at 55 6 = some (.aload_n 0, 1) := rfl
theorem at_55_7 : ab_at 55 7 = some (.getfield 44, 3) := rfl
theorem at_55_10 : ab_at 55 10 = some (.iload_n 2, 1) := rfl
theorem at_55_11 : ab_at 55 11 = some (.iaload, 1) := rfl
theorem at_55_12 : ab_at 55 12 = some (.if_icmp .ne 16, 3) := rfl
theorem at_55_15 : ab_at 55 15 = some (.iload_n 1, 1) := rfl
theorem at_55_16 : ab_at 55 16 = some (.iload_n 2, 1) := rfl
theorem at_55_17 : ab_at 55 17 = some (.if_icmp .ge 7, 3) := rfl
theorem at_55_20 : ab_at 55 20 = some (.iconst 1, 1) := rfl
theorem at_55_21 : ab_at 55 21 = some (.goto 27, 3) := rfl
theorem at_55_24 : ab_at 55 24 = some (.iconst 0, 1) := rfl
theorem at_55_25 : ab_at 55 25 = some (.goto 23, 3) := rfl
theorem at_55_28 : ab_at 55 28 = some (.aload_n 0, 1) := rfl
theorem at_55_29 : ab_at 55 29 = some (.getfield 38, 3) := rfl
theorem at_55_32 : ab_at 55 32 = some (.aload_n 0, 1) := rfl
theorem at_55_33 : ab_at 55 33 = some (.getfield 44, 3) := rfl
theorem at_55_36 : ab_at 55 36 = some (.iload_n 2, 1) := rfl
theorem at_55_37 : ab_at 55 37 = some (.iaload, 1) := rfl
theorem at_55_38 : ab_at 55 38 = some (.iaload, 1) := rfl
theorem at_55_39 : ab_at 55 39 = some (.aload_n 0, 1) := rfl
theorem at_55_40 : ab_at 55 40 = some (.getfield 44, 3) := rfl
theorem at_55_43 : ab_at 55 43 = some (.iload_n 1, 1) := rfl
theorem at_55_44 : ab_at 55 44 = some (.iaload, 1) := rfl
theorem at_55_45 : ab_at 55 45 = some (.invokestatic 77, 3) := rfl
theorem at_55_48 : ab_at 55 48 = some (.ireturn, 1) := rfl
theorem at_56_0 : ab_at 56 0 = some (.aload_n 0, 1) := rfl
theorem at_56_1 : ab_at 56 1 = some (.getfield 38, 3) := rfl
theorem at_56_4 : ab_at 56 4 = some (.iload_n 2, 1) := rfl
theorem at_56_5 : ab_at 56 5 = some (.iaload, 1) := rfl
theorem at_56_6 : ab_at 56 6 = some (.aload_n 0, 1) := rfl
theorem at_56_7 : ab_at 56 7 = some (.getfield 44, 3) := rfl
theorem at_56_10 : ab_at 56 10 = some (.iload_n 1, 1) := rfl
theorem at_56_11 : ab_at 56 11 = some (.iaload, 1) := rfl
theorem at_56_12 : ab_at 56 12 = some (.invokestatic 77, 3) := rfl
theorem at_56_15 : ab_at 56 15 = some (.ireturn, 1) := rfl
theorem at_57_0 : ab_at 57 0 = some (.aload_n 0, 1) := rfl
theorem at_57_1 : ab_at 57 1 = some (.getfield 41, 3) := rfl
theorem at_57_4 : ab_at 57 4 = some (.iload_n 2, 1) := rfl
theorem at_57_5 : ab_at 57 5 = some (.iaload, 1) := rfl
theorem at_57_6 : ab_at 57 6 = some (.bipush 7, 2) := rfl
theorem at_57_8 : ab_at 57 8 = some (.if_icmp .eq 10, 3) := rfl
theorem at_57_11 : ab_at 57 11 = some (.aload_n 0, 1) := rfl
theorem at_57_12 : ab_at 57 12 = some (.iload_n 1, 1) := rfl
theorem at_57_13 : ab_at 57 13 = some (.iload_n 2, 1) := rfl
theorem at_57_14 : ab_at 57 14 = some (.invokevirtual 93, 3) := rfl
theorem at_57_17 : ab_at 57 17 = some (.ireturn, 1) := rfl
theorem at_57_18 : ab_at 57 18 = some (.aload_n 0, 1) := rfl
theorem at_57_19 : ab_at 57 19 = some (.getfield 44, 3) := rfl
theorem at_57_22 : ab_at 57 22 = some (.iload_n 2, 1) := rfl
theorem at_57_23 : ab_at 57 23 = some (.iaload, 1) := rfl
theorem at_57_24 : ab_at 57 24 = some (.istore 4, 2) := rfl
theorem at_57_26 : ab_at 57 26 = some (.iload_n 3, 1) := rfl
theorem at_57_27 : ab_at 57 27 = some (.aload_n 0, 1) := rfl
theorem at_57_28 : ab_at 57 28 = some (.getfield 30, 3) := rfl
theorem at_57_31 : ab_at 57 31 = some (.iload 4, 2) := rfl
theorem at_57_33 : ab_at 57 33 = some (.iaload, 1) := rfl
theorem at_57_34 : ab_at 57 34 = some (.if_icmp .ge 24, 3) := rfl
theorem at_57_37 : ab_at 57 37 = some (.aload_n 0, 1) := rfl
theorem at_57_38 : ab_at 57 38 = some (.iload_n 1, 1) := rfl
theorem at_57_39 : ab_at 57 39 = some (.aload_n 0, 1) := rfl
theorem at_57_40 : ab_at 57 40 = some (.getfield 35, 3) := rfl
theorem at_57_43 : ab_at 57 43 = some (.iload 4, 2) := rfl
theorem at_57_45 : ab_at 57 45 = some (.aaload, 1) := rfl
theorem at_57_46 : ab_at 57 46 = some (.iload_n 3, 1) := rfl
theorem at_57_47 : ab_at 57 47 = some (.iaload, 1) := rfl
theorem at_57_48 : ab_at 57 48 = some (.invokevirtual 96, 3) := rfl
theorem at_57_51 : ab_at 57 51 = some (.ifCond .eq 7, 3) := rfl
theorem at_57_54 : ab_at 57 54 = some (.iconst 1, 1) := rfl
theorem at_57_55 : ab_at 57 55 = some (.goto 4, 3) := rfl
theorem at_57_58 : ab_at 57 58 = some (.iconst 0, 1) := rfl
theorem at_57_59 : ab_at 57 59 = some (.ireturn, 1) := rfl
theorem at_58_0 : ab_at 58 0 = some (.iconst 1, 1) := rfl
theorem at_58_1 : ab_at 58 1 = some (.aload_n 0, 1) := rfl
theorem at_58_2 : ab_at 58 2 = some (.getfield 60, 3) := rfl
theorem at_58_5 : ab_at 58 5 = some (.ishl, 1) := rfl
theorem at_58_6 : ab_at 58 6 = some (.iconst 1, 1) := rfl
theorem at_58_7 : ab_at 58 7 = some (.isub, 1) := rfl
theorem at_58_8 : ab_at 58 8 = some (.istore_n 1, 1) := rfl
theorem at_58_9 : ab_at 58 9 = some (.iconst 0, 1) := rfl
theorem at_58_10 : ab_at 58 10 = some (.istore_n 2, 1) := rfl
theorem at_58_11 : ab_at 58 11 = some (.iload_n 2, 1) := rfl
theorem at_58_12 : ab_at 58 12 = some (.aload_n 0, 1) := rfl
theorem at_58_13 : ab_at 58 13 = some (.getfield 60, 3) := rfl
theorem at_58_16 : ab_at 58 16 = some (.if_icmp .ge 23, 3) := rfl
theorem at_58_19 : ab_at 58 19 = some (.aload_n 0, 1) := rfl
theorem at_58_20 : ab_at 58 20 = some (.iload_n 2, 1) := rfl
theorem at_58_21 : ab_at 58 21 = some (.invokevirtual 81, 3) := rfl
theorem at_58_24 : ab_at 58 24 = some (.iload_n 1, 1) := rfl
theorem at_58_25 : ab_at 58 25 = some (.iconst (-1), 1) := rfl
theorem at_58_26 : ab_at 58 26 = some (.ixor, 1) := rfl
theorem at_58_27 : ab_at 58 27 = some (.iand, 1) := rfl
theorem at_58_28 : ab_at 58 28 = some (.ifCond .eq 5, 3) := rfl
theorem at_58_31 : ab_at 58 31 = some (.iconst 0, 1) := rfl
theorem at_58_32 : ab_at 58 32 = some (.ireturn, 1) := rfl
theorem at_58_33 : ab_at 58 33 = some (.iinc 2 1, 3) := rfl
theorem at_58_36 : ab_at 58 36 = some (.goto (-25), 3) := rfl
theorem at_58_39 : ab_at 58 39 = some (.aload_n 0, 1) := rfl
theorem at_58_40 : ab_at 58 40 = some (.iconst 0, 1) := rfl
theorem at_58_41 : ab_at 58 41 = some (.invokevirtual 85, 3) := rfl
theorem at_58_44 : ab_at 58 44 = some (.iload_n 1, 1) := rfl
theorem at_58_45 : ab_at 58 45 = some (.if_icmp .eq 5, 3) := rfl
theorem at_58_48 : ab_at 58 48 = some (.iconst 0, 1) := rfl
theorem at_58_49 : ab_at 58 49 = some (.ireturn, 1) := rfl
theorem at_58_50 : ab_at 58 50 = some (.aload_n 0, 1) := rfl
theorem at_58_51 : ab_at 58 51 = some (.invokevirtual 99, 3) := rfl
theorem at_58_54 : ab_at 58 54 = some (.aload_n 0, 1) := rfl
theorem at_58_55 : ab_at 58 55 = some (.invokevirtual 102, 3) := rfl
theorem at_58_58 : ab_at 58 58 = some (.iconst 0, 1) := rfl
theorem at_58_59 : ab_at 58 59 = some (.istore_n 2, 1) := rfl
theorem at_58_60 : ab_at 58 60 = some (.iload_n 2, 1) := rfl
theorem at_58_61 : ab_at 58 61 = some (.aload_n 0, 1) := rfl
theorem at_58_62 : ab_at 58 62 = some (.getfield 64, 3) := rfl
theorem at_58_65 : ab_at 58 65 = some (.if_icmp .ge 19, 3) := rfl
theorem at_58_68 : ab_at 58 68 = some (.aload_n 0, 1) := rfl
theorem at_58_69 : ab_at 58 69 = some (.iload_n 2, 1) := rfl
theorem at_58_70 : ab_at 58 70 = some (.invokevirtual 105, 3) := rfl
theorem at_58_73 : ab_at 58 73 = some (.ifCond .ne 5, 3) := rfl
theorem at_58_76 : ab_at 58 76 = some (.iconst 0, 1) := rfl
theorem at_58_77 : ab_at 58 77 = some (.ireturn, 1) := rfl
theorem at_58_78 : ab_at 58 78 = some (.iinc 2 1, 3) := rfl
theorem at_58_81 : ab_at 58 81 = some (.goto (-21), 3) := rfl
theorem at_58_84 : ab_at 58 84 = some (.iconst 0, 1) := rfl
theorem at_58_85 : ab_at 58 85 = some (.istore_n 2, 1) := rfl
theorem at_58_86 : ab_at 58 86 = some (.iload_n 2, 1) := rfl
theorem at_58_87 : ab_at 58 87 = some (.aload_n 0, 1) := rfl
theorem at_58_88 : ab_at 58 88 = some (.getfield 60, 3) := rfl
theorem at_58_91 : ab_at 58 91 = some (.if_icmp .ge 50, 3) := rfl
theorem at_58_94 : ab_at 58 94 = some (.aload_n 0, 1) := rfl
theorem at_58_95 : ab_at 58 95 = some (.getfield 18, 3) := rfl
theorem at_58_98 : ab_at 58 98 = some (.iload_n 2, 1) := rfl
theorem at_58_99 : ab_at 58 99 = some (.iaload, 1) := rfl
theorem at_58_100 : ab_at 58 100 = some (.ifCond .ne 6, 3) := rfl
theorem at_58_103 : ab_at 58 103 = some (.goto 32, 3) := rfl
theorem at_58_106 : ab_at 58 106 = some (.aload_n 0, 1) := rfl
theorem at_58_107 : ab_at 58 107 = some (.aload_n 0, 1) := rfl
theorem at_58_108 : ab_at 58 108 = some (.getfield 27, 3) := rfl
theorem at_58_111 : ab_at 58 111 = some (.iload_n 2, 1) := rfl
theorem at_58_112 : ab_at 58 112 = some (.iaload, 1) := rfl
theorem at_58_113 : ab_at 58 113 = some (.invokevirtual 73, 3) := rfl
theorem at_58_116 : ab_at 58 116 = some (.ifCond .eq 17, 3) := rfl
theorem at_58_119 : ab_at 58 119 = some (.aload_n 0, 1) := rfl
theorem at_58_120 : ab_at 58 120 = some (.aload_n 0, 1) := rfl
theorem at_58_121 : ab_at 58 121 = some (.getfield 27, 3) := rfl
theorem at_58_124 : ab_at 58 124 = some (.iload_n 2, 1) := rfl
theorem at_58_125 : ab_at 58 125 = some (.iaload, 1) := rfl
theorem at_58_126 : ab_at 58 126 = some (.iload_n 2, 1) := rfl
theorem at_58_127 : ab_at 58 127 = some (.invokevirtual 96, 3) := rfl
theorem at_58_130 : ab_at 58 130 = some (.ifCond .ne 5, 3) := rfl
theorem at_58_133 : ab_at 58 133 = some (.iconst 0, 1) := rfl
theorem at_58_134 : ab_at 58 134 = some (.ireturn, 1) := rfl
theorem at_58_135 : ab_at 58 135 = some (.iinc 2 1, 3) := rfl
theorem at_58_138 : ab_at 58 138 = some (.goto (-52), 3) := rfl
theorem at_58_141 : ab_at 58 141 = some (.iconst 1, 1) := rfl
theorem at_58_142 : ab_at 58 142 = some (.ireturn, 1) := rfl
theorem at_59_0 : ab_at 59 0 = some (.aload_n 0, 1) := rfl
theorem at_59_1 : ab_at 59 1 = some (.getfield 41, 3) := rfl
theorem at_59_4 : ab_at 59 4 = some (.iload_n 1, 1) := rfl
theorem at_59_5 : ab_at 59 5 = some (.iaload, 1) := rfl
theorem at_59_6 : ab_at 59 6 = some (.bipush 7, 2) := rfl
theorem at_59_8 : ab_at 59 8 = some (.if_icmp .ne 25, 3) := rfl
theorem at_59_11 : ab_at 59 11 = some (.aload_n 0, 1) := rfl
theorem at_59_12 : ab_at 59 12 = some (.getfield 47, 3) := rfl
theorem at_59_15 : ab_at 59 15 = some (.iload_n 1, 1) := rfl
theorem at_59_16 : ab_at 59 16 = some (.iaload, 1) := rfl
theorem at_59_17 : ab_at 59 17 = some (.aload_n 0, 1) := rfl
theorem at_59_18 : ab_at 59 18 = some (.getfield 30, 3) := rfl
theorem at_59_21 : ab_at 59 21 = some (.aload_n 0, 1) := rfl
theorem at_59_22 : ab_at 59 22 = some (.getfield 44, 3) := rfl
theorem at_59_25 : ab_at 59 25 = some (.iload_n 1, 1) := rfl
theorem at_59_26 : ab_at 59 26 = some (.iaload, 1) := rfl
theorem at_59_27 : ab_at 59 27 = some (.iaload, 1) := rfl
theorem at_59_28 : ab_at 59 28 = some (.if_icmp .eq 5, 3) := rfl
theorem at_59_31 : ab_at 59 31 = some (.iconst 0, 1) := rfl
theorem at_59_32 : ab_at 59 32 = some (.ireturn, 1) := rfl
theorem at_59_33 : ab_at 59 33 = some (.iconst 0, 1) := rfl
theorem at_59_34 : ab_at 59 34 = some (.istore_n 2, 1) := rfl
theorem at_59_35 : ab_at 59 35 = some (.iload_n 2, 1) := rfl
theorem at_59_36 : ab_at 59 36 = some (.aload_n 0, 1) := rfl
theorem at_59_37 : ab_at 59 37 = some (.getfield 47, 3) := rfl
theorem at_59_40 : ab_at 59 40 = some (.iload_n 1, 1) := rfl
theorem at_59_41 : ab_at 59 41 = some (.iaload, 1) := rfl
theorem at_59_42 : ab_at 59 42 = some (.if_icmp .ge 38, 3) := rfl
theorem at_59_45 : ab_at 59 45 = some (.aload_n 0, 1) := rfl
theorem at_59_46 : ab_at 59 46 = some (.getfield 53, 3) := rfl
theorem at_59_49 : ab_at 59 49 = some (.iload_n 1, 1) := rfl
theorem at_59_50 : ab_at 59 50 = some (.aaload, 1) := rfl
theorem at_59_51 : ab_at 59 51 = some (.iload_n 2, 1) := rfl
theorem at_59_52 : ab_at 59 52 = some (.iaload, 1) := rfl
theorem at_59_53 : ab_at 59 53 = some (.istore_n 3, 1) := rfl
theorem at_59_54 : ab_at 59 54 = some (.aload_n 0, 1) := rfl
theorem at_59_55 : ab_at 59 55 = some (.iload_n 3, 1) := rfl
theorem at_59_56 : ab_at 59 56 = some (.invokevirtual 73, 3) := rfl
theorem at_59_59 : ab_at 59 59 = some (.ifCond .eq 13, 3) := rfl
theorem at_59_62 : ab_at 59 62 = some (.aload_n 0, 1) := rfl
theorem at_59_63 : ab_at 59 63 = some (.iload_n 3, 1) := rfl
theorem at_59_64 : ab_at 59 64 = some (.iload_n 1, 1) := rfl
theorem at_59_65 : ab_at 59 65 = some (.iload_n 2, 1) := rfl
theorem at_59_66 : ab_at 59 66 = some (.invokevirtual 108, 3) := rfl
theorem at_59_69 : ab_at 59 69 = some (.ifCond .ne 5, 3) := rfl
theorem at_59_72 : ab_at 59 72 = some (.iconst 0, 1) := rfl
theorem at_59_73 : ab_at 59 73 = some (.ireturn, 1) := rfl
theorem at_59_74 : ab_at 59 74 = some (.iinc 2 1, 3) := rfl
theorem at_59_77 : ab_at 59 77 = some (.goto (-42), 3) := rfl
theorem at_59_80 : ab_at 59 80 = some (.iconst 1, 1) := rfl
theorem at_59_81 : ab_at 59 81 = some (.ireturn, 1) := rfl
theorem at_60_0 : ab_at 60 0 = some (.iconst 0, 1) := rfl
theorem at_60_1 : ab_at 60 1 = some (.istore_n 2, 1) := rfl
theorem at_60_2 : ab_at 60 2 = some (.iload_n 2, 1) := rfl
theorem at_60_3 : ab_at 60 3 = some (.aload_n 0, 1) := rfl
theorem at_60_4 : ab_at 60 4 = some (.getfield 47, 3) := rfl
theorem at_60_7 : ab_at 60 7 = some (.iload_n 1, 1) := rfl
theorem at_60_8 : ab_at 60 8 = some (.iaload, 1) := rfl
theorem at_60_9 : ab_at 60 9 = some (.if_icmp .ge 23, 3) := rfl
theorem at_60_12 : ab_at 60 12 = some (.aload_n 0, 1) := rfl
theorem at_60_13 : ab_at 60 13 = some (.getfield 53, 3) := rfl
theorem at_60_16 : ab_at 60 16 = some (.iload_n 1, 1) := rfl
theorem at_60_17 : ab_at 60 17 = some (.aaload, 1) := rfl
theorem at_60_18 : ab_at 60 18 = some (.iload_n 2, 1) := rfl
theorem at_60_19 : ab_at 60 19 = some (.iaload, 1) := rfl
theorem at_60_20 : ab_at 60 20 = some (.iload_n 1, 1) := rfl
theorem at_60_21 : ab_at 60 21 = some (.if_icmp .lt 5, 3) := rfl
theorem at_60_24 : ab_at 60 24 = some (.iconst 1, 1) := rfl
theorem at_60_25 : ab_at 60 25 = some (.ireturn, 1) := rfl
theorem at_60_26 : ab_at 60 26 = some (.iinc 2 1, 3) := rfl
theorem at_60_29 : ab_at 60 29 = some (.goto (-27), 3) := rfl
theorem at_60_32 : ab_at 60 32 = some (.iconst 0, 1) := rfl
theorem at_60_33 : ab_at 60 33 = some (.ireturn, 1) := rfl
theorem at_61_0 : ab_at 61 0 = some (.iconst 0, 1) := rfl
theorem at_61_1 : ab_at 61 1 = some (.istore_n 2, 1) := rfl
theorem at_61_2 : ab_at 61 2 = some (.iconst 0, 1) := rfl
theorem at_61_3 : ab_at 61 3 = some (.istore_n 3, 1) := rfl
theorem at_61_4 : ab_at 61 4 = some (.iload_n 3, 1) := rfl
theorem at_61_5 : ab_at 61 5 = some (.aload_n 0, 1) := rfl
theorem at_61_6 : ab_at 61 6 = some (.getfield 64, 3) := rfl
theorem at_61_9 : ab_at 61 9 = some (.if_icmp .ge 22, 3) := rfl
theorem at_61_12 : ab_at 61 12 = some (.aload_n 0, 1) := rfl
theorem at_61_13 : ab_at 61 13 = some (.getfield 41, 3) := rfl
theorem at_61_16 : ab_at 61 16 = some (.iload_n 3, 1) := rfl
theorem at_61_17 : ab_at 61 17 = some (.iaload, 1) := rfl
theorem at_61_18 : ab_at 61 18 = some (.iload_n 1, 1) := rfl
theorem at_61_19 : ab_at 61 19 = some (.if_icmp .ne 6, 3) := rfl
theorem at_61_22 : ab_at 61 22 = some (.iinc 2 1, 3) := rfl
theorem at_61_25 : ab_at 61 25 = some (.iinc 3 1, 3) := rfl
theorem at_61_28 : ab_at 61 28 = some (.goto (-24), 3) := rfl
theorem at_61_31 : ab_at 61 31 = some (.iload_n 2, 1) := rfl
theorem at_61_32 : ab_at 61 32 = some (.ireturn, 1) := rfl
theorem at_62_0 : ab_at 62 0 = some (.iconst 0, 1) := rfl
theorem at_62_1 : ab_at 62 1 = some (.istore_n 1, 1) := rfl
theorem at_62_2 : ab_at 62 2 = some (.iconst 0, 1) := rfl
theorem at_62_3 : ab_at 62 3 = some (.istore_n 2, 1) := rfl
theorem at_62_4 : ab_at 62 4 = some (.iload_n 2, 1) := rfl
theorem at_62_5 : ab_at 62 5 = some (.aload_n 0, 1) := rfl
theorem at_62_6 : ab_at 62 6 = some (.getfield 64, 3) := rfl
theorem at_62_9 : ab_at 62 9 = some (.if_icmp .ge 18, 3) := rfl
theorem at_62_12 : ab_at 62 12 = some (.iload_n 1, 1) := rfl
theorem at_62_13 : ab_at 62 13 = some (.aload_n 0, 1) := rfl
theorem at_62_14 : ab_at 62 14 = some (.getfield 47, 3) := rfl
theorem at_62_17 : ab_at 62 17 = some (.iload_n 2, 1) := rfl
theorem at_62_18 : ab_at 62 18 = some (.iaload, 1) := rfl
theorem at_62_19 : ab_at 62 19 = some (.iadd, 1) := rfl
theorem at_62_20 : ab_at 62 20 = some (.istore_n 1, 1) := rfl
theorem at_62_21 : ab_at 62 21 = some (.iinc 2 1, 3) := rfl
theorem at_62_24 : ab_at 62 24 = some (.goto (-20), 3) := rfl
theorem at_62_27 : ab_at 62 27 = some (.iconst 0, 1) := rfl
theorem at_62_28 : ab_at 62 28 = some (.istore_n 2, 1) := rfl
theorem at_62_29 : ab_at 62 29 = some (.iload_n 2, 1) := rfl
theorem at_62_30 : ab_at 62 30 = some (.aload_n 0, 1) := rfl
theorem at_62_31 : ab_at 62 31 = some (.getfield 60, 3) := rfl
theorem at_62_34 : ab_at 62 34 = some (.if_icmp .ge 21, 3) := rfl
theorem at_62_37 : ab_at 62 37 = some (.aload_n 0, 1) := rfl
theorem at_62_38 : ab_at 62 38 = some (.getfield 18, 3) := rfl
theorem at_62_41 : ab_at 62 41 = some (.iload_n 2, 1) := rfl
theorem at_62_42 : ab_at 62 42 = some (.iaload, 1) := rfl
theorem at_62_43 : ab_at 62 43 = some (.ifCond .eq 6, 3) := rfl
theorem at_62_46 : ab_at 62 46 = some (.iinc 1 1, 3) := rfl
theorem at_62_49 : ab_at 62 49 = some (.iinc 2 1, 3) := rfl
theorem at_62_52 : ab_at 62 52 = some (.goto (-23), 3) := rfl
theorem at_62_55 : ab_at 62 55 = some (.iload_n 1, 1) := rfl
theorem at_62_56 : ab_at 62 56 = some (.ireturn, 1) := rfl
theorem at_63_0 : ab_at 63 0 = some (.iconst 0, 1) := rfl
theorem at_63_1 : ab_at 63 1 = some (.istore_n 2, 1) := rfl
theorem at_63_2 : ab_at 63 2 = some (.iconst 0, 1) := rfl
theorem at_63_3 : ab_at 63 3 = some (.istore_n 3, 1) := rfl
theorem at_63_4 : ab_at 63 4 = some (.iload_n 3, 1) := rfl
theorem at_63_5 : ab_at 63 5 = some (.aload_n 0, 1) := rfl
theorem at_63_6 : ab_at 63 6 = some (.getfield 64, 3) := rfl
theorem at_63_9 : ab_at 63 9 = some (.if_icmp .ge 45, 3) := rfl
theorem at_63_12 : ab_at 63 12 = some (.iconst 0, 1) := rfl
theorem at_63_13 : ab_at 63 13 = some (.istore 4, 2) := rfl
theorem at_63_15 : ab_at 63 15 = some (.iload 4, 2) := rfl
theorem at_63_17 : ab_at 63 17 = some (.aload_n 0, 1) := rfl
theorem at_63_18 : ab_at 63 18 = some (.getfield 47, 3) := rfl
theorem at_63_21 : ab_at 63 21 = some (.iload_n 3, 1) := rfl
theorem at_63_22 : ab_at 63 22 = some (.iaload, 1) := rfl
theorem at_63_23 : ab_at 63 23 = some (.if_icmp .ge 25, 3) := rfl
theorem at_63_26 : ab_at 63 26 = some (.aload_n 0, 1) := rfl
theorem at_63_27 : ab_at 63 27 = some (.getfield 53, 3) := rfl
theorem at_63_30 : ab_at 63 30 = some (.iload_n 3, 1) := rfl
theorem at_63_31 : ab_at 63 31 = some (.aaload, 1) := rfl
theorem at_63_32 : ab_at 63 32 = some (.iload 4, 2) := rfl
theorem at_63_34 : ab_at 63 34 = some (.iaload, 1) := rfl
theorem at_63_35 : ab_at 63 35 = some (.iload_n 1, 1) := rfl
theorem at_63_36 : ab_at 63 36 = some (.if_icmp .ne 6, 3) := rfl
theorem at_63_39 : ab_at 63 39 = some (.iinc 2 1, 3) := rfl
theorem at_63_42 : ab_at 63 42 = some (.iinc 4 1, 3) := rfl
theorem at_63_45 : ab_at 63 45 = some (.goto (-30), 3) := rfl
theorem at_63_48 : ab_at 63 48 = some (.iinc 3 1, 3) := rfl
theorem at_63_51 : ab_at 63 51 = some (.goto (-47), 3) := rfl
theorem at_63_54 : ab_at 63 54 = some (.iconst 0, 1) := rfl
theorem at_63_55 : ab_at 63 55 = some (.istore_n 3, 1) := rfl
theorem at_63_56 : ab_at 63 56 = some (.iload_n 3, 1) := rfl
theorem at_63_57 : ab_at 63 57 = some (.aload_n 0, 1) := rfl
theorem at_63_58 : ab_at 63 58 = some (.getfield 60, 3) := rfl
theorem at_63_61 : ab_at 63 61 = some (.if_icmp .ge 31, 3) := rfl
theorem at_63_64 : ab_at 63 64 = some (.aload_n 0, 1) := rfl
theorem at_63_65 : ab_at 63 65 = some (.getfield 18, 3) := rfl
theorem at_63_68 : ab_at 63 68 = some (.iload_n 3, 1) := rfl
theorem at_63_69 : ab_at 63 69 = some (.iaload, 1) := rfl
theorem at_63_70 : ab_at 63 70 = some (.ifCond .eq 16, 3) := rfl
theorem at_63_73 : ab_at 63 73 = some (.aload_n 0, 1) := rfl
theorem at_63_74 : ab_at 63 74 = some (.getfield 27, 3) := rfl
theorem at_63_77 : ab_at 63 77 = some (.iload_n 3, 1) := rfl
theorem at_63_78 : ab_at 63 78 = some (.iaload, 1) := rfl
theorem at_63_79 : ab_at 63 79 = some (.iload_n 1, 1) := rfl
theorem at_63_80 : ab_at 63 80 = some (.if_icmp .ne 6, 3) := rfl
theorem at_63_83 : ab_at 63 83 = some (.iinc 2 1, 3) := rfl
theorem at_63_86 : ab_at 63 86 = some (.iinc 3 1, 3) := rfl
theorem at_63_89 : ab_at 63 89 = some (.goto (-33), 3) := rfl
theorem at_63_92 : ab_at 63 92 = some (.iload_n 2, 1) := rfl
theorem at_63_93 : ab_at 63 93 = some (.ireturn, 1) := rfl
theorem at_65_0 : ab_at 65 0 = some (.iconst 0, 1) := rfl
theorem at_65_1 : ab_at 65 1 = some (.istore_n 2, 1) := rfl
theorem at_65_2 : ab_at 65 2 = some (.iconst 0, 1) := rfl
theorem at_65_3 : ab_at 65 3 = some (.istore_n 3, 1) := rfl
theorem at_65_4 : ab_at 65 4 = some (.iload_n 3, 1) := rfl
theorem at_65_5 : ab_at 65 5 = some (.aload_n 0, 1) := rfl
theorem at_65_6 : ab_at 65 6 = some (.getfield 64, 3) := rfl
theorem at_65_9 : ab_at 65 9 = some (.if_icmp .ge 65, 3) := rfl
theorem at_65_12 : ab_at 65 12 = some (.iconst 0, 1) := rfl
theorem at_65_13 : ab_at 65 13 = some (.istore 4, 2) := rfl
theorem at_65_15 : ab_at 65 15 = some (.iload 4, 2) := rfl
theorem at_65_17 : ab_at 65 17 = some (.aload_n 0, 1) := rfl
theorem at_65_18 : ab_at 65 18 = some (.getfield 47, 3) := rfl
theorem at_65_21 : ab_at 65 21 = some (.iload_n 3, 1) := rfl
theorem at_65_22 : ab_at 65 22 = some (.iaload, 1) := rfl
theorem at_65_23 : ab_at 65 23 = some (.if_icmp .ge 45, 3) := rfl
theorem at_65_26 : ab_at 65 26 = some (.aload_n 0, 1) := rfl
theorem at_65_27 : ab_at 65 27 = some (.getfield 53, 3) := rfl
theorem at_65_30 : ab_at 65 30 = some (.iload_n 3, 1) := rfl
theorem at_65_31 : ab_at 65 31 = some (.aaload, 1) := rfl
theorem at_65_32 : ab_at 65 32 = some (.iload 4, 2) := rfl
theorem at_65_34 : ab_at 65 34 = some (.iaload, 1) := rfl
theorem at_65_35 : ab_at 65 35 = some (.istore 5, 2) := rfl
theorem at_65_37 : ab_at 65 37 = some (.aload_n 0, 1) := rfl
theorem at_65_38 : ab_at 65 38 = some (.getfield 53, 3) := rfl
theorem at_65_41 : ab_at 65 41 = some (.iload_n 3, 1) := rfl
theorem at_65_42 : ab_at 65 42 = some (.aaload, 1) := rfl
theorem at_65_43 : ab_at 65 43 = some (.iload 4, 2) := rfl
theorem at_65_45 : ab_at 65 45 = some (.aload_n 1, 1) := rfl
theorem at_65_46 : ab_at 65 46 = some (.iload 5, 2) := rfl
theorem at_65_48 : ab_at 65 48 = some (.iaload, 1) := rfl
theorem at_65_49 : ab_at 65 49 = some (.iastore, 1) := rfl
theorem at_65_50 : ab_at 65 50 = some (.aload_n 1, 1) := rfl
theorem at_65_51 : ab_at 65 51 = some (.iload 5, 2) := rfl
theorem at_65_53 : ab_at 65 53 = some (.iaload, 1) := rfl
theorem at_65_54 : ab_at 65 54 = some (.iload 5, 2) := rfl
theorem at_65_56 : ab_at 65 56 = some (.if_icmp .eq 6, 3) := rfl
theorem at_65_59 : ab_at 65 59 = some (.iinc 2 1, 3) := rfl
theorem at_65_62 : ab_at 65 62 = some (.iinc 4 1, 3) := rfl
theorem at_65_65 : ab_at 65 65 = some (.goto (-50), 3) := rfl
theorem at_65_68 : ab_at 65 68 = some (.iinc 3 1, 3) := rfl
theorem at_65_71 : ab_at 65 71 = some (.goto (-67), 3) := rfl
theorem at_65_74 : ab_at 65 74 = some (.iconst 0, 1) := rfl
theorem at_65_75 : ab_at 65 75 = some (.istore_n 3, 1) := rfl
theorem at_65_76 : ab_at 65 76 = some (.iload_n 3, 1) := rfl
theorem at_65_77 : ab_at 65 77 = some (.aload_n 0, 1) := rfl
theorem at_65_78 : ab_at 65 78 = some (.getfield 60, 3) := rfl
theorem at_65_81 : ab_at 65 81 = some (.if_icmp .ge 51, 3) := rfl
theorem at_65_84 : ab_at 65 84 = some (.aload_n 0, 1) := rfl
theorem at_65_85 : ab_at 65 85 = some (.getfield 18, 3) := rfl
theorem at_65_88 : ab_at 65 88 = some (.iload_n 3, 1) := rfl
theorem at_65_89 : ab_at 65 89 = some (.iaload, 1) := rfl
theorem at_65_90 : ab_at 65 90 = some (.ifCond .ne 6, 3) := rfl
theorem at_65_93 : ab_at 65 93 = some (.goto 33, 3) := rfl
theorem at_65_96 : ab_at 65 96 = some (.aload_n 0, 1) := rfl
theorem at_65_97 : ab_at 65 97 = some (.getfield 27, 3) := rfl
theorem at_65_100 : ab_at 65 100 = some (.iload_n 3, 1) := rfl
theorem at_65_101 : ab_at 65 101 = some (.iaload, 1) := rfl
theorem at_65_102 : ab_at 65 102 = some (.istore 4, 2) := rfl
theorem at_65_104 : ab_at 65 104 = some (.aload_n 0, 1) := rfl
theorem at_65_105 : ab_at 65 105 = some (.getfield 27, 3) := rfl
theorem at_65_108 : ab_at 65 108 = some (.iload_n 3, 1) := rfl
theorem at_65_109 : ab_at 65 109 = some (.aload_n 1, 1) := rfl
theorem at_65_110 : ab_at 65 110 = some (.iload 4, 2) := rfl
theorem at_65_112 : ab_at 65 112 = some (.iaload, 1) := rfl
theorem at_65_113 : ab_at 65 113 = some (.iastore, 1) := rfl
theorem at_65_114 : ab_at 65 114 = some (.aload_n 1, 1) := rfl
theorem at_65_115 : ab_at 65 115 = some (.iload 4, 2) := rfl
theorem at_65_117 : ab_at 65 117 = some (.iaload, 1) := rfl
theorem at_65_118 : ab_at 65 118 = some (.iload 4, 2) := rfl
theorem at_65_120 : ab_at 65 120 = some (.if_icmp .eq 6, 3) := rfl
theorem at_65_123 : ab_at 65 123 = some (.iinc 2 1, 3) := rfl
theorem at_65_126 : ab_at 65 126 = some (.iinc 3 1, 3) := rfl
theorem at_65_129 : ab_at 65 129 = some (.goto (-53), 3) := rfl
theorem at_65_132 : ab_at 65 132 = some (.iload_n 2, 1) := rfl
theorem at_65_133 : ab_at 65 133 = some (.ireturn, 1) := rfl
theorem at_66_0 : ab_at 66 0 = some (.aload_n 0, 1) := rfl
theorem at_66_1 : ab_at 66 1 = some (.invokevirtual 112, 3) := rfl
theorem at_66_4 : ab_at 66 4 = some (.iconst 0, 1) := rfl
theorem at_66_5 : ab_at 66 5 = some (.istore_n 1, 1) := rfl
theorem at_66_6 : ab_at 66 6 = some (.iconst 0, 1) := rfl
theorem at_66_7 : ab_at 66 7 = some (.istore_n 2, 1) := rfl
theorem at_66_8 : ab_at 66 8 = some (.iload_n 2, 1) := rfl
theorem at_66_9 : ab_at 66 9 = some (.aload_n 0, 1) := rfl
theorem at_66_10 : ab_at 66 10 = some (.getfield 64, 3) := rfl
theorem at_66_13 : ab_at 66 13 = some (.if_icmp .ge 50, 3) := rfl
theorem at_66_16 : ab_at 66 16 = some (.aload_n 0, 1) := rfl
theorem at_66_17 : ab_at 66 17 = some (.getfield 56, 3) := rfl
theorem at_66_20 : ab_at 66 20 = some (.iload_n 2, 1) := rfl
theorem at_66_21 : ab_at 66 21 = some (.baload, 1) := rfl
theorem at_66_22 : ab_at 66 22 = some (.ifCond .ne 35, 3) := rfl
theorem at_66_25 : ab_at 66 25 = some (.aload_n 0, 1) := rfl
theorem at_66_26 : ab_at 66 26 = some (.getfield 41, 3) := rfl
theorem at_66_29 : ab_at 66 29 = some (.iload_n 2, 1) := rfl
theorem at_66_30 : ab_at 66 30 = some (.iaload, 1) := rfl
theorem at_66_31 : ab_at 66 31 = some (.bipush 8, 2) := rfl
theorem at_66_33 : ab_at 66 33 = some (.if_icmp .ne 6, 3) := rfl
theorem at_66_36 : ab_at 66 36 = some (.goto 21, 3) := rfl
theorem at_66_39 : ab_at 66 39 = some (.aload_n 0, 1) := rfl
theorem at_66_40 : ab_at 66 40 = some (.getfield 41, 3) := rfl
theorem at_66_43 : ab_at 66 43 = some (.iload_n 2, 1) := rfl
theorem at_66_44 : ab_at 66 44 = some (.bipush 8, 2) := rfl
theorem at_66_46 : ab_at 66 46 = some (.iastore, 1) := rfl
theorem at_66_47 : ab_at 66 47 = some (.aload_n 0, 1) := rfl
theorem at_66_48 : ab_at 66 48 = some (.getfield 47, 3) := rfl
theorem at_66_51 : ab_at 66 51 = some (.iload_n 2, 1) := rfl
theorem at_66_52 : ab_at 66 52 = some (.iconst 0, 1) := rfl
theorem at_66_53 : ab_at 66 53 = some (.iastore, 1) := rfl
theorem at_66_54 : ab_at 66 54 = some (.iinc 1 1, 3) := rfl
theorem at_66_57 : ab_at 66 57 = some (.iinc 2 1, 3) := rfl
theorem at_66_60 : ab_at 66 60 = some (.goto (-52), 3) := rfl
theorem at_66_63 : ab_at 66 63 = some (.iload_n 1, 1) := rfl
theorem at_66_64 : ab_at 66 64 = some (.ireturn, 1) := rfl
theorem at_67_0 : ab_at 67 0 = some (.iconst 0, 1) := rfl
theorem at_67_1 : ab_at 67 1 = some (.istore_n 1, 1) := rfl
theorem at_67_2 : ab_at 67 2 = some (.iload_n 1, 1) := rfl
theorem at_67_3 : ab_at 67 3 = some (.aload_n 0, 1) := rfl
theorem at_67_4 : ab_at 67 4 = some (.getfield 64, 3) := rfl
theorem at_67_7 : ab_at 67 7 = some (.if_icmp .ge 16, 3) := rfl
theorem at_67_10 : ab_at 67 10 = some (.aload_n 0, 1) := rfl
theorem at_67_11 : ab_at 67 11 = some (.getfield 56, 3) := rfl
theorem at_67_14 : ab_at 67 14 = some (.iload_n 1, 1) := rfl
theorem at_67_15 : ab_at 67 15 = some (.iconst 0, 1) := rfl
theorem at_67_16 : ab_at 67 16 = some (.bastore, 1) := rfl
theorem at_67_17 : ab_at 67 17 = some (.iinc 1 1, 3) := rfl
theorem at_67_20 : ab_at 67 20 = some (.goto (-18), 3) := rfl
theorem at_67_23 : ab_at 67 23 = some (.iconst 0, 1) := rfl
theorem at_67_24 : ab_at 67 24 = some (.istore_n 1, 1) := rfl
theorem at_67_25 : ab_at 67 25 = some (.iload_n 1, 1) := rfl
theorem at_67_26 : ab_at 67 26 = some (.aload_n 0, 1) := rfl
theorem at_67_27 : ab_at 67 27 = some (.getfield 60, 3) := rfl
theorem at_67_30 : ab_at 67 30 = some (.if_icmp .ge 30, 3) := rfl
theorem at_67_33 : ab_at 67 33 = some (.aload_n 0, 1) := rfl
theorem at_67_34 : ab_at 67 34 = some (.getfield 18, 3) := rfl
theorem at_67_37 : ab_at 67 37 = some (.iload_n 1, 1) := rfl
theorem at_67_38 : ab_at 67 38 = some (.iaload, 1) := rfl
theorem at_67_39 : ab_at 67 39 = some (.ifCond .eq 15, 3) := rfl
theorem at_67_42 : ab_at 67 42 = some (.aload_n 0, 1) := rfl
theorem at_67_43 : ab_at 67 43 = some (.getfield 56, 3) := rfl
theorem at_67_46 : ab_at 67 46 = some (.aload_n 0, 1) := rfl
theorem at_67_47 : ab_at 67 47 = some (.getfield 27, 3) := rfl
theorem at_67_50 : ab_at 67 50 = some (.iload_n 1, 1) := rfl
theorem at_67_51 : ab_at 67 51 = some (.iaload, 1) := rfl
theorem at_67_52 : ab_at 67 52 = some (.iconst 1, 1) := rfl
theorem at_67_53 : ab_at 67 53 = some (.bastore, 1) := rfl
theorem at_67_54 : ab_at 67 54 = some (.iinc 1 1, 3) := rfl
theorem at_67_57 : ab_at 67 57 = some (.goto (-32), 3) := rfl
theorem at_67_60 : ab_at 67 60 = some (.iconst 0, 1) := rfl
theorem at_67_61 : ab_at 67 61 = some (.istore_n 1, 1) := rfl
theorem at_67_62 : ab_at 67 62 = some (.iload_n 1, 1) := rfl
theorem at_67_63 : ab_at 67 63 = some (.aload_n 0, 1) := rfl
theorem at_67_64 : ab_at 67 64 = some (.getfield 64, 3) := rfl
theorem at_67_67 : ab_at 67 67 = some (.if_icmp .ge 39, 3) := rfl
theorem at_67_70 : ab_at 67 70 = some (.iconst 0, 1) := rfl
theorem at_67_71 : ab_at 67 71 = some (.istore_n 2, 1) := rfl
theorem at_67_72 : ab_at 67 72 = some (.iload_n 2, 1) := rfl
theorem at_67_73 : ab_at 67 73 = some (.aload_n 0, 1) := rfl
theorem at_67_74 : ab_at 67 74 = some (.getfield 64, 3) := rfl
theorem at_67_77 : ab_at 67 77 = some (.if_icmp .ge 23, 3) := rfl
theorem at_67_80 : ab_at 67 80 = some (.aload_n 0, 1) := rfl
theorem at_67_81 : ab_at 67 81 = some (.getfield 56, 3) := rfl
theorem at_67_84 : ab_at 67 84 = some (.iload_n 2, 1) := rfl
theorem at_67_85 : ab_at 67 85 = some (.baload, 1) := rfl
theorem at_67_86 : ab_at 67 86 = some (.ifCond .eq 8, 3) := rfl
theorem at_67_89 : ab_at 67 89 = some (.aload_n 0, 1) := rfl
theorem at_67_90 : ab_at 67 90 = some (.iload_n 2, 1) := rfl
theorem at_67_91 : ab_at 67 91 = some (.invokevirtual 115, 3) := rfl
theorem at_67_94 : ab_at 67 94 = some (.iinc 2 1, 3) := rfl
theorem at_67_97 : ab_at 67 97 = some (.goto (-25), 3) := rfl
theorem at_67_100 : ab_at 67 100 = some (.iinc 1 1, 3) := rfl
theorem at_67_103 : ab_at 67 103 = some (.goto (-41), 3) := rfl
theorem at_67_106 : ab_at 67 106 = some (.return_, 1) := rfl
theorem at_68_0 : ab_at 68 0 = some (.iconst 0, 1) := rfl
theorem at_68_1 : ab_at 68 1 = some (.istore_n 2, 1) := rfl
theorem at_68_2 : ab_at 68 2 = some (.iload_n 2, 1) := rfl
theorem at_68_3 : ab_at 68 3 = some (.aload_n 0, 1) := rfl
theorem at_68_4 : ab_at 68 4 = some (.getfield 47, 3) := rfl
theorem at_68_7 : ab_at 68 7 = some (.iload_n 1, 1) := rfl
theorem at_68_8 : ab_at 68 8 = some (.iaload, 1) := rfl
theorem at_68_9 : ab_at 68 9 = some (.if_icmp .ge 23, 3) := rfl
theorem at_68_12 : ab_at 68 12 = some (.aload_n 0, 1) := rfl
theorem at_68_13 : ab_at 68 13 = some (.getfield 56, 3) := rfl
theorem at_68_16 : ab_at 68 16 = some (.aload_n 0, 1) := rfl
theorem at_68_17 : ab_at 68 17 = some (.getfield 53, 3) := rfl
theorem at_68_20 : ab_at 68 20 = some (.iload_n 1, 1) := rfl
theorem at_68_21 : ab_at 68 21 = some (.aaload, 1) := rfl
theorem at_68_22 : ab_at 68 22 = some (.iload_n 2, 1) := rfl
theorem at_68_23 : ab_at 68 23 = some (.iaload, 1) := rfl
theorem at_68_24 : ab_at 68 24 = some (.iconst 1, 1) := rfl
theorem at_68_25 : ab_at 68 25 = some (.bastore, 1) := rfl
theorem at_68_26 : ab_at 68 26 = some (.iinc 2 1, 3) := rfl
theorem at_68_29 : ab_at 68 29 = some (.goto (-27), 3) := rfl
theorem at_68_32 : ab_at 68 32 = some (.return_, 1) := rfl
