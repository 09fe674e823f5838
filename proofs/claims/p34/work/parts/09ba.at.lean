theorem at_1_0 : ab_at 1 0 = some (.iconst 0, 1) := rfl
theorem at_1_1 : ab_at 1 1 = some (.istore_n 3, 1) := rfl
theorem at_1_2 : ab_at 1 2 = some (.iload_n 3, 1) := rfl
theorem at_1_3 : ab_at 1 3 = some (.aload_n 1, 1) := rfl
theorem at_1_4 : ab_at 1 4 = some (.getfield 18, 3) := rfl
theorem at_1_7 : ab_at 1 7 = some (.if_icmp .ge 21, 3) := rfl
theorem at_1_10 : ab_at 1 10 = some (.aload_n 0, 1) := rfl
theorem at_1_11 : ab_at 1 11 = some (.getfield 9, 3) := rfl
theorem at_1_14 : ab_at 1 14 = some (.iload_n 3, 1) := rfl
theorem at_1_15 : ab_at 1 15 = some (.aload_n 0, 1) := rfl
theorem at_1_16 : ab_at 1 16 = some (.aload_n 1, 1) := rfl
theorem at_1_17 : ab_at 1 17 = some (.iload_n 3, 1) := rfl
theorem at_1_18 : ab_at 1 18 = some (.invokevirtual 24, 3) := rfl
theorem at_1_21 : ab_at 1 21 = some (.iastore, 1) := rfl
theorem at_1_22 : ab_at 1 22 = some (.iinc 3 1, 3) := rfl
theorem at_1_25 : ab_at 1 25 = some (.goto (-23), 3) := rfl
theorem at_1_28 : ab_at 1 28 = some (.aload_n 0, 1) := rfl
theorem at_1_29 : ab_at 1 29 = some (.iconst 0, 1) := rfl
theorem at_1_30 : ab_at 1 30 = some (.putfield 28, 3) := rfl
theorem at_1_33 : ab_at 1 33 = some (.iconst 0, 1) := rfl
theorem at_1_34 : ab_at 1 34 = some (.istore_n 3, 1) := rfl
theorem at_1_35 : ab_at 1 35 = some (.iload_n 3, 1) := rfl
theorem at_1_36 : ab_at 1 36 = some (.iload_n 2, 1) := rfl
theorem at_1_37 : ab_at 1 37 = some (.if_icmp .ge 27, 3) := rfl
theorem at_1_40 : ab_at 1 40 = some (.aload_n 0, 1) := rfl
theorem at_1_41 : ab_at 1 41 = some (.aload_n 1, 1) := rfl
theorem at_1_42 : ab_at 1 42 = some (.invokevirtual 31, 3) := rfl
theorem at_1_45 : ab_at 1 45 = some (.ifCond .eq 19, 3) := rfl
theorem at_1_48 : ab_at 1 48 = some (.aload_n 0, 1) := rfl
theorem at_1_49 : ab_at 1 49 = some (.dup, 1) := rfl
theorem at_1_50 : ab_at 1 50 = some (.getfield 28, 3) := rfl
theorem at_1_53 : ab_at 1 53 = some (.iconst 1, 1) := rfl
theorem at_1_54 : ab_at 1 54 = some (.iadd, 1) := rfl
theorem at_1_55 : ab_at 1 55 = some (.putfield 28, 3) := rfl
theorem at_1_58 : ab_at 1 58 = some (.iinc 3 1, 3) := rfl
theorem at_1_61 : ab_at 1 61 = some (.goto (-26), 3) := rfl
theorem at_1_64 : ab_at 1 64 = some (.return_, 1) := rfl
theorem at_2_0 : ab_at 2 0 = some (.iconst 0, 1) := rfl
theorem at_2_1 : ab_at 2 1 = some (.istore_n 3, 1) := rfl
theorem at_2_2 : ab_at 2 2 = some (.iload_n 3, 1) := rfl
theorem at_2_3 : ab_at 2 3 = some (.iload_n 2, 1) := rfl
theorem at_2_4 : ab_at 2 4 = some (.if_icmp .ge 21, 3) := rfl
theorem at_2_7 : ab_at 2 7 = some (.aload_n 0, 1) := rfl
theorem at_2_8 : ab_at 2 8 = some (.aload_n 1, 1) := rfl
theorem at_2_9 : ab_at 2 9 = some (.iload_n 3, 1) := rfl
theorem at_2_10 : ab_at 2 10 = some (.iload_n 2, 1) := rfl
theorem at_2_11 : ab_at 2 11 = some (.invokevirtual 35, 3) := rfl
theorem at_2_14 : ab_at 2 14 = some (.ifCond .eq 5, 3) := rfl
theorem at_2_17 : ab_at 2 17 = some (.iload_n 3, 1) := rfl
theorem at_2_18 : ab_at 2 18 = some (.ireturn, 1) := rfl
theorem at_2_19 : ab_at 2 19 = some (.iinc 3 1, 3) := rfl
theorem at_2_22 : ab_at 2 22 = some (.goto (-20), 3) := rfl
theorem at_2_25 : ab_at 2 25 = some (.iload_n 2, 1) := rfl
theorem at_2_26 : ab_at 2 26 = some (.ireturn, 1) := rfl
theorem at_3_0 : ab_at 3 0 = some (.aload_n 1, 1) := rfl
theorem at_3_1 : ab_at 3 1 = some (.getfield 39, 3) := rfl
theorem at_3_4 : ab_at 3 4 = some (.iload_n 2, 1) := rfl
theorem at_3_5 : ab_at 3 5 = some (.iaload, 1) := rfl
theorem at_3_6 : ab_at 3 6 = some (.aload_n 1, 1) := rfl
theorem at_3_7 : ab_at 3 7 = some (.getfield 39, 3) := rfl
theorem at_3_10 : ab_at 3 10 = some (.iload_n 3, 1) := rfl
theorem at_3_11 : ab_at 3 11 = some (.iaload, 1) := rfl
theorem at_3_12 : ab_at 3 12 = some (.if_icmp .ne 14, 3) := rfl
theorem at_3_15 : ab_at 3 15 = some (.aload_n 1, 1) := rfl
theorem at_3_16 : ab_at 3 16 = some (.getfield 39, 3) := rfl
theorem at_3_19 : ab_at 3 19 = some (.iload_n 3, 1) := rfl
theorem at_3_20 : ab_at 3 20 = some (.iaload, 1) := rfl
theorem at_3_21 : ab_at 3 21 = some (.bipush 8, 2) := rfl
theorem at_3_23 : ab_at 3 23 = some (.if_icmp .ne 5, 3) := rfl
theorem at_3_26 : ab_at 3 26 = some (.iconst 0, 1) := rfl
theorem at_3_27 : ab_at 3 27 = some (.ireturn, 1) := rfl
theorem at_3_28 : ab_at 3 28 = some (.aload_n 1, 1) := rfl
theorem at_3_29 : ab_at 3 29 = some (.getfield 39, 3) := rfl
theorem at_3_32 : ab_at 3 32 = some (.iload_n 3, 1) := rfl
theorem at_3_33 : ab_at 3 33 = some (.iaload, 1) := rfl
theorem at_3_34 : ab_at 3 34 = some (.bipush 7, 2) := rfl
theorem at_3_36 : ab_at 3 36 = some (.if_icmp .ne 24, 3) := rfl
theorem at_3_39 : ab_at 3 39 = some (.aload_n 1, 1) := rfl
theorem at_3_40 : ab_at 3 40 = some (.getfield 42, 3) := rfl
theorem at_3_43 : ab_at 3 43 = some (.iload_n 2, 1) := rfl
theorem at_3_44 : ab_at 3 44 = some (.iaload, 1) := rfl
theorem at_3_45 : ab_at 3 45 = some (.aload_n 1, 1) := rfl
theorem at_3_46 : ab_at 3 46 = some (.getfield 42, 3) := rfl
theorem at_3_49 : ab_at 3 49 = some (.iload_n 3, 1) := rfl
theorem at_3_50 : ab_at 3 50 = some (.iaload, 1) := rfl
theorem at_3_51 : ab_at 3 51 = some (.if_icmp .ne 7, 3) := rfl
theorem at_3_54 : ab_at 3 54 = some (.iconst 1, 1) := rfl
theorem at_3_55 : ab_at 3 55 = some (.goto 4, 3) := rfl
theorem at_3_58 : ab_at 3 58 = some (.iconst 0, 1) := rfl
theorem at_3_59 : ab_at 3 59 = some (.ireturn, 1) := rfl
theorem at_3_60 : ab_at 3 60 = some (.aload_n 1, 1) := rfl
theorem at_3_61 : ab_at 3 61 = some (.iload_n 3, 1) := rfl
theorem at_3_62 : ab_at 3 62 = some (.invokevirtual 45, 3) := rfl
theorem at_3_65 : ab_at 3 65 = some (.ifCond .eq 18, 3) := rfl
theorem at_3_68 : ab_at 3 68 = some (.aload_n 1, 1) := rfl
theorem at_3_69 : ab_at 3 69 = some (.getfield 49, 3) := rfl
theorem at_3_72 : ab_at 3 72 = some (.iload_n 2, 1) := rfl
theorem at_3_73 : ab_at 3 73 = some (.iaload, 1) := rfl
theorem at_3_74 : ab_at 3 74 = some (.aload_n 1, 1) := rfl
theorem at_3_75 : ab_at 3 75 = some (.getfield 49, 3) := rfl
theorem at_3_78 : ab_at 3 78 = some (.iload_n 3, 1) := rfl
theorem at_3_79 : ab_at 3 79 = some (.iaload, 1) := rfl
theorem at_3_80 : ab_at 3 80 = some (.if_icmp .ne 7, 3) := rfl
theorem at_3_83 : ab_at 3 83 = some (.iconst 1, 1) := rfl
theorem at_3_84 : ab_at 3 84 = some (.goto 4, 3) := rfl
theorem at_3_87 : ab_at 3 87 = some (.iconst 0, 1) := rfl
theorem at_3_88 : ab_at 3 88 = some (.ireturn, 1) := rfl
theorem at_4_0 : ab_at 4 0 = some (.iconst 0, 1) := rfl
theorem at_4_1 : ab_at 4 1 = some (.istore_n 2, 1) := rfl
theorem at_4_2 : ab_at 4 2 = some (.iconst 0, 1) := rfl
theorem at_4_3 : ab_at 4 3 = some (.istore_n 3, 1) := rfl
theorem at_4_4 : ab_at 4 4 = some (.iload_n 3, 1) := rfl
theorem at_4_5 : ab_at 4 5 = some (.aload_n 1, 1) := rfl
theorem at_4_6 : ab_at 4 6 = some (.getfield 18, 3) := rfl
theorem at_4_9 : ab_at 4 9 = some (.if_icmp .ge 93, 3) := rfl
theorem at_4_12 : ab_at 4 12 = some (.aload_n 0, 1) := rfl
theorem at_4_13 : ab_at 4 13 = some (.getfield 15, 3) := rfl
theorem at_4_16 : ab_at 4 16 = some (.iload_n 3, 1) := rfl
theorem at_4_17 : ab_at 4 17 = some (.iload_n 3, 1) := rfl
theorem at_4_18 : ab_at 4 18 = some (.iastore, 1) := rfl
theorem at_4_19 : ab_at 4 19 = some (.iconst 0, 1) := rfl
theorem at_4_20 : ab_at 4 20 = some (.istore 4, 2) := rfl
theorem at_4_22 : ab_at 4 22 = some (.iload 4, 2) := rfl
theorem at_4_24 : ab_at 4 24 = some (.iload_n 3, 1) := rfl
theorem at_4_25 : ab_at 4 25 = some (.if_icmp .ge 54, 3) := rfl
theorem at_4_28 : ab_at 4 28 = some (.aload_n 0, 1) := rfl
theorem at_4_29 : ab_at 4 29 = some (.getfield 15, 3) := rfl
theorem at_4_32 : ab_at 4 32 = some (.iload_n 3, 1) := rfl
theorem at_4_33 : ab_at 4 33 = some (.iaload, 1) := rfl
theorem at_4_34 : ab_at 4 34 = some (.iload_n 3, 1) := rfl
theorem at_4_35 : ab_at 4 35 = some (.if_icmp .ne 44, 3) := rfl
theorem at_4_38 : ab_at 4 38 = some (.aload_n 0, 1) := rfl
theorem at_4_39 : ab_at 4 39 = some (.getfield 9, 3) := rfl
theorem at_4_42 : ab_at 4 42 = some (.iload 4, 2) := rfl
theorem at_4_44 : ab_at 4 44 = some (.iaload, 1) := rfl
theorem at_4_45 : ab_at 4 45 = some (.aload_n 0, 1) := rfl
theorem at_4_46 : ab_at 4 46 = some (.getfield 9, 3) := rfl
theorem at_4_49 : ab_at 4 49 = some (.iload_n 3, 1) := rfl
theorem at_4_50 : ab_at 4 50 = some (.iaload, 1) := rfl
theorem at_4_51 : ab_at 4 51 = some (.if_icmp .ne 22, 3) := rfl
theorem at_4_54 : ab_at 4 54 = some (.aload_n 0, 1) := rfl
theorem at_4_55 : ab_at 4 55 = some (.aload_n 1, 1) := rfl
theorem at_4_56 : ab_at 4 56 = some (.iload 4, 2) := rfl
theorem at_4_58 : ab_at 4 58 = some (.iload_n 3, 1) := rfl
theorem at_4_59 : ab_at 4 59 = some (.invokevirtual 52, 3) := rfl
theorem at_4_62 : ab_at 4 62 = some (.ifCond .eq 11, 3) := rfl
theorem at_4_65 : ab_at 4 65 = some (.aload_n 0, 1) := rfl
theorem at_4_66 : ab_at 4 66 = some (.getfield 15, 3) := rfl
theorem at_4_69 : ab_at 4 69 = some (.iload_n 3, 1) := rfl
theorem at_4_70 : ab_at 4 70 = some (.iload 4, 2) := rfl
theorem at_4_72 : ab_at 4 72 = some (.iastore, 1) := rfl
theorem at_4_73 : ab_at 4 73 = some (.iinc 4 1, 3) := rfl
theorem at_4_76 : ab_at 4 76 = some (.goto (-54), 3) := rfl
theorem at_4_79 : ab_at 4 79 = some (.aload_n 0, 1) := rfl
theorem at_4_80 : ab_at 4 80 = some (.getfield 15, 3) := rfl
theorem at_4_83 : ab_at 4 83 = some (.iload_n 3, 1) := rfl
theorem at_4_84 : ab_at 4 84 = some (.iaload, 1) := rfl
theorem at_4_85 : ab_at 4 85 = some (.aload_n 0, 1) := rfl
theorem at_4_86 : ab_at 4 86 = some (.getfield 9, 3) := rfl
theorem at_4_89 : ab_at 4 89 = some (.iload_n 3, 1) := rfl
theorem at_4_90 : ab_at 4 90 = some (.iaload, 1) := rfl
theorem at_4_91 : ab_at 4 91 = some (.if_icmp .eq 5, 3) := rfl
theorem at_4_94 : ab_at 4 94 = some (.iconst 1, 1) := rfl
theorem at_4_95 : ab_at 4 95 = some (.istore_n 2, 1) := rfl
theorem at_4_96 : ab_at 4 96 = some (.iinc 3 1, 3) := rfl
theorem at_4_99 : ab_at 4 99 = some (.goto (-95), 3) := rfl
theorem at_4_102 : ab_at 4 102 = some (.aload_n 0, 1) := rfl
theorem at_4_103 : ab_at 4 103 = some (.getfield 15, 3) := rfl
theorem at_4_106 : ab_at 4 106 = some (.iconst 0, 1) := rfl
theorem at_4_107 : ab_at 4 107 = some (.aload_n 0, 1) := rfl
theorem at_4_108 : ab_at 4 108 = some (.getfield 9, 3) := rfl
theorem at_4_111 : ab_at 4 111 = some (.iconst 0, 1) := rfl
theorem at_4_112 : ab_at 4 112 = some (.bipush 20, 2) := rfl
theorem at_4_114 : ab_at 4 114 = some (.invokestatic 55, 3) := rfl
theorem at_4_117 : ab_at 4 117 = some (.iload_n 2, 1) := rfl
theorem at_4_118 : ab_at 4 118 = some (.ireturn, 1) := rfl
theorem at_5_0 : ab_at 5 0 = some (.aload_n 1, 1) := rfl
theorem at_5_1 : ab_at 5 1 = some (.getfield 61, 3) := rfl
theorem at_5_4 : ab_at 5 4 = some (.iload_n 2, 1) := rfl
theorem at_5_5 : ab_at 5 5 = some (.iaload, 1) := rfl
theorem at_5_6 : ab_at 5 6 = some (.aload_n 1, 1) := rfl
theorem at_5_7 : ab_at 5 7 = some (.getfield 61, 3) := rfl
theorem at_5_10 : ab_at 5 10 = some (.iload_n 3, 1) := rfl
theorem at_5_11 : ab_at 5 11 = some (.iaload, 1) := rfl
theorem at_5_12 : ab_at 5 12 = some (.if_icmp .ne 7, 3) := rfl
theorem at_5_15 : ab_at 5 15 = some (.iconst 1, 1) := rfl
theorem at_5_16 : ab_at 5 16 = some (.goto 4, 3) := rfl
theorem at_5_19 : ab_at 5 19 = some (.iconst 0, 1) := rfl
theorem at_5_20 : ab_at 5 20 = some (.istore 4, 2) := rfl
theorem at_5_22 : ab_at 5 22 = some (.iconst 0, 1) := rfl
theorem at_5_23 : ab_at 5 23 = some (.istore 5, 2) := rfl
theorem at_5_25 : ab_at 5 25 = some (.iload 5, 2) := rfl
theorem at_5_27 : ab_at 5 27 = some (.aload_n 1, 1) := rfl
theorem at_5_28 : ab_at 5 28 = some (.getfield 61, 3) := rfl
theorem at_5_31 : ab_at 5 31 = some (.iload_n 3, 1) := rfl
theorem at_5_32 : ab_at 5 32 = some (.iaload, 1) := rfl
theorem at_5_33 : ab_at 5 33 = some (.if_icmp .ge 27, 3) := rfl
theorem at_5_36 : ab_at 5 36 = some (.iload 4, 2) := rfl
theorem at_5_38 : ab_at 5 38 = some (.ifCond .eq 22, 3) := rfl
theorem at_5_41 : ab_at 5 41 = some (.aload_n 0, 1) := rfl
theorem at_5_42 : ab_at 5 42 = some (.aload_n 1, 1) := rfl
theorem at_5_43 : ab_at 5 43 = some (.iload_n 2, 1) := rfl
theorem at_5_44 : ab_at 5 44 = some (.iload 5, 2) := rfl
theorem at_5_46 : ab_at 5 46 = some (.iload_n 3, 1) := rfl
theorem at_5_47 : ab_at 5 47 = some (.iload 5, 2) := rfl
theorem at_5_49 : ab_at 5 49 = some (.invokevirtual 64, 3) := rfl
theorem at_5_52 : ab_at 5 52 = some (.istore 4, 2) := rfl
theorem at_5_54 : ab_at 5 54 = some (.iinc 5 1, 3) := rfl
theorem at_5_57 : ab_at 5 57 = some (.goto (-32), 3) := rfl
theorem at_5_60 : ab_at 5 60 = some (.iload 4, 2) := rfl
theorem at_5_62 : ab_at 5 62 = some (.ifCond .eq 5, 3) := rfl
theorem at_5_65 : ab_at 5 65 = some (.iconst 1, 1) := rfl
theorem at_5_66 : ab_at 5 66 = some (.ireturn, 1) := rfl
theorem at_5_67 : ab_at 5 67 = some (.aload_n 1, 1) := rfl
theorem at_5_68 : ab_at 5 68 = some (.getfield 39, 3) := rfl
theorem at_5_71 : ab_at 5 71 = some (.iload_n 3, 1) := rfl
theorem at_5_72 : ab_at 5 72 = some (.iaload, 1) := rfl
theorem at_5_73 : ab_at 5 73 = some (.iconst 2, 1) := rfl
theorem at_5_74 : ab_at 5 74 = some (.if_icmp .eq 13, 3) := rfl
theorem at_5_77 : ab_at 5 77 = some (.aload_n 1, 1) := rfl
theorem at_5_78 : ab_at 5 78 = some (.getfield 39, 3) := rfl
theorem at_5_81 : ab_at 5 81 = some (.iload_n 3, 1) := rfl
theorem at_5_82 : ab_at 5 82 = some (.iaload, 1) := rfl
theorem at_5_83 : ab_at 5 83 = some (.iconst 3, 1) := rfl
theorem at_5_84 : ab_at 5 84 = some (.if_icmp .ne 7, 3) := rfl
theorem at_5_87 : ab_at 5 87 = some (.iconst 1, 1) := rfl
theorem at_5_88 : ab_at 5 88 = some (.goto 4, 3) := rfl
theorem at_5_91 : ab_at 5 91 = some (.iconst 0, 1) := rfl
theorem at_5_92 : ab_at 5 92 = some (.istore 5, 2) := rfl
theorem at_5_94 : ab_at 5 94 = some (.iload 5, 2) := rfl
theorem at_5_96 : ab_at 5 96 = some (.ifCond .eq 31, 3) := rfl
theorem at_5_99 : ab_at 5 99 = some (.aload_n 0, 1) := rfl
theorem at_5_100 : ab_at 5 100 = some (.aload_n 1, 1) := rfl
theorem at_5_101 : ab_at 5 101 = some (.iload_n 2, 1) := rfl
theorem at_5_102 : ab_at 5 102 = some (.iconst 0, 1) := rfl
theorem at_5_103 : ab_at 5 103 = some (.iload_n 3, 1) := rfl
theorem at_5_104 : ab_at 5 104 = some (.iconst 1, 1) := rfl
theorem at_5_105 : ab_at 5 105 = some (.invokevirtual 64, 3) := rfl
theorem at_5_108 : ab_at 5 108 = some (.ifCond .eq 19, 3) := rfl
theorem at_5_111 : ab_at 5 111 = some (.aload_n 0, 1) := rfl
theorem at_5_112 : ab_at 5 112 = some (.aload_n 1, 1) := rfl
theorem at_5_113 : ab_at 5 113 = some (.iload_n 2, 1) := rfl
theorem at_5_114 : ab_at 5 114 = some (.iconst 1, 1) := rfl
theorem at_5_115 : ab_at 5 115 = some (.iload_n 3, 1) := rfl
theorem at_5_116 : ab_at 5 116 = some (.iconst 0, 1) := rfl
theorem at_5_117 : ab_at 5 117 = some (.invokevirtual 64, 3) := rfl
theorem at_5_120 : ab_at 5 120 = some (.ifCond .eq 7, 3) := rfl
theorem at_5_123 : ab_at 5 123 = some (.iconst 1, 1) := rfl
theorem at_5_124 : ab_at 5 124 = some (.goto 4, 3) := rfl
theorem at_5_127 : ab_at 5 127 = some (.iconst 0, 1) := rfl
theorem at_5_128 : ab_at 5 128 = some (.ireturn, 1) := rfl
theorem at_6_0 : ab_at 6 0 = some (.aload_n 0, 1) := rfl
theorem at_6_1 : ab_at 6 1 = some (.getfield 9, 3) := rfl
theorem at_6_4 : ab_at 6 4 = some (.aload_n 1, 1) := rfl
theorem at_6_5 : ab_at 6 5 = some (.getfield 68, 3) := rfl
theorem at_6_8 : ab_at 6 8 = some (.iload_n 2, 1) := rfl
theorem at_6_9 : ab_at 6 9 = some (.aaload, 1) := rfl
theorem at_6_10 : ab_at 6 10 = some (.iload_n 3, 1) := rfl
theorem at_6_11 : ab_at 6 11 = some (.iaload, 1) := rfl
theorem at_6_12 : ab_at 6 12 = some (.iaload, 1) := rfl
theorem at_6_13 : ab_at 6 13 = some (.aload_n 0, 1) := rfl
theorem at_6_14 : ab_at 6 14 = some (.getfield 9, 3) := rfl
theorem at_6_17 : ab_at 6 17 = some (.aload_n 1, 1) := rfl
theorem at_6_18 : ab_at 6 18 = some (.getfield 68, 3) := rfl
theorem at_6_21 : ab_at 6 21 = some (.iload 4, 2) := rfl
theorem at_6_23 : ab_at 6 23 = some (.aaload, 1) := rfl
theorem at_6_24 : ab_at 6 24 = some (.iload 5, 2) := rfl
theorem at_6_26 : ab_at 6 26 = some (.iaload, 1) := rfl
theorem at_6_27 : ab_at 6 27 = some (.iaload, 1) := rfl
theorem at_6_28 : ab_at 6 28 = some (.if_icmp .ne 7, 3) := rfl
theorem at_6_31 : ab_at 6 31 = some (.iconst 1, 1) := rfl
theorem at_6_32 : ab_at 6 32 = some (.goto 4, 3) := rfl
theorem at_6_35 : ab_at 6 35 = some (.iconst 0, 1) := rfl
theorem at_6_36 : ab_at 6 36 = some (.ireturn, 1) := rfl
theorem at_7_0 : ab_at 7 0 = some (.iconst 0, 1) := rfl
theorem at_7_1 : ab_at 7 1 = some (.istore_n 2, 1) := rfl
theorem at_7_2 : ab_at 7 2 = some (.iconst 0, 1) := rfl
theorem at_7_3 : ab_at 7 3 = some (.istore_n 3, 1) := rfl
theorem at_7_4 : ab_at 7 4 = some (.iload_n 3, 1) := rfl
theorem at_7_5 : ab_at 7 5 = some (.aload_n 1, 1) := rfl
theorem at_7_6 : ab_at 7 6 = some (.getfield 18, 3) := rfl
theorem at_7_9 : ab_at 7 9 = some (.if_icmp .ge 33, 3) := rfl
theorem at_7_12 : ab_at 7 12 = some (.aload_n 0, 1) := rfl
theorem at_7_13 : ab_at 7 13 = some (.getfield 9, 3) := rfl
theorem at_7_16 : ab_at 7 16 = some (.iload_n 3, 1) := rfl
theorem at_7_17 : ab_at 7 17 = some (.iaload, 1) := rfl
theorem at_7_18 : ab_at 7 18 = some (.iload_n 3, 1) := rfl
theorem at_7_19 : ab_at 7 19 = some (.if_icmp .ne 17, 3) := rfl
theorem at_7_22 : ab_at 7 22 = some (.aload_n 1, 1) := rfl
theorem at_7_23 : ab_at 7 23 = some (.getfield 39, 3) := rfl
theorem at_7_26 : ab_at 7 26 = some (.iload_n 3, 1) := rfl
theorem at_7_27 : ab_at 7 27 = some (.iaload, 1) := rfl
theorem at_7_28 : ab_at 7 28 = some (.bipush 8, 2) := rfl
theorem at_7_30 : ab_at 7 30 = some (.if_icmp .eq 6, 3) := rfl
theorem at_7_33 : ab_at 7 33 = some (.iinc 2 1, 3) := rfl
theorem at_7_36 : ab_at 7 36 = some (.iinc 3 1, 3) := rfl
theorem at_7_39 : ab_at 7 39 = some (.goto (-35), 3) := rfl
theorem at_7_42 : ab_at 7 42 = some (.iload_n 2, 1) := rfl
theorem at_7_43 : ab_at 7 43 = some (.ireturn, 1) := rfl
theorem at_8_0 : ab_at 8 0 = some (.iconst 0, 1) := rfl
theorem at_8_1 : ab_at 8 1 = some (.istore_n 2, 1) := rfl
theorem at_8_2 : ab_at 8 2 = some (.iconst 0, 1) := rfl
theorem at_8_3 : ab_at 8 3 = some (.istore_n 3, 1) := rfl
theorem at_8_4 : ab_at 8 4 = some (.iload_n 3, 1) := rfl
theorem at_8_5 : ab_at 8 5 = some (.aload_n 1, 1) := rfl
theorem at_8_6 : ab_at 8 6 = some (.getfield 18, 3) := rfl
theorem at_8_9 : ab_at 8 9 = some (.if_icmp .ge 31, 3) := rfl
theorem at_8_12 : ab_at 8 12 = some (.aload_n 1, 1) := rfl
theorem at_8_13 : ab_at 8 13 = some (.getfield 39, 3) := rfl
theorem at_8_16 : ab_at 8 16 = some (.iload_n 3, 1) := rfl
theorem at_8_17 : ab_at 8 17 = some (.iaload, 1) := rfl
theorem at_8_18 : ab_at 8 18 = some (.bipush 8, 2) := rfl
theorem at_8_20 : ab_at 8 20 = some (.if_icmp .eq 14, 3) := rfl
theorem at_8_23 : ab_at 8 23 = some (.iload_n 2, 1) := rfl
theorem at_8_24 : ab_at 8 24 = some (.aload_n 0, 1) := rfl
theorem at_8_25 : ab_at 8 25 = some (.aload_n 1, 1) := rfl
theorem at_8_26 : ab_at 8 26 = some (.iload_n 3, 1) := rfl
theorem at_8_27 : ab_at 8 27 = some (.invokevirtual 72, 3) := rfl
theorem at_8_30 : ab_at 8 30 = some (.invokestatic 75, 3) := rfl
theorem at_8_33 : ab_at 8 33 = some (.istore_n 2, 1) := rfl
theorem at_8_34 : ab_at 8 34 = some (.iinc 3 1, 3) := rfl
theorem at_8_37 : ab_at 8 37 = some (.goto (-33), 3) := rfl
theorem at_8_40 : ab_at 8 40 = some (.iload_n 2, 1) := rfl
theorem at_8_41 : ab_at 8 41 = some (.ireturn, 1) := rfl
theorem at_9_0 : ab_at 9 0 = some (.iconst 0, 1) := rfl
theorem at_9_1 : ab_at 9 1 = some (.istore_n 3, 1) := rfl
theorem at_9_2 : ab_at 9 2 = some (.iconst 0, 1) := rfl
theorem at_9_3 : ab_at 9 3 = some (.istore 4, 2) := rfl
theorem at_9_5 : ab_at 9 5 = some (.iload 4, 2) := rfl
theorem at_9_7 : ab_at 9 7 = some (.aload_n 1, 1) := rfl
theorem at_9_8 : ab_at 9 8 = some (.getfield 18, 3) := rfl
theorem at_9_11 : ab_at 9 11 = some (.if_icmp .ge 23, 3) := rfl
theorem at_9_14 : ab_at 9 14 = some (.aload_n 0, 1) := rfl
theorem at_9_15 : ab_at 9 15 = some (.getfield 9, 3) := rfl
theorem at_9_18 : ab_at 9 18 = some (.iload 4, 2) := rfl
theorem at_9_20 : ab_at 9 20 = some (.iaload, 1) := rfl
theorem at_9_21 : ab_at 9 21 = some (.iload_n 2, 1) := rfl
theorem at_9_22 : ab_at 9 22 = some (.if_icmp .ne 6, 3) := rfl
theorem at_9_25 : ab_at 9 25 = some (.iinc 3 1, 3) := rfl
theorem at_9_28 : ab_at 9 28 = some (.iinc 4 1, 3) := rfl
theorem at_9_31 : ab_at 9 31 = some (.goto (-26), 3) := rfl
theorem at_9_34 : ab_at 9 34 = some (.iload_n 3, 1) := rfl
theorem at_9_35 : ab_at 9 35 = some (.ireturn, 1) := rfl
theorem at_10_0 : ab_at 10 0 = some (.iload_n 2, 1) := rfl
theorem at_10_1 : ab_at 10 1 = some (.istore_n 3, 1) := rfl
theorem at_10_2 : ab_at 10 2 = some (.iconst 0, 1) := rfl
theorem at_10_3 : ab_at 10 3 = some (.istore 4, 2) := rfl
theorem at_10_5 : ab_at 10 5 = some (.iload 4, 2) := rfl
theorem at_10_7 : ab_at 10 7 = some (.aload_n 1, 1) := rfl
theorem at_10_8 : ab_at 10 8 = some (.getfield 18, 3) := rfl
theorem at_10_11 : ab_at 10 11 = some (.if_icmp .ge 48, 3) := rfl
theorem at_10_14 : ab_at 10 14 = some (.aload_n 0, 1) := rfl
theorem at_10_15 : ab_at 10 15 = some (.getfield 9, 3) := rfl
theorem at_10_18 : ab_at 10 18 = some (.iload 4, 2) := rfl
theorem at_10_20 : ab_at 10 20 = some (.iaload, 1) := rfl
theorem at_10_21 : ab_at 10 21 = some (.aload_n 0, 1) := rfl
theorem at_10_22 : ab_at 10 22 = some (.getfield 9, 3) := rfl
theorem at_10_25 : ab_at 10 25 = some (.iload_n 2, 1) := rfl
theorem at_10_26 : ab_at 10 26 = some (.iaload, 1) := rfl
theorem at_10_27 : ab_at 10 27 = some (.if_icmp .ne 26, 3) := rfl
theorem at_10_30 : ab_at 10 30 = some (.aload_n 1, 1) := rfl
theorem at_10_31 : ab_at 10 31 = some (.iload 4, 2) := rfl
theorem at_10_33 : ab_at 10 33 = some (.iload_n 2, 1) := rfl
theorem at_10_34 : ab_at 10 34 = some (.invokevirtual 81, 3) := rfl
theorem at_10_37 : ab_at 10 37 = some (.ifCond .eq 16, 3) := rfl
theorem at_10_40 : ab_at 10 40 = some (.aload_n 1, 1) := rfl
theorem at_10_41 : ab_at 10 41 = some (.iload 4, 2) := rfl
theorem at_10_43 : ab_at 10 43 = some (.iload_n 3, 1) := rfl
theorem at_10_44 : ab_at 10 44 = some (.invokevirtual 81, 3) := rfl
theorem at_10_47 : ab_at 10 47 = some (.ifCond .eq 6, 3) := rfl
theorem at_10_50 : ab_at 10 50 = some (.iload 4, 2) := rfl
theorem at_10_52 : ab_at 10 52 = some (.istore_n 3, 1) := rfl
theorem at_10_53 : ab_at 10 53 = some (.iinc 4 1, 3) := rfl
theorem at_10_56 : ab_at 10 56 = some (.goto (-51), 3) := rfl
theorem at_10_59 : ab_at 10 59 = some (.iload_n 3, 1) := rfl
theorem at_10_60 : ab_at 10 60 = some (.ireturn, 1) := rfl
theorem at_12_0 : ab_at 12 0 = some (.iconst 0, 1) := rfl
theorem at_12_1 : ab_at 12 1 = some (.istore_n 2, 1) := rfl
theorem at_12_2 : ab_at 12 2 = some (.iload_n 2, 1) := rfl
theorem at_12_3 : ab_at 12 3 = some (.aload_n 1, 1) := rfl
theorem at_12_4 : ab_at 12 4 = some (.getfield 15, 3) := rfl
theorem at_12_7 : ab_at 12 7 = some (.if_icmp .ge 21, 3) := rfl
theorem at_12_10 : ab_at 12 10 = some (.aload_n 0, 1) := rfl
theorem at_12_11 : ab_at 12 11 = some (.getfield 9, 3) := rfl
theorem at_12_14 : ab_at 12 14 = some (.iload_n 2, 1) := rfl
theorem at_12_15 : ab_at 12 15 = some (.ldc2_w 21, 3) := rfl
theorem at_12_18 : ab_at 12 18 = some (.iload_n 2, 1) := rfl
theorem at_12_19 : ab_at 12 19 = some (.i2l, 1) := rfl
theorem at_12_20 : ab_at 12 20 = some (.ladd, 1) := rfl
theorem at_12_21 : ab_at 12 21 = some (.lastore, 1) := rfl
theorem at_12_22 : ab_at 12 22 = some (.iinc 2 1, 3) := rfl
theorem at_12_25 : ab_at 12 25 = some (.goto (-23), 3) := rfl
theorem at_12_28 : ab_at 12 28 = some (.iconst 0, 1) := rfl
theorem at_12_29 : ab_at 12 29 = some (.istore_n 2, 1) := rfl
theorem at_12_30 : ab_at 12 30 = some (.iload_n 2, 1) := rfl
theorem at_12_31 : ab_at 12 31 = some (.aload_n 1, 1) := rfl
theorem at_12_32 : ab_at 12 32 = some (.getfield 15, 3) := rfl
theorem at_12_35 : ab_at 12 35 = some (.if_icmp .ge 21, 3) := rfl
theorem at_12_38 : ab_at 12 38 = some (.aload_n 0, 1) := rfl
theorem at_12_39 : ab_at 12 39 = some (.getfield 9, 3) := rfl
theorem at_12_42 : ab_at 12 42 = some (.iload_n 2, 1) := rfl
theorem at_12_43 : ab_at 12 43 = some (.aload_n 0, 1) := rfl
theorem at_12_44 : ab_at 12 44 = some (.aload_n 1, 1) := rfl
theorem at_12_45 : ab_at 12 45 = some (.iload_n 2, 1) := rfl
theorem at_12_46 : ab_at 12 46 = some (.invokevirtual 23, 3) := rfl
theorem at_12_49 : ab_at 12 49 = some (.lastore, 1) := rfl
theorem at_12_50 : ab_at 12 50 = some (.iinc 2 1, 3) := rfl
theorem at_12_53 : ab_at 12 53 = some (.goto (-23), 3) := rfl
theorem at_12_56 : ab_at 12 56 = some (.return_, 1) := rfl
theorem at_13_0 : ab_at 13 0 = some (.aload_n 0, 1) := rfl
theorem at_13_1 : ab_at 13 1 = some (.getfield 9, 3) := rfl
theorem at_13_4 : ab_at 13 4 = some (.iload_n 1, 1) := rfl
theorem at_13_5 : ab_at 13 5 = some (.laload, 1) := rfl
theorem at_13_6 : ab_at 13 6 = some (.invokestatic 27, 3) := rfl
theorem at_13_9 : ab_at 13 9 = some (.ifCond .eq 17, 3) := rfl
theorem at_13_12 : ab_at 13 12 = some (.aload_n 0, 1) := rfl
theorem at_13_13 : ab_at 13 13 = some (.getfield 9, 3) := rfl
theorem at_13_16 : ab_at 13 16 = some (.iload_n 1, 1) := rfl
theorem at_13_17 : ab_at 13 17 = some (.laload, 1) := rfl
theorem at_13_18 : ab_at 13 18 = some (.ldc2_w 21, 3) := rfl
theorem at_13_21 : ab_at 13 21 = some (.lsub, 1) := rfl
theorem at_13_22 : ab_at 13 22 = some (.l2i, 1) := rfl
theorem at_13_23 : ab_at 13 23 = some (.goto 5, 3) := rfl
theorem at_13_26 : ab_at 13 26 = some (.bipush (-4), 2) := rfl
theorem at_13_28 : ab_at 13 28 = some (.ireturn, 1) := rfl
theorem at_14_0 : ab_at 14 0 = some (.aload_n 0, 1) := rfl
theorem at_14_1 : ab_at 14 1 = some (.getfield 9, 3) := rfl
theorem at_14_4 : ab_at 14 4 = some (.iload_n 1, 1) := rfl
theorem at_14_5 : ab_at 14 5 = some (.laload, 1) := rfl
theorem at_14_6 : ab_at 14 6 = some (.invokestatic 27, 3) := rfl
theorem at_14_9 : ab_at 14 9 = some (.ifCond .eq 9, 3) := rfl
theorem at_14_12 : ab_at 14 12 = some (.ldc2_w 31, 3) := rfl
theorem at_14_15 : ab_at 14 15 = some (.goto 9, 3) := rfl
theorem at_14_18 : ab_at 14 18 = some (.aload_n 0, 1) := rfl
theorem at_14_19 : ab_at 14 19 = some (.getfield 9, 3) := rfl
theorem at_14_22 : ab_at 14 22 = some (.iload_n 1, 1) := rfl
theorem at_14_23 : ab_at 14 23 = some (.laload, 1) := rfl
theorem at_14_24 : ab_at 14 24 = some (.lreturn, 1) := rfl
theorem at_15_0 : ab_at 15 0 = some (.lload_n 0, 1) := rfl
theorem at_15_1 : ab_at 15 1 = some (.ldc2_w 21, 3) := rfl
theorem at_15_4 : ab_at 15 4 = some (.lcmp, 1) := rfl
theorem at_15_5 : ab_at 15 5 = some (.ifCond .lt 7, 3) := rfl
theorem at_15_8 : ab_at 15 8 = some (.iconst 1, 1) := rfl
theorem at_15_9 : ab_at 15 9 = some (.goto 4, 3) := rfl
theorem at_15_12 : ab_at 15 12 = some (.iconst 0, 1) := rfl
theorem at_15_13 : ab_at 15 13 = some (.ireturn, 1) := rfl
theorem at_16_0 : ab_at 16 0 = some (.aload_n 1, 1) := rfl
theorem at_16_1 : ab_at 16 1 = some (.getfield 33, 3) := rfl
theorem at_16_4 : ab_at 16 4 = some (.iload_n 2, 1) := rfl
theorem at_16_5 : ab_at 16 5 = some (.iaload, 1) := rfl
theorem at_16_6 : ab_at 16 6 = some (.tableswitch 103 0 8 #[50, 75, 103, 103, 82, 103, 103, 89, 96], 50) := rfl
theorem at_16_56 : ab_at 16 56 = some (.aload_n 1, 1) := rfl
theorem at_16_57 : ab_at 16 57 = some (.getfield 37, 3) := rfl
theorem at_16_60 : ab_at 16 60 = some (.iload_n 2, 1) := rfl
theorem at_16_61 : ab_at 16 61 = some (.iaload, 1) := rfl
theorem at_16_62 : ab_at 16 62 = some (.bipush 99, 2) := rfl
theorem at_16_64 : ab_at 16 64 = some (.if_icmp .ne 9, 3) := rfl
theorem at_16_67 : ab_at 16 67 = some (.ldc2_w 40, 3) := rfl
theorem at_16_70 : ab_at 16 70 = some (.goto 10, 3) := rfl
theorem at_16_73 : ab_at 16 73 = some (.aload_n 1, 1) := rfl
theorem at_16_74 : ab_at 16 74 = some (.getfield 37, 3) := rfl
theorem at_16_77 : ab_at 16 77 = some (.iload_n 2, 1) := rfl
theorem at_16_78 : ab_at 16 78 = some (.iaload, 1) := rfl
theorem at_16_79 : ab_at 16 79 = some (.i2l, 1) := rfl
theorem at_16_80 : ab_at 16 80 = some (.lreturn, 1) := rfl
theorem at_16_81 : ab_at 16 81 = some (.aload_n 0, 1) := rfl
theorem at_16_82 : ab_at 16 82 = some (.aload_n 1, 1) := rfl
theorem at_16_83 : ab_at 16 83 = some (.iload_n 2, 1) := rfl
theorem at_16_84 : ab_at 16 84 = some (.invokevirtual 42, 3) := rfl
theorem at_16_87 : ab_at 16 87 = some (.lreturn, 1) := rfl
theorem at_16_88 : ab_at 16 88 = some (.aload_n 0, 1) := rfl
theorem at_16_89 : ab_at 16 89 = some (.aload_n 1, 1) := rfl
theorem at_16_90 : ab_at 16 90 = some (.iload_n 2, 1) := rfl
theorem at_16_91 : ab_at 16 91 = some (.invokevirtual 45, 3) := rfl
theorem at_16_94 : ab_at 16 94 = some (.lreturn, 1) := rfl
theorem at_16_95 : ab_at 16 95 = some (.aload_n 0, 1) := rfl
theorem at_16_96 : ab_at 16 96 = some (.aload_n 1, 1) := rfl
theorem at_16_97 : ab_at 16 97 = some (.iload_n 2, 1) := rfl
theorem at_16_98 : ab_at 16 98 = some (.invokevirtual 48, 3) := rfl
theorem at_16_101 : ab_at 16 101 = some (.lreturn, 1) := rfl
theorem at_16_102 : ab_at 16 102 = some (.aload_n 0, 1) := rfl
theorem at_16_103 : ab_at 16 103 = some (.getfield 9, 3) := rfl
theorem at_16_106 : ab_at 16 106 = some (.iload_n 2, 1) := rfl
theorem at_16_107 : ab_at 16 107 = some (.laload, 1) := rfl
theorem at_16_108 : ab_at 16 108 = some (.lreturn, 1) := rfl
theorem at_16_109 : ab_at 16 109 = some (.aload_n 0, 1) := rfl
theorem at_16_110 : ab_at 16 110 = some (.aload_n 1, 1) := rfl
theorem at_16_111 : ab_at 16 111 = some (.iload_n 2, 1) := rfl
theorem at_16_112 : ab_at 16 112 = some (.invokevirtual 51, 3) := rfl
theorem at_16_115 : ab_at 16 115 = some (.lreturn, 1) := rfl
theorem at_17_0 : ab_at 17 0 = some (.aload_n 1, 1) := rfl
theorem at_17_1 : ab_at 17 1 = some (.getfield 54, 3) := rfl
theorem at_17_4 : ab_at 17 4 = some (.iload_n 2, 1) := rfl
theorem at_17_5 : ab_at 17 5 = some (.aaload, 1) := rfl
theorem at_17_6 : ab_at 17 6 = some (.iconst 0, 1) := rfl
theorem at_17_7 : ab_at 17 7 = some (.iaload, 1) := rfl
theorem at_17_8 : ab_at 17 8 = some (.istore_n 3, 1) := rfl
theorem at_17_9 : ab_at 17 9 = some (.aload_n 0, 1) := rfl
theorem at_17_10 : ab_at 17 10 = some (.getfield 9, 3) := rfl
theorem at_17_13 : ab_at 17 13 = some (.iload_n 3, 1) := rfl
theorem at_17_14 : ab_at 17 14 = some (.laload, 1) := rfl
theorem at_17_15 : ab_at 17 15 = some (.invokestatic 27, 3) := rfl
theorem at_17_18 : ab_at 17 18 = some (.ifCond .ne 15, 3) := rfl
theorem at_17_21 : ab_at 17 21 = some (.iconst 4, 1) := rfl
theorem at_17_22 : ab_at 17 22 = some (.aload_n 0, 1) := rfl
theorem at_17_23 : ab_at 17 23 = some (.getfield 9, 3) := rfl
theorem at_17_26 : ab_at 17 26 = some (.iload_n 3, 1) := rfl
theorem at_17_27 : ab_at 17 27 = some (.laload, 1) := rfl
theorem at_17_28 : ab_at 17 28 = some (.lconst 0, 1) := rfl
theorem at_17_29 : ab_at 17 29 = some (.invokestatic 58, 3) := rfl
theorem at_17_32 : ab_at 17 32 = some (.lreturn, 1) := rfl
theorem at_17_33 : ab_at 17 33 = some (.aload_n 0, 1) := rfl
theorem at_17_34 : ab_at 17 34 = some (.iload_n 3, 1) := rfl
theorem at_17_35 : ab_at 17 35 = some (.invokevirtual 62, 3) := rfl
theorem at_17_38 : ab_at 17 38 = some (.istore 4, 2) := rfl
theorem at_17_40 : ab_at 17 40 = some (.aload_n 1, 1) := rfl
theorem at_17_41 : ab_at 17 41 = some (.getfield 33, 3) := rfl
theorem at_17_44 : ab_at 17 44 = some (.iload 4, 2) := rfl
theorem at_17_46 : ab_at 17 46 = some (.iaload, 1) := rfl
theorem at_17_47 : ab_at 17 47 = some (.iconst 4, 1) := rfl
theorem at_17_48 : ab_at 17 48 = some (.if_icmp .ne 20, 3) := rfl
theorem at_17_51 : ab_at 17 51 = some (.aload_n 0, 1) := rfl
theorem at_17_52 : ab_at 17 52 = some (.getfield 9, 3) := rfl
theorem at_17_55 : ab_at 17 55 = some (.aload_n 1, 1) := rfl
theorem at_17_56 : ab_at 17 56 = some (.getfield 54, 3) := rfl
theorem at_17_59 : ab_at 17 59 = some (.iload 4, 2) := rfl
theorem at_17_61 : ab_at 17 61 = some (.aaload, 1) := rfl
theorem at_17_62 : ab_at 17 62 = some (.iconst 0, 1) := rfl
theorem at_17_63 : ab_at 17 63 = some (.iaload, 1) := rfl
theorem at_17_64 : ab_at 17 64 = some (.laload, 1) := rfl
theorem at_17_65 : ab_at 17 65 = some (.goto 9, 3) := rfl
theorem at_17_68 : ab_at 17 68 = some (.aload_n 0, 1) := rfl
theorem at_17_69 : ab_at 17 69 = some (.aload_n 1, 1) := rfl
theorem at_17_70 : ab_at 17 70 = some (.iload_n 2, 1) := rfl
theorem at_17_71 : ab_at 17 71 = some (.invokevirtual 42, 3) := rfl
theorem at_17_74 : ab_at 17 74 = some (.lreturn, 1) := rfl
theorem at_18_0 : ab_at 18 0 = some (.aload_n 1, 1) := rfl
theorem at_18_1 : ab_at 18 1 = some (.getfield 33, 3) := rfl
theorem at_18_4 : ab_at 18 4 = some (.iload_n 2, 1) := rfl
theorem at_18_5 : ab_at 18 5 = some (.iaload, 1) := rfl
theorem at_18_6 : ab_at 18 6 = some (.istore_n 3, 1) := rfl
theorem at_18_7 : ab_at 18 7 = some (.aload_n 0, 1) := rfl
theorem at_18_8 : ab_at 18 8 = some (.getfield 9, 3) := rfl
theorem at_18_11 : ab_at 18 11 = some (.aload_n 1, 1) := rfl
theorem at_18_12 : ab_at 18 12 = some (.getfield 54, 3) := rfl
theorem at_18_15 : ab_at 18 15 = some (.iload_n 2, 1) := rfl
theorem at_18_16 : ab_at 18 16 = some (.aaload, 1) := rfl
theorem at_18_17 : ab_at 18 17 = some (.iconst 0, 1) := rfl
theorem at_18_18 : ab_at 18 18 = some (.iaload, 1) := rfl
theorem at_18_19 : ab_at 18 19 = some (.laload, 1) := rfl
theorem at_18_20 : ab_at 18 20 = some (.lstore 4, 2) := rfl
theorem at_18_22 : ab_at 18 22 = some (.aload_n 0, 1) := rfl
theorem at_18_23 : ab_at 18 23 = some (.getfield 9, 3) := rfl
theorem at_18_26 : ab_at 18 26 = some (.aload_n 1, 1) := rfl
theorem at_18_27 : ab_at 18 27 = some (.getfield 54, 3) := rfl
theorem at_18_30 : ab_at 18 30 = some (.iload_n 2, 1) := rfl
theorem at_18_31 : ab_at 18 31 = some (.aaload, 1) := rfl
theorem at_18_32 : ab_at 18 32 = some (.iconst 1, 1) := rfl
theorem at_18_33 : ab_at 18 33 = some (.iaload, 1) := rfl
theorem at_18_34 : ab_at 18 34 = some (.laload, 1) := rfl
theorem at_18_35 : ab_at 18 35 = some (.lstore 6, 2) := rfl
theorem at_18_37 : ab_at 18 37 = some (.lload 4, 2) := rfl
theorem at_18_39 : ab_at 18 39 = some (.invokestatic 27, 3) := rfl
theorem at_18_42 : ab_at 18 42 = some (.ifCond .ne 15, 3) := rfl
theorem at_18_45 : ab_at 18 45 = some (.lload 6, 2) := rfl
theorem at_18_47 : ab_at 18 47 = some (.invokestatic 27, 3) := rfl
theorem at_18_50 : ab_at 18 50 = some (.ifCond .ne 7, 3) := rfl
theorem at_18_53 : ab_at 18 53 = some (.iconst 1, 1) := rfl
theorem at_18_54 : ab_at 18 54 = some (.goto 4, 3) := rfl
theorem at_18_57 : ab_at 18 57 = some (.iconst 0, 1) := rfl
theorem at_18_58 : ab_at 18 58 = some (.istore 8, 2) := rfl
theorem at_18_60 : ab_at 18 60 = some (.iload 8, 2) := rfl
theorem at_18_62 : ab_at 18 62 = some (.ifCond .ne 21, 3) := rfl
theorem at_18_65 : ab_at 18 65 = some (.lload 4, 2) := rfl
theorem at_18_67 : ab_at 18 67 = some (.ldc2_w 40, 3) := rfl
theorem at_18_70 : ab_at 18 70 = some (.lcmp, 1) := rfl
theorem at_18_71 : ab_at 18 71 = some (.ifCond .eq 12, 3) := rfl
theorem at_18_74 : ab_at 18 74 = some (.lload 6, 2) := rfl
theorem at_18_76 : ab_at 18 76 = some (.ldc2_w 40, 3) := rfl
theorem at_18_79 : ab_at 18 79 = some (.lcmp, 1) := rfl
theorem at_18_80 : ab_at 18 80 = some (.ifCond .ne 12, 3) := rfl
theorem at_18_83 : ab_at 18 83 = some (.iload_n 3, 1) := rfl
theorem at_18_84 : ab_at 18 84 = some (.lload 4, 2) := rfl
theorem at_18_86 : ab_at 18 86 = some (.lload 6, 2) := rfl
theorem at_18_88 : ab_at 18 88 = some (.invokestatic 58, 3) := rfl
theorem at_18_91 : ab_at 18 91 = some (.lreturn, 1) := rfl
theorem at_18_92 : ab_at 18 92 = some (.iload_n 3, 1) := rfl
theorem at_18_93 : ab_at 18 93 = some (.iconst 2, 1) := rfl
theorem at_18_94 : ab_at 18 94 = some (.if_icmp .ne 10, 3) := rfl
theorem at_18_97 : ab_at 18 97 = some (.lload 4, 2) := rfl
theorem at_18_99 : ab_at 18 99 = some (.lconst 0, 1) := rfl
theorem at_18_100 : ab_at 18 100 = some (.lcmp, 1) := rfl
theorem at_18_101 : ab_at 18 101 = some (.ifCond .eq 15, 3) := rfl
theorem at_18_104 : ab_at 18 104 = some (.iload_n 3, 1) := rfl
theorem at_18_105 : ab_at 18 105 = some (.iconst 3, 1) := rfl
theorem at_18_106 : ab_at 18 106 = some (.if_icmp .ne 13, 3) := rfl
theorem at_18_109 : ab_at 18 109 = some (.lload 4, 2) := rfl
theorem at_18_111 : ab_at 18 111 = some (.lconst 1, 1) := rfl
theorem at_18_112 : ab_at 18 112 = some (.lcmp, 1) := rfl
theorem at_18_113 : ab_at 18 113 = some (.ifCond .ne 6, 3) := rfl
theorem at_18_116 : ab_at 18 116 = some (.lload 6, 2) := rfl
theorem at_18_118 : ab_at 18 118 = some (.lreturn, 1) := rfl
theorem at_18_119 : ab_at 18 119 = some (.iload_n 3, 1) := rfl
theorem at_18_120 : ab_at 18 120 = some (.iconst 2, 1) := rfl
theorem at_18_121 : ab_at 18 121 = some (.if_icmp .ne 10, 3) := rfl
theorem at_18_124 : ab_at 18 124 = some (.lload 6, 2) := rfl
theorem at_18_126 : ab_at 18 126 = some (.lconst 0, 1) := rfl
theorem at_18_127 : ab_at 18 127 = some (.lcmp, 1) := rfl
theorem at_18_128 : ab_at 18 128 = some (.ifCond .eq 28, 3) := rfl
theorem at_18_131 : ab_at 18 131 = some (.iload_n 3, 1) := rfl
theorem at_18_132 : ab_at 18 132 = some (.iconst 3, 1) := rfl
theorem at_18_133 : ab_at 18 133 = some (.if_icmp .ne 10, 3) := rfl
theorem at_18_136 : ab_at 18 136 = some (.lload 6, 2) := rfl
theorem at_18_138 : ab_at 18 138 = some (.lconst 1, 1) := rfl
theorem at_18_139 : ab_at 18 139 = some (.lcmp, 1) := rfl
theorem at_18_140 : ab_at 18 140 = some (.ifCond .eq 16, 3) := rfl
theorem at_18_143 : ab_at 18 143 = some (.iload_n 3, 1) := rfl
theorem at_18_144 : ab_at 18 144 = some (.bipush 6, 2) := rfl
theorem at_18_146 : ab_at 18 146 = some (.if_icmp .ne 13, 3) := rfl
theorem at_18_149 : ab_at 18 149 = some (.lload 6, 2) := rfl
theorem at_18_151 : ab_at 18 151 = some (.lconst 1, 1) := rfl
theorem at_18_152 : ab_at 18 152 = some (.lcmp, 1) := rfl
theorem at_18_153 : ab_at 18 153 = some (.ifCond .ne 6, 3) := rfl
theorem at_18_156 : ab_at 18 156 = some (.lload 4, 2) := rfl
theorem at_18_158 : ab_at 18 158 = some (.lreturn, 1) := rfl
theorem at_18_159 : ab_at 18 159 = some (.aload_n 0, 1) := rfl
theorem at_18_160 : ab_at 18 160 = some (.aload_n 1, 1) := rfl
theorem at_18_161 : ab_at 18 161 = some (.iload_n 2, 1) := rfl
theorem at_18_162 : ab_at 18 162 = some (.invokevirtual 42, 3) := rfl
theorem at_18_165 : ab_at 18 165 = some (.lreturn, 1) := rfl
theorem at_19_0 : ab_at 19 0 = some (.aload_n 1, 1) := rfl
theorem at_19_1 : ab_at 19 1 = some (.iload_n 2, 1) := rfl
theorem at_19_2 : ab_at 19 2 = some (.invokevirtual 66, 3) := rfl
theorem at_19_5 : ab_at 19 5 = some (.ifCond .eq 10, 3) := rfl
theorem at_19_8 : ab_at 19 8 = some (.aload_n 0, 1) := rfl
theorem at_19_9 : ab_at 19 9 = some (.getfield 9, 3) := rfl
theorem at_19_12 : ab_at 19 12 = some (.iload_n 2, 1) := rfl
theorem at_19_13 : ab_at 19 13 = some (.laload, 1) := rfl
theorem at_19_14 : ab_at 19 14 = some (.lreturn, 1) := rfl
theorem at_19_15 : ab_at 19 15 = some (.aload_n 0, 1) := rfl
theorem at_19_16 : ab_at 19 16 = some (.getfield 9, 3) := rfl
theorem at_19_19 : ab_at 19 19 = some (.aload_n 1, 1) := rfl
theorem at_19_20 : ab_at 19 20 = some (.getfield 54, 3) := rfl
theorem at_19_23 : ab_at 19 23 = some (.iload_n 2, 1) := rfl
theorem at_19_24 : ab_at 19 24 = some (.aaload, 1) := rfl
theorem at_19_25 : ab_at 19 25 = some (.iconst 0, 1) := rfl
theorem at_19_26 : ab_at 19 26 = some (.iaload, 1) := rfl
theorem at_19_27 : ab_at 19 27 = some (.laload, 1) := rfl
theorem at_19_28 : ab_at 19 28 = some (.lstore_n 3, 1) := rfl
theorem at_19_29 : ab_at 19 29 = some (.iconst 1, 1) := rfl
theorem at_19_30 : ab_at 19 30 = some (.istore 5, 2) := rfl
theorem at_19_32 : ab_at 19 32 = some (.iload 5, 2) := rfl
theorem at_19_34 : ab_at 19 34 = some (.aload_n 1, 1) := rfl
theorem at_19_35 : ab_at 19 35 = some (.getfield 70, 3) := rfl
theorem at_19_38 : ab_at 19 38 = some (.iload_n 2, 1) := rfl
theorem at_19_39 : ab_at 19 39 = some (.iaload, 1) := rfl
theorem at_19_40 : ab_at 19 40 = some (.if_icmp .ge 35, 3) := rfl
theorem at_19_43 : ab_at 19 43 = some (.aload_n 0, 1) := rfl
theorem at_19_44 : ab_at 19 44 = some (.getfield 9, 3) := rfl
theorem at_19_47 : ab_at 19 47 = some (.aload_n 1, 1) := rfl
theorem at_19_48 : ab_at 19 48 = some (.getfield 54, 3) := rfl
theorem at_19_51 : ab_at 19 51 = some (.iload_n 2, 1) := rfl
theorem at_19_52 : ab_at 19 52 = some (.aaload, 1) := rfl
theorem at_19_53 : ab_at 19 53 = some (.iload 5, 2) := rfl
theorem at_19_55 : ab_at 19 55 = some (.iaload, 1) := rfl
theorem at_19_56 : ab_at 19 56 = some (.laload, 1) := rfl
theorem at_19_57 : ab_at 19 57 = some (.lload_n 3, 1) := rfl
theorem at_19_58 : ab_at 19 58 = some (.lcmp, 1) := rfl
theorem at_19_59 : ab_at 19 59 = some (.ifCond .eq 10, 3) := rfl
theorem at_19_62 : ab_at 19 62 = some (.aload_n 0, 1) := rfl
theorem at_19_63 : ab_at 19 63 = some (.aload_n 1, 1) := rfl
theorem at_19_64 : ab_at 19 64 = some (.iload_n 2, 1) := rfl
theorem at_19_65 : ab_at 19 65 = some (.invokevirtual 42, 3) := rfl
theorem at_19_68 : ab_at 19 68 = some (.lreturn, 1) := rfl
theorem at_19_69 : ab_at 19 69 = some (.iinc 5 1, 3) := rfl
theorem at_19_72 : ab_at 19 72 = some (.goto (-40), 3) := rfl
theorem at_19_75 : ab_at 19 75 = some (.lload_n 3, 1) := rfl
theorem at_19_76 : ab_at 19 76 = some (.lreturn, 1) := rfl
theorem at_20_0 : ab_at 20 0 = some (.iconst 0, 1) := rfl
theorem at_20_1 : ab_at 20 1 = some (.istore_n 3, 1) := rfl
theorem at_20_2 : ab_at 20 2 = some (.iload_n 3, 1) := rfl
theorem at_20_3 : ab_at 20 3 = some (.iload_n 2, 1) := rfl
theorem at_20_4 : ab_at 20 4 = some (.if_icmp .ge 50, 3) := rfl
theorem at_20_7 : ab_at 20 7 = some (.aload_n 1, 1) := rfl
theorem at_20_8 : ab_at 20 8 = some (.getfield 33, 3) := rfl
theorem at_20_11 : ab_at 20 11 = some (.iload_n 3, 1) := rfl
theorem at_20_12 : ab_at 20 12 = some (.iaload, 1) := rfl
theorem at_20_13 : ab_at 20 13 = some (.aload_n 1, 1) := rfl
theorem at_20_14 : ab_at 20 14 = some (.getfield 33, 3) := rfl
theorem at_20_17 : ab_at 20 17 = some (.iload_n 2, 1) := rfl
theorem at_20_18 : ab_at 20 18 = some (.iaload, 1) := rfl
theorem at_20_19 : ab_at 20 19 = some (.if_icmp .ne 29, 3) := rfl
theorem at_20_22 : ab_at 20 22 = some (.aload_n 0, 1) := rfl
theorem at_20_23 : ab_at 20 23 = some (.iload_n 3, 1) := rfl
theorem at_20_24 : ab_at 20 24 = some (.invokevirtual 62, 3) := rfl
theorem at_20_27 : ab_at 20 27 = some (.iload_n 3, 1) := rfl
theorem at_20_28 : ab_at 20 28 = some (.if_icmp .ne 20, 3) := rfl
theorem at_20_31 : ab_at 20 31 = some (.aload_n 0, 1) := rfl
theorem at_20_32 : ab_at 20 32 = some (.aload_n 1, 1) := rfl
theorem at_20_33 : ab_at 20 33 = some (.iload_n 3, 1) := rfl
theorem at_20_34 : ab_at 20 34 = some (.iload_n 2, 1) := rfl
theorem at_20_35 : ab_at 20 35 = some (.invokevirtual 73, 3) := rfl
theorem at_20_38 : ab_at 20 38 = some (.ifCond .eq 10, 3) := rfl
theorem at_20_41 : ab_at 20 41 = some (.aload_n 0, 1) := rfl
theorem at_20_42 : ab_at 20 42 = some (.getfield 9, 3) := rfl
theorem at_20_45 : ab_at 20 45 = some (.iload_n 3, 1) := rfl
theorem at_20_46 : ab_at 20 46 = some (.laload, 1) := rfl
theorem at_20_47 : ab_at 20 47 = some (.lreturn, 1) := rfl
theorem at_20_48 : ab_at 20 48 = some (.iinc 3 1, 3) := rfl
theorem at_20_51 : ab_at 20 51 = some (.goto (-49), 3) := rfl
theorem at_20_54 : ab_at 20 54 = some (.aload_n 0, 1) := rfl
theorem at_20_55 : ab_at 20 55 = some (.getfield 9, 3) := rfl
theorem at_20_58 : ab_at 20 58 = some (.iload_n 2, 1) := rfl
theorem at_20_59 : ab_at 20 59 = some (.laload, 1) := rfl
theorem at_20_60 : ab_at 20 60 = some (.lreturn, 1) := rfl
theorem at_21_0 : ab_at 21 0 = some (.aload_n 1, 1) := rfl
theorem at_21_1 : ab_at 21 1 = some (.getfield 33, 3) := rfl
theorem at_21_4 : ab_at 21 4 = some (.iload_n 3, 1) := rfl
theorem at_21_5 : ab_at 21 5 = some (.iaload, 1) := rfl
theorem at_21_6 : ab_at 21 6 = some (.iconst 1, 1) := rfl
theorem at_21_7 : ab_at 21 7 = some (.if_icmp .ne 24, 3) := rfl
theorem at_21_10 : ab_at 21 10 = some (.aload_n 1, 1) := rfl
theorem at_21_11 : ab_at 21 11 = some (.getfield 37, 3) := rfl
theorem at_21_14 : ab_at 21 14 = some (.iload_n 2, 1) := rfl
theorem at_21_15 : ab_at 21 15 = some (.iaload, 1) := rfl
theorem at_21_16 : ab_at 21 16 = some (.aload_n 1, 1) := rfl
theorem at_21_17 : ab_at 21 17 = some (.getfield 37, 3) := rfl
theorem at_21_20 : ab_at 21 20 = some (.iload_n 3, 1) := rfl
theorem at_21_21 : ab_at 21 21 = some (.iaload, 1) := rfl
theorem at_21_22 : ab_at 21 22 = some (.if_icmp .ne 7, 3) := rfl
theorem at_21_25 : ab_at 21 25 = some (.iconst 1, 1) := rfl
theorem at_21_26 : ab_at 21 26 = some (.goto 4, 3) := rfl
theorem at_21_29 : ab_at 21 29 = some (.iconst 0, 1) := rfl
theorem at_21_30 : ab_at 21 30 = some (.ireturn, 1) := rfl
theorem at_21_31 : ab_at 21 31 = some (.aload_n 1, 1) := rfl
theorem at_21_32 : ab_at 21 32 = some (.getfield 33, 3) := rfl
theorem at_21_35 : ab_at 21 35 = some (.iload_n 3, 1) := rfl
theorem at_21_36 : ab_at 21 36 = some (.iaload, 1) := rfl
theorem at_21_37 : ab_at 21 37 = some (.bipush 7, 2) := rfl
theorem at_21_39 : ab_at 21 39 = some (.if_icmp .ne 28, 3) := rfl
theorem at_21_42 : ab_at 21 42 = some (.aload_n 1, 1) := rfl
theorem at_21_43 : ab_at 21 43 = some (.getfield 77, 3) := rfl
theorem at_21_46 : ab_at 21 46 = some (.iload_n 2, 1) := rfl
theorem at_21_47 : ab_at 21 47 = some (.iaload, 1) := rfl
theorem at_21_48 : ab_at 21 48 = some (.aload_n 1, 1) := rfl
theorem at_21_49 : ab_at 21 49 = some (.getfield 77, 3) := rfl
theorem at_21_52 : ab_at 21 52 = some (.iload_n 3, 1) := rfl
theorem at_21_53 : ab_at 21 53 = some (.iaload, 1) := rfl
theorem at_21_54 : ab_at 21 54 = some (.if_icmp .ne 11, 3) := rfl
theorem at_21_57 : ab_at 21 57 = some (.aload_n 1, 1) := rfl
theorem at_21_58 : ab_at 21 58 = some (.iload_n 2, 1) := rfl
theorem at_21_59 : ab_at 21 59 = some (.invokevirtual 66, 3) := rfl
theorem at_21_62 : ab_at 21 62 = some (.ifCond .eq 5, 3) := rfl
theorem at_21_65 : ab_at 21 65 = some (.iconst 0, 1) := rfl
theorem at_21_66 : ab_at 21 66 = some (.ireturn, 1) := rfl
theorem at_21_67 : ab_at 21 67 = some (.iconst 1, 1) := rfl
theorem at_21_68 : ab_at 21 68 = some (.istore 4, 2) := rfl
theorem at_21_70 : ab_at 21 70 = some (.iconst 0, 1) := rfl
theorem at_21_71 : ab_at 21 71 = some (.istore 5, 2) := rfl
theorem at_21_73 : ab_at 21 73 = some (.iload 5, 2) := rfl
theorem at_21_75 : ab_at 21 75 = some (.aload_n 1, 1) := rfl
theorem at_21_76 : ab_at 21 76 = some (.getfield 70, 3) := rfl
theorem at_21_79 : ab_at 21 79 = some (.iload_n 3, 1) := rfl
theorem at_21_80 : ab_at 21 80 = some (.iaload, 1) := rfl
theorem at_21_81 : ab_at 21 81 = some (.if_icmp .ge 27, 3) := rfl
theorem at_21_84 : ab_at 21 84 = some (.iload 4, 2) := rfl
theorem at_21_86 : ab_at 21 86 = some (.ifCond .eq 22, 3) := rfl
theorem at_21_89 : ab_at 21 89 = some (.aload_n 0, 1) := rfl
theorem at_21_90 : ab_at 21 90 = some (.aload_n 1, 1) := rfl
theorem at_21_91 : ab_at 21 91 = some (.iload_n 2, 1) := rfl
theorem at_21_92 : ab_at 21 92 = some (.iload 5, 2) := rfl
theorem at_21_94 : ab_at 21 94 = some (.iload_n 3, 1) := rfl
theorem at_21_95 : ab_at 21 95 = some (.iload 5, 2) := rfl
theorem at_21_97 : ab_at 21 97 = some (.invokevirtual 80, 3) := rfl
theorem at_21_100 : ab_at 21 100 = some (.istore 4, 2) := rfl
theorem at_21_102 : ab_at 21 102 = some (.iinc 5 1, 3) := rfl
theorem at_21_105 : ab_at 21 105 = some (.goto (-32), 3) := rfl
theorem at_21_108 : ab_at 21 108 = some (.iload 4, 2) := rfl
theorem at_21_110 : ab_at 21 110 = some (.ifCond .eq 5, 3) := rfl
theorem at_21_113 : ab_at 21 113 = some (.iconst 1, 1) := rfl
theorem at_21_114 : ab_at 21 114 = some (.ireturn, 1) := rfl
theorem at_21_115 : ab_at 21 115 = some (.aload_n 1, 1) := rfl
theorem at_21_116 : ab_at 21 116 = some (.getfield 33, 3) := rfl
theorem at_21_119 : ab_at 21 119 = some (.iload_n 3, 1) := rfl
theorem at_21_120 : ab_at 21 120 = some (.iaload, 1) := rfl
theorem at_21_121 : ab_at 21 121 = some (.iconst 2, 1) := rfl
theorem at_21_122 : ab_at 21 122 = some (.if_icmp .eq 13, 3) := rfl
theorem at_21_125 : ab_at 21 125 = some (.aload_n 1, 1) := rfl
theorem at_21_126 : ab_at 21 126 = some (.getfield 33, 3) := rfl
theorem at_21_129 : ab_at 21 129 = some (.iload_n 3, 1) := rfl
theorem at_21_130 : ab_at 21 130 = some (.iaload, 1) := rfl
theorem at_21_131 : ab_at 21 131 = some (.iconst 3, 1) := rfl
theorem at_21_132 : ab_at 21 132 = some (.if_icmp .ne 7, 3) := rfl
theorem at_21_135 : ab_at 21 135 = some (.iconst 1, 1) := rfl
theorem at_21_136 : ab_at 21 136 = some (.goto 4, 3) := rfl
theorem at_21_139 : ab_at 21 139 = some (.iconst 0, 1) := rfl
theorem at_21_140 : ab_at 21 140 = some (.istore 5, 2) := rfl
theorem at_21_142 : ab_at 21 142 = some (.iload 5, 2) := rfl
theorem at_21_144 : ab_at 21 144 = some (.ifCond .eq 31, 3) := rfl
theorem at_21_147 : ab_at 21 147 = some (.aload_n 0, 1) := rfl
theorem at_21_148 : ab_at 21 148 = some (.aload_n 1, 1) := rfl
theorem at_21_149 : ab_at 21 149 = some (.iload_n 2, 1) := rfl
theorem at_21_150 : ab_at 21 150 = some (.iconst 0, 1) := rfl
theorem at_21_151 : ab_at 21 151 = some (.iload_n 3, 1) := rfl
theorem at_21_152 : ab_at 21 152 = some (.iconst 1, 1) := rfl
theorem at_21_153 : ab_at 21 153 = some (.invokevirtual 80, 3) := rfl
theorem at_21_156 : ab_at 21 156 = some (.ifCond .eq 19, 3) := rfl
theorem at_21_159 : ab_at 21 159 = some (.aload_n 0, 1) := rfl
theorem at_21_160 : ab_at 21 160 = some (.aload_n 1, 1) := rfl
theorem at_21_161 : ab_at 21 161 = some (.iload_n 2, 1) := rfl
theorem at_21_162 : ab_at 21 162 = some (.iconst 1, 1) := rfl
theorem at_21_163 : ab_at 21 163 = some (.iload_n 3, 1) := rfl
theorem at_21_164 : ab_at 21 164 = some (.iconst 0, 1) := rfl
theorem at_21_165 : ab_at 21 165 = some (.invokevirtual 80, 3) := rfl
theorem at_21_168 : ab_at 21 168 = some (.ifCond .eq 7, 3) := rfl
theorem at_21_171 : ab_at 21 171 = some (.iconst 1, 1) := rfl
theorem at_21_172 : ab_at 21 172 = some (.goto 4, 3) := rfl
theorem at_21_175 : ab_at 21 175 = some (.iconst 0, 1) := rfl
theorem at_21_176 : ab_at 21 176 = some (.ireturn, 1) := rfl
theorem at_22_0 : ab_at 22 0 = some (.aload_n 0, 1) := rfl
theorem at_22_1 : ab_at 22 1 = some (.getfield 9, 3) := rfl
theorem at_22_4 : ab_at 22 4 = some (.aload_n 1, 1) := rfl
theorem at_22_5 : ab_at 22 5 = some (.getfield 54, 3) := rfl
theorem at_22_8 : ab_at 22 8 = some (.iload_n 2, 1) := rfl
theorem at_22_9 : ab_at 22 9 = some (.aaload, 1) := rfl
theorem at_22_10 : ab_at 22 10 = some (.iload_n 3, 1) := rfl
theorem at_22_11 : ab_at 22 11 = some (.iaload, 1) := rfl
theorem at_22_12 : ab_at 22 12 = some (.laload, 1) := rfl
theorem at_22_13 : ab_at 22 13 = some (.aload_n 0, 1) := rfl
theorem at_22_14 : ab_at 22 14 = some (.getfield 9, 3) := rfl
theorem at_22_17 : ab_at 22 17 = some (.aload_n 1, 1) := rfl
theorem at_22_18 : ab_at 22 18 = some (.getfield 54, 3) := rfl
theorem at_22_21 : ab_at 22 21 = some (.iload 4, 2) := rfl
theorem at_22_23 : ab_at 22 23 = some (.aaload, 1) := rfl
theorem at_22_24 : ab_at 22 24 = some (.iload 5, 2) := rfl
theorem at_22_26 : ab_at 22 26 = some (.iaload, 1) := rfl
theorem at_22_27 : ab_at 22 27 = some (.laload, 1) := rfl
theorem at_22_28 : ab_at 22 28 = some (.lcmp, 1) := rfl
theorem at_22_29 : ab_at 22 29 = some (.ifCond .ne 7, 3) := rfl
theorem at_22_32 : ab_at 22 32 = some (.iconst 1, 1) := rfl
theorem at_22_33 : ab_at 22 33 = some (.goto 4, 3) := rfl
theorem at_22_36 : ab_at 22 36 = some (.iconst 0, 1) := rfl
theorem at_22_37 : ab_at 22 37 = some (.ireturn, 1) := rfl
theorem at_24_0 : ab_at 24 0 = some (.aload_n 0, 1) := rfl
theorem at_24_1 : ab_at 24 1 = some (.iconst 0, 1) := rfl
theorem at_24_2 : ab_at 24 2 = some (.putfield 29, 3) := rfl
theorem at_24_5 : ab_at 24 5 = some (.return_, 1) := rfl
theorem at_25_0 : ab_at 25 0 = some (.aload_n 0, 1) := rfl
theorem at_25_1 : ab_at 25 1 = some (.getfield 9, 3) := rfl
theorem at_25_4 : ab_at 25 4 = some (.iconst 0, 1) := rfl
theorem at_25_5 : ab_at 25 5 = some (.iload_n 1, 1) := rfl
theorem at_25_6 : ab_at 25 6 = some (.iastore, 1) := rfl
theorem at_25_7 : ab_at 25 7 = some (.aload_n 0, 1) := rfl
theorem at_25_8 : ab_at 25 8 = some (.getfield 9, 3) := rfl
theorem at_25_11 : ab_at 25 11 = some (.iconst 1, 1) := rfl
theorem at_25_12 : ab_at 25 12 = some (.iload_n 2, 1) := rfl
theorem at_25_13 : ab_at 25 13 = some (.iastore, 1) := rfl
theorem at_25_14 : ab_at 25 14 = some (.aload_n 0, 1) := rfl
theorem at_25_15 : ab_at 25 15 = some (.getfield 9, 3) := rfl
theorem at_25_18 : ab_at 25 18 = some (.iconst 2, 1) := rfl
theorem at_25_19 : ab_at 25 19 = some (.iload_n 3, 1) := rfl
theorem at_25_20 : ab_at 25 20 = some (.iastore, 1) := rfl
theorem at_25_21 : ab_at 25 21 = some (.aload_n 0, 1) := rfl
theorem at_25_22 : ab_at 25 22 = some (.getfield 9, 3) := rfl
theorem at_25_25 : ab_at 25 25 = some (.iconst 3, 1) := rfl
theorem at_25_26 : ab_at 25 26 = some (.iload 4, 2) := rfl
theorem at_25_28 : ab_at 25 28 = some (.iastore, 1) := rfl
theorem at_25_29 : ab_at 25 29 = some (.return_, 1) := rfl
theorem at_26_0 : ab_at 26 0 = some (.iload_n 1, 1) := rfl
theorem at_26_1 : ab_at 26 1 = some (.istore_n 2, 1) := rfl
theorem at_26_2 : ab_at 26 2 = some (.iconst 0, 1) := rfl
theorem at_26_3 : ab_at 26 3 = some (.istore_n 3, 1) := rfl
theorem at_26_4 : ab_at 26 4 = some (.iload_n 3, 1) := rfl
theorem at_26_5 : ab_at 26 5 = some (.iconst 4, 1) := rfl
theorem at_26_6 : ab_at 26 6 = some (.if_icmp .ge 37, 3) := rfl
theorem at_26_9 : ab_at 26 9 = some (.iload_n 2, 1) := rfl
theorem at_26_10 : ab_at 26 10 = some (.ldc 33, 2) := rfl
theorem at_26_12 : ab_at 26 12 = some (.imul, 1) := rfl
theorem at_26_13 : ab_at 26 13 = some (.sipush 12345, 3) := rfl
theorem at_26_16 : ab_at 26 16 = some (.iadd, 1) := rfl
theorem at_26_17 : ab_at 26 17 = some (.istore_n 2, 1) := rfl
theorem at_26_18 : ab_at 26 18 = some (.aload_n 0, 1) := rfl
theorem at_26_19 : ab_at 26 19 = some (.getfield 9, 3) := rfl
theorem at_26_22 : ab_at 26 22 = some (.iload_n 3, 1) := rfl
theorem at_26_23 : ab_at 26 23 = some (.iload_n 2, 1) := rfl
theorem at_26_24 : ab_at 26 24 = some (.bipush 16, 2) := rfl
theorem at_26_26 : ab_at 26 26 = some (.iushr, 1) := rfl
theorem at_26_27 : ab_at 26 27 = some (.sipush 32767, 3) := rfl
theorem at_26_30 : ab_at 26 30 = some (.iand, 1) := rfl
theorem at_26_31 : ab_at 26 31 = some (.bipush 9, 2) := rfl
theorem at_26_33 : ab_at 26 33 = some (.irem, 1) := rfl
theorem at_26_34 : ab_at 26 34 = some (.iconst 4, 1) := rfl
theorem at_26_35 : ab_at 26 35 = some (.isub, 1) := rfl
theorem at_26_36 : ab_at 26 36 = some (.iastore, 1) := rfl
theorem at_26_37 : ab_at 26 37 = some (.iinc 3 1, 3) := rfl
theorem at_26_40 : ab_at 26 40 = some (.goto (-36), 3) := rfl
theorem at_26_43 : ab_at 26 43 = some (.iload_n 2, 1) := rfl
theorem at_26_44 : ab_at 26 44 = some (.ireturn, 1) := rfl
theorem at_27_0 : ab_at 27 0 = some (.aload_n 0, 1) := rfl
theorem at_27_1 : ab_at 27 1 = some (.iload_n 1, 1) := rfl
theorem at_27_2 : ab_at 27 2 = some (.putfield 26, 3) := rfl
theorem at_27_5 : ab_at 27 5 = some (.aload_n 0, 1) := rfl
theorem at_27_6 : ab_at 27 6 = some (.iload_n 2, 1) := rfl
theorem at_27_7 : ab_at 27 7 = some (.putfield 22, 3) := rfl
theorem at_27_10 : ab_at 27 10 = some (.aload_n 0, 1) := rfl
theorem at_27_11 : ab_at 27 11 = some (.iconst 0, 1) := rfl
theorem at_27_12 : ab_at 27 12 = some (.putfield 34, 3) := rfl
theorem at_27_15 : ab_at 27 15 = some (.return_, 1) := rfl
theorem at_28_0 : ab_at 28 0 = some (.iconst 0, 1) := rfl
theorem at_28_1 : ab_at 28 1 = some (.istore_n 2, 1) := rfl
theorem at_28_2 : ab_at 28 2 = some (.iload_n 2, 1) := rfl
theorem at_28_3 : ab_at 28 3 = some (.bipush 20, 2) := rfl
theorem at_28_5 : ab_at 28 5 = some (.if_icmp .ge 18, 3) := rfl
theorem at_28_8 : ab_at 28 8 = some (.aload_n 0, 1) := rfl
theorem at_28_9 : ab_at 28 9 = some (.getfield 15, 3) := rfl
theorem at_28_12 : ab_at 28 12 = some (.iload_n 2, 1) := rfl
theorem at_28_13 : ab_at 28 13 = some (.ldc2_w 37, 3) := rfl
theorem at_28_16 : ab_at 28 16 = some (.lastore, 1) := rfl
theorem at_28_17 : ab_at 28 17 = some (.iinc 2 1, 3) := rfl
theorem at_28_20 : ab_at 28 20 = some (.goto (-18), 3) := rfl
theorem at_28_23 : ab_at 28 23 = some (.aload_n 0, 1) := rfl
theorem at_28_24 : ab_at 28 24 = some (.iconst 1, 1) := rfl
theorem at_28_25 : ab_at 28 25 = some (.putfield 29, 3) := rfl
theorem at_28_28 : ab_at 28 28 = some (.aload_n 0, 1) := rfl
theorem at_28_29 : ab_at 28 29 = some (.iconst 0, 1) := rfl
theorem at_28_30 : ab_at 28 30 = some (.putfield 39, 3) := rfl
theorem at_28_33 : ab_at 28 33 = some (.aload_n 0, 1) := rfl
theorem at_28_34 : ab_at 28 34 = some (.iconst 0, 1) := rfl
theorem at_28_35 : ab_at 28 35 = some (.putfield 42, 3) := rfl
theorem at_28_38 : ab_at 28 38 = some (.aload_n 0, 1) := rfl
theorem at_28_39 : ab_at 28 39 = some (.iconst 0, 1) := rfl
theorem at_28_40 : ab_at 28 40 = some (.putfield 45, 3) := rfl
theorem at_28_43 : ab_at 28 43 = some (.bipush (-4), 2) := rfl
theorem at_28_45 : ab_at 28 45 = some (.istore_n 2, 1) := rfl
theorem at_28_46 : ab_at 28 46 = some (.iconst 0, 1) := rfl
theorem at_28_47 : ab_at 28 47 = some (.istore_n 3, 1) := rfl
theorem at_28_48 : ab_at 28 48 = some (.iconst 0, 1) := rfl
theorem at_28_49 : ab_at 28 49 = some (.istore 4, 2) := rfl
theorem at_28_51 : ab_at 28 51 = some (.iload 4, 2) := rfl
theorem at_28_53 : ab_at 28 53 = some (.sipush 200, 3) := rfl
theorem at_28_56 : ab_at 28 56 = some (.if_icmp .ge 70, 3) := rfl
theorem at_28_59 : ab_at 28 59 = some (.aload_n 1, 1) := rfl
theorem at_28_60 : ab_at 28 60 = some (.iload_n 3, 1) := rfl
theorem at_28_61 : ab_at 28 61 = some (.invokevirtual 48, 3) := rfl
theorem at_28_64 : ab_at 28 64 = some (.ifCond .eq 62, 3) := rfl
theorem at_28_67 : ab_at 28 67 = some (.aload_n 0, 1) := rfl
theorem at_28_68 : ab_at 28 68 = some (.aload_n 1, 1) := rfl
theorem at_28_69 : ab_at 28 69 = some (.iload_n 2, 1) := rfl
theorem at_28_70 : ab_at 28 70 = some (.iload_n 3, 1) := rfl
theorem at_28_71 : ab_at 28 71 = some (.invokevirtual 54, 3) := rfl
theorem at_28_74 : ab_at 28 74 = some (.aload_n 0, 1) := rfl
theorem at_28_75 : ab_at 28 75 = some (.dup, 1) := rfl
theorem at_28_76 : ab_at 28 76 = some (.getfield 45, 3) := rfl
theorem at_28_79 : ab_at 28 79 = some (.iconst 1, 1) := rfl
theorem at_28_80 : ab_at 28 80 = some (.iadd, 1) := rfl
theorem at_28_81 : ab_at 28 81 = some (.putfield 45, 3) := rfl
theorem at_28_84 : ab_at 28 84 = some (.aload_n 1, 1) := rfl
theorem at_28_85 : ab_at 28 85 = some (.getfield 58, 3) := rfl
theorem at_28_88 : ab_at 28 88 = some (.iload_n 3, 1) := rfl
theorem at_28_89 : ab_at 28 89 = some (.iaload, 1) := rfl
theorem at_28_90 : ab_at 28 90 = some (.iconst 2, 1) := rfl
theorem at_28_91 : ab_at 28 91 = some (.if_icmp .ne 20, 3) := rfl
theorem at_28_94 : ab_at 28 94 = some (.aload_n 0, 1) := rfl
theorem at_28_95 : ab_at 28 95 = some (.iconst 1, 1) := rfl
theorem at_28_96 : ab_at 28 96 = some (.putfield 39, 3) := rfl
theorem at_28_99 : ab_at 28 99 = some (.aload_n 0, 1) := rfl
theorem at_28_100 : ab_at 28 100 = some (.getfield 15, 3) := rfl
theorem at_28_103 : ab_at 28 103 = some (.aload_n 1, 1) := rfl
theorem at_28_104 : ab_at 28 104 = some (.getfield 61, 3) := rfl
theorem at_28_107 : ab_at 28 107 = some (.iload_n 3, 1) := rfl
theorem at_28_108 : ab_at 28 108 = some (.iaload, 1) := rfl
theorem at_28_109 : ab_at 28 109 = some (.laload, 1) := rfl
theorem at_28_110 : ab_at 28 110 = some (.lreturn, 1) := rfl
theorem at_28_111 : ab_at 28 111 = some (.iload_n 3, 1) := rfl
theorem at_28_112 : ab_at 28 112 = some (.istore_n 2, 1) := rfl
theorem at_28_113 : ab_at 28 113 = some (.aload_n 0, 1) := rfl
theorem at_28_114 : ab_at 28 114 = some (.aload_n 1, 1) := rfl
theorem at_28_115 : ab_at 28 115 = some (.iload_n 3, 1) := rfl
theorem at_28_116 : ab_at 28 116 = some (.invokevirtual 64, 3) := rfl
theorem at_28_119 : ab_at 28 119 = some (.istore_n 3, 1) := rfl
theorem at_28_120 : ab_at 28 120 = some (.iinc 4 1, 3) := rfl
theorem at_28_123 : ab_at 28 123 = some (.goto (-72), 3) := rfl
theorem at_28_126 : ab_at 28 126 = some (.ldc2_w 37, 3) := rfl
theorem at_28_129 : ab_at 28 129 = some (.lreturn, 1) := rfl
theorem at_29_0 : ab_at 29 0 = some (.aload_n 1, 1) := rfl
theorem at_29_1 : ab_at 29 1 = some (.getfield 58, 3) := rfl
theorem at_29_4 : ab_at 29 4 = some (.iload_n 2, 1) := rfl
theorem at_29_5 : ab_at 29 5 = some (.iaload, 1) := rfl
theorem at_29_6 : ab_at 29 6 = some (.ifCond .ne 10, 3) := rfl
theorem at_29_9 : ab_at 29 9 = some (.aload_n 1, 1) := rfl
theorem at_29_10 : ab_at 29 10 = some (.getfield 68, 3) := rfl
theorem at_29_13 : ab_at 29 13 = some (.iload_n 2, 1) := rfl
theorem at_29_14 : ab_at 29 14 = some (.iaload, 1) := rfl
theorem at_29_15 : ab_at 29 15 = some (.ireturn, 1) := rfl
theorem at_29_16 : ab_at 29 16 = some (.aload_n 0, 1) := rfl
theorem at_29_17 : ab_at 29 17 = some (.getfield 15, 3) := rfl
theorem at_29_20 : ab_at 29 20 = some (.aload_n 1, 1) := rfl
theorem at_29_21 : ab_at 29 21 = some (.getfield 61, 3) := rfl
theorem at_29_24 : ab_at 29 24 = some (.iload_n 2, 1) := rfl
theorem at_29_25 : ab_at 29 25 = some (.iaload, 1) := rfl
theorem at_29_26 : ab_at 29 26 = some (.laload, 1) := rfl
theorem at_29_27 : ab_at 29 27 = some (.lstore_n 3, 1) := rfl
theorem at_29_28 : ab_at 29 28 = some (.lload_n 3, 1) := rfl
theorem at_29_29 : ab_at 29 29 = some (.lconst 0, 1) := rfl
theorem at_29_30 : ab_at 29 30 = some (.lcmp, 1) := rfl
theorem at_29_31 : ab_at 29 31 = some (.ifCond .le 20, 3) := rfl
theorem at_29_34 : ab_at 29 34 = some (.lload_n 3, 1) := rfl
theorem at_29_35 : ab_at 29 35 = some (.ldc2_w 71, 3) := rfl
theorem at_29_38 : ab_at 29 38 = some (.lcmp, 1) := rfl
theorem at_29_39 : ab_at 29 39 = some (.ifCond .eq 12, 3) := rfl
theorem at_29_42 : ab_at 29 42 = some (.aload_n 1, 1) := rfl
theorem at_29_43 : ab_at 29 43 = some (.getfield 68, 3) := rfl
theorem at_29_46 : ab_at 29 46 = some (.iload_n 2, 1) := rfl
theorem at_29_47 : ab_at 29 47 = some (.iaload, 1) := rfl
theorem at_29_48 : ab_at 29 48 = some (.goto 9, 3) := rfl
theorem at_29_51 : ab_at 29 51 = some (.aload_n 1, 1) := rfl
theorem at_29_52 : ab_at 29 52 = some (.getfield 73, 3) := rfl
theorem at_29_55 : ab_at 29 55 = some (.iload_n 2, 1) := rfl
theorem at_29_56 : ab_at 29 56 = some (.iaload, 1) := rfl
theorem at_29_57 : ab_at 29 57 = some (.ireturn, 1) := rfl
theorem at_30_0 : ab_at 30 0 = some (.aload_n 1, 1) := rfl
theorem at_30_1 : ab_at 30 1 = some (.getfield 76, 3) := rfl
theorem at_30_4 : ab_at 30 4 = some (.iload_n 3, 1) := rfl
theorem at_30_5 : ab_at 30 5 = some (.iaload, 1) := rfl
theorem at_30_6 : ab_at 30 6 = some (.aload_n 1, 1) := rfl
theorem at_30_7 : ab_at 30 7 = some (.getfield 79, 3) := rfl
theorem at_30_10 : ab_at 30 10 = some (.iload_n 3, 1) := rfl
theorem at_30_11 : ab_at 30 11 = some (.iaload, 1) := rfl
theorem at_30_12 : ab_at 30 12 = some (.iadd, 1) := rfl
theorem at_30_13 : ab_at 30 13 = some (.istore 4, 2) := rfl
theorem at_30_15 : ab_at 30 15 = some (.aload_n 0, 1) := rfl
theorem at_30_16 : ab_at 30 16 = some (.aload_n 1, 1) := rfl
theorem at_30_17 : ab_at 30 17 = some (.aload_n 1, 1) := rfl
theorem at_30_18 : ab_at 30 18 = some (.iload_n 2, 1) := rfl
theorem at_30_19 : ab_at 30 19 = some (.iload_n 3, 1) := rfl
theorem at_30_20 : ab_at 30 20 = some (.invokevirtual 82, 3) := rfl
theorem at_30_23 : ab_at 30 23 = some (.aload_n 1, 1) := rfl
theorem at_30_24 : ab_at 30 24 = some (.getfield 76, 3) := rfl
theorem at_30_27 : ab_at 30 27 = some (.iload_n 3, 1) := rfl
theorem at_30_28 : ab_at 30 28 = some (.iaload, 1) := rfl
theorem at_30_29 : ab_at 30 29 = some (.iload 4, 2) := rfl
theorem at_30_31 : ab_at 30 31 = some (.invokevirtual 86, 3) := rfl
theorem at_30_34 : ab_at 30 34 = some (.aload_n 1, 1) := rfl
theorem at_30_35 : ab_at 30 35 = some (.getfield 76, 3) := rfl
theorem at_30_38 : ab_at 30 38 = some (.iload_n 3, 1) := rfl
theorem at_30_39 : ab_at 30 39 = some (.iaload, 1) := rfl
theorem at_30_40 : ab_at 30 40 = some (.istore 5, 2) := rfl
theorem at_30_42 : ab_at 30 42 = some (.iload 5, 2) := rfl
theorem at_30_44 : ab_at 30 44 = some (.iload 4, 2) := rfl
theorem at_30_46 : ab_at 30 46 = some (.if_icmp .ge 73, 3) := rfl
theorem at_30_49 : ab_at 30 49 = some (.aload_n 1, 1) := rfl
theorem at_30_50 : ab_at 30 50 = some (.getfield 90, 3) := rfl
theorem at_30_53 : ab_at 30 53 = some (.iload 5, 2) := rfl
theorem at_30_55 : ab_at 30 55 = some (.iaload, 1) := rfl
theorem at_30_56 : ab_at 30 56 = some (.bipush 7, 2) := rfl
theorem at_30_58 : ab_at 30 58 = some (.if_icmp .eq 55, 3) := rfl
theorem at_30_61 : ab_at 30 61 = some (.aload_n 1, 1) := rfl
theorem at_30_62 : ab_at 30 62 = some (.getfield 90, 3) := rfl
theorem at_30_65 : ab_at 30 65 = some (.iload 5, 2) := rfl
theorem at_30_67 : ab_at 30 67 = some (.iaload, 1) := rfl
theorem at_30_68 : ab_at 30 68 = some (.bipush 8, 2) := rfl
theorem at_30_70 : ab_at 30 70 = some (.if_icmp .ne 6, 3) := rfl
theorem at_30_73 : ab_at 30 73 = some (.goto 40, 3) := rfl
theorem at_30_76 : ab_at 30 76 = some (.aload_n 0, 1) := rfl
theorem at_30_77 : ab_at 30 77 = some (.getfield 15, 3) := rfl
theorem at_30_80 : ab_at 30 80 = some (.iload 5, 2) := rfl
theorem at_30_82 : ab_at 30 82 = some (.aload_n 0, 1) := rfl
theorem at_30_83 : ab_at 30 83 = some (.aload_n 1, 1) := rfl
theorem at_30_84 : ab_at 30 84 = some (.iload 5, 2) := rfl
theorem at_30_86 : ab_at 30 86 = some (.invokevirtual 93, 3) := rfl
theorem at_30_89 : ab_at 30 89 = some (.lastore, 1) := rfl
theorem at_30_90 : ab_at 30 90 = some (.aload_n 0, 1) := rfl
theorem at_30_91 : ab_at 30 91 = some (.dup, 1) := rfl
theorem at_30_92 : ab_at 30 92 = some (.getfield 42, 3) := rfl
theorem at_30_95 : ab_at 30 95 = some (.iconst 1, 1) := rfl
theorem at_30_96 : ab_at 30 96 = some (.iadd, 1) := rfl
theorem at_30_97 : ab_at 30 97 = some (.putfield 42, 3) := rfl
theorem at_30_100 : ab_at 30 100 = some (.iload 5, 2) := rfl
theorem at_30_102 : ab_at 30 102 = some (.aload_n 0, 1) := rfl
theorem at_30_103 : ab_at 30 103 = some (.getfield 22, 3) := rfl
theorem at_30_106 : ab_at 30 106 = some (.if_icmp .ne 7, 3) := rfl
theorem at_30_109 : ab_at 30 109 = some (.aload_n 0, 1) := rfl
theorem at_30_110 : ab_at 30 110 = some (.invokevirtual 97, 3) := rfl
theorem at_30_113 : ab_at 30 113 = some (.iinc 5 1, 3) := rfl
theorem at_30_116 : ab_at 30 116 = some (.goto (-74), 3) := rfl
theorem at_30_119 : ab_at 30 119 = some (.return_, 1) := rfl
theorem at_31_0 : ab_at 31 0 = some (.iload_n 2, 1) := rfl
theorem at_31_1 : ab_at 31 1 = some (.ifCond .ge 4, 3) := rfl
theorem at_31_4 : ab_at 31 4 = some (.return_, 1) := rfl
theorem at_31_5 : ab_at 31 5 = some (.iconst 0, 1) := rfl
theorem at_31_6 : ab_at 31 6 = some (.istore 5, 2) := rfl
theorem at_31_8 : ab_at 31 8 = some (.iload_n 3, 1) := rfl
theorem at_31_9 : ab_at 31 9 = some (.istore 6, 2) := rfl
theorem at_31_11 : ab_at 31 11 = some (.iload 6, 2) := rfl
theorem at_31_13 : ab_at 31 13 = some (.iload 4, 2) := rfl
theorem at_31_15 : ab_at 31 15 = some (.if_icmp .ge 42, 3) := rfl
theorem at_31_18 : ab_at 31 18 = some (.aload_n 1, 1) := rfl
theorem at_31_19 : ab_at 31 19 = some (.getfield 90, 3) := rfl
theorem at_31_22 : ab_at 31 22 = some (.iload 6, 2) := rfl
theorem at_31_24 : ab_at 31 24 = some (.iaload, 1) := rfl
theorem at_31_25 : ab_at 31 25 = some (.bipush 7, 2) := rfl
theorem at_31_27 : ab_at 31 27 = some (.if_icmp .ne 24, 3) := rfl
theorem at_31_30 : ab_at 31 30 = some (.aload_n 0, 1) := rfl
theorem at_31_31 : ab_at 31 31 = some (.getfield 19, 3) := rfl
theorem at_31_34 : ab_at 31 34 = some (.iload 6, 2) := rfl
theorem at_31_36 : ab_at 31 36 = some (.aload_n 0, 1) := rfl
theorem at_31_37 : ab_at 31 37 = some (.getfield 15, 3) := rfl
theorem at_31_40 : ab_at 31 40 = some (.aload_n 1, 1) := rfl
theorem at_31_41 : ab_at 31 41 = some (.getfield 100, 3) := rfl
theorem at_31_44 : ab_at 31 44 = some (.iload 6, 2) := rfl
theorem at_31_46 : ab_at 31 46 = some (.aaload, 1) := rfl
theorem at_31_47 : ab_at 31 47 = some (.iload_n 2, 1) := rfl
theorem at_31_48 : ab_at 31 48 = some (.iaload, 1) := rfl
theorem at_31_49 : ab_at 31 49 = some (.laload, 1) := rfl
theorem at_31_50 : ab_at 31 50 = some (.lastore, 1) := rfl
theorem at_31_51 : ab_at 31 51 = some (.iinc 6 1, 3) := rfl
theorem at_31_54 : ab_at 31 54 = some (.goto (-43), 3) := rfl
theorem at_31_57 : ab_at 31 57 = some (.iload_n 3, 1) := rfl
theorem at_31_58 : ab_at 31 58 = some (.istore 6, 2) := rfl
theorem at_31_60 : ab_at 31 60 = some (.iload 6, 2) := rfl
theorem at_31_62 : ab_at 31 62 = some (.iload 4, 2) := rfl
theorem at_31_64 : ab_at 31 64 = some (.if_icmp .ge 60, 3) := rfl
theorem at_31_67 : ab_at 31 67 = some (.aload_n 1, 1) := rfl
theorem at_31_68 : ab_at 31 68 = some (.getfield 90, 3) := rfl
theorem at_31_71 : ab_at 31 71 = some (.iload 6, 2) := rfl
theorem at_31_73 : ab_at 31 73 = some (.iaload, 1) := rfl
theorem at_31_74 : ab_at 31 74 = some (.bipush 7, 2) := rfl
theorem at_31_76 : ab_at 31 76 = some (.if_icmp .eq 6, 3) := rfl
theorem at_31_79 : ab_at 31 79 = some (.goto 39, 3) := rfl
theorem at_31_82 : ab_at 31 82 = some (.aload_n 0, 1) := rfl
theorem at_31_83 : ab_at 31 83 = some (.getfield 15, 3) := rfl
theorem at_31_86 : ab_at 31 86 = some (.iload 6, 2) := rfl
theorem at_31_88 : ab_at 31 88 = some (.aload_n 0, 1) := rfl
theorem at_31_89 : ab_at 31 89 = some (.getfield 19, 3) := rfl
theorem at_31_92 : ab_at 31 92 = some (.iload 6, 2) := rfl
theorem at_31_94 : ab_at 31 94 = some (.laload, 1) := rfl
theorem at_31_95 : ab_at 31 95 = some (.lastore, 1) := rfl
theorem at_31_96 : ab_at 31 96 = some (.aload_n 0, 1) := rfl
theorem at_31_97 : ab_at 31 97 = some (.dup, 1) := rfl
theorem at_31_98 : ab_at 31 98 = some (.getfield 42, 3) := rfl
theorem at_31_101 : ab_at 31 101 = some (.iconst 1, 1) := rfl
theorem at_31_102 : ab_at 31 102 = some (.iadd, 1) := rfl
theorem at_31_103 : ab_at 31 103 = some (.putfield 42, 3) := rfl
theorem at_31_106 : ab_at 31 106 = some (.iload 6, 2) := rfl
theorem at_31_108 : ab_at 31 108 = some (.aload_n 0, 1) := rfl
theorem at_31_109 : ab_at 31 109 = some (.getfield 22, 3) := rfl
theorem at_31_112 : ab_at 31 112 = some (.if_icmp .ne 6, 3) := rfl
theorem at_31_115 : ab_at 31 115 = some (.iconst 1, 1) := rfl
theorem at_31_116 : ab_at 31 116 = some (.istore 5, 2) := rfl
theorem at_31_118 : ab_at 31 118 = some (.iinc 6 1, 3) := rfl
theorem at_31_121 : ab_at 31 121 = some (.goto (-61), 3) := rfl
theorem at_31_124 : ab_at 31 124 = some (.iload 5, 2) := rfl
theorem at_31_126 : ab_at 31 126 = some (.ifCond .eq 7, 3) := rfl
theorem at_31_129 : ab_at 31 129 = some (.aload_n 0, 1) := rfl
theorem at_31_130 : ab_at 31 130 = some (.invokevirtual 97, 3) := rfl
theorem at_31_133 : ab_at 31 133 = some (.return_, 1) := rfl
theorem at_32_0 : ab_at 32 0 = some (.aload_n 1, 1) := rfl
theorem at_32_1 : ab_at 32 1 = some (.getfield 90, 3) := rfl
theorem at_32_4 : ab_at 32 4 = some (.iload_n 2, 1) := rfl
theorem at_32_5 : ab_at 32 5 = some (.iaload, 1) := rfl
theorem at_32_6 : ab_at 32 6 = some (.ifCond .ne 28, 3) := rfl
theorem at_32_9 : ab_at 32 9 = some (.aload_n 1, 1) := rfl
theorem at_32_10 : ab_at 32 10 = some (.getfield 104, 3) := rfl
theorem at_32_13 : ab_at 32 13 = some (.iload_n 2, 1) := rfl
theorem at_32_14 : ab_at 32 14 = some (.iaload, 1) := rfl
theorem at_32_15 : ab_at 32 15 = some (.bipush 99, 2) := rfl
theorem at_32_17 : ab_at 32 17 = some (.if_icmp .ne 9, 3) := rfl
theorem at_32_20 : ab_at 32 20 = some (.ldc2_w 71, 3) := rfl
theorem at_32_23 : ab_at 32 23 = some (.goto 10, 3) := rfl
theorem at_32_26 : ab_at 32 26 = some (.aload_n 1, 1) := rfl
theorem at_32_27 : ab_at 32 27 = some (.getfield 104, 3) := rfl
theorem at_32_30 : ab_at 32 30 = some (.iload_n 2, 1) := rfl
theorem at_32_31 : ab_at 32 31 = some (.iaload, 1) := rfl
theorem at_32_32 : ab_at 32 32 = some (.i2l, 1) := rfl
theorem at_32_33 : ab_at 32 33 = some (.lreturn, 1) := rfl
theorem at_32_34 : ab_at 32 34 = some (.aload_n 1, 1) := rfl
theorem at_32_35 : ab_at 32 35 = some (.getfield 90, 3) := rfl
theorem at_32_38 : ab_at 32 38 = some (.iload_n 2, 1) := rfl
theorem at_32_39 : ab_at 32 39 = some (.iaload, 1) := rfl
theorem at_32_40 : ab_at 32 40 = some (.iconst 1, 1) := rfl
theorem at_32_41 : ab_at 32 41 = some (.if_icmp .ne 16, 3) := rfl
theorem at_32_44 : ab_at 32 44 = some (.aload_n 0, 1) := rfl
theorem at_32_45 : ab_at 32 45 = some (.getfield 9, 3) := rfl
theorem at_32_48 : ab_at 32 48 = some (.aload_n 1, 1) := rfl
theorem at_32_49 : ab_at 32 49 = some (.getfield 104, 3) := rfl
theorem at_32_52 : ab_at 32 52 = some (.iload_n 2, 1) := rfl
theorem at_32_53 : ab_at 32 53 = some (.iaload, 1) := rfl
theorem at_32_54 : ab_at 32 54 = some (.iaload, 1) := rfl
theorem at_32_55 : ab_at 32 55 = some (.i2l, 1) := rfl
theorem at_32_56 : ab_at 32 56 = some (.lreturn, 1) := rfl
theorem at_32_57 : ab_at 32 57 = some (.aload_n 0, 1) := rfl
theorem at_32_58 : ab_at 32 58 = some (.getfield 15, 3) := rfl
theorem at_32_61 : ab_at 32 61 = some (.aload_n 1, 1) := rfl
theorem at_32_62 : ab_at 32 62 = some (.getfield 100, 3) := rfl
theorem at_32_65 : ab_at 32 65 = some (.iload_n 2, 1) := rfl
theorem at_32_66 : ab_at 32 66 = some (.aaload, 1) := rfl
theorem at_32_67 : ab_at 32 67 = some (.iconst 0, 1) := rfl
theorem at_32_68 : ab_at 32 68 = some (.iaload, 1) := rfl
theorem at_32_69 : ab_at 32 69 = some (.laload, 1) := rfl
theorem at_32_70 : ab_at 32 70 = some (.lstore_n 3, 1) := rfl
theorem at_32_71 : ab_at 32 71 = some (.aload_n 1, 1) := rfl
theorem at_32_72 : ab_at 32 72 = some (.getfield 90, 3) := rfl
theorem at_32_75 : ab_at 32 75 = some (.iload_n 2, 1) := rfl
theorem at_32_76 : ab_at 32 76 = some (.iaload, 1) := rfl
theorem at_32_77 : ab_at 32 77 = some (.iconst 4, 1) := rfl
theorem at_32_78 : ab_at 32 78 = some (.if_icmp .ne 12, 3) := rfl
theorem at_32_81 : ab_at 32 81 = some (.iconst 4, 1) := rfl
theorem at_32_82 : ab_at 32 82 = some (.lload_n 3, 1) := rfl
theorem at_32_83 : ab_at 32 83 = some (.lconst 0, 1) := rfl
theorem at_32_84 : ab_at 32 84 = some (.invokestatic 107, 3) := rfl
theorem at_32_87 : ab_at 32 87 = some (.goto 26, 3) := rfl
theorem at_32_90 : ab_at 32 90 = some (.aload_n 1, 1) := rfl
theorem at_32_91 : ab_at 32 91 = some (.getfield 90, 3) := rfl
theorem at_32_94 : ab_at 32 94 = some (.iload_n 2, 1) := rfl
theorem at_32_95 : ab_at 32 95 = some (.iaload, 1) := rfl
theorem at_32_96 : ab_at 32 96 = some (.lload_n 3, 1) := rfl
theorem at_32_97 : ab_at 32 97 = some (.aload_n 0, 1) := rfl
theorem at_32_98 : ab_at 32 98 = some (.getfield 15, 3) := rfl
theorem at_32_101 : ab_at 32 101 = some (.aload_n 1, 1) := rfl
theorem at_32_102 : ab_at 32 102 = some (.getfield 100, 3) := rfl
theorem at_32_105 : ab_at 32 105 = some (.iload_n 2, 1) := rfl
theorem at_32_106 : ab_at 32 106 = some (.aaload, 1) := rfl
theorem at_32_107 : ab_at 32 107 = some (.iconst 1, 1) := rfl
theorem at_32_108 : ab_at 32 108 = some (.iaload, 1) := rfl
theorem at_32_109 : ab_at 32 109 = some (.laload, 1) := rfl
theorem at_32_110 : ab_at 32 110 = some (.invokestatic 107, 3) := rfl
theorem at_32_113 : ab_at 32 113 = some (.lreturn, 1) := rfl
theorem at_33_0 : ab_at 33 0 = some (.aload_n 0, 1) := rfl
theorem at_33_1 : ab_at 33 1 = some (.getfield 15, 3) := rfl
theorem at_33_4 : ab_at 33 4 = some (.aload_n 0, 1) := rfl
theorem at_33_5 : ab_at 33 5 = some (.getfield 26, 3) := rfl
theorem at_33_8 : ab_at 33 8 = some (.laload, 1) := rfl
theorem at_33_9 : ab_at 33 9 = some (.ldc2_w 37, 3) := rfl
theorem at_33_12 : ab_at 33 12 = some (.lcmp, 1) := rfl
theorem at_33_13 : ab_at 33 13 = some (.ifCond .eq 35, 3) := rfl
theorem at_33_16 : ab_at 33 16 = some (.aload_n 0, 1) := rfl
theorem at_33_17 : ab_at 33 17 = some (.getfield 15, 3) := rfl
theorem at_33_20 : ab_at 33 20 = some (.aload_n 0, 1) := rfl
theorem at_33_21 : ab_at 33 21 = some (.getfield 26, 3) := rfl
theorem at_33_24 : ab_at 33 24 = some (.laload, 1) := rfl
theorem at_33_25 : ab_at 33 25 = some (.aload_n 0, 1) := rfl
theorem at_33_26 : ab_at 33 26 = some (.getfield 15, 3) := rfl
theorem at_33_29 : ab_at 33 29 = some (.aload_n 0, 1) := rfl
theorem at_33_30 : ab_at 33 30 = some (.getfield 22, 3) := rfl
theorem at_33_33 : ab_at 33 33 = some (.laload, 1) := rfl
theorem at_33_34 : ab_at 33 34 = some (.lcmp, 1) := rfl
theorem at_33_35 : ab_at 33 35 = some (.ifCond .eq 13, 3) := rfl
theorem at_33_38 : ab_at 33 38 = some (.aload_n 0, 1) := rfl
theorem at_33_39 : ab_at 33 39 = some (.dup, 1) := rfl
theorem at_33_40 : ab_at 33 40 = some (.getfield 34, 3) := rfl
theorem at_33_43 : ab_at 33 43 = some (.iconst 1, 1) := rfl
theorem at_33_44 : ab_at 33 44 = some (.iadd, 1) := rfl
theorem at_33_45 : ab_at 33 45 = some (.putfield 34, 3) := rfl
theorem at_33_48 : ab_at 33 48 = some (.return_, 1) := rfl
