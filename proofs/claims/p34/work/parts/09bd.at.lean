theorem at_96_0 : ab_at 96 0 = some (.iload_n 1, 1) := rfl
theorem at_96_1 : ab_at 96 1 = some (.ifCond .lt 9, 3) := rfl
theorem at_96_4 : ab_at 96 4 = some (.iload_n 1, 1) := rfl
theorem at_96_5 : ab_at 96 5 = some (.bipush 127, 2) := rfl
theorem at_96_7 : ab_at 96 7 = some (.if_icmp .le 5, 3) := rfl
theorem at_96_10 : ab_at 96 10 = some (.iconst (-1), 1) := rfl
theorem at_96_11 : ab_at 96 11 = some (.ireturn, 1) := rfl
theorem at_96_12 : ab_at 96 12 = some (.aload_n 0, 1) := rfl
theorem at_96_13 : ab_at 96 13 = some (.getfield 10, 3) := rfl
theorem at_96_16 : ab_at 96 16 = some (.getfield 66, 3) := rfl
theorem at_96_19 : ab_at 96 19 = some (.iload_n 1, 1) := rfl
theorem at_96_20 : ab_at 96 20 = some (.invokevirtual 70, 3) := rfl
theorem at_96_23 : ab_at 96 23 = some (.ifCond .eq 16, 3) := rfl
theorem at_96_26 : ab_at 96 26 = some (.aload_n 0, 1) := rfl
theorem at_96_27 : ab_at 96 27 = some (.getfield 10, 3) := rfl
theorem at_96_30 : ab_at 96 30 = some (.getfield 66, 3) := rfl
theorem at_96_33 : ab_at 96 33 = some (.getfield 76, 3) := rfl
theorem at_96_36 : ab_at 96 36 = some (.goto 5, 3) := rfl
theorem at_96_39 : ab_at 96 39 = some (.bipush (-3), 2) := rfl
theorem at_96_41 : ab_at 96 41 = some (.ireturn, 1) := rfl
theorem at_98_0 : ab_at 98 0 = some (.aload_n 0, 1) := rfl
theorem at_98_1 : ab_at 98 1 = some (.getfield 10, 3) := rfl
theorem at_98_4 : ab_at 98 4 = some (.invokevirtual 80, 3) := rfl
theorem at_98_7 : ab_at 98 7 = some (.istore_n 1, 1) := rfl
theorem at_98_8 : ab_at 98 8 = some (.aload_n 0, 1) := rfl
theorem at_98_9 : ab_at 98 9 = some (.getfield 10, 3) := rfl
theorem at_98_12 : ab_at 98 12 = some (.getfield 66, 3) := rfl
theorem at_98_15 : ab_at 98 15 = some (.iconst 0, 1) := rfl
theorem at_98_16 : ab_at 98 16 = some (.putfield 76, 3) := rfl
theorem at_98_19 : ab_at 98 19 = some (.iload_n 1, 1) := rfl
theorem at_98_20 : ab_at 98 20 = some (.ifCond .ne 14, 3) := rfl
theorem at_98_23 : ab_at 98 23 = some (.bipush (-10), 2) := rfl
theorem at_98_25 : ab_at 98 25 = some (.aload_n 0, 1) := rfl
theorem at_98_26 : ab_at 98 26 = some (.getfield 10, 3) := rfl
theorem at_98_29 : ab_at 98 29 = some (.getfield 84, 3) := rfl
theorem at_98_32 : ab_at 98 32 = some (.isub, 1) := rfl
theorem at_98_33 : ab_at 98 33 = some (.ireturn, 1) := rfl
theorem at_98_34 : ab_at 98 34 = some (.aload_n 0, 1) := rfl
theorem at_98_35 : ab_at 98 35 = some (.getfield 62, 3) := rfl
theorem at_98_38 : ab_at 98 38 = some (.aload_n 0, 1) := rfl
theorem at_98_39 : ab_at 98 39 = some (.getfield 10, 3) := rfl
theorem at_98_42 : ab_at 98 42 = some (.getfield 87, 3) := rfl
theorem at_98_45 : ab_at 98 45 = some (.invokevirtual 90, 3) := rfl
theorem at_98_48 : ab_at 98 48 = some (.iconst 0, 1) := rfl
theorem at_98_49 : ab_at 98 49 = some (.istore_n 2, 1) := rfl
theorem at_98_50 : ab_at 98 50 = some (.iload_n 2, 1) := rfl
theorem at_98_51 : ab_at 98 51 = some (.iconst 2, 1) := rfl
theorem at_98_52 : ab_at 98 52 = some (.if_icmp .ge 16, 3) := rfl
theorem at_98_55 : ab_at 98 55 = some (.aload_n 0, 1) := rfl
theorem at_98_56 : ab_at 98 56 = some (.getfield 53, 3) := rfl
theorem at_98_59 : ab_at 98 59 = some (.iload_n 2, 1) := rfl
theorem at_98_60 : ab_at 98 60 = some (.iconst 0, 1) := rfl
theorem at_98_61 : ab_at 98 61 = some (.bastore, 1) := rfl
theorem at_98_62 : ab_at 98 62 = some (.iinc 2 1, 3) := rfl
theorem at_98_65 : ab_at 98 65 = some (.goto (-15), 3) := rfl
theorem at_98_68 : ab_at 98 68 = some (.aload_n 0, 1) := rfl
theorem at_98_69 : ab_at 98 69 = some (.getfield 19, 3) := rfl
theorem at_98_72 : ab_at 98 72 = some (.invokevirtual 94, 3) := rfl
theorem at_98_75 : ab_at 98 75 = some (.aload_n 0, 1) := rfl
theorem at_98_76 : ab_at 98 76 = some (.getfield 62, 3) := rfl
theorem at_98_79 : ab_at 98 79 = some (.getfield 97, 3) := rfl
theorem at_98_82 : ab_at 98 82 = some (.ireturn, 1) := rfl
theorem at_99_0 : ab_at 99 0 = some (.aload_n 0, 1) := rfl
theorem at_99_1 : ab_at 99 1 = some (.getfield 10, 3) := rfl
theorem at_99_4 : ab_at 99 4 = some (.getfield 100, 3) := rfl
theorem at_99_7 : ab_at 99 7 = some (.ireturn, 1) := rfl
theorem at_100_0 : ab_at 100 0 = some (.iload_n 1, 1) := rfl
theorem at_100_1 : ab_at 100 1 = some (.tableswitch 79 0 4 #[35, 43, 51, 61, 71], 35) := rfl
theorem at_100_36 : ab_at 100 36 = some (.aload_n 0, 1) := rfl
theorem at_100_37 : ab_at 100 37 = some (.getfield 62, 3) := rfl
theorem at_100_40 : ab_at 100 40 = some (.getfield 103, 3) := rfl
theorem at_100_43 : ab_at 100 43 = some (.ireturn, 1) := rfl
theorem at_100_44 : ab_at 100 44 = some (.aload_n 0, 1) := rfl
theorem at_100_45 : ab_at 100 45 = some (.getfield 62, 3) := rfl
theorem at_100_48 : ab_at 100 48 = some (.getfield 97, 3) := rfl
theorem at_100_51 : ab_at 100 51 = some (.ireturn, 1) := rfl
theorem at_100_52 : ab_at 100 52 = some (.aload_n 0, 1) := rfl
theorem at_100_53 : ab_at 100 53 = some (.getfield 62, 3) := rfl
theorem at_100_56 : ab_at 100 56 = some (.bipush 8, 2) := rfl
theorem at_100_58 : ab_at 100 58 = some (.invokevirtual 106, 3) := rfl
theorem at_100_61 : ab_at 100 61 = some (.ireturn, 1) := rfl
theorem at_100_62 : ab_at 100 62 = some (.aload_n 0, 1) := rfl
theorem at_100_63 : ab_at 100 63 = some (.getfield 62, 3) := rfl
theorem at_100_66 : ab_at 100 66 = some (.bipush 7, 2) := rfl
theorem at_100_68 : ab_at 100 68 = some (.invokevirtual 106, 3) := rfl
theorem at_100_71 : ab_at 100 71 = some (.ireturn, 1) := rfl
theorem at_100_72 : ab_at 100 72 = some (.aload_n 0, 1) := rfl
theorem at_100_73 : ab_at 100 73 = some (.getfield 62, 3) := rfl
theorem at_100_76 : ab_at 100 76 = some (.invokevirtual 110, 3) := rfl
theorem at_100_79 : ab_at 100 79 = some (.ireturn, 1) := rfl
theorem at_100_80 : ab_at 100 80 = some (.iconst (-1), 1) := rfl
theorem at_100_81 : ab_at 100 81 = some (.ireturn, 1) := rfl
theorem at_103_0 : ab_at 103 0 = some (.aload_n 0, 1) := rfl
theorem at_103_1 : ab_at 103 1 = some (.getfield 62, 3) := rfl
theorem at_103_4 : ab_at 103 4 = some (.iload_n 1, 1) := rfl
theorem at_103_5 : ab_at 103 5 = some (.invokevirtual 148, 3) := rfl
theorem at_103_8 : ab_at 103 8 = some (.ifCond .ne 5, 3) := rfl
theorem at_103_11 : ab_at 103 11 = some (.iconst (-1), 1) := rfl
theorem at_103_12 : ab_at 103 12 = some (.ireturn, 1) := rfl
theorem at_103_13 : ab_at 103 13 = some (.iload_n 2, 1) := rfl
theorem at_103_14 : ab_at 103 14 = some (.tableswitch 99 0 4 #[34, 44, 54, 64, 90], 34) := rfl
theorem at_103_48 : ab_at 103 48 = some (.aload_n 0, 1) := rfl
theorem at_103_49 : ab_at 103 49 = some (.getfield 62, 3) := rfl
theorem at_103_52 : ab_at 103 52 = some (.getfield 151, 3) := rfl
theorem at_103_55 : ab_at 103 55 = some (.iload_n 1, 1) := rfl
theorem at_103_56 : ab_at 103 56 = some (.iaload, 1) := rfl
theorem at_103_57 : ab_at 103 57 = some (.ireturn, 1) := rfl
theorem at_103_58 : ab_at 103 58 = some (.aload_n 0, 1) := rfl
theorem at_103_59 : ab_at 103 59 = some (.getfield 62, 3) := rfl
theorem at_103_62 : ab_at 103 62 = some (.getfield 154, 3) := rfl
theorem at_103_65 : ab_at 103 65 = some (.iload_n 1, 1) := rfl
theorem at_103_66 : ab_at 103 66 = some (.iaload, 1) := rfl
theorem at_103_67 : ab_at 103 67 = some (.ireturn, 1) := rfl
theorem at_103_68 : ab_at 103 68 = some (.aload_n 0, 1) := rfl
theorem at_103_69 : ab_at 103 69 = some (.getfield 62, 3) := rfl
theorem at_103_72 : ab_at 103 72 = some (.getfield 157, 3) := rfl
theorem at_103_75 : ab_at 103 75 = some (.iload_n 1, 1) := rfl
theorem at_103_76 : ab_at 103 76 = some (.iaload, 1) := rfl
theorem at_103_77 : ab_at 103 77 = some (.ireturn, 1) := rfl
theorem at_103_78 : ab_at 103 78 = some (.aload_n 0, 1) := rfl
theorem at_103_79 : ab_at 103 79 = some (.getfield 62, 3) := rfl
theorem at_103_82 : ab_at 103 82 = some (.iload_n 1, 1) := rfl
theorem at_103_83 : ab_at 103 83 = some (.invokevirtual 160, 3) := rfl
theorem at_103_86 : ab_at 103 86 = some (.ifCond .eq 15, 3) := rfl
theorem at_103_89 : ab_at 103 89 = some (.aload_n 0, 1) := rfl
theorem at_103_90 : ab_at 103 90 = some (.getfield 62, 3) := rfl
theorem at_103_93 : ab_at 103 93 = some (.getfield 163, 3) := rfl
theorem at_103_96 : ab_at 103 96 = some (.iload_n 1, 1) := rfl
theorem at_103_97 : ab_at 103 97 = some (.iaload, 1) := rfl
theorem at_103_98 : ab_at 103 98 = some (.goto 5, 3) := rfl
theorem at_103_101 : ab_at 103 101 = some (.bipush (-4), 2) := rfl
theorem at_103_103 : ab_at 103 103 = some (.ireturn, 1) := rfl
theorem at_103_104 : ab_at 103 104 = some (.aload_n 0, 1) := rfl
theorem at_103_105 : ab_at 103 105 = some (.getfield 62, 3) := rfl
theorem at_103_108 : ab_at 103 108 = some (.iload_n 1, 1) := rfl
theorem at_103_109 : ab_at 103 109 = some (.invokevirtual 166, 3) := rfl
theorem at_103_112 : ab_at 103 112 = some (.ireturn, 1) := rfl
theorem at_103_113 : ab_at 103 113 = some (.iconst (-1), 1) := rfl
theorem at_103_114 : ab_at 103 114 = some (.ireturn, 1) := rfl
theorem at_104_0 : ab_at 104 0 = some (.aload_n 0, 1) := rfl
theorem at_104_1 : ab_at 104 1 = some (.getfield 62, 3) := rfl
theorem at_104_4 : ab_at 104 4 = some (.iload_n 1, 1) := rfl
theorem at_104_5 : ab_at 104 5 = some (.iload_n 2, 1) := rfl
theorem at_104_6 : ab_at 104 6 = some (.invokevirtual 169, 3) := rfl
theorem at_104_9 : ab_at 104 9 = some (.ifCond .eq 17, 3) := rfl
theorem at_104_12 : ab_at 104 12 = some (.aload_n 0, 1) := rfl
theorem at_104_13 : ab_at 104 13 = some (.getfield 62, 3) := rfl
theorem at_104_16 : ab_at 104 16 = some (.getfield 173, 3) := rfl
theorem at_104_19 : ab_at 104 19 = some (.iload_n 1, 1) := rfl
theorem at_104_20 : ab_at 104 20 = some (.aaload, 1) := rfl
theorem at_104_21 : ab_at 104 21 = some (.iload_n 2, 1) := rfl
theorem at_104_22 : ab_at 104 22 = some (.iaload, 1) := rfl
theorem at_104_23 : ab_at 104 23 = some (.goto 4, 3) := rfl
theorem at_104_26 : ab_at 104 26 = some (.iconst (-1), 1) := rfl
theorem at_104_27 : ab_at 104 27 = some (.ireturn, 1) := rfl
theorem at_105_0 : ab_at 105 0 = some (.aload_n 0, 1) := rfl
theorem at_105_1 : ab_at 105 1 = some (.getfield 62, 3) := rfl
theorem at_105_4 : ab_at 105 4 = some (.iload_n 1, 1) := rfl
theorem at_105_5 : ab_at 105 5 = some (.invokevirtual 148, 3) := rfl
theorem at_105_8 : ab_at 105 8 = some (.ifCond .eq 14, 3) := rfl
theorem at_105_11 : ab_at 105 11 = some (.aload_n 0, 1) := rfl
theorem at_105_12 : ab_at 105 12 = some (.getfield 62, 3) := rfl
theorem at_105_15 : ab_at 105 15 = some (.iload_n 2, 1) := rfl
theorem at_105_16 : ab_at 105 16 = some (.invokevirtual 148, 3) := rfl
theorem at_105_19 : ab_at 105 19 = some (.ifCond .ne 5, 3) := rfl
theorem at_105_22 : ab_at 105 22 = some (.iconst (-1), 1) := rfl
theorem at_105_23 : ab_at 105 23 = some (.ireturn, 1) := rfl
theorem at_105_24 : ab_at 105 24 = some (.aload_n 0, 1) := rfl
theorem at_105_25 : ab_at 105 25 = some (.getfield 62, 3) := rfl
theorem at_105_28 : ab_at 105 28 = some (.iload_n 1, 1) := rfl
theorem at_105_29 : ab_at 105 29 = some (.iload_n 2, 1) := rfl
theorem at_105_30 : ab_at 105 30 = some (.invokevirtual 176, 3) := rfl
theorem at_105_33 : ab_at 105 33 = some (.ifCond .eq 7, 3) := rfl
theorem at_105_36 : ab_at 105 36 = some (.iconst 1, 1) := rfl
theorem at_105_37 : ab_at 105 37 = some (.goto 4, 3) := rfl
theorem at_105_40 : ab_at 105 40 = some (.iconst 0, 1) := rfl
theorem at_105_41 : ab_at 105 41 = some (.ireturn, 1) := rfl
theorem at_106_0 : ab_at 106 0 = some (.aload_n 0, 1) := rfl
theorem at_106_1 : ab_at 106 1 = some (.getfield 19, 3) := rfl
theorem at_106_4 : ab_at 106 4 = some (.iload_n 1, 1) := rfl
theorem at_106_5 : ab_at 106 5 = some (.iload_n 2, 1) := rfl
theorem at_106_6 : ab_at 106 6 = some (.iload_n 3, 1) := rfl
theorem at_106_7 : ab_at 106 7 = some (.iload 4, 2) := rfl
theorem at_106_9 : ab_at 106 9 = some (.invokevirtual 179, 3) := rfl
theorem at_106_12 : ab_at 106 12 = some (.aload_n 0, 1) := rfl
theorem at_106_13 : ab_at 106 13 = some (.getfield 19, 3) := rfl
theorem at_106_16 : ab_at 106 16 = some (.aload_n 0, 1) := rfl
theorem at_106_17 : ab_at 106 17 = some (.getfield 62, 3) := rfl
theorem at_106_20 : ab_at 106 20 = some (.invokevirtual 183, 3) := rfl
theorem at_106_23 : ab_at 106 23 = some (.lreturn, 1) := rfl
theorem at_107_0 : ab_at 107 0 = some (.aload_n 0, 1) := rfl
theorem at_107_1 : ab_at 107 1 = some (.getfield 62, 3) := rfl
theorem at_107_4 : ab_at 107 4 = some (.iload_n 1, 1) := rfl
theorem at_107_5 : ab_at 107 5 = some (.invokevirtual 148, 3) := rfl
theorem at_107_8 : ab_at 107 8 = some (.ifCond .ne 7, 3) := rfl
theorem at_107_11 : ab_at 107 11 = some (.ldc2_w 187, 3) := rfl
theorem at_107_14 : ab_at 107 14 = some (.lreturn, 1) := rfl
theorem at_107_15 : ab_at 107 15 = some (.aload_n 0, 1) := rfl
theorem at_107_16 : ab_at 107 16 = some (.getfield 19, 3) := rfl
theorem at_107_19 : ab_at 107 19 = some (.getfield 189, 3) := rfl
theorem at_107_22 : ab_at 107 22 = some (.ifCond .eq 15, 3) := rfl
theorem at_107_25 : ab_at 107 25 = some (.aload_n 0, 1) := rfl
theorem at_107_26 : ab_at 107 26 = some (.getfield 19, 3) := rfl
theorem at_107_29 : ab_at 107 29 = some (.getfield 193, 3) := rfl
theorem at_107_32 : ab_at 107 32 = some (.iload_n 1, 1) := rfl
theorem at_107_33 : ab_at 107 33 = some (.laload, 1) := rfl
theorem at_107_34 : ab_at 107 34 = some (.goto 6, 3) := rfl
theorem at_107_37 : ab_at 107 37 = some (.ldc2_w 197, 3) := rfl
theorem at_107_40 : ab_at 107 40 = some (.lreturn, 1) := rfl
theorem at_108_0 : ab_at 108 0 = some (.iload_n 1, 1) := rfl
theorem at_108_1 : ab_at 108 1 = some (.ifCond .lt 8, 3) := rfl
theorem at_108_4 : ab_at 108 4 = some (.iload_n 1, 1) := rfl
theorem at_108_5 : ab_at 108 5 = some (.iconst 2, 1) := rfl
theorem at_108_6 : ab_at 108 6 = some (.if_icmp .le 5, 3) := rfl
theorem at_108_9 : ab_at 108 9 = some (.iconst (-1), 1) := rfl
theorem at_108_10 : ab_at 108 10 = some (.ireturn, 1) := rfl
theorem at_108_11 : ab_at 108 11 = some (.aload_n 0, 1) := rfl
theorem at_108_12 : ab_at 108 12 = some (.getfield 19, 3) := rfl
theorem at_108_15 : ab_at 108 15 = some (.getfield 189, 3) := rfl
theorem at_108_18 : ab_at 108 18 = some (.ifCond .ne 6, 3) := rfl
theorem at_108_21 : ab_at 108 21 = some (.bipush (-4), 2) := rfl
theorem at_108_23 : ab_at 108 23 = some (.ireturn, 1) := rfl
theorem at_108_24 : ab_at 108 24 = some (.iload_n 1, 1) := rfl
theorem at_108_25 : ab_at 108 25 = some (.ifCond .ne 11, 3) := rfl
theorem at_108_28 : ab_at 108 28 = some (.aload_n 0, 1) := rfl
theorem at_108_29 : ab_at 108 29 = some (.getfield 19, 3) := rfl
theorem at_108_32 : ab_at 108 32 = some (.getfield 199, 3) := rfl
theorem at_108_35 : ab_at 108 35 = some (.ireturn, 1) := rfl
theorem at_108_36 : ab_at 108 36 = some (.iload_n 1, 1) := rfl
theorem at_108_37 : ab_at 108 37 = some (.iconst 1, 1) := rfl
theorem at_108_38 : ab_at 108 38 = some (.if_icmp .ne 11, 3) := rfl
theorem at_108_41 : ab_at 108 41 = some (.aload_n 0, 1) := rfl
theorem at_108_42 : ab_at 108 42 = some (.getfield 19, 3) := rfl
theorem at_108_45 : ab_at 108 45 = some (.getfield 202, 3) := rfl
theorem at_108_48 : ab_at 108 48 = some (.ireturn, 1) := rfl
theorem at_108_49 : ab_at 108 49 = some (.aload_n 0, 1) := rfl
theorem at_108_50 : ab_at 108 50 = some (.getfield 19, 3) := rfl
theorem at_108_53 : ab_at 108 53 = some (.getfield 205, 3) := rfl
theorem at_108_56 : ab_at 108 56 = some (.ifCond .eq 7, 3) := rfl
theorem at_108_59 : ab_at 108 59 = some (.iconst 1, 1) := rfl
theorem at_108_60 : ab_at 108 60 = some (.goto 4, 3) := rfl
theorem at_108_63 : ab_at 108 63 = some (.iconst 0, 1) := rfl
theorem at_108_64 : ab_at 108 64 = some (.ireturn, 1) := rfl
theorem at_109_0 : ab_at 109 0 = some (.iload_n 1, 1) := rfl
theorem at_109_1 : ab_at 109 1 = some (.ifCond .lt 8, 3) := rfl
theorem at_109_4 : ab_at 109 4 = some (.iload_n 1, 1) := rfl
theorem at_109_5 : ab_at 109 5 = some (.iconst 2, 1) := rfl
theorem at_109_6 : ab_at 109 6 = some (.if_icmp .le 5, 3) := rfl
theorem at_109_9 : ab_at 109 9 = some (.iconst (-1), 1) := rfl
theorem at_109_10 : ab_at 109 10 = some (.ireturn, 1) := rfl
theorem at_109_11 : ab_at 109 11 = some (.aload_n 0, 1) := rfl
theorem at_109_12 : ab_at 109 12 = some (.getfield 29, 3) := rfl
theorem at_109_15 : ab_at 109 15 = some (.aload_n 0, 1) := rfl
theorem at_109_16 : ab_at 109 16 = some (.getfield 62, 3) := rfl
theorem at_109_19 : ab_at 109 19 = some (.bipush 100, 2) := rfl
theorem at_109_21 : ab_at 109 21 = some (.invokevirtual 208, 3) := rfl
theorem at_109_24 : ab_at 109 24 = some (.iload_n 1, 1) := rfl
theorem at_109_25 : ab_at 109 25 = some (.ifCond .ne 15, 3) := rfl
theorem at_109_28 : ab_at 109 28 = some (.aload_n 0, 1) := rfl
theorem at_109_29 : ab_at 109 29 = some (.getfield 29, 3) := rfl
theorem at_109_32 : ab_at 109 32 = some (.aload_n 0, 1) := rfl
theorem at_109_33 : ab_at 109 33 = some (.getfield 62, 3) := rfl
theorem at_109_36 : ab_at 109 36 = some (.invokevirtual 212, 3) := rfl
theorem at_109_39 : ab_at 109 39 = some (.ireturn, 1) := rfl
theorem at_109_40 : ab_at 109 40 = some (.iload_n 1, 1) := rfl
theorem at_109_41 : ab_at 109 41 = some (.iconst 1, 1) := rfl
theorem at_109_42 : ab_at 109 42 = some (.if_icmp .ne 13, 3) := rfl
theorem at_109_45 : ab_at 109 45 = some (.aload_n 0, 1) := rfl
theorem at_109_46 : ab_at 109 46 = some (.getfield 29, 3) := rfl
theorem at_109_49 : ab_at 109 49 = some (.getfield 216, 3) := rfl
theorem at_109_52 : ab_at 109 52 = some (.goto 14, 3) := rfl
theorem at_109_55 : ab_at 109 55 = some (.aload_n 0, 1) := rfl
theorem at_109_56 : ab_at 109 56 = some (.getfield 29, 3) := rfl
theorem at_109_59 : ab_at 109 59 = some (.aload_n 0, 1) := rfl
theorem at_109_60 : ab_at 109 60 = some (.getfield 62, 3) := rfl
theorem at_109_63 : ab_at 109 63 = some (.invokevirtual 219, 3) := rfl
theorem at_109_66 : ab_at 109 66 = some (.ireturn, 1) := rfl
theorem at_110_0 : ab_at 110 0 = some (.aload_n 0, 1) := rfl
theorem at_110_1 : ab_at 110 1 = some (.iload_n 1, 1) := rfl
theorem at_110_2 : ab_at 110 2 = some (.bipush 100, 2) := rfl
theorem at_110_4 : ab_at 110 4 = some (.invokevirtual 222, 3) := rfl
theorem at_110_7 : ab_at 110 7 = some (.ireturn, 1) := rfl
theorem at_111_0 : ab_at 111 0 = some (.aload_n 0, 1) := rfl
theorem at_111_1 : ab_at 111 1 = some (.getfield 62, 3) := rfl
theorem at_111_4 : ab_at 111 4 = some (.iload_n 1, 1) := rfl
theorem at_111_5 : ab_at 111 5 = some (.invokevirtual 148, 3) := rfl
theorem at_111_8 : ab_at 111 8 = some (.ifCond .eq 13, 3) := rfl
theorem at_111_11 : ab_at 111 11 = some (.iload_n 2, 1) := rfl
theorem at_111_12 : ab_at 111 12 = some (.ifCond .lt 9, 3) := rfl
theorem at_111_15 : ab_at 111 15 = some (.iload_n 2, 1) := rfl
theorem at_111_16 : ab_at 111 16 = some (.bipush 100, 2) := rfl
theorem at_111_18 : ab_at 111 18 = some (.if_icmp .le 5, 3) := rfl
theorem at_111_21 : ab_at 111 21 = some (.iconst (-1), 1) := rfl
theorem at_111_22 : ab_at 111 22 = some (.ireturn, 1) := rfl
theorem at_111_23 : ab_at 111 23 = some (.aload_n 0, 1) := rfl
theorem at_111_24 : ab_at 111 24 = some (.getfield 29, 3) := rfl
theorem at_111_27 : ab_at 111 27 = some (.aload_n 0, 1) := rfl
theorem at_111_28 : ab_at 111 28 = some (.getfield 62, 3) := rfl
theorem at_111_31 : ab_at 111 31 = some (.iload_n 2, 1) := rfl
theorem at_111_32 : ab_at 111 32 = some (.invokevirtual 208, 3) := rfl
theorem at_111_35 : ab_at 111 35 = some (.aload_n 0, 1) := rfl
theorem at_111_36 : ab_at 111 36 = some (.getfield 29, 3) := rfl
theorem at_111_39 : ab_at 111 39 = some (.getfield 226, 3) := rfl
theorem at_111_42 : ab_at 111 42 = some (.iload_n 1, 1) := rfl
theorem at_111_43 : ab_at 111 43 = some (.iaload, 1) := rfl
theorem at_111_44 : ab_at 111 44 = some (.ireturn, 1) := rfl
theorem at_112_0 : ab_at 112 0 = some (.aload_n 0, 1) := rfl
theorem at_112_1 : ab_at 112 1 = some (.getfield 62, 3) := rfl
theorem at_112_4 : ab_at 112 4 = some (.iload_n 1, 1) := rfl
theorem at_112_5 : ab_at 112 5 = some (.invokevirtual 148, 3) := rfl
theorem at_112_8 : ab_at 112 8 = some (.ifCond .ne 5, 3) := rfl
theorem at_112_11 : ab_at 112 11 = some (.iconst (-1), 1) := rfl
theorem at_112_12 : ab_at 112 12 = some (.ireturn, 1) := rfl
theorem at_112_13 : ab_at 112 13 = some (.aload_n 0, 1) := rfl
theorem at_112_14 : ab_at 112 14 = some (.getfield 29, 3) := rfl
theorem at_112_17 : ab_at 112 17 = some (.aload_n 0, 1) := rfl
theorem at_112_18 : ab_at 112 18 = some (.getfield 62, 3) := rfl
theorem at_112_21 : ab_at 112 21 = some (.bipush 100, 2) := rfl
theorem at_112_23 : ab_at 112 23 = some (.invokevirtual 208, 3) := rfl
theorem at_112_26 : ab_at 112 26 = some (.aload_n 0, 1) := rfl
theorem at_112_27 : ab_at 112 27 = some (.getfield 29, 3) := rfl
theorem at_112_30 : ab_at 112 30 = some (.aload_n 0, 1) := rfl
theorem at_112_31 : ab_at 112 31 = some (.getfield 62, 3) := rfl
theorem at_112_34 : ab_at 112 34 = some (.iload_n 1, 1) := rfl
theorem at_112_35 : ab_at 112 35 = some (.invokevirtual 227, 3) := rfl
theorem at_112_38 : ab_at 112 38 = some (.ireturn, 1) := rfl
theorem at_113_0 : ab_at 113 0 = some (.aload_n 0, 1) := rfl
theorem at_113_1 : ab_at 113 1 = some (.getfield 62, 3) := rfl
theorem at_113_4 : ab_at 113 4 = some (.iload_n 1, 1) := rfl
theorem at_113_5 : ab_at 113 5 = some (.invokevirtual 148, 3) := rfl
theorem at_113_8 : ab_at 113 8 = some (.ifCond .ne 5, 3) := rfl
theorem at_113_11 : ab_at 113 11 = some (.iconst (-1), 1) := rfl
theorem at_113_12 : ab_at 113 12 = some (.ireturn, 1) := rfl
theorem at_113_13 : ab_at 113 13 = some (.aload_n 0, 1) := rfl
theorem at_113_14 : ab_at 113 14 = some (.getfield 36, 3) := rfl
theorem at_113_17 : ab_at 113 17 = some (.aload_n 0, 1) := rfl
theorem at_113_18 : ab_at 113 18 = some (.getfield 62, 3) := rfl
theorem at_113_21 : ab_at 113 21 = some (.invokevirtual 231, 3) := rfl
theorem at_113_24 : ab_at 113 24 = some (.aload_n 0, 1) := rfl
theorem at_113_25 : ab_at 113 25 = some (.getfield 36, 3) := rfl
theorem at_113_28 : ab_at 113 28 = some (.iload_n 1, 1) := rfl
theorem at_113_29 : ab_at 113 29 = some (.invokevirtual 234, 3) := rfl
theorem at_113_32 : ab_at 113 32 = some (.ireturn, 1) := rfl
theorem at_114_0 : ab_at 114 0 = some (.aload_n 0, 1) := rfl
theorem at_114_1 : ab_at 114 1 = some (.getfield 62, 3) := rfl
theorem at_114_4 : ab_at 114 4 = some (.iload_n 1, 1) := rfl
theorem at_114_5 : ab_at 114 5 = some (.invokevirtual 148, 3) := rfl
theorem at_114_8 : ab_at 114 8 = some (.ifCond .ne 7, 3) := rfl
theorem at_114_11 : ab_at 114 11 = some (.ldc2_w 187, 3) := rfl
theorem at_114_14 : ab_at 114 14 = some (.lreturn, 1) := rfl
theorem at_114_15 : ab_at 114 15 = some (.aload_n 0, 1) := rfl
theorem at_114_16 : ab_at 114 16 = some (.getfield 36, 3) := rfl
theorem at_114_19 : ab_at 114 19 = some (.aload_n 0, 1) := rfl
theorem at_114_20 : ab_at 114 20 = some (.getfield 62, 3) := rfl
theorem at_114_23 : ab_at 114 23 = some (.invokevirtual 231, 3) := rfl
theorem at_114_26 : ab_at 114 26 = some (.aload_n 0, 1) := rfl
theorem at_114_27 : ab_at 114 27 = some (.getfield 36, 3) := rfl
theorem at_114_30 : ab_at 114 30 = some (.iload_n 1, 1) := rfl
theorem at_114_31 : ab_at 114 31 = some (.invokevirtual 237, 3) := rfl
theorem at_114_34 : ab_at 114 34 = some (.lreturn, 1) := rfl
theorem at_115_0 : ab_at 115 0 = some (.aload_n 0, 1) := rfl
theorem at_115_1 : ab_at 115 1 = some (.getfield 29, 3) := rfl
theorem at_115_4 : ab_at 115 4 = some (.aload_n 0, 1) := rfl
theorem at_115_5 : ab_at 115 5 = some (.getfield 62, 3) := rfl
theorem at_115_8 : ab_at 115 8 = some (.bipush 100, 2) := rfl
theorem at_115_10 : ab_at 115 10 = some (.invokevirtual 208, 3) := rfl
theorem at_115_13 : ab_at 115 13 = some (.iconst 0, 1) := rfl
theorem at_115_14 : ab_at 115 14 = some (.istore_n 1, 1) := rfl
theorem at_115_15 : ab_at 115 15 = some (.iload_n 1, 1) := rfl
theorem at_115_16 : ab_at 115 16 = some (.aload_n 0, 1) := rfl
theorem at_115_17 : ab_at 115 17 = some (.getfield 62, 3) := rfl
theorem at_115_20 : ab_at 115 20 = some (.getfield 97, 3) := rfl
theorem at_115_23 : ab_at 115 23 = some (.if_icmp .ge 27, 3) := rfl
theorem at_115_26 : ab_at 115 26 = some (.aload_n 0, 1) := rfl
theorem at_115_27 : ab_at 115 27 = some (.getfield 57, 3) := rfl
theorem at_115_30 : ab_at 115 30 = some (.iload_n 1, 1) := rfl
theorem at_115_31 : ab_at 115 31 = some (.aload_n 0, 1) := rfl
theorem at_115_32 : ab_at 115 32 = some (.getfield 29, 3) := rfl
theorem at_115_35 : ab_at 115 35 = some (.aload_n 0, 1) := rfl
theorem at_115_36 : ab_at 115 36 = some (.getfield 62, 3) := rfl
theorem at_115_39 : ab_at 115 39 = some (.iload_n 1, 1) := rfl
theorem at_115_40 : ab_at 115 40 = some (.invokevirtual 227, 3) := rfl
theorem at_115_43 : ab_at 115 43 = some (.iastore, 1) := rfl
theorem at_115_44 : ab_at 115 44 = some (.iinc 1 1, 3) := rfl
theorem at_115_47 : ab_at 115 47 = some (.goto (-32), 3) := rfl
theorem at_115_50 : ab_at 115 50 = some (.aload_n 0, 1) := rfl
theorem at_115_51 : ab_at 115 51 = some (.getfield 62, 3) := rfl
theorem at_115_54 : ab_at 115 54 = some (.aload_n 0, 1) := rfl
theorem at_115_55 : ab_at 115 55 = some (.getfield 57, 3) := rfl
theorem at_115_58 : ab_at 115 58 = some (.invokevirtual 241, 3) := rfl
theorem at_115_61 : ab_at 115 61 = some (.ireturn, 1) := rfl
theorem at_116_0 : ab_at 116 0 = some (.aload_n 0, 1) := rfl
theorem at_116_1 : ab_at 116 1 = some (.getfield 62, 3) := rfl
theorem at_116_4 : ab_at 116 4 = some (.invokevirtual 245, 3) := rfl
theorem at_116_7 : ab_at 116 7 = some (.ireturn, 1) := rfl
theorem at_117_0 : ab_at 117 0 = some (.aload_n 0, 1) := rfl
theorem at_117_1 : ab_at 117 1 = some (.getfield 62, 3) := rfl
theorem at_117_4 : ab_at 117 4 = some (.iload_n 1, 1) := rfl
theorem at_117_5 : ab_at 117 5 = some (.iload_n 2, 1) := rfl
theorem at_117_6 : ab_at 117 6 = some (.invokevirtual 169, 3) := rfl
theorem at_117_9 : ab_at 117 9 = some (.ifCond .eq 14, 3) := rfl
theorem at_117_12 : ab_at 117 12 = some (.aload_n 0, 1) := rfl
theorem at_117_13 : ab_at 117 13 = some (.getfield 62, 3) := rfl
theorem at_117_16 : ab_at 117 16 = some (.iload_n 3, 1) := rfl
theorem at_117_17 : ab_at 117 17 = some (.invokevirtual 148, 3) := rfl
theorem at_117_20 : ab_at 117 20 = some (.ifCond .ne 5, 3) := rfl
theorem at_117_23 : ab_at 117 23 = some (.iconst (-1), 1) := rfl
theorem at_117_24 : ab_at 117 24 = some (.ireturn, 1) := rfl
theorem at_117_25 : ab_at 117 25 = some (.aload_n 0, 1) := rfl
theorem at_117_26 : ab_at 117 26 = some (.getfield 62, 3) := rfl
theorem at_117_29 : ab_at 117 29 = some (.getfield 151, 3) := rfl
theorem at_117_32 : ab_at 117 32 = some (.iload_n 3, 1) := rfl
theorem at_117_33 : ab_at 117 33 = some (.iaload, 1) := rfl
theorem at_117_34 : ab_at 117 34 = some (.bipush 8, 2) := rfl
theorem at_117_36 : ab_at 117 36 = some (.if_icmp .eq 16, 3) := rfl
theorem at_117_39 : ab_at 117 39 = some (.aload_n 0, 1) := rfl
theorem at_117_40 : ab_at 117 40 = some (.getfield 62, 3) := rfl
theorem at_117_43 : ab_at 117 43 = some (.iload_n 3, 1) := rfl
theorem at_117_44 : ab_at 117 44 = some (.iload_n 1, 1) := rfl
theorem at_117_45 : ab_at 117 45 = some (.iload_n 2, 1) := rfl
theorem at_117_46 : ab_at 117 46 = some (.invokevirtual 248, 3) := rfl
theorem at_117_49 : ab_at 117 49 = some (.ifCond .ne 6, 3) := rfl
theorem at_117_52 : ab_at 117 52 = some (.bipush (-2), 2) := rfl
theorem at_117_54 : ab_at 117 54 = some (.ireturn, 1) := rfl
theorem at_117_55 : ab_at 117 55 = some (.aload_n 0, 1) := rfl
theorem at_117_56 : ab_at 117 56 = some (.getfield 62, 3) := rfl
theorem at_117_59 : ab_at 117 59 = some (.getfield 173, 3) := rfl
theorem at_117_62 : ab_at 117 62 = some (.iload_n 1, 1) := rfl
theorem at_117_63 : ab_at 117 63 = some (.aaload, 1) := rfl
theorem at_117_64 : ab_at 117 64 = some (.iload_n 2, 1) := rfl
theorem at_117_65 : ab_at 117 65 = some (.iaload, 1) := rfl
theorem at_117_66 : ab_at 117 66 = some (.istore 4, 2) := rfl
theorem at_117_68 : ab_at 117 68 = some (.aload_n 0, 1) := rfl
theorem at_117_69 : ab_at 117 69 = some (.getfield 62, 3) := rfl
theorem at_117_72 : ab_at 117 72 = some (.getfield 173, 3) := rfl
theorem at_117_75 : ab_at 117 75 = some (.iload_n 1, 1) := rfl
theorem at_117_76 : ab_at 117 76 = some (.aaload, 1) := rfl
theorem at_117_77 : ab_at 117 77 = some (.iload_n 2, 1) := rfl
theorem at_117_78 : ab_at 117 78 = some (.iload_n 3, 1) := rfl
theorem at_117_79 : ab_at 117 79 = some (.iastore, 1) := rfl
theorem at_117_80 : ab_at 117 80 = some (.iload 4, 2) := rfl
theorem at_117_82 : ab_at 117 82 = some (.ireturn, 1) := rfl
theorem at_118_0 : ab_at 118 0 = some (.aload_n 0, 1) := rfl
theorem at_118_1 : ab_at 118 1 = some (.getfield 62, 3) := rfl
theorem at_118_4 : ab_at 118 4 = some (.iload_n 1, 1) := rfl
theorem at_118_5 : ab_at 118 5 = some (.invokevirtual 148, 3) := rfl
theorem at_118_8 : ab_at 118 8 = some (.ifCond .eq 14, 3) := rfl
theorem at_118_11 : ab_at 118 11 = some (.aload_n 0, 1) := rfl
theorem at_118_12 : ab_at 118 12 = some (.getfield 62, 3) := rfl
theorem at_118_15 : ab_at 118 15 = some (.iload_n 1, 1) := rfl
theorem at_118_16 : ab_at 118 16 = some (.invokevirtual 160, 3) := rfl
theorem at_118_19 : ab_at 118 19 = some (.ifCond .ne 5, 3) := rfl
theorem at_118_22 : ab_at 118 22 = some (.iconst (-1), 1) := rfl
theorem at_118_23 : ab_at 118 23 = some (.ireturn, 1) := rfl
theorem at_118_24 : ab_at 118 24 = some (.iload_n 2, 1) := rfl
theorem at_118_25 : ab_at 118 25 = some (.ifCond .lt 19, 3) := rfl
theorem at_118_28 : ab_at 118 28 = some (.iload_n 2, 1) := rfl
theorem at_118_29 : ab_at 118 29 = some (.aload_n 0, 1) := rfl
theorem at_118_30 : ab_at 118 30 = some (.getfield 62, 3) := rfl
theorem at_118_33 : ab_at 118 33 = some (.getfield 151, 3) := rfl
theorem at_118_36 : ab_at 118 36 = some (.iload_n 1, 1) := rfl
theorem at_118_37 : ab_at 118 37 = some (.iaload, 1) := rfl
theorem at_118_38 : ab_at 118 38 = some (.invokestatic 252, 3) := rfl
theorem at_118_41 : ab_at 118 41 = some (.if_icmp .le 5, 3) := rfl
theorem at_118_44 : ab_at 118 44 = some (.iconst (-1), 1) := rfl
theorem at_118_45 : ab_at 118 45 = some (.ireturn, 1) := rfl
theorem at_118_46 : ab_at 118 46 = some (.aload_n 0, 1) := rfl
theorem at_118_47 : ab_at 118 47 = some (.getfield 62, 3) := rfl
theorem at_118_50 : ab_at 118 50 = some (.getfield 163, 3) := rfl
theorem at_118_53 : ab_at 118 53 = some (.iload_n 1, 1) := rfl
theorem at_118_54 : ab_at 118 54 = some (.iaload, 1) := rfl
theorem at_118_55 : ab_at 118 55 = some (.istore_n 3, 1) := rfl
theorem at_118_56 : ab_at 118 56 = some (.aload_n 0, 1) := rfl
theorem at_118_57 : ab_at 118 57 = some (.getfield 62, 3) := rfl
theorem at_118_60 : ab_at 118 60 = some (.getfield 163, 3) := rfl
theorem at_118_63 : ab_at 118 63 = some (.iload_n 1, 1) := rfl
theorem at_118_64 : ab_at 118 64 = some (.iload_n 2, 1) := rfl
theorem at_118_65 : ab_at 118 65 = some (.iastore, 1) := rfl
theorem at_118_66 : ab_at 118 66 = some (.iload_n 3, 1) := rfl
theorem at_118_67 : ab_at 118 67 = some (.ireturn, 1) := rfl
theorem at_119_0 : ab_at 119 0 = some (.iload_n 2, 1) := rfl
theorem at_119_1 : ab_at 119 1 = some (.iconst 1, 1) := rfl
theorem at_119_2 : ab_at 119 2 = some (.if_icmp .lt 20, 3) := rfl
theorem at_119_5 : ab_at 119 5 = some (.iload_n 2, 1) := rfl
theorem at_119_6 : ab_at 119 6 = some (.bipush 50, 2) := rfl
theorem at_119_8 : ab_at 119 8 = some (.if_icmp .gt 14, 3) := rfl
theorem at_119_11 : ab_at 119 11 = some (.iload 5, 2) := rfl
theorem at_119_13 : ab_at 119 13 = some (.ifCond .lt 9, 3) := rfl
theorem at_119_16 : ab_at 119 16 = some (.iload 5, 2) := rfl
theorem at_119_18 : ab_at 119 18 = some (.iconst 1, 1) := rfl
theorem at_119_19 : ab_at 119 19 = some (.if_icmp .le 5, 3) := rfl
theorem at_119_22 : ab_at 119 22 = some (.iconst (-1), 1) := rfl
theorem at_119_23 : ab_at 119 23 = some (.ireturn, 1) := rfl
theorem at_119_24 : ab_at 119 24 = some (.aload_n 0, 1) := rfl
theorem at_119_25 : ab_at 119 25 = some (.getfield 62, 3) := rfl
theorem at_119_28 : ab_at 119 28 = some (.iload_n 3, 1) := rfl
theorem at_119_29 : ab_at 119 29 = some (.invokevirtual 148, 3) := rfl
theorem at_119_32 : ab_at 119 32 = some (.ifCond .eq 15, 3) := rfl
theorem at_119_35 : ab_at 119 35 = some (.aload_n 0, 1) := rfl
theorem at_119_36 : ab_at 119 36 = some (.getfield 62, 3) := rfl
theorem at_119_39 : ab_at 119 39 = some (.iload 4, 2) := rfl
theorem at_119_41 : ab_at 119 41 = some (.invokevirtual 148, 3) := rfl
theorem at_119_44 : ab_at 119 44 = some (.ifCond .ne 5, 3) := rfl
theorem at_119_47 : ab_at 119 47 = some (.iconst (-1), 1) := rfl
theorem at_119_48 : ab_at 119 48 = some (.ireturn, 1) := rfl
theorem at_119_49 : ab_at 119 49 = some (.iload_n 1, 1) := rfl
theorem at_119_50 : ab_at 119 50 = some (.istore 6, 2) := rfl
theorem at_119_52 : ab_at 119 52 = some (.iconst 0, 1) := rfl
theorem at_119_53 : ab_at 119 53 = some (.istore 7, 2) := rfl
theorem at_119_55 : ab_at 119 55 = some (.aload_n 0, 1) := rfl
theorem at_119_56 : ab_at 119 56 = some (.getfield 23, 3) := rfl
theorem at_119_59 : ab_at 119 59 = some (.iload_n 3, 1) := rfl
theorem at_119_60 : ab_at 119 60 = some (.iload 4, 2) := rfl
theorem at_119_62 : ab_at 119 62 = some (.invokevirtual 255, 3) := rfl
theorem at_119_65 : ab_at 119 65 = some (.iconst 0, 1) := rfl
theorem at_119_66 : ab_at 119 66 = some (.istore 8, 2) := rfl
theorem at_119_68 : ab_at 119 68 = some (.iload 8, 2) := rfl
theorem at_119_70 : ab_at 119 70 = some (.iload_n 2, 1) := rfl
theorem at_119_71 : ab_at 119 71 = some (.if_icmp .ge 45, 3) := rfl
theorem at_119_74 : ab_at 119 74 = some (.aload_n 0, 1) := rfl
theorem at_119_75 : ab_at 119 75 = some (.getfield 23, 3) := rfl
theorem at_119_78 : ab_at 119 78 = some (.iload 6, 2) := rfl
theorem at_119_80 : ab_at 119 80 = some (.invokevirtual 259, 3) := rfl
theorem at_119_83 : ab_at 119 83 = some (.istore 6, 2) := rfl
theorem at_119_85 : ab_at 119 85 = some (.aload_n 0, 1) := rfl
theorem at_119_86 : ab_at 119 86 = some (.getfield 23, 3) := rfl
theorem at_119_89 : ab_at 119 89 = some (.aload_n 0, 1) := rfl
theorem at_119_90 : ab_at 119 90 = some (.getfield 62, 3) := rfl
theorem at_119_93 : ab_at 119 93 = some (.invokevirtual 183, 3) := rfl
theorem at_119_96 : ab_at 119 96 = some (.pop2, 1) := rfl
theorem at_119_97 : ab_at 119 97 = some (.aload_n 0, 1) := rfl
theorem at_119_98 : ab_at 119 98 = some (.getfield 23, 3) := rfl
theorem at_119_101 : ab_at 119 101 = some (.getfield 205, 3) := rfl
theorem at_119_104 : ab_at 119 104 = some (.ifCond .eq 6, 3) := rfl
theorem at_119_107 : ab_at 119 107 = some (.iinc 7 1, 3) := rfl
theorem at_119_110 : ab_at 119 110 = some (.iinc 8 1, 3) := rfl
theorem at_119_113 : ab_at 119 113 = some (.goto (-45), 3) := rfl
theorem at_119_116 : ab_at 119 116 = some (.iload 5, 2) := rfl
theorem at_119_118 : ab_at 119 118 = some (.ifCond .ne 13, 3) := rfl
theorem at_119_121 : ab_at 119 121 = some (.aload_n 0, 1) := rfl
theorem at_119_122 : ab_at 119 122 = some (.getfield 23, 3) := rfl
theorem at_119_125 : ab_at 119 125 = some (.getfield 262, 3) := rfl
theorem at_119_128 : ab_at 119 128 = some (.goto 5, 3) := rfl
theorem at_119_131 : ab_at 119 131 = some (.iload 7, 2) := rfl
theorem at_119_133 : ab_at 119 133 = some (.ireturn, 1) := rfl
theorem at_120_0 : ab_at 120 0 = some (.iload_n 1, 1) := rfl
theorem at_120_1 : ab_at 120 1 = some (.ifCond .lt 8, 3) := rfl
theorem at_120_4 : ab_at 120 4 = some (.iload_n 1, 1) := rfl
theorem at_120_5 : ab_at 120 5 = some (.iconst 2, 1) := rfl
theorem at_120_6 : ab_at 120 6 = some (.if_icmp .lt 5, 3) := rfl
theorem at_120_9 : ab_at 120 9 = some (.iconst (-1), 1) := rfl
theorem at_120_10 : ab_at 120 10 = some (.ireturn, 1) := rfl
theorem at_120_11 : ab_at 120 11 = some (.aload_n 0, 1) := rfl
theorem at_120_12 : ab_at 120 12 = some (.getfield 53, 3) := rfl
theorem at_120_15 : ab_at 120 15 = some (.iload_n 1, 1) := rfl
theorem at_120_16 : ab_at 120 16 = some (.baload, 1) := rfl
theorem at_120_17 : ab_at 120 17 = some (.ifCond .eq 7, 3) := rfl
theorem at_120_20 : ab_at 120 20 = some (.iconst 1, 1) := rfl
theorem at_120_21 : ab_at 120 21 = some (.goto 4, 3) := rfl
theorem at_120_24 : ab_at 120 24 = some (.iconst 0, 1) := rfl
theorem at_120_25 : ab_at 120 25 = some (.istore_n 2, 1) := rfl
theorem at_120_26 : ab_at 120 26 = some (.aload_n 0, 1) := rfl
theorem at_120_27 : ab_at 120 27 = some (.getfield 49, 3) := rfl
theorem at_120_30 : ab_at 120 30 = some (.iload_n 1, 1) := rfl
theorem at_120_31 : ab_at 120 31 = some (.aaload, 1) := rfl
theorem at_120_32 : ab_at 120 32 = some (.aload_n 0, 1) := rfl
theorem at_120_33 : ab_at 120 33 = some (.getfield 62, 3) := rfl
theorem at_120_36 : ab_at 120 36 = some (.invokevirtual 90, 3) := rfl
theorem at_120_39 : ab_at 120 39 = some (.aload_n 0, 1) := rfl
theorem at_120_40 : ab_at 120 40 = some (.getfield 53, 3) := rfl
theorem at_120_43 : ab_at 120 43 = some (.iload_n 1, 1) := rfl
theorem at_120_44 : ab_at 120 44 = some (.iconst 1, 1) := rfl
theorem at_120_45 : ab_at 120 45 = some (.bastore, 1) := rfl
theorem at_120_46 : ab_at 120 46 = some (.iload_n 2, 1) := rfl
theorem at_120_47 : ab_at 120 47 = some (.ireturn, 1) := rfl
theorem at_121_0 : ab_at 121 0 = some (.iload_n 1, 1) := rfl
theorem at_121_1 : ab_at 121 1 = some (.ifCond .lt 8, 3) := rfl
theorem at_121_4 : ab_at 121 4 = some (.iload_n 1, 1) := rfl
theorem at_121_5 : ab_at 121 5 = some (.iconst 2, 1) := rfl
theorem at_121_6 : ab_at 121 6 = some (.if_icmp .lt 5, 3) := rfl
theorem at_121_9 : ab_at 121 9 = some (.iconst (-1), 1) := rfl
theorem at_121_10 : ab_at 121 10 = some (.ireturn, 1) := rfl
theorem at_121_11 : ab_at 121 11 = some (.aload_n 0, 1) := rfl
theorem at_121_12 : ab_at 121 12 = some (.getfield 53, 3) := rfl
theorem at_121_15 : ab_at 121 15 = some (.iload_n 1, 1) := rfl
theorem at_121_16 : ab_at 121 16 = some (.baload, 1) := rfl
theorem at_121_17 : ab_at 121 17 = some (.ifCond .ne 6, 3) := rfl
theorem at_121_20 : ab_at 121 20 = some (.bipush (-2), 2) := rfl
theorem at_121_22 : ab_at 121 22 = some (.ireturn, 1) := rfl
theorem at_121_23 : ab_at 121 23 = some (.aload_n 0, 1) := rfl
theorem at_121_24 : ab_at 121 24 = some (.getfield 62, 3) := rfl
theorem at_121_27 : ab_at 121 27 = some (.aload_n 0, 1) := rfl
theorem at_121_28 : ab_at 121 28 = some (.getfield 49, 3) := rfl
theorem at_121_31 : ab_at 121 31 = some (.iload_n 1, 1) := rfl
theorem at_121_32 : ab_at 121 32 = some (.aaload, 1) := rfl
theorem at_121_33 : ab_at 121 33 = some (.invokevirtual 90, 3) := rfl
theorem at_121_36 : ab_at 121 36 = some (.aload_n 0, 1) := rfl
theorem at_121_37 : ab_at 121 37 = some (.getfield 19, 3) := rfl
theorem at_121_40 : ab_at 121 40 = some (.invokevirtual 94, 3) := rfl
theorem at_121_43 : ab_at 121 43 = some (.aload_n 0, 1) := rfl
theorem at_121_44 : ab_at 121 44 = some (.getfield 62, 3) := rfl
theorem at_121_47 : ab_at 121 47 = some (.getfield 97, 3) := rfl
theorem at_121_50 : ab_at 121 50 = some (.ireturn, 1) := rfl
theorem at_129_0 : ab_at 129 0 = some (.iload_n 0, 1) := rfl
theorem at_129_1 : ab_at 129 1 = some (.iconst 1, 1) := rfl
theorem at_129_2 : ab_at 129 2 = some (.if_icmp .ne 7, 3) := rfl
theorem at_129_5 : ab_at 129 5 = some (.iconst 3, 1) := rfl
theorem at_129_6 : ab_at 129 6 = some (.goto 5, 3) := rfl
theorem at_129_9 : ab_at 129 9 = some (.bipush 99, 2) := rfl
theorem at_129_11 : ab_at 129 11 = some (.ireturn, 1) := rfl
theorem at_130_0 : ab_at 130 0 = some (.iload_n 0, 1) := rfl
theorem at_130_1 : ab_at 130 1 = some (.iload_n 1, 1) := rfl
theorem at_130_2 : ab_at 130 2 = some (.ishr, 1) := rfl
theorem at_130_3 : ab_at 130 3 = some (.iconst 1, 1) := rfl
theorem at_130_4 : ab_at 130 4 = some (.iand, 1) := rfl
theorem at_130_5 : ab_at 130 5 = some (.ifCond .eq 7, 3) := rfl
theorem at_130_8 : ab_at 130 8 = some (.iconst 1, 1) := rfl
theorem at_130_9 : ab_at 130 9 = some (.goto 4, 3) := rfl
theorem at_130_12 : ab_at 130 12 = some (.iconst 0, 1) := rfl
theorem at_130_13 : ab_at 130 13 = some (.ireturn, 1) := rfl
theorem at_131_0 : ab_at 131 0 = some (.lload_n 1, 1) := rfl
theorem at_131_1 : ab_at 131 1 = some (.ldc2_w 299, 3) := rfl
theorem at_131_4 : ab_at 131 4 = some (.lcmp, 1) := rfl
theorem at_131_5 : ab_at 131 5 = some (.ifCond .eq 16, 3) := rfl
theorem at_131_8 : ab_at 131 8 = some (.iload_n 0, 1) := rfl
theorem at_131_9 : ab_at 131 9 = some (.iconst 4, 1) := rfl
theorem at_131_10 : ab_at 131 10 = some (.if_icmp .eq 15, 3) := rfl
theorem at_131_13 : ab_at 131 13 = some (.lload_n 3, 1) := rfl
theorem at_131_14 : ab_at 131 14 = some (.ldc2_w 299, 3) := rfl
theorem at_131_17 : ab_at 131 17 = some (.lcmp, 1) := rfl
theorem at_131_18 : ab_at 131 18 = some (.ifCond .ne 7, 3) := rfl
theorem at_131_21 : ab_at 131 21 = some (.iconst 1, 1) := rfl
theorem at_131_22 : ab_at 131 22 = some (.goto 4, 3) := rfl
theorem at_131_25 : ab_at 131 25 = some (.iconst 0, 1) := rfl
theorem at_131_26 : ab_at 131 26 = some (.istore 5, 2) := rfl
theorem at_131_28 : ab_at 131 28 = some (.iload 5, 2) := rfl
theorem at_131_30 : ab_at 131 30 = some (.ifCond .eq 16, 3) := rfl
theorem at_131_33 : ab_at 131 33 = some (.iload_n 0, 1) := rfl
theorem at_131_34 : ab_at 131 34 = some (.iconst 5, 1) := rfl
theorem at_131_35 : ab_at 131 35 = some (.if_icmp .ne 7, 3) := rfl
theorem at_131_38 : ab_at 131 38 = some (.lconst 0, 1) := rfl
theorem at_131_39 : ab_at 131 39 = some (.goto 6, 3) := rfl
theorem at_131_42 : ab_at 131 42 = some (.ldc2_w 299, 3) := rfl
theorem at_131_45 : ab_at 131 45 = some (.lreturn, 1) := rfl
theorem at_131_46 : ab_at 131 46 = some (.iload_n 0, 1) := rfl
theorem at_131_47 : ab_at 131 47 = some (.tableswitch 80 2 6 #[33, 39, 45, 50, 62], 33) := rfl
theorem at_131_80 : ab_at 131 80 = some (.lload_n 1, 1) := rfl
theorem at_131_81 : ab_at 131 81 = some (.lload_n 3, 1) := rfl
theorem at_131_82 : ab_at 131 82 = some (.ladd, 1) := rfl
theorem at_131_83 : ab_at 131 83 = some (.l2i, 1) := rfl
theorem at_131_84 : ab_at 131 84 = some (.i2l, 1) := rfl
theorem at_131_85 : ab_at 131 85 = some (.lreturn, 1) := rfl
theorem at_131_86 : ab_at 131 86 = some (.lload_n 1, 1) := rfl
theorem at_131_87 : ab_at 131 87 = some (.lload_n 3, 1) := rfl
theorem at_131_88 : ab_at 131 88 = some (.lmul, 1) := rfl
theorem at_131_89 : ab_at 131 89 = some (.l2i, 1) := rfl
theorem at_131_90 : ab_at 131 90 = some (.i2l, 1) := rfl
theorem at_131_91 : ab_at 131 91 = some (.lreturn, 1) := rfl
theorem at_131_92 : ab_at 131 92 = some (.lload_n 1, 1) := rfl
theorem at_131_93 : ab_at 131 93 = some (.lneg, 1) := rfl
theorem at_131_94 : ab_at 131 94 = some (.l2i, 1) := rfl
theorem at_131_95 : ab_at 131 95 = some (.i2l, 1) := rfl
theorem at_131_96 : ab_at 131 96 = some (.lreturn, 1) := rfl
theorem at_131_97 : ab_at 131 97 = some (.lload_n 1, 1) := rfl
theorem at_131_98 : ab_at 131 98 = some (.lload_n 3, 1) := rfl
theorem at_131_99 : ab_at 131 99 = some (.lcmp, 1) := rfl
theorem at_131_100 : ab_at 131 100 = some (.ifCond .ge 7, 3) := rfl
theorem at_131_103 : ab_at 131 103 = some (.lconst 1, 1) := rfl
theorem at_131_104 : ab_at 131 104 = some (.goto 4, 3) := rfl
theorem at_131_107 : ab_at 131 107 = some (.lconst 0, 1) := rfl
theorem at_131_108 : ab_at 131 108 = some (.lreturn, 1) := rfl
theorem at_131_109 : ab_at 131 109 = some (.lload_n 3, 1) := rfl
theorem at_131_110 : ab_at 131 110 = some (.lconst 0, 1) := rfl
theorem at_131_111 : ab_at 131 111 = some (.lcmp, 1) := rfl
theorem at_131_112 : ab_at 131 112 = some (.ifCond .ne 9, 3) := rfl
theorem at_131_115 : ab_at 131 115 = some (.ldc2_w 299, 3) := rfl
theorem at_131_118 : ab_at 131 118 = some (.goto 8, 3) := rfl
theorem at_131_121 : ab_at 131 121 = some (.lload_n 1, 1) := rfl
theorem at_131_122 : ab_at 131 122 = some (.lload_n 3, 1) := rfl
theorem at_131_123 : ab_at 131 123 = some (.ldiv, 1) := rfl
theorem at_131_124 : ab_at 131 124 = some (.l2i, 1) := rfl
theorem at_131_125 : ab_at 131 125 = some (.i2l, 1) := rfl
theorem at_131_126 : ab_at 131 126 = some (.lreturn, 1) := rfl
theorem at_131_127 : ab_at 131 127 = some (.ldc2_w 299, 3) := rfl
theorem at_131_130 : ab_at 131 130 = some (.lreturn, 1) := rfl
