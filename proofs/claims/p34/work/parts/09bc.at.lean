theorem at_70_0 : ab_at 70 0 = some (.aload_n 0, 1) := rfl
theorem at_70_1 : ab_at 70 1 = some (.invokevirtual 35, 3) := rfl
theorem at_70_4 : ab_at 70 4 = some (.aload_n 0, 1) := rfl
theorem at_70_5 : ab_at 70 5 = some (.getfield 21, 3) := rfl
theorem at_70_8 : ab_at 70 8 = some (.invokevirtual 38, 3) := rfl
theorem at_70_11 : ab_at 70 11 = some (.aload_n 0, 1) := rfl
theorem at_70_12 : ab_at 70 12 = some (.iconst 0, 1) := rfl
theorem at_70_13 : ab_at 70 13 = some (.putfield 41, 3) := rfl
theorem at_70_16 : ab_at 70 16 = some (.aload_n 0, 1) := rfl
theorem at_70_17 : ab_at 70 17 = some (.iconst 0, 1) := rfl
theorem at_70_18 : ab_at 70 18 = some (.putfield 45, 3) := rfl
theorem at_70_21 : ab_at 70 21 = some (.aload_n 0, 1) := rfl
theorem at_70_22 : ab_at 70 22 = some (.iconst 0, 1) := rfl
theorem at_70_23 : ab_at 70 23 = some (.putfield 48, 3) := rfl
theorem at_70_26 : ab_at 70 26 = some (.iconst 1, 1) := rfl
theorem at_70_27 : ab_at 70 27 = some (.istore_n 1, 1) := rfl
theorem at_70_28 : ab_at 70 28 = some (.iconst 0, 1) := rfl
theorem at_70_29 : ab_at 70 29 = some (.istore_n 2, 1) := rfl
theorem at_70_30 : ab_at 70 30 = some (.iload_n 2, 1) := rfl
theorem at_70_31 : ab_at 70 31 = some (.sipush 320, 3) := rfl
theorem at_70_34 : ab_at 70 34 = some (.if_icmp .gt 39, 3) := rfl
theorem at_70_37 : ab_at 70 37 = some (.iload_n 1, 1) := rfl
theorem at_70_38 : ab_at 70 38 = some (.ifCond .eq 35, 3) := rfl
theorem at_70_41 : ab_at 70 41 = some (.aload_n 0, 1) := rfl
theorem at_70_42 : ab_at 70 42 = some (.getfield 48, 3) := rfl
theorem at_70_45 : ab_at 70 45 = some (.ifCond .ne 17, 3) := rfl
theorem at_70_48 : ab_at 70 48 = some (.aload_n 0, 1) := rfl
theorem at_70_49 : ab_at 70 49 = some (.getfield 25, 3) := rfl
theorem at_70_52 : ab_at 70 52 = some (.aload_n 0, 1) := rfl
theorem at_70_53 : ab_at 70 53 = some (.getfield 45, 3) := rfl
theorem at_70_56 : ab_at 70 56 = some (.iaload, 1) := rfl
theorem at_70_57 : ab_at 70 57 = some (.bipush 24, 2) := rfl
theorem at_70_59 : ab_at 70 59 = some (.if_icmp .eq 14, 3) := rfl
theorem at_70_62 : ab_at 70 62 = some (.aload_n 0, 1) := rfl
theorem at_70_63 : ab_at 70 63 = some (.invokevirtual 52, 3) := rfl
theorem at_70_66 : ab_at 70 66 = some (.istore_n 1, 1) := rfl
theorem at_70_67 : ab_at 70 67 = some (.iinc 2 1, 3) := rfl
theorem at_70_70 : ab_at 70 70 = some (.goto (-40), 3) := rfl
theorem at_70_73 : ab_at 70 73 = some (.iload_n 1, 1) := rfl
theorem at_70_74 : ab_at 70 74 = some (.ifCond .eq 26, 3) := rfl
theorem at_70_77 : ab_at 70 77 = some (.aload_n 0, 1) := rfl
theorem at_70_78 : ab_at 70 78 = some (.getfield 21, 3) := rfl
theorem at_70_81 : ab_at 70 81 = some (.invokevirtual 56, 3) := rfl
theorem at_70_84 : ab_at 70 84 = some (.ifCond .ne 12, 3) := rfl
theorem at_70_87 : ab_at 70 87 = some (.aload_n 0, 1) := rfl
theorem at_70_88 : ab_at 70 88 = some (.bipush 6, 2) := rfl
theorem at_70_90 : ab_at 70 90 = some (.invokevirtual 59, 3) := rfl
theorem at_70_93 : ab_at 70 93 = some (.ifCond .eq 7, 3) := rfl
theorem at_70_96 : ab_at 70 96 = some (.iconst 1, 1) := rfl
theorem at_70_97 : ab_at 70 97 = some (.goto 4, 3) := rfl
theorem at_70_100 : ab_at 70 100 = some (.iconst 0, 1) := rfl
theorem at_70_101 : ab_at 70 101 = some (.ireturn, 1) := rfl
theorem at_71_0 : ab_at 71 0 = some (.aload_n 0, 1) := rfl
theorem at_71_1 : ab_at 71 1 = some (.aload_n 0, 1) := rfl
theorem at_71_2 : ab_at 71 2 = some (.getfield 25, 3) := rfl
theorem at_71_5 : ab_at 71 5 = some (.aload_n 0, 1) := rfl
theorem at_71_6 : ab_at 71 6 = some (.getfield 45, 3) := rfl
theorem at_71_9 : ab_at 71 9 = some (.iaload, 1) := rfl
theorem at_71_10 : ab_at 71 10 = some (.bipush 25, 2) := rfl
theorem at_71_12 : ab_at 71 12 = some (.if_icmp .ne 7, 3) := rfl
theorem at_71_15 : ab_at 71 15 = some (.iconst 1, 1) := rfl
theorem at_71_16 : ab_at 71 16 = some (.goto 4, 3) := rfl
theorem at_71_19 : ab_at 71 19 = some (.iload_n 1, 1) := rfl
theorem at_71_20 : ab_at 71 20 = some (.putfield 41, 3) := rfl
theorem at_71_23 : ab_at 71 23 = some (.aload_n 0, 1) := rfl
theorem at_71_24 : ab_at 71 24 = some (.aload_n 0, 1) := rfl
theorem at_71_25 : ab_at 71 25 = some (.getfield 29, 3) := rfl
theorem at_71_28 : ab_at 71 28 = some (.aload_n 0, 1) := rfl
theorem at_71_29 : ab_at 71 29 = some (.getfield 45, 3) := rfl
theorem at_71_32 : ab_at 71 32 = some (.iaload, 1) := rfl
theorem at_71_33 : ab_at 71 33 = some (.putfield 63, 3) := rfl
theorem at_71_36 : ab_at 71 36 = some (.iconst 0, 1) := rfl
theorem at_71_37 : ab_at 71 37 = some (.ireturn, 1) := rfl
theorem at_72_0 : ab_at 72 0 = some (.aload_n 0, 1) := rfl
theorem at_72_1 : ab_at 72 1 = some (.getfield 48, 3) := rfl
theorem at_72_4 : ab_at 72 4 = some (.ifCond .ne 8, 3) := rfl
theorem at_72_7 : ab_at 72 7 = some (.aload_n 0, 1) := rfl
theorem at_72_8 : ab_at 72 8 = some (.invokevirtual 66, 3) := rfl
theorem at_72_11 : ab_at 72 11 = some (.ireturn, 1) := rfl
theorem at_72_12 : ab_at 72 12 = some (.aload_n 0, 1) := rfl
theorem at_72_13 : ab_at 72 13 = some (.getfield 25, 3) := rfl
theorem at_72_16 : ab_at 72 16 = some (.aload_n 0, 1) := rfl
theorem at_72_17 : ab_at 72 17 = some (.getfield 45, 3) := rfl
theorem at_72_20 : ab_at 72 20 = some (.iaload, 1) := rfl
theorem at_72_21 : ab_at 72 21 = some (.bipush 7, 2) := rfl
theorem at_72_23 : ab_at 72 23 = some (.if_icmp .gt 10, 3) := rfl
theorem at_72_26 : ab_at 72 26 = some (.aload_n 0, 1) := rfl
theorem at_72_27 : ab_at 72 27 = some (.invokevirtual 69, 3) := rfl
theorem at_72_30 : ab_at 72 30 = some (.goto 7, 3) := rfl
theorem at_72_33 : ab_at 72 33 = some (.aload_n 0, 1) := rfl
theorem at_72_34 : ab_at 72 34 = some (.invokevirtual 72, 3) := rfl
theorem at_72_37 : ab_at 72 37 = some (.ireturn, 1) := rfl
theorem at_73_0 : ab_at 73 0 = some (.aload_n 0, 1) := rfl
theorem at_73_1 : ab_at 73 1 = some (.getfield 25, 3) := rfl
theorem at_73_4 : ab_at 73 4 = some (.aload_n 0, 1) := rfl
theorem at_73_5 : ab_at 73 5 = some (.getfield 45, 3) := rfl
theorem at_73_8 : ab_at 73 8 = some (.iaload, 1) := rfl
theorem at_73_9 : ab_at 73 9 = some (.bipush 20, 2) := rfl
theorem at_73_11 : ab_at 73 11 = some (.if_icmp .eq 9, 3) := rfl
theorem at_73_14 : ab_at 73 14 = some (.aload_n 0, 1) := rfl
theorem at_73_15 : ab_at 73 15 = some (.iconst 2, 1) := rfl
theorem at_73_16 : ab_at 73 16 = some (.invokevirtual 59, 3) := rfl
theorem at_73_19 : ab_at 73 19 = some (.ireturn, 1) := rfl
theorem at_73_20 : ab_at 73 20 = some (.aload_n 0, 1) := rfl
theorem at_73_21 : ab_at 73 21 = some (.getfield 21, 3) := rfl
theorem at_73_24 : ab_at 73 24 = some (.invokevirtual 75, 3) := rfl
theorem at_73_27 : ab_at 73 27 = some (.ifCond .ne 9, 3) := rfl
theorem at_73_30 : ab_at 73 30 = some (.aload_n 0, 1) := rfl
theorem at_73_31 : ab_at 73 31 = some (.iconst 5, 1) := rfl
theorem at_73_32 : ab_at 73 32 = some (.invokevirtual 59, 3) := rfl
theorem at_73_35 : ab_at 73 35 = some (.ireturn, 1) := rfl
theorem at_73_36 : ab_at 73 36 = some (.aload_n 0, 1) := rfl
theorem at_73_37 : ab_at 73 37 = some (.dup, 1) := rfl
theorem at_73_38 : ab_at 73 38 = some (.getfield 45, 3) := rfl
theorem at_73_41 : ab_at 73 41 = some (.iconst 1, 1) := rfl
theorem at_73_42 : ab_at 73 42 = some (.iadd, 1) := rfl
theorem at_73_43 : ab_at 73 43 = some (.putfield 45, 3) := rfl
theorem at_73_46 : ab_at 73 46 = some (.aload_n 0, 1) := rfl
theorem at_73_47 : ab_at 73 47 = some (.iconst 1, 1) := rfl
theorem at_73_48 : ab_at 73 48 = some (.putfield 48, 3) := rfl
theorem at_73_51 : ab_at 73 51 = some (.aload_n 0, 1) := rfl
theorem at_73_52 : ab_at 73 52 = some (.iconst 0, 1) := rfl
theorem at_73_53 : ab_at 73 53 = some (.putfield 78, 3) := rfl
theorem at_73_56 : ab_at 73 56 = some (.aload_n 0, 1) := rfl
theorem at_73_57 : ab_at 73 57 = some (.invokevirtual 81, 3) := rfl
theorem at_73_60 : ab_at 73 60 = some (.ireturn, 1) := rfl
theorem at_74_0 : ab_at 74 0 = some (.aload_n 0, 1) := rfl
theorem at_74_1 : ab_at 74 1 = some (.getfield 25, 3) := rfl
theorem at_74_4 : ab_at 74 4 = some (.aload_n 0, 1) := rfl
theorem at_74_5 : ab_at 74 5 = some (.getfield 45, 3) := rfl
theorem at_74_8 : ab_at 74 8 = some (.iaload, 1) := rfl
theorem at_74_9 : ab_at 74 9 = some (.istore_n 1, 1) := rfl
theorem at_74_10 : ab_at 74 10 = some (.iload_n 1, 1) := rfl
theorem at_74_11 : ab_at 74 11 = some (.bipush 7, 2) := rfl
theorem at_74_13 : ab_at 74 13 = some (.if_icmp .ne 16, 3) := rfl
theorem at_74_16 : ab_at 74 16 = some (.aload_n 0, 1) := rfl
theorem at_74_17 : ab_at 74 17 = some (.getfield 78, 3) := rfl
theorem at_74_20 : ab_at 74 20 = some (.ifCond .eq 9, 3) := rfl
theorem at_74_23 : ab_at 74 23 = some (.aload_n 0, 1) := rfl
theorem at_74_24 : ab_at 74 24 = some (.iconst 2, 1) := rfl
theorem at_74_25 : ab_at 74 25 = some (.invokevirtual 59, 3) := rfl
theorem at_74_28 : ab_at 74 28 = some (.ireturn, 1) := rfl
theorem at_74_29 : ab_at 74 29 = some (.aload_n 0, 1) := rfl
theorem at_74_30 : ab_at 74 30 = some (.getfield 21, 3) := rfl
theorem at_74_33 : ab_at 74 33 = some (.iload_n 1, 1) := rfl
theorem at_74_34 : ab_at 74 34 = some (.invokevirtual 84, 3) := rfl
theorem at_74_37 : ab_at 74 37 = some (.ifCond .ne 9, 3) := rfl
theorem at_74_40 : ab_at 74 40 = some (.aload_n 0, 1) := rfl
theorem at_74_41 : ab_at 74 41 = some (.iconst 5, 1) := rfl
theorem at_74_42 : ab_at 74 42 = some (.invokevirtual 59, 3) := rfl
theorem at_74_45 : ab_at 74 45 = some (.ireturn, 1) := rfl
theorem at_74_46 : ab_at 74 46 = some (.aload_n 0, 1) := rfl
theorem at_74_47 : ab_at 74 47 = some (.dup, 1) := rfl
theorem at_74_48 : ab_at 74 48 = some (.getfield 45, 3) := rfl
theorem at_74_51 : ab_at 74 51 = some (.iconst 1, 1) := rfl
theorem at_74_52 : ab_at 74 52 = some (.iadd, 1) := rfl
theorem at_74_53 : ab_at 74 53 = some (.putfield 45, 3) := rfl
theorem at_74_56 : ab_at 74 56 = some (.aload_n 0, 1) := rfl
theorem at_74_57 : ab_at 74 57 = some (.iload_n 1, 1) := rfl
theorem at_74_58 : ab_at 74 58 = some (.bipush 7, 2) := rfl
theorem at_74_60 : ab_at 74 60 = some (.if_icmp .eq 7, 3) := rfl
theorem at_74_63 : ab_at 74 63 = some (.iconst 1, 1) := rfl
theorem at_74_64 : ab_at 74 64 = some (.goto 4, 3) := rfl
theorem at_74_67 : ab_at 74 67 = some (.iconst 0, 1) := rfl
theorem at_74_68 : ab_at 74 68 = some (.putfield 78, 3) := rfl
theorem at_74_71 : ab_at 74 71 = some (.iload_n 1, 1) := rfl
theorem at_74_72 : ab_at 74 72 = some (.ifCond .eq 8, 3) := rfl
theorem at_74_75 : ab_at 74 75 = some (.iload_n 1, 1) := rfl
theorem at_74_76 : ab_at 74 76 = some (.iconst 1, 1) := rfl
theorem at_74_77 : ab_at 74 77 = some (.if_icmp .ne 11, 3) := rfl
theorem at_74_80 : ab_at 74 80 = some (.aload_n 0, 1) := rfl
theorem at_74_81 : ab_at 74 81 = some (.iload_n 1, 1) := rfl
theorem at_74_82 : ab_at 74 82 = some (.invokevirtual 87, 3) := rfl
theorem at_74_85 : ab_at 74 85 = some (.goto 8, 3) := rfl
theorem at_74_88 : ab_at 74 88 = some (.aload_n 0, 1) := rfl
theorem at_74_89 : ab_at 74 89 = some (.iload_n 1, 1) := rfl
theorem at_74_90 : ab_at 74 90 = some (.invokevirtual 90, 3) := rfl
theorem at_74_93 : ab_at 74 93 = some (.istore_n 2, 1) := rfl
theorem at_74_94 : ab_at 74 94 = some (.iload_n 2, 1) := rfl
theorem at_74_95 : ab_at 74 95 = some (.ifCond .eq 14, 3) := rfl
theorem at_74_98 : ab_at 74 98 = some (.aload_n 0, 1) := rfl
theorem at_74_99 : ab_at 74 99 = some (.invokevirtual 81, 3) := rfl
theorem at_74_102 : ab_at 74 102 = some (.ifCond .eq 7, 3) := rfl
theorem at_74_105 : ab_at 74 105 = some (.iconst 1, 1) := rfl
theorem at_74_106 : ab_at 74 106 = some (.goto 4, 3) := rfl
theorem at_74_109 : ab_at 74 109 = some (.iconst 0, 1) := rfl
theorem at_74_110 : ab_at 74 110 = some (.ireturn, 1) := rfl
theorem at_75_0 : ab_at 75 0 = some (.aload_n 0, 1) := rfl
theorem at_75_1 : ab_at 75 1 = some (.iconst 0, 1) := rfl
theorem at_75_2 : ab_at 75 2 = some (.iload_n 1, 1) := rfl
theorem at_75_3 : ab_at 75 3 = some (.invokestatic 93, 3) := rfl
theorem at_75_6 : ab_at 75 6 = some (.invokevirtual 97, 3) := rfl
theorem at_75_9 : ab_at 75 9 = some (.ifCond .ne 5, 3) := rfl
theorem at_75_12 : ab_at 75 12 = some (.iconst 0, 1) := rfl
theorem at_75_13 : ab_at 75 13 = some (.ireturn, 1) := rfl
theorem at_75_14 : ab_at 75 14 = some (.aload_n 0, 1) := rfl
theorem at_75_15 : ab_at 75 15 = some (.getfield 21, 3) := rfl
theorem at_75_18 : ab_at 75 18 = some (.aload_n 0, 1) := rfl
theorem at_75_19 : ab_at 75 19 = some (.getfield 101, 3) := rfl
theorem at_75_22 : ab_at 75 22 = some (.invokevirtual 104, 3) := rfl
theorem at_75_25 : ab_at 75 25 = some (.iconst 1, 1) := rfl
theorem at_75_26 : ab_at 75 26 = some (.ireturn, 1) := rfl
theorem at_76_0 : ab_at 76 0 = some (.iload_n 1, 1) := rfl
theorem at_76_1 : ab_at 76 1 = some (.bipush 7, 2) := rfl
theorem at_76_3 : ab_at 76 3 = some (.if_icmp .eq 8, 3) := rfl
theorem at_76_6 : ab_at 76 6 = some (.iload_n 1, 1) := rfl
theorem at_76_7 : ab_at 76 7 = some (.iconst 4, 1) := rfl
theorem at_76_8 : ab_at 76 8 = some (.if_icmp .ne 7, 3) := rfl
theorem at_76_11 : ab_at 76 11 = some (.iconst 1, 1) := rfl
theorem at_76_12 : ab_at 76 12 = some (.goto 4, 3) := rfl
theorem at_76_15 : ab_at 76 15 = some (.iconst 2, 1) := rfl
theorem at_76_16 : ab_at 76 16 = some (.istore_n 2, 1) := rfl
theorem at_76_17 : ab_at 76 17 = some (.iload_n 1, 1) := rfl
theorem at_76_18 : ab_at 76 18 = some (.bipush 7, 2) := rfl
theorem at_76_20 : ab_at 76 20 = some (.if_icmp .ne 9, 3) := rfl
theorem at_76_23 : ab_at 76 23 = some (.sipush 320, 3) := rfl
theorem at_76_26 : ab_at 76 26 = some (.goto 4, 3) := rfl
theorem at_76_29 : ab_at 76 29 = some (.iload_n 2, 1) := rfl
theorem at_76_30 : ab_at 76 30 = some (.istore_n 3, 1) := rfl
theorem at_76_31 : ab_at 76 31 = some (.iconst 0, 1) := rfl
theorem at_76_32 : ab_at 76 32 = some (.istore 4, 2) := rfl
theorem at_76_34 : ab_at 76 34 = some (.iload 4, 2) := rfl
theorem at_76_36 : ab_at 76 36 = some (.iload_n 3, 1) := rfl
theorem at_76_37 : ab_at 76 37 = some (.if_icmp .ge 52, 3) := rfl
theorem at_76_40 : ab_at 76 40 = some (.iload 4, 2) := rfl
theorem at_76_42 : ab_at 76 42 = some (.iload_n 2, 1) := rfl
theorem at_76_43 : ab_at 76 43 = some (.if_icmp .lt 17, 3) := rfl
theorem at_76_46 : ab_at 76 46 = some (.aload_n 0, 1) := rfl
theorem at_76_47 : ab_at 76 47 = some (.getfield 25, 3) := rfl
theorem at_76_50 : ab_at 76 50 = some (.aload_n 0, 1) := rfl
theorem at_76_51 : ab_at 76 51 = some (.getfield 45, 3) := rfl
theorem at_76_54 : ab_at 76 54 = some (.iaload, 1) := rfl
theorem at_76_55 : ab_at 76 55 = some (.bipush 22, 2) := rfl
theorem at_76_57 : ab_at 76 57 = some (.if_icmp .ne 32, 3) := rfl
theorem at_76_60 : ab_at 76 60 = some (.aload_n 0, 1) := rfl
theorem at_76_61 : ab_at 76 61 = some (.iconst 0, 1) := rfl
theorem at_76_62 : ab_at 76 62 = some (.bipush 19, 2) := rfl
theorem at_76_64 : ab_at 76 64 = some (.invokevirtual 97, 3) := rfl
theorem at_76_67 : ab_at 76 67 = some (.ifCond .ne 5, 3) := rfl
theorem at_76_70 : ab_at 76 70 = some (.iconst 0, 1) := rfl
theorem at_76_71 : ab_at 76 71 = some (.ireturn, 1) := rfl
theorem at_76_72 : ab_at 76 72 = some (.aload_n 0, 1) := rfl
theorem at_76_73 : ab_at 76 73 = some (.getfield 21, 3) := rfl
theorem at_76_76 : ab_at 76 76 = some (.aload_n 0, 1) := rfl
theorem at_76_77 : ab_at 76 77 = some (.getfield 101, 3) := rfl
theorem at_76_80 : ab_at 76 80 = some (.invokevirtual 108, 3) := rfl
theorem at_76_83 : ab_at 76 83 = some (.iinc 4 1, 3) := rfl
theorem at_76_86 : ab_at 76 86 = some (.goto (-52), 3) := rfl
theorem at_76_89 : ab_at 76 89 = some (.iconst 1, 1) := rfl
theorem at_76_90 : ab_at 76 90 = some (.ireturn, 1) := rfl
theorem at_77_0 : ab_at 77 0 = some (.aload_n 0, 1) := rfl
theorem at_77_1 : ab_at 77 1 = some (.getfield 25, 3) := rfl
theorem at_77_4 : ab_at 77 4 = some (.aload_n 0, 1) := rfl
theorem at_77_5 : ab_at 77 5 = some (.getfield 45, 3) := rfl
theorem at_77_8 : ab_at 77 8 = some (.iaload, 1) := rfl
theorem at_77_9 : ab_at 77 9 = some (.bipush 10, 2) := rfl
theorem at_77_11 : ab_at 77 11 = some (.isub, 1) := rfl
theorem at_77_12 : ab_at 77 12 = some (.istore_n 1, 1) := rfl
theorem at_77_13 : ab_at 77 13 = some (.iload_n 1, 1) := rfl
theorem at_77_14 : ab_at 77 14 = some (.ifCond .eq 19, 3) := rfl
theorem at_77_17 : ab_at 77 17 = some (.iload_n 1, 1) := rfl
theorem at_77_18 : ab_at 77 18 = some (.iconst 1, 1) := rfl
theorem at_77_19 : ab_at 77 19 = some (.if_icmp .eq 14, 3) := rfl
theorem at_77_22 : ab_at 77 22 = some (.iload_n 1, 1) := rfl
theorem at_77_23 : ab_at 77 23 = some (.iconst 2, 1) := rfl
theorem at_77_24 : ab_at 77 24 = some (.if_icmp .eq 9, 3) := rfl
theorem at_77_27 : ab_at 77 27 = some (.aload_n 0, 1) := rfl
theorem at_77_28 : ab_at 77 28 = some (.iconst 2, 1) := rfl
theorem at_77_29 : ab_at 77 29 = some (.invokevirtual 59, 3) := rfl
theorem at_77_32 : ab_at 77 32 = some (.ireturn, 1) := rfl
theorem at_77_33 : ab_at 77 33 = some (.aload_n 0, 1) := rfl
theorem at_77_34 : ab_at 77 34 = some (.dup, 1) := rfl
theorem at_77_35 : ab_at 77 35 = some (.getfield 45, 3) := rfl
theorem at_77_38 : ab_at 77 38 = some (.iconst 1, 1) := rfl
theorem at_77_39 : ab_at 77 39 = some (.iadd, 1) := rfl
theorem at_77_40 : ab_at 77 40 = some (.putfield 45, 3) := rfl
theorem at_77_43 : ab_at 77 43 = some (.aload_n 0, 1) := rfl
theorem at_77_44 : ab_at 77 44 = some (.getfield 21, 3) := rfl
theorem at_77_47 : ab_at 77 47 = some (.iload_n 1, 1) := rfl
theorem at_77_48 : ab_at 77 48 = some (.invokevirtual 111, 3) := rfl
theorem at_77_51 : ab_at 77 51 = some (.iload_n 1, 1) := rfl
theorem at_77_52 : ab_at 77 52 = some (.ifCond .eq 26, 3) := rfl
theorem at_77_55 : ab_at 77 55 = some (.aload_n 0, 1) := rfl
theorem at_77_56 : ab_at 77 56 = some (.iconst 0, 1) := rfl
theorem at_77_57 : ab_at 77 57 = some (.bipush 19, 2) := rfl
theorem at_77_59 : ab_at 77 59 = some (.invokevirtual 97, 3) := rfl
theorem at_77_62 : ab_at 77 62 = some (.ifCond .ne 5, 3) := rfl
theorem at_77_65 : ab_at 77 65 = some (.iconst 0, 1) := rfl
theorem at_77_66 : ab_at 77 66 = some (.ireturn, 1) := rfl
theorem at_77_67 : ab_at 77 67 = some (.aload_n 0, 1) := rfl
theorem at_77_68 : ab_at 77 68 = some (.getfield 21, 3) := rfl
theorem at_77_71 : ab_at 77 71 = some (.aload_n 0, 1) := rfl
theorem at_77_72 : ab_at 77 72 = some (.getfield 101, 3) := rfl
theorem at_77_75 : ab_at 77 75 = some (.invokevirtual 114, 3) := rfl
theorem at_77_78 : ab_at 77 78 = some (.iload_n 1, 1) := rfl
theorem at_77_79 : ab_at 77 79 = some (.iconst 2, 1) := rfl
theorem at_77_80 : ab_at 77 80 = some (.if_icmp .eq 25, 3) := rfl
theorem at_77_83 : ab_at 77 83 = some (.aload_n 0, 1) := rfl
theorem at_77_84 : ab_at 77 84 = some (.iconst 1, 1) := rfl
theorem at_77_85 : ab_at 77 85 = some (.iconst 5, 1) := rfl
theorem at_77_86 : ab_at 77 86 = some (.invokevirtual 97, 3) := rfl
theorem at_77_89 : ab_at 77 89 = some (.ifCond .ne 5, 3) := rfl
theorem at_77_92 : ab_at 77 92 = some (.iconst 0, 1) := rfl
theorem at_77_93 : ab_at 77 93 = some (.ireturn, 1) := rfl
theorem at_77_94 : ab_at 77 94 = some (.aload_n 0, 1) := rfl
theorem at_77_95 : ab_at 77 95 = some (.getfield 21, 3) := rfl
theorem at_77_98 : ab_at 77 98 = some (.aload_n 0, 1) := rfl
theorem at_77_99 : ab_at 77 99 = some (.getfield 101, 3) := rfl
theorem at_77_102 : ab_at 77 102 = some (.invokevirtual 117, 3) := rfl
theorem at_77_105 : ab_at 77 105 = some (.iload_n 1, 1) := rfl
theorem at_77_106 : ab_at 77 106 = some (.iconst 1, 1) := rfl
theorem at_77_107 : ab_at 77 107 = some (.if_icmp .ne 25, 3) := rfl
theorem at_77_110 : ab_at 77 110 = some (.aload_n 0, 1) := rfl
theorem at_77_111 : ab_at 77 111 = some (.iconst 1, 1) := rfl
theorem at_77_112 : ab_at 77 112 = some (.iconst 5, 1) := rfl
theorem at_77_113 : ab_at 77 113 = some (.invokevirtual 97, 3) := rfl
theorem at_77_116 : ab_at 77 116 = some (.ifCond .ne 5, 3) := rfl
theorem at_77_119 : ab_at 77 119 = some (.iconst 0, 1) := rfl
theorem at_77_120 : ab_at 77 120 = some (.ireturn, 1) := rfl
theorem at_77_121 : ab_at 77 121 = some (.aload_n 0, 1) := rfl
theorem at_77_122 : ab_at 77 122 = some (.getfield 21, 3) := rfl
theorem at_77_125 : ab_at 77 125 = some (.aload_n 0, 1) := rfl
theorem at_77_126 : ab_at 77 126 = some (.getfield 101, 3) := rfl
theorem at_77_129 : ab_at 77 129 = some (.invokevirtual 120, 3) := rfl
theorem at_77_132 : ab_at 77 132 = some (.aload_n 0, 1) := rfl
theorem at_77_133 : ab_at 77 133 = some (.iconst 0, 1) := rfl
theorem at_77_134 : ab_at 77 134 = some (.putfield 48, 3) := rfl
theorem at_77_137 : ab_at 77 137 = some (.aload_n 0, 1) := rfl
theorem at_77_138 : ab_at 77 138 = some (.invokevirtual 81, 3) := rfl
theorem at_77_141 : ab_at 77 141 = some (.ireturn, 1) := rfl
theorem at_78_0 : ab_at 78 0 = some (.aload_n 0, 1) := rfl
theorem at_78_1 : ab_at 78 1 = some (.getfield 25, 3) := rfl
theorem at_78_4 : ab_at 78 4 = some (.aload_n 0, 1) := rfl
theorem at_78_5 : ab_at 78 5 = some (.getfield 45, 3) := rfl
theorem at_78_8 : ab_at 78 8 = some (.iaload, 1) := rfl
theorem at_78_9 : ab_at 78 9 = some (.bipush 23, 2) := rfl
theorem at_78_11 : ab_at 78 11 = some (.if_icmp .eq 9, 3) := rfl
theorem at_78_14 : ab_at 78 14 = some (.aload_n 0, 1) := rfl
theorem at_78_15 : ab_at 78 15 = some (.iconst 2, 1) := rfl
theorem at_78_16 : ab_at 78 16 = some (.invokevirtual 59, 3) := rfl
theorem at_78_19 : ab_at 78 19 = some (.ireturn, 1) := rfl
theorem at_78_20 : ab_at 78 20 = some (.aload_n 0, 1) := rfl
theorem at_78_21 : ab_at 78 21 = some (.dup, 1) := rfl
theorem at_78_22 : ab_at 78 22 = some (.getfield 45, 3) := rfl
theorem at_78_25 : ab_at 78 25 = some (.iconst 1, 1) := rfl
theorem at_78_26 : ab_at 78 26 = some (.iadd, 1) := rfl
theorem at_78_27 : ab_at 78 27 = some (.putfield 45, 3) := rfl
theorem at_78_30 : ab_at 78 30 = some (.iconst 1, 1) := rfl
theorem at_78_31 : ab_at 78 31 = some (.ireturn, 1) := rfl
theorem at_79_0 : ab_at 79 0 = some (.aload_n 0, 1) := rfl
theorem at_79_1 : ab_at 79 1 = some (.getfield 25, 3) := rfl
theorem at_79_4 : ab_at 79 4 = some (.aload_n 0, 1) := rfl
theorem at_79_5 : ab_at 79 5 = some (.getfield 45, 3) := rfl
theorem at_79_8 : ab_at 79 8 = some (.iaload, 1) := rfl
theorem at_79_9 : ab_at 79 9 = some (.bipush 22, 2) := rfl
theorem at_79_11 : ab_at 79 11 = some (.if_icmp .eq 9, 3) := rfl
theorem at_79_14 : ab_at 79 14 = some (.aload_n 0, 1) := rfl
theorem at_79_15 : ab_at 79 15 = some (.iconst 2, 1) := rfl
theorem at_79_16 : ab_at 79 16 = some (.invokevirtual 59, 3) := rfl
theorem at_79_19 : ab_at 79 19 = some (.ireturn, 1) := rfl
theorem at_79_20 : ab_at 79 20 = some (.aload_n 0, 1) := rfl
theorem at_79_21 : ab_at 79 21 = some (.getfield 32, 3) := rfl
theorem at_79_24 : ab_at 79 24 = some (.aload_n 0, 1) := rfl
theorem at_79_25 : ab_at 79 25 = some (.getfield 45, 3) := rfl
theorem at_79_28 : ab_at 79 28 = some (.iaload, 1) := rfl
theorem at_79_29 : ab_at 79 29 = some (.iload_n 1, 1) := rfl
theorem at_79_30 : ab_at 79 30 = some (.if_icmp .lt 16, 3) := rfl
theorem at_79_33 : ab_at 79 33 = some (.aload_n 0, 1) := rfl
theorem at_79_34 : ab_at 79 34 = some (.getfield 32, 3) := rfl
theorem at_79_37 : ab_at 79 37 = some (.aload_n 0, 1) := rfl
theorem at_79_38 : ab_at 79 38 = some (.getfield 45, 3) := rfl
theorem at_79_41 : ab_at 79 41 = some (.iaload, 1) := rfl
theorem at_79_42 : ab_at 79 42 = some (.iload_n 2, 1) := rfl
theorem at_79_43 : ab_at 79 43 = some (.if_icmp .le 9, 3) := rfl
theorem at_79_46 : ab_at 79 46 = some (.aload_n 0, 1) := rfl
theorem at_79_47 : ab_at 79 47 = some (.iconst 3, 1) := rfl
theorem at_79_48 : ab_at 79 48 = some (.invokevirtual 59, 3) := rfl
theorem at_79_51 : ab_at 79 51 = some (.ireturn, 1) := rfl
theorem at_79_52 : ab_at 79 52 = some (.aload_n 0, 1) := rfl
theorem at_79_53 : ab_at 79 53 = some (.aload_n 0, 1) := rfl
theorem at_79_54 : ab_at 79 54 = some (.getfield 32, 3) := rfl
theorem at_79_57 : ab_at 79 57 = some (.aload_n 0, 1) := rfl
theorem at_79_58 : ab_at 79 58 = some (.getfield 45, 3) := rfl
theorem at_79_61 : ab_at 79 61 = some (.iaload, 1) := rfl
theorem at_79_62 : ab_at 79 62 = some (.putfield 101, 3) := rfl
theorem at_79_65 : ab_at 79 65 = some (.aload_n 0, 1) := rfl
theorem at_79_66 : ab_at 79 66 = some (.dup, 1) := rfl
theorem at_79_67 : ab_at 79 67 = some (.getfield 45, 3) := rfl
theorem at_79_70 : ab_at 79 70 = some (.iconst 1, 1) := rfl
theorem at_79_71 : ab_at 79 71 = some (.iadd, 1) := rfl
theorem at_79_72 : ab_at 79 72 = some (.putfield 45, 3) := rfl
theorem at_79_75 : ab_at 79 75 = some (.iconst 1, 1) := rfl
theorem at_79_76 : ab_at 79 76 = some (.ireturn, 1) := rfl
theorem at_80_0 : ab_at 80 0 = some (.aload_n 0, 1) := rfl
theorem at_80_1 : ab_at 80 1 = some (.iconst 0, 1) := rfl
theorem at_80_2 : ab_at 80 2 = some (.putfield 123, 3) := rfl
theorem at_80_5 : ab_at 80 5 = some (.bipush 23, 2) := rfl
theorem at_80_7 : ab_at 80 7 = some (.istore_n 1, 1) := rfl
theorem at_80_8 : ab_at 80 8 = some (.iconst 0, 1) := rfl
theorem at_80_9 : ab_at 80 9 = some (.istore_n 2, 1) := rfl
theorem at_80_10 : ab_at 80 10 = some (.iload_n 2, 1) := rfl
theorem at_80_11 : ab_at 80 11 = some (.sipush 320, 3) := rfl
theorem at_80_14 : ab_at 80 14 = some (.if_icmp .gt 84, 3) := rfl
theorem at_80_17 : ab_at 80 17 = some (.iload_n 1, 1) := rfl
theorem at_80_18 : ab_at 80 18 = some (.bipush 24, 2) := rfl
theorem at_80_20 : ab_at 80 20 = some (.if_icmp .eq 78, 3) := rfl
theorem at_80_23 : ab_at 80 23 = some (.iload_n 1, 1) := rfl
theorem at_80_24 : ab_at 80 24 = some (.bipush 25, 2) := rfl
theorem at_80_26 : ab_at 80 26 = some (.if_icmp .eq 72, 3) := rfl
theorem at_80_29 : ab_at 80 29 = some (.aload_n 0, 1) := rfl
theorem at_80_30 : ab_at 80 30 = some (.bipush 32, 2) := rfl
theorem at_80_32 : ab_at 80 32 = some (.bipush 32, 2) := rfl
theorem at_80_34 : ab_at 80 34 = some (.invokevirtual 126, 3) := rfl
theorem at_80_37 : ab_at 80 37 = some (.aload_n 0, 1) := rfl
theorem at_80_38 : ab_at 80 38 = some (.getfield 29, 3) := rfl
theorem at_80_41 : ab_at 80 41 = some (.iload_n 2, 1) := rfl
theorem at_80_42 : ab_at 80 42 = some (.aload_n 0, 1) := rfl
theorem at_80_43 : ab_at 80 43 = some (.getfield 123, 3) := rfl
theorem at_80_46 : ab_at 80 46 = some (.iastore, 1) := rfl
theorem at_80_47 : ab_at 80 47 = some (.aload_n 0, 1) := rfl
theorem at_80_48 : ab_at 80 48 = some (.getfield 32, 3) := rfl
theorem at_80_51 : ab_at 80 51 = some (.iload_n 2, 1) := rfl
theorem at_80_52 : ab_at 80 52 = some (.iconst 0, 1) := rfl
theorem at_80_53 : ab_at 80 53 = some (.iastore, 1) := rfl
theorem at_80_54 : ab_at 80 54 = some (.aload_n 0, 1) := rfl
theorem at_80_55 : ab_at 80 55 = some (.aload_n 0, 1) := rfl
theorem at_80_56 : ab_at 80 56 = some (.getfield 123, 3) := rfl
theorem at_80_59 : ab_at 80 59 = some (.invokevirtual 130, 3) := rfl
theorem at_80_62 : ab_at 80 62 = some (.istore_n 1, 1) := rfl
theorem at_80_63 : ab_at 80 63 = some (.aload_n 0, 1) := rfl
theorem at_80_64 : ab_at 80 64 = some (.getfield 25, 3) := rfl
theorem at_80_67 : ab_at 80 67 = some (.iload_n 2, 1) := rfl
theorem at_80_68 : ab_at 80 68 = some (.iload_n 1, 1) := rfl
theorem at_80_69 : ab_at 80 69 = some (.iastore, 1) := rfl
theorem at_80_70 : ab_at 80 70 = some (.iload_n 1, 1) := rfl
theorem at_80_71 : ab_at 80 71 = some (.bipush 22, 2) := rfl
theorem at_80_73 : ab_at 80 73 = some (.if_icmp .ne 19, 3) := rfl
theorem at_80_76 : ab_at 80 76 = some (.aload_n 0, 1) := rfl
theorem at_80_77 : ab_at 80 77 = some (.getfield 32, 3) := rfl
theorem at_80_80 : ab_at 80 80 = some (.iload_n 2, 1) := rfl
theorem at_80_81 : ab_at 80 81 = some (.aload_n 0, 1) := rfl
theorem at_80_82 : ab_at 80 82 = some (.aload_n 0, 1) := rfl
theorem at_80_83 : ab_at 80 83 = some (.getfield 29, 3) := rfl
theorem at_80_86 : ab_at 80 86 = some (.iload_n 2, 1) := rfl
theorem at_80_87 : ab_at 80 87 = some (.iaload, 1) := rfl
theorem at_80_88 : ab_at 80 88 = some (.invokevirtual 133, 3) := rfl
theorem at_80_91 : ab_at 80 91 = some (.iastore, 1) := rfl
theorem at_80_92 : ab_at 80 92 = some (.iinc 2 1, 3) := rfl
theorem at_80_95 : ab_at 80 95 = some (.goto (-85), 3) := rfl
theorem at_80_98 : ab_at 80 98 = some (.return_, 1) := rfl
theorem at_81_0 : ab_at 81 0 = some (.iload_n 1, 1) := rfl
theorem at_81_1 : ab_at 81 1 = some (.aload_n 0, 1) := rfl
theorem at_81_2 : ab_at 81 2 = some (.getfield 12, 3) := rfl
theorem at_81_5 : ab_at 81 5 = some (.getfield 136, 3) := rfl
theorem at_81_8 : ab_at 81 8 = some (.if_icmp .lt 6, 3) := rfl
theorem at_81_11 : ab_at 81 11 = some (.bipush 24, 2) := rfl
theorem at_81_13 : ab_at 81 13 = some (.ireturn, 1) := rfl
theorem at_81_14 : ab_at 81 14 = some (.aload_n 0, 1) := rfl
theorem at_81_15 : ab_at 81 15 = some (.getfield 12, 3) := rfl
theorem at_81_18 : ab_at 81 18 = some (.iload_n 1, 1) := rfl
theorem at_81_19 : ab_at 81 19 = some (.bipush 97, 2) := rfl
theorem at_81_21 : ab_at 81 21 = some (.bipush 122, 2) := rfl
theorem at_81_23 : ab_at 81 23 = some (.invokevirtual 139, 3) := rfl
theorem at_81_26 : ab_at 81 26 = some (.ifCond .eq 17, 3) := rfl
theorem at_81_29 : ab_at 81 29 = some (.aload_n 0, 1) := rfl
theorem at_81_30 : ab_at 81 30 = some (.bipush 97, 2) := rfl
theorem at_81_32 : ab_at 81 32 = some (.bipush 122, 2) := rfl
theorem at_81_34 : ab_at 81 34 = some (.invokevirtual 126, 3) := rfl
theorem at_81_37 : ab_at 81 37 = some (.aload_n 0, 1) := rfl
theorem at_81_38 : ab_at 81 38 = some (.iload_n 1, 1) := rfl
theorem at_81_39 : ab_at 81 39 = some (.invokevirtual 143, 3) := rfl
theorem at_81_42 : ab_at 81 42 = some (.ireturn, 1) := rfl
theorem at_81_43 : ab_at 81 43 = some (.aload_n 0, 1) := rfl
theorem at_81_44 : ab_at 81 44 = some (.getfield 12, 3) := rfl
theorem at_81_47 : ab_at 81 47 = some (.iload_n 1, 1) := rfl
theorem at_81_48 : ab_at 81 48 = some (.bipush 48, 2) := rfl
theorem at_81_50 : ab_at 81 50 = some (.bipush 57, 2) := rfl
theorem at_81_52 : ab_at 81 52 = some (.invokevirtual 139, 3) := rfl
theorem at_81_55 : ab_at 81 55 = some (.ifCond .eq 29, 3) := rfl
theorem at_81_58 : ab_at 81 58 = some (.aload_n 0, 1) := rfl
theorem at_81_59 : ab_at 81 59 = some (.bipush 48, 2) := rfl
theorem at_81_61 : ab_at 81 61 = some (.bipush 57, 2) := rfl
theorem at_81_63 : ab_at 81 63 = some (.invokevirtual 126, 3) := rfl
theorem at_81_66 : ab_at 81 66 = some (.aload_n 0, 1) := rfl
theorem at_81_67 : ab_at 81 67 = some (.getfield 123, 3) := rfl
theorem at_81_70 : ab_at 81 70 = some (.iload_n 1, 1) := rfl
theorem at_81_71 : ab_at 81 71 = some (.isub, 1) := rfl
theorem at_81_72 : ab_at 81 72 = some (.iconst 2, 1) := rfl
theorem at_81_73 : ab_at 81 73 = some (.if_icmp .le 8, 3) := rfl
theorem at_81_76 : ab_at 81 76 = some (.bipush 25, 2) := rfl
theorem at_81_78 : ab_at 81 78 = some (.goto 5, 3) := rfl
theorem at_81_81 : ab_at 81 81 = some (.bipush 22, 2) := rfl
theorem at_81_83 : ab_at 81 83 = some (.ireturn, 1) := rfl
theorem at_81_84 : ab_at 81 84 = some (.aload_n 0, 1) := rfl
theorem at_81_85 : ab_at 81 85 = some (.getfield 12, 3) := rfl
theorem at_81_88 : ab_at 81 88 = some (.iload_n 1, 1) := rfl
theorem at_81_89 : ab_at 81 89 = some (.bipush 59, 2) := rfl
theorem at_81_91 : ab_at 81 91 = some (.bipush 59, 2) := rfl
theorem at_81_93 : ab_at 81 93 = some (.invokevirtual 139, 3) := rfl
theorem at_81_96 : ab_at 81 96 = some (.ifCond .ne 6, 3) := rfl
theorem at_81_99 : ab_at 81 99 = some (.bipush 25, 2) := rfl
theorem at_81_101 : ab_at 81 101 = some (.ireturn, 1) := rfl
theorem at_81_102 : ab_at 81 102 = some (.aload_n 0, 1) := rfl
theorem at_81_103 : ab_at 81 103 = some (.dup, 1) := rfl
theorem at_81_104 : ab_at 81 104 = some (.getfield 123, 3) := rfl
theorem at_81_107 : ab_at 81 107 = some (.iconst 1, 1) := rfl
theorem at_81_108 : ab_at 81 108 = some (.iadd, 1) := rfl
theorem at_81_109 : ab_at 81 109 = some (.putfield 123, 3) := rfl
theorem at_81_112 : ab_at 81 112 = some (.bipush 23, 2) := rfl
theorem at_81_114 : ab_at 81 114 = some (.ireturn, 1) := rfl
theorem at_82_0 : ab_at 82 0 = some (.iconst 0, 1) := rfl
theorem at_82_1 : ab_at 82 1 = some (.istore_n 3, 1) := rfl
theorem at_82_2 : ab_at 82 2 = some (.iload_n 3, 1) := rfl
theorem at_82_3 : ab_at 82 3 = some (.sipush 320, 3) := rfl
theorem at_82_6 : ab_at 82 6 = some (.if_icmp .ge 35, 3) := rfl
theorem at_82_9 : ab_at 82 9 = some (.aload_n 0, 1) := rfl
theorem at_82_10 : ab_at 82 10 = some (.getfield 12, 3) := rfl
theorem at_82_13 : ab_at 82 13 = some (.aload_n 0, 1) := rfl
theorem at_82_14 : ab_at 82 14 = some (.getfield 123, 3) := rfl
theorem at_82_17 : ab_at 82 17 = some (.iload_n 1, 1) := rfl
theorem at_82_18 : ab_at 82 18 = some (.iload_n 2, 1) := rfl
theorem at_82_19 : ab_at 82 19 = some (.invokevirtual 139, 3) := rfl
theorem at_82_22 : ab_at 82 22 = some (.ifCond .eq 19, 3) := rfl
theorem at_82_25 : ab_at 82 25 = some (.aload_n 0, 1) := rfl
theorem at_82_26 : ab_at 82 26 = some (.dup, 1) := rfl
theorem at_82_27 : ab_at 82 27 = some (.getfield 123, 3) := rfl
theorem at_82_30 : ab_at 82 30 = some (.iconst 1, 1) := rfl
theorem at_82_31 : ab_at 82 31 = some (.iadd, 1) := rfl
theorem at_82_32 : ab_at 82 32 = some (.putfield 123, 3) := rfl
theorem at_82_35 : ab_at 82 35 = some (.iinc 3 1, 3) := rfl
theorem at_82_38 : ab_at 82 38 = some (.goto (-36), 3) := rfl
theorem at_82_41 : ab_at 82 41 = some (.return_, 1) := rfl
theorem at_83_0 : ab_at 83 0 = some (.iconst 0, 1) := rfl
theorem at_83_1 : ab_at 83 1 = some (.istore_n 2, 1) := rfl
theorem at_83_2 : ab_at 83 2 = some (.iload_n 1, 1) := rfl
theorem at_83_3 : ab_at 83 3 = some (.istore_n 3, 1) := rfl
theorem at_83_4 : ab_at 83 4 = some (.iload_n 3, 1) := rfl
theorem at_83_5 : ab_at 83 5 = some (.aload_n 0, 1) := rfl
theorem at_83_6 : ab_at 83 6 = some (.getfield 123, 3) := rfl
theorem at_83_9 : ab_at 83 9 = some (.if_icmp .ge 34, 3) := rfl
theorem at_83_12 : ab_at 83 12 = some (.iload_n 3, 1) := rfl
theorem at_83_13 : ab_at 83 13 = some (.sipush 320, 3) := rfl
theorem at_83_16 : ab_at 83 16 = some (.if_icmp .ge 27, 3) := rfl
theorem at_83_19 : ab_at 83 19 = some (.iload_n 2, 1) := rfl
theorem at_83_20 : ab_at 83 20 = some (.bipush 10, 2) := rfl
theorem at_83_22 : ab_at 83 22 = some (.imul, 1) := rfl
theorem at_83_23 : ab_at 83 23 = some (.aload_n 0, 1) := rfl
theorem at_83_24 : ab_at 83 24 = some (.getfield 12, 3) := rfl
theorem at_83_27 : ab_at 83 27 = some (.getfield 146, 3) := rfl
theorem at_83_30 : ab_at 83 30 = some (.iload_n 3, 1) := rfl
theorem at_83_31 : ab_at 83 31 = some (.baload, 1) := rfl
theorem at_83_32 : ab_at 83 32 = some (.iadd, 1) := rfl
theorem at_83_33 : ab_at 83 33 = some (.bipush 48, 2) := rfl
theorem at_83_35 : ab_at 83 35 = some (.isub, 1) := rfl
theorem at_83_36 : ab_at 83 36 = some (.istore_n 2, 1) := rfl
theorem at_83_37 : ab_at 83 37 = some (.iinc 3 1, 3) := rfl
theorem at_83_40 : ab_at 83 40 = some (.goto (-36), 3) := rfl
theorem at_83_43 : ab_at 83 43 = some (.iload_n 2, 1) := rfl
theorem at_83_44 : ab_at 83 44 = some (.ireturn, 1) := rfl
theorem at_84_0 : ab_at 84 0 = some (.aload_n 0, 1) := rfl
theorem at_84_1 : ab_at 84 1 = some (.iload_n 1, 1) := rfl
theorem at_84_2 : ab_at 84 2 = some (.ldc 150, 2) := rfl
theorem at_84_4 : ab_at 84 4 = some (.invokevirtual 152, 3) := rfl
theorem at_84_7 : ab_at 84 7 = some (.ifCond .eq 5, 3) := rfl
theorem at_84_10 : ab_at 84 10 = some (.iconst 0, 1) := rfl
theorem at_84_11 : ab_at 84 11 = some (.ireturn, 1) := rfl
theorem at_84_12 : ab_at 84 12 = some (.aload_n 0, 1) := rfl
theorem at_84_13 : ab_at 84 13 = some (.iload_n 1, 1) := rfl
theorem at_84_14 : ab_at 84 14 = some (.ldc 156, 2) := rfl
theorem at_84_16 : ab_at 84 16 = some (.invokevirtual 152, 3) := rfl
theorem at_84_19 : ab_at 84 19 = some (.ifCond .eq 5, 3) := rfl
theorem at_84_22 : ab_at 84 22 = some (.iconst 1, 1) := rfl
theorem at_84_23 : ab_at 84 23 = some (.ireturn, 1) := rfl
theorem at_84_24 : ab_at 84 24 = some (.aload_n 0, 1) := rfl
theorem at_84_25 : ab_at 84 25 = some (.iload_n 1, 1) := rfl
theorem at_84_26 : ab_at 84 26 = some (.ldc 158, 2) := rfl
theorem at_84_28 : ab_at 84 28 = some (.invokevirtual 152, 3) := rfl
theorem at_84_31 : ab_at 84 31 = some (.ifCond .eq 5, 3) := rfl
theorem at_84_34 : ab_at 84 34 = some (.iconst 2, 1) := rfl
theorem at_84_35 : ab_at 84 35 = some (.ireturn, 1) := rfl
theorem at_84_36 : ab_at 84 36 = some (.aload_n 0, 1) := rfl
theorem at_84_37 : ab_at 84 37 = some (.iload_n 1, 1) := rfl
theorem at_84_38 : ab_at 84 38 = some (.ldc 160, 2) := rfl
theorem at_84_40 : ab_at 84 40 = some (.invokevirtual 152, 3) := rfl
theorem at_84_43 : ab_at 84 43 = some (.ifCond .eq 5, 3) := rfl
theorem at_84_46 : ab_at 84 46 = some (.iconst 3, 1) := rfl
theorem at_84_47 : ab_at 84 47 = some (.ireturn, 1) := rfl
theorem at_84_48 : ab_at 84 48 = some (.aload_n 0, 1) := rfl
theorem at_84_49 : ab_at 84 49 = some (.iload_n 1, 1) := rfl
theorem at_84_50 : ab_at 84 50 = some (.ldc 162, 2) := rfl
theorem at_84_52 : ab_at 84 52 = some (.invokevirtual 152, 3) := rfl
theorem at_84_55 : ab_at 84 55 = some (.ifCond .eq 5, 3) := rfl
theorem at_84_58 : ab_at 84 58 = some (.iconst 4, 1) := rfl
theorem at_84_59 : ab_at 84 59 = some (.ireturn, 1) := rfl
theorem at_84_60 : ab_at 84 60 = some (.aload_n 0, 1) := rfl
theorem at_84_61 : ab_at 84 61 = some (.iload_n 1, 1) := rfl
theorem at_84_62 : ab_at 84 62 = some (.ldc 164, 2) := rfl
theorem at_84_64 : ab_at 84 64 = some (.invokevirtual 152, 3) := rfl
theorem at_84_67 : ab_at 84 67 = some (.ifCond .eq 5, 3) := rfl
theorem at_84_70 : ab_at 84 70 = some (.iconst 5, 1) := rfl
theorem at_84_71 : ab_at 84 71 = some (.ireturn, 1) := rfl
theorem at_84_72 : ab_at 84 72 = some (.aload_n 0, 1) := rfl
theorem at_84_73 : ab_at 84 73 = some (.iload_n 1, 1) := rfl
theorem at_84_74 : ab_at 84 74 = some (.ldc 166, 2) := rfl
theorem at_84_76 : ab_at 84 76 = some (.invokevirtual 152, 3) := rfl
theorem at_84_79 : ab_at 84 79 = some (.ifCond .eq 6, 3) := rfl
theorem at_84_82 : ab_at 84 82 = some (.bipush 6, 2) := rfl
theorem at_84_84 : ab_at 84 84 = some (.ireturn, 1) := rfl
theorem at_84_85 : ab_at 84 85 = some (.aload_n 0, 1) := rfl
theorem at_84_86 : ab_at 84 86 = some (.iload_n 1, 1) := rfl
theorem at_84_87 : ab_at 84 87 = some (.ldc 168, 2) := rfl
theorem at_84_89 : ab_at 84 89 = some (.invokevirtual 152, 3) := rfl
theorem at_84_92 : ab_at 84 92 = some (.ifCond .eq 6, 3) := rfl
theorem at_84_95 : ab_at 84 95 = some (.bipush 7, 2) := rfl
theorem at_84_97 : ab_at 84 97 = some (.ireturn, 1) := rfl
theorem at_84_98 : ab_at 84 98 = some (.aload_n 0, 1) := rfl
theorem at_84_99 : ab_at 84 99 = some (.iload_n 1, 1) := rfl
theorem at_84_100 : ab_at 84 100 = some (.ldc 170, 2) := rfl
theorem at_84_102 : ab_at 84 102 = some (.invokevirtual 152, 3) := rfl
theorem at_84_105 : ab_at 84 105 = some (.ifCond .eq 6, 3) := rfl
theorem at_84_108 : ab_at 84 108 = some (.bipush 10, 2) := rfl
theorem at_84_110 : ab_at 84 110 = some (.ireturn, 1) := rfl
theorem at_84_111 : ab_at 84 111 = some (.aload_n 0, 1) := rfl
theorem at_84_112 : ab_at 84 112 = some (.iload_n 1, 1) := rfl
theorem at_84_113 : ab_at 84 113 = some (.ldc 172, 2) := rfl
theorem at_84_115 : ab_at 84 115 = some (.invokevirtual 152, 3) := rfl
theorem at_84_118 : ab_at 84 118 = some (.ifCond .eq 6, 3) := rfl
theorem at_84_121 : ab_at 84 121 = some (.bipush 11, 2) := rfl
theorem at_84_123 : ab_at 84 123 = some (.ireturn, 1) := rfl
theorem at_84_124 : ab_at 84 124 = some (.aload_n 0, 1) := rfl
theorem at_84_125 : ab_at 84 125 = some (.iload_n 1, 1) := rfl
theorem at_84_126 : ab_at 84 126 = some (.ldc 174, 2) := rfl
theorem at_84_128 : ab_at 84 128 = some (.invokevirtual 152, 3) := rfl
theorem at_84_131 : ab_at 84 131 = some (.ifCond .eq 6, 3) := rfl
theorem at_84_134 : ab_at 84 134 = some (.bipush 12, 2) := rfl
theorem at_84_136 : ab_at 84 136 = some (.ireturn, 1) := rfl
theorem at_84_137 : ab_at 84 137 = some (.aload_n 0, 1) := rfl
theorem at_84_138 : ab_at 84 138 = some (.iload_n 1, 1) := rfl
theorem at_84_139 : ab_at 84 139 = some (.ldc 176, 2) := rfl
theorem at_84_141 : ab_at 84 141 = some (.invokevirtual 152, 3) := rfl
theorem at_84_144 : ab_at 84 144 = some (.ifCond .eq 8, 3) := rfl
theorem at_84_147 : ab_at 84 147 = some (.bipush 20, 2) := rfl
theorem at_84_149 : ab_at 84 149 = some (.goto 5, 3) := rfl
theorem at_84_152 : ab_at 84 152 = some (.bipush 21, 2) := rfl
theorem at_84_154 : ab_at 84 154 = some (.ireturn, 1) := rfl
theorem at_85_0 : ab_at 85 0 = some (.aload_n 0, 1) := rfl
theorem at_85_1 : ab_at 85 1 = some (.getfield 123, 3) := rfl
theorem at_85_4 : ab_at 85 4 = some (.iload_n 1, 1) := rfl
theorem at_85_5 : ab_at 85 5 = some (.isub, 1) := rfl
theorem at_85_6 : ab_at 85 6 = some (.aload_n 2, 1) := rfl
theorem at_85_7 : ab_at 85 7 = some (.invokevirtual 178, 3) := rfl
theorem at_85_10 : ab_at 85 10 = some (.if_icmp .eq 5, 3) := rfl
theorem at_85_13 : ab_at 85 13 = some (.iconst 0, 1) := rfl
theorem at_85_14 : ab_at 85 14 = some (.ireturn, 1) := rfl
theorem at_85_15 : ab_at 85 15 = some (.iconst 0, 1) := rfl
theorem at_85_16 : ab_at 85 16 = some (.istore_n 3, 1) := rfl
theorem at_85_17 : ab_at 85 17 = some (.iload_n 3, 1) := rfl
theorem at_85_18 : ab_at 85 18 = some (.aload_n 2, 1) := rfl
theorem at_85_19 : ab_at 85 19 = some (.invokevirtual 178, 3) := rfl
theorem at_85_22 : ab_at 85 22 = some (.if_icmp .ge 34, 3) := rfl
theorem at_85_25 : ab_at 85 25 = some (.aload_n 0, 1) := rfl
theorem at_85_26 : ab_at 85 26 = some (.getfield 12, 3) := rfl
theorem at_85_29 : ab_at 85 29 = some (.iload_n 1, 1) := rfl
theorem at_85_30 : ab_at 85 30 = some (.iload_n 3, 1) := rfl
theorem at_85_31 : ab_at 85 31 = some (.iadd, 1) := rfl
theorem at_85_32 : ab_at 85 32 = some (.aload_n 2, 1) := rfl
theorem at_85_33 : ab_at 85 33 = some (.iload_n 3, 1) := rfl
theorem at_85_34 : ab_at 85 34 = some (.invokevirtual 183, 3) := rfl
theorem at_85_37 : ab_at 85 37 = some (.aload_n 2, 1) := rfl
theorem at_85_38 : ab_at 85 38 = some (.iload_n 3, 1) := rfl
theorem at_85_39 : ab_at 85 39 = some (.invokevirtual 183, 3) := rfl
theorem at_85_42 : ab_at 85 42 = some (.invokevirtual 139, 3) := rfl
theorem at_85_45 : ab_at 85 45 = some (.ifCond .ne 5, 3) := rfl
theorem at_85_48 : ab_at 85 48 = some (.iconst 0, 1) := rfl
theorem at_85_49 : ab_at 85 49 = some (.ireturn, 1) := rfl
theorem at_85_50 : ab_at 85 50 = some (.iinc 3 1, 3) := rfl
theorem at_85_53 : ab_at 85 53 = some (.goto (-36), 3) := rfl
theorem at_85_56 : ab_at 85 56 = some (.iconst 1, 1) := rfl
theorem at_85_57 : ab_at 85 57 = some (.ireturn, 1) := rfl
theorem at_93_0 : ab_at 93 0 = some (.aload_n 0, 1) := rfl
theorem at_93_1 : ab_at 93 1 = some (.getfield 15, 3) := rfl
theorem at_93_4 : ab_at 93 4 = some (.sipush 320, 3) := rfl
theorem at_93_7 : ab_at 93 7 = some (.if_icmp .lt 5, 3) := rfl
theorem at_93_10 : ab_at 93 10 = some (.iconst 0, 1) := rfl
theorem at_93_11 : ab_at 93 11 = some (.ireturn, 1) := rfl
theorem at_93_12 : ab_at 93 12 = some (.aload_n 0, 1) := rfl
theorem at_93_13 : ab_at 93 13 = some (.getfield 9, 3) := rfl
theorem at_93_16 : ab_at 93 16 = some (.aload_n 0, 1) := rfl
theorem at_93_17 : ab_at 93 17 = some (.getfield 15, 3) := rfl
theorem at_93_20 : ab_at 93 20 = some (.iload_n 1, 1) := rfl
theorem at_93_21 : ab_at 93 21 = some (.i2b, 1) := rfl
theorem at_93_22 : ab_at 93 22 = some (.bastore, 1) := rfl
theorem at_93_23 : ab_at 93 23 = some (.aload_n 0, 1) := rfl
theorem at_93_24 : ab_at 93 24 = some (.dup, 1) := rfl
theorem at_93_25 : ab_at 93 25 = some (.getfield 15, 3) := rfl
theorem at_93_28 : ab_at 93 28 = some (.iconst 1, 1) := rfl
theorem at_93_29 : ab_at 93 29 = some (.iadd, 1) := rfl
theorem at_93_30 : ab_at 93 30 = some (.putfield 15, 3) := rfl
theorem at_93_33 : ab_at 93 33 = some (.iconst 1, 1) := rfl
theorem at_93_34 : ab_at 93 34 = some (.ireturn, 1) := rfl
theorem at_94_0 : ab_at 94 0 = some (.iload_n 1, 1) := rfl
theorem at_94_1 : ab_at 94 1 = some (.ifCond .lt 35, 3) := rfl
theorem at_94_4 : ab_at 94 4 = some (.iload_n 1, 1) := rfl
theorem at_94_5 : ab_at 94 5 = some (.aload_n 0, 1) := rfl
theorem at_94_6 : ab_at 94 6 = some (.getfield 15, 3) := rfl
theorem at_94_9 : ab_at 94 9 = some (.if_icmp .ge 27, 3) := rfl
theorem at_94_12 : ab_at 94 12 = some (.aload_n 0, 1) := rfl
theorem at_94_13 : ab_at 94 13 = some (.getfield 9, 3) := rfl
theorem at_94_16 : ab_at 94 16 = some (.iload_n 1, 1) := rfl
theorem at_94_17 : ab_at 94 17 = some (.baload, 1) := rfl
theorem at_94_18 : ab_at 94 18 = some (.iload_n 2, 1) := rfl
theorem at_94_19 : ab_at 94 19 = some (.if_icmp .lt 17, 3) := rfl
theorem at_94_22 : ab_at 94 22 = some (.aload_n 0, 1) := rfl
theorem at_94_23 : ab_at 94 23 = some (.getfield 9, 3) := rfl
theorem at_94_26 : ab_at 94 26 = some (.iload_n 1, 1) := rfl
theorem at_94_27 : ab_at 94 27 = some (.baload, 1) := rfl
theorem at_94_28 : ab_at 94 28 = some (.iload_n 3, 1) := rfl
theorem at_94_29 : ab_at 94 29 = some (.if_icmp .gt 7, 3) := rfl
theorem at_94_32 : ab_at 94 32 = some (.iconst 1, 1) := rfl
theorem at_94_33 : ab_at 94 33 = some (.goto 4, 3) := rfl
theorem at_94_36 : ab_at 94 36 = some (.iconst 0, 1) := rfl
theorem at_94_37 : ab_at 94 37 = some (.ireturn, 1) := rfl
