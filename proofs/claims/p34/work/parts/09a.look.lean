/-! LOOKUPS, by program -/
theorem own_0 : ab_own 0 = 0 := rfl
theorem rt_0 : ab_rt 0 = none := rfl
theorem np_0 : ab_np 0 = 0 := rfl
theorem mxl_0 : ab_mxl 0 = 1 := rfl
theorem own_1 : ab_own 1 = 0 := rfl
theorem rt_1 : ab_rt 1 = none := rfl
theorem np_1 : ab_np 1 = 2 := rfl
theorem mxl_1 : ab_mxl 1 = 4 := rfl
theorem own_2 : ab_own 2 = 0 := rfl
theorem rt_2 : ab_rt 2 = (some .int) := rfl
theorem np_2 : ab_np 2 = 2 := rfl
theorem mxl_2 : ab_mxl 2 = 4 := rfl
theorem own_3 : ab_own 3 = 0 := rfl
theorem rt_3 : ab_rt 3 = (some .boolean) := rfl
theorem np_3 : ab_np 3 = 3 := rfl
theorem mxl_3 : ab_mxl 3 = 4 := rfl
theorem own_4 : ab_own 4 = 0 := rfl
theorem rt_4 : ab_rt 4 = (some .boolean) := rfl
theorem np_4 : ab_np 4 = 1 := rfl
theorem mxl_4 : ab_mxl 4 = 5 := rfl
theorem own_5 : ab_own 5 = 0 := rfl
theorem rt_5 : ab_rt 5 = (some .boolean) := rfl
theorem np_5 : ab_np 5 = 3 := rfl
theorem mxl_5 : ab_mxl 5 = 6 := rfl
theorem own_6 : ab_own 6 = 0 := rfl
theorem rt_6 : ab_rt 6 = (some .boolean) := rfl
theorem np_6 : ab_np 6 = 5 := rfl
theorem mxl_6 : ab_mxl 6 = 6 := rfl
theorem own_7 : ab_own 7 = 0 := rfl
theorem rt_7 : ab_rt 7 = (some .int) := rfl
theorem np_7 : ab_np 7 = 1 := rfl
theorem mxl_7 : ab_mxl 7 = 4 := rfl
theorem own_8 : ab_own 8 = 0 := rfl
theorem rt_8 : ab_rt 8 = (some .int) := rfl
theorem np_8 : ab_np 8 = 1 := rfl
theorem mxl_8 : ab_mxl 8 = 4 := rfl
theorem own_9 : ab_own 9 = 0 := rfl
theorem rt_9 : ab_rt 9 = (some .int) := rfl
theorem np_9 : ab_np 9 = 2 := rfl
theorem mxl_9 : ab_mxl 9 = 5 := rfl
theorem own_10 : ab_own 10 = 0 := rfl
theorem rt_10 : ab_rt 10 = (some .int) := rfl
theorem np_10 : ab_np 10 = 2 := rfl
theorem mxl_10 : ab_mxl 10 = 5 := rfl
theorem own_11 : ab_own 11 = 1 := rfl
theorem rt_11 : ab_rt 11 = none := rfl
theorem np_11 : ab_np 11 = 0 := rfl
theorem mxl_11 : ab_mxl 11 = 1 := rfl
theorem own_12 : ab_own 12 = 1 := rfl
theorem rt_12 : ab_rt 12 = none := rfl
theorem np_12 : ab_np 12 = 1 := rfl
theorem mxl_12 : ab_mxl 12 = 3 := rfl
theorem own_13 : ab_own 13 = 1 := rfl
theorem rt_13 : ab_rt 13 = (some .int) := rfl
theorem np_13 : ab_np 13 = 1 := rfl
theorem mxl_13 : ab_mxl 13 = 2 := rfl
theorem own_14 : ab_own 14 = 1 := rfl
theorem rt_14 : ab_rt 14 = (some .long) := rfl
theorem np_14 : ab_np 14 = 1 := rfl
theorem mxl_14 : ab_mxl 14 = 2 := rfl
theorem own_15 : ab_own 15 = 1 := rfl
theorem rt_15 : ab_rt 15 = (some .boolean) := rfl
theorem np_15 : ab_np 15 = 1 := rfl
theorem mxl_15 : ab_mxl 15 = 2 := rfl
theorem own_16 : ab_own 16 = 1 := rfl
theorem rt_16 : ab_rt 16 = (some .long) := rfl
theorem np_16 : ab_np 16 = 2 := rfl
theorem mxl_16 : ab_mxl 16 = 3 := rfl
theorem own_17 : ab_own 17 = 1 := rfl
theorem rt_17 : ab_rt 17 = (some .long) := rfl
theorem np_17 : ab_np 17 = 2 := rfl
theorem mxl_17 : ab_mxl 17 = 5 := rfl
theorem own_18 : ab_own 18 = 1 := rfl
theorem rt_18 : ab_rt 18 = (some .long) := rfl
theorem np_18 : ab_np 18 = 2 := rfl
theorem mxl_18 : ab_mxl 18 = 9 := rfl
theorem own_19 : ab_own 19 = 1 := rfl
theorem rt_19 : ab_rt 19 = (some .long) := rfl
theorem np_19 : ab_np 19 = 2 := rfl
theorem mxl_19 : ab_mxl 19 = 6 := rfl
theorem own_20 : ab_own 20 = 1 := rfl
theorem rt_20 : ab_rt 20 = (some .long) := rfl
theorem np_20 : ab_np 20 = 2 := rfl
theorem mxl_20 : ab_mxl 20 = 4 := rfl
theorem own_21 : ab_own 21 = 1 := rfl
theorem rt_21 : ab_rt 21 = (some .boolean) := rfl
theorem np_21 : ab_np 21 = 3 := rfl
theorem mxl_21 : ab_mxl 21 = 6 := rfl
theorem own_22 : ab_own 22 = 1 := rfl
theorem rt_22 : ab_rt 22 = (some .boolean) := rfl
theorem np_22 : ab_np 22 = 5 := rfl
theorem mxl_22 : ab_mxl 22 = 6 := rfl
theorem own_23 : ab_own 23 = 2 := rfl
theorem rt_23 : ab_rt 23 = none := rfl
theorem np_23 : ab_np 23 = 0 := rfl
theorem mxl_23 : ab_mxl 23 = 1 := rfl
theorem own_24 : ab_own 24 = 2 := rfl
theorem rt_24 : ab_rt 24 = none := rfl
theorem np_24 : ab_np 24 = 0 := rfl
theorem mxl_24 : ab_mxl 24 = 1 := rfl
theorem own_25 : ab_own 25 = 2 := rfl
theorem rt_25 : ab_rt 25 = none := rfl
theorem np_25 : ab_np 25 = 4 := rfl
theorem mxl_25 : ab_mxl 25 = 5 := rfl
theorem own_26 : ab_own 26 = 2 := rfl
theorem rt_26 : ab_rt 26 = (some .int) := rfl
theorem np_26 : ab_np 26 = 1 := rfl
theorem mxl_26 : ab_mxl 26 = 4 := rfl
theorem own_27 : ab_own 27 = 2 := rfl
theorem rt_27 : ab_rt 27 = none := rfl
theorem np_27 : ab_np 27 = 2 := rfl
theorem mxl_27 : ab_mxl 27 = 3 := rfl
theorem own_28 : ab_own 28 = 2 := rfl
theorem rt_28 : ab_rt 28 = (some .long) := rfl
theorem np_28 : ab_np 28 = 1 := rfl
theorem mxl_28 : ab_mxl 28 = 5 := rfl
theorem own_29 : ab_own 29 = 2 := rfl
theorem rt_29 : ab_rt 29 = (some .int) := rfl
theorem np_29 : ab_np 29 = 2 := rfl
theorem mxl_29 : ab_mxl 29 = 5 := rfl
theorem own_30 : ab_own 30 = 2 := rfl
theorem rt_30 : ab_rt 30 = none := rfl
theorem np_30 : ab_np 30 = 3 := rfl
theorem mxl_30 : ab_mxl 30 = 6 := rfl
theorem own_31 : ab_own 31 = 2 := rfl
theorem rt_31 : ab_rt 31 = none := rfl
theorem np_31 : ab_np 31 = 4 := rfl
theorem mxl_31 : ab_mxl 31 = 7 := rfl
theorem own_32 : ab_own 32 = 2 := rfl
theorem rt_32 : ab_rt 32 = (some .long) := rfl
theorem np_32 : ab_np 32 = 2 := rfl
theorem mxl_32 : ab_mxl 32 = 5 := rfl
theorem own_33 : ab_own 33 = 2 := rfl
theorem rt_33 : ab_rt 33 = none := rfl
theorem np_33 : ab_np 33 = 0 := rfl
theorem mxl_33 : ab_mxl 33 = 1 := rfl
theorem own_34 : ab_own 34 = 3 := rfl
theorem rt_34 : ab_rt 34 = none := rfl
theorem np_34 : ab_np 34 = 0 := rfl
theorem mxl_34 : ab_mxl 34 = 1 := rfl
theorem own_35 : ab_own 35 = 3 := rfl
theorem rt_35 : ab_rt 35 = none := rfl
theorem np_35 : ab_np 35 = 0 := rfl
theorem mxl_35 : ab_mxl 35 = 1 := rfl
theorem own_36 : ab_own 36 = 3 := rfl
theorem rt_36 : ab_rt 36 = (some .boolean) := rfl
theorem np_36 : ab_np 36 = 0 := rfl
theorem mxl_36 : ab_mxl 36 = 1 := rfl
theorem own_37 : ab_own 37 = 3 := rfl
theorem rt_37 : ab_rt 37 = (some .boolean) := rfl
theorem np_37 : ab_np 37 = 1 := rfl
theorem mxl_37 : ab_mxl 37 = 2 := rfl
theorem own_38 : ab_own 38 = 3 := rfl
theorem rt_38 : ab_rt 38 = none := rfl
theorem np_38 : ab_np 38 = 1 := rfl
theorem mxl_38 : ab_mxl 38 = 2 := rfl
theorem own_39 : ab_own 39 = 3 := rfl
theorem rt_39 : ab_rt 39 = none := rfl
theorem np_39 : ab_np 39 = 1 := rfl
theorem mxl_39 : ab_mxl 39 = 3 := rfl
theorem own_40 : ab_own 40 = 3 := rfl
theorem rt_40 : ab_rt 40 = none := rfl
theorem np_40 : ab_np 40 = 1 := rfl
theorem mxl_40 : ab_mxl 40 = 2 := rfl
theorem own_41 : ab_own 41 = 3 := rfl
theorem rt_41 : ab_rt 41 = none := rfl
theorem np_41 : ab_np 41 = 1 := rfl
theorem mxl_41 : ab_mxl 41 = 2 := rfl
theorem own_42 : ab_own 42 = 3 := rfl
theorem rt_42 : ab_rt 42 = none := rfl
theorem np_42 : ab_np 42 = 1 := rfl
theorem mxl_42 : ab_mxl 42 = 2 := rfl
theorem own_43 : ab_own 43 = 3 := rfl
theorem rt_43 : ab_rt 43 = none := rfl
theorem np_43 : ab_np 43 = 1 := rfl
theorem mxl_43 : ab_mxl 43 = 2 := rfl
theorem own_44 : ab_own 44 = 3 := rfl
theorem rt_44 : ab_rt 44 = none := rfl
theorem np_44 : ab_np 44 = 1 := rfl
theorem mxl_44 : ab_mxl 44 = 3 := rfl
theorem own_45 : ab_own 45 = 3 := rfl
theorem rt_45 : ab_rt 45 = (some .boolean) := rfl
theorem np_45 : ab_np 45 = 1 := rfl
theorem mxl_45 : ab_mxl 45 = 2 := rfl
theorem own_46 : ab_own 46 = 3 := rfl
theorem rt_46 : ab_rt 46 = (some .boolean) := rfl
theorem np_46 : ab_np 46 = 1 := rfl
theorem mxl_46 : ab_mxl 46 = 2 := rfl
theorem own_47 : ab_own 47 = 3 := rfl
theorem rt_47 : ab_rt 47 = (some .boolean) := rfl
theorem np_47 : ab_np 47 = 2 := rfl
theorem mxl_47 : ab_mxl 47 = 3 := rfl
theorem own_48 : ab_own 48 = 3 := rfl
theorem rt_48 : ab_rt 48 = (some .boolean) := rfl
theorem np_48 : ab_np 48 = 1 := rfl
theorem mxl_48 : ab_mxl 48 = 2 := rfl
theorem own_49 : ab_own 49 = 3 := rfl
theorem rt_49 : ab_rt 49 = (some .int) := rfl
theorem np_49 : ab_np 49 = 1 := rfl
theorem mxl_49 : ab_mxl 49 = 2 := rfl
theorem own_50 : ab_own 50 = 3 := rfl
theorem rt_50 : ab_rt 50 = (some .int) := rfl
theorem np_50 : ab_np 50 = 1 := rfl
theorem mxl_50 : ab_mxl 50 = 5 := rfl
theorem own_51 : ab_own 51 = 3 := rfl
theorem rt_51 : ab_rt 51 = none := rfl
theorem np_51 : ab_np 51 = 0 := rfl
theorem mxl_51 : ab_mxl 51 = 4 := rfl
theorem own_52 : ab_own 52 = 3 := rfl
theorem rt_52 : ab_rt 52 = none := rfl
theorem np_52 : ab_np 52 = 0 := rfl
theorem mxl_52 : ab_mxl 52 = 3 := rfl
theorem own_54 : ab_own 54 = 3 := rfl
theorem rt_54 : ab_rt 54 = (some .int) := rfl
theorem np_54 : ab_np 54 = 2 := rfl
theorem mxl_54 : ab_mxl 54 = 4 := rfl
theorem own_55 : ab_own 55 = 3 := rfl
theorem rt_55 : ab_rt 55 = (some .boolean) := rfl
theorem np_55 : ab_np 55 = 2 := rfl
theorem mxl_55 : ab_mxl 55 = 3 := rfl
theorem own_56 : ab_own 56 = 3 := rfl
theorem rt_56 : ab_rt 56 = (some .boolean) := rfl
theorem np_56 : ab_np 56 = 2 := rfl
theorem mxl_56 : ab_mxl 56 = 3 := rfl
theorem own_57 : ab_own 57 = 3 := rfl
theorem rt_57 : ab_rt 57 = (some .boolean) := rfl
theorem np_57 : ab_np 57 = 3 := rfl
theorem mxl_57 : ab_mxl 57 = 5 := rfl
theorem own_58 : ab_own 58 = 3 := rfl
theorem rt_58 : ab_rt 58 = (some .boolean) := rfl
theorem np_58 : ab_np 58 = 0 := rfl
theorem mxl_58 : ab_mxl 58 = 3 := rfl
theorem own_59 : ab_own 59 = 3 := rfl
theorem rt_59 : ab_rt 59 = (some .boolean) := rfl
theorem np_59 : ab_np 59 = 1 := rfl
theorem mxl_59 : ab_mxl 59 = 4 := rfl
theorem own_60 : ab_own 60 = 3 := rfl
theorem rt_60 : ab_rt 60 = (some .boolean) := rfl
theorem np_60 : ab_np 60 = 1 := rfl
theorem mxl_60 : ab_mxl 60 = 3 := rfl
theorem own_61 : ab_own 61 = 3 := rfl
theorem rt_61 : ab_rt 61 = (some .int) := rfl
theorem np_61 : ab_np 61 = 1 := rfl
theorem mxl_61 : ab_mxl 61 = 4 := rfl
theorem own_62 : ab_own 62 = 3 := rfl
theorem rt_62 : ab_rt 62 = (some .int) := rfl
theorem np_62 : ab_np 62 = 0 := rfl
theorem mxl_62 : ab_mxl 62 = 3 := rfl
theorem own_63 : ab_own 63 = 3 := rfl
theorem rt_63 : ab_rt 63 = (some .int) := rfl
theorem np_63 : ab_np 63 = 1 := rfl
theorem mxl_63 : ab_mxl 63 = 5 := rfl
theorem own_65 : ab_own 65 = 3 := rfl
theorem rt_65 : ab_rt 65 = (some .int) := rfl
theorem np_65 : ab_np 65 = 1 := rfl
theorem mxl_65 : ab_mxl 65 = 6 := rfl
theorem own_66 : ab_own 66 = 3 := rfl
theorem rt_66 : ab_rt 66 = (some .int) := rfl
theorem np_66 : ab_np 66 = 0 := rfl
theorem mxl_66 : ab_mxl 66 = 3 := rfl
theorem own_67 : ab_own 67 = 3 := rfl
theorem rt_67 : ab_rt 67 = none := rfl
theorem np_67 : ab_np 67 = 0 := rfl
theorem mxl_67 : ab_mxl 67 = 3 := rfl
theorem own_68 : ab_own 68 = 3 := rfl
theorem rt_68 : ab_rt 68 = none := rfl
theorem np_68 : ab_np 68 = 1 := rfl
theorem mxl_68 : ab_mxl 68 = 3 := rfl
theorem own_69 : ab_own 69 = 4 := rfl
theorem rt_69 : ab_rt 69 = none := rfl
theorem np_69 : ab_np 69 = 0 := rfl
theorem mxl_69 : ab_mxl 69 = 1 := rfl
theorem own_70 : ab_own 70 = 4 := rfl
theorem rt_70 : ab_rt 70 = (some .boolean) := rfl
theorem np_70 : ab_np 70 = 0 := rfl
theorem mxl_70 : ab_mxl 70 = 3 := rfl
theorem own_71 : ab_own 71 = 4 := rfl
theorem rt_71 : ab_rt 71 = (some .boolean) := rfl
theorem np_71 : ab_np 71 = 1 := rfl
theorem mxl_71 : ab_mxl 71 = 2 := rfl
theorem own_72 : ab_own 72 = 4 := rfl
theorem rt_72 : ab_rt 72 = (some .boolean) := rfl
theorem np_72 : ab_np 72 = 0 := rfl
theorem mxl_72 : ab_mxl 72 = 1 := rfl
theorem own_73 : ab_own 73 = 4 := rfl
theorem rt_73 : ab_rt 73 = (some .boolean) := rfl
theorem np_73 : ab_np 73 = 0 := rfl
theorem mxl_73 : ab_mxl 73 = 1 := rfl
theorem own_74 : ab_own 74 = 4 := rfl
theorem rt_74 : ab_rt 74 = (some .boolean) := rfl
theorem np_74 : ab_np 74 = 0 := rfl
theorem mxl_74 : ab_mxl 74 = 3 := rfl
theorem own_75 : ab_own 75 = 4 := rfl
theorem rt_75 : ab_rt 75 = (some .boolean) := rfl
theorem np_75 : ab_np 75 = 1 := rfl
theorem mxl_75 : ab_mxl 75 = 2 := rfl
theorem own_76 : ab_own 76 = 4 := rfl
theorem rt_76 : ab_rt 76 = (some .boolean) := rfl
theorem np_76 : ab_np 76 = 1 := rfl
theorem mxl_76 : ab_mxl 76 = 5 := rfl
theorem own_77 : ab_own 77 = 4 := rfl
theorem rt_77 : ab_rt 77 = (some .boolean) := rfl
theorem np_77 : ab_np 77 = 0 := rfl
theorem mxl_77 : ab_mxl 77 = 2 := rfl
theorem own_78 : ab_own 78 = 4 := rfl
theorem rt_78 : ab_rt 78 = (some .boolean) := rfl
theorem np_78 : ab_np 78 = 0 := rfl
theorem mxl_78 : ab_mxl 78 = 1 := rfl
theorem own_79 : ab_own 79 = 4 := rfl
theorem rt_79 : ab_rt 79 = (some .boolean) := rfl
theorem np_79 : ab_np 79 = 2 := rfl
theorem mxl_79 : ab_mxl 79 = 3 := rfl
theorem own_80 : ab_own 80 = 4 := rfl
theorem rt_80 : ab_rt 80 = none := rfl
theorem np_80 : ab_np 80 = 0 := rfl
theorem mxl_80 : ab_mxl 80 = 3 := rfl
theorem own_81 : ab_own 81 = 4 := rfl
theorem rt_81 : ab_rt 81 = (some .int) := rfl
theorem np_81 : ab_np 81 = 1 := rfl
theorem mxl_81 : ab_mxl 81 = 2 := rfl
theorem own_82 : ab_own 82 = 4 := rfl
theorem rt_82 : ab_rt 82 = none := rfl
theorem np_82 : ab_np 82 = 2 := rfl
theorem mxl_82 : ab_mxl 82 = 4 := rfl
theorem own_83 : ab_own 83 = 4 := rfl
theorem rt_83 : ab_rt 83 = (some .int) := rfl
theorem np_83 : ab_np 83 = 1 := rfl
theorem mxl_83 : ab_mxl 83 = 4 := rfl
theorem own_84 : ab_own 84 = 4 := rfl
theorem rt_84 : ab_rt 84 = (some .int) := rfl
theorem np_84 : ab_np 84 = 1 := rfl
theorem mxl_84 : ab_mxl 84 = 2 := rfl
theorem own_85 : ab_own 85 = 4 := rfl
theorem rt_85 : ab_rt 85 = (some .boolean) := rfl
theorem np_85 : ab_np 85 = 2 := rfl
theorem mxl_85 : ab_mxl 85 = 4 := rfl
theorem own_86 : ab_own 86 = 5 := rfl
theorem rt_86 : ab_rt 86 = none := rfl
theorem np_86 : ab_np 86 = 0 := rfl
theorem mxl_86 : ab_mxl 86 = 2 := rfl
theorem own_92 : ab_own 92 = 6 := rfl
theorem rt_92 : ab_rt 92 = none := rfl
theorem np_92 : ab_np 92 = 0 := rfl
theorem mxl_92 : ab_mxl 92 = 1 := rfl
theorem own_93 : ab_own 93 = 6 := rfl
theorem rt_93 : ab_rt 93 = (some .boolean) := rfl
theorem np_93 : ab_np 93 = 1 := rfl
theorem mxl_93 : ab_mxl 93 = 2 := rfl
theorem own_94 : ab_own 94 = 6 := rfl
theorem rt_94 : ab_rt 94 = (some .boolean) := rfl
theorem np_94 : ab_np 94 = 3 := rfl
theorem mxl_94 : ab_mxl 94 = 4 := rfl
theorem own_95 : ab_own 95 = 7 := rfl
theorem rt_95 : ab_rt 95 = none := rfl
theorem np_95 : ab_np 95 = 0 := rfl
theorem mxl_95 : ab_mxl 95 = 2 := rfl
theorem own_96 : ab_own 96 = 7 := rfl
theorem rt_96 : ab_rt 96 = (some .int) := rfl
theorem np_96 : ab_np 96 = 1 := rfl
theorem mxl_96 : ab_mxl 96 = 2 := rfl
theorem own_98 : ab_own 98 = 7 := rfl
theorem rt_98 : ab_rt 98 = (some .int) := rfl
theorem np_98 : ab_np 98 = 0 := rfl
theorem mxl_98 : ab_mxl 98 = 3 := rfl
theorem own_99 : ab_own 99 = 7 := rfl
theorem rt_99 : ab_rt 99 = (some .int) := rfl
theorem np_99 : ab_np 99 = 0 := rfl
theorem mxl_99 : ab_mxl 99 = 1 := rfl
theorem own_100 : ab_own 100 = 7 := rfl
theorem rt_100 : ab_rt 100 = (some .int) := rfl
theorem np_100 : ab_np 100 = 1 := rfl
theorem mxl_100 : ab_mxl 100 = 2 := rfl
theorem own_103 : ab_own 103 = 7 := rfl
theorem rt_103 : ab_rt 103 = (some .int) := rfl
theorem np_103 : ab_np 103 = 2 := rfl
theorem mxl_103 : ab_mxl 103 = 3 := rfl
theorem own_104 : ab_own 104 = 7 := rfl
theorem rt_104 : ab_rt 104 = (some .int) := rfl
theorem np_104 : ab_np 104 = 2 := rfl
theorem mxl_104 : ab_mxl 104 = 3 := rfl
theorem own_105 : ab_own 105 = 7 := rfl
theorem rt_105 : ab_rt 105 = (some .int) := rfl
theorem np_105 : ab_np 105 = 2 := rfl
theorem mxl_105 : ab_mxl 105 = 3 := rfl
theorem own_106 : ab_own 106 = 7 := rfl
theorem rt_106 : ab_rt 106 = (some .long) := rfl
theorem np_106 : ab_np 106 = 4 := rfl
theorem mxl_106 : ab_mxl 106 = 5 := rfl
theorem own_107 : ab_own 107 = 7 := rfl
theorem rt_107 : ab_rt 107 = (some .long) := rfl
theorem np_107 : ab_np 107 = 1 := rfl
theorem mxl_107 : ab_mxl 107 = 2 := rfl
theorem own_108 : ab_own 108 = 7 := rfl
theorem rt_108 : ab_rt 108 = (some .int) := rfl
theorem np_108 : ab_np 108 = 1 := rfl
theorem mxl_108 : ab_mxl 108 = 2 := rfl
theorem own_109 : ab_own 109 = 7 := rfl
theorem rt_109 : ab_rt 109 = (some .int) := rfl
theorem np_109 : ab_np 109 = 1 := rfl
theorem mxl_109 : ab_mxl 109 = 2 := rfl
theorem own_110 : ab_own 110 = 7 := rfl
theorem rt_110 : ab_rt 110 = (some .int) := rfl
theorem np_110 : ab_np 110 = 1 := rfl
theorem mxl_110 : ab_mxl 110 = 2 := rfl
theorem own_111 : ab_own 111 = 7 := rfl
theorem rt_111 : ab_rt 111 = (some .int) := rfl
theorem np_111 : ab_np 111 = 2 := rfl
theorem mxl_111 : ab_mxl 111 = 3 := rfl
theorem own_112 : ab_own 112 = 7 := rfl
theorem rt_112 : ab_rt 112 = (some .int) := rfl
theorem np_112 : ab_np 112 = 1 := rfl
theorem mxl_112 : ab_mxl 112 = 2 := rfl
theorem own_113 : ab_own 113 = 7 := rfl
theorem rt_113 : ab_rt 113 = (some .int) := rfl
theorem np_113 : ab_np 113 = 1 := rfl
theorem mxl_113 : ab_mxl 113 = 2 := rfl
theorem own_114 : ab_own 114 = 7 := rfl
theorem rt_114 : ab_rt 114 = (some .long) := rfl
theorem np_114 : ab_np 114 = 1 := rfl
theorem mxl_114 : ab_mxl 114 = 2 := rfl
theorem own_115 : ab_own 115 = 7 := rfl
theorem rt_115 : ab_rt 115 = (some .int) := rfl
theorem np_115 : ab_np 115 = 0 := rfl
theorem mxl_115 : ab_mxl 115 = 2 := rfl
theorem own_116 : ab_own 116 = 7 := rfl
theorem rt_116 : ab_rt 116 = (some .int) := rfl
theorem np_116 : ab_np 116 = 0 := rfl
theorem mxl_116 : ab_mxl 116 = 1 := rfl
theorem own_117 : ab_own 117 = 7 := rfl
theorem rt_117 : ab_rt 117 = (some .int) := rfl
theorem np_117 : ab_np 117 = 3 := rfl
theorem mxl_117 : ab_mxl 117 = 5 := rfl
theorem own_118 : ab_own 118 = 7 := rfl
theorem rt_118 : ab_rt 118 = (some .int) := rfl
theorem np_118 : ab_np 118 = 2 := rfl
theorem mxl_118 : ab_mxl 118 = 4 := rfl
theorem own_119 : ab_own 119 = 7 := rfl
theorem rt_119 : ab_rt 119 = (some .int) := rfl
theorem np_119 : ab_np 119 = 5 := rfl
theorem mxl_119 : ab_mxl 119 = 9 := rfl
theorem own_120 : ab_own 120 = 7 := rfl
theorem rt_120 : ab_rt 120 = (some .int) := rfl
theorem np_120 : ab_np 120 = 1 := rfl
theorem mxl_120 : ab_mxl 120 = 3 := rfl
theorem own_121 : ab_own 121 = 7 := rfl
theorem rt_121 : ab_rt 121 = (some .int) := rfl
theorem np_121 : ab_np 121 = 1 := rfl
theorem mxl_121 : ab_mxl 121 = 2 := rfl
theorem own_129 : ab_own 129 = 7 := rfl
theorem rt_129 : ab_rt 129 = (some .int) := rfl
theorem np_129 : ab_np 129 = 1 := rfl
theorem mxl_129 : ab_mxl 129 = 1 := rfl
theorem own_130 : ab_own 130 = 7 := rfl
theorem rt_130 : ab_rt 130 = (some .boolean) := rfl
theorem np_130 : ab_np 130 = 2 := rfl
theorem mxl_130 : ab_mxl 130 = 2 := rfl
theorem own_131 : ab_own 131 = 7 := rfl
theorem rt_131 : ab_rt 131 = (some .long) := rfl
theorem np_131 : ab_np 131 = 3 := rfl
theorem mxl_131 : ab_mxl 131 = 6 := rfl
theorem fl_6_9 : ab_fl 6 9 = some (6, 0) := rfl
theorem fl_4_146 : ab_fl 4 146 = some (6, 0) := rfl
theorem fl_6_15 : ab_fl 6 15 = some (6, 1) := rfl
theorem fl_7_76 : ab_fl 7 76 = some (6, 1) := rfl
theorem fl_4_136 : ab_fl 4 136 = some (6, 1) := rfl
theorem fl_3_60 : ab_fl 3 60 = some (3, 0) := rfl
theorem fl_7_103 : ab_fl 7 103 = some (3, 0) := rfl
theorem fl_0_18 : ab_fl 0 18 = some (3, 1) := rfl
theorem fl_1_15 : ab_fl 1 15 = some (3, 1) := rfl
theorem fl_3_64 : ab_fl 3 64 = some (3, 1) := rfl
theorem fl_7_97 : ab_fl 7 97 = some (3, 1) := rfl
theorem fl_3_9 : ab_fl 3 9 = some (3, 2) := rfl
theorem fl_2_76 : ab_fl 2 76 = some (3, 2) := rfl
theorem fl_3_15 : ab_fl 3 15 = some (3, 3) := rfl
theorem fl_2_79 : ab_fl 2 79 = some (3, 3) := rfl
theorem fl_3_18 : ab_fl 3 18 = some (3, 4) := rfl
theorem fl_2_58 : ab_fl 2 58 = some (3, 4) := rfl
theorem fl_3_21 : ab_fl 3 21 = some (3, 5) := rfl
theorem fl_2_68 : ab_fl 2 68 = some (3, 5) := rfl
theorem fl_3_24 : ab_fl 3 24 = some (3, 6) := rfl
theorem fl_2_73 : ab_fl 2 73 = some (3, 6) := rfl
theorem fl_3_27 : ab_fl 3 27 = some (3, 7) := rfl
theorem fl_2_61 : ab_fl 2 61 = some (3, 7) := rfl
theorem fl_3_30 : ab_fl 3 30 = some (3, 8) := rfl
theorem fl_3_35 : ab_fl 3 35 = some (3, 9) := rfl
theorem fl_3_38 : ab_fl 3 38 = some (3, 10) := rfl
theorem fl_3_41 : ab_fl 3 41 = some (3, 11) := rfl
theorem fl_0_39 : ab_fl 0 39 = some (3, 11) := rfl
theorem fl_1_33 : ab_fl 1 33 = some (3, 11) := rfl
theorem fl_2_90 : ab_fl 2 90 = some (3, 11) := rfl
theorem fl_7_151 : ab_fl 7 151 = some (3, 11) := rfl
theorem fl_3_44 : ab_fl 3 44 = some (3, 12) := rfl
theorem fl_0_42 : ab_fl 0 42 = some (3, 12) := rfl
theorem fl_7_154 : ab_fl 7 154 = some (3, 12) := rfl
theorem fl_1_77 : ab_fl 1 77 = some (3, 12) := rfl
theorem fl_3_47 : ab_fl 3 47 = some (3, 13) := rfl
theorem fl_0_61 : ab_fl 0 61 = some (3, 13) := rfl
theorem fl_1_70 : ab_fl 1 70 = some (3, 13) := rfl
theorem fl_7_157 : ab_fl 7 157 = some (3, 13) := rfl
theorem fl_3_50 : ab_fl 3 50 = some (3, 14) := rfl
theorem fl_0_49 : ab_fl 0 49 = some (3, 14) := rfl
theorem fl_1_37 : ab_fl 1 37 = some (3, 14) := rfl
theorem fl_7_163 : ab_fl 7 163 = some (3, 14) := rfl
theorem fl_2_104 : ab_fl 2 104 = some (3, 14) := rfl
theorem fl_3_53 : ab_fl 3 53 = some (3, 15) := rfl
theorem fl_1_54 : ab_fl 1 54 = some (3, 15) := rfl
theorem fl_0_68 : ab_fl 0 68 = some (3, 15) := rfl
theorem fl_2_100 : ab_fl 2 100 = some (3, 15) := rfl
theorem fl_7_173 : ab_fl 7 173 = some (3, 15) := rfl
theorem fl_3_56 : ab_fl 3 56 = some (3, 16) := rfl
theorem fl_4_12 : ab_fl 4 12 = some (4, 0) := rfl
theorem fl_7_66 : ab_fl 7 66 = some (4, 0) := rfl
theorem fl_4_21 : ab_fl 4 21 = some (4, 1) := rfl
theorem fl_7_87 : ab_fl 7 87 = some (4, 1) := rfl
theorem fl_4_41 : ab_fl 4 41 = some (4, 2) := rfl
theorem fl_7_100 : ab_fl 7 100 = some (4, 2) := rfl
theorem fl_4_63 : ab_fl 4 63 = some (4, 3) := rfl
theorem fl_7_84 : ab_fl 7 84 = some (4, 3) := rfl
theorem fl_4_25 : ab_fl 4 25 = some (4, 4) := rfl
theorem fl_4_29 : ab_fl 4 29 = some (4, 5) := rfl
theorem fl_4_32 : ab_fl 4 32 = some (4, 6) := rfl
theorem fl_4_45 : ab_fl 4 45 = some (4, 7) := rfl
theorem fl_4_123 : ab_fl 4 123 = some (4, 8) := rfl
theorem fl_4_101 : ab_fl 4 101 = some (4, 9) := rfl
theorem fl_4_48 : ab_fl 4 48 = some (4, 10) := rfl
theorem fl_4_78 : ab_fl 4 78 = some (4, 11) := rfl
theorem fl_2_9 : ab_fl 2 9 = some (2, 0) := rfl
theorem fl_2_15 : ab_fl 2 15 = some (2, 1) := rfl
theorem fl_7_193 : ab_fl 7 193 = some (2, 1) := rfl
theorem fl_2_29 : ab_fl 2 29 = some (2, 2) := rfl
theorem fl_7_189 : ab_fl 7 189 = some (2, 2) := rfl
theorem fl_2_39 : ab_fl 2 39 = some (2, 3) := rfl
theorem fl_7_205 : ab_fl 7 205 = some (2, 3) := rfl
theorem fl_2_45 : ab_fl 2 45 = some (2, 4) := rfl
theorem fl_7_199 : ab_fl 7 199 = some (2, 4) := rfl
theorem fl_2_42 : ab_fl 2 42 = some (2, 5) := rfl
theorem fl_7_202 : ab_fl 7 202 = some (2, 5) := rfl
theorem fl_2_34 : ab_fl 2 34 = some (2, 6) := rfl
theorem fl_7_262 : ab_fl 7 262 = some (2, 6) := rfl
theorem fl_2_19 : ab_fl 2 19 = some (2, 7) := rfl
theorem fl_2_22 : ab_fl 2 22 = some (2, 8) := rfl
theorem fl_2_26 : ab_fl 2 26 = some (2, 9) := rfl
theorem fl_0_9 : ab_fl 0 9 = some (0, 0) := rfl
theorem fl_7_226 : ab_fl 7 226 = some (0, 0) := rfl
theorem fl_0_28 : ab_fl 0 28 = some (0, 1) := rfl
theorem fl_7_216 : ab_fl 7 216 = some (0, 1) := rfl
theorem fl_0_15 : ab_fl 0 15 = some (0, 2) := rfl
theorem fl_1_9 : ab_fl 1 9 = some (1, 0) := rfl
theorem fl_5_9 : ab_fl 5 9 = some (5, 0) := rfl
theorem fl_5_15 : ab_fl 5 15 = some (5, 2) := rfl
theorem fl_5_20 : ab_fl 5 20 = some (5, 3) := rfl
theorem fl_7_10 : ab_fl 7 10 = some (7, 0) := rfl
theorem fl_7_19 : ab_fl 7 19 = some (7, 1) := rfl
theorem fl_7_23 : ab_fl 7 23 = some (7, 2) := rfl
theorem fl_7_29 : ab_fl 7 29 = some (7, 3) := rfl
theorem fl_7_36 : ab_fl 7 36 = some (7, 4) := rfl
theorem fl_7_43 : ab_fl 7 43 = some (7, 5) := rfl
theorem fl_7_49 : ab_fl 7 49 = some (7, 6) := rfl
theorem fl_7_53 : ab_fl 7 53 = some (7, 7) := rfl
theorem fl_7_57 : ab_fl 7 57 = some (7, 8) := rfl
theorem fl_7_62 : ab_fl 7 62 = some (7, 9) := rfl
theorem kI_2_33 : ab_kI 2 33 = some (1103515245) := rfl
theorem kL_2_37 : ab_kL 2 37 = some (2000000000000) := rfl
theorem kL_2_71 : ab_kL 2 71 = some (1000000000000) := rfl
theorem kL_7_299 : ab_kL 7 299 = some (1000000000000) := rfl
theorem kL_7_187 : ab_kL 7 187 = some (-1) := rfl
theorem kL_7_197 : ab_kL 7 197 = some (2000000000000) := rfl
theorem kL_1_21 : ab_kL 1 21 = some (3000000000000) := rfl
theorem kL_1_40 : ab_kL 1 40 = some (1000000000000) := rfl
theorem kL_1_31 : ab_kL 1 31 = some (2000000000000) := rfl
theorem ml_7_1 : ab_ml 7 1 = some (0, 5) := rfl
theorem ml_7_9 : ab_ml 7 9 = some (69, 4) := rfl
theorem ml_4_3 : ab_ml 4 3 = some (0, 5) := rfl
theorem ml_4_11 : ab_ml 4 11 = some (92, 4) := rfl
theorem ml_6_3 : ab_ml 6 3 = some (0, 5) := rfl
theorem ml_4_20 : ab_ml 4 20 = some (34, 4) := rfl
theorem ml_3_3 : ab_ml 3 3 = some (0, 5) := rfl
theorem ml_7_18 : ab_ml 7 18 = some (23, 4) := rfl
theorem ml_2_3 : ab_ml 2 3 = some (0, 5) := rfl
theorem ml_7_28 : ab_ml 7 28 = some (0, 4) := rfl
theorem ml_0_3 : ab_ml 0 3 = some (0, 5) := rfl
theorem ml_7_35 : ab_ml 7 35 = some (11, 4) := rfl
theorem ml_1_3 : ab_ml 1 3 = some (0, 5) := rfl
theorem ml_7_42 : ab_ml 7 42 = some (86, 3) := rfl
theorem ml_5_3 : ab_ml 5 3 = some (0, 5) := rfl
theorem ml_7_61 : ab_ml 7 61 = some (34, 4) := rfl
theorem ml_7_70 : ab_ml 7 70 = some (93, 0) := rfl
theorem ml_7_80 : ab_ml 7 80 = some (70, 0) := rfl
theorem ml_4_35 : ab_ml 4 35 = some (80, 0) := rfl
theorem ml_4_126 : ab_ml 4 126 = some (82, 0) := rfl
theorem ml_4_139 : ab_ml 4 139 = some (94, 0) := rfl
theorem ml_4_130 : ab_ml 4 130 = some (81, 0) := rfl
theorem ml_4_143 : ab_ml 4 143 = some (84, 0) := rfl
theorem ml_4_152 : ab_ml 4 152 = some (85, 0) := rfl
theorem ml_4_178 : ab_ml 4 178 = some (0, 8) := rfl
theorem ml_4_183 : ab_ml 4 183 = some (0, 9) := rfl
theorem ml_4_133 : ab_ml 4 133 = some (83, 0) := rfl
theorem ml_4_38 : ab_ml 4 38 = some (35, 0) := rfl
theorem ml_4_52 : ab_ml 4 52 = some (72, 0) := rfl
theorem ml_4_66 : ab_ml 4 66 = some (73, 0) := rfl
theorem ml_4_59 : ab_ml 4 59 = some (71, 0) := rfl
theorem ml_4_75 : ab_ml 4 75 = some (36, 0) := rfl
theorem ml_4_81 : ab_ml 4 81 = some (78, 0) := rfl
theorem ml_4_69 : ab_ml 4 69 = some (74, 0) := rfl
theorem ml_4_84 : ab_ml 4 84 = some (37, 0) := rfl
theorem ml_4_87 : ab_ml 4 87 = some (75, 0) := rfl
theorem ml_4_93 : ab_ml 4 93 = some (129, 2) := rfl
theorem ml_4_97 : ab_ml 4 97 = some (79, 0) := rfl
theorem ml_4_104 : ab_ml 4 104 = some (38, 0) := rfl
theorem ml_4_90 : ab_ml 4 90 = some (76, 0) := rfl
theorem ml_4_108 : ab_ml 4 108 = some (39, 0) := rfl
theorem ml_4_72 : ab_ml 4 72 = some (77, 0) := rfl
theorem ml_4_111 : ab_ml 4 111 = some (40, 0) := rfl
theorem ml_4_114 : ab_ml 4 114 = some (41, 0) := rfl
theorem ml_4_117 : ab_ml 4 117 = some (42, 0) := rfl
theorem ml_4_120 : ab_ml 4 120 = some (43, 0) := rfl
theorem ml_4_56 : ab_ml 4 56 = some (58, 0) := rfl
theorem ml_3_81 : ab_ml 3 81 = some (49, 0) := rfl
theorem ml_3_85 : ab_ml 3 85 = some (50, 0) := rfl
theorem ml_3_77 : ab_ml 3 77 = some (130, 2) := rfl
theorem ml_3_99 : ab_ml 3 99 = some (52, 0) := rfl
theorem ml_3_102 : ab_ml 3 102 = some (51, 0) := rfl
theorem ml_3_105 : ab_ml 3 105 = some (59, 0) := rfl
theorem ml_3_73 : ab_ml 3 73 = some (46, 0) := rfl
theorem ml_3_108 : ab_ml 3 108 = some (57, 0) := rfl
theorem ml_3_93 : ab_ml 3 93 = some (55, 0) := rfl
theorem ml_3_96 : ab_ml 3 96 = some (56, 0) := rfl
theorem ml_7_90 : ab_ml 7 90 = some (44, 0) := rfl
theorem ml_3_67 : ab_ml 3 67 = some (0, 6) := rfl
theorem ml_7_94 : ab_ml 7 94 = some (24, 0) := rfl
theorem ml_7_106 : ab_ml 7 106 = some (61, 0) := rfl
theorem ml_7_110 : ab_ml 7 110 = some (62, 0) := rfl
theorem ml_7_148 : ab_ml 7 148 = some (46, 0) := rfl
theorem ml_7_160 : ab_ml 7 160 = some (48, 0) := rfl
theorem ml_7_166 : ab_ml 7 166 = some (63, 0) := rfl
theorem ml_7_169 : ab_ml 7 169 = some (47, 0) := rfl
theorem ml_7_176 : ab_ml 7 176 = some (55, 0) := rfl
theorem ml_7_179 : ab_ml 7 179 = some (25, 0) := rfl
theorem ml_7_183 : ab_ml 7 183 = some (28, 0) := rfl
theorem ml_2_48 : ab_ml 2 48 = some (45, 0) := rfl
theorem ml_2_54 : ab_ml 2 54 = some (30, 0) := rfl
theorem ml_2_82 : ab_ml 2 82 = some (54, 0) := rfl
theorem ml_2_86 : ab_ml 2 86 = some (31, 0) := rfl
theorem ml_2_97 : ab_ml 2 97 = some (33, 0) := rfl
theorem ml_2_93 : ab_ml 2 93 = some (32, 0) := rfl
theorem ml_2_107 : ab_ml 2 107 = some (131, 2) := rfl
theorem ml_2_64 : ab_ml 2 64 = some (29, 0) := rfl
theorem ml_7_208 : ab_ml 7 208 = some (1, 0) := rfl
theorem ml_0_24 : ab_ml 0 24 = some (2, 0) := rfl
theorem ml_0_35 : ab_ml 0 35 = some (3, 0) := rfl
theorem ml_0_45 : ab_ml 0 45 = some (48, 0) := rfl
theorem ml_0_31 : ab_ml 0 31 = some (4, 0) := rfl
theorem ml_0_52 : ab_ml 0 52 = some (5, 0) := rfl
theorem ml_0_64 : ab_ml 0 64 = some (6, 0) := rfl
theorem ml_0_55 : ab_ml 0 55 = some (0, 6) := rfl
theorem ml_7_212 : ab_ml 7 212 = some (7, 0) := rfl
theorem ml_7_219 : ab_ml 7 219 = some (8, 0) := rfl
theorem ml_0_72 : ab_ml 0 72 = some (9, 0) := rfl
theorem ml_0_75 : ab_ml 0 75 = some (0, 7) := rfl
theorem ml_7_222 : ab_ml 7 222 = some (111, 0) := rfl
theorem ml_7_227 : ab_ml 7 227 = some (10, 0) := rfl
theorem ml_0_81 : ab_ml 0 81 = some (55, 0) := rfl
theorem ml_7_231 : ab_ml 7 231 = some (12, 0) := rfl
theorem ml_1_23 : ab_ml 1 23 = some (16, 0) := rfl
theorem ml_1_42 : ab_ml 1 42 = some (20, 0) := rfl
theorem ml_1_62 : ab_ml 1 62 = some (13, 0) := rfl
theorem ml_1_27 : ab_ml 1 27 = some (15, 1) := rfl
theorem ml_1_73 : ab_ml 1 73 = some (21, 0) := rfl
theorem ml_1_66 : ab_ml 1 66 = some (60, 0) := rfl
theorem ml_1_80 : ab_ml 1 80 = some (22, 0) := rfl
theorem ml_1_45 : ab_ml 1 45 = some (17, 0) := rfl
theorem ml_1_58 : ab_ml 1 58 = some (131, 2) := rfl
theorem ml_1_48 : ab_ml 1 48 = some (19, 0) := rfl
theorem ml_1_51 : ab_ml 1 51 = some (18, 0) := rfl
theorem ml_7_234 : ab_ml 7 234 = some (13, 0) := rfl
theorem ml_7_237 : ab_ml 7 237 = some (14, 0) := rfl
theorem ml_7_241 : ab_ml 7 241 = some (65, 0) := rfl
theorem ml_7_245 : ab_ml 7 245 = some (66, 0) := rfl
theorem ml_3_112 : ab_ml 3 112 = some (67, 0) := rfl
theorem ml_3_115 : ab_ml 3 115 = some (68, 0) := rfl
theorem ml_7_248 : ab_ml 7 248 = some (57, 0) := rfl
theorem ml_7_252 : ab_ml 7 252 = some (129, 1) := rfl
theorem ml_7_255 : ab_ml 7 255 = some (27, 0) := rfl
theorem ml_7_259 : ab_ml 7 259 = some (26, 0) := rfl
theorem ci_m1 : Int32.ofInt (-1) = (-1) := rfl
theorem ci_0 : Int32.ofInt (0) = (0) := rfl
theorem ci_1 : Int32.ofInt (1) = (1) := rfl
theorem ci_2 : Int32.ofInt (2) = (2) := rfl
theorem ci_3 : Int32.ofInt (3) = (3) := rfl
theorem ci_4 : Int32.ofInt (4) = (4) := rfl
theorem ci_5 : Int32.ofInt (5) = (5) := rfl
theorem cb_m14 : (Int8.ofInt (-14)).toInt32 = (-14) := rfl
theorem cb_m12 : (Int8.ofInt (-12)).toInt32 = (-12) := rfl
theorem cb_m11 : (Int8.ofInt (-11)).toInt32 = (-11) := rfl
theorem cb_m10 : (Int8.ofInt (-10)).toInt32 = (-10) := rfl
theorem cb_m4 : (Int8.ofInt (-4)).toInt32 = (-4) := rfl
theorem cb_m3 : (Int8.ofInt (-3)).toInt32 = (-3) := rfl
theorem cb_m2 : (Int8.ofInt (-2)).toInt32 = (-2) := rfl
theorem cb_6 : (Int8.ofInt (6)).toInt32 = (6) := rfl
theorem cb_7 : (Int8.ofInt (7)).toInt32 = (7) := rfl
theorem cb_8 : (Int8.ofInt (8)).toInt32 = (8) := rfl
theorem cb_9 : (Int8.ofInt (9)).toInt32 = (9) := rfl
theorem cb_10 : (Int8.ofInt (10)).toInt32 = (10) := rfl
theorem cb_11 : (Int8.ofInt (11)).toInt32 = (11) := rfl
theorem cb_12 : (Int8.ofInt (12)).toInt32 = (12) := rfl
theorem cb_16 : (Int8.ofInt (16)).toInt32 = (16) := rfl
theorem cb_18 : (Int8.ofInt (18)).toInt32 = (18) := rfl
theorem cb_19 : (Int8.ofInt (19)).toInt32 = (19) := rfl
theorem cb_20 : (Int8.ofInt (20)).toInt32 = (20) := rfl
theorem cb_21 : (Int8.ofInt (21)).toInt32 = (21) := rfl
theorem cb_22 : (Int8.ofInt (22)).toInt32 = (22) := rfl
theorem cb_23 : (Int8.ofInt (23)).toInt32 = (23) := rfl
theorem cb_24 : (Int8.ofInt (24)).toInt32 = (24) := rfl
theorem cb_25 : (Int8.ofInt (25)).toInt32 = (25) := rfl
theorem cb_30 : (Int8.ofInt (30)).toInt32 = (30) := rfl
theorem cb_32 : (Int8.ofInt (32)).toInt32 = (32) := rfl
theorem cb_36 : (Int8.ofInt (36)).toInt32 = (36) := rfl
theorem cb_40 : (Int8.ofInt (40)).toInt32 = (40) := rfl
theorem cb_48 : (Int8.ofInt (48)).toInt32 = (48) := rfl
theorem cb_50 : (Int8.ofInt (50)).toInt32 = (50) := rfl
theorem cb_56 : (Int8.ofInt (56)).toInt32 = (56) := rfl
theorem cb_57 : (Int8.ofInt (57)).toInt32 = (57) := rfl
theorem cb_59 : (Int8.ofInt (59)).toInt32 = (59) := rfl
theorem cb_63 : (Int8.ofInt (63)).toInt32 = (63) := rfl
theorem cb_76 : (Int8.ofInt (76)).toInt32 = (76) := rfl
theorem cb_96 : (Int8.ofInt (96)).toInt32 = (96) := rfl
theorem cb_97 : (Int8.ofInt (97)).toInt32 = (97) := rfl
theorem cb_99 : (Int8.ofInt (99)).toInt32 = (99) := rfl
theorem cb_100 : (Int8.ofInt (100)).toInt32 = (100) := rfl
theorem cb_116 : (Int8.ofInt (116)).toInt32 = (116) := rfl
theorem cb_122 : (Int8.ofInt (122)).toInt32 = (122) := rfl
theorem cb_127 : (Int8.ofInt (127)).toInt32 = (127) := rfl
theorem cs_200 : (Int16.ofInt (200)).toInt32 = (200) := rfl
theorem cs_236 : (Int16.ofInt (236)).toInt32 = (236) := rfl
theorem cs_237 : (Int16.ofInt (237)).toInt32 = (237) := rfl
theorem cs_238 : (Int16.ofInt (238)).toInt32 = (238) := rfl
theorem cs_320 : (Int16.ofInt (320)).toInt32 = (320) := rfl
theorem cs_714 : (Int16.ofInt (714)).toInt32 = (714) := rfl
theorem cs_720 : (Int16.ofInt (720)).toInt32 = (720) := rfl
theorem cs_726 : (Int16.ofInt (726)).toInt32 = (726) := rfl
theorem cs_732 : (Int16.ofInt (732)).toInt32 = (732) := rfl
theorem cs_738 : (Int16.ofInt (738)).toInt32 = (738) := rfl
theorem cs_744 : (Int16.ofInt (744)).toInt32 = (744) := rfl
theorem cs_750 : (Int16.ofInt (750)).toInt32 = (750) := rfl
theorem cs_770 : (Int16.ofInt (770)).toInt32 = (770) := rfl
theorem cs_790 : (Int16.ofInt (790)).toInt32 = (790) := rfl
theorem cs_810 : (Int16.ofInt (810)).toInt32 = (810) := rfl
theorem cs_830 : (Int16.ofInt (830)).toInt32 = (830) := rfl
theorem cs_950 : (Int16.ofInt (950)).toInt32 = (950) := rfl
theorem cs_951 : (Int16.ofInt (951)).toInt32 = (951) := rfl
theorem cs_12345 : (Int16.ofInt (12345)).toInt32 = (12345) := rfl
theorem cs_32767 : (Int16.ofInt (32767)).toInt32 = (32767) := rfl
theorem cl_0 : Int64.ofNat ((0 : Fin 2) : Nat) = 0 := rfl
theorem cl_1 : Int64.ofNat ((1 : Fin 2) : Nat) = 1 := rfl
theorem gg_0_0 {mi pc o : Nat} {L : ab_L} {S : List Value} {h : ab_H} {Q : Option Value → ab_H → Prop} : GoG (some (0, 0)) mi pc L o S h Q = (ab_ref h o 0 = true ∧ Go (ab_at mi (pc + 3)) mi (pc + 3) L (va_rf (ab_rf h o 0) :: S) h Q) := propext ⟨fun z => ⟨z.1, z.2.2.2⟩, fun z => ⟨z.1, (by decide : 0 < ab_N 0), (by omega), z.2⟩⟩
theorem gg_0_1 {mi pc o : Nat} {L : ab_L} {S : List Value} {h : ab_H} {Q : Option Value → ab_H → Prop} : GoG (some (0, 1)) mi pc L o S h Q = (ab_ref h o 0 = true ∧ Go (ab_at mi (pc + 3)) mi (pc + 3) L (.int (h.2.1 o 1) :: S) h Q) := propext ⟨fun z => ⟨z.1, z.2.2.2⟩, fun z => ⟨z.1, (by decide : 1 < ab_N 0), (by omega), z.2⟩⟩
theorem gp_0_1 {mi pc o : Nat} {L : ab_L} {S : List Value} {h : ab_H} {Q : Option Value → ab_H → Prop} {x : Int32} : GoP (some (0, 1)) mi pc L o (.int x) S h Q = (ab_ref h o 0 = true ∧ Go (ab_at mi (pc + 3)) mi (pc + 3) L S (ab_seti h o 1 x) Q) := propext ⟨fun z => ⟨z.1, z.2.2.2.2.2.2.2⟩, fun z => ⟨z.1, (by decide : 1 < ab_N 0), (by omega), rfl, rfl, rfl, Or.inl rfl, z.2⟩⟩
theorem gg_0_2 {mi pc o : Nat} {L : ab_L} {S : List Value} {h : ab_H} {Q : Option Value → ab_H → Prop} : GoG (some (0, 2)) mi pc L o S h Q = (ab_ref h o 0 = true ∧ Go (ab_at mi (pc + 3)) mi (pc + 3) L (va_rf (ab_rf h o 2) :: S) h Q) := propext ⟨fun z => ⟨z.1, z.2.2.2⟩, fun z => ⟨z.1, (by decide : 2 < ab_N 0), (by omega), z.2⟩⟩
theorem gg_1_0 {mi pc o : Nat} {L : ab_L} {S : List Value} {h : ab_H} {Q : Option Value → ab_H → Prop} : GoG (some (1, 0)) mi pc L o S h Q = (ab_ref h o 1 = true ∧ Go (ab_at mi (pc + 3)) mi (pc + 3) L (va_rf (ab_rf h o 0) :: S) h Q) := propext ⟨fun z => ⟨z.1, z.2.2.2⟩, fun z => ⟨z.1, (by decide : 0 < ab_N 1), (by omega), z.2⟩⟩
theorem gg_2_0 {mi pc o : Nat} {L : ab_L} {S : List Value} {h : ab_H} {Q : Option Value → ab_H → Prop} : GoG (some (2, 0)) mi pc L o S h Q = (ab_ref h o 2 = true ∧ Go (ab_at mi (pc + 3)) mi (pc + 3) L (va_rf (ab_rf h o 0) :: S) h Q) := propext ⟨fun z => ⟨z.1, z.2.2.2⟩, fun z => ⟨z.1, (by decide : 0 < ab_N 2), (by omega), z.2⟩⟩
theorem gg_2_1 {mi pc o : Nat} {L : ab_L} {S : List Value} {h : ab_H} {Q : Option Value → ab_H → Prop} : GoG (some (2, 1)) mi pc L o S h Q = (ab_ref h o 2 = true ∧ Go (ab_at mi (pc + 3)) mi (pc + 3) L (va_rf (ab_rf h o 1) :: S) h Q) := propext ⟨fun z => ⟨z.1, z.2.2.2⟩, fun z => ⟨z.1, (by decide : 1 < ab_N 2), (by omega), z.2⟩⟩
theorem gg_2_2 {mi pc o : Nat} {L : ab_L} {S : List Value} {h : ab_H} {Q : Option Value → ab_H → Prop} : GoG (some (2, 2)) mi pc L o S h Q = (ab_ref h o 2 = true ∧ Go (ab_at mi (pc + 3)) mi (pc + 3) L (.int (h.2.1 o 2) :: S) h Q) := propext ⟨fun z => ⟨z.1, z.2.2.2⟩, fun z => ⟨z.1, (by decide : 2 < ab_N 2), (by omega), z.2⟩⟩
theorem gp_2_2 {mi pc o : Nat} {L : ab_L} {S : List Value} {h : ab_H} {Q : Option Value → ab_H → Prop} {x : Int32} : GoP (some (2, 2)) mi pc L o (.int x) S h Q = (ab_ref h o 2 = true ∧ (x = 0 ∨ x = 1) ∧ Go (ab_at mi (pc + 3)) mi (pc + 3) L S (ab_seti h o 2 x) Q) := propext ⟨fun z => ⟨z.1, (by have := z.2.2.2.1; simpa [ab_fit, ab_ty, tyX2] using this), z.2.2.2.2.2.2.2⟩, fun z => ⟨z.1, (by decide : 2 < ab_N 2), (by omega), (by simpa [ab_fit, ab_ty, tyX2] using z.2.1), rfl, rfl, Or.inl rfl, z.2.2⟩⟩
theorem gg_2_3 {mi pc o : Nat} {L : ab_L} {S : List Value} {h : ab_H} {Q : Option Value → ab_H → Prop} : GoG (some (2, 3)) mi pc L o S h Q = (ab_ref h o 2 = true ∧ Go (ab_at mi (pc + 3)) mi (pc + 3) L (.int (h.2.1 o 3) :: S) h Q) := propext ⟨fun z => ⟨z.1, z.2.2.2⟩, fun z => ⟨z.1, (by decide : 3 < ab_N 2), (by omega), z.2⟩⟩
theorem gp_2_3 {mi pc o : Nat} {L : ab_L} {S : List Value} {h : ab_H} {Q : Option Value → ab_H → Prop} {x : Int32} : GoP (some (2, 3)) mi pc L o (.int x) S h Q = (ab_ref h o 2 = true ∧ (x = 0 ∨ x = 1) ∧ Go (ab_at mi (pc + 3)) mi (pc + 3) L S (ab_seti h o 3 x) Q) := propext ⟨fun z => ⟨z.1, (by have := z.2.2.2.1; simpa [ab_fit, ab_ty, tyX2] using this), z.2.2.2.2.2.2.2⟩, fun z => ⟨z.1, (by decide : 3 < ab_N 2), (by omega), (by simpa [ab_fit, ab_ty, tyX2] using z.2.1), rfl, rfl, Or.inl rfl, z.2.2⟩⟩
theorem gg_2_4 {mi pc o : Nat} {L : ab_L} {S : List Value} {h : ab_H} {Q : Option Value → ab_H → Prop} : GoG (some (2, 4)) mi pc L o S h Q = (ab_ref h o 2 = true ∧ Go (ab_at mi (pc + 3)) mi (pc + 3) L (.int (h.2.1 o 4) :: S) h Q) := propext ⟨fun z => ⟨z.1, z.2.2.2⟩, fun z => ⟨z.1, (by decide : 4 < ab_N 2), (by omega), z.2⟩⟩
theorem gp_2_4 {mi pc o : Nat} {L : ab_L} {S : List Value} {h : ab_H} {Q : Option Value → ab_H → Prop} {x : Int32} : GoP (some (2, 4)) mi pc L o (.int x) S h Q = (ab_ref h o 2 = true ∧ Go (ab_at mi (pc + 3)) mi (pc + 3) L S (ab_seti h o 4 x) Q) := propext ⟨fun z => ⟨z.1, z.2.2.2.2.2.2.2⟩, fun z => ⟨z.1, (by decide : 4 < ab_N 2), (by omega), rfl, rfl, rfl, Or.inl rfl, z.2⟩⟩
theorem gg_2_5 {mi pc o : Nat} {L : ab_L} {S : List Value} {h : ab_H} {Q : Option Value → ab_H → Prop} : GoG (some (2, 5)) mi pc L o S h Q = (ab_ref h o 2 = true ∧ Go (ab_at mi (pc + 3)) mi (pc + 3) L (.int (h.2.1 o 5) :: S) h Q) := propext ⟨fun z => ⟨z.1, z.2.2.2⟩, fun z => ⟨z.1, (by decide : 5 < ab_N 2), (by omega), z.2⟩⟩
theorem gp_2_5 {mi pc o : Nat} {L : ab_L} {S : List Value} {h : ab_H} {Q : Option Value → ab_H → Prop} {x : Int32} : GoP (some (2, 5)) mi pc L o (.int x) S h Q = (ab_ref h o 2 = true ∧ Go (ab_at mi (pc + 3)) mi (pc + 3) L S (ab_seti h o 5 x) Q) := propext ⟨fun z => ⟨z.1, z.2.2.2.2.2.2.2⟩, fun z => ⟨z.1, (by decide : 5 < ab_N 2), (by omega), rfl, rfl, rfl, Or.inl rfl, z.2⟩⟩
theorem gg_2_6 {mi pc o : Nat} {L : ab_L} {S : List Value} {h : ab_H} {Q : Option Value → ab_H → Prop} : GoG (some (2, 6)) mi pc L o S h Q = (ab_ref h o 2 = true ∧ Go (ab_at mi (pc + 3)) mi (pc + 3) L (.int (h.2.1 o 6) :: S) h Q) := propext ⟨fun z => ⟨z.1, z.2.2.2⟩, fun z => ⟨z.1, (by decide : 6 < ab_N 2), (by omega), z.2⟩⟩
theorem gp_2_6 {mi pc o : Nat} {L : ab_L} {S : List Value} {h : ab_H} {Q : Option Value → ab_H → Prop} {x : Int32} : GoP (some (2, 6)) mi pc L o (.int x) S h Q = (ab_ref h o 2 = true ∧ Go (ab_at mi (pc + 3)) mi (pc + 3) L S (ab_seti h o 6 x) Q) := propext ⟨fun z => ⟨z.1, z.2.2.2.2.2.2.2⟩, fun z => ⟨z.1, (by decide : 6 < ab_N 2), (by omega), rfl, rfl, rfl, Or.inl rfl, z.2⟩⟩
theorem gg_2_7 {mi pc o : Nat} {L : ab_L} {S : List Value} {h : ab_H} {Q : Option Value → ab_H → Prop} : GoG (some (2, 7)) mi pc L o S h Q = (ab_ref h o 2 = true ∧ Go (ab_at mi (pc + 3)) mi (pc + 3) L (va_rf (ab_rf h o 7) :: S) h Q) := propext ⟨fun z => ⟨z.1, z.2.2.2⟩, fun z => ⟨z.1, (by decide : 7 < ab_N 2), (by omega), z.2⟩⟩
theorem gg_2_8 {mi pc o : Nat} {L : ab_L} {S : List Value} {h : ab_H} {Q : Option Value → ab_H → Prop} : GoG (some (2, 8)) mi pc L o S h Q = (ab_ref h o 2 = true ∧ Go (ab_at mi (pc + 3)) mi (pc + 3) L (.int (h.2.1 o 8) :: S) h Q) := propext ⟨fun z => ⟨z.1, z.2.2.2⟩, fun z => ⟨z.1, (by decide : 8 < ab_N 2), (by omega), z.2⟩⟩
theorem gp_2_8 {mi pc o : Nat} {L : ab_L} {S : List Value} {h : ab_H} {Q : Option Value → ab_H → Prop} {x : Int32} : GoP (some (2, 8)) mi pc L o (.int x) S h Q = (ab_ref h o 2 = true ∧ Go (ab_at mi (pc + 3)) mi (pc + 3) L S (ab_seti h o 8 x) Q) := propext ⟨fun z => ⟨z.1, z.2.2.2.2.2.2.2⟩, fun z => ⟨z.1, (by decide : 8 < ab_N 2), (by omega), rfl, rfl, rfl, Or.inl rfl, z.2⟩⟩
theorem gg_2_9 {mi pc o : Nat} {L : ab_L} {S : List Value} {h : ab_H} {Q : Option Value → ab_H → Prop} : GoG (some (2, 9)) mi pc L o S h Q = (ab_ref h o 2 = true ∧ Go (ab_at mi (pc + 3)) mi (pc + 3) L (.int (h.2.1 o 9) :: S) h Q) := propext ⟨fun z => ⟨z.1, z.2.2.2⟩, fun z => ⟨z.1, (by decide : 9 < ab_N 2), (by omega), z.2⟩⟩
theorem gp_2_9 {mi pc o : Nat} {L : ab_L} {S : List Value} {h : ab_H} {Q : Option Value → ab_H → Prop} {x : Int32} : GoP (some (2, 9)) mi pc L o (.int x) S h Q = (ab_ref h o 2 = true ∧ Go (ab_at mi (pc + 3)) mi (pc + 3) L S (ab_seti h o 9 x) Q) := propext ⟨fun z => ⟨z.1, z.2.2.2.2.2.2.2⟩, fun z => ⟨z.1, (by decide : 9 < ab_N 2), (by omega), rfl, rfl, rfl, Or.inl rfl, z.2⟩⟩
theorem gg_3_0 {mi pc o : Nat} {L : ab_L} {S : List Value} {h : ab_H} {Q : Option Value → ab_H → Prop} : GoG (some (3, 0)) mi pc L o S h Q = (ab_ref h o 3 = true ∧ Go (ab_at mi (pc + 3)) mi (pc + 3) L (.int (h.2.1 o 0) :: S) h Q) := propext ⟨fun z => ⟨z.1, z.2.2.2⟩, fun z => ⟨z.1, (by decide : 0 < ab_N 3), (by omega), z.2⟩⟩
theorem gp_3_0 {mi pc o : Nat} {L : ab_L} {S : List Value} {h : ab_H} {Q : Option Value → ab_H → Prop} {x : Int32} : GoP (some (3, 0)) mi pc L o (.int x) S h Q = (ab_ref h o 3 = true ∧ Go (ab_at mi (pc + 3)) mi (pc + 3) L S (ab_seti h o 0 x) Q) := propext ⟨fun z => ⟨z.1, z.2.2.2.2.2.2.2⟩, fun z => ⟨z.1, (by decide : 0 < ab_N 3), (by omega), rfl, rfl, rfl, Or.inl rfl, z.2⟩⟩
theorem gg_3_1 {mi pc o : Nat} {L : ab_L} {S : List Value} {h : ab_H} {Q : Option Value → ab_H → Prop} : GoG (some (3, 1)) mi pc L o S h Q = (ab_ref h o 3 = true ∧ Go (ab_at mi (pc + 3)) mi (pc + 3) L (.int (h.2.1 o 1) :: S) h Q) := propext ⟨fun z => ⟨z.1, z.2.2.2⟩, fun z => ⟨z.1, (by decide : 1 < ab_N 3), (by omega), z.2⟩⟩
theorem gp_3_1 {mi pc o : Nat} {L : ab_L} {S : List Value} {h : ab_H} {Q : Option Value → ab_H → Prop} {x : Int32} : GoP (some (3, 1)) mi pc L o (.int x) S h Q = (ab_ref h o 3 = true ∧ Go (ab_at mi (pc + 3)) mi (pc + 3) L S (ab_seti h o 1 x) Q) := propext ⟨fun z => ⟨z.1, z.2.2.2.2.2.2.2⟩, fun z => ⟨z.1, (by decide : 1 < ab_N 3), (by omega), rfl, rfl, rfl, Or.inl rfl, z.2⟩⟩
theorem gg_3_2 {mi pc o : Nat} {L : ab_L} {S : List Value} {h : ab_H} {Q : Option Value → ab_H → Prop} : GoG (some (3, 2)) mi pc L o S h Q = (ab_ref h o 3 = true ∧ Go (ab_at mi (pc + 3)) mi (pc + 3) L (va_rf (ab_rf h o 2) :: S) h Q) := propext ⟨fun z => ⟨z.1, z.2.2.2⟩, fun z => ⟨z.1, (by decide : 2 < ab_N 3), (by omega), z.2⟩⟩
theorem gg_3_3 {mi pc o : Nat} {L : ab_L} {S : List Value} {h : ab_H} {Q : Option Value → ab_H → Prop} : GoG (some (3, 3)) mi pc L o S h Q = (ab_ref h o 3 = true ∧ Go (ab_at mi (pc + 3)) mi (pc + 3) L (va_rf (ab_rf h o 3) :: S) h Q) := propext ⟨fun z => ⟨z.1, z.2.2.2⟩, fun z => ⟨z.1, (by decide : 3 < ab_N 3), (by omega), z.2⟩⟩
theorem gg_3_4 {mi pc o : Nat} {L : ab_L} {S : List Value} {h : ab_H} {Q : Option Value → ab_H → Prop} : GoG (some (3, 4)) mi pc L o S h Q = (ab_ref h o 3 = true ∧ Go (ab_at mi (pc + 3)) mi (pc + 3) L (va_rf (ab_rf h o 4) :: S) h Q) := propext ⟨fun z => ⟨z.1, z.2.2.2⟩, fun z => ⟨z.1, (by decide : 4 < ab_N 3), (by omega), z.2⟩⟩
theorem gg_3_5 {mi pc o : Nat} {L : ab_L} {S : List Value} {h : ab_H} {Q : Option Value → ab_H → Prop} : GoG (some (3, 5)) mi pc L o S h Q = (ab_ref h o 3 = true ∧ Go (ab_at mi (pc + 3)) mi (pc + 3) L (va_rf (ab_rf h o 5) :: S) h Q) := propext ⟨fun z => ⟨z.1, z.2.2.2⟩, fun z => ⟨z.1, (by decide : 5 < ab_N 3), (by omega), z.2⟩⟩
theorem gg_3_6 {mi pc o : Nat} {L : ab_L} {S : List Value} {h : ab_H} {Q : Option Value → ab_H → Prop} : GoG (some (3, 6)) mi pc L o S h Q = (ab_ref h o 3 = true ∧ Go (ab_at mi (pc + 3)) mi (pc + 3) L (va_rf (ab_rf h o 6) :: S) h Q) := propext ⟨fun z => ⟨z.1, z.2.2.2⟩, fun z => ⟨z.1, (by decide : 6 < ab_N 3), (by omega), z.2⟩⟩
theorem gg_3_7 {mi pc o : Nat} {L : ab_L} {S : List Value} {h : ab_H} {Q : Option Value → ab_H → Prop} : GoG (some (3, 7)) mi pc L o S h Q = (ab_ref h o 3 = true ∧ Go (ab_at mi (pc + 3)) mi (pc + 3) L (va_rf (ab_rf h o 7) :: S) h Q) := propext ⟨fun z => ⟨z.1, z.2.2.2⟩, fun z => ⟨z.1, (by decide : 7 < ab_N 3), (by omega), z.2⟩⟩
theorem gg_3_8 {mi pc o : Nat} {L : ab_L} {S : List Value} {h : ab_H} {Q : Option Value → ab_H → Prop} : GoG (some (3, 8)) mi pc L o S h Q = (ab_ref h o 3 = true ∧ Go (ab_at mi (pc + 3)) mi (pc + 3) L (va_rf (ab_rf h o 8) :: S) h Q) := propext ⟨fun z => ⟨z.1, z.2.2.2⟩, fun z => ⟨z.1, (by decide : 8 < ab_N 3), (by omega), z.2⟩⟩
theorem gg_3_9 {mi pc o : Nat} {L : ab_L} {S : List Value} {h : ab_H} {Q : Option Value → ab_H → Prop} : GoG (some (3, 9)) mi pc L o S h Q = (ab_ref h o 3 = true ∧ Go (ab_at mi (pc + 3)) mi (pc + 3) L (va_rf (ab_rf h o 9) :: S) h Q) := propext ⟨fun z => ⟨z.1, z.2.2.2⟩, fun z => ⟨z.1, (by decide : 9 < ab_N 3), (by omega), z.2⟩⟩
theorem gg_3_10 {mi pc o : Nat} {L : ab_L} {S : List Value} {h : ab_H} {Q : Option Value → ab_H → Prop} : GoG (some (3, 10)) mi pc L o S h Q = (ab_ref h o 3 = true ∧ Go (ab_at mi (pc + 3)) mi (pc + 3) L (va_rf (ab_rf h o 10) :: S) h Q) := propext ⟨fun z => ⟨z.1, z.2.2.2⟩, fun z => ⟨z.1, (by decide : 10 < ab_N 3), (by omega), z.2⟩⟩
theorem gg_3_11 {mi pc o : Nat} {L : ab_L} {S : List Value} {h : ab_H} {Q : Option Value → ab_H → Prop} : GoG (some (3, 11)) mi pc L o S h Q = (ab_ref h o 3 = true ∧ Go (ab_at mi (pc + 3)) mi (pc + 3) L (va_rf (ab_rf h o 11) :: S) h Q) := propext ⟨fun z => ⟨z.1, z.2.2.2⟩, fun z => ⟨z.1, (by decide : 11 < ab_N 3), (by omega), z.2⟩⟩
theorem gg_3_12 {mi pc o : Nat} {L : ab_L} {S : List Value} {h : ab_H} {Q : Option Value → ab_H → Prop} : GoG (some (3, 12)) mi pc L o S h Q = (ab_ref h o 3 = true ∧ Go (ab_at mi (pc + 3)) mi (pc + 3) L (va_rf (ab_rf h o 12) :: S) h Q) := propext ⟨fun z => ⟨z.1, z.2.2.2⟩, fun z => ⟨z.1, (by decide : 12 < ab_N 3), (by omega), z.2⟩⟩
theorem gg_3_13 {mi pc o : Nat} {L : ab_L} {S : List Value} {h : ab_H} {Q : Option Value → ab_H → Prop} : GoG (some (3, 13)) mi pc L o S h Q = (ab_ref h o 3 = true ∧ Go (ab_at mi (pc + 3)) mi (pc + 3) L (va_rf (ab_rf h o 13) :: S) h Q) := propext ⟨fun z => ⟨z.1, z.2.2.2⟩, fun z => ⟨z.1, (by decide : 13 < ab_N 3), (by omega), z.2⟩⟩
theorem gg_3_14 {mi pc o : Nat} {L : ab_L} {S : List Value} {h : ab_H} {Q : Option Value → ab_H → Prop} : GoG (some (3, 14)) mi pc L o S h Q = (ab_ref h o 3 = true ∧ Go (ab_at mi (pc + 3)) mi (pc + 3) L (va_rf (ab_rf h o 14) :: S) h Q) := propext ⟨fun z => ⟨z.1, z.2.2.2⟩, fun z => ⟨z.1, (by decide : 14 < ab_N 3), (by omega), z.2⟩⟩
theorem gg_3_15 {mi pc o : Nat} {L : ab_L} {S : List Value} {h : ab_H} {Q : Option Value → ab_H → Prop} : GoG (some (3, 15)) mi pc L o S h Q = (ab_ref h o 3 = true ∧ Go (ab_at mi (pc + 3)) mi (pc + 3) L (va_rf (ab_rf h o 15) :: S) h Q) := propext ⟨fun z => ⟨z.1, z.2.2.2⟩, fun z => ⟨z.1, (by decide : 15 < ab_N 3), (by omega), z.2⟩⟩
theorem gg_3_16 {mi pc o : Nat} {L : ab_L} {S : List Value} {h : ab_H} {Q : Option Value → ab_H → Prop} : GoG (some (3, 16)) mi pc L o S h Q = (ab_ref h o 3 = true ∧ Go (ab_at mi (pc + 3)) mi (pc + 3) L (va_rf (ab_rf h o 16) :: S) h Q) := propext ⟨fun z => ⟨z.1, z.2.2.2⟩, fun z => ⟨z.1, (by decide : 16 < ab_N 3), (by omega), z.2⟩⟩
theorem gg_4_0 {mi pc o : Nat} {L : ab_L} {S : List Value} {h : ab_H} {Q : Option Value → ab_H → Prop} : GoG (some (4, 0)) mi pc L o S h Q = (ab_ref h o 4 = true ∧ Go (ab_at mi (pc + 3)) mi (pc + 3) L (va_rf (ab_rf h o 0) :: S) h Q) := propext ⟨fun z => ⟨z.1, z.2.2.2⟩, fun z => ⟨z.1, (by decide : 0 < ab_N 4), (by omega), z.2⟩⟩
theorem gg_4_1 {mi pc o : Nat} {L : ab_L} {S : List Value} {h : ab_H} {Q : Option Value → ab_H → Prop} : GoG (some (4, 1)) mi pc L o S h Q = (ab_ref h o 4 = true ∧ Go (ab_at mi (pc + 3)) mi (pc + 3) L (va_rf (ab_rf h o 1) :: S) h Q) := propext ⟨fun z => ⟨z.1, z.2.2.2⟩, fun z => ⟨z.1, (by decide : 1 < ab_N 4), (by omega), z.2⟩⟩
theorem gg_4_2 {mi pc o : Nat} {L : ab_L} {S : List Value} {h : ab_H} {Q : Option Value → ab_H → Prop} : GoG (some (4, 2)) mi pc L o S h Q = (ab_ref h o 4 = true ∧ Go (ab_at mi (pc + 3)) mi (pc + 3) L (.int (h.2.1 o 2) :: S) h Q) := propext ⟨fun z => ⟨z.1, z.2.2.2⟩, fun z => ⟨z.1, (by decide : 2 < ab_N 4), (by omega), z.2⟩⟩
theorem gp_4_2 {mi pc o : Nat} {L : ab_L} {S : List Value} {h : ab_H} {Q : Option Value → ab_H → Prop} {x : Int32} : GoP (some (4, 2)) mi pc L o (.int x) S h Q = (ab_ref h o 4 = true ∧ Go (ab_at mi (pc + 3)) mi (pc + 3) L S (ab_seti h o 2 x) Q) := propext ⟨fun z => ⟨z.1, z.2.2.2.2.2.2.2⟩, fun z => ⟨z.1, (by decide : 2 < ab_N 4), (by omega), rfl, rfl, rfl, Or.inl rfl, z.2⟩⟩
theorem gg_4_3 {mi pc o : Nat} {L : ab_L} {S : List Value} {h : ab_H} {Q : Option Value → ab_H → Prop} : GoG (some (4, 3)) mi pc L o S h Q = (ab_ref h o 4 = true ∧ Go (ab_at mi (pc + 3)) mi (pc + 3) L (.int (h.2.1 o 3) :: S) h Q) := propext ⟨fun z => ⟨z.1, z.2.2.2⟩, fun z => ⟨z.1, (by decide : 3 < ab_N 4), (by omega), z.2⟩⟩
theorem gp_4_3 {mi pc o : Nat} {L : ab_L} {S : List Value} {h : ab_H} {Q : Option Value → ab_H → Prop} {x : Int32} : GoP (some (4, 3)) mi pc L o (.int x) S h Q = (ab_ref h o 4 = true ∧ Go (ab_at mi (pc + 3)) mi (pc + 3) L S (ab_seti h o 3 x) Q) := propext ⟨fun z => ⟨z.1, z.2.2.2.2.2.2.2⟩, fun z => ⟨z.1, (by decide : 3 < ab_N 4), (by omega), rfl, rfl, rfl, Or.inl rfl, z.2⟩⟩
theorem gg_4_4 {mi pc o : Nat} {L : ab_L} {S : List Value} {h : ab_H} {Q : Option Value → ab_H → Prop} : GoG (some (4, 4)) mi pc L o S h Q = (ab_ref h o 4 = true ∧ Go (ab_at mi (pc + 3)) mi (pc + 3) L (va_rf (ab_rf h o 4) :: S) h Q) := propext ⟨fun z => ⟨z.1, z.2.2.2⟩, fun z => ⟨z.1, (by decide : 4 < ab_N 4), (by omega), z.2⟩⟩
theorem gg_4_5 {mi pc o : Nat} {L : ab_L} {S : List Value} {h : ab_H} {Q : Option Value → ab_H → Prop} : GoG (some (4, 5)) mi pc L o S h Q = (ab_ref h o 4 = true ∧ Go (ab_at mi (pc + 3)) mi (pc + 3) L (va_rf (ab_rf h o 5) :: S) h Q) := propext ⟨fun z => ⟨z.1, z.2.2.2⟩, fun z => ⟨z.1, (by decide : 5 < ab_N 4), (by omega), z.2⟩⟩
theorem gg_4_6 {mi pc o : Nat} {L : ab_L} {S : List Value} {h : ab_H} {Q : Option Value → ab_H → Prop} : GoG (some (4, 6)) mi pc L o S h Q = (ab_ref h o 4 = true ∧ Go (ab_at mi (pc + 3)) mi (pc + 3) L (va_rf (ab_rf h o 6) :: S) h Q) := propext ⟨fun z => ⟨z.1, z.2.2.2⟩, fun z => ⟨z.1, (by decide : 6 < ab_N 4), (by omega), z.2⟩⟩
theorem gg_4_7 {mi pc o : Nat} {L : ab_L} {S : List Value} {h : ab_H} {Q : Option Value → ab_H → Prop} : GoG (some (4, 7)) mi pc L o S h Q = (ab_ref h o 4 = true ∧ Go (ab_at mi (pc + 3)) mi (pc + 3) L (.int (h.2.1 o 7) :: S) h Q) := propext ⟨fun z => ⟨z.1, z.2.2.2⟩, fun z => ⟨z.1, (by decide : 7 < ab_N 4), (by omega), z.2⟩⟩
theorem gp_4_7 {mi pc o : Nat} {L : ab_L} {S : List Value} {h : ab_H} {Q : Option Value → ab_H → Prop} {x : Int32} : GoP (some (4, 7)) mi pc L o (.int x) S h Q = (ab_ref h o 4 = true ∧ Go (ab_at mi (pc + 3)) mi (pc + 3) L S (ab_seti h o 7 x) Q) := propext ⟨fun z => ⟨z.1, z.2.2.2.2.2.2.2⟩, fun z => ⟨z.1, (by decide : 7 < ab_N 4), (by omega), rfl, rfl, rfl, Or.inl rfl, z.2⟩⟩
theorem gg_4_8 {mi pc o : Nat} {L : ab_L} {S : List Value} {h : ab_H} {Q : Option Value → ab_H → Prop} : GoG (some (4, 8)) mi pc L o S h Q = (ab_ref h o 4 = true ∧ Go (ab_at mi (pc + 3)) mi (pc + 3) L (.int (h.2.1 o 8) :: S) h Q) := propext ⟨fun z => ⟨z.1, z.2.2.2⟩, fun z => ⟨z.1, (by decide : 8 < ab_N 4), (by omega), z.2⟩⟩
theorem gp_4_8 {mi pc o : Nat} {L : ab_L} {S : List Value} {h : ab_H} {Q : Option Value → ab_H → Prop} {x : Int32} : GoP (some (4, 8)) mi pc L o (.int x) S h Q = (ab_ref h o 4 = true ∧ Go (ab_at mi (pc + 3)) mi (pc + 3) L S (ab_seti h o 8 x) Q) := propext ⟨fun z => ⟨z.1, z.2.2.2.2.2.2.2⟩, fun z => ⟨z.1, (by decide : 8 < ab_N 4), (by omega), rfl, rfl, rfl, Or.inl rfl, z.2⟩⟩
theorem gg_4_9 {mi pc o : Nat} {L : ab_L} {S : List Value} {h : ab_H} {Q : Option Value → ab_H → Prop} : GoG (some (4, 9)) mi pc L o S h Q = (ab_ref h o 4 = true ∧ Go (ab_at mi (pc + 3)) mi (pc + 3) L (.int (h.2.1 o 9) :: S) h Q) := propext ⟨fun z => ⟨z.1, z.2.2.2⟩, fun z => ⟨z.1, (by decide : 9 < ab_N 4), (by omega), z.2⟩⟩
theorem gp_4_9 {mi pc o : Nat} {L : ab_L} {S : List Value} {h : ab_H} {Q : Option Value → ab_H → Prop} {x : Int32} : GoP (some (4, 9)) mi pc L o (.int x) S h Q = (ab_ref h o 4 = true ∧ Go (ab_at mi (pc + 3)) mi (pc + 3) L S (ab_seti h o 9 x) Q) := propext ⟨fun z => ⟨z.1, z.2.2.2.2.2.2.2⟩, fun z => ⟨z.1, (by decide : 9 < ab_N 4), (by omega), rfl, rfl, rfl, Or.inl rfl, z.2⟩⟩
theorem gg_4_10 {mi pc o : Nat} {L : ab_L} {S : List Value} {h : ab_H} {Q : Option Value → ab_H → Prop} : GoG (some (4, 10)) mi pc L o S h Q = (ab_ref h o 4 = true ∧ Go (ab_at mi (pc + 3)) mi (pc + 3) L (.int (h.2.1 o 10) :: S) h Q) := propext ⟨fun z => ⟨z.1, z.2.2.2⟩, fun z => ⟨z.1, (by decide : 10 < ab_N 4), (by omega), z.2⟩⟩
theorem gp_4_10 {mi pc o : Nat} {L : ab_L} {S : List Value} {h : ab_H} {Q : Option Value → ab_H → Prop} {x : Int32} : GoP (some (4, 10)) mi pc L o (.int x) S h Q = (ab_ref h o 4 = true ∧ (x = 0 ∨ x = 1) ∧ Go (ab_at mi (pc + 3)) mi (pc + 3) L S (ab_seti h o 10 x) Q) := propext ⟨fun z => ⟨z.1, (by have := z.2.2.2.1; simpa [ab_fit, ab_ty, tyX4] using this), z.2.2.2.2.2.2.2⟩, fun z => ⟨z.1, (by decide : 10 < ab_N 4), (by omega), (by simpa [ab_fit, ab_ty, tyX4] using z.2.1), rfl, rfl, Or.inl rfl, z.2.2⟩⟩
theorem gg_4_11 {mi pc o : Nat} {L : ab_L} {S : List Value} {h : ab_H} {Q : Option Value → ab_H → Prop} : GoG (some (4, 11)) mi pc L o S h Q = (ab_ref h o 4 = true ∧ Go (ab_at mi (pc + 3)) mi (pc + 3) L (.int (h.2.1 o 11) :: S) h Q) := propext ⟨fun z => ⟨z.1, z.2.2.2⟩, fun z => ⟨z.1, (by decide : 11 < ab_N 4), (by omega), z.2⟩⟩
theorem gp_4_11 {mi pc o : Nat} {L : ab_L} {S : List Value} {h : ab_H} {Q : Option Value → ab_H → Prop} {x : Int32} : GoP (some (4, 11)) mi pc L o (.int x) S h Q = (ab_ref h o 4 = true ∧ (x = 0 ∨ x = 1) ∧ Go (ab_at mi (pc + 3)) mi (pc + 3) L S (ab_seti h o 11 x) Q) := propext ⟨fun z => ⟨z.1, (by have := z.2.2.2.1; simpa [ab_fit, ab_ty, tyX4] using this), z.2.2.2.2.2.2.2⟩, fun z => ⟨z.1, (by decide : 11 < ab_N 4), (by omega), (by simpa [ab_fit, ab_ty, tyX4] using z.2.1), rfl, rfl, Or.inl rfl, z.2.2⟩⟩
theorem gg_5_0 {mi pc o : Nat} {L : ab_L} {S : List Value} {h : ab_H} {Q : Option Value → ab_H → Prop} : GoG (some (5, 0)) mi pc L o S h Q = (ab_ref h o 5 = true ∧ Go (ab_at mi (pc + 3)) mi (pc + 3) L (va_rf (ab_rf h o 0) :: S) h Q) := propext ⟨fun z => ⟨z.1, z.2.2.2⟩, fun z => ⟨z.1, (by decide : 0 < ab_N 5), (by omega), z.2⟩⟩
theorem gg_5_1 {mi pc o : Nat} {L : ab_L} {S : List Value} {h : ab_H} {Q : Option Value → ab_H → Prop} : GoG (some (5, 1)) mi pc L o S h Q = (ab_ref h o 5 = true ∧ Go (ab_at mi (pc + 3)) mi (pc + 3) L (.int (h.2.1 o 1) :: S) h Q) := propext ⟨fun z => ⟨z.1, z.2.2.2⟩, fun z => ⟨z.1, (by decide : 1 < ab_N 5), (by omega), z.2⟩⟩
theorem gp_5_1 {mi pc o : Nat} {L : ab_L} {S : List Value} {h : ab_H} {Q : Option Value → ab_H → Prop} {x : Int32} : GoP (some (5, 1)) mi pc L o (.int x) S h Q = (ab_ref h o 5 = true ∧ Go (ab_at mi (pc + 3)) mi (pc + 3) L S (ab_seti h o 1 x) Q) := propext ⟨fun z => ⟨z.1, z.2.2.2.2.2.2.2⟩, fun z => ⟨z.1, (by decide : 1 < ab_N 5), (by omega), rfl, rfl, rfl, Or.inl rfl, z.2⟩⟩
theorem gg_5_2 {mi pc o : Nat} {L : ab_L} {S : List Value} {h : ab_H} {Q : Option Value → ab_H → Prop} : GoG (some (5, 2)) mi pc L o S h Q = (ab_ref h o 5 = true ∧ Go (ab_at mi (pc + 3)) mi (pc + 3) L (va_rf (ab_rf h o 2) :: S) h Q) := propext ⟨fun z => ⟨z.1, z.2.2.2⟩, fun z => ⟨z.1, (by decide : 2 < ab_N 5), (by omega), z.2⟩⟩
theorem gg_5_3 {mi pc o : Nat} {L : ab_L} {S : List Value} {h : ab_H} {Q : Option Value → ab_H → Prop} : GoG (some (5, 3)) mi pc L o S h Q = (ab_ref h o 5 = true ∧ Go (ab_at mi (pc + 3)) mi (pc + 3) L (va_rf (ab_rf h o 3) :: S) h Q) := propext ⟨fun z => ⟨z.1, z.2.2.2⟩, fun z => ⟨z.1, (by decide : 3 < ab_N 5), (by omega), z.2⟩⟩
theorem gg_6_0 {mi pc o : Nat} {L : ab_L} {S : List Value} {h : ab_H} {Q : Option Value → ab_H → Prop} : GoG (some (6, 0)) mi pc L o S h Q = (ab_ref h o 6 = true ∧ Go (ab_at mi (pc + 3)) mi (pc + 3) L (va_rf (ab_rf h o 0) :: S) h Q) := propext ⟨fun z => ⟨z.1, z.2.2.2⟩, fun z => ⟨z.1, (by decide : 0 < ab_N 6), (by omega), z.2⟩⟩
theorem gg_6_1 {mi pc o : Nat} {L : ab_L} {S : List Value} {h : ab_H} {Q : Option Value → ab_H → Prop} : GoG (some (6, 1)) mi pc L o S h Q = (ab_ref h o 6 = true ∧ Go (ab_at mi (pc + 3)) mi (pc + 3) L (.int (h.2.1 o 1) :: S) h Q) := propext ⟨fun z => ⟨z.1, z.2.2.2⟩, fun z => ⟨z.1, (by decide : 1 < ab_N 6), (by omega), z.2⟩⟩
theorem gp_6_1 {mi pc o : Nat} {L : ab_L} {S : List Value} {h : ab_H} {Q : Option Value → ab_H → Prop} {x : Int32} : GoP (some (6, 1)) mi pc L o (.int x) S h Q = (ab_ref h o 6 = true ∧ Go (ab_at mi (pc + 3)) mi (pc + 3) L S (ab_seti h o 1 x) Q) := propext ⟨fun z => ⟨z.1, z.2.2.2.2.2.2.2⟩, fun z => ⟨z.1, (by decide : 1 < ab_N 6), (by omega), rfl, rfl, rfl, Or.inl rfl, z.2⟩⟩
theorem gg_7_0 {mi pc o : Nat} {L : ab_L} {S : List Value} {h : ab_H} {Q : Option Value → ab_H → Prop} : GoG (some (7, 0)) mi pc L o S h Q = (ab_ref h o 7 = true ∧ Go (ab_at mi (pc + 3)) mi (pc + 3) L (va_rf (ab_rf h o 0) :: S) h Q) := propext ⟨fun z => ⟨z.1, z.2.2.2⟩, fun z => ⟨z.1, (by decide : 0 < ab_N 7), (by omega), z.2⟩⟩
theorem gg_7_1 {mi pc o : Nat} {L : ab_L} {S : List Value} {h : ab_H} {Q : Option Value → ab_H → Prop} : GoG (some (7, 1)) mi pc L o S h Q = (ab_ref h o 7 = true ∧ Go (ab_at mi (pc + 3)) mi (pc + 3) L (va_rf (ab_rf h o 1) :: S) h Q) := propext ⟨fun z => ⟨z.1, z.2.2.2⟩, fun z => ⟨z.1, (by decide : 1 < ab_N 7), (by omega), z.2⟩⟩
theorem gg_7_2 {mi pc o : Nat} {L : ab_L} {S : List Value} {h : ab_H} {Q : Option Value → ab_H → Prop} : GoG (some (7, 2)) mi pc L o S h Q = (ab_ref h o 7 = true ∧ Go (ab_at mi (pc + 3)) mi (pc + 3) L (va_rf (ab_rf h o 2) :: S) h Q) := propext ⟨fun z => ⟨z.1, z.2.2.2⟩, fun z => ⟨z.1, (by decide : 2 < ab_N 7), (by omega), z.2⟩⟩
theorem gg_7_3 {mi pc o : Nat} {L : ab_L} {S : List Value} {h : ab_H} {Q : Option Value → ab_H → Prop} : GoG (some (7, 3)) mi pc L o S h Q = (ab_ref h o 7 = true ∧ Go (ab_at mi (pc + 3)) mi (pc + 3) L (va_rf (ab_rf h o 3) :: S) h Q) := propext ⟨fun z => ⟨z.1, z.2.2.2⟩, fun z => ⟨z.1, (by decide : 3 < ab_N 7), (by omega), z.2⟩⟩
theorem gg_7_4 {mi pc o : Nat} {L : ab_L} {S : List Value} {h : ab_H} {Q : Option Value → ab_H → Prop} : GoG (some (7, 4)) mi pc L o S h Q = (ab_ref h o 7 = true ∧ Go (ab_at mi (pc + 3)) mi (pc + 3) L (va_rf (ab_rf h o 4) :: S) h Q) := propext ⟨fun z => ⟨z.1, z.2.2.2⟩, fun z => ⟨z.1, (by decide : 4 < ab_N 7), (by omega), z.2⟩⟩
theorem gg_7_5 {mi pc o : Nat} {L : ab_L} {S : List Value} {h : ab_H} {Q : Option Value → ab_H → Prop} : GoG (some (7, 5)) mi pc L o S h Q = (ab_ref h o 7 = true ∧ Go (ab_at mi (pc + 3)) mi (pc + 3) L (va_rf (ab_rf h o 5) :: S) h Q) := propext ⟨fun z => ⟨z.1, z.2.2.2⟩, fun z => ⟨z.1, (by decide : 5 < ab_N 7), (by omega), z.2⟩⟩
theorem gg_7_6 {mi pc o : Nat} {L : ab_L} {S : List Value} {h : ab_H} {Q : Option Value → ab_H → Prop} : GoG (some (7, 6)) mi pc L o S h Q = (ab_ref h o 7 = true ∧ Go (ab_at mi (pc + 3)) mi (pc + 3) L (va_rf (ab_rf h o 6) :: S) h Q) := propext ⟨fun z => ⟨z.1, z.2.2.2⟩, fun z => ⟨z.1, (by decide : 6 < ab_N 7), (by omega), z.2⟩⟩
theorem gg_7_7 {mi pc o : Nat} {L : ab_L} {S : List Value} {h : ab_H} {Q : Option Value → ab_H → Prop} : GoG (some (7, 7)) mi pc L o S h Q = (ab_ref h o 7 = true ∧ Go (ab_at mi (pc + 3)) mi (pc + 3) L (va_rf (ab_rf h o 7) :: S) h Q) := propext ⟨fun z => ⟨z.1, z.2.2.2⟩, fun z => ⟨z.1, (by decide : 7 < ab_N 7), (by omega), z.2⟩⟩
theorem gg_7_8 {mi pc o : Nat} {L : ab_L} {S : List Value} {h : ab_H} {Q : Option Value → ab_H → Prop} : GoG (some (7, 8)) mi pc L o S h Q = (ab_ref h o 7 = true ∧ Go (ab_at mi (pc + 3)) mi (pc + 3) L (va_rf (ab_rf h o 8) :: S) h Q) := propext ⟨fun z => ⟨z.1, z.2.2.2⟩, fun z => ⟨z.1, (by decide : 8 < ab_N 7), (by omega), z.2⟩⟩
theorem gg_7_9 {mi pc o : Nat} {L : ab_L} {S : List Value} {h : ab_H} {Q : Option Value → ab_H → Prop} : GoG (some (7, 9)) mi pc L o S h Q = (ab_ref h o 7 = true ∧ Go (ab_at mi (pc + 3)) mi (pc + 3) L (va_rf (ab_rf h o 9) :: S) h Q) := propext ⟨fun z => ⟨z.1, z.2.2.2⟩, fun z => ⟨z.1, (by decide : 9 < ab_N 7), (by omega), z.2⟩⟩
