/-! LOOKUPS, by program -/
theorem own_0 : ab_own 0 = 0 := rfl
theorem rt_0 : ab_rt 0 = none := rfl
theorem np_0 : ab_np 0 = 0 := rfl
theorem mxl_0 : ab_mxl 0 = 1 := rfl
theorem own_1 : ab_own 1 = 0 := rfl
theorem rt_1 : ab_rt 1 = none := rfl
theorem np_1 : ab_np 1 = 2 := rfl
theorem mxl_1 : ab_mxl 1 = 4 := rfl
theorem own_2 : ab_own 2 = 0 := rfl
theorem rt_2 : ab_rt 2 = (some .int) := rfl
theorem np_2 : ab_np 2 = 2 := rfl
theorem mxl_2 : ab_mxl 2 = 4 := rfl
theorem own_3 : ab_own 3 = 0 := rfl
theorem rt_3 : ab_rt 3 = (some .boolean) := rfl
theorem np_3 : ab_np 3 = 3 := rfl
theorem mxl_3 : ab_mxl 3 = 4 := rfl
theorem own_4 : ab_own 4 = 0 := rfl
theorem rt_4 : ab_rt 4 = (some .boolean) := rfl
theorem np_4 : ab_np 4 = 1 := rfl
theorem mxl_4 : ab_mxl 4 = 5 := rfl
theorem own_5 : ab_own 5 = 0 := rfl
theorem rt_5 : ab_rt 5 = (some .boolean) := rfl
theorem np_5 : ab_np 5 = 3 := rfl
theorem mxl_5 : ab_mxl 5 = 6 := rfl
theorem own_6 : ab_own 6 = 0 := rfl
theorem rt_6 : ab_rt 6 = (some .boolean) := rfl
theorem np_6 : ab_np 6 = 5 := rfl
theorem mxl_6 : ab_mxl 6 = 6 := rfl
theorem own_7 : ab_own 7 = 0 := rfl
theorem rt_7 : ab_rt 7 = (some .int) := rfl
theorem np_7 : ab_np 7 = 1 := rfl
theorem mxl_7 : ab_mxl 7 = 4 := rfl
theorem own_8 : ab_own 8 = 0 := rfl
theorem rt_8 : ab_rt 8 = (some .int) := rfl
theorem np_8 : ab_np 8 = 1 := rfl
theorem mxl_8 : ab_mxl 8 = 4 := rfl
theorem own_9 : ab_own 9 = 0 := rfl
theorem rt_9 : ab_rt 9 = (some .int) := rfl
theorem np_9 : ab_np 9 = 2 := rfl
theorem mxl_9 : ab_mxl 9 = 5 := rfl
theorem own_10 : ab_own 10 = 0 := rfl
theorem rt_10 : ab_rt 10 = (some .int) := rfl
theorem np_10 : ab_np 10 = 2 := rfl
theorem mxl_10 : ab_mxl 10 = 5 := rfl
theorem own_11 : ab_own 11 = 1 := rfl
theorem rt_11 : ab_rt 11 = none := rfl
theorem np_11 : ab_np 11 = 0 := rfl
theorem mxl_11 : ab_mxl 11 = 1 := rfl
theorem own_12 : ab_own 12 = 1 := rfl
theorem rt_12 : ab_rt 12 = none := rfl
theorem np_12 : ab_np 12 = 1 := rfl
theorem mxl_12 : ab_mxl 12 = 3 := rfl
theorem own_13 : ab_own 13 = 1 := rfl
theorem rt_13 : ab_rt 13 = (some .int) := rfl
theorem np_13 : ab_np 13 = 1 := rfl
theorem mxl_13 : ab_mxl 13 = 2 := rfl
theorem own_14 : ab_own 14 = 1 := rfl
theorem rt_14 : ab_rt 14 = (some .long) := rfl
theorem np_14 : ab_np 14 = 1 := rfl
theorem mxl_14 : ab_mxl 14 = 2 := rfl
theorem own_15 : ab_own 15 = 1 := rfl
theorem rt_15 : ab_rt 15 = (some .boolean) := rfl
theorem np_15 : ab_np 15 = 1 := rfl
theorem mxl_15 : ab_mxl 15 = 2 := rfl
theorem own_16 : ab_own 16 = 1 := rfl
theorem rt_16 : ab_rt 16 = (some .long) := rfl
theorem np_16 : ab_np 16 = 2 := rfl
theorem mxl_16 : ab_mxl 16 = 3 := rfl
theorem own_17 : ab_own 17 = 1 := rfl
theorem rt_17 : ab_rt 17 = (some .long) := rfl
theorem np_17 : ab_np 17 = 2 := rfl
theorem mxl_17 : ab_mxl 17 = 5 := rfl
theorem own_18 : ab_own 18 = 1 := rfl
theorem rt_18 : ab_rt 18 = (some .long) := rfl
theorem np_18 : ab_np 18 = 2 := rfl
theorem mxl_18 : ab_mxl 18 = 9 := rfl
theorem own_19 : ab_own 19 = 1 := rfl
theorem rt_19 : ab_rt 19 = (some .long) := rfl
theorem np_19 : ab_np 19 = 2 := rfl
theorem mxl_19 : ab_mxl 19 = 6 := rfl
theorem own_20 : ab_own 20 = 1 := rfl
theorem rt_20 : ab_rt 20 = (some .long) := rfl
theorem np_20 : ab_np 20 = 2 := rfl
theorem mxl_20 : ab_mxl 20 = 4 := rfl
theorem own_21 : ab_own 21 = 1 := rfl
theorem rt_21 : ab_rt 21 = (some .boolean) := rfl
theorem np_21 : ab_np 21 = 3 := rfl
theorem mxl_21 : ab_mxl 21 = 6 := rfl
theorem own_22 : ab_own 22 = 1 := rfl
theorem rt_22 : ab_rt 22 = (some .boolean) := rfl
theorem np_22 : ab_np 22 = 5 := rfl
theorem mxl_22 : ab_mxl 22 = 6 := rfl
theorem own_23 : ab_own 23 = 2 := rfl
theorem rt_23 : ab_rt 23 = none := rfl
theorem np_23 : ab_np 23 = 0 := rfl
theorem mxl_23 : ab_mxl 23 = 1 := rfl
theorem own_24 : ab_own 24 = 2 := rfl
theorem rt_24 : ab_rt 24 = none := rfl
theorem np_24 : ab_np 24 = 0 := rfl
theorem mxl_24 : ab_mxl 24 = 1 := rfl
theorem own_25 : ab_own 25 = 2 := rfl
theorem rt_25 : ab_rt 25 = none := rfl
theorem np_25 : ab_np 25 = 4 := rfl
theorem mxl_25 : ab_mxl 25 = 5 := rfl
theorem own_26 : ab_own 26 = 2 := rfl
theorem rt_26 : ab_rt 26 = (some .int) := rfl
theorem np_26 : ab_np 26 = 1 := rfl
theorem mxl_26 : ab_mxl 26 = 4 := rfl
theorem own_27 : ab_own 27 = 2 := rfl
theorem rt_27 : ab_rt 27 = none := rfl
theorem np_27 : ab_np 27 = 2 := rfl
theorem mxl_27 : ab_mxl 27 = 3 := rfl
theorem own_28 : ab_own 28 = 2 := rfl
theorem rt_28 : ab_rt 28 = (some .long) := rfl
theorem np_28 : ab_np 28 = 1 := rfl
theorem mxl_28 : ab_mxl 28 = 5 := rfl
theorem own_29 : ab_own 29 = 2 := rfl
theorem rt_29 : ab_rt 29 = (some .int) := rfl
theorem np_29 : ab_np 29 = 2 := rfl
theorem mxl_29 : ab_mxl 29 = 5 := rfl
theorem own_30 : ab_own 30 = 2 := rfl
theorem rt_30 : ab_rt 30 = none := rfl
theorem np_30 : ab_np 30 = 3 := rfl
theorem mxl_30 : ab_mxl 30 = 6 := rfl
theorem own_31 : ab_own 31 = 2 := rfl
theorem rt_31 : ab_rt 31 = none := rfl
theorem np_31 : ab_np 31 = 4 := rfl
theorem mxl_31 : ab_mxl 31 = 7 := rfl
theorem own_32 : ab_own 32 = 2 := rfl
theorem rt_32 : ab_rt 32 = (some .long) := rfl
theorem np_32 : ab_np 32 = 2 := rfl
theorem mxl_32 : ab_mxl 32 = 5 := rfl
theorem own_33 : ab_own 33 = 2 := rfl
theorem rt_33 : ab_rt 33 = none := rfl
theorem np_33 : ab_np 33 = 0 := rfl
theorem mxl_33 : ab_mxl 33 = 1 := rfl
theorem own_34 : ab_own 34 = 3 := rfl
theorem rt_34 : ab_rt 34 = none := rfl
theorem np_34 : ab_np 34 = 0 := rfl
theorem mxl_34 : ab_mxl 34 = 1 := rfl
theorem own_35 : ab_own 35 = 3 := rfl
theorem rt_35 : ab_rt 35 = none := rfl
theorem np_35 : ab_np 35 = 0 := rfl
theorem mxl_35 : ab_mxl 35 = 1 := rfl
theorem own_36 : ab_own 36 = 3 := rfl
theorem rt_36 : ab_rt 36 = (some .boolean) := rfl
theorem np_36 : ab_np 36 = 0 := rfl
theorem mxl_36 : ab_mxl 36 = 1 := rfl
theorem own_37 : ab_own 37 = 3 := rfl
theorem rt_37 : ab_rt 37 = (some .boolean) := rfl
theorem np_37 : ab_np 37 = 1 := rfl
theorem mxl_37 : ab_mxl 37 = 2 := rfl
theorem own_38 : ab_own 38 = 3 := rfl
theorem rt_38 : ab_rt 38 = none := rfl
theorem np_38 : ab_np 38 = 1 := rfl
theorem mxl_38 : ab_mxl 38 = 2 := rfl
theorem own_39 : ab_own 39 = 3 := rfl
theorem rt_39 : ab_rt 39 = none := rfl
theorem np_39 : ab_np 39 = 1 := rfl
theorem mxl_39 : ab_mxl 39 = 3 := rfl
theorem own_40 : ab_own 40 = 3 := rfl
theorem rt_40 : ab_rt 40 = none := rfl
theorem np_40 : ab_np 40 = 1 := rfl
theorem mxl_40 : ab_mxl 40 = 2 := rfl
theorem own_41 : ab_own 41 = 3 := rfl
theorem rt_41 : ab_rt 41 = none := rfl
theorem np_41 : ab_np 41 = 1 := rfl
theorem mxl_41 : ab_mxl 41 = 2 := rfl
theorem own_42 : ab_own 42 = 3 := rfl
theorem rt_42 : ab_rt 42 = none := rfl
theorem np_42 : ab_np 42 = 1 := rfl
theorem mxl_42 : ab_mxl 42 = 2 := rfl
theorem own_43 : ab_own 43 = 3 := rfl
theorem rt_43 : ab_rt 43 = none := rfl
theorem np_43 : ab_np 43 = 1 := rfl
theorem mxl_43 : ab_mxl 43 = 2 := rfl
theorem own_44 : ab_own 44 = 3 := rfl
theorem rt_44 : ab_rt 44 = none := rfl
theorem np_44 : ab_np 44 = 1 := rfl
theorem mxl_44 : ab_mxl 44 = 3 := rfl
theorem own_45 : ab_own 45 = 3 := rfl
theorem rt_45 : ab_rt 45 = (some .boolean) := rfl
theorem np_45 : ab_np 45 = 1 := rfl
theorem mxl_45 : ab_mxl 45 = 2 := rfl
theorem own_46 : ab_own 46 = 3 := rfl
theorem rt_46 : ab_rt 46 = (some .boolean) := rfl
theorem np_46 : ab_np 46 = 1 := rfl
theorem mxl_46 : ab_mxl 46 = 2 := rfl
theorem own_47 : ab_own 47 = 3 := rfl
theorem rt_47 : ab_rt 47 = (some .boolean) := rfl
theorem np_47 : ab_np 47 = 2 := rfl
theorem mxl_47 : ab_mxl 47 = 3 := rfl
theorem own_48 : ab_own 48 = 3 := rfl
theorem rt_48 : ab_rt 48 = (some .boolean) := rfl
theorem np_48 : ab_np 48 = 1 := rfl
theorem mxl_48 : ab_mxl 48 = 2 := rfl
theorem own_49 : ab_own 49 = 3 := rfl
theorem rt_49 : ab_rt 49 = (some .int) := rfl
theorem np_49 : ab_np 49 = 1 := rfl
theorem mxl_49 : ab_mxl 49 = 2 := rfl
theorem own_50 : ab_own 50 = 3 := rfl
theorem rt_50 : ab_rt 50 = (some .int) := rfl
theorem np_50 : ab_np 50 = 1 := rfl
theorem mxl_50 : ab_mxl 50 = 5 := rfl
theorem own_51 : ab_own 51 = 3 := rfl
theorem rt_51 : ab_rt 51 = none := rfl
theorem np_51 : ab_np 51 = 0 := rfl
theorem mxl_51 : ab_mxl 51 = 4 := rfl
theorem own_52 : ab_own 52 = 3 := rfl
theorem rt_52 : ab_rt 52 = none := rfl
theorem np_52 : ab_np 52 = 0 := rfl
theorem mxl_52 : ab_mxl 52 = 3 := rfl
theorem own_53 : ab_own 53 = 3 := rfl
theorem rt_53 : ab_rt 53 = (some .int) := rfl
theorem np_53 : ab_np 53 = 1 := rfl
theorem mxl_53 : ab_mxl 53 = 6 := rfl
theorem own_54 : ab_own 54 = 3 := rfl
theorem rt_54 : ab_rt 54 = (some .int) := rfl
theorem np_54 : ab_np 54 = 2 := rfl
theorem mxl_54 : ab_mxl 54 = 4 := rfl
theorem own_55 : ab_own 55 = 3 := rfl
theorem rt_55 : ab_rt 55 = (some .boolean) := rfl
theorem np_55 : ab_np 55 = 2 := rfl
theorem mxl_55 : ab_mxl 55 = 3 := rfl
theorem own_56 : ab_own 56 = 3 := rfl
theorem rt_56 : ab_rt 56 = (some .boolean) := rfl
theorem np_56 : ab_np 56 = 2 := rfl
theorem mxl_56 : ab_mxl 56 = 3 := rfl
theorem own_57 : ab_own 57 = 3 := rfl
theorem rt_57 : ab_rt 57 = (some .boolean) := rfl
theorem np_57 : ab_np 57 = 3 := rfl
theorem mxl_57 : ab_mxl 57 = 5 := rfl
theorem own_58 : ab_own 58 = 3 := rfl
theorem rt_58 : ab_rt 58 = (some .boolean) := rfl
theorem np_58 : ab_np 58 = 0 := rfl
theorem mxl_58 : ab_mxl 58 = 3 := rfl
theorem own_59 : ab_own 59 = 3 := rfl
theorem rt_59 : ab_rt 59 = (some .boolean) := rfl
theorem np_59 : ab_np 59 = 1 := rfl
theorem mxl_59 : ab_mxl 59 = 4 := rfl
theorem own_60 : ab_own 60 = 3 := rfl
theorem rt_60 : ab_rt 60 = (some .boolean) := rfl
theorem np_60 : ab_np 60 = 1 := rfl
theorem mxl_60 : ab_mxl 60 = 3 := rfl
theorem own_61 : ab_own 61 = 3 := rfl
theorem rt_61 : ab_rt 61 = (some .int) := rfl
theorem np_61 : ab_np 61 = 1 := rfl
theorem mxl_61 : ab_mxl 61 = 4 := rfl
theorem own_62 : ab_own 62 = 3 := rfl
theorem rt_62 : ab_rt 62 = (some .int) := rfl
theorem np_62 : ab_np 62 = 0 := rfl
theorem mxl_62 : ab_mxl 62 = 3 := rfl
theorem own_63 : ab_own 63 = 3 := rfl
theorem rt_63 : ab_rt 63 = (some .int) := rfl
theorem np_63 : ab_np 63 = 1 := rfl
theorem mxl_63 : ab_mxl 63 = 5 := rfl
theorem own_64 : ab_own 64 = 3 := rfl
theorem rt_64 : ab_rt 64 = (some .int) := rfl
theorem np_64 : ab_np 64 = 0 := rfl
theorem mxl_64 : ab_mxl 64 = 3 := rfl
theorem own_65 : ab_own 65 = 3 := rfl
theorem rt_65 : ab_rt 65 = (some .int) := rfl
theorem np_65 : ab_np 65 = 1 := rfl
theorem mxl_65 : ab_mxl 65 = 6 := rfl
theorem own_66 : ab_own 66 = 3 := rfl
theorem rt_66 : ab_rt 66 = (some .int) := rfl
theorem np_66 : ab_np 66 = 0 := rfl
theorem mxl_66 : ab_mxl 66 = 3 := rfl
theorem own_67 : ab_own 67 = 3 := rfl
theorem rt_67 : ab_rt 67 = none := rfl
theorem np_67 : ab_np 67 = 0 := rfl
theorem mxl_67 : ab_mxl 67 = 3 := rfl
theorem own_68 : ab_own 68 = 3 := rfl
theorem rt_68 : ab_rt 68 = none := rfl
theorem np_68 : ab_np 68 = 1 := rfl
theorem mxl_68 : ab_mxl 68 = 3 := rfl
theorem own_69 : ab_own 69 = 4 := rfl
theorem rt_69 : ab_rt 69 = none := rfl
theorem np_69 : ab_np 69 = 0 := rfl
theorem mxl_69 : ab_mxl 69 = 1 := rfl
theorem own_70 : ab_own 70 = 4 := rfl
theorem rt_70 : ab_rt 70 = (some .boolean) := rfl
theorem np_70 : ab_np 70 = 0 := rfl
theorem mxl_70 : ab_mxl 70 = 3 := rfl
theorem own_71 : ab_own 71 = 4 := rfl
theorem rt_71 : ab_rt 71 = (some .boolean) := rfl
theorem np_71 : ab_np 71 = 1 := rfl
theorem mxl_71 : ab_mxl 71 = 2 := rfl
theorem own_72 : ab_own 72 = 4 := rfl
theorem rt_72 : ab_rt 72 = (some .boolean) := rfl
theorem np_72 : ab_np 72 = 0 := rfl
theorem mxl_72 : ab_mxl 72 = 1 := rfl
theorem own_73 : ab_own 73 = 4 := rfl
theorem rt_73 : ab_rt 73 = (some .boolean) := rfl
theorem np_73 : ab_np 73 = 0 := rfl
theorem mxl_73 : ab_mxl 73 = 1 := rfl
theorem own_74 : ab_own 74 = 4 := rfl
theorem rt_74 : ab_rt 74 = (some .boolean) := rfl
theorem np_74 : ab_np 74 = 0 := rfl
theorem mxl_74 : ab_mxl 74 = 3 := rfl
theorem own_75 : ab_own 75 = 4 := rfl
theorem rt_75 : ab_rt 75 = (some .boolean) := rfl
theorem np_75 : ab_np 75 = 1 := rfl
theorem mxl_75 : ab_mxl 75 = 2 := rfl
theorem own_76 : ab_own 76 = 4 := rfl
theorem rt_76 : ab_rt 76 = (some .boolean) := rfl
theorem np_76 : ab_np 76 = 1 := rfl
theorem mxl_76 : ab_mxl 76 = 5 := rfl
theorem own_77 : ab_own 77 = 4 := rfl
theorem rt_77 : ab_rt 77 = (some .boolean) := rfl
theorem np_77 : ab_np 77 = 0 := rfl
theorem mxl_77 : ab_mxl 77 = 2 := rfl
theorem own_78 : ab_own 78 = 4 := rfl
theorem rt_78 : ab_rt 78 = (some .boolean) := rfl
theorem np_78 : ab_np 78 = 0 := rfl
theorem mxl_78 : ab_mxl 78 = 1 := rfl
theorem own_79 : ab_own 79 = 4 := rfl
theorem rt_79 : ab_rt 79 = (some .boolean) := rfl
theorem np_79 : ab_np 79 = 2 := rfl
theorem mxl_79 : ab_mxl 79 = 3 := rfl
theorem own_80 : ab_own 80 = 4 := rfl
theorem rt_80 : ab_rt 80 = none := rfl
theorem np_80 : ab_np 80 = 0 := rfl
theorem mxl_80 : ab_mxl 80 = 3 := rfl
theorem own_81 : ab_own 81 = 4 := rfl
theorem rt_81 : ab_rt 81 = (some .int) := rfl
theorem np_81 : ab_np 81 = 1 := rfl
theorem mxl_81 : ab_mxl 81 = 2 := rfl
theorem own_82 : ab_own 82 = 4 := rfl
theorem rt_82 : ab_rt 82 = none := rfl
theorem np_82 : ab_np 82 = 2 := rfl
theorem mxl_82 : ab_mxl 82 = 4 := rfl
theorem own_83 : ab_own 83 = 4 := rfl
theorem rt_83 : ab_rt 83 = (some .int) := rfl
theorem np_83 : ab_np 83 = 1 := rfl
theorem mxl_83 : ab_mxl 83 = 4 := rfl
theorem own_84 : ab_own 84 = 4 := rfl
theorem rt_84 : ab_rt 84 = (some .int) := rfl
theorem np_84 : ab_np 84 = 1 := rfl
theorem mxl_84 : ab_mxl 84 = 2 := rfl
theorem own_85 : ab_own 85 = 4 := rfl
theorem rt_85 : ab_rt 85 = (some .boolean) := rfl
theorem np_85 : ab_np 85 = 2 := rfl
theorem mxl_85 : ab_mxl 85 = 4 := rfl
theorem own_86 : ab_own 86 = 5 := rfl
theorem rt_86 : ab_rt 86 = none := rfl
theorem np_86 : ab_np 86 = 0 := rfl
theorem mxl_86 : ab_mxl 86 = 2 := rfl
theorem own_87 : ab_own 87 = 5 := rfl
theorem rt_87 : ab_rt 87 = none := rfl
theorem np_87 : ab_np 87 = 3 := rfl
theorem mxl_87 : ab_mxl 87 = 5 := rfl
theorem own_88 : ab_own 88 = 5 := rfl
theorem rt_88 : ab_rt 88 = (some .int) := rfl
theorem np_88 : ab_np 88 = 2 := rfl
theorem mxl_88 : ab_mxl 88 = 3 := rfl
theorem own_89 : ab_own 89 = 5 := rfl
theorem rt_89 : ab_rt 89 = (some .int) := rfl
theorem np_89 : ab_np 89 = 3 := rfl
theorem mxl_89 : ab_mxl 89 = 5 := rfl
theorem own_90 : ab_own 90 = 5 := rfl
theorem rt_90 : ab_rt 90 = none := rfl
theorem np_90 : ab_np 90 = 3 := rfl
theorem mxl_90 : ab_mxl 90 = 4 := rfl
theorem own_91 : ab_own 91 = 5 := rfl
theorem rt_91 : ab_rt 91 = (some .int) := rfl
theorem np_91 : ab_np 91 = 2 := rfl
theorem mxl_91 : ab_mxl 91 = 3 := rfl
theorem own_92 : ab_own 92 = 6 := rfl
theorem rt_92 : ab_rt 92 = none := rfl
theorem np_92 : ab_np 92 = 0 := rfl
theorem mxl_92 : ab_mxl 92 = 1 := rfl
theorem own_93 : ab_own 93 = 6 := rfl
theorem rt_93 : ab_rt 93 = (some .boolean) := rfl
theorem np_93 : ab_np 93 = 1 := rfl
theorem mxl_93 : ab_mxl 93 = 2 := rfl
theorem own_94 : ab_own 94 = 6 := rfl
theorem rt_94 : ab_rt 94 = (some .boolean) := rfl
theorem np_94 : ab_np 94 = 3 := rfl
theorem mxl_94 : ab_mxl 94 = 4 := rfl
theorem own_95 : ab_own 95 = 7 := rfl
theorem rt_95 : ab_rt 95 = none := rfl
theorem np_95 : ab_np 95 = 0 := rfl
theorem mxl_95 : ab_mxl 95 = 2 := rfl
theorem own_96 : ab_own 96 = 7 := rfl
theorem rt_96 : ab_rt 96 = (some .int) := rfl
theorem np_96 : ab_np 96 = 1 := rfl
theorem mxl_96 : ab_mxl 96 = 2 := rfl
theorem own_97 : ab_own 97 = 7 := rfl
theorem rt_97 : ab_rt 97 = (some .int) := rfl
theorem np_97 : ab_np 97 = 1 := rfl
theorem mxl_97 : ab_mxl 97 = 3 := rfl
theorem own_98 : ab_own 98 = 7 := rfl
theorem rt_98 : ab_rt 98 = (some .int) := rfl
theorem np_98 : ab_np 98 = 0 := rfl
theorem mxl_98 : ab_mxl 98 = 3 := rfl
theorem own_99 : ab_own 99 = 7 := rfl
theorem rt_99 : ab_rt 99 = (some .int) := rfl
theorem np_99 : ab_np 99 = 0 := rfl
theorem mxl_99 : ab_mxl 99 = 1 := rfl
theorem own_100 : ab_own 100 = 7 := rfl
theorem rt_100 : ab_rt 100 = (some .int) := rfl
theorem np_100 : ab_np 100 = 1 := rfl
theorem mxl_100 : ab_mxl 100 = 2 := rfl
theorem own_101 : ab_own 101 = 7 := rfl
theorem rt_101 : ab_rt 101 = (some .int) := rfl
theorem np_101 : ab_np 101 = 2 := rfl
theorem mxl_101 : ab_mxl 101 = 3 := rfl
theorem own_102 : ab_own 102 = 7 := rfl
theorem rt_102 : ab_rt 102 = (some .int) := rfl
theorem np_102 : ab_np 102 = 2 := rfl
theorem mxl_102 : ab_mxl 102 = 3 := rfl
theorem own_103 : ab_own 103 = 7 := rfl
theorem rt_103 : ab_rt 103 = (some .int) := rfl
theorem np_103 : ab_np 103 = 2 := rfl
theorem mxl_103 : ab_mxl 103 = 3 := rfl
theorem own_104 : ab_own 104 = 7 := rfl
theorem rt_104 : ab_rt 104 = (some .int) := rfl
theorem np_104 : ab_np 104 = 2 := rfl
theorem mxl_104 : ab_mxl 104 = 3 := rfl
theorem own_105 : ab_own 105 = 7 := rfl
theorem rt_105 : ab_rt 105 = (some .int) := rfl
theorem np_105 : ab_np 105 = 2 := rfl
theorem mxl_105 : ab_mxl 105 = 3 := rfl
theorem own_106 : ab_own 106 = 7 := rfl
theorem rt_106 : ab_rt 106 = (some .long) := rfl
theorem np_106 : ab_np 106 = 4 := rfl
theorem mxl_106 : ab_mxl 106 = 5 := rfl
theorem own_107 : ab_own 107 = 7 := rfl
theorem rt_107 : ab_rt 107 = (some .long) := rfl
theorem np_107 : ab_np 107 = 1 := rfl
theorem mxl_107 : ab_mxl 107 = 2 := rfl
theorem own_108 : ab_own 108 = 7 := rfl
theorem rt_108 : ab_rt 108 = (some .int) := rfl
theorem np_108 : ab_np 108 = 1 := rfl
theorem mxl_108 : ab_mxl 108 = 2 := rfl
theorem own_109 : ab_own 109 = 7 := rfl
theorem rt_109 : ab_rt 109 = (some .int) := rfl
theorem np_109 : ab_np 109 = 1 := rfl
theorem mxl_109 : ab_mxl 109 = 2 := rfl
theorem own_110 : ab_own 110 = 7 := rfl
theorem rt_110 : ab_rt 110 = (some .int) := rfl
theorem np_110 : ab_np 110 = 1 := rfl
theorem mxl_110 : ab_mxl 110 = 2 := rfl
theorem own_111 : ab_own 111 = 7 := rfl
theorem rt_111 : ab_rt 111 = (some .int) := rfl
theorem np_111 : ab_np 111 = 2 := rfl
theorem mxl_111 : ab_mxl 111 = 3 := rfl
theorem own_112 : ab_own 112 = 7 := rfl
theorem rt_112 : ab_rt 112 = (some .int) := rfl
theorem np_112 : ab_np 112 = 1 := rfl
theorem mxl_112 : ab_mxl 112 = 2 := rfl
theorem own_113 : ab_own 113 = 7 := rfl
theorem rt_113 : ab_rt 113 = (some .int) := rfl
theorem np_113 : ab_np 113 = 1 := rfl
theorem mxl_113 : ab_mxl 113 = 2 := rfl
theorem own_114 : ab_own 114 = 7 := rfl
theorem rt_114 : ab_rt 114 = (some .long) := rfl
theorem np_114 : ab_np 114 = 1 := rfl
theorem mxl_114 : ab_mxl 114 = 2 := rfl
theorem own_115 : ab_own 115 = 7 := rfl
theorem rt_115 : ab_rt 115 = (some .int) := rfl
theorem np_115 : ab_np 115 = 0 := rfl
theorem mxl_115 : ab_mxl 115 = 2 := rfl
theorem own_116 : ab_own 116 = 7 := rfl
theorem rt_116 : ab_rt 116 = (some .int) := rfl
theorem np_116 : ab_np 116 = 0 := rfl
theorem mxl_116 : ab_mxl 116 = 1 := rfl
theorem own_117 : ab_own 117 = 7 := rfl
theorem rt_117 : ab_rt 117 = (some .int) := rfl
theorem np_117 : ab_np 117 = 3 := rfl
theorem mxl_117 : ab_mxl 117 = 5 := rfl
theorem own_118 : ab_own 118 = 7 := rfl
theorem rt_118 : ab_rt 118 = (some .int) := rfl
theorem np_118 : ab_np 118 = 2 := rfl
theorem mxl_118 : ab_mxl 118 = 4 := rfl
theorem own_119 : ab_own 119 = 7 := rfl
theorem rt_119 : ab_rt 119 = (some .int) := rfl
theorem np_119 : ab_np 119 = 5 := rfl
theorem mxl_119 : ab_mxl 119 = 9 := rfl
theorem own_120 : ab_own 120 = 7 := rfl
theorem rt_120 : ab_rt 120 = (some .int) := rfl
theorem np_120 : ab_np 120 = 1 := rfl
theorem mxl_120 : ab_mxl 120 = 3 := rfl
theorem own_121 : ab_own 121 = 7 := rfl
theorem rt_121 : ab_rt 121 = (some .int) := rfl
theorem np_121 : ab_np 121 = 1 := rfl
theorem mxl_121 : ab_mxl 121 = 2 := rfl
theorem own_122 : ab_own 122 = 7 := rfl
theorem rt_122 : ab_rt 122 = (some .int) := rfl
theorem np_122 : ab_np 122 = 3 := rfl
theorem mxl_122 : ab_mxl 122 = 4 := rfl
theorem own_123 : ab_own 123 = 7 := rfl
theorem rt_123 : ab_rt 123 = (some .int) := rfl
theorem np_123 : ab_np 123 = 3 := rfl
theorem mxl_123 : ab_mxl 123 = 5 := rfl
theorem own_124 : ab_own 124 = 7 := rfl
theorem rt_124 : ab_rt 124 = (some .int) := rfl
theorem np_124 : ab_np 124 = 4 := rfl
theorem mxl_124 : ab_mxl 124 = 6 := rfl
theorem own_125 : ab_own 125 = 7 := rfl
theorem rt_125 : ab_rt 125 = (some .int) := rfl
theorem np_125 : ab_np 125 = 0 := rfl
theorem mxl_125 : ab_mxl 125 = 1 := rfl
theorem own_126 : ab_own 126 = 7 := rfl
theorem rt_126 : ab_rt 126 = (some .int) := rfl
theorem np_126 : ab_np 126 = 1 := rfl
theorem mxl_126 : ab_mxl 126 = 2 := rfl
theorem own_127 : ab_own 127 = 7 := rfl
theorem rt_127 : ab_rt 127 = (some .int) := rfl
theorem np_127 : ab_np 127 = 0 := rfl
theorem mxl_127 : ab_mxl 127 = 3 := rfl
theorem own_128 : ab_own 128 = 7 := rfl
theorem rt_128 : ab_rt 128 = none := rfl
theorem np_128 : ab_np 128 = 2 := rfl
theorem mxl_128 : ab_mxl 128 = 4 := rfl
theorem own_129 : ab_own 129 = 7 := rfl
theorem rt_129 : ab_rt 129 = (some .int) := rfl
theorem np_129 : ab_np 129 = 1 := rfl
theorem mxl_129 : ab_mxl 129 = 1 := rfl
theorem own_130 : ab_own 130 = 7 := rfl
theorem rt_130 : ab_rt 130 = (some .boolean) := rfl
theorem np_130 : ab_np 130 = 2 := rfl
theorem mxl_130 : ab_mxl 130 = 2 := rfl
theorem own_131 : ab_own 131 = 7 := rfl
theorem rt_131 : ab_rt 131 = (some .long) := rfl
theorem np_131 : ab_np 131 = 3 := rfl
theorem mxl_131 : ab_mxl 131 = 6 := rfl
theorem own_132 : ab_own 132 = 8 := rfl
theorem rt_132 : ab_rt 132 = none := rfl
theorem np_132 : ab_np 132 = 0 := rfl
theorem mxl_132 : ab_mxl 132 = 1 := rfl
theorem own_133 : ab_own 133 = 8 := rfl
theorem rt_133 : ab_rt 133 = (some .boolean) := rfl
theorem np_133 : ab_np 133 = 3 := rfl
theorem mxl_133 : ab_mxl 133 = 6 := rfl
theorem own_134 : ab_own 134 = 8 := rfl
theorem rt_134 : ab_rt 134 = (some .int) := rfl
theorem np_134 : ab_np 134 = 1 := rfl
theorem mxl_134 : ab_mxl 134 = 2 := rfl
theorem own_135 : ab_own 135 = 8 := rfl
theorem rt_135 : ab_rt 135 = (some .int) := rfl
theorem np_135 : ab_np 135 = 1 := rfl
theorem mxl_135 : ab_mxl 135 = 3 := rfl
theorem own_136 : ab_own 136 = 8 := rfl
theorem rt_136 : ab_rt 136 = (some .int) := rfl
theorem np_136 : ab_np 136 = 1 := rfl
theorem mxl_136 : ab_mxl 136 = 2 := rfl
theorem own_137 : ab_own 137 = 8 := rfl
theorem rt_137 : ab_rt 137 = none := rfl
theorem np_137 : ab_np 137 = 1 := rfl
theorem mxl_137 : ab_mxl 137 = 2 := rfl
theorem own_138 : ab_own 138 = 8 := rfl
theorem rt_138 : ab_rt 138 = (some .int) := rfl
theorem np_138 : ab_np 138 = 0 := rfl
theorem mxl_138 : ab_mxl 138 = 4 := rfl
theorem own_139 : ab_own 139 = 8 := rfl
theorem rt_139 : ab_rt 139 = none := rfl
theorem np_139 : ab_np 139 = 0 := rfl
theorem mxl_139 : ab_mxl 139 = 2 := rfl
theorem own_140 : ab_own 140 = 8 := rfl
theorem rt_140 : ab_rt 140 = (some .int) := rfl
theorem np_140 : ab_np 140 = 2 := rfl
theorem mxl_140 : ab_mxl 140 = 4 := rfl
theorem own_141 : ab_own 141 = 8 := rfl
theorem rt_141 : ab_rt 141 = none := rfl
theorem np_141 : ab_np 141 = 0 := rfl
theorem mxl_141 : ab_mxl 141 = 1 := rfl
theorem own_142 : ab_own 142 = 8 := rfl
theorem rt_142 : ab_rt 142 = (some .int) := rfl
theorem np_142 : ab_np 142 = 1 := rfl
theorem mxl_142 : ab_mxl 142 = 1 := rfl
theorem own_143 : ab_own 143 = 8 := rfl
theorem rt_143 : ab_rt 143 = none := rfl
theorem np_143 : ab_np 143 = 2 := rfl
theorem mxl_143 : ab_mxl 143 = 6 := rfl
theorem own_144 : ab_own 144 = 8 := rfl
theorem rt_144 : ab_rt 144 = none := rfl
theorem np_144 : ab_np 144 = 2 := rfl
theorem mxl_144 : ab_mxl 144 = 3 := rfl
theorem own_145 : ab_own 145 = 8 := rfl
theorem rt_145 : ab_rt 145 = none := rfl
theorem np_145 : ab_np 145 = 0 := rfl
theorem mxl_145 : ab_mxl 145 = 4 := rfl
theorem own_146 : ab_own 146 = 8 := rfl
theorem rt_146 : ab_rt 146 = (some .int) := rfl
theorem np_146 : ab_np 146 = 0 := rfl
theorem mxl_146 : ab_mxl 146 = 1 := rfl
theorem own_147 : ab_own 147 = 8 := rfl
theorem rt_147 : ab_rt 147 = (some .int) := rfl
theorem np_147 : ab_np 147 = 0 := rfl
theorem mxl_147 : ab_mxl 147 = 1 := rfl
theorem own_148 : ab_own 148 = 8 := rfl
theorem rt_148 : ab_rt 148 = none := rfl
theorem np_148 : ab_np 148 = 2 := rfl
theorem mxl_148 : ab_mxl 148 = 4 := rfl
theorem own_149 : ab_own 149 = 8 := rfl
theorem rt_149 : ab_rt 149 = (some .int) := rfl
theorem np_149 : ab_np 149 = 2 := rfl
theorem mxl_149 : ab_mxl 149 = 6 := rfl
theorem own_150 : ab_own 150 = 8 := rfl
theorem rt_150 : ab_rt 150 = none := rfl
theorem np_150 : ab_np 150 = 1 := rfl
theorem mxl_150 : ab_mxl 150 = 5 := rfl
theorem own_151 : ab_own 151 = 8 := rfl
theorem rt_151 : ab_rt 151 = (some .boolean) := rfl
theorem np_151 : ab_np 151 = 2 := rfl
theorem mxl_151 : ab_mxl 151 = 3 := rfl
theorem own_152 : ab_own 152 = 8 := rfl
theorem rt_152 : ab_rt 152 = (some .boolean) := rfl
theorem np_152 : ab_np 152 = 3 := rfl
theorem mxl_152 : ab_mxl 152 = 6 := rfl
theorem own_153 : ab_own 153 = 8 := rfl
theorem rt_153 : ab_rt 153 = (some .boolean) := rfl
theorem np_153 : ab_np 153 = 3 := rfl
theorem mxl_153 : ab_mxl 153 = 4 := rfl
theorem own_154 : ab_own 154 = 8 := rfl
theorem rt_154 : ab_rt 154 = (some .boolean) := rfl
theorem np_154 : ab_np 154 = 4 := rfl
theorem mxl_154 : ab_mxl 154 = 5 := rfl
theorem own_155 : ab_own 155 = 8 := rfl
theorem rt_155 : ab_rt 155 = (some .boolean) := rfl
theorem np_155 : ab_np 155 = 1 := rfl
theorem mxl_155 : ab_mxl 155 = 4 := rfl
theorem own_156 : ab_own 156 = 8 := rfl
theorem rt_156 : ab_rt 156 = (some .boolean) := rfl
theorem np_156 : ab_np 156 = 1 := rfl
theorem mxl_156 : ab_mxl 156 = 5 := rfl
theorem own_157 : ab_own 157 = 8 := rfl
theorem rt_157 : ab_rt 157 = (some .boolean) := rfl
theorem np_157 : ab_np 157 = 0 := rfl
theorem mxl_157 : ab_mxl 157 = 4 := rfl
theorem own_158 : ab_own 158 = 8 := rfl
theorem rt_158 : ab_rt 158 = (some .boolean) := rfl
theorem np_158 : ab_np 158 = 1 := rfl
theorem mxl_158 : ab_mxl 158 = 2 := rfl
theorem own_159 : ab_own 159 = 8 := rfl
theorem rt_159 : ab_rt 159 = (some .boolean) := rfl
theorem np_159 : ab_np 159 = 1 := rfl
theorem mxl_159 : ab_mxl 159 = 2 := rfl
theorem own_160 : ab_own 160 = 8 := rfl
theorem rt_160 : ab_rt 160 = (some .int) := rfl
theorem np_160 : ab_np 160 = 1 := rfl
theorem mxl_160 : ab_mxl 160 = 4 := rfl
theorem own_161 : ab_own 161 = 8 := rfl
theorem rt_161 : ab_rt 161 = (some .int) := rfl
theorem np_161 : ab_np 161 = 2 := rfl
theorem mxl_161 : ab_mxl 161 = 6 := rfl
theorem own_162 : ab_own 162 = 8 := rfl
theorem rt_162 : ab_rt 162 = (some .int) := rfl
theorem np_162 : ab_np 162 = 1 := rfl
theorem mxl_162 : ab_mxl 162 = 2 := rfl
theorem own_163 : ab_own 163 = 8 := rfl
theorem rt_163 : ab_rt 163 = (some .int) := rfl
theorem np_163 : ab_np 163 = 1 := rfl
theorem mxl_163 : ab_mxl 163 = 3 := rfl
theorem own_164 : ab_own 164 = 8 := rfl
theorem rt_164 : ab_rt 164 = (some .int) := rfl
theorem np_164 : ab_np 164 = 2 := rfl
theorem mxl_164 : ab_mxl 164 = 3 := rfl
theorem own_165 : ab_own 165 = 8 := rfl
theorem rt_165 : ab_rt 165 = (some .int) := rfl
theorem np_165 : ab_np 165 = 2 := rfl
theorem mxl_165 : ab_mxl 165 = 3 := rfl
theorem own_166 : ab_own 166 = 8 := rfl
theorem rt_166 : ab_rt 166 = (some .int) := rfl
theorem np_166 : ab_np 166 = 2 := rfl
theorem mxl_166 : ab_mxl 166 = 4 := rfl
theorem own_167 : ab_own 167 = 8 := rfl
theorem rt_167 : ab_rt 167 = (some .boolean) := rfl
theorem np_167 : ab_np 167 = 2 := rfl
theorem mxl_167 : ab_mxl 167 = 3 := rfl
theorem own_168 : ab_own 168 = 8 := rfl
theorem rt_168 : ab_rt 168 = (some .int) := rfl
theorem np_168 : ab_np 168 = 2 := rfl
theorem mxl_168 : ab_mxl 168 = 3 := rfl
theorem own_169 : ab_own 169 = 8 := rfl
theorem rt_169 : ab_rt 169 = (some .int) := rfl
theorem np_169 : ab_np 169 = 2 := rfl
theorem mxl_169 : ab_mxl 169 = 3 := rfl
theorem own_170 : ab_own 170 = 8 := rfl
theorem rt_170 : ab_rt 170 = (some .long) := rfl
theorem np_170 : ab_np 170 = 3 := rfl
theorem mxl_170 : ab_mxl 170 = 5 := rfl
theorem own_171 : ab_own 171 = 8 := rfl
theorem rt_171 : ab_rt 171 = (some .long) := rfl
theorem np_171 : ab_np 171 = 2 := rfl
theorem mxl_171 : ab_mxl 171 = 9 := rfl
theorem own_172 : ab_own 172 = 8 := rfl
theorem rt_172 : ab_rt 172 = none := rfl
theorem np_172 : ab_np 172 = 3 := rfl
theorem mxl_172 : ab_mxl 172 = 4 := rfl
theorem own_173 : ab_own 173 = 8 := rfl
theorem rt_173 : ab_rt 173 = none := rfl
theorem np_173 : ab_np 173 = 5 := rfl
theorem mxl_173 : ab_mxl 173 = 11 := rfl
theorem own_174 : ab_own 174 = 8 := rfl
theorem rt_174 : ab_rt 174 = (some .long) := rfl
theorem np_174 : ab_np 174 = 3 := rfl
theorem mxl_174 : ab_mxl 174 = 9 := rfl
theorem own_175 : ab_own 175 = 8 := rfl
theorem rt_175 : ab_rt 175 = (some .long) := rfl
theorem np_175 : ab_np 175 = 0 := rfl
theorem mxl_175 : ab_mxl 175 = 3 := rfl
theorem own_176 : ab_own 176 = 8 := rfl
theorem rt_176 : ab_rt 176 = (some .long) := rfl
theorem np_176 : ab_np 176 = 4 := rfl
theorem mxl_176 : ab_mxl 176 = 5 := rfl
theorem own_177 : ab_own 177 = 8 := rfl
theorem rt_177 : ab_rt 177 = (some .long) := rfl
theorem np_177 : ab_np 177 = 1 := rfl
theorem mxl_177 : ab_mxl 177 = 2 := rfl
theorem own_178 : ab_own 178 = 8 := rfl
theorem rt_178 : ab_rt 178 = (some .int) := rfl
theorem np_178 : ab_np 178 = 1 := rfl
theorem mxl_178 : ab_mxl 178 = 2 := rfl
theorem own_179 : ab_own 179 = 8 := rfl
theorem rt_179 : ab_rt 179 = (some .boolean) := rfl
theorem np_179 : ab_np 179 = 2 := rfl
theorem mxl_179 : ab_mxl 179 = 4 := rfl
theorem own_180 : ab_own 180 = 8 := rfl
theorem rt_180 : ab_rt 180 = (some .boolean) := rfl
theorem np_180 : ab_np 180 = 2 := rfl
theorem mxl_180 : ab_mxl 180 = 7 := rfl
theorem own_181 : ab_own 181 = 8 := rfl
theorem rt_181 : ab_rt 181 = (some .boolean) := rfl
theorem np_181 : ab_np 181 = 0 := rfl
theorem mxl_181 : ab_mxl 181 = 4 := rfl
theorem own_182 : ab_own 182 = 8 := rfl
theorem rt_182 : ab_rt 182 = (some .int) := rfl
theorem np_182 : ab_np 182 = 1 := rfl
theorem mxl_182 : ab_mxl 182 = 4 := rfl
theorem own_183 : ab_own 183 = 8 := rfl
theorem rt_183 : ab_rt 183 = (some .int) := rfl
theorem np_183 : ab_np 183 = 1 := rfl
theorem mxl_183 : ab_mxl 183 = 8 := rfl
theorem own_184 : ab_own 184 = 8 := rfl
theorem rt_184 : ab_rt 184 = (some .int) := rfl
theorem np_184 : ab_np 184 = 1 := rfl
theorem mxl_184 : ab_mxl 184 = 2 := rfl
theorem own_185 : ab_own 185 = 8 := rfl
theorem rt_185 : ab_rt 185 = (some .int) := rfl
theorem np_185 : ab_np 185 = 2 := rfl
theorem mxl_185 : ab_mxl 185 = 3 := rfl
theorem own_186 : ab_own 186 = 8 := rfl
theorem rt_186 : ab_rt 186 = (some .boolean) := rfl
theorem np_186 : ab_np 186 = 2 := rfl
theorem mxl_186 : ab_mxl 186 = 3 := rfl
theorem own_187 : ab_own 187 = 8 := rfl
theorem rt_187 : ab_rt 187 = (some .int) := rfl
theorem np_187 : ab_np 187 = 1 := rfl
theorem mxl_187 : ab_mxl 187 = 5 := rfl
theorem own_188 : ab_own 188 = 8 := rfl
theorem rt_188 : ab_rt 188 = (some .int) := rfl
theorem np_188 : ab_np 188 = 1 := rfl
theorem mxl_188 : ab_mxl 188 = 2 := rfl
theorem own_189 : ab_own 189 = 8 := rfl
theorem rt_189 : ab_rt 189 = (some .boolean) := rfl
theorem np_189 : ab_np 189 = 2 := rfl
theorem mxl_189 : ab_mxl 189 = 3 := rfl
theorem own_190 : ab_own 190 = 8 := rfl
theorem rt_190 : ab_rt 190 = (some .boolean) := rfl
theorem np_190 : ab_np 190 = 2 := rfl
theorem mxl_190 : ab_mxl 190 = 4 := rfl
theorem own_191 : ab_own 191 = 8 := rfl
theorem rt_191 : ab_rt 191 = none := rfl
theorem np_191 : ab_np 191 = 3 := rfl
theorem mxl_191 : ab_mxl 191 = 5 := rfl
theorem own_192 : ab_own 192 = 8 := rfl
theorem rt_192 : ab_rt 192 = none := rfl
theorem np_192 : ab_np 192 = 2 := rfl
theorem mxl_192 : ab_mxl 192 = 3 := rfl
theorem own_193 : ab_own 193 = 8 := rfl
theorem rt_193 : ab_rt 193 = (some .int) := rfl
theorem np_193 : ab_np 193 = 2 := rfl
theorem mxl_193 : ab_mxl 193 = 3 := rfl
theorem own_194 : ab_own 194 = 8 := rfl
theorem rt_194 : ab_rt 194 = (some .boolean) := rfl
theorem np_194 : ab_np 194 = 1 := rfl
theorem mxl_194 : ab_mxl 194 = 4 := rfl
theorem own_195 : ab_own 195 = 8 := rfl
theorem rt_195 : ab_rt 195 = (some .boolean) := rfl
theorem np_195 : ab_np 195 = 1 := rfl
theorem mxl_195 : ab_mxl 195 = 4 := rfl
theorem own_196 : ab_own 196 = 8 := rfl
theorem rt_196 : ab_rt 196 = (some .boolean) := rfl
theorem np_196 : ab_np 196 = 2 := rfl
theorem mxl_196 : ab_mxl 196 = 6 := rfl
theorem own_197 : ab_own 197 = 8 := rfl
theorem rt_197 : ab_rt 197 = none := rfl
theorem np_197 : ab_np 197 = 1 := rfl
theorem mxl_197 : ab_mxl 197 = 3 := rfl
theorem own_198 : ab_own 198 = 8 := rfl
theorem rt_198 : ab_rt 198 = none := rfl
theorem np_198 : ab_np 198 = 1 := rfl
theorem mxl_198 : ab_mxl 198 = 4 := rfl
theorem own_199 : ab_own 199 = 8 := rfl
theorem rt_199 : ab_rt 199 = none := rfl
theorem np_199 : ab_np 199 = 1 := rfl
theorem mxl_199 : ab_mxl 199 = 5 := rfl
theorem own_200 : ab_own 200 = 8 := rfl
theorem rt_200 : ab_rt 200 = none := rfl
theorem np_200 : ab_np 200 = 0 := rfl
theorem mxl_200 : ab_mxl 200 = 3 := rfl
theorem own_201 : ab_own 201 = 8 := rfl
theorem rt_201 : ab_rt 201 = (some .int) := rfl
theorem np_201 : ab_np 201 = 1 := rfl
theorem mxl_201 : ab_mxl 201 = 2 := rfl
theorem own_202 : ab_own 202 = 8 := rfl
theorem rt_202 : ab_rt 202 = (some .long) := rfl
theorem np_202 : ab_np 202 = 1 := rfl
theorem mxl_202 : ab_mxl 202 = 2 := rfl
theorem own_203 : ab_own 203 = 8 := rfl
theorem rt_203 : ab_rt 203 = (some .int) := rfl
theorem np_203 : ab_np 203 = 0 := rfl
theorem mxl_203 : ab_mxl 203 = 4 := rfl
theorem own_204 : ab_own 204 = 8 := rfl
theorem rt_204 : ab_rt 204 = (some .int) := rfl
theorem np_204 : ab_np 204 = 0 := rfl
theorem mxl_204 : ab_mxl 204 = 5 := rfl
theorem own_205 : ab_own 205 = 8 := rfl
theorem rt_205 : ab_rt 205 = (some .int) := rfl
theorem np_205 : ab_np 205 = 3 := rfl
theorem mxl_205 : ab_mxl 205 = 5 := rfl
theorem own_206 : ab_own 206 = 8 := rfl
theorem rt_206 : ab_rt 206 = (some .int) := rfl
theorem np_206 : ab_np 206 = 2 := rfl
theorem mxl_206 : ab_mxl 206 = 4 := rfl
theorem own_207 : ab_own 207 = 8 := rfl
theorem rt_207 : ab_rt 207 = (some .int) := rfl
theorem np_207 : ab_np 207 = 5 := rfl
theorem mxl_207 : ab_mxl 207 = 10 := rfl
theorem own_208 : ab_own 208 = 8 := rfl
theorem rt_208 : ab_rt 208 = (some .int) := rfl
theorem np_208 : ab_np 208 = 1 := rfl
theorem mxl_208 : ab_mxl 208 = 3 := rfl
theorem own_209 : ab_own 209 = 8 := rfl
theorem rt_209 : ab_rt 209 = (some .int) := rfl
theorem np_209 : ab_np 209 = 1 := rfl
theorem mxl_209 : ab_mxl 209 = 2 := rfl
theorem own_210 : ab_own 210 = 8 := rfl
theorem rt_210 : ab_rt 210 = (some .int) := rfl
theorem np_210 : ab_np 210 = 3 := rfl
theorem mxl_210 : ab_mxl 210 = 5 := rfl
theorem own_211 : ab_own 211 = 8 := rfl
theorem rt_211 : ab_rt 211 = (some .int) := rfl
theorem np_211 : ab_np 211 = 3 := rfl
theorem mxl_211 : ab_mxl 211 = 4 := rfl
theorem own_212 : ab_own 212 = 8 := rfl
theorem rt_212 : ab_rt 212 = (some .int) := rfl
theorem np_212 : ab_np 212 = 3 := rfl
theorem mxl_212 : ab_mxl 212 = 5 := rfl
theorem own_213 : ab_own 213 = 8 := rfl
theorem rt_213 : ab_rt 213 = (some .int) := rfl
theorem np_213 : ab_np 213 = 4 := rfl
theorem mxl_213 : ab_mxl 213 = 10 := rfl
theorem own_214 : ab_own 214 = 8 := rfl
theorem rt_214 : ab_rt 214 = (some .int) := rfl
theorem np_214 : ab_np 214 = 0 := rfl
theorem mxl_214 : ab_mxl 214 = 1 := rfl
theorem own_215 : ab_own 215 = 8 := rfl
theorem rt_215 : ab_rt 215 = (some .int) := rfl
theorem np_215 : ab_np 215 = 1 := rfl
theorem mxl_215 : ab_mxl 215 = 4 := rfl
theorem own_216 : ab_own 216 = 9 := rfl
theorem rt_216 : ab_rt 216 = (some .int) := rfl
theorem np_216 : ab_np 216 = 1 := rfl
theorem mxl_216 : ab_mxl 216 = 1 := rfl
theorem fl_6_9 : ab_fl 6 9 = some (6, 0) := rfl
theorem fl_4_146 : ab_fl 4 146 = some (6, 0) := rfl
theorem fl_6_15 : ab_fl 6 15 = some (6, 1) := rfl
theorem fl_7_76 : ab_fl 7 76 = some (6, 1) := rfl
theorem fl_4_136 : ab_fl 4 136 = some (6, 1) := rfl
theorem fl_3_60 : ab_fl 3 60 = some (3, 0) := rfl
theorem fl_7_103 : ab_fl 7 103 = some (3, 0) := rfl
theorem fl_0_18 : ab_fl 0 18 = some (3, 1) := rfl
theorem fl_1_15 : ab_fl 1 15 = some (3, 1) := rfl
theorem fl_3_64 : ab_fl 3 64 = some (3, 1) := rfl
theorem fl_7_97 : ab_fl 7 97 = some (3, 1) := rfl
theorem fl_3_9 : ab_fl 3 9 = some (3, 2) := rfl
theorem fl_7_120 : ab_fl 7 120 = some (3, 2) := rfl
theorem fl_2_76 : ab_fl 2 76 = some (3, 2) := rfl
theorem fl_3_15 : ab_fl 3 15 = some (3, 3) := rfl
theorem fl_7_117 : ab_fl 7 117 = some (3, 3) := rfl
theorem fl_2_79 : ab_fl 2 79 = some (3, 3) := rfl
theorem fl_3_18 : ab_fl 3 18 = some (3, 4) := rfl
theorem fl_2_58 : ab_fl 2 58 = some (3, 4) := rfl
theorem fl_7_123 : ab_fl 7 123 = some (3, 4) := rfl
theorem fl_3_21 : ab_fl 3 21 = some (3, 5) := rfl
theorem fl_2_68 : ab_fl 2 68 = some (3, 5) := rfl
theorem fl_7_126 : ab_fl 7 126 = some (3, 5) := rfl
theorem fl_3_24 : ab_fl 3 24 = some (3, 6) := rfl
theorem fl_2_73 : ab_fl 2 73 = some (3, 6) := rfl
theorem fl_7_129 : ab_fl 7 129 = some (3, 6) := rfl
theorem fl_3_27 : ab_fl 3 27 = some (3, 7) := rfl
theorem fl_2_61 : ab_fl 2 61 = some (3, 7) := rfl
theorem fl_7_132 : ab_fl 7 132 = some (3, 7) := rfl
theorem fl_3_30 : ab_fl 3 30 = some (3, 8) := rfl
theorem fl_7_135 : ab_fl 7 135 = some (3, 8) := rfl
theorem fl_3_35 : ab_fl 3 35 = some (3, 9) := rfl
theorem fl_7_144 : ab_fl 7 144 = some (3, 9) := rfl
theorem fl_3_38 : ab_fl 3 38 = some (3, 10) := rfl
theorem fl_7_138 : ab_fl 7 138 = some (3, 10) := rfl
theorem fl_3_41 : ab_fl 3 41 = some (3, 11) := rfl
theorem fl_0_39 : ab_fl 0 39 = some (3, 11) := rfl
theorem fl_1_33 : ab_fl 1 33 = some (3, 11) := rfl
theorem fl_2_90 : ab_fl 2 90 = some (3, 11) := rfl
theorem fl_7_151 : ab_fl 7 151 = some (3, 11) := rfl
theorem fl_3_44 : ab_fl 3 44 = some (3, 12) := rfl
theorem fl_0_42 : ab_fl 0 42 = some (3, 12) := rfl
theorem fl_7_154 : ab_fl 7 154 = some (3, 12) := rfl
theorem fl_1_77 : ab_fl 1 77 = some (3, 12) := rfl
theorem fl_3_47 : ab_fl 3 47 = some (3, 13) := rfl
theorem fl_0_61 : ab_fl 0 61 = some (3, 13) := rfl
theorem fl_1_70 : ab_fl 1 70 = some (3, 13) := rfl
theorem fl_7_157 : ab_fl 7 157 = some (3, 13) := rfl
theorem fl_3_50 : ab_fl 3 50 = some (3, 14) := rfl
theorem fl_0_49 : ab_fl 0 49 = some (3, 14) := rfl
theorem fl_1_37 : ab_fl 1 37 = some (3, 14) := rfl
theorem fl_7_163 : ab_fl 7 163 = some (3, 14) := rfl
theorem fl_2_104 : ab_fl 2 104 = some (3, 14) := rfl
theorem fl_3_53 : ab_fl 3 53 = some (3, 15) := rfl
theorem fl_1_54 : ab_fl 1 54 = some (3, 15) := rfl
theorem fl_0_68 : ab_fl 0 68 = some (3, 15) := rfl
theorem fl_2_100 : ab_fl 2 100 = some (3, 15) := rfl
theorem fl_7_173 : ab_fl 7 173 = some (3, 15) := rfl
theorem fl_3_56 : ab_fl 3 56 = some (3, 16) := rfl
theorem fl_4_12 : ab_fl 4 12 = some (4, 0) := rfl
theorem fl_7_66 : ab_fl 7 66 = some (4, 0) := rfl
theorem fl_4_21 : ab_fl 4 21 = some (4, 1) := rfl
theorem fl_7_87 : ab_fl 7 87 = some (4, 1) := rfl
theorem fl_4_41 : ab_fl 4 41 = some (4, 2) := rfl
theorem fl_7_100 : ab_fl 7 100 = some (4, 2) := rfl
theorem fl_4_63 : ab_fl 4 63 = some (4, 3) := rfl
theorem fl_7_84 : ab_fl 7 84 = some (4, 3) := rfl
theorem fl_4_25 : ab_fl 4 25 = some (4, 4) := rfl
theorem fl_4_29 : ab_fl 4 29 = some (4, 5) := rfl
theorem fl_4_32 : ab_fl 4 32 = some (4, 6) := rfl
theorem fl_4_45 : ab_fl 4 45 = some (4, 7) := rfl
theorem fl_4_123 : ab_fl 4 123 = some (4, 8) := rfl
theorem fl_4_101 : ab_fl 4 101 = some (4, 9) := rfl
theorem fl_4_48 : ab_fl 4 48 = some (4, 10) := rfl
theorem fl_4_78 : ab_fl 4 78 = some (4, 11) := rfl
theorem fl_2_9 : ab_fl 2 9 = some (2, 0) := rfl
theorem fl_7_293 : ab_fl 7 293 = some (2, 0) := rfl
theorem fl_2_15 : ab_fl 2 15 = some (2, 1) := rfl
theorem fl_7_193 : ab_fl 7 193 = some (2, 1) := rfl
theorem fl_2_29 : ab_fl 2 29 = some (2, 2) := rfl
theorem fl_7_189 : ab_fl 7 189 = some (2, 2) := rfl
theorem fl_2_39 : ab_fl 2 39 = some (2, 3) := rfl
theorem fl_7_205 : ab_fl 7 205 = some (2, 3) := rfl
theorem fl_2_45 : ab_fl 2 45 = some (2, 4) := rfl
theorem fl_7_199 : ab_fl 7 199 = some (2, 4) := rfl
theorem fl_2_42 : ab_fl 2 42 = some (2, 5) := rfl
theorem fl_7_202 : ab_fl 7 202 = some (2, 5) := rfl
theorem fl_2_34 : ab_fl 2 34 = some (2, 6) := rfl
theorem fl_7_262 : ab_fl 7 262 = some (2, 6) := rfl
theorem fl_2_19 : ab_fl 2 19 = some (2, 7) := rfl
theorem fl_2_22 : ab_fl 2 22 = some (2, 8) := rfl
theorem fl_2_26 : ab_fl 2 26 = some (2, 9) := rfl
theorem fl_0_9 : ab_fl 0 9 = some (0, 0) := rfl
theorem fl_7_226 : ab_fl 7 226 = some (0, 0) := rfl
theorem fl_0_28 : ab_fl 0 28 = some (0, 1) := rfl
theorem fl_7_216 : ab_fl 7 216 = some (0, 1) := rfl
theorem fl_0_15 : ab_fl 0 15 = some (0, 2) := rfl
theorem fl_1_9 : ab_fl 1 9 = some (1, 0) := rfl
theorem fl_5_9 : ab_fl 5 9 = some (5, 0) := rfl
theorem fl_7_288 : ab_fl 7 288 = some (5, 0) := rfl
theorem fl_7_275 : ab_fl 7 275 = some (5, 1) := rfl
theorem fl_5_15 : ab_fl 5 15 = some (5, 2) := rfl
theorem fl_5_20 : ab_fl 5 20 = some (5, 3) := rfl
theorem fl_7_10 : ab_fl 7 10 = some (7, 0) := rfl
theorem fl_7_19 : ab_fl 7 19 = some (7, 1) := rfl
theorem fl_7_23 : ab_fl 7 23 = some (7, 2) := rfl
theorem fl_7_29 : ab_fl 7 29 = some (7, 3) := rfl
theorem fl_7_36 : ab_fl 7 36 = some (7, 4) := rfl
theorem fl_7_43 : ab_fl 7 43 = some (7, 5) := rfl
theorem fl_7_49 : ab_fl 7 49 = some (7, 6) := rfl
theorem fl_7_53 : ab_fl 7 53 = some (7, 7) := rfl
theorem fl_7_57 : ab_fl 7 57 = some (7, 8) := rfl
theorem fl_7_62 : ab_fl 7 62 = some (7, 9) := rfl
theorem fl_8_7 : ab_fl 8 7 = some (8, 0) := rfl
theorem fl_8_13 : ab_fl 8 13 = some (8, 1) := rfl
theorem fl_8_75 : ab_fl 8 75 = some (8, 2) := rfl
theorem fl_8_150 : ab_fl 8 150 = some (8, 3) := rfl
theorem fl_8_79 : ab_fl 8 79 = some (8, 4) := rfl
theorem fl_8_85 : ab_fl 8 85 = some (8, 5) := rfl
theorem fl_8_91 : ab_fl 8 91 = some (8, 6) := rfl
theorem fl_8_82 : ab_fl 8 82 = some (8, 7) := rfl
theorem fl_8_88 : ab_fl 8 88 = some (8, 8) := rfl
theorem fl_8_98 : ab_fl 8 98 = some (8, 9) := rfl
theorem fl_8_16 : ab_fl 8 16 = some (8, 10) := rfl
theorem fl_8_19 : ab_fl 8 19 = some (8, 11) := rfl
theorem fl_8_22 : ab_fl 8 22 = some (8, 12) := rfl
theorem fl_8_25 : ab_fl 8 25 = some (8, 13) := rfl
theorem fl_8_28 : ab_fl 8 28 = some (8, 14) := rfl
theorem fl_8_31 : ab_fl 8 31 = some (8, 15) := rfl
theorem fl_8_35 : ab_fl 8 35 = some (8, 16) := rfl
theorem fl_8_38 : ab_fl 8 38 = some (8, 17) := rfl
theorem fl_8_159 : ab_fl 8 159 = some (8, 18) := rfl
theorem fl_8_243 : ab_fl 8 243 = some (8, 19) := rfl
theorem fl_8_246 : ab_fl 8 246 = some (8, 20) := rfl
theorem fl_8_249 : ab_fl 8 249 = some (8, 21) := rfl
theorem fl_8_229 : ab_fl 8 229 = some (8, 22) := rfl
theorem fl_8_218 : ab_fl 8 218 = some (8, 23) := rfl
theorem fl_8_232 : ab_fl 8 232 = some (8, 24) := rfl
theorem fl_8_213 : ab_fl 8 213 = some (8, 25) := rfl
theorem fl_8_41 : ab_fl 8 41 = some (8, 26) := rfl
theorem fl_8_44 : ab_fl 8 44 = some (8, 27) := rfl
theorem fl_8_47 : ab_fl 8 47 = some (8, 28) := rfl
theorem fl_8_50 : ab_fl 8 50 = some (8, 29) := rfl
theorem fl_8_53 : ab_fl 8 53 = some (8, 30) := rfl
theorem fl_8_56 : ab_fl 8 56 = some (8, 31) := rfl
theorem fl_8_60 : ab_fl 8 60 = some (8, 32) := rfl
theorem fl_8_63 : ab_fl 8 63 = some (8, 33) := rfl
theorem fl_8_66 : ab_fl 8 66 = some (8, 34) := rfl
theorem fl_8_330 : ab_fl 8 330 = some (8, 35) := rfl
theorem kI_9_265 : ab_kI 9 265 = some (1431655765) := rfl
theorem kI_9_266 : ab_kI 9 266 = some (858993459) := rfl
theorem kI_9_267 : ab_kI 9 267 = some (252645135) := rfl
theorem kI_2_33 : ab_kI 2 33 = some (1103515245) := rfl
theorem kI_8_327 : ab_kI 8 327 = some (1103515245) := rfl
theorem kL_2_37 : ab_kL 2 37 = some (2000000000000) := rfl
theorem kL_2_71 : ab_kL 2 71 = some (1000000000000) := rfl
theorem kL_7_299 : ab_kL 7 299 = some (1000000000000) := rfl
theorem kL_7_187 : ab_kL 7 187 = some (-1) := rfl
theorem kL_7_197 : ab_kL 7 197 = some (2000000000000) := rfl
theorem kL_1_21 : ab_kL 1 21 = some (3000000000000) := rfl
theorem kL_1_40 : ab_kL 1 40 = some (1000000000000) := rfl
theorem kL_1_31 : ab_kL 1 31 = some (2000000000000) := rfl
theorem kL_8_69 : ab_kL 8 69 = some (127) := rfl
theorem kL_8_101 : ab_kL 8 101 = some (97) := rfl
theorem kL_8_103 : ab_kL 8 103 = some (122) := rfl
theorem kL_8_105 : ab_kL 8 105 = some (48) := rfl
theorem kL_8_107 : ab_kL 8 107 = some (57) := rfl
theorem kL_8_130 : ab_kL 8 130 = some (6) := rfl
theorem kL_8_136 : ab_kL 8 136 = some (9) := rfl
theorem kL_8_138 : ab_kL 8 138 = some (11) := rfl
theorem kL_8_216 : ab_kL 8 216 = some (2000000000000) := rfl
theorem kL_8_207 : ab_kL 8 207 = some (1000000000000) := rfl
theorem kL_8_256 : ab_kL 8 256 = some (-1) := rfl
theorem kL_8_258 : ab_kL 8 258 = some (2) := rfl
theorem kL_8_275 : ab_kL 8 275 = some (100) := rfl
theorem kL_8_321 : ab_kL 8 321 = some (99) := rfl
theorem kL_8_323 : ab_kL 8 323 = some (3) := rfl
theorem kL_8_325 : ab_kL 8 325 = some (50) := rfl
theorem kL_8_328 : ab_kL 8 328 = some (20) := rfl
theorem ml_10_9 : ab_ml 10 9 = some (95, 3) := rfl
theorem ml_7_1 : ab_ml 7 1 = some (0, 5) := rfl
theorem ml_7_9 : ab_ml 7 9 = some (69, 4) := rfl
theorem ml_4_3 : ab_ml 4 3 = some (0, 5) := rfl
theorem ml_4_11 : ab_ml 4 11 = some (92, 4) := rfl
theorem ml_6_3 : ab_ml 6 3 = some (0, 5) := rfl
theorem ml_4_20 : ab_ml 4 20 = some (34, 4) := rfl
theorem ml_3_3 : ab_ml 3 3 = some (0, 5) := rfl
theorem ml_7_18 : ab_ml 7 18 = some (23, 4) := rfl
theorem ml_2_3 : ab_ml 2 3 = some (0, 5) := rfl
theorem ml_7_28 : ab_ml 7 28 = some (0, 4) := rfl
theorem ml_0_3 : ab_ml 0 3 = some (0, 5) := rfl
theorem ml_7_35 : ab_ml 7 35 = some (11, 4) := rfl
theorem ml_1_3 : ab_ml 1 3 = some (0, 5) := rfl
theorem ml_7_42 : ab_ml 7 42 = some (86, 3) := rfl
theorem ml_5_3 : ab_ml 5 3 = some (0, 5) := rfl
theorem ml_7_61 : ab_ml 7 61 = some (34, 4) := rfl
theorem ml_10_13 : ab_ml 10 13 = some (96, 0) := rfl
theorem ml_7_70 : ab_ml 7 70 = some (93, 0) := rfl
theorem ml_10_18 : ab_ml 10 18 = some (97, 0) := rfl
theorem ml_10_22 : ab_ml 10 22 = some (98, 0) := rfl
theorem ml_7_80 : ab_ml 7 80 = some (70, 0) := rfl
theorem ml_4_35 : ab_ml 4 35 = some (80, 0) := rfl
theorem ml_4_126 : ab_ml 4 126 = some (82, 0) := rfl
theorem ml_4_139 : ab_ml 4 139 = some (94, 0) := rfl
theorem ml_4_130 : ab_ml 4 130 = some (81, 0) := rfl
theorem ml_4_143 : ab_ml 4 143 = some (84, 0) := rfl
theorem ml_4_152 : ab_ml 4 152 = some (85, 0) := rfl
theorem ml_4_178 : ab_ml 4 178 = some (0, 8) := rfl
theorem ml_4_183 : ab_ml 4 183 = some (0, 9) := rfl
theorem ml_4_133 : ab_ml 4 133 = some (83, 0) := rfl
theorem ml_4_38 : ab_ml 4 38 = some (35, 0) := rfl
theorem ml_4_52 : ab_ml 4 52 = some (72, 0) := rfl
theorem ml_4_66 : ab_ml 4 66 = some (73, 0) := rfl
theorem ml_4_59 : ab_ml 4 59 = some (71, 0) := rfl
theorem ml_4_75 : ab_ml 4 75 = some (36, 0) := rfl
theorem ml_4_81 : ab_ml 4 81 = some (78, 0) := rfl
theorem ml_4_69 : ab_ml 4 69 = some (74, 0) := rfl
theorem ml_4_84 : ab_ml 4 84 = some (37, 0) := rfl
theorem ml_4_87 : ab_ml 4 87 = some (75, 0) := rfl
theorem ml_4_93 : ab_ml 4 93 = some (129, 2) := rfl
theorem ml_4_97 : ab_ml 4 97 = some (79, 0) := rfl
theorem ml_4_104 : ab_ml 4 104 = some (38, 0) := rfl
theorem ml_4_90 : ab_ml 4 90 = some (76, 0) := rfl
theorem ml_4_108 : ab_ml 4 108 = some (39, 0) := rfl
theorem ml_4_72 : ab_ml 4 72 = some (77, 0) := rfl
theorem ml_4_111 : ab_ml 4 111 = some (40, 0) := rfl
theorem ml_4_114 : ab_ml 4 114 = some (41, 0) := rfl
theorem ml_4_117 : ab_ml 4 117 = some (42, 0) := rfl
theorem ml_4_120 : ab_ml 4 120 = some (43, 0) := rfl
theorem ml_4_56 : ab_ml 4 56 = some (58, 0) := rfl
theorem ml_3_81 : ab_ml 3 81 = some (49, 0) := rfl
theorem ml_3_85 : ab_ml 3 85 = some (50, 0) := rfl
theorem ml_3_77 : ab_ml 3 77 = some (130, 2) := rfl
theorem ml_3_99 : ab_ml 3 99 = some (52, 0) := rfl
theorem ml_3_102 : ab_ml 3 102 = some (51, 0) := rfl
theorem ml_3_105 : ab_ml 3 105 = some (59, 0) := rfl
theorem ml_3_73 : ab_ml 3 73 = some (46, 0) := rfl
theorem ml_3_108 : ab_ml 3 108 = some (57, 0) := rfl
theorem ml_3_93 : ab_ml 3 93 = some (55, 0) := rfl
theorem ml_3_96 : ab_ml 3 96 = some (56, 0) := rfl
theorem ml_7_90 : ab_ml 7 90 = some (44, 0) := rfl
theorem ml_3_67 : ab_ml 3 67 = some (0, 6) := rfl
theorem ml_7_94 : ab_ml 7 94 = some (24, 0) := rfl
theorem ml_10_27 : ab_ml 10 27 = some (99, 0) := rfl
theorem ml_10_31 : ab_ml 10 31 = some (100, 0) := rfl
theorem ml_7_106 : ab_ml 7 106 = some (61, 0) := rfl
theorem ml_7_110 : ab_ml 7 110 = some (62, 0) := rfl
theorem ml_10_35 : ab_ml 10 35 = some (101, 0) := rfl
theorem ml_7_114 : ab_ml 7 114 = some (45, 0) := rfl
theorem ml_7_141 : ab_ml 7 141 = some (53, 0) := rfl
theorem ml_3_88 : ab_ml 3 88 = some (216, 1) := rfl
theorem ml_10_40 : ab_ml 10 40 = some (102, 0) := rfl
theorem ml_10_44 : ab_ml 10 44 = some (103, 0) := rfl
theorem ml_7_148 : ab_ml 7 148 = some (46, 0) := rfl
theorem ml_7_160 : ab_ml 7 160 = some (48, 0) := rfl
theorem ml_7_166 : ab_ml 7 166 = some (63, 0) := rfl
theorem ml_10_48 : ab_ml 10 48 = some (104, 0) := rfl
theorem ml_7_169 : ab_ml 7 169 = some (47, 0) := rfl
theorem ml_10_52 : ab_ml 10 52 = some (105, 0) := rfl
theorem ml_7_176 : ab_ml 7 176 = some (55, 0) := rfl
theorem ml_10_56 : ab_ml 10 56 = some (106, 0) := rfl
theorem ml_7_179 : ab_ml 7 179 = some (25, 0) := rfl
theorem ml_7_183 : ab_ml 7 183 = some (28, 0) := rfl
theorem ml_2_48 : ab_ml 2 48 = some (45, 0) := rfl
theorem ml_2_54 : ab_ml 2 54 = some (30, 0) := rfl
theorem ml_2_82 : ab_ml 2 82 = some (54, 0) := rfl
theorem ml_2_86 : ab_ml 2 86 = some (31, 0) := rfl
theorem ml_2_97 : ab_ml 2 97 = some (33, 0) := rfl
theorem ml_2_93 : ab_ml 2 93 = some (32, 0) := rfl
theorem ml_2_107 : ab_ml 2 107 = some (131, 2) := rfl
theorem ml_2_64 : ab_ml 2 64 = some (29, 0) := rfl
theorem ml_10_61 : ab_ml 10 61 = some (107, 0) := rfl
theorem ml_10_66 : ab_ml 10 66 = some (108, 0) := rfl
theorem ml_10_70 : ab_ml 10 70 = some (109, 0) := rfl
theorem ml_7_208 : ab_ml 7 208 = some (1, 0) := rfl
theorem ml_0_24 : ab_ml 0 24 = some (2, 0) := rfl
theorem ml_0_35 : ab_ml 0 35 = some (3, 0) := rfl
theorem ml_0_45 : ab_ml 0 45 = some (48, 0) := rfl
theorem ml_0_31 : ab_ml 0 31 = some (4, 0) := rfl
theorem ml_0_52 : ab_ml 0 52 = some (5, 0) := rfl
theorem ml_0_64 : ab_ml 0 64 = some (6, 0) := rfl
theorem ml_0_55 : ab_ml 0 55 = some (0, 6) := rfl
theorem ml_7_212 : ab_ml 7 212 = some (7, 0) := rfl
theorem ml_7_219 : ab_ml 7 219 = some (8, 0) := rfl
theorem ml_0_72 : ab_ml 0 72 = some (9, 0) := rfl
theorem ml_0_75 : ab_ml 0 75 = some (0, 7) := rfl
theorem ml_10_74 : ab_ml 10 74 = some (110, 0) := rfl
theorem ml_7_222 : ab_ml 7 222 = some (111, 0) := rfl
theorem ml_10_78 : ab_ml 10 78 = some (111, 0) := rfl
theorem ml_10_82 : ab_ml 10 82 = some (112, 0) := rfl
theorem ml_7_227 : ab_ml 7 227 = some (10, 0) := rfl
theorem ml_0_81 : ab_ml 0 81 = some (55, 0) := rfl
theorem ml_10_86 : ab_ml 10 86 = some (113, 0) := rfl
theorem ml_7_231 : ab_ml 7 231 = some (12, 0) := rfl
theorem ml_1_23 : ab_ml 1 23 = some (16, 0) := rfl
theorem ml_1_42 : ab_ml 1 42 = some (20, 0) := rfl
theorem ml_1_62 : ab_ml 1 62 = some (13, 0) := rfl
theorem ml_1_27 : ab_ml 1 27 = some (15, 1) := rfl
theorem ml_1_73 : ab_ml 1 73 = some (21, 0) := rfl
theorem ml_1_66 : ab_ml 1 66 = some (60, 0) := rfl
theorem ml_1_80 : ab_ml 1 80 = some (22, 0) := rfl
theorem ml_1_45 : ab_ml 1 45 = some (17, 0) := rfl
theorem ml_1_58 : ab_ml 1 58 = some (131, 2) := rfl
theorem ml_1_48 : ab_ml 1 48 = some (19, 0) := rfl
theorem ml_1_51 : ab_ml 1 51 = some (18, 0) := rfl
theorem ml_7_234 : ab_ml 7 234 = some (13, 0) := rfl
theorem ml_10_90 : ab_ml 10 90 = some (114, 0) := rfl
theorem ml_7_237 : ab_ml 7 237 = some (14, 0) := rfl
theorem ml_10_94 : ab_ml 10 94 = some (115, 0) := rfl
theorem ml_7_241 : ab_ml 7 241 = some (65, 0) := rfl
theorem ml_10_98 : ab_ml 10 98 = some (116, 0) := rfl
theorem ml_7_245 : ab_ml 7 245 = some (66, 0) := rfl
theorem ml_3_112 : ab_ml 3 112 = some (67, 0) := rfl
theorem ml_3_115 : ab_ml 3 115 = some (68, 0) := rfl
theorem ml_10_102 : ab_ml 10 102 = some (117, 0) := rfl
theorem ml_7_248 : ab_ml 7 248 = some (57, 0) := rfl
theorem ml_10_107 : ab_ml 10 107 = some (118, 0) := rfl
theorem ml_7_252 : ab_ml 7 252 = some (129, 1) := rfl
theorem ml_10_111 : ab_ml 10 111 = some (119, 0) := rfl
theorem ml_7_255 : ab_ml 7 255 = some (27, 0) := rfl
theorem ml_7_259 : ab_ml 7 259 = some (26, 0) := rfl
theorem ml_10_116 : ab_ml 10 116 = some (120, 0) := rfl
theorem ml_10_120 : ab_ml 10 120 = some (121, 0) := rfl
theorem ml_10_124 : ab_ml 10 124 = some (122, 0) := rfl
theorem ml_7_265 : ab_ml 7 265 = some (87, 0) := rfl
theorem ml_10_128 : ab_ml 10 128 = some (123, 0) := rfl
theorem ml_7_269 : ab_ml 7 269 = some (88, 0) := rfl
theorem ml_7_272 : ab_ml 7 272 = some (90, 0) := rfl
theorem ml_10_132 : ab_ml 10 132 = some (124, 0) := rfl
theorem ml_7_278 : ab_ml 7 278 = some (89, 0) := rfl
theorem ml_5_23 : ab_ml 5 23 = some (88, 0) := rfl
theorem ml_7_282 : ab_ml 7 282 = some (128, 0) := rfl
theorem ml_7_296 : ab_ml 7 296 = some (91, 0) := rfl
theorem ml_10_137 : ab_ml 10 137 = some (125, 0) := rfl
theorem ml_10_141 : ab_ml 10 141 = some (126, 0) := rfl
theorem ml_7_285 : ab_ml 7 285 = some (127, 0) := rfl
theorem ml_7_290 : ab_ml 7 290 = some (64, 0) := rfl
theorem ml_10_12 : ab_ml 10 12 = some (132, 3) := rfl
theorem ml_8_1 : ab_ml 8 1 = some (0, 5) := rfl
theorem ml_10_17 : ab_ml 10 17 = some (134, 0) := rfl
theorem ml_8_71 : ab_ml 8 71 = some (133, 1) := rfl
theorem ml_10_21 : ab_ml 10 21 = some (135, 0) := rfl
theorem ml_10_26 : ab_ml 10 26 = some (146, 0) := rfl
theorem ml_8_113 : ab_ml 8 113 = some (139, 0) := rfl
theorem ml_8_94 : ab_ml 8 94 = some (136, 0) := rfl
theorem ml_8_109 : ab_ml 8 109 = some (137, 0) := rfl
theorem ml_8_143 : ab_ml 8 143 = some (145, 0) := rfl
theorem ml_8_126 : ab_ml 8 126 = some (138, 0) := rfl
theorem ml_8_123 : ab_ml 8 123 = some (141, 0) := rfl
theorem ml_8_132 : ab_ml 8 132 = some (143, 0) := rfl
theorem ml_8_116 : ab_ml 8 116 = some (140, 0) := rfl
theorem ml_8_120 : ab_ml 8 120 = some (142, 1) := rfl
theorem ml_8_140 : ab_ml 8 140 = some (144, 0) := rfl
theorem ml_8_146 : ab_ml 8 146 = some (157, 0) := rfl
theorem ml_8_181 : ab_ml 8 181 = some (155, 0) := rfl
theorem ml_8_153 : ab_ml 8 153 = some (150, 0) := rfl
theorem ml_8_163 : ab_ml 8 163 = some (149, 0) := rfl
theorem ml_8_185 : ab_ml 8 185 = some (156, 0) := rfl
theorem ml_8_177 : ab_ml 8 177 = some (154, 0) := rfl
theorem ml_8_170 : ab_ml 8 170 = some (153, 0) := rfl
theorem ml_8_166 : ab_ml 8 166 = some (151, 0) := rfl
theorem ml_8_174 : ab_ml 8 174 = some (152, 0) := rfl
theorem ml_8_156 : ab_ml 8 156 = some (148, 0) := rfl
theorem ml_10_30 : ab_ml 10 30 = some (147, 0) := rfl
theorem ml_10_34 : ab_ml 10 34 = some (162, 0) := rfl
theorem ml_8_188 : ab_ml 8 188 = some (160, 0) := rfl
theorem ml_8_191 : ab_ml 8 191 = some (161, 0) := rfl
theorem ml_10_39 : ab_ml 10 39 = some (164, 0) := rfl
theorem ml_8_195 : ab_ml 8 195 = some (158, 0) := rfl
theorem ml_8_198 : ab_ml 8 198 = some (163, 0) := rfl
theorem ml_10_43 : ab_ml 10 43 = some (165, 0) := rfl
theorem ml_10_47 : ab_ml 10 47 = some (166, 0) := rfl
theorem ml_8_201 : ab_ml 8 201 = some (159, 0) := rfl
theorem ml_10_51 : ab_ml 10 51 = some (168, 0) := rfl
theorem ml_8_204 : ab_ml 8 204 = some (167, 0) := rfl
theorem ml_10_55 : ab_ml 10 55 = some (169, 0) := rfl
theorem ml_10_60 : ab_ml 10 60 = some (176, 0) := rfl
theorem ml_8_252 : ab_ml 8 252 = some (175, 0) := rfl
theorem ml_8_239 : ab_ml 8 239 = some (174, 0) := rfl
theorem ml_8_235 : ab_ml 8 235 = some (173, 0) := rfl
theorem ml_8_221 : ab_ml 8 221 = some (172, 0) := rfl
theorem ml_8_225 : ab_ml 8 225 = some (171, 0) := rfl
theorem ml_8_209 : ab_ml 8 209 = some (170, 1) := rfl
theorem ml_10_65 : ab_ml 10 65 = some (177, 0) := rfl
theorem ml_10_69 : ab_ml 10 69 = some (178, 0) := rfl
theorem ml_10_73 : ab_ml 10 73 = some (183, 0) := rfl
theorem ml_8_269 : ab_ml 8 269 = some (182, 0) := rfl
theorem ml_8_263 : ab_ml 8 263 = some (179, 0) := rfl
theorem ml_8_266 : ab_ml 8 266 = some (181, 0) := rfl
theorem ml_8_260 : ab_ml 8 260 = some (180, 0) := rfl
theorem ml_10_77 : ab_ml 10 77 = some (184, 0) := rfl
theorem ml_8_272 : ab_ml 8 272 = some (185, 0) := rfl
theorem ml_10_81 : ab_ml 10 81 = some (185, 0) := rfl
theorem ml_10_85 : ab_ml 10 85 = some (188, 0) := rfl
theorem ml_8_280 : ab_ml 8 280 = some (187, 0) := rfl
theorem ml_8_277 : ab_ml 8 277 = some (186, 0) := rfl
theorem ml_10_89 : ab_ml 10 89 = some (201, 0) := rfl
theorem ml_8_318 : ab_ml 8 318 = some (200, 0) := rfl
theorem ml_8_283 : ab_ml 8 283 = some (191, 0) := rfl
theorem ml_8_309 : ab_ml 8 309 = some (198, 0) := rfl
theorem ml_8_287 : ab_ml 8 287 = some (193, 0) := rfl
theorem ml_8_299 : ab_ml 8 299 = some (192, 0) := rfl
theorem ml_8_302 : ab_ml 8 302 = some (197, 0) := rfl
theorem ml_8_296 : ab_ml 8 296 = some (196, 0) := rfl
theorem ml_8_290 : ab_ml 8 290 = some (194, 0) := rfl
theorem ml_8_293 : ab_ml 8 293 = some (189, 0) := rfl
theorem ml_8_312 : ab_ml 8 312 = some (199, 0) := rfl
theorem ml_8_305 : ab_ml 8 305 = some (190, 0) := rfl
theorem ml_8_315 : ab_ml 8 315 = some (195, 0) := rfl
theorem ml_10_93 : ab_ml 10 93 = some (202, 0) := rfl
theorem ml_10_97 : ab_ml 10 97 = some (203, 0) := rfl
theorem ml_10_101 : ab_ml 10 101 = some (204, 0) := rfl
theorem ml_10_106 : ab_ml 10 106 = some (205, 0) := rfl
theorem ml_10_110 : ab_ml 10 110 = some (206, 0) := rfl
theorem ml_10_115 : ab_ml 10 115 = some (207, 0) := rfl
theorem ml_10_119 : ab_ml 10 119 = some (208, 0) := rfl
theorem ml_10_123 : ab_ml 10 123 = some (209, 0) := rfl
theorem ml_10_127 : ab_ml 10 127 = some (210, 0) := rfl
theorem ml_10_131 : ab_ml 10 131 = some (211, 0) := rfl
theorem ml_10_136 : ab_ml 10 136 = some (213, 0) := rfl
theorem ml_8_333 : ab_ml 8 333 = some (212, 0) := rfl
theorem ml_10_140 : ab_ml 10 140 = some (214, 0) := rfl
theorem ml_10_144 : ab_ml 10 144 = some (215, 0) := rfl
theorem ci_m1 : Int32.ofInt (-1) = (-1) := rfl
theorem ci_0 : Int32.ofInt (0) = (0) := rfl
theorem ci_1 : Int32.ofInt (1) = (1) := rfl
theorem ci_2 : Int32.ofInt (2) = (2) := rfl
theorem ci_3 : Int32.ofInt (3) = (3) := rfl
theorem ci_4 : Int32.ofInt (4) = (4) := rfl
theorem ci_5 : Int32.ofInt (5) = (5) := rfl
theorem cb_m14 : (Int8.ofInt (-14)).toInt32 = (-14) := rfl
theorem cb_m12 : (Int8.ofInt (-12)).toInt32 = (-12) := rfl
theorem cb_m11 : (Int8.ofInt (-11)).toInt32 = (-11) := rfl
theorem cb_m10 : (Int8.ofInt (-10)).toInt32 = (-10) := rfl
theorem cb_m4 : (Int8.ofInt (-4)).toInt32 = (-4) := rfl
theorem cb_m3 : (Int8.ofInt (-3)).toInt32 = (-3) := rfl
theorem cb_m2 : (Int8.ofInt (-2)).toInt32 = (-2) := rfl
theorem cb_6 : (Int8.ofInt (6)).toInt32 = (6) := rfl
theorem cb_7 : (Int8.ofInt (7)).toInt32 = (7) := rfl
theorem cb_8 : (Int8.ofInt (8)).toInt32 = (8) := rfl
theorem cb_9 : (Int8.ofInt (9)).toInt32 = (9) := rfl
theorem cb_10 : (Int8.ofInt (10)).toInt32 = (10) := rfl
theorem cb_11 : (Int8.ofInt (11)).toInt32 = (11) := rfl
theorem cb_12 : (Int8.ofInt (12)).toInt32 = (12) := rfl
theorem cb_16 : (Int8.ofInt (16)).toInt32 = (16) := rfl
theorem cb_18 : (Int8.ofInt (18)).toInt32 = (18) := rfl
theorem cb_19 : (Int8.ofInt (19)).toInt32 = (19) := rfl
theorem cb_20 : (Int8.ofInt (20)).toInt32 = (20) := rfl
theorem cb_21 : (Int8.ofInt (21)).toInt32 = (21) := rfl
theorem cb_22 : (Int8.ofInt (22)).toInt32 = (22) := rfl
theorem cb_23 : (Int8.ofInt (23)).toInt32 = (23) := rfl
theorem cb_24 : (Int8.ofInt (24)).toInt32 = (24) := rfl
theorem cb_25 : (Int8.ofInt (25)).toInt32 = (25) := rfl
theorem cb_30 : (Int8.ofInt (30)).toInt32 = (30) := rfl
theorem cb_32 : (Int8.ofInt (32)).toInt32 = (32) := rfl
theorem cb_36 : (Int8.ofInt (36)).toInt32 = (36) := rfl
theorem cb_40 : (Int8.ofInt (40)).toInt32 = (40) := rfl
theorem cb_48 : (Int8.ofInt (48)).toInt32 = (48) := rfl
theorem cb_50 : (Int8.ofInt (50)).toInt32 = (50) := rfl
theorem cb_56 : (Int8.ofInt (56)).toInt32 = (56) := rfl
theorem cb_57 : (Int8.ofInt (57)).toInt32 = (57) := rfl
theorem cb_59 : (Int8.ofInt (59)).toInt32 = (59) := rfl
theorem cb_63 : (Int8.ofInt (63)).toInt32 = (63) := rfl
theorem cb_76 : (Int8.ofInt (76)).toInt32 = (76) := rfl
theorem cb_96 : (Int8.ofInt (96)).toInt32 = (96) := rfl
theorem cb_97 : (Int8.ofInt (97)).toInt32 = (97) := rfl
theorem cb_99 : (Int8.ofInt (99)).toInt32 = (99) := rfl
theorem cb_100 : (Int8.ofInt (100)).toInt32 = (100) := rfl
theorem cb_116 : (Int8.ofInt (116)).toInt32 = (116) := rfl
theorem cb_122 : (Int8.ofInt (122)).toInt32 = (122) := rfl
theorem cb_127 : (Int8.ofInt (127)).toInt32 = (127) := rfl
theorem cs_200 : (Int16.ofInt (200)).toInt32 = (200) := rfl
theorem cs_236 : (Int16.ofInt (236)).toInt32 = (236) := rfl
theorem cs_237 : (Int16.ofInt (237)).toInt32 = (237) := rfl
theorem cs_238 : (Int16.ofInt (238)).toInt32 = (238) := rfl
theorem cs_320 : (Int16.ofInt (320)).toInt32 = (320) := rfl
theorem cs_714 : (Int16.ofInt (714)).toInt32 = (714) := rfl
theorem cs_720 : (Int16.ofInt (720)).toInt32 = (720) := rfl
theorem cs_726 : (Int16.ofInt (726)).toInt32 = (726) := rfl
theorem cs_732 : (Int16.ofInt (732)).toInt32 = (732) := rfl
theorem cs_738 : (Int16.ofInt (738)).toInt32 = (738) := rfl
theorem cs_744 : (Int16.ofInt (744)).toInt32 = (744) := rfl
theorem cs_750 : (Int16.ofInt (750)).toInt32 = (750) := rfl
theorem cs_770 : (Int16.ofInt (770)).toInt32 = (770) := rfl
theorem cs_790 : (Int16.ofInt (790)).toInt32 = (790) := rfl
theorem cs_810 : (Int16.ofInt (810)).toInt32 = (810) := rfl
theorem cs_830 : (Int16.ofInt (830)).toInt32 = (830) := rfl
theorem cs_950 : (Int16.ofInt (950)).toInt32 = (950) := rfl
theorem cs_951 : (Int16.ofInt (951)).toInt32 = (951) := rfl
theorem cs_12345 : (Int16.ofInt (12345)).toInt32 = (12345) := rfl
theorem cs_32767 : (Int16.ofInt (32767)).toInt32 = (32767) := rfl
theorem cl_0 : Int64.ofNat ((0 : Fin 2) : Nat) = 0 := rfl
theorem cl_1 : Int64.ofNat ((1 : Fin 2) : Nat) = 1 := rfl
theorem gg_0_0 {mi pc o : Nat} {L : ab_L} {S : List Value} {h : ab_H} {Q : Option Value → ab_H → Prop} : GoG (some (0, 0)) mi pc L o S h Q = (ab_ref h o 0 = true ∧ Go (ab_at mi (pc + 3)) mi (pc + 3) L (va_rf (ab_rf h o 0) :: S) h Q) := propext ⟨fun z => ⟨z.1, z.2.2.2⟩, fun z => ⟨z.1, (by decide : 0 < ab_N 0), (by omega), z.2⟩⟩
theorem gg_0_1 {mi pc o : Nat} {L : ab_L} {S : List Value} {h : ab_H} {Q : Option Value → ab_H → Prop} : GoG (some (0, 1)) mi pc L o S h Q = (ab_ref h o 0 = true ∧ Go (ab_at mi (pc + 3)) mi (pc + 3) L (.int (h.2.1 o 1) :: S) h Q) := propext ⟨fun z => ⟨z.1, z.2.2.2⟩, fun z => ⟨z.1, (by decide : 1 < ab_N 0), (by omega), z.2⟩⟩
theorem gp_0_1 {mi pc o : Nat} {L : ab_L} {S : List Value} {h : ab_H} {Q : Option Value → ab_H → Prop} {x : Int32} : GoP (some (0, 1)) mi pc L o (.int x) S h Q = (ab_ref h o 0 = true ∧ Go (ab_at mi (pc + 3)) mi (pc + 3) L S (ab_seti h o 1 x) Q) := propext ⟨fun z => ⟨z.1, z.2.2.2.2.2.2.2⟩, fun z => ⟨z.1, (by decide : 1 < ab_N 0), (by omega), rfl, rfl, rfl, Or.inl rfl, z.2⟩⟩
theorem gg_0_2 {mi pc o : Nat} {L : ab_L} {S : List Value} {h : ab_H} {Q : Option Value → ab_H → Prop} : GoG (some (0, 2)) mi pc L o S h Q = (ab_ref h o 0 = true ∧ Go (ab_at mi (pc + 3)) mi (pc + 3) L (va_rf (ab_rf h o 2) :: S) h Q) := propext ⟨fun z => ⟨z.1, z.2.2.2⟩, fun z => ⟨z.1, (by decide : 2 < ab_N 0), (by omega), z.2⟩⟩
theorem gg_1_0 {mi pc o : Nat} {L : ab_L} {S : List Value} {h : ab_H} {Q : Option Value → ab_H → Prop} : GoG (some (1, 0)) mi pc L o S h Q = (ab_ref h o 1 = true ∧ Go (ab_at mi (pc + 3)) mi (pc + 3) L (va_rf (ab_rf h o 0) :: S) h Q) := propext ⟨fun z => ⟨z.1, z.2.2.2⟩, fun z => ⟨z.1, (by decide : 0 < ab_N 1), (by omega), z.2⟩⟩
theorem gg_2_0 {mi pc o : Nat} {L : ab_L} {S : List Value} {h : ab_H} {Q : Option Value → ab_H → Prop} : GoG (some (2, 0)) mi pc L o S h Q = (ab_ref h o 2 = true ∧ Go (ab_at mi (pc + 3)) mi (pc + 3) L (va_rf (ab_rf h o 0) :: S) h Q) := propext ⟨fun z => ⟨z.1, z.2.2.2⟩, fun z => ⟨z.1, (by decide : 0 < ab_N 2), (by omega), z.2⟩⟩
theorem gg_2_1 {mi pc o : Nat} {L : ab_L} {S : List Value} {h : ab_H} {Q : Option Value → ab_H → Prop} : GoG (some (2, 1)) mi pc L o S h Q = (ab_ref h o 2 = true ∧ Go (ab_at mi (pc + 3)) mi (pc + 3) L (va_rf (ab_rf h o 1) :: S) h Q) := propext ⟨fun z => ⟨z.1, z.2.2.2⟩, fun z => ⟨z.1, (by decide : 1 < ab_N 2), (by omega), z.2⟩⟩
theorem gg_2_2 {mi pc o : Nat} {L : ab_L} {S : List Value} {h : ab_H} {Q : Option Value → ab_H → Prop} : GoG (some (2, 2)) mi pc L o S h Q = (ab_ref h o 2 = true ∧ Go (ab_at mi (pc + 3)) mi (pc + 3) L (.int (h.2.1 o 2) :: S) h Q) := propext ⟨fun z => ⟨z.1, z.2.2.2⟩, fun z => ⟨z.1, (by decide : 2 < ab_N 2), (by omega), z.2⟩⟩
theorem gp_2_2 {mi pc o : Nat} {L : ab_L} {S : List Value} {h : ab_H} {Q : Option Value → ab_H → Prop} {x : Int32} : GoP (some (2, 2)) mi pc L o (.int x) S h Q = (ab_ref h o 2 = true ∧ (x = 0 ∨ x = 1) ∧ Go (ab_at mi (pc + 3)) mi (pc + 3) L S (ab_seti h o 2 x) Q) := propext ⟨fun z => ⟨z.1, (by have := z.2.2.2.1; simpa [ab_fit, ab_ty, tyX2] using this), z.2.2.2.2.2.2.2⟩, fun z => ⟨z.1, (by decide : 2 < ab_N 2), (by omega), (by simpa [ab_fit, ab_ty, tyX2] using z.2.1), rfl, rfl, Or.inl rfl, z.2.2⟩⟩
theorem gg_2_3 {mi pc o : Nat} {L : ab_L} {S : List Value} {h : ab_H} {Q : Option Value → ab_H → Prop} : GoG (some (2, 3)) mi pc L o S h Q = (ab_ref h o 2 = true ∧ Go (ab_at mi (pc + 3)) mi (pc + 3) L (.int (h.2.1 o 3) :: S) h Q) := propext ⟨fun z => ⟨z.1, z.2.2.2⟩, fun z => ⟨z.1, (by decide : 3 < ab_N 2), (by omega), z.2⟩⟩
theorem gp_2_3 {mi pc o : Nat} {L : ab_L} {S : List Value} {h : ab_H} {Q : Option Value → ab_H → Prop} {x : Int32} : GoP (some (2, 3)) mi pc L o (.int x) S h Q = (ab_ref h o 2 = true ∧ (x = 0 ∨ x = 1) ∧ Go (ab_at mi (pc + 3)) mi (pc + 3) L S (ab_seti h o 3 x) Q) := propext ⟨fun z => ⟨z.1, (by have := z.2.2.2.1; simpa [ab_fit, ab_ty, tyX2] using this), z.2.2.2.2.2.2.2⟩, fun z => ⟨z.1, (by decide : 3 < ab_N 2), (by omega), (by simpa [ab_fit, ab_ty, tyX2] using z.2.1), rfl, rfl, Or.inl rfl, z.2.2⟩⟩
theorem gg_2_4 {mi pc o : Nat} {L : ab_L} {S : List Value} {h : ab_H} {Q : Option Value → ab_H → Prop} : GoG (some (2, 4)) mi pc L o S h Q = (ab_ref h o 2 = true ∧ Go (ab_at mi (pc + 3)) mi (pc + 3) L (.int (h.2.1 o 4) :: S) h Q) := propext ⟨fun z => ⟨z.1, z.2.2.2⟩, fun z => ⟨z.1, (by decide : 4 < ab_N 2), (by omega), z.2⟩⟩
theorem gp_2_4 {mi pc o : Nat} {L : ab_L} {S : List Value} {h : ab_H} {Q : Option Value → ab_H → Prop} {x : Int32} : GoP (some (2, 4)) mi pc L o (.int x) S h Q = (ab_ref h o 2 = true ∧ Go (ab_at mi (pc + 3)) mi (pc + 3) L S (ab_seti h o 4 x) Q) := propext ⟨fun z => ⟨z.1, z.2.2.2.2.2.2.2⟩, fun z => ⟨z.1, (by decide : 4 < ab_N 2), (by omega), rfl, rfl, rfl, Or.inl rfl, z.2⟩⟩
theorem gg_2_5 {mi pc o : Nat} {L : ab_L} {S : List Value} {h : ab_H} {Q : Option Value → ab_H → Prop} : GoG (some (2, 5)) mi pc L o S h Q = (ab_ref h o 2 = true ∧ Go (ab_at mi (pc + 3)) mi (pc + 3) L (.int (h.2.1 o 5) :: S) h Q) := propext ⟨fun z => ⟨z.1, z.2.2.2⟩, fun z => ⟨z.1, (by decide : 5 < ab_N 2), (by omega), z.2⟩⟩
theorem gp_2_5 {mi pc o : Nat} {L : ab_L} {S : List Value} {h : ab_H} {Q : Option Value → ab_H → Prop} {x : Int32} : GoP (some (2, 5)) mi pc L o (.int x) S h Q = (ab_ref h o 2 = true ∧ Go (ab_at mi (pc + 3)) mi (pc + 3) L S (ab_seti h o 5 x) Q) := propext ⟨fun z => ⟨z.1, z.2.2.2.2.2.2.2⟩, fun z => ⟨z.1, (by decide : 5 < ab_N 2), (by omega), rfl, rfl, rfl, Or.inl rfl, z.2⟩⟩
theorem gg_2_6 {mi pc o : Nat} {L : ab_L} {S : List Value} {h : ab_H} {Q : Option Value → ab_H → Prop} : GoG (some (2, 6)) mi pc L o S h Q = (ab_ref h o 2 = true ∧ Go (ab_at mi (pc + 3)) mi (pc + 3) L (.int (h.2.1 o 6) :: S) h Q) := propext ⟨fun z => ⟨z.1, z.2.2.2⟩, fun z => ⟨z.1, (by decide : 6 < ab_N 2), (by omega), z.2⟩⟩
theorem gp_2_6 {mi pc o : Nat} {L : ab_L} {S : List Value} {h : ab_H} {Q : Option Value → ab_H → Prop} {x : Int32} : GoP (some (2, 6)) mi pc L o (.int x) S h Q = (ab_ref h o 2 = true ∧ Go (ab_at mi (pc + 3)) mi (pc + 3) L S (ab_seti h o 6 x) Q) := propext ⟨fun z => ⟨z.1, z.2.2.2.2.2.2.2⟩, fun z => ⟨z.1, (by decide : 6 < ab_N 2), (by omega), rfl, rfl, rfl, Or.inl rfl, z.2⟩⟩
theorem gg_2_7 {mi pc o : Nat} {L : ab_L} {S : List Value} {h : ab_H} {Q : Option Value → ab_H → Prop} : GoG (some (2, 7)) mi pc L o S h Q = (ab_ref h o 2 = true ∧ Go (ab_at mi (pc + 3)) mi (pc + 3) L (va_rf (ab_rf h o 7) :: S) h Q) := propext ⟨fun z => ⟨z.1, z.2.2.2⟩, fun z => ⟨z.1, (by decide : 7 < ab_N 2), (by omega), z.2⟩⟩
theorem gg_2_8 {mi pc o : Nat} {L : ab_L} {S : List Value} {h : ab_H} {Q : Option Value → ab_H → Prop} : GoG (some (2, 8)) mi pc L o S h Q = (ab_ref h o 2 = true ∧ Go (ab_at mi (pc + 3)) mi (pc + 3) L (.int (h.2.1 o 8) :: S) h Q) := propext ⟨fun z => ⟨z.1, z.2.2.2⟩, fun z => ⟨z.1, (by decide : 8 < ab_N 2), (by omega), z.2⟩⟩
theorem gp_2_8 {mi pc o : Nat} {L : ab_L} {S : List Value} {h : ab_H} {Q : Option Value → ab_H → Prop} {x : Int32} : GoP (some (2, 8)) mi pc L o (.int x) S h Q = (ab_ref h o 2 = true ∧ Go (ab_at mi (pc + 3)) mi (pc + 3) L S (ab_seti h o 8 x) Q) := propext ⟨fun z => ⟨z.1, z.2.2.2.2.2.2.2⟩, fun z => ⟨z.1, (by decide : 8 < ab_N 2), (by omega), rfl, rfl, rfl, Or.inl rfl, z.2⟩⟩
theorem gg_2_9 {mi pc o : Nat} {L : ab_L} {S : List Value} {h : ab_H} {Q : Option Value → ab_H → Prop} : GoG (some (2, 9)) mi pc L o S h Q = (ab_ref h o 2 = true ∧ Go (ab_at mi (pc + 3)) mi (pc + 3) L (.int (h.2.1 o 9) :: S) h Q) := propext ⟨fun z => ⟨z.1, z.2.2.2⟩, fun z => ⟨z.1, (by decide : 9 < ab_N 2), (by omega), z.2⟩⟩
theorem gp_2_9 {mi pc o : Nat} {L : ab_L} {S : List Value} {h : ab_H} {Q : Option Value → ab_H → Prop} {x : Int32} : GoP (some (2, 9)) mi pc L o (.int x) S h Q = (ab_ref h o 2 = true ∧ Go (ab_at mi (pc + 3)) mi (pc + 3) L S (ab_seti h o 9 x) Q) := propext ⟨fun z => ⟨z.1, z.2.2.2.2.2.2.2⟩, fun z => ⟨z.1, (by decide : 9 < ab_N 2), (by omega), rfl, rfl, rfl, Or.inl rfl, z.2⟩⟩
theorem gg_3_0 {mi pc o : Nat} {L : ab_L} {S : List Value} {h : ab_H} {Q : Option Value → ab_H → Prop} : GoG (some (3, 0)) mi pc L o S h Q = (ab_ref h o 3 = true ∧ Go (ab_at mi (pc + 3)) mi (pc + 3) L (.int (h.2.1 o 0) :: S) h Q) := propext ⟨fun z => ⟨z.1, z.2.2.2⟩, fun z => ⟨z.1, (by decide : 0 < ab_N 3), (by omega), z.2⟩⟩
theorem gp_3_0 {mi pc o : Nat} {L : ab_L} {S : List Value} {h : ab_H} {Q : Option Value → ab_H → Prop} {x : Int32} : GoP (some (3, 0)) mi pc L o (.int x) S h Q = (ab_ref h o 3 = true ∧ Go (ab_at mi (pc + 3)) mi (pc + 3) L S (ab_seti h o 0 x) Q) := propext ⟨fun z => ⟨z.1, z.2.2.2.2.2.2.2⟩, fun z => ⟨z.1, (by decide : 0 < ab_N 3), (by omega), rfl, rfl, rfl, Or.inl rfl, z.2⟩⟩
theorem gg_3_1 {mi pc o : Nat} {L : ab_L} {S : List Value} {h : ab_H} {Q : Option Value → ab_H → Prop} : GoG (some (3, 1)) mi pc L o S h Q = (ab_ref h o 3 = true ∧ Go (ab_at mi (pc + 3)) mi (pc + 3) L (.int (h.2.1 o 1) :: S) h Q) := propext ⟨fun z => ⟨z.1, z.2.2.2⟩, fun z => ⟨z.1, (by decide : 1 < ab_N 3), (by omega), z.2⟩⟩
theorem gp_3_1 {mi pc o : Nat} {L : ab_L} {S : List Value} {h : ab_H} {Q : Option Value → ab_H → Prop} {x : Int32} : GoP (some (3, 1)) mi pc L o (.int x) S h Q = (ab_ref h o 3 = true ∧ Go (ab_at mi (pc + 3)) mi (pc + 3) L S (ab_seti h o 1 x) Q) := propext ⟨fun z => ⟨z.1, z.2.2.2.2.2.2.2⟩, fun z => ⟨z.1, (by decide : 1 < ab_N 3), (by omega), rfl, rfl, rfl, Or.inl rfl, z.2⟩⟩
theorem gg_3_2 {mi pc o : Nat} {L : ab_L} {S : List Value} {h : ab_H} {Q : Option Value → ab_H → Prop} : GoG (some (3, 2)) mi pc L o S h Q = (ab_ref h o 3 = true ∧ Go (ab_at mi (pc + 3)) mi (pc + 3) L (va_rf (ab_rf h o 2) :: S) h Q) := propext ⟨fun z => ⟨z.1, z.2.2.2⟩, fun z => ⟨z.1, (by decide : 2 < ab_N 3), (by omega), z.2⟩⟩
theorem gg_3_3 {mi pc o : Nat} {L : ab_L} {S : List Value} {h : ab_H} {Q : Option Value → ab_H → Prop} : GoG (some (3, 3)) mi pc L o S h Q = (ab_ref h o 3 = true ∧ Go (ab_at mi (pc + 3)) mi (pc + 3) L (va_rf (ab_rf h o 3) :: S) h Q) := propext ⟨fun z => ⟨z.1, z.2.2.2⟩, fun z => ⟨z.1, (by decide : 3 < ab_N 3), (by omega), z.2⟩⟩
theorem gg_3_4 {mi pc o : Nat} {L : ab_L} {S : List Value} {h : ab_H} {Q : Option Value → ab_H → Prop} : GoG (some (3, 4)) mi pc L o S h Q = (ab_ref h o 3 = true ∧ Go (ab_at mi (pc + 3)) mi (pc + 3) L (va_rf (ab_rf h o 4) :: S) h Q) := propext ⟨fun z => ⟨z.1, z.2.2.2⟩, fun z => ⟨z.1, (by decide : 4 < ab_N 3), (by omega), z.2⟩⟩
theorem gg_3_5 {mi pc o : Nat} {L : ab_L} {S : List Value} {h : ab_H} {Q : Option Value → ab_H → Prop} : GoG (some (3, 5)) mi pc L o S h Q = (ab_ref h o 3 = true ∧ Go (ab_at mi (pc + 3)) mi (pc + 3) L (va_rf (ab_rf h o 5) :: S) h Q) := propext ⟨fun z => ⟨z.1, z.2.2.2⟩, fun z => ⟨z.1, (by decide : 5 < ab_N 3), (by omega), z.2⟩⟩
theorem gg_3_6 {mi pc o : Nat} {L : ab_L} {S : List Value} {h : ab_H} {Q : Option Value → ab_H → Prop} : GoG (some (3, 6)) mi pc L o S h Q = (ab_ref h o 3 = true ∧ Go (ab_at mi (pc + 3)) mi (pc + 3) L (va_rf (ab_rf h o 6) :: S) h Q) := propext ⟨fun z => ⟨z.1, z.2.2.2⟩, fun z => ⟨z.1, (by decide : 6 < ab_N 3), (by omega), z.2⟩⟩
theorem gg_3_7 {mi pc o : Nat} {L : ab_L} {S : List Value} {h : ab_H} {Q : Option Value → ab_H → Prop} : GoG (some (3, 7)) mi pc L o S h Q = (ab_ref h o 3 = true ∧ Go (ab_at mi (pc + 3)) mi (pc + 3) L (va_rf (ab_rf h o 7) :: S) h Q) := propext ⟨fun z => ⟨z.1, z.2.2.2⟩, fun z => ⟨z.1, (by decide : 7 < ab_N 3), (by omega), z.2⟩⟩
theorem gg_3_8 {mi pc o : Nat} {L : ab_L} {S : List Value} {h : ab_H} {Q : Option Value → ab_H → Prop} : GoG (some (3, 8)) mi pc L o S h Q = (ab_ref h o 3 = true ∧ Go (ab_at mi (pc + 3)) mi (pc + 3) L (va_rf (ab_rf h o 8) :: S) h Q) := propext ⟨fun z => ⟨z.1, z.2.2.2⟩, fun z => ⟨z.1, (by decide : 8 < ab_N 3), (by omega), z.2⟩⟩
theorem gg_3_9 {mi pc o : Nat} {L : ab_L} {S : List Value} {h : ab_H} {Q : Option Value → ab_H → Prop} : GoG (some (3, 9)) mi pc L o S h Q = (ab_ref h o 3 = true ∧ Go (ab_at mi (pc + 3)) mi (pc + 3) L (va_rf (ab_rf h o 9) :: S) h Q) := propext ⟨fun z => ⟨z.1, z.2.2.2⟩, fun z => ⟨z.1, (by decide : 9 < ab_N 3), (by omega), z.2⟩⟩
theorem gg_3_10 {mi pc o : Nat} {L : ab_L} {S : List Value} {h : ab_H} {Q : Option Value → ab_H → Prop} : GoG (some (3, 10)) mi pc L o S h Q = (ab_ref h o 3 = true ∧ Go (ab_at mi (pc + 3)) mi (pc + 3) L (va_rf (ab_rf h o 10) :: S) h Q) := propext ⟨fun z => ⟨z.1, z.2.2.2⟩, fun z => ⟨z.1, (by decide : 10 < ab_N 3), (by omega), z.2⟩⟩
theorem gg_3_11 {mi pc o : Nat} {L : ab_L} {S : List Value} {h : ab_H} {Q : Option Value → ab_H → Prop} : GoG (some (3, 11)) mi pc L o S h Q = (ab_ref h o 3 = true ∧ Go (ab_at mi (pc + 3)) mi (pc + 3) L (va_rf (ab_rf h o 11) :: S) h Q) := propext ⟨fun z => ⟨z.1, z.2.2.2⟩, fun z => ⟨z.1, (by decide : 11 < ab_N 3), (by omega), z.2⟩⟩
theorem gg_3_12 {mi pc o : Nat} {L : ab_L} {S : List Value} {h : ab_H} {Q : Option Value → ab_H → Prop} : GoG (some (3, 12)) mi pc L o S h Q = (ab_ref h o 3 = true ∧ Go (ab_at mi (pc + 3)) mi (pc + 3) L (va_rf (ab_rf h o 12) :: S) h Q) := propext ⟨fun z => ⟨z.1, z.2.2.2⟩, fun z => ⟨z.1, (by decide : 12 < ab_N 3), (by omega), z.2⟩⟩
theorem gg_3_13 {mi pc o : Nat} {L : ab_L} {S : List Value} {h : ab_H} {Q : Option Value → ab_H → Prop} : GoG (some (3, 13)) mi pc L o S h Q = (ab_ref h o 3 = true ∧ Go (ab_at mi (pc + 3)) mi (pc + 3) L (va_rf (ab_rf h o 13) :: S) h Q) := propext ⟨fun z => ⟨z.1, z.2.2.2⟩, fun z => ⟨z.1, (by decide : 13 < ab_N 3), (by omega), z.2⟩⟩
theorem gg_3_14 {mi pc o : Nat} {L : ab_L} {S : List Value} {h : ab_H} {Q : Option Value → ab_H → Prop} : GoG (some (3, 14)) mi pc L o S h Q = (ab_ref h o 3 = true ∧ Go (ab_at mi (pc + 3)) mi (pc + 3) L (va_rf (ab_rf h o 14) :: S) h Q) := propext ⟨fun z => ⟨z.1, z.2.2.2⟩, fun z => ⟨z.1, (by decide : 14 < ab_N 3), (by omega), z.2⟩⟩
theorem gg_3_15 {mi pc o : Nat} {L : ab_L} {S : List Value} {h : ab_H} {Q : Option Value → ab_H → Prop} : GoG (some (3, 15)) mi pc L o S h Q = (ab_ref h o 3 = true ∧ Go (ab_at mi (pc + 3)) mi (pc + 3) L (va_rf (ab_rf h o 15) :: S) h Q) := propext ⟨fun z => ⟨z.1, z.2.2.2⟩, fun z => ⟨z.1, (by decide : 15 < ab_N 3), (by omega), z.2⟩⟩
theorem gg_3_16 {mi pc o : Nat} {L : ab_L} {S : List Value} {h : ab_H} {Q : Option Value → ab_H → Prop} : GoG (some (3, 16)) mi pc L o S h Q = (ab_ref h o 3 = true ∧ Go (ab_at mi (pc + 3)) mi (pc + 3) L (va_rf (ab_rf h o 16) :: S) h Q) := propext ⟨fun z => ⟨z.1, z.2.2.2⟩, fun z => ⟨z.1, (by decide : 16 < ab_N 3), (by omega), z.2⟩⟩
theorem gg_4_0 {mi pc o : Nat} {L : ab_L} {S : List Value} {h : ab_H} {Q : Option Value → ab_H → Prop} : GoG (some (4, 0)) mi pc L o S h Q = (ab_ref h o 4 = true ∧ Go (ab_at mi (pc + 3)) mi (pc + 3) L (va_rf (ab_rf h o 0) :: S) h Q) := propext ⟨fun z => ⟨z.1, z.2.2.2⟩, fun z => ⟨z.1, (by decide : 0 < ab_N 4), (by omega), z.2⟩⟩
theorem gg_4_1 {mi pc o : Nat} {L : ab_L} {S : List Value} {h : ab_H} {Q : Option Value → ab_H → Prop} : GoG (some (4, 1)) mi pc L o S h Q = (ab_ref h o 4 = true ∧ Go (ab_at mi (pc + 3)) mi (pc + 3) L (va_rf (ab_rf h o 1) :: S) h Q) := propext ⟨fun z => ⟨z.1, z.2.2.2⟩, fun z => ⟨z.1, (by decide : 1 < ab_N 4), (by omega), z.2⟩⟩
theorem gg_4_2 {mi pc o : Nat} {L : ab_L} {S : List Value} {h : ab_H} {Q : Option Value → ab_H → Prop} : GoG (some (4, 2)) mi pc L o S h Q = (ab_ref h o 4 = true ∧ Go (ab_at mi (pc + 3)) mi (pc + 3) L (.int (h.2.1 o 2) :: S) h Q) := propext ⟨fun z => ⟨z.1, z.2.2.2⟩, fun z => ⟨z.1, (by decide : 2 < ab_N 4), (by omega), z.2⟩⟩
theorem gp_4_2 {mi pc o : Nat} {L : ab_L} {S : List Value} {h : ab_H} {Q : Option Value → ab_H → Prop} {x : Int32} : GoP (some (4, 2)) mi pc L o (.int x) S h Q = (ab_ref h o 4 = true ∧ Go (ab_at mi (pc + 3)) mi (pc + 3) L S (ab_seti h o 2 x) Q) := propext ⟨fun z => ⟨z.1, z.2.2.2.2.2.2.2⟩, fun z => ⟨z.1, (by decide : 2 < ab_N 4), (by omega), rfl, rfl, rfl, Or.inl rfl, z.2⟩⟩
theorem gg_4_3 {mi pc o : Nat} {L : ab_L} {S : List Value} {h : ab_H} {Q : Option Value → ab_H → Prop} : GoG (some (4, 3)) mi pc L o S h Q = (ab_ref h o 4 = true ∧ Go (ab_at mi (pc + 3)) mi (pc + 3) L (.int (h.2.1 o 3) :: S) h Q) := propext ⟨fun z => ⟨z.1, z.2.2.2⟩, fun z => ⟨z.1, (by decide : 3 < ab_N 4), (by omega), z.2⟩⟩
theorem gp_4_3 {mi pc o : Nat} {L : ab_L} {S : List Value} {h : ab_H} {Q : Option Value → ab_H → Prop} {x : Int32} : GoP (some (4, 3)) mi pc L o (.int x) S h Q = (ab_ref h o 4 = true ∧ Go (ab_at mi (pc + 3)) mi (pc + 3) L S (ab_seti h o 3 x) Q) := propext ⟨fun z => ⟨z.1, z.2.2.2.2.2.2.2⟩, fun z => ⟨z.1, (by decide : 3 < ab_N 4), (by omega), rfl, rfl, rfl, Or.inl rfl, z.2⟩⟩
theorem gg_4_4 {mi pc o : Nat} {L : ab_L} {S : List Value} {h : ab_H} {Q : Option Value → ab_H → Prop} : GoG (some (4, 4)) mi pc L o S h Q = (ab_ref h o 4 = true ∧ Go (ab_at mi (pc + 3)) mi (pc + 3) L (va_rf (ab_rf h o 4) :: S) h Q) := propext ⟨fun z => ⟨z.1, z.2.2.2⟩, fun z => ⟨z.1, (by decide : 4 < ab_N 4), (by omega), z.2⟩⟩
theorem gg_4_5 {mi pc o : Nat} {L : ab_L} {S : List Value} {h : ab_H} {Q : Option Value → ab_H → Prop} : GoG (some (4, 5)) mi pc L o S h Q = (ab_ref h o 4 = true ∧ Go (ab_at mi (pc + 3)) mi (pc + 3) L (va_rf (ab_rf h o 5) :: S) h Q) := propext ⟨fun z => ⟨z.1, z.2.2.2⟩, fun z => ⟨z.1, (by decide : 5 < ab_N 4), (by omega), z.2⟩⟩
theorem gg_4_6 {mi pc o : Nat} {L : ab_L} {S : List Value} {h : ab_H} {Q : Option Value → ab_H → Prop} : GoG (some (4, 6)) mi pc L o S h Q = (ab_ref h o 4 = true ∧ Go (ab_at mi (pc + 3)) mi (pc + 3) L (va_rf (ab_rf h o 6) :: S) h Q) := propext ⟨fun z => ⟨z.1, z.2.2.2⟩, fun z => ⟨z.1, (by decide : 6 < ab_N 4), (by omega), z.2⟩⟩
theorem gg_4_7 {mi pc o : Nat} {L : ab_L} {S : List Value} {h : ab_H} {Q : Option Value → ab_H → Prop} : GoG (some (4, 7)) mi pc L o S h Q = (ab_ref h o 4 = true ∧ Go (ab_at mi (pc + 3)) mi (pc + 3) L (.int (h.2.1 o 7) :: S) h Q) := propext ⟨fun z => ⟨z.1, z.2.2.2⟩, fun z => ⟨z.1, (by decide : 7 < ab_N 4), (by omega), z.2⟩⟩
theorem gp_4_7 {mi pc o : Nat} {L : ab_L} {S : List Value} {h : ab_H} {Q : Option Value → ab_H → Prop} {x : Int32} : GoP (some (4, 7)) mi pc L o (.int x) S h Q = (ab_ref h o 4 = true ∧ Go (ab_at mi (pc + 3)) mi (pc + 3) L S (ab_seti h o 7 x) Q) := propext ⟨fun z => ⟨z.1, z.2.2.2.2.2.2.2⟩, fun z => ⟨z.1, (by decide : 7 < ab_N 4), (by omega), rfl, rfl, rfl, Or.inl rfl, z.2⟩⟩
theorem gg_4_8 {mi pc o : Nat} {L : ab_L} {S : List Value} {h : ab_H} {Q : Option Value → ab_H → Prop} : GoG (some (4, 8)) mi pc L o S h Q = (ab_ref h o 4 = true ∧ Go (ab_at mi (pc + 3)) mi (pc + 3) L (.int (h.2.1 o 8) :: S) h Q) := propext ⟨fun z => ⟨z.1, z.2.2.2⟩, fun z => ⟨z.1, (by decide : 8 < ab_N 4), (by omega), z.2⟩⟩
theorem gp_4_8 {mi pc o : Nat} {L : ab_L} {S : List Value} {h : ab_H} {Q : Option Value → ab_H → Prop} {x : Int32} : GoP (some (4, 8)) mi pc L o (.int x) S h Q = (ab_ref h o 4 = true ∧ Go (ab_at mi (pc + 3)) mi (pc + 3) L S (ab_seti h o 8 x) Q) := propext ⟨fun z => ⟨z.1, z.2.2.2.2.2.2.2⟩, fun z => ⟨z.1, (by decide : 8 < ab_N 4), (by omega), rfl, rfl, rfl, Or.inl rfl, z.2⟩⟩
theorem gg_4_9 {mi pc o : Nat} {L : ab_L} {S : List Value} {h : ab_H} {Q : Option Value → ab_H → Prop} : GoG (some (4, 9)) mi pc L o S h Q = (ab_ref h o 4 = true ∧ Go (ab_at mi (pc + 3)) mi (pc + 3) L (.int (h.2.1 o 9) :: S) h Q) := propext ⟨fun z => ⟨z.1, z.2.2.2⟩, fun z => ⟨z.1, (by decide : 9 < ab_N 4), (by omega), z.2⟩⟩
theorem gp_4_9 {mi pc o : Nat} {L : ab_L} {S : List Value} {h : ab_H} {Q : Option Value → ab_H → Prop} {x : Int32} : GoP (some (4, 9)) mi pc L o (.int x) S h Q = (ab_ref h o 4 = true ∧ Go (ab_at mi (pc + 3)) mi (pc + 3) L S (ab_seti h o 9 x) Q) := propext ⟨fun z => ⟨z.1, z.2.2.2.2.2.2.2⟩, fun z => ⟨z.1, (by decide : 9 < ab_N 4), (by omega), rfl, rfl, rfl, Or.inl rfl, z.2⟩⟩
theorem gg_4_10 {mi pc o : Nat} {L : ab_L} {S : List Value} {h : ab_H} {Q : Option Value → ab_H → Prop} : GoG (some (4, 10)) mi pc L o S h Q = (ab_ref h o 4 = true ∧ Go (ab_at mi (pc + 3)) mi (pc + 3) L (.int (h.2.1 o 10) :: S) h Q) := propext ⟨fun z => ⟨z.1, z.2.2.2⟩, fun z => ⟨z.1, (by decide : 10 < ab_N 4), (by omega), z.2⟩⟩
theorem gp_4_10 {mi pc o : Nat} {L : ab_L} {S : List Value} {h : ab_H} {Q : Option Value → ab_H → Prop} {x : Int32} : GoP (some (4, 10)) mi pc L o (.int x) S h Q = (ab_ref h o 4 = true ∧ (x = 0 ∨ x = 1) ∧ Go (ab_at mi (pc + 3)) mi (pc + 3) L S (ab_seti h o 10 x) Q) := propext ⟨fun z => ⟨z.1, (by have := z.2.2.2.1; simpa [ab_fit, ab_ty, tyX4] using this), z.2.2.2.2.2.2.2⟩, fun z => ⟨z.1, (by decide : 10 < ab_N 4), (by omega), (by simpa [ab_fit, ab_ty, tyX4] using z.2.1), rfl, rfl, Or.inl rfl, z.2.2⟩⟩
theorem gg_4_11 {mi pc o : Nat} {L : ab_L} {S : List Value} {h : ab_H} {Q : Option Value → ab_H → Prop} : GoG (some (4, 11)) mi pc L o S h Q = (ab_ref h o 4 = true ∧ Go (ab_at mi (pc + 3)) mi (pc + 3) L (.int (h.2.1 o 11) :: S) h Q) := propext ⟨fun z => ⟨z.1, z.2.2.2⟩, fun z => ⟨z.1, (by decide : 11 < ab_N 4), (by omega), z.2⟩⟩
theorem gp_4_11 {mi pc o : Nat} {L : ab_L} {S : List Value} {h : ab_H} {Q : Option Value → ab_H → Prop} {x : Int32} : GoP (some (4, 11)) mi pc L o (.int x) S h Q = (ab_ref h o 4 = true ∧ (x = 0 ∨ x = 1) ∧ Go (ab_at mi (pc + 3)) mi (pc + 3) L S (ab_seti h o 11 x) Q) := propext ⟨fun z => ⟨z.1, (by have := z.2.2.2.1; simpa [ab_fit, ab_ty, tyX4] using this), z.2.2.2.2.2.2.2⟩, fun z => ⟨z.1, (by decide : 11 < ab_N 4), (by omega), (by simpa [ab_fit, ab_ty, tyX4] using z.2.1), rfl, rfl, Or.inl rfl, z.2.2⟩⟩
theorem gg_5_0 {mi pc o : Nat} {L : ab_L} {S : List Value} {h : ab_H} {Q : Option Value → ab_H → Prop} : GoG (some (5, 0)) mi pc L o S h Q = (ab_ref h o 5 = true ∧ Go (ab_at mi (pc + 3)) mi (pc + 3) L (va_rf (ab_rf h o 0) :: S) h Q) := propext ⟨fun z => ⟨z.1, z.2.2.2⟩, fun z => ⟨z.1, (by decide : 0 < ab_N 5), (by omega), z.2⟩⟩
theorem gg_5_1 {mi pc o : Nat} {L : ab_L} {S : List Value} {h : ab_H} {Q : Option Value → ab_H → Prop} : GoG (some (5, 1)) mi pc L o S h Q = (ab_ref h o 5 = true ∧ Go (ab_at mi (pc + 3)) mi (pc + 3) L (.int (h.2.1 o 1) :: S) h Q) := propext ⟨fun z => ⟨z.1, z.2.2.2⟩, fun z => ⟨z.1, (by decide : 1 < ab_N 5), (by omega), z.2⟩⟩
theorem gp_5_1 {mi pc o : Nat} {L : ab_L} {S : List Value} {h : ab_H} {Q : Option Value → ab_H → Prop} {x : Int32} : GoP (some (5, 1)) mi pc L o (.int x) S h Q = (ab_ref h o 5 = true ∧ Go (ab_at mi (pc + 3)) mi (pc + 3) L S (ab_seti h o 1 x) Q) := propext ⟨fun z => ⟨z.1, z.2.2.2.2.2.2.2⟩, fun z => ⟨z.1, (by decide : 1 < ab_N 5), (by omega), rfl, rfl, rfl, Or.inl rfl, z.2⟩⟩
theorem gg_5_2 {mi pc o : Nat} {L : ab_L} {S : List Value} {h : ab_H} {Q : Option Value → ab_H → Prop} : GoG (some (5, 2)) mi pc L o S h Q = (ab_ref h o 5 = true ∧ Go (ab_at mi (pc + 3)) mi (pc + 3) L (va_rf (ab_rf h o 2) :: S) h Q) := propext ⟨fun z => ⟨z.1, z.2.2.2⟩, fun z => ⟨z.1, (by decide : 2 < ab_N 5), (by omega), z.2⟩⟩
theorem gg_5_3 {mi pc o : Nat} {L : ab_L} {S : List Value} {h : ab_H} {Q : Option Value → ab_H → Prop} : GoG (some (5, 3)) mi pc L o S h Q = (ab_ref h o 5 = true ∧ Go (ab_at mi (pc + 3)) mi (pc + 3) L (va_rf (ab_rf h o 3) :: S) h Q) := propext ⟨fun z => ⟨z.1, z.2.2.2⟩, fun z => ⟨z.1, (by decide : 3 < ab_N 5), (by omega), z.2⟩⟩
theorem gg_6_0 {mi pc o : Nat} {L : ab_L} {S : List Value} {h : ab_H} {Q : Option Value → ab_H → Prop} : GoG (some (6, 0)) mi pc L o S h Q = (ab_ref h o 6 = true ∧ Go (ab_at mi (pc + 3)) mi (pc + 3) L (va_rf (ab_rf h o 0) :: S) h Q) := propext ⟨fun z => ⟨z.1, z.2.2.2⟩, fun z => ⟨z.1, (by decide : 0 < ab_N 6), (by omega), z.2⟩⟩
theorem gg_6_1 {mi pc o : Nat} {L : ab_L} {S : List Value} {h : ab_H} {Q : Option Value → ab_H → Prop} : GoG (some (6, 1)) mi pc L o S h Q = (ab_ref h o 6 = true ∧ Go (ab_at mi (pc + 3)) mi (pc + 3) L (.int (h.2.1 o 1) :: S) h Q) := propext ⟨fun z => ⟨z.1, z.2.2.2⟩, fun z => ⟨z.1, (by decide : 1 < ab_N 6), (by omega), z.2⟩⟩
theorem gp_6_1 {mi pc o : Nat} {L : ab_L} {S : List Value} {h : ab_H} {Q : Option Value → ab_H → Prop} {x : Int32} : GoP (some (6, 1)) mi pc L o (.int x) S h Q = (ab_ref h o 6 = true ∧ Go (ab_at mi (pc + 3)) mi (pc + 3) L S (ab_seti h o 1 x) Q) := propext ⟨fun z => ⟨z.1, z.2.2.2.2.2.2.2⟩, fun z => ⟨z.1, (by decide : 1 < ab_N 6), (by omega), rfl, rfl, rfl, Or.inl rfl, z.2⟩⟩
theorem gg_7_0 {mi pc o : Nat} {L : ab_L} {S : List Value} {h : ab_H} {Q : Option Value → ab_H → Prop} : GoG (some (7, 0)) mi pc L o S h Q = (ab_ref h o 7 = true ∧ Go (ab_at mi (pc + 3)) mi (pc + 3) L (va_rf (ab_rf h o 0) :: S) h Q) := propext ⟨fun z => ⟨z.1, z.2.2.2⟩, fun z => ⟨z.1, (by decide : 0 < ab_N 7), (by omega), z.2⟩⟩
theorem gg_7_1 {mi pc o : Nat} {L : ab_L} {S : List Value} {h : ab_H} {Q : Option Value → ab_H → Prop} : GoG (some (7, 1)) mi pc L o S h Q = (ab_ref h o 7 = true ∧ Go (ab_at mi (pc + 3)) mi (pc + 3) L (va_rf (ab_rf h o 1) :: S) h Q) := propext ⟨fun z => ⟨z.1, z.2.2.2⟩, fun z => ⟨z.1, (by decide : 1 < ab_N 7), (by omega), z.2⟩⟩
theorem gg_7_2 {mi pc o : Nat} {L : ab_L} {S : List Value} {h : ab_H} {Q : Option Value → ab_H → Prop} : GoG (some (7, 2)) mi pc L o S h Q = (ab_ref h o 7 = true ∧ Go (ab_at mi (pc + 3)) mi (pc + 3) L (va_rf (ab_rf h o 2) :: S) h Q) := propext ⟨fun z => ⟨z.1, z.2.2.2⟩, fun z => ⟨z.1, (by decide : 2 < ab_N 7), (by omega), z.2⟩⟩
theorem gg_7_3 {mi pc o : Nat} {L : ab_L} {S : List Value} {h : ab_H} {Q : Option Value → ab_H → Prop} : GoG (some (7, 3)) mi pc L o S h Q = (ab_ref h o 7 = true ∧ Go (ab_at mi (pc + 3)) mi (pc + 3) L (va_rf (ab_rf h o 3) :: S) h Q) := propext ⟨fun z => ⟨z.1, z.2.2.2⟩, fun z => ⟨z.1, (by decide : 3 < ab_N 7), (by omega), z.2⟩⟩
theorem gg_7_4 {mi pc o : Nat} {L : ab_L} {S : List Value} {h : ab_H} {Q : Option Value → ab_H → Prop} : GoG (some (7, 4)) mi pc L o S h Q = (ab_ref h o 7 = true ∧ Go (ab_at mi (pc + 3)) mi (pc + 3) L (va_rf (ab_rf h o 4) :: S) h Q) := propext ⟨fun z => ⟨z.1, z.2.2.2⟩, fun z => ⟨z.1, (by decide : 4 < ab_N 7), (by omega), z.2⟩⟩
theorem gg_7_5 {mi pc o : Nat} {L : ab_L} {S : List Value} {h : ab_H} {Q : Option Value → ab_H → Prop} : GoG (some (7, 5)) mi pc L o S h Q = (ab_ref h o 7 = true ∧ Go (ab_at mi (pc + 3)) mi (pc + 3) L (va_rf (ab_rf h o 5) :: S) h Q) := propext ⟨fun z => ⟨z.1, z.2.2.2⟩, fun z => ⟨z.1, (by decide : 5 < ab_N 7), (by omega), z.2⟩⟩
theorem gg_7_6 {mi pc o : Nat} {L : ab_L} {S : List Value} {h : ab_H} {Q : Option Value → ab_H → Prop} : GoG (some (7, 6)) mi pc L o S h Q = (ab_ref h o 7 = true ∧ Go (ab_at mi (pc + 3)) mi (pc + 3) L (va_rf (ab_rf h o 6) :: S) h Q) := propext ⟨fun z => ⟨z.1, z.2.2.2⟩, fun z => ⟨z.1, (by decide : 6 < ab_N 7), (by omega), z.2⟩⟩
theorem gg_7_7 {mi pc o : Nat} {L : ab_L} {S : List Value} {h : ab_H} {Q : Option Value → ab_H → Prop} : GoG (some (7, 7)) mi pc L o S h Q = (ab_ref h o 7 = true ∧ Go (ab_at mi (pc + 3)) mi (pc + 3) L (va_rf (ab_rf h o 7) :: S) h Q) := propext ⟨fun z => ⟨z.1, z.2.2.2⟩, fun z => ⟨z.1, (by decide : 7 < ab_N 7), (by omega), z.2⟩⟩
theorem gg_7_8 {mi pc o : Nat} {L : ab_L} {S : List Value} {h : ab_H} {Q : Option Value → ab_H → Prop} : GoG (some (7, 8)) mi pc L o S h Q = (ab_ref h o 7 = true ∧ Go (ab_at mi (pc + 3)) mi (pc + 3) L (va_rf (ab_rf h o 8) :: S) h Q) := propext ⟨fun z => ⟨z.1, z.2.2.2⟩, fun z => ⟨z.1, (by decide : 8 < ab_N 7), (by omega), z.2⟩⟩
theorem gg_7_9 {mi pc o : Nat} {L : ab_L} {S : List Value} {h : ab_H} {Q : Option Value → ab_H → Prop} : GoG (some (7, 9)) mi pc L o S h Q = (ab_ref h o 7 = true ∧ Go (ab_at mi (pc + 3)) mi (pc + 3) L (va_rf (ab_rf h o 9) :: S) h Q) := propext ⟨fun z => ⟨z.1, z.2.2.2⟩, fun z => ⟨z.1, (by decide : 9 < ab_N 7), (by omega), z.2⟩⟩
theorem gg_8_0 {mi pc o : Nat} {L : ab_L} {S : List Value} {h : ab_H} {Q : Option Value → ab_H → Prop} : GoG (some (8, 0)) mi pc L o S h Q = (ab_ref h o 8 = true ∧ Go (ab_at mi (pc + 3)) mi (pc + 3) L (va_rf (ab_rf h o 0) :: S) h Q) := propext ⟨fun z => ⟨z.1, z.2.2.2⟩, fun z => ⟨z.1, (by decide : 0 < ab_N 8), (by omega), z.2⟩⟩
theorem gg_8_1 {mi pc o : Nat} {L : ab_L} {S : List Value} {h : ab_H} {Q : Option Value → ab_H → Prop} : GoG (some (8, 1)) mi pc L o S h Q = (ab_ref h o 8 = true ∧ Go (ab_at mi (pc + 3)) mi (pc + 3) L (va_rf (ab_rf h o 1) :: S) h Q) := propext ⟨fun z => ⟨z.1, z.2.2.2⟩, fun z => ⟨z.1, (by decide : 1 < ab_N 8), (by omega), z.2⟩⟩
theorem gg_8_2 {mi pc o : Nat} {L : ab_L} {S : List Value} {h : ab_H} {Q : Option Value → ab_H → Prop} : GoG (some (8, 2)) mi pc L o S h Q = (ab_ref h o 8 = true ∧ Go (ab_at mi (pc + 3)) mi (pc + 3) L (.int (h.2.1 o 2) :: S) h Q) := propext ⟨fun z => ⟨z.1, z.2.2.2⟩, fun z => ⟨z.1, (by decide : 2 < ab_N 8), (by omega), z.2⟩⟩
theorem gp_8_2 {mi pc o : Nat} {L : ab_L} {S : List Value} {h : ab_H} {Q : Option Value → ab_H → Prop} {x : Int32} : GoP (some (8, 2)) mi pc L o (.int x) S h Q = (ab_ref h o 8 = true ∧ Go (ab_at mi (pc + 3)) mi (pc + 3) L S (ab_seti h o 2 x) Q) := propext ⟨fun z => ⟨z.1, z.2.2.2.2.2.2.2⟩, fun z => ⟨z.1, (by decide : 2 < ab_N 8), (by omega), rfl, rfl, rfl, Or.inl rfl, z.2⟩⟩
theorem gg_8_3 {mi pc o : Nat} {L : ab_L} {S : List Value} {h : ab_H} {Q : Option Value → ab_H → Prop} : GoG (some (8, 3)) mi pc L o S h Q = (ab_ref h o 8 = true ∧ Go (ab_at mi (pc + 3)) mi (pc + 3) L (.int (h.2.1 o 3) :: S) h Q) := propext ⟨fun z => ⟨z.1, z.2.2.2⟩, fun z => ⟨z.1, (by decide : 3 < ab_N 8), (by omega), z.2⟩⟩
theorem gp_8_3 {mi pc o : Nat} {L : ab_L} {S : List Value} {h : ab_H} {Q : Option Value → ab_H → Prop} {x : Int32} : GoP (some (8, 3)) mi pc L o (.int x) S h Q = (ab_ref h o 8 = true ∧ Go (ab_at mi (pc + 3)) mi (pc + 3) L S (ab_seti h o 3 x) Q) := propext ⟨fun z => ⟨z.1, z.2.2.2.2.2.2.2⟩, fun z => ⟨z.1, (by decide : 3 < ab_N 8), (by omega), rfl, rfl, rfl, Or.inl rfl, z.2⟩⟩
theorem gg_8_4 {mi pc o : Nat} {L : ab_L} {S : List Value} {h : ab_H} {Q : Option Value → ab_H → Prop} : GoG (some (8, 4)) mi pc L o S h Q = (ab_ref h o 8 = true ∧ Go (ab_at mi (pc + 3)) mi (pc + 3) L (.int (h.2.1 o 4) :: S) h Q) := propext ⟨fun z => ⟨z.1, z.2.2.2⟩, fun z => ⟨z.1, (by decide : 4 < ab_N 8), (by omega), z.2⟩⟩
theorem gp_8_4 {mi pc o : Nat} {L : ab_L} {S : List Value} {h : ab_H} {Q : Option Value → ab_H → Prop} {x : Int32} : GoP (some (8, 4)) mi pc L o (.int x) S h Q = (ab_ref h o 8 = true ∧ Go (ab_at mi (pc + 3)) mi (pc + 3) L S (ab_seti h o 4 x) Q) := propext ⟨fun z => ⟨z.1, z.2.2.2.2.2.2.2⟩, fun z => ⟨z.1, (by decide : 4 < ab_N 8), (by omega), rfl, rfl, rfl, Or.inl rfl, z.2⟩⟩
theorem gg_8_5 {mi pc o : Nat} {L : ab_L} {S : List Value} {h : ab_H} {Q : Option Value → ab_H → Prop} : GoG (some (8, 5)) mi pc L o S h Q = (ab_ref h o 8 = true ∧ Go (ab_at mi (pc + 3)) mi (pc + 3) L (.int (h.2.1 o 5) :: S) h Q) := propext ⟨fun z => ⟨z.1, z.2.2.2⟩, fun z => ⟨z.1, (by decide : 5 < ab_N 8), (by omega), z.2⟩⟩
theorem gp_8_5 {mi pc o : Nat} {L : ab_L} {S : List Value} {h : ab_H} {Q : Option Value → ab_H → Prop} {x : Int32} : GoP (some (8, 5)) mi pc L o (.int x) S h Q = (ab_ref h o 8 = true ∧ Go (ab_at mi (pc + 3)) mi (pc + 3) L S (ab_seti h o 5 x) Q) := propext ⟨fun z => ⟨z.1, z.2.2.2.2.2.2.2⟩, fun z => ⟨z.1, (by decide : 5 < ab_N 8), (by omega), rfl, rfl, rfl, Or.inl rfl, z.2⟩⟩
theorem gg_8_6 {mi pc o : Nat} {L : ab_L} {S : List Value} {h : ab_H} {Q : Option Value → ab_H → Prop} : GoG (some (8, 6)) mi pc L o S h Q = (ab_ref h o 8 = true ∧ Go (ab_at mi (pc + 3)) mi (pc + 3) L (.int (h.2.1 o 6) :: S) h Q) := propext ⟨fun z => ⟨z.1, z.2.2.2⟩, fun z => ⟨z.1, (by decide : 6 < ab_N 8), (by omega), z.2⟩⟩
theorem gp_8_6 {mi pc o : Nat} {L : ab_L} {S : List Value} {h : ab_H} {Q : Option Value → ab_H → Prop} {x : Int32} : GoP (some (8, 6)) mi pc L o (.int x) S h Q = (ab_ref h o 8 = true ∧ Go (ab_at mi (pc + 3)) mi (pc + 3) L S (ab_seti h o 6 x) Q) := propext ⟨fun z => ⟨z.1, z.2.2.2.2.2.2.2⟩, fun z => ⟨z.1, (by decide : 6 < ab_N 8), (by omega), rfl, rfl, rfl, Or.inl rfl, z.2⟩⟩
theorem gg_8_7 {mi pc o : Nat} {L : ab_L} {S : List Value} {h : ab_H} {Q : Option Value → ab_H → Prop} : GoG (some (8, 7)) mi pc L o S h Q = (ab_ref h o 8 = true ∧ Go (ab_at mi (pc + 3)) mi (pc + 3) L (.int (h.2.1 o 7) :: S) h Q) := propext ⟨fun z => ⟨z.1, z.2.2.2⟩, fun z => ⟨z.1, (by decide : 7 < ab_N 8), (by omega), z.2⟩⟩
theorem gp_8_7 {mi pc o : Nat} {L : ab_L} {S : List Value} {h : ab_H} {Q : Option Value → ab_H → Prop} {x : Int32} : GoP (some (8, 7)) mi pc L o (.int x) S h Q = (ab_ref h o 8 = true ∧ Go (ab_at mi (pc + 3)) mi (pc + 3) L S (ab_seti h o 7 x) Q) := propext ⟨fun z => ⟨z.1, z.2.2.2.2.2.2.2⟩, fun z => ⟨z.1, (by decide : 7 < ab_N 8), (by omega), rfl, rfl, rfl, Or.inl rfl, z.2⟩⟩
theorem gg_8_8 {mi pc o : Nat} {L : ab_L} {S : List Value} {h : ab_H} {Q : Option Value → ab_H → Prop} : GoG (some (8, 8)) mi pc L o S h Q = (ab_ref h o 8 = true ∧ Go (ab_at mi (pc + 3)) mi (pc + 3) L (.int (h.2.1 o 8) :: S) h Q) := propext ⟨fun z => ⟨z.1, z.2.2.2⟩, fun z => ⟨z.1, (by decide : 8 < ab_N 8), (by omega), z.2⟩⟩
theorem gp_8_8 {mi pc o : Nat} {L : ab_L} {S : List Value} {h : ab_H} {Q : Option Value → ab_H → Prop} {x : Int32} : GoP (some (8, 8)) mi pc L o (.int x) S h Q = (ab_ref h o 8 = true ∧ Go (ab_at mi (pc + 3)) mi (pc + 3) L S (ab_seti h o 8 x) Q) := propext ⟨fun z => ⟨z.1, z.2.2.2.2.2.2.2⟩, fun z => ⟨z.1, (by decide : 8 < ab_N 8), (by omega), rfl, rfl, rfl, Or.inl rfl, z.2⟩⟩
theorem gg_8_9 {mi pc o : Nat} {L : ab_L} {S : List Value} {h : ab_H} {Q : Option Value → ab_H → Prop} : GoG (some (8, 9)) mi pc L o S h Q = (ab_ref h o 8 = true ∧ Go (ab_at mi (pc + 3)) mi (pc + 3) L (.int (h.2.1 o 9) :: S) h Q) := propext ⟨fun z => ⟨z.1, z.2.2.2⟩, fun z => ⟨z.1, (by decide : 9 < ab_N 8), (by omega), z.2⟩⟩
theorem gp_8_9 {mi pc o : Nat} {L : ab_L} {S : List Value} {h : ab_H} {Q : Option Value → ab_H → Prop} {x : Int32} : GoP (some (8, 9)) mi pc L o (.int x) S h Q = (ab_ref h o 8 = true ∧ Go (ab_at mi (pc + 3)) mi (pc + 3) L S (ab_seti h o 9 x) Q) := propext ⟨fun z => ⟨z.1, z.2.2.2.2.2.2.2⟩, fun z => ⟨z.1, (by decide : 9 < ab_N 8), (by omega), rfl, rfl, rfl, Or.inl rfl, z.2⟩⟩
theorem gg_8_10 {mi pc o : Nat} {L : ab_L} {S : List Value} {h : ab_H} {Q : Option Value → ab_H → Prop} : GoG (some (8, 10)) mi pc L o S h Q = (ab_ref h o 8 = true ∧ Go (ab_at mi (pc + 3)) mi (pc + 3) L (va_rf (ab_rf h o 10) :: S) h Q) := propext ⟨fun z => ⟨z.1, z.2.2.2⟩, fun z => ⟨z.1, (by decide : 10 < ab_N 8), (by omega), z.2⟩⟩
theorem gg_8_11 {mi pc o : Nat} {L : ab_L} {S : List Value} {h : ab_H} {Q : Option Value → ab_H → Prop} : GoG (some (8, 11)) mi pc L o S h Q = (ab_ref h o 8 = true ∧ Go (ab_at mi (pc + 3)) mi (pc + 3) L (va_rf (ab_rf h o 11) :: S) h Q) := propext ⟨fun z => ⟨z.1, z.2.2.2⟩, fun z => ⟨z.1, (by decide : 11 < ab_N 8), (by omega), z.2⟩⟩
theorem gg_8_12 {mi pc o : Nat} {L : ab_L} {S : List Value} {h : ab_H} {Q : Option Value → ab_H → Prop} : GoG (some (8, 12)) mi pc L o S h Q = (ab_ref h o 8 = true ∧ Go (ab_at mi (pc + 3)) mi (pc + 3) L (va_rf (ab_rf h o 12) :: S) h Q) := propext ⟨fun z => ⟨z.1, z.2.2.2⟩, fun z => ⟨z.1, (by decide : 12 < ab_N 8), (by omega), z.2⟩⟩
theorem gg_8_13 {mi pc o : Nat} {L : ab_L} {S : List Value} {h : ab_H} {Q : Option Value → ab_H → Prop} : GoG (some (8, 13)) mi pc L o S h Q = (ab_ref h o 8 = true ∧ Go (ab_at mi (pc + 3)) mi (pc + 3) L (va_rf (ab_rf h o 13) :: S) h Q) := propext ⟨fun z => ⟨z.1, z.2.2.2⟩, fun z => ⟨z.1, (by decide : 13 < ab_N 8), (by omega), z.2⟩⟩
theorem gg_8_14 {mi pc o : Nat} {L : ab_L} {S : List Value} {h : ab_H} {Q : Option Value → ab_H → Prop} : GoG (some (8, 14)) mi pc L o S h Q = (ab_ref h o 8 = true ∧ Go (ab_at mi (pc + 3)) mi (pc + 3) L (va_rf (ab_rf h o 14) :: S) h Q) := propext ⟨fun z => ⟨z.1, z.2.2.2⟩, fun z => ⟨z.1, (by decide : 14 < ab_N 8), (by omega), z.2⟩⟩
theorem gg_8_15 {mi pc o : Nat} {L : ab_L} {S : List Value} {h : ab_H} {Q : Option Value → ab_H → Prop} : GoG (some (8, 15)) mi pc L o S h Q = (ab_ref h o 8 = true ∧ Go (ab_at mi (pc + 3)) mi (pc + 3) L (va_rf (ab_rf h o 15) :: S) h Q) := propext ⟨fun z => ⟨z.1, z.2.2.2⟩, fun z => ⟨z.1, (by decide : 15 < ab_N 8), (by omega), z.2⟩⟩
theorem gg_8_16 {mi pc o : Nat} {L : ab_L} {S : List Value} {h : ab_H} {Q : Option Value → ab_H → Prop} : GoG (some (8, 16)) mi pc L o S h Q = (ab_ref h o 8 = true ∧ Go (ab_at mi (pc + 3)) mi (pc + 3) L (va_rf (ab_rf h o 16) :: S) h Q) := propext ⟨fun z => ⟨z.1, z.2.2.2⟩, fun z => ⟨z.1, (by decide : 16 < ab_N 8), (by omega), z.2⟩⟩
theorem gg_8_17 {mi pc o : Nat} {L : ab_L} {S : List Value} {h : ab_H} {Q : Option Value → ab_H → Prop} : GoG (some (8, 17)) mi pc L o S h Q = (ab_ref h o 8 = true ∧ Go (ab_at mi (pc + 3)) mi (pc + 3) L (va_rf (ab_rf h o 17) :: S) h Q) := propext ⟨fun z => ⟨z.1, z.2.2.2⟩, fun z => ⟨z.1, (by decide : 17 < ab_N 8), (by omega), z.2⟩⟩
theorem gg_8_18 {mi pc o : Nat} {L : ab_L} {S : List Value} {h : ab_H} {Q : Option Value → ab_H → Prop} : GoG (some (8, 18)) mi pc L o S h Q = (ab_ref h o 8 = true ∧ Go (ab_at mi (pc + 3)) mi (pc + 3) L (.int (h.2.1 o 18) :: S) h Q) := propext ⟨fun z => ⟨z.1, z.2.2.2⟩, fun z => ⟨z.1, (by decide : 18 < ab_N 8), (by omega), z.2⟩⟩
theorem gp_8_18 {mi pc o : Nat} {L : ab_L} {S : List Value} {h : ab_H} {Q : Option Value → ab_H → Prop} {x : Int32} : GoP (some (8, 18)) mi pc L o (.int x) S h Q = (ab_ref h o 8 = true ∧ (x = 0 ∨ x = 1) ∧ Go (ab_at mi (pc + 3)) mi (pc + 3) L S (ab_seti h o 18 x) Q) := propext ⟨fun z => ⟨z.1, (by have := z.2.2.2.1; simpa [ab_fit, ab_ty, tyX8] using this), z.2.2.2.2.2.2.2⟩, fun z => ⟨z.1, (by decide : 18 < ab_N 8), (by omega), (by simpa [ab_fit, ab_ty, tyX8] using z.2.1), rfl, rfl, Or.inl rfl, z.2.2⟩⟩
theorem gg_8_19 {mi pc o : Nat} {L : ab_L} {S : List Value} {h : ab_H} {Q : Option Value → ab_H → Prop} : GoG (some (8, 19)) mi pc L o S h Q = (ab_ref h o 8 = true ∧ Go (ab_at mi (pc + 3)) mi (pc + 3) L (.int (h.2.1 o 19) :: S) h Q) := propext ⟨fun z => ⟨z.1, z.2.2.2⟩, fun z => ⟨z.1, (by decide : 19 < ab_N 8), (by omega), z.2⟩⟩
theorem gp_8_19 {mi pc o : Nat} {L : ab_L} {S : List Value} {h : ab_H} {Q : Option Value → ab_H → Prop} {x : Int32} : GoP (some (8, 19)) mi pc L o (.int x) S h Q = (ab_ref h o 8 = true ∧ Go (ab_at mi (pc + 3)) mi (pc + 3) L S (ab_seti h o 19 x) Q) := propext ⟨fun z => ⟨z.1, z.2.2.2.2.2.2.2⟩, fun z => ⟨z.1, (by decide : 19 < ab_N 8), (by omega), rfl, rfl, rfl, Or.inl rfl, z.2⟩⟩
theorem gg_8_20 {mi pc o : Nat} {L : ab_L} {S : List Value} {h : ab_H} {Q : Option Value → ab_H → Prop} : GoG (some (8, 20)) mi pc L o S h Q = (ab_ref h o 8 = true ∧ Go (ab_at mi (pc + 3)) mi (pc + 3) L (.int (h.2.1 o 20) :: S) h Q) := propext ⟨fun z => ⟨z.1, z.2.2.2⟩, fun z => ⟨z.1, (by decide : 20 < ab_N 8), (by omega), z.2⟩⟩
theorem gp_8_20 {mi pc o : Nat} {L : ab_L} {S : List Value} {h : ab_H} {Q : Option Value → ab_H → Prop} {x : Int32} : GoP (some (8, 20)) mi pc L o (.int x) S h Q = (ab_ref h o 8 = true ∧ Go (ab_at mi (pc + 3)) mi (pc + 3) L S (ab_seti h o 20 x) Q) := propext ⟨fun z => ⟨z.1, z.2.2.2.2.2.2.2⟩, fun z => ⟨z.1, (by decide : 20 < ab_N 8), (by omega), rfl, rfl, rfl, Or.inl rfl, z.2⟩⟩
theorem gg_8_21 {mi pc o : Nat} {L : ab_L} {S : List Value} {h : ab_H} {Q : Option Value → ab_H → Prop} : GoG (some (8, 21)) mi pc L o S h Q = (ab_ref h o 8 = true ∧ Go (ab_at mi (pc + 3)) mi (pc + 3) L (.int (h.2.1 o 21) :: S) h Q) := propext ⟨fun z => ⟨z.1, z.2.2.2⟩, fun z => ⟨z.1, (by decide : 21 < ab_N 8), (by omega), z.2⟩⟩
theorem gp_8_21 {mi pc o : Nat} {L : ab_L} {S : List Value} {h : ab_H} {Q : Option Value → ab_H → Prop} {x : Int32} : GoP (some (8, 21)) mi pc L o (.int x) S h Q = (ab_ref h o 8 = true ∧ (x = 0 ∨ x = 1) ∧ Go (ab_at mi (pc + 3)) mi (pc + 3) L S (ab_seti h o 21 x) Q) := propext ⟨fun z => ⟨z.1, (by have := z.2.2.2.1; simpa [ab_fit, ab_ty, tyX8] using this), z.2.2.2.2.2.2.2⟩, fun z => ⟨z.1, (by decide : 21 < ab_N 8), (by omega), (by simpa [ab_fit, ab_ty, tyX8] using z.2.1), rfl, rfl, Or.inl rfl, z.2.2⟩⟩
theorem gg_8_22 {mi pc o : Nat} {L : ab_L} {S : List Value} {h : ab_H} {Q : Option Value → ab_H → Prop} : GoG (some (8, 22)) mi pc L o S h Q = (ab_ref h o 8 = true ∧ Go (ab_at mi (pc + 3)) mi (pc + 3) L (.int (h.2.1 o 22) :: S) h Q) := propext ⟨fun z => ⟨z.1, z.2.2.2⟩, fun z => ⟨z.1, (by decide : 22 < ab_N 8), (by omega), z.2⟩⟩
theorem gp_8_22 {mi pc o : Nat} {L : ab_L} {S : List Value} {h : ab_H} {Q : Option Value → ab_H → Prop} {x : Int32} : GoP (some (8, 22)) mi pc L o (.int x) S h Q = (ab_ref h o 8 = true ∧ Go (ab_at mi (pc + 3)) mi (pc + 3) L S (ab_seti h o 22 x) Q) := propext ⟨fun z => ⟨z.1, z.2.2.2.2.2.2.2⟩, fun z => ⟨z.1, (by decide : 22 < ab_N 8), (by omega), rfl, rfl, rfl, Or.inl rfl, z.2⟩⟩
theorem gg_8_23 {mi pc o : Nat} {L : ab_L} {S : List Value} {h : ab_H} {Q : Option Value → ab_H → Prop} : GoG (some (8, 23)) mi pc L o S h Q = (ab_ref h o 8 = true ∧ Go (ab_at mi (pc + 3)) mi (pc + 3) L (.int (h.2.1 o 23) :: S) h Q) := propext ⟨fun z => ⟨z.1, z.2.2.2⟩, fun z => ⟨z.1, (by decide : 23 < ab_N 8), (by omega), z.2⟩⟩
theorem gp_8_23 {mi pc o : Nat} {L : ab_L} {S : List Value} {h : ab_H} {Q : Option Value → ab_H → Prop} {x : Int32} : GoP (some (8, 23)) mi pc L o (.int x) S h Q = (ab_ref h o 8 = true ∧ Go (ab_at mi (pc + 3)) mi (pc + 3) L S (ab_seti h o 23 x) Q) := propext ⟨fun z => ⟨z.1, z.2.2.2.2.2.2.2⟩, fun z => ⟨z.1, (by decide : 23 < ab_N 8), (by omega), rfl, rfl, rfl, Or.inl rfl, z.2⟩⟩
theorem gg_8_24 {mi pc o : Nat} {L : ab_L} {S : List Value} {h : ab_H} {Q : Option Value → ab_H → Prop} : GoG (some (8, 24)) mi pc L o S h Q = (ab_ref h o 8 = true ∧ Go (ab_at mi (pc + 3)) mi (pc + 3) L (.int (h.2.1 o 24) :: S) h Q) := propext ⟨fun z => ⟨z.1, z.2.2.2⟩, fun z => ⟨z.1, (by decide : 24 < ab_N 8), (by omega), z.2⟩⟩
theorem gp_8_24 {mi pc o : Nat} {L : ab_L} {S : List Value} {h : ab_H} {Q : Option Value → ab_H → Prop} {x : Int32} : GoP (some (8, 24)) mi pc L o (.int x) S h Q = (ab_ref h o 8 = true ∧ (x = 0 ∨ x = 1) ∧ Go (ab_at mi (pc + 3)) mi (pc + 3) L S (ab_seti h o 24 x) Q) := propext ⟨fun z => ⟨z.1, (by have := z.2.2.2.1; simpa [ab_fit, ab_ty, tyX8] using this), z.2.2.2.2.2.2.2⟩, fun z => ⟨z.1, (by decide : 24 < ab_N 8), (by omega), (by simpa [ab_fit, ab_ty, tyX8] using z.2.1), rfl, rfl, Or.inl rfl, z.2.2⟩⟩
theorem gg_8_25 {mi pc o : Nat} {L : ab_L} {S : List Value} {h : ab_H} {Q : Option Value → ab_H → Prop} : GoG (some (8, 25)) mi pc L o S h Q = (ab_ref h o 8 = true ∧ Go (ab_at mi (pc + 3)) mi (pc + 3) L (.int (h.2.1 o 25) :: S) h Q) := propext ⟨fun z => ⟨z.1, z.2.2.2⟩, fun z => ⟨z.1, (by decide : 25 < ab_N 8), (by omega), z.2⟩⟩
theorem gp_8_25 {mi pc o : Nat} {L : ab_L} {S : List Value} {h : ab_H} {Q : Option Value → ab_H → Prop} {x : Int32} : GoP (some (8, 25)) mi pc L o (.int x) S h Q = (ab_ref h o 8 = true ∧ Go (ab_at mi (pc + 3)) mi (pc + 3) L S (ab_seti h o 25 x) Q) := propext ⟨fun z => ⟨z.1, z.2.2.2.2.2.2.2⟩, fun z => ⟨z.1, (by decide : 25 < ab_N 8), (by omega), rfl, rfl, rfl, Or.inl rfl, z.2⟩⟩
theorem gg_8_26 {mi pc o : Nat} {L : ab_L} {S : List Value} {h : ab_H} {Q : Option Value → ab_H → Prop} : GoG (some (8, 26)) mi pc L o S h Q = (ab_ref h o 8 = true ∧ Go (ab_at mi (pc + 3)) mi (pc + 3) L (va_rf (ab_rf h o 26) :: S) h Q) := propext ⟨fun z => ⟨z.1, z.2.2.2⟩, fun z => ⟨z.1, (by decide : 26 < ab_N 8), (by omega), z.2⟩⟩
theorem gg_8_27 {mi pc o : Nat} {L : ab_L} {S : List Value} {h : ab_H} {Q : Option Value → ab_H → Prop} : GoG (some (8, 27)) mi pc L o S h Q = (ab_ref h o 8 = true ∧ Go (ab_at mi (pc + 3)) mi (pc + 3) L (va_rf (ab_rf h o 27) :: S) h Q) := propext ⟨fun z => ⟨z.1, z.2.2.2⟩, fun z => ⟨z.1, (by decide : 27 < ab_N 8), (by omega), z.2⟩⟩
theorem gg_8_28 {mi pc o : Nat} {L : ab_L} {S : List Value} {h : ab_H} {Q : Option Value → ab_H → Prop} : GoG (some (8, 28)) mi pc L o S h Q = (ab_ref h o 8 = true ∧ Go (ab_at mi (pc + 3)) mi (pc + 3) L (va_rf (ab_rf h o 28) :: S) h Q) := propext ⟨fun z => ⟨z.1, z.2.2.2⟩, fun z => ⟨z.1, (by decide : 28 < ab_N 8), (by omega), z.2⟩⟩
theorem gg_8_29 {mi pc o : Nat} {L : ab_L} {S : List Value} {h : ab_H} {Q : Option Value → ab_H → Prop} : GoG (some (8, 29)) mi pc L o S h Q = (ab_ref h o 8 = true ∧ Go (ab_at mi (pc + 3)) mi (pc + 3) L (va_rf (ab_rf h o 29) :: S) h Q) := propext ⟨fun z => ⟨z.1, z.2.2.2⟩, fun z => ⟨z.1, (by decide : 29 < ab_N 8), (by omega), z.2⟩⟩
theorem gg_8_30 {mi pc o : Nat} {L : ab_L} {S : List Value} {h : ab_H} {Q : Option Value → ab_H → Prop} : GoG (some (8, 30)) mi pc L o S h Q = (ab_ref h o 8 = true ∧ Go (ab_at mi (pc + 3)) mi (pc + 3) L (va_rf (ab_rf h o 30) :: S) h Q) := propext ⟨fun z => ⟨z.1, z.2.2.2⟩, fun z => ⟨z.1, (by decide : 30 < ab_N 8), (by omega), z.2⟩⟩
theorem gg_8_31 {mi pc o : Nat} {L : ab_L} {S : List Value} {h : ab_H} {Q : Option Value → ab_H → Prop} : GoG (some (8, 31)) mi pc L o S h Q = (ab_ref h o 8 = true ∧ Go (ab_at mi (pc + 3)) mi (pc + 3) L (va_rf (ab_rf h o 31) :: S) h Q) := propext ⟨fun z => ⟨z.1, z.2.2.2⟩, fun z => ⟨z.1, (by decide : 31 < ab_N 8), (by omega), z.2⟩⟩
theorem gg_8_32 {mi pc o : Nat} {L : ab_L} {S : List Value} {h : ab_H} {Q : Option Value → ab_H → Prop} : GoG (some (8, 32)) mi pc L o S h Q = (ab_ref h o 8 = true ∧ Go (ab_at mi (pc + 3)) mi (pc + 3) L (va_rf (ab_rf h o 32) :: S) h Q) := propext ⟨fun z => ⟨z.1, z.2.2.2⟩, fun z => ⟨z.1, (by decide : 32 < ab_N 8), (by omega), z.2⟩⟩
theorem gg_8_33 {mi pc o : Nat} {L : ab_L} {S : List Value} {h : ab_H} {Q : Option Value → ab_H → Prop} : GoG (some (8, 33)) mi pc L o S h Q = (ab_ref h o 8 = true ∧ Go (ab_at mi (pc + 3)) mi (pc + 3) L (va_rf (ab_rf h o 33) :: S) h Q) := propext ⟨fun z => ⟨z.1, z.2.2.2⟩, fun z => ⟨z.1, (by decide : 33 < ab_N 8), (by omega), z.2⟩⟩
theorem gg_8_34 {mi pc o : Nat} {L : ab_L} {S : List Value} {h : ab_H} {Q : Option Value → ab_H → Prop} : GoG (some (8, 34)) mi pc L o S h Q = (ab_ref h o 8 = true ∧ Go (ab_at mi (pc + 3)) mi (pc + 3) L (va_rf (ab_rf h o 34) :: S) h Q) := propext ⟨fun z => ⟨z.1, z.2.2.2⟩, fun z => ⟨z.1, (by decide : 34 < ab_N 8), (by omega), z.2⟩⟩
theorem gg_8_35 {mi pc o : Nat} {L : ab_L} {S : List Value} {h : ab_H} {Q : Option Value → ab_H → Prop} : GoG (some (8, 35)) mi pc L o S h Q = (ab_ref h o 8 = true ∧ Go (ab_at mi (pc + 3)) mi (pc + 3) L (.int (h.2.1 o 35) :: S) h Q) := propext ⟨fun z => ⟨z.1, z.2.2.2⟩, fun z => ⟨z.1, (by decide : 35 < ab_N 8), (by omega), z.2⟩⟩
theorem gp_8_35 {mi pc o : Nat} {L : ab_L} {S : List Value} {h : ab_H} {Q : Option Value → ab_H → Prop} {x : Int32} : GoP (some (8, 35)) mi pc L o (.int x) S h Q = (ab_ref h o 8 = true ∧ Go (ab_at mi (pc + 3)) mi (pc + 3) L S (ab_seti h o 35 x) Q) := propext ⟨fun z => ⟨z.1, z.2.2.2.2.2.2.2⟩, fun z => ⟨z.1, (by decide : 35 < ab_N 8), (by omega), rfl, rfl, rfl, Or.inl rfl, z.2⟩⟩
