/-! constructors: the printed rows that decode them, and words -/
theorem dX0_init_0 : decode cX0_init 0 = .ok (.aload_n 0, 1) := by decide +kernel
theorem dX0_init_1 : decode cX0_init 1 = .ok (.invokespecial 3, 3) := by decide +kernel
theorem dX0_init_4 : decode cX0_init 4 = .ok (.aload_n 0, 1) := by decide +kernel
theorem dX0_init_5 : decode cX0_init 5 = .ok (.aload_n 1, 1) := by decide +kernel
theorem dX0_init_6 : decode cX0_init 6 = .ok (.putfield 9, 3) := by decide +kernel
theorem dX0_init_9 : decode cX0_init 9 = .ok (.aload_n 0, 1) := by decide +kernel
theorem dX0_init_10 : decode cX0_init 10 = .ok (.aload_n 2, 1) := by decide +kernel
theorem dX0_init_11 : decode cX0_init 11 = .ok (.putfield 15, 3) := by decide +kernel
theorem dX0_init_14 : decode cX0_init 14 = .ok (.aload_n 0, 1) := by decide +kernel
theorem dX0_init_15 : decode cX0_init 15 = .ok (.aload_n 3, 1) := by decide +kernel
theorem dX0_init_16 : decode cX0_init 16 = .ok (.putfield 19, 3) := by decide +kernel
theorem dX0_init_19 : decode cX0_init 19 = .ok (.return_, 1) := by decide +kernel
theorem dX1_init_0 : decode cX1_init 0 = .ok (.aload_n 0, 1) := by decide +kernel
theorem dX1_init_1 : decode cX1_init 1 = .ok (.invokespecial 3, 3) := by decide +kernel
theorem dX1_init_4 : decode cX1_init 4 = .ok (.aload_n 0, 1) := by decide +kernel
theorem dX1_init_5 : decode cX1_init 5 = .ok (.sipush 174, 3) := by decide +kernel
theorem dX1_init_8 : decode cX1_init 8 = .ok (.newarray .int, 2) := by decide +kernel
theorem dX1_init_10 : decode cX1_init 10 = .ok (.putfield 9, 3) := by decide +kernel
theorem dX1_init_13 : decode cX1_init 13 = .ok (.aload_n 0, 1) := by decide +kernel
theorem dX1_init_14 : decode cX1_init 14 = .ok (.sipush 174, 3) := by decide +kernel
theorem dX1_init_17 : decode cX1_init 17 = .ok (.newarray .int, 2) := by decide +kernel
theorem dX1_init_19 : decode cX1_init 19 = .ok (.putfield 15, 3) := by decide +kernel
theorem dX1_init_22 : decode cX1_init 22 = .ok (.aload_n 0, 1) := by decide +kernel
theorem dX1_init_23 : decode cX1_init 23 = .ok (.aload_n 1, 1) := by decide +kernel
theorem dX1_init_24 : decode cX1_init 24 = .ok (.putfield 18, 3) := by decide +kernel
theorem dX1_init_27 : decode cX1_init 27 = .ok (.aload_n 0, 1) := by decide +kernel
theorem dX1_init_28 : decode cX1_init 28 = .ok (.aload_n 2, 1) := by decide +kernel
theorem dX1_init_29 : decode cX1_init 29 = .ok (.putfield 22, 3) := by decide +kernel
theorem dX1_init_32 : decode cX1_init 32 = .ok (.aload_n 0, 1) := by decide +kernel
theorem dX1_init_33 : decode cX1_init 33 = .ok (.aload_n 3, 1) := by decide +kernel
theorem dX1_init_34 : decode cX1_init 34 = .ok (.putfield 26, 3) := by decide +kernel
theorem dX1_init_37 : decode cX1_init 37 = .ok (.return_, 1) := by decide +kernel
theorem dX2_init_0 : decode cX2_init 0 = .ok (.aload_n 0, 1) := by decide +kernel
theorem dX2_init_1 : decode cX2_init 1 = .ok (.invokespecial 3, 3) := by decide +kernel
theorem dX2_init_4 : decode cX2_init 4 = .ok (.aload_n 0, 1) := by decide +kernel
theorem dX2_init_5 : decode cX2_init 5 = .ok (.bipush 10, 2) := by decide +kernel
theorem dX2_init_7 : decode cX2_init 7 = .ok (.newarray .boolean, 2) := by decide +kernel
theorem dX2_init_9 : decode cX2_init 9 = .ok (.putfield 9, 3) := by decide +kernel
theorem dX2_init_12 : decode cX2_init 12 = .ok (.aload_n 0, 1) := by decide +kernel
theorem dX2_init_13 : decode cX2_init 13 = .ok (.sipush 160, 3) := by decide +kernel
theorem dX2_init_16 : decode cX2_init 16 = .ok (.newarray .int, 2) := by decide +kernel
theorem dX2_init_18 : decode cX2_init 18 = .ok (.putfield 15, 3) := by decide +kernel
theorem dX2_init_21 : decode cX2_init 21 = .ok (.aload_n 0, 1) := by decide +kernel
theorem dX2_init_22 : decode cX2_init 22 = .ok (.sipush 2560, 3) := by decide +kernel
theorem dX2_init_25 : decode cX2_init 25 = .ok (.newarray .int, 2) := by decide +kernel
theorem dX2_init_27 : decode cX2_init 27 = .ok (.putfield 19, 3) := by decide +kernel
theorem dX2_init_30 : decode cX2_init 30 = .ok (.aload_n 0, 1) := by decide +kernel
theorem dX2_init_31 : decode cX2_init 31 = .ok (.bipush 16, 2) := by decide +kernel
theorem dX2_init_33 : decode cX2_init 33 = .ok (.newarray .int, 2) := by decide +kernel
theorem dX2_init_35 : decode cX2_init 35 = .ok (.putfield 22, 3) := by decide +kernel
theorem dX2_init_38 : decode cX2_init 38 = .ok (.aload_n 0, 1) := by decide +kernel
theorem dX2_init_39 : decode cX2_init 39 = .ok (.aload_n 1, 1) := by decide +kernel
theorem dX2_init_40 : decode cX2_init 40 = .ok (.putfield 25, 3) := by decide +kernel
theorem dX2_init_43 : decode cX2_init 43 = .ok (.aload_n 0, 1) := by decide +kernel
theorem dX2_init_44 : decode cX2_init 44 = .ok (.aload_n 2, 1) := by decide +kernel
theorem dX2_init_45 : decode cX2_init 45 = .ok (.putfield 29, 3) := by decide +kernel
theorem dX2_init_48 : decode cX2_init 48 = .ok (.return_, 1) := by decide +kernel
theorem dX3_init_0 : decode cX3_init 0 = .ok (.aload_n 0, 1) := by decide +kernel
theorem dX3_init_1 : decode cX3_init 1 = .ok (.invokespecial 3, 3) := by decide +kernel
theorem dX3_init_4 : decode cX3_init 4 = .ok (.aload_n 0, 1) := by decide +kernel
theorem dX3_init_5 : decode cX3_init 5 = .ok (.bipush 60, 2) := by decide +kernel
theorem dX3_init_7 : decode cX3_init 7 = .ok (.newarray .int, 2) := by decide +kernel
theorem dX3_init_9 : decode cX3_init 9 = .ok (.putfield 9, 3) := by decide +kernel
theorem dX3_init_12 : decode cX3_init 12 = .ok (.aload_n 0, 1) := by decide +kernel
theorem dX3_init_13 : decode cX3_init 13 = .ok (.bipush 60, 2) := by decide +kernel
theorem dX3_init_15 : decode cX3_init 15 = .ok (.newarray .int, 2) := by decide +kernel
theorem dX3_init_17 : decode cX3_init 17 = .ok (.putfield 15, 3) := by decide +kernel
theorem dX3_init_20 : decode cX3_init 20 = .ok (.aload_n 0, 1) := by decide +kernel
theorem dX3_init_21 : decode cX3_init 21 = .ok (.bipush 60, 2) := by decide +kernel
theorem dX3_init_23 : decode cX3_init 23 = .ok (.newarray .int, 2) := by decide +kernel
theorem dX3_init_25 : decode cX3_init 25 = .ok (.putfield 18, 3) := by decide +kernel
theorem dX3_init_28 : decode cX3_init 28 = .ok (.aload_n 0, 1) := by decide +kernel
theorem dX3_init_29 : decode cX3_init 29 = .ok (.bipush 60, 2) := by decide +kernel
theorem dX3_init_31 : decode cX3_init 31 = .ok (.newarray .int, 2) := by decide +kernel
theorem dX3_init_33 : decode cX3_init 33 = .ok (.putfield 21, 3) := by decide +kernel
theorem dX3_init_36 : decode cX3_init 36 = .ok (.aload_n 0, 1) := by decide +kernel
theorem dX3_init_37 : decode cX3_init 37 = .ok (.bipush 60, 2) := by decide +kernel
theorem dX3_init_39 : decode cX3_init 39 = .ok (.newarray .int, 2) := by decide +kernel
theorem dX3_init_41 : decode cX3_init 41 = .ok (.putfield 24, 3) := by decide +kernel
theorem dX3_init_44 : decode cX3_init 44 = .ok (.aload_n 0, 1) := by decide +kernel
theorem dX3_init_45 : decode cX3_init 45 = .ok (.bipush 60, 2) := by decide +kernel
theorem dX3_init_47 : decode cX3_init 47 = .ok (.newarray .int, 2) := by decide +kernel
theorem dX3_init_49 : decode cX3_init 49 = .ok (.putfield 27, 3) := by decide +kernel
theorem dX3_init_52 : decode cX3_init 52 = .ok (.aload_n 0, 1) := by decide +kernel
theorem dX3_init_53 : decode cX3_init 53 = .ok (.bipush 60, 2) := by decide +kernel
theorem dX3_init_55 : decode cX3_init 55 = .ok (.newarray .int, 2) := by decide +kernel
theorem dX3_init_57 : decode cX3_init 57 = .ok (.putfield 30, 3) := by decide +kernel
theorem dX3_init_60 : decode cX3_init 60 = .ok (.aload_n 0, 1) := by decide +kernel
theorem dX3_init_61 : decode cX3_init 61 = .ok (.sipush 160, 3) := by decide +kernel
theorem dX3_init_64 : decode cX3_init 64 = .ok (.newarray .int, 2) := by decide +kernel
theorem dX3_init_66 : decode cX3_init 66 = .ok (.putfield 33, 3) := by decide +kernel
theorem dX3_init_69 : decode cX3_init 69 = .ok (.aload_n 0, 1) := by decide +kernel
theorem dX3_init_70 : decode cX3_init 70 = .ok (.getfield 33, 3) := by decide +kernel
theorem dX3_init_73 : decode cX3_init 73 = .ok (.bipush (-4), 2) := by decide +kernel
theorem dX3_init_75 : decode cX3_init 75 = .ok (.invokestatic 36, 3) := by decide +kernel
theorem dX3_init_78 : decode cX3_init 78 = .ok (.aload_n 0, 1) := by decide +kernel
theorem dX3_init_79 : decode cX3_init 79 = .ok (.iconst 0, 1) := by decide +kernel
theorem dX3_init_80 : decode cX3_init 80 = .ok (.iconst 0, 1) := by decide +kernel
theorem dX3_init_81 : decode cX3_init 81 = .ok (.iconst 1, 1) := by decide +kernel
theorem dX3_init_82 : decode cX3_init 82 = .ok (.iconst 0, 1) := by decide +kernel
theorem dX3_init_83 : decode cX3_init 83 = .ok (.invokevirtual 42, 3) := by decide +kernel
theorem dX3_init_86 : decode cX3_init 86 = .ok (.pop, 1) := by decide +kernel
theorem dX3_init_87 : decode cX3_init 87 = .ok (.aload_n 0, 1) := by decide +kernel
theorem dX3_init_88 : decode cX3_init 88 = .ok (.iconst 0, 1) := by decide +kernel
theorem dX3_init_89 : decode cX3_init 89 = .ok (.iconst 1, 1) := by decide +kernel
theorem dX3_init_90 : decode cX3_init 90 = .ok (.iconst 1, 1) := by decide +kernel
theorem dX3_init_91 : decode cX3_init 91 = .ok (.iconst 0, 1) := by decide +kernel
theorem dX3_init_92 : decode cX3_init 92 = .ok (.invokevirtual 42, 3) := by decide +kernel
theorem dX3_init_95 : decode cX3_init 95 = .ok (.pop, 1) := by decide +kernel
theorem dX3_init_96 : decode cX3_init 96 = .ok (.aload_n 0, 1) := by decide +kernel
theorem dX3_init_97 : decode cX3_init 97 = .ok (.iconst 0, 1) := by decide +kernel
theorem dX3_init_98 : decode cX3_init 98 = .ok (.iconst 2, 1) := by decide +kernel
theorem dX3_init_99 : decode cX3_init 99 = .ok (.iconst 4, 1) := by decide +kernel
theorem dX3_init_100 : decode cX3_init 100 = .ok (.iconst 0, 1) := by decide +kernel
theorem dX3_init_101 : decode cX3_init 101 = .ok (.invokevirtual 42, 3) := by decide +kernel
theorem dX3_init_104 : decode cX3_init 104 = .ok (.pop, 1) := by decide +kernel
theorem dX3_init_105 : decode cX3_init 105 = .ok (.return_, 1) := by decide +kernel
theorem dX4_init_0 : decode cX4_init 0 = .ok (.aload_n 0, 1) := by decide +kernel
theorem dX4_init_1 : decode cX4_init 1 = .ok (.invokespecial 3, 3) := by decide +kernel
theorem dX4_init_4 : decode cX4_init 4 = .ok (.aload_n 0, 1) := by decide +kernel
theorem dX4_init_5 : decode cX4_init 5 = .ok (.bipush 16, 2) := by decide +kernel
theorem dX4_init_7 : decode cX4_init 7 = .ok (.newarray .int, 2) := by decide +kernel
theorem dX4_init_9 : decode cX4_init 9 = .ok (.putfield 9, 3) := by decide +kernel
theorem dX4_init_12 : decode cX4_init 12 = .ok (.aload_n 0, 1) := by decide +kernel
theorem dX4_init_13 : decode cX4_init 13 = .ok (.bipush 16, 2) := by decide +kernel
theorem dX4_init_15 : decode cX4_init 15 = .ok (.newarray .int, 2) := by decide +kernel
theorem dX4_init_17 : decode cX4_init 17 = .ok (.putfield 15, 3) := by decide +kernel
theorem dX4_init_20 : decode cX4_init 20 = .ok (.aload_n 0, 1) := by decide +kernel
theorem dX4_init_21 : decode cX4_init 21 = .ok (.bipush 16, 2) := by decide +kernel
theorem dX4_init_23 : decode cX4_init 23 = .ok (.newarray .int, 2) := by decide +kernel
theorem dX4_init_25 : decode cX4_init 25 = .ok (.putfield 18, 3) := by decide +kernel
theorem dX4_init_28 : decode cX4_init 28 = .ok (.aload_n 0, 1) := by decide +kernel
theorem dX4_init_29 : decode cX4_init 29 = .ok (.bipush 16, 2) := by decide +kernel
theorem dX4_init_31 : decode cX4_init 31 = .ok (.newarray .int, 2) := by decide +kernel
theorem dX4_init_33 : decode cX4_init 33 = .ok (.putfield 21, 3) := by decide +kernel
theorem dX4_init_36 : decode cX4_init 36 = .ok (.aload_n 0, 1) := by decide +kernel
theorem dX4_init_37 : decode cX4_init 37 = .ok (.bipush 16, 2) := by decide +kernel
theorem dX4_init_39 : decode cX4_init 39 = .ok (.newarray .boolean, 2) := by decide +kernel
theorem dX4_init_41 : decode cX4_init 41 = .ok (.putfield 24, 3) := by decide +kernel
theorem dX4_init_44 : decode cX4_init 44 = .ok (.aload_n 0, 1) := by decide +kernel
theorem dX4_init_45 : decode cX4_init 45 = .ok (.bipush 64, 2) := by decide +kernel
theorem dX4_init_47 : decode cX4_init 47 = .ok (.newarray .int, 2) := by decide +kernel
theorem dX4_init_49 : decode cX4_init 49 = .ok (.putfield 28, 3) := by decide +kernel
theorem dX4_init_52 : decode cX4_init 52 = .ok (.aload_n 0, 1) := by decide +kernel
theorem dX4_init_53 : decode cX4_init 53 = .ok (.bipush 16, 2) := by decide +kernel
theorem dX4_init_55 : decode cX4_init 55 = .ok (.newarray .int, 2) := by decide +kernel
theorem dX4_init_57 : decode cX4_init 57 = .ok (.putfield 31, 3) := by decide +kernel
theorem dX4_init_60 : decode cX4_init 60 = .ok (.aload_n 0, 1) := by decide +kernel
theorem dX4_init_61 : decode cX4_init 61 = .ok (.bipush 16, 2) := by decide +kernel
theorem dX4_init_63 : decode cX4_init 63 = .ok (.newarray .int, 2) := by decide +kernel
theorem dX4_init_65 : decode cX4_init 65 = .ok (.putfield 34, 3) := by decide +kernel
theorem dX4_init_68 : decode cX4_init 68 = .ok (.aload_n 0, 1) := by decide +kernel
theorem dX4_init_69 : decode cX4_init 69 = .ok (.bipush 64, 2) := by decide +kernel
theorem dX4_init_71 : decode cX4_init 71 = .ok (.newarray .boolean, 2) := by decide +kernel
theorem dX4_init_73 : decode cX4_init 73 = .ok (.putfield 37, 3) := by decide +kernel
theorem dX4_init_76 : decode cX4_init 76 = .ok (.aload_n 0, 1) := by decide +kernel
theorem dX4_init_77 : decode cX4_init 77 = .ok (.bipush 64, 2) := by decide +kernel
theorem dX4_init_79 : decode cX4_init 79 = .ok (.newarray .int, 2) := by decide +kernel
theorem dX4_init_81 : decode cX4_init 81 = .ok (.putfield 40, 3) := by decide +kernel
theorem dX4_init_84 : decode cX4_init 84 = .ok (.aload_n 0, 1) := by decide +kernel
theorem dX4_init_85 : decode cX4_init 85 = .ok (.bipush 16, 2) := by decide +kernel
theorem dX4_init_87 : decode cX4_init 87 = .ok (.newarray .int, 2) := by decide +kernel
theorem dX4_init_89 : decode cX4_init 89 = .ok (.putfield 43, 3) := by decide +kernel
theorem dX4_init_92 : decode cX4_init 92 = .ok (.aload_n 0, 1) := by decide +kernel
theorem dX4_init_93 : decode cX4_init 93 = .ok (.getfield 9, 3) := by decide +kernel
theorem dX4_init_96 : decode cX4_init 96 = .ok (.iconst 0, 1) := by decide +kernel
theorem dX4_init_97 : decode cX4_init 97 = .ok (.iconst 0, 1) := by decide +kernel
theorem dX4_init_98 : decode cX4_init 98 = .ok (.iastore, 1) := by decide +kernel
theorem dX4_init_99 : decode cX4_init 99 = .ok (.aload_n 0, 1) := by decide +kernel
theorem dX4_init_100 : decode cX4_init 100 = .ok (.iconst 1, 1) := by decide +kernel
theorem dX4_init_101 : decode cX4_init 101 = .ok (.putfield 46, 3) := by decide +kernel
theorem dX4_init_104 : decode cX4_init 104 = .ok (.return_, 1) := by decide +kernel
theorem dX5_init_0 : decode cX5_init 0 = .ok (.aload_n 0, 1) := by decide +kernel
theorem dX5_init_1 : decode cX5_init 1 = .ok (.invokespecial 3, 3) := by decide +kernel
theorem dX5_init_4 : decode cX5_init 4 = .ok (.aload_n 0, 1) := by decide +kernel
theorem dX5_init_5 : decode cX5_init 5 = .ok (.new 9, 3) := by decide +kernel
theorem dX5_init_8 : decode cX5_init 8 = .ok (.dup, 1) := by decide +kernel
theorem dX5_init_9 : decode cX5_init 9 = .ok (.invokespecial 11, 3) := by decide +kernel
theorem dX5_init_12 : decode cX5_init 12 = .ok (.putfield 12, 3) := by decide +kernel
theorem dX5_init_15 : decode cX5_init 15 = .ok (.aload_n 0, 1) := by decide +kernel
theorem dX5_init_16 : decode cX5_init 16 = .ok (.new 16, 3) := by decide +kernel
theorem dX5_init_19 : decode cX5_init 19 = .ok (.dup, 1) := by decide +kernel
theorem dX5_init_20 : decode cX5_init 20 = .ok (.invokespecial 18, 3) := by decide +kernel
theorem dX5_init_23 : decode cX5_init 23 = .ok (.putfield 19, 3) := by decide +kernel
theorem dX5_init_26 : decode cX5_init 26 = .ok (.aload_n 0, 1) := by decide +kernel
theorem dX5_init_27 : decode cX5_init 27 = .ok (.new 23, 3) := by decide +kernel
theorem dX5_init_30 : decode cX5_init 30 = .ok (.dup, 1) := by decide +kernel
theorem dX5_init_31 : decode cX5_init 31 = .ok (.aload_n 0, 1) := by decide +kernel
theorem dX5_init_32 : decode cX5_init 32 = .ok (.getfield 12, 3) := by decide +kernel
theorem dX5_init_35 : decode cX5_init 35 = .ok (.aload_n 0, 1) := by decide +kernel
theorem dX5_init_36 : decode cX5_init 36 = .ok (.getfield 19, 3) := by decide +kernel
theorem dX5_init_39 : decode cX5_init 39 = .ok (.invokespecial 25, 3) := by decide +kernel
theorem dX5_init_42 : decode cX5_init 42 = .ok (.putfield 28, 3) := by decide +kernel
theorem dX5_init_45 : decode cX5_init 45 = .ok (.aload_n 0, 1) := by decide +kernel
theorem dX5_init_46 : decode cX5_init 46 = .ok (.new 32, 3) := by decide +kernel
theorem dX5_init_49 : decode cX5_init 49 = .ok (.dup, 1) := by decide +kernel
theorem dX5_init_50 : decode cX5_init 50 = .ok (.aload_n 0, 1) := by decide +kernel
theorem dX5_init_51 : decode cX5_init 51 = .ok (.getfield 12, 3) := by decide +kernel
theorem dX5_init_54 : decode cX5_init 54 = .ok (.aload_n 0, 1) := by decide +kernel
theorem dX5_init_55 : decode cX5_init 55 = .ok (.getfield 19, 3) := by decide +kernel
theorem dX5_init_58 : decode cX5_init 58 = .ok (.aload_n 0, 1) := by decide +kernel
theorem dX5_init_59 : decode cX5_init 59 = .ok (.getfield 28, 3) := by decide +kernel
theorem dX5_init_62 : decode cX5_init 62 = .ok (.invokespecial 34, 3) := by decide +kernel
theorem dX5_init_65 : decode cX5_init 65 = .ok (.putfield 37, 3) := by decide +kernel
theorem dX5_init_68 : decode cX5_init 68 = .ok (.aload_n 0, 1) := by decide +kernel
theorem dX5_init_69 : decode cX5_init 69 = .ok (.new 41, 3) := by decide +kernel
theorem dX5_init_72 : decode cX5_init 72 = .ok (.dup, 1) := by decide +kernel
theorem dX5_init_73 : decode cX5_init 73 = .ok (.aload_n 0, 1) := by decide +kernel
theorem dX5_init_74 : decode cX5_init 74 = .ok (.getfield 12, 3) := by decide +kernel
theorem dX5_init_77 : decode cX5_init 77 = .ok (.aload_n 0, 1) := by decide +kernel
theorem dX5_init_78 : decode cX5_init 78 = .ok (.getfield 19, 3) := by decide +kernel
theorem dX5_init_81 : decode cX5_init 81 = .ok (.aload_n 0, 1) := by decide +kernel
theorem dX5_init_82 : decode cX5_init 82 = .ok (.getfield 28, 3) := by decide +kernel
theorem dX5_init_85 : decode cX5_init 85 = .ok (.invokespecial 43, 3) := by decide +kernel
theorem dX5_init_88 : decode cX5_init 88 = .ok (.putfield 44, 3) := by decide +kernel
theorem dX5_init_91 : decode cX5_init 91 = .ok (.return_, 1) := by decide +kernel
theorem dX6_init_0 : decode cX6_init 0 = .ok (.aload_n 0, 1) := by decide +kernel
theorem dX6_init_1 : decode cX6_init 1 = .ok (.invokespecial 1, 3) := by decide +kernel
theorem dX6_init_4 : decode cX6_init 4 = .ok (.aload_n 0, 1) := by decide +kernel
theorem dX6_init_5 : decode cX6_init 5 = .ok (.bipush 16, 2) := by decide +kernel
theorem dX6_init_7 : decode cX6_init 7 = .ok (.newarray .int, 2) := by decide +kernel
theorem dX6_init_9 : decode cX6_init 9 = .ok (.putfield 7, 3) := by decide +kernel
theorem dX6_init_12 : decode cX6_init 12 = .ok (.aload_n 0, 1) := by decide +kernel
theorem dX6_init_13 : decode cX6_init 13 = .ok (.bipush 16, 2) := by decide +kernel
theorem dX6_init_15 : decode cX6_init 15 = .ok (.newarray .int, 2) := by decide +kernel
theorem dX6_init_17 : decode cX6_init 17 = .ok (.putfield 13, 3) := by decide +kernel
theorem dX6_init_20 : decode cX6_init 20 = .ok (.aload_n 0, 1) := by decide +kernel
theorem dX6_init_21 : decode cX6_init 21 = .ok (.bipush 64, 2) := by decide +kernel
theorem dX6_init_23 : decode cX6_init 23 = .ok (.newarray .int, 2) := by decide +kernel
theorem dX6_init_25 : decode cX6_init 25 = .ok (.putfield 16, 3) := by decide +kernel
theorem dX6_init_28 : decode cX6_init 28 = .ok (.aload_n 0, 1) := by decide +kernel
theorem dX6_init_29 : decode cX6_init 29 = .ok (.bipush 16, 2) := by decide +kernel
theorem dX6_init_31 : decode cX6_init 31 = .ok (.newarray .int, 2) := by decide +kernel
theorem dX6_init_33 : decode cX6_init 33 = .ok (.putfield 19, 3) := by decide +kernel
theorem dX6_init_36 : decode cX6_init 36 = .ok (.aload_n 0, 1) := by decide +kernel
theorem dX6_init_37 : decode cX6_init 37 = .ok (.bipush 16, 2) := by decide +kernel
theorem dX6_init_39 : decode cX6_init 39 = .ok (.newarray .boolean, 2) := by decide +kernel
theorem dX6_init_41 : decode cX6_init 41 = .ok (.putfield 22, 3) := by decide +kernel
theorem dX6_init_44 : decode cX6_init 44 = .ok (.aload_n 0, 1) := by decide +kernel
theorem dX6_init_45 : decode cX6_init 45 = .ok (.bipush 16, 2) := by decide +kernel
theorem dX6_init_47 : decode cX6_init 47 = .ok (.newarray .int, 2) := by decide +kernel
theorem dX6_init_49 : decode cX6_init 49 = .ok (.putfield 26, 3) := by decide +kernel
theorem dX6_init_52 : decode cX6_init 52 = .ok (.aload_n 0, 1) := by decide +kernel
theorem dX6_init_53 : decode cX6_init 53 = .ok (.bipush 60, 2) := by decide +kernel
theorem dX6_init_55 : decode cX6_init 55 = .ok (.newarray .int, 2) := by decide +kernel
theorem dX6_init_57 : decode cX6_init 57 = .ok (.putfield 29, 3) := by decide +kernel
theorem dX6_init_60 : decode cX6_init 60 = .ok (.aload_n 0, 1) := by decide +kernel
theorem dX6_init_61 : decode cX6_init 61 = .ok (.bipush 60, 2) := by decide +kernel
theorem dX6_init_63 : decode cX6_init 63 = .ok (.newarray .int, 2) := by decide +kernel
theorem dX6_init_65 : decode cX6_init 65 = .ok (.putfield 32, 3) := by decide +kernel
theorem dX6_init_68 : decode cX6_init 68 = .ok (.aload_n 0, 1) := by decide +kernel
theorem dX6_init_69 : decode cX6_init 69 = .ok (.bipush 60, 2) := by decide +kernel
theorem dX6_init_71 : decode cX6_init 71 = .ok (.newarray .int, 2) := by decide +kernel
theorem dX6_init_73 : decode cX6_init 73 = .ok (.putfield 35, 3) := by decide +kernel
theorem dX6_init_76 : decode cX6_init 76 = .ok (.aload_n 0, 1) := by decide +kernel
theorem dX6_init_77 : decode cX6_init 77 = .ok (.bipush 60, 2) := by decide +kernel
theorem dX6_init_79 : decode cX6_init 79 = .ok (.newarray .int, 2) := by decide +kernel
theorem dX6_init_81 : decode cX6_init 81 = .ok (.putfield 38, 3) := by decide +kernel
theorem dX6_init_84 : decode cX6_init 84 = .ok (.aload_n 0, 1) := by decide +kernel
theorem dX6_init_85 : decode cX6_init 85 = .ok (.bipush 60, 2) := by decide +kernel
theorem dX6_init_87 : decode cX6_init 87 = .ok (.newarray .int, 2) := by decide +kernel
theorem dX6_init_89 : decode cX6_init 89 = .ok (.putfield 41, 3) := by decide +kernel
theorem dX6_init_92 : decode cX6_init 92 = .ok (.aload_n 0, 1) := by decide +kernel
theorem dX6_init_93 : decode cX6_init 93 = .ok (.bipush 60, 2) := by decide +kernel
theorem dX6_init_95 : decode cX6_init 95 = .ok (.newarray .int, 2) := by decide +kernel
theorem dX6_init_97 : decode cX6_init 97 = .ok (.putfield 44, 3) := by decide +kernel
theorem dX6_init_100 : decode cX6_init 100 = .ok (.aload_n 0, 1) := by decide +kernel
theorem dX6_init_101 : decode cX6_init 101 = .ok (.bipush 60, 2) := by decide +kernel
theorem dX6_init_103 : decode cX6_init 103 = .ok (.newarray .int, 2) := by decide +kernel
theorem dX6_init_105 : decode cX6_init 105 = .ok (.putfield 47, 3) := by decide +kernel
theorem dX6_init_108 : decode cX6_init 108 = .ok (.aload_n 0, 1) := by decide +kernel
theorem dX6_init_109 : decode cX6_init 109 = .ok (.bipush 60, 2) := by decide +kernel
theorem dX6_init_111 : decode cX6_init 111 = .ok (.newarray .int, 2) := by decide +kernel
theorem dX6_init_113 : decode cX6_init 113 = .ok (.putfield 50, 3) := by decide +kernel
theorem dX6_init_116 : decode cX6_init 116 = .ok (.aload_n 0, 1) := by decide +kernel
theorem dX6_init_117 : decode cX6_init 117 = .ok (.sipush 160, 3) := by decide +kernel
theorem dX6_init_120 : decode cX6_init 120 = .ok (.newarray .int, 2) := by decide +kernel
theorem dX6_init_122 : decode cX6_init 122 = .ok (.putfield 53, 3) := by decide +kernel
theorem dX6_init_125 : decode cX6_init 125 = .ok (.aload_n 0, 1) := by decide +kernel
theorem dX6_init_126 : decode cX6_init 126 = .ok (.bipush 64, 2) := by decide +kernel
theorem dX6_init_128 : decode cX6_init 128 = .ok (.newarray .boolean, 2) := by decide +kernel
theorem dX6_init_130 : decode cX6_init 130 = .ok (.putfield 56, 3) := by decide +kernel
theorem dX6_init_133 : decode cX6_init 133 = .ok (.aload_n 0, 1) := by decide +kernel
theorem dX6_init_134 : decode cX6_init 134 = .ok (.bipush 64, 2) := by decide +kernel
theorem dX6_init_136 : decode cX6_init 136 = .ok (.newarray .int, 2) := by decide +kernel
theorem dX6_init_138 : decode cX6_init 138 = .ok (.putfield 59, 3) := by decide +kernel
theorem dX6_init_141 : decode cX6_init 141 = .ok (.aload_n 0, 1) := by decide +kernel
theorem dX6_init_142 : decode cX6_init 142 = .ok (.bipush 16, 2) := by decide +kernel
theorem dX6_init_144 : decode cX6_init 144 = .ok (.newarray .int, 2) := by decide +kernel
theorem dX6_init_146 : decode cX6_init 146 = .ok (.putfield 62, 3) := by decide +kernel
theorem dX6_init_149 : decode cX6_init 149 = .ok (.aload_n 0, 1) := by decide +kernel
theorem dX6_init_150 : decode cX6_init 150 = .ok (.sipush 2560, 3) := by decide +kernel
theorem dX6_init_153 : decode cX6_init 153 = .ok (.newarray .int, 2) := by decide +kernel
theorem dX6_init_155 : decode cX6_init 155 = .ok (.putfield 65, 3) := by decide +kernel
theorem dX6_init_158 : decode cX6_init 158 = .ok (.aload_n 0, 1) := by decide +kernel
theorem dX6_init_159 : decode cX6_init 159 = .ok (.sipush 160, 3) := by decide +kernel
theorem dX6_init_162 : decode cX6_init 162 = .ok (.newarray .int, 2) := by decide +kernel
theorem dX6_init_164 : decode cX6_init 164 = .ok (.putfield 68, 3) := by decide +kernel
theorem dX6_init_167 : decode cX6_init 167 = .ok (.aload_n 0, 1) := by decide +kernel
theorem dX6_init_168 : decode cX6_init 168 = .ok (.sipush 2560, 3) := by decide +kernel
theorem dX6_init_171 : decode cX6_init 171 = .ok (.newarray .int, 2) := by decide +kernel
theorem dX6_init_173 : decode cX6_init 173 = .ok (.putfield 71, 3) := by decide +kernel
theorem dX6_init_176 : decode cX6_init 176 = .ok (.aload_n 0, 1) := by decide +kernel
theorem dX6_init_177 : decode cX6_init 177 = .ok (.sipush 160, 3) := by decide +kernel
theorem dX6_init_180 : decode cX6_init 180 = .ok (.newarray .int, 2) := by decide +kernel
theorem dX6_init_182 : decode cX6_init 182 = .ok (.putfield 74, 3) := by decide +kernel
theorem dX6_init_185 : decode cX6_init 185 = .ok (.aload_n 0, 1) := by decide +kernel
theorem dX6_init_186 : decode cX6_init 186 = .ok (.bipush 16, 2) := by decide +kernel
theorem dX6_init_188 : decode cX6_init 188 = .ok (.newarray .int, 2) := by decide +kernel
theorem dX6_init_190 : decode cX6_init 190 = .ok (.putfield 77, 3) := by decide +kernel
theorem dX6_init_193 : decode cX6_init 193 = .ok (.iconst 0, 1) := by decide +kernel
theorem dX6_init_194 : decode cX6_init 194 = .ok (.istore_n 1, 1) := by decide +kernel
theorem dX6_init_195 : decode cX6_init 195 = .ok (.iload_n 1, 1) := by decide +kernel
theorem dX6_init_196 : decode cX6_init 196 = .ok (.sipush 160, 3) := by decide +kernel
theorem dX6_init_199 : decode cX6_init 199 = .ok (.if_icmp .ge 17, 3) := by decide +kernel
theorem dX6_init_202 : decode cX6_init 202 = .ok (.aload_n 0, 1) := by decide +kernel
theorem dX6_init_203 : decode cX6_init 203 = .ok (.getfield 53, 3) := by decide +kernel
theorem dX6_init_206 : decode cX6_init 206 = .ok (.iload_n 1, 1) := by decide +kernel
theorem dX6_init_207 : decode cX6_init 207 = .ok (.bipush (-4), 2) := by decide +kernel
theorem dX6_init_209 : decode cX6_init 209 = .ok (.iastore, 1) := by decide +kernel
theorem dX6_init_210 : decode cX6_init 210 = .ok (.iinc 1 1, 3) := by decide +kernel
theorem dX6_init_213 : decode cX6_init 213 = .ok (.goto (-18), 3) := by decide +kernel
theorem dX6_init_216 : decode cX6_init 216 = .ok (.aload_n 0, 1) := by decide +kernel
theorem dX6_init_217 : decode cX6_init 217 = .ok (.iconst 0, 1) := by decide +kernel
theorem dX6_init_218 : decode cX6_init 218 = .ok (.invokevirtual 80, 3) := by decide +kernel
theorem dX6_init_221 : decode cX6_init 221 = .ok (.iconst 0, 1) := by decide +kernel
theorem dX6_init_222 : decode cX6_init 222 = .ok (.istore_n 1, 1) := by decide +kernel
theorem dX6_init_223 : decode cX6_init 223 = .ok (.iload_n 1, 1) := by decide +kernel
theorem dX6_init_224 : decode cX6_init 224 = .ok (.iconst 3, 1) := by decide +kernel
theorem dX6_init_225 : decode cX6_init 225 = .ok (.if_icmp .ge 26, 3) := by decide +kernel
theorem dX6_init_228 : decode cX6_init 228 = .ok (.aload_n 0, 1) := by decide +kernel
theorem dX6_init_229 : decode cX6_init 229 = .ok (.iconst 0, 1) := by decide +kernel
theorem dX6_init_230 : decode cX6_init 230 = .ok (.iload_n 1, 1) := by decide +kernel
theorem dX6_init_231 : decode cX6_init 231 = .ok (.iload_n 1, 1) := by decide +kernel
theorem dX6_init_232 : decode cX6_init 232 = .ok (.iconst 2, 1) := by decide +kernel
theorem dX6_init_233 : decode cX6_init 233 = .ok (.if_icmp .ne 7, 3) := by decide +kernel
theorem dX6_init_236 : decode cX6_init 236 = .ok (.iconst 4, 1) := by decide +kernel
theorem dX6_init_237 : decode cX6_init 237 = .ok (.goto 4, 3) := by decide +kernel
theorem dX6_init_240 : decode cX6_init 240 = .ok (.iconst 1, 1) := by decide +kernel
theorem dX6_init_241 : decode cX6_init 241 = .ok (.iconst 0, 1) := by decide +kernel
theorem dX6_init_242 : decode cX6_init 242 = .ok (.invokevirtual 84, 3) := by decide +kernel
theorem dX6_init_245 : decode cX6_init 245 = .ok (.iinc 1 1, 3) := by decide +kernel
theorem dX6_init_248 : decode cX6_init 248 = .ok (.goto (-25), 3) := by decide +kernel
theorem dX6_init_251 : decode cX6_init 251 = .ok (.return_, 1) := by decide +kernel
theorem kl_0_9 : Cond.fieldLink (zRn 0) 9 (zTn 0 0).1 (zTn 0 0).2.1 (zTn 0 0).2.2.1 ∈ zT := z_T (by decide +kernel) rfl
theorem kl_0_15 : Cond.fieldLink (zRn 0) 15 (zTn 0 1).1 (zTn 0 1).2.1 (zTn 0 1).2.2.1 ∈ zT := z_T (by decide +kernel) rfl
theorem kl_0_19 : Cond.fieldLink (zRn 0) 19 (zTn 0 2).1 (zTn 0 2).2.1 (zTn 0 2).2.2.1 ∈ zT := z_T (by decide +kernel) rfl
theorem kl_1_9 : Cond.fieldLink (zRn 1) 9 (zTn 1 3).1 (zTn 1 3).2.1 (zTn 1 3).2.2.1 ∈ zT := z_T (by decide +kernel) rfl
theorem kl_1_15 : Cond.fieldLink (zRn 1) 15 (zTn 1 4).1 (zTn 1 4).2.1 (zTn 1 4).2.2.1 ∈ zT := z_T (by decide +kernel) rfl
theorem kl_1_18 : Cond.fieldLink (zRn 1) 18 (zTn 1 0).1 (zTn 1 0).2.1 (zTn 1 0).2.2.1 ∈ zT := z_T (by decide +kernel) rfl
theorem kl_1_22 : Cond.fieldLink (zRn 1) 22 (zTn 1 1).1 (zTn 1 1).2.1 (zTn 1 1).2.2.1 ∈ zT := z_T (by decide +kernel) rfl
theorem kl_1_26 : Cond.fieldLink (zRn 1) 26 (zTn 1 2).1 (zTn 1 2).2.1 (zTn 1 2).2.2.1 ∈ zT := z_T (by decide +kernel) rfl
theorem kl_2_9 : Cond.fieldLink (zRn 2) 9 (zTn 2 2).1 (zTn 2 2).2.1 (zTn 2 2).2.2.1 ∈ zT := z_T (by decide +kernel) rfl
theorem kl_2_15 : Cond.fieldLink (zRn 2) 15 (zTn 2 3).1 (zTn 2 3).2.1 (zTn 2 3).2.2.1 ∈ zT := z_T (by decide +kernel) rfl
theorem kl_2_19 : Cond.fieldLink (zRn 2) 19 (zTn 2 4).1 (zTn 2 4).2.1 (zTn 2 4).2.2.1 ∈ zT := z_T (by decide +kernel) rfl
theorem kl_2_22 : Cond.fieldLink (zRn 2) 22 (zTn 2 5).1 (zTn 2 5).2.1 (zTn 2 5).2.2.1 ∈ zT := z_T (by decide +kernel) rfl
theorem kl_2_25 : Cond.fieldLink (zRn 2) 25 (zTn 2 0).1 (zTn 2 0).2.1 (zTn 2 0).2.2.1 ∈ zT := z_T (by decide +kernel) rfl
theorem kl_2_29 : Cond.fieldLink (zRn 2) 29 (zTn 2 1).1 (zTn 2 1).2.1 (zTn 2 1).2.2.1 ∈ zT := z_T (by decide +kernel) rfl
theorem kl_3_9 : Cond.fieldLink (zRn 3) 9 (zTn 3 1).1 (zTn 3 1).2.1 (zTn 3 1).2.2.1 ∈ zT := z_T (by decide +kernel) rfl
theorem kl_3_15 : Cond.fieldLink (zRn 3) 15 (zTn 3 2).1 (zTn 3 2).2.1 (zTn 3 2).2.2.1 ∈ zT := z_T (by decide +kernel) rfl
theorem kl_3_18 : Cond.fieldLink (zRn 3) 18 (zTn 3 3).1 (zTn 3 3).2.1 (zTn 3 3).2.2.1 ∈ zT := z_T (by decide +kernel) rfl
theorem kl_3_21 : Cond.fieldLink (zRn 3) 21 (zTn 3 4).1 (zTn 3 4).2.1 (zTn 3 4).2.2.1 ∈ zT := z_T (by decide +kernel) rfl
theorem kl_3_24 : Cond.fieldLink (zRn 3) 24 (zTn 3 5).1 (zTn 3 5).2.1 (zTn 3 5).2.2.1 ∈ zT := z_T (by decide +kernel) rfl
theorem kl_3_27 : Cond.fieldLink (zRn 3) 27 (zTn 3 6).1 (zTn 3 6).2.1 (zTn 3 6).2.2.1 ∈ zT := z_T (by decide +kernel) rfl
theorem kl_3_30 : Cond.fieldLink (zRn 3) 30 (zTn 3 7).1 (zTn 3 7).2.1 (zTn 3 7).2.2.1 ∈ zT := z_T (by decide +kernel) rfl
theorem kl_3_33 : Cond.fieldLink (zRn 3) 33 (zTn 3 8).1 (zTn 3 8).2.1 (zTn 3 8).2.2.1 ∈ zT := z_T (by decide +kernel) rfl
theorem kl_4_9 : Cond.fieldLink (zRn 4) 9 (zTn 4 1).1 (zTn 4 1).2.1 (zTn 4 1).2.2.1 ∈ zT := z_T (by decide +kernel) rfl
theorem kl_4_15 : Cond.fieldLink (zRn 4) 15 (zTn 4 2).1 (zTn 4 2).2.1 (zTn 4 2).2.2.1 ∈ zT := z_T (by decide +kernel) rfl
theorem kl_4_18 : Cond.fieldLink (zRn 4) 18 (zTn 4 3).1 (zTn 4 3).2.1 (zTn 4 3).2.2.1 ∈ zT := z_T (by decide +kernel) rfl
theorem kl_4_21 : Cond.fieldLink (zRn 4) 21 (zTn 4 4).1 (zTn 4 4).2.1 (zTn 4 4).2.2.1 ∈ zT := z_T (by decide +kernel) rfl
theorem kl_4_24 : Cond.fieldLink (zRn 4) 24 (zTn 4 5).1 (zTn 4 5).2.1 (zTn 4 5).2.2.1 ∈ zT := z_T (by decide +kernel) rfl
theorem kl_4_28 : Cond.fieldLink (zRn 4) 28 (zTn 4 6).1 (zTn 4 6).2.1 (zTn 4 6).2.2.1 ∈ zT := z_T (by decide +kernel) rfl
theorem kl_4_31 : Cond.fieldLink (zRn 4) 31 (zTn 4 7).1 (zTn 4 7).2.1 (zTn 4 7).2.2.1 ∈ zT := z_T (by decide +kernel) rfl
theorem kl_4_34 : Cond.fieldLink (zRn 4) 34 (zTn 4 8).1 (zTn 4 8).2.1 (zTn 4 8).2.2.1 ∈ zT := z_T (by decide +kernel) rfl
theorem kl_4_37 : Cond.fieldLink (zRn 4) 37 (zTn 4 9).1 (zTn 4 9).2.1 (zTn 4 9).2.2.1 ∈ zT := z_T (by decide +kernel) rfl
theorem kl_4_40 : Cond.fieldLink (zRn 4) 40 (zTn 4 10).1 (zTn 4 10).2.1 (zTn 4 10).2.2.1 ∈ zT := z_T (by decide +kernel) rfl
theorem kl_4_43 : Cond.fieldLink (zRn 4) 43 (zTn 4 11).1 (zTn 4 11).2.1 (zTn 4 11).2.2.1 ∈ zT := z_T (by decide +kernel) rfl
theorem kl_4_46 : Cond.fieldLink (zRn 4) 46 (zTn 4 0).1 (zTn 4 0).2.1 (zTn 4 0).2.2.1 ∈ zT := z_T (by decide +kernel) rfl
theorem kl_5_12 : Cond.fieldLink (zRn 5) 12 (zTn 5 0).1 (zTn 5 0).2.1 (zTn 5 0).2.2.1 ∈ zT := z_T (by decide +kernel) rfl
theorem kl_5_19 : Cond.fieldLink (zRn 5) 19 (zTn 5 1).1 (zTn 5 1).2.1 (zTn 5 1).2.2.1 ∈ zT := z_T (by decide +kernel) rfl
theorem kl_5_28 : Cond.fieldLink (zRn 5) 28 (zTn 5 2).1 (zTn 5 2).2.1 (zTn 5 2).2.2.1 ∈ zT := z_T (by decide +kernel) rfl
theorem kl_5_37 : Cond.fieldLink (zRn 5) 37 (zTn 5 3).1 (zTn 5 3).2.1 (zTn 5 3).2.2.1 ∈ zT := z_T (by decide +kernel) rfl
theorem kl_5_44 : Cond.fieldLink (zRn 5) 44 (zTn 5 4).1 (zTn 5 4).2.1 (zTn 5 4).2.2.1 ∈ zT := z_T (by decide +kernel) rfl
theorem kl_6_7 : Cond.fieldLink (zRn 6) 7 (zTn 6 1).1 (zTn 6 1).2.1 (zTn 6 1).2.2.1 ∈ zT := z_T (by decide +kernel) rfl
theorem kl_6_13 : Cond.fieldLink (zRn 6) 13 (zTn 6 2).1 (zTn 6 2).2.1 (zTn 6 2).2.2.1 ∈ zT := z_T (by decide +kernel) rfl
theorem kl_6_16 : Cond.fieldLink (zRn 6) 16 (zTn 6 3).1 (zTn 6 3).2.1 (zTn 6 3).2.2.1 ∈ zT := z_T (by decide +kernel) rfl
theorem kl_6_19 : Cond.fieldLink (zRn 6) 19 (zTn 6 4).1 (zTn 6 4).2.1 (zTn 6 4).2.2.1 ∈ zT := z_T (by decide +kernel) rfl
theorem kl_6_22 : Cond.fieldLink (zRn 6) 22 (zTn 6 5).1 (zTn 6 5).2.1 (zTn 6 5).2.2.1 ∈ zT := z_T (by decide +kernel) rfl
theorem kl_6_26 : Cond.fieldLink (zRn 6) 26 (zTn 6 6).1 (zTn 6 6).2.1 (zTn 6 6).2.2.1 ∈ zT := z_T (by decide +kernel) rfl
theorem kl_6_29 : Cond.fieldLink (zRn 6) 29 (zTn 6 8).1 (zTn 6 8).2.1 (zTn 6 8).2.2.1 ∈ zT := z_T (by decide +kernel) rfl
theorem kl_6_32 : Cond.fieldLink (zRn 6) 32 (zTn 6 9).1 (zTn 6 9).2.1 (zTn 6 9).2.2.1 ∈ zT := z_T (by decide +kernel) rfl
theorem kl_6_35 : Cond.fieldLink (zRn 6) 35 (zTn 6 10).1 (zTn 6 10).2.1 (zTn 6 10).2.2.1 ∈ zT := z_T (by decide +kernel) rfl
theorem kl_6_38 : Cond.fieldLink (zRn 6) 38 (zTn 6 11).1 (zTn 6 11).2.1 (zTn 6 11).2.2.1 ∈ zT := z_T (by decide +kernel) rfl
theorem kl_6_41 : Cond.fieldLink (zRn 6) 41 (zTn 6 12).1 (zTn 6 12).2.1 (zTn 6 12).2.2.1 ∈ zT := z_T (by decide +kernel) rfl
theorem kl_6_44 : Cond.fieldLink (zRn 6) 44 (zTn 6 13).1 (zTn 6 13).2.1 (zTn 6 13).2.2.1 ∈ zT := z_T (by decide +kernel) rfl
theorem kl_6_47 : Cond.fieldLink (zRn 6) 47 (zTn 6 14).1 (zTn 6 14).2.1 (zTn 6 14).2.2.1 ∈ zT := z_T (by decide +kernel) rfl
theorem kl_6_50 : Cond.fieldLink (zRn 6) 50 (zTn 6 15).1 (zTn 6 15).2.1 (zTn 6 15).2.2.1 ∈ zT := z_T (by decide +kernel) rfl
theorem kl_6_53 : Cond.fieldLink (zRn 6) 53 (zTn 6 16).1 (zTn 6 16).2.1 (zTn 6 16).2.2.1 ∈ zT := z_T (by decide +kernel) rfl
theorem kl_6_56 : Cond.fieldLink (zRn 6) 56 (zTn 6 17).1 (zTn 6 17).2.1 (zTn 6 17).2.2.1 ∈ zT := z_T (by decide +kernel) rfl
theorem kl_6_59 : Cond.fieldLink (zRn 6) 59 (zTn 6 18).1 (zTn 6 18).2.1 (zTn 6 18).2.2.1 ∈ zT := z_T (by decide +kernel) rfl
theorem kl_6_62 : Cond.fieldLink (zRn 6) 62 (zTn 6 20).1 (zTn 6 20).2.1 (zTn 6 20).2.2.1 ∈ zT := z_T (by decide +kernel) rfl
theorem kl_6_65 : Cond.fieldLink (zRn 6) 65 (zTn 6 21).1 (zTn 6 21).2.1 (zTn 6 21).2.2.1 ∈ zT := z_T (by decide +kernel) rfl
theorem kl_6_68 : Cond.fieldLink (zRn 6) 68 (zTn 6 22).1 (zTn 6 22).2.1 (zTn 6 22).2.2.1 ∈ zT := z_T (by decide +kernel) rfl
theorem kl_6_71 : Cond.fieldLink (zRn 6) 71 (zTn 6 23).1 (zTn 6 23).2.1 (zTn 6 23).2.2.1 ∈ zT := z_T (by decide +kernel) rfl
theorem kl_6_74 : Cond.fieldLink (zRn 6) 74 (zTn 6 24).1 (zTn 6 24).2.1 (zTn 6 24).2.2.1 ∈ zT := z_T (by decide +kernel) rfl
theorem kl_6_77 : Cond.fieldLink (zRn 6) 77 (zTn 6 33).1 (zTn 6 33).2.1 (zTn 6 33).2.2.1 ∈ zT := z_T (by decide +kernel) rfl
theorem ko_i : Cond.instanceMethod objectInit ∈ zT := z_T (by decide +kernel) rfl
theorem ko_c : Cond.code objectInit ⟨#[0xb1]⟩ 1 none ∈ zT := z_T (by decide +kernel) rfl
theorem ko_0 : Cond.methodLink (zRn 0) 3 objectInit ∈ zT := z_T (by decide +kernel) rfl
theorem ko_1 : Cond.methodLink (zRn 1) 3 objectInit ∈ zT := z_T (by decide +kernel) rfl
theorem ko_2 : Cond.methodLink (zRn 2) 3 objectInit ∈ zT := z_T (by decide +kernel) rfl
theorem ko_3 : Cond.methodLink (zRn 3) 3 objectInit ∈ zT := z_T (by decide +kernel) rfl
theorem ko_4 : Cond.methodLink (zRn 4) 3 objectInit ∈ zT := z_T (by decide +kernel) rfl
theorem ko_5 : Cond.methodLink (zRn 5) 3 objectInit ∈ zT := z_T (by decide +kernel) rfl
theorem ko_6 : Cond.methodLink (zRn 6) 1 objectInit ∈ zT := z_T (by decide +kernel) rfl
def dT (k : Nat) : Bool := k == 1 || (Nat.ble 6 k && Nat.ble k 16)
theorem zdm_4 : zdm dT = [1, 6, 7, 8, 9, 10, 11, 12, 13, 14, 15, 16] := by decide +kernel
def dB (k : Nat) : Bool := k == 2 || (Nat.ble 17 k && Nat.ble k 24)
theorem zdm_3 : zdm dB = [2, 17, 18, 19, 20, 21, 22, 23, 24] := by decide +kernel
def dH (k : Nat) : Bool := k == 3 || (Nat.ble 25 k && Nat.ble k 28)
theorem zdm_2 : zdm dH = [3, 25, 26, 27, 28] := by decide +kernel
def dF (k : Nat) : Bool := k == 4 || (Nat.ble 29 k && Nat.ble k 30)
theorem zdm_1 : zdm dF = [4, 29, 30] := by decide +kernel
def dC (k : Nat) : Bool := k == 5
theorem zdm_0 : zdm dC = [5] := by decide +kernel
def dM (k : Nat) : Bool := k == 31 || (Nat.ble 32 k && Nat.ble k 54)
theorem zdm_6 : zdm dM = [31, 32, 33, 34, 35, 36, 37, 38, 39, 40, 41, 42, 43, 44, 45, 46, 47, 48, 49, 50, 51, 52, 53, 54] := by decide +kernel
def z00 : zS := fun _ _ => 0
theorem zwd_4 {ad : Nat → Nat} {cI cZ : ClassId} {σ : zS} : zwd dT ad cI cZ σ = [(ad 1, .inr (4, [.int (Int32.ofInt (σ 1 0)), .ref (ad 6), .ref (ad 7), .ref (ad 8), .ref (ad 9), .ref (ad 10), .ref (ad 11), .ref (ad 12), .ref (ad 13), .ref (ad 14), .ref (ad 15), .ref (ad 16)])), (ad 6, .inl (cI, 16, .inl fun j => Int32.ofInt (σ 6 (j : Int)))), (ad 7, .inl (cI, 16, .inl fun j => Int32.ofInt (σ 7 (j : Int)))), (ad 8, .inl (cI, 16, .inl fun j => Int32.ofInt (σ 8 (j : Int)))), (ad 9, .inl (cI, 16, .inl fun j => Int32.ofInt (σ 9 (j : Int)))), (ad 10, .inl (cZ, 16, .inl fun j => Int32.ofInt (σ 10 (j : Int)))), (ad 11, .inl (cI, 64, .inl fun j => Int32.ofInt (σ 11 (j : Int)))), (ad 12, .inl (cI, 16, .inl fun j => Int32.ofInt (σ 12 (j : Int)))), (ad 13, .inl (cI, 16, .inl fun j => Int32.ofInt (σ 13 (j : Int)))), (ad 14, .inl (cZ, 64, .inl fun j => Int32.ofInt (σ 14 (j : Int)))), (ad 15, .inl (cI, 64, .inl fun j => Int32.ofInt (σ 15 (j : Int)))), (ad 16, .inl (cI, 16, .inl fun j => Int32.ofInt (σ 16 (j : Int))))] := by
  rw [zwd, zdm_4]
  rfl
theorem zwd_3 {ad : Nat → Nat} {cI cZ : ClassId} {σ : zS} : zwd dB ad cI cZ σ = [(ad 2, .inr (3, [.int (Int32.ofInt (σ 2 0)), .ref (ad 17), .ref (ad 18), .ref (ad 19), .ref (ad 20), .ref (ad 21), .ref (ad 22), .ref (ad 23), .ref (ad 24)])), (ad 17, .inl (cI, 60, .inl fun j => Int32.ofInt (σ 17 (j : Int)))), (ad 18, .inl (cI, 60, .inl fun j => Int32.ofInt (σ 18 (j : Int)))), (ad 19, .inl (cI, 60, .inl fun j => Int32.ofInt (σ 19 (j : Int)))), (ad 20, .inl (cI, 60, .inl fun j => Int32.ofInt (σ 20 (j : Int)))), (ad 21, .inl (cI, 60, .inl fun j => Int32.ofInt (σ 21 (j : Int)))), (ad 22, .inl (cI, 60, .inl fun j => Int32.ofInt (σ 22 (j : Int)))), (ad 23, .inl (cI, 60, .inl fun j => Int32.ofInt (σ 23 (j : Int)))), (ad 24, .inl (cI, 160, .inl fun j => Int32.ofInt (σ 24 (j : Int))))] := by
  rw [zwd, zdm_3]
  rfl
theorem zwd_2 {ad : Nat → Nat} {cI cZ : ClassId} {σ : zS} : zwd dH ad cI cZ σ = [(ad 3, .inr (2, [.ref (ad 1), .ref (ad 2), .ref (ad 25), .ref (ad 26), .ref (ad 27), .ref (ad 28), .int (Int32.ofInt (σ 3 6))])), (ad 25, .inl (cZ, 10, .inl fun j => Int32.ofInt (σ 25 (j : Int)))), (ad 26, .inl (cI, 160, .inl fun j => Int32.ofInt (σ 26 (j : Int)))), (ad 27, .inl (cI, 2560, .inl fun j => Int32.ofInt (σ 27 (j : Int)))), (ad 28, .inl (cI, 16, .inl fun j => Int32.ofInt (σ 28 (j : Int))))] := by
  rw [zwd, zdm_2]
  rfl
theorem zwd_1 {ad : Nat → Nat} {cI cZ : ClassId} {σ : zS} : zwd dF ad cI cZ σ = [(ad 4, .inr (1, [.ref (ad 1), .ref (ad 2), .ref (ad 3), .ref (ad 29), .ref (ad 30), .int (Int32.ofInt (σ 4 5))])), (ad 29, .inl (cI, 174, .inl fun j => Int32.ofInt (σ 29 (j : Int)))), (ad 30, .inl (cI, 174, .inl fun j => Int32.ofInt (σ 30 (j : Int))))] := by
  rw [zwd, zdm_1]
  rfl
theorem zwd_0 {ad : Nat → Nat} {cI cZ : ClassId} {σ : zS} : zwd dC ad cI cZ σ = [(ad 5, .inr (0, [.ref (ad 1), .ref (ad 2), .ref (ad 3), .int (Int32.ofInt (σ 5 3)), .int (Int32.ofInt (σ 5 4)), .int (Int32.ofInt (σ 5 5)), .int (Int32.ofInt (σ 5 6))]))] := by
  rw [zwd, zdm_0]
  rfl
theorem zwd_6 {ad : Nat → Nat} {cI cZ : ClassId} {σ : zS} : zwd dM ad cI cZ σ = [(ad 31, .inr (6, [.int (Int32.ofInt (σ 31 0)), .ref (ad 32), .ref (ad 33), .ref (ad 34), .ref (ad 35), .ref (ad 36), .ref (ad 37), .int (Int32.ofInt (σ 31 7)), .ref (ad 38), .ref (ad 39), .ref (ad 40), .ref (ad 41), .ref (ad 42), .ref (ad 43), .ref (ad 44), .ref (ad 45), .ref (ad 46), .ref (ad 47), .ref (ad 48), .int (Int32.ofInt (σ 31 19)), .ref (ad 49), .ref (ad 50), .ref (ad 51), .ref (ad 52), .ref (ad 53), .int (Int32.ofInt (σ 31 25)), .int (Int32.ofInt (σ 31 26)), .int (Int32.ofInt (σ 31 27)), .int (Int32.ofInt (σ 31 28)), .int (Int32.ofInt (σ 31 29)), .int (Int32.ofInt (σ 31 30)), .int (Int32.ofInt (σ 31 31)), .int (Int32.ofInt (σ 31 32)), .ref (ad 54)])), (ad 32, .inl (cI, 16, .inl fun j => Int32.ofInt (σ 32 (j : Int)))), (ad 33, .inl (cI, 16, .inl fun j => Int32.ofInt (σ 33 (j : Int)))), (ad 34, .inl (cI, 64, .inl fun j => Int32.ofInt (σ 34 (j : Int)))), (ad 35, .inl (cI, 16, .inl fun j => Int32.ofInt (σ 35 (j : Int)))), (ad 36, .inl (cZ, 16, .inl fun j => Int32.ofInt (σ 36 (j : Int)))), (ad 37, .inl (cI, 16, .inl fun j => Int32.ofInt (σ 37 (j : Int)))), (ad 38, .inl (cI, 60, .inl fun j => Int32.ofInt (σ 38 (j : Int)))), (ad 39, .inl (cI, 60, .inl fun j => Int32.ofInt (σ 39 (j : Int)))), (ad 40, .inl (cI, 60, .inl fun j => Int32.ofInt (σ 40 (j : Int)))), (ad 41, .inl (cI, 60, .inl fun j => Int32.ofInt (σ 41 (j : Int)))), (ad 42, .inl (cI, 60, .inl fun j => Int32.ofInt (σ 42 (j : Int)))), (ad 43, .inl (cI, 60, .inl fun j => Int32.ofInt (σ 43 (j : Int)))), (ad 44, .inl (cI, 60, .inl fun j => Int32.ofInt (σ 44 (j : Int)))), (ad 45, .inl (cI, 60, .inl fun j => Int32.ofInt (σ 45 (j : Int)))), (ad 46, .inl (cI, 160, .inl fun j => Int32.ofInt (σ 46 (j : Int)))), (ad 47, .inl (cZ, 64, .inl fun j => Int32.ofInt (σ 47 (j : Int)))), (ad 48, .inl (cI, 64, .inl fun j => Int32.ofInt (σ 48 (j : Int)))), (ad 49, .inl (cI, 16, .inl fun j => Int32.ofInt (σ 49 (j : Int)))), (ad 50, .inl (cI, 2560, .inl fun j => Int32.ofInt (σ 50 (j : Int)))), (ad 51, .inl (cI, 160, .inl fun j => Int32.ofInt (σ 51 (j : Int)))), (ad 52, .inl (cI, 2560, .inl fun j => Int32.ofInt (σ 52 (j : Int)))), (ad 53, .inl (cI, 160, .inl fun j => Int32.ofInt (σ 53 (j : Int)))), (ad 54, .inl (cI, 16, .inl fun j => Int32.ofInt (σ 54 (j : Int))))] := by
  rw [zwd, zdm_6]
  rfl
