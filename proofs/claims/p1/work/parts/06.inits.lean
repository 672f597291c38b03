theorem dX0_init_0 : decode cX0_init 0 = .ok (.aload_n 0, 1) := by decide +kernel
theorem dX0_init_1 : decode cX0_init 1 = .ok (.invokespecial 3, 3) := by decide +kernel
theorem dX0_init_10 : decode cX0_init 10 = .ok (.iconst 0, 1) := by decide +kernel
theorem dX0_init_11 : decode cX0_init 11 = .ok (.putfield 15, 3) := by decide +kernel
theorem dX0_init_14 : decode cX0_init 14 = .ok (.aload_n 0, 1) := by decide +kernel
theorem dX0_init_15 : decode cX0_init 15 = .ok (.bipush 12, 2) := by decide +kernel
theorem dX0_init_17 : decode cX0_init 17 = .ok (.newarray .int, 2) := by decide +kernel
theorem dX0_init_19 : decode cX0_init 19 = .ok (.putfield 18, 3) := by decide +kernel
theorem dX0_init_22 : decode cX0_init 22 = .ok (.aload_n 0, 1) := by decide +kernel
theorem dX0_init_23 : decode cX0_init 23 = .ok (.bipush 12, 2) := by decide +kernel
theorem dX0_init_25 : decode cX0_init 25 = .ok (.newarray .int, 2) := by decide +kernel
theorem dX0_init_27 : decode cX0_init 27 = .ok (.putfield 22, 3) := by decide +kernel
theorem dX0_init_30 : decode cX0_init 30 = .ok (.aload_n 0, 1) := by decide +kernel
theorem dX0_init_31 : decode cX0_init 31 = .ok (.bipush 12, 2) := by decide +kernel
theorem dX0_init_33 : decode cX0_init 33 = .ok (.newarray .int, 2) := by decide +kernel
theorem dX0_init_35 : decode cX0_init 35 = .ok (.putfield 25, 3) := by decide +kernel
theorem dX0_init_38 : decode cX0_init 38 = .ok (.aload_n 0, 1) := by decide +kernel
theorem dX0_init_39 : decode cX0_init 39 = .ok (.bipush 12, 2) := by decide +kernel
theorem dX0_init_4 : decode cX0_init 4 = .ok (.aload_n 0, 1) := by decide +kernel
theorem dX0_init_41 : decode cX0_init 41 = .ok (.newarray .int, 2) := by decide +kernel
theorem dX0_init_43 : decode cX0_init 43 = .ok (.putfield 28, 3) := by decide +kernel
theorem dX0_init_46 : decode cX0_init 46 = .ok (.aload_n 0, 1) := by decide +kernel
theorem dX0_init_47 : decode cX0_init 47 = .ok (.bipush 12, 2) := by decide +kernel
theorem dX0_init_49 : decode cX0_init 49 = .ok (.newarray .int, 2) := by decide +kernel
theorem dX0_init_5 : decode cX0_init 5 = .ok (.iconst 0, 1) := by decide +kernel
theorem dX0_init_51 : decode cX0_init 51 = .ok (.putfield 31, 3) := by decide +kernel
theorem dX0_init_54 : decode cX0_init 54 = .ok (.return_, 1) := by decide +kernel
theorem dX0_init_6 : decode cX0_init 6 = .ok (.putfield 9, 3) := by decide +kernel
theorem dX0_init_9 : decode cX0_init 9 = .ok (.aload_n 0, 1) := by decide +kernel
theorem dX10_init_0 : decode cX10_init 0 = .ok (.aload_n 0, 1) := by decide +kernel
theorem dX10_init_1 : decode cX10_init 1 = .ok (.invokespecial 3, 3) := by decide +kernel
theorem dX10_init_10 : decode cX10_init 10 = .ok (.iconst 0, 1) := by decide +kernel
theorem dX10_init_11 : decode cX10_init 11 = .ok (.putfield 15, 3) := by decide +kernel
theorem dX10_init_14 : decode cX10_init 14 = .ok (.aload_n 0, 1) := by decide +kernel
theorem dX10_init_15 : decode cX10_init 15 = .ok (.iconst 0, 1) := by decide +kernel
theorem dX10_init_16 : decode cX10_init 16 = .ok (.putfield 18, 3) := by decide +kernel
theorem dX10_init_19 : decode cX10_init 19 = .ok (.aload_n 0, 1) := by decide +kernel
theorem dX10_init_20 : decode cX10_init 20 = .ok (.iconst 0, 1) := by decide +kernel
theorem dX10_init_21 : decode cX10_init 21 = .ok (.putfield 21, 3) := by decide +kernel
theorem dX10_init_24 : decode cX10_init 24 = .ok (.aload_n 0, 1) := by decide +kernel
theorem dX10_init_25 : decode cX10_init 25 = .ok (.iconst 0, 1) := by decide +kernel
theorem dX10_init_26 : decode cX10_init 26 = .ok (.putfield 24, 3) := by decide +kernel
theorem dX10_init_29 : decode cX10_init 29 = .ok (.aload_n 0, 1) := by decide +kernel
theorem dX10_init_30 : decode cX10_init 30 = .ok (.bipush 6, 2) := by decide +kernel
theorem dX10_init_32 : decode cX10_init 32 = .ok (.newarray .boolean, 2) := by decide +kernel
theorem dX10_init_34 : decode cX10_init 34 = .ok (.putfield 27, 3) := by decide +kernel
theorem dX10_init_37 : decode cX10_init 37 = .ok (.aload_n 0, 1) := by decide +kernel
theorem dX10_init_38 : decode cX10_init 38 = .ok (.bipush 6, 2) := by decide +kernel
theorem dX10_init_4 : decode cX10_init 4 = .ok (.aload_n 0, 1) := by decide +kernel
theorem dX10_init_40 : decode cX10_init 40 = .ok (.newarray .boolean, 2) := by decide +kernel
theorem dX10_init_42 : decode cX10_init 42 = .ok (.putfield 31, 3) := by decide +kernel
theorem dX10_init_45 : decode cX10_init 45 = .ok (.aload_n 0, 1) := by decide +kernel
theorem dX10_init_46 : decode cX10_init 46 = .ok (.bipush 6, 2) := by decide +kernel
theorem dX10_init_48 : decode cX10_init 48 = .ok (.newarray .int, 2) := by decide +kernel
theorem dX10_init_5 : decode cX10_init 5 = .ok (.iconst 0, 1) := by decide +kernel
theorem dX10_init_50 : decode cX10_init 50 = .ok (.putfield 34, 3) := by decide +kernel
theorem dX10_init_53 : decode cX10_init 53 = .ok (.aload_n 0, 1) := by decide +kernel
theorem dX10_init_54 : decode cX10_init 54 = .ok (.bipush 36, 2) := by decide +kernel
theorem dX10_init_56 : decode cX10_init 56 = .ok (.newarray .boolean, 2) := by decide +kernel
theorem dX10_init_58 : decode cX10_init 58 = .ok (.putfield 38, 3) := by decide +kernel
theorem dX10_init_6 : decode cX10_init 6 = .ok (.putfield 9, 3) := by decide +kernel
theorem dX10_init_61 : decode cX10_init 61 = .ok (.aload_n 0, 1) := by decide +kernel
theorem dX10_init_62 : decode cX10_init 62 = .ok (.bipush 36, 2) := by decide +kernel
theorem dX10_init_64 : decode cX10_init 64 = .ok (.newarray .int, 2) := by decide +kernel
theorem dX10_init_66 : decode cX10_init 66 = .ok (.putfield 41, 3) := by decide +kernel
theorem dX10_init_69 : decode cX10_init 69 = .ok (.aload_n 0, 1) := by decide +kernel
theorem dX10_init_70 : decode cX10_init 70 = .ok (.bipush 36, 2) := by decide +kernel
theorem dX10_init_72 : decode cX10_init 72 = .ok (.newarray .int, 2) := by decide +kernel
theorem dX10_init_74 : decode cX10_init 74 = .ok (.putfield 44, 3) := by decide +kernel
theorem dX10_init_77 : decode cX10_init 77 = .ok (.aload_n 0, 1) := by decide +kernel
theorem dX10_init_78 : decode cX10_init 78 = .ok (.bipush 12, 2) := by decide +kernel
theorem dX10_init_80 : decode cX10_init 80 = .ok (.newarray .int, 2) := by decide +kernel
theorem dX10_init_82 : decode cX10_init 82 = .ok (.putfield 47, 3) := by decide +kernel
theorem dX10_init_85 : decode cX10_init 85 = .ok (.aload_n 0, 1) := by decide +kernel
theorem dX10_init_86 : decode cX10_init 86 = .ok (.new 50, 3) := by decide +kernel
theorem dX10_init_89 : decode cX10_init 89 = .ok (.dup, 1) := by decide +kernel
theorem dX10_init_9 : decode cX10_init 9 = .ok (.aload_n 0, 1) := by decide +kernel
theorem dX10_init_90 : decode cX10_init 90 = .ok (.invokespecial 52, 3) := by decide +kernel
theorem dX10_init_93 : decode cX10_init 93 = .ok (.putfield 53, 3) := by decide +kernel
theorem dX10_init_96 : decode cX10_init 96 = .ok (.return_, 1) := by decide +kernel
theorem dX1_init_0 : decode cX1_init 0 = .ok (.aload_n 0, 1) := by decide +kernel
theorem dX1_init_1 : decode cX1_init 1 = .ok (.invokespecial 3, 3) := by decide +kernel
theorem dX1_init_10 : decode cX1_init 10 = .ok (.putfield 11, 3) := by decide +kernel
theorem dX1_init_13 : decode cX1_init 13 = .ok (.aload_n 0, 1) := by decide +kernel
theorem dX1_init_14 : decode cX1_init 14 = .ok (.bipush 64, 2) := by decide +kernel
theorem dX1_init_16 : decode cX1_init 16 = .ok (.anewarray 9, 3) := by decide +kernel
theorem dX1_init_19 : decode cX1_init 19 = .ok (.putfield 17, 3) := by decide +kernel
theorem dX1_init_22 : decode cX1_init 22 = .ok (.aload_n 0, 1) := by decide +kernel
theorem dX1_init_23 : decode cX1_init 23 = .ok (.iconst 0, 1) := by decide +kernel
theorem dX1_init_24 : decode cX1_init 24 = .ok (.putfield 20, 3) := by decide +kernel
theorem dX1_init_27 : decode cX1_init 27 = .ok (.aload_n 0, 1) := by decide +kernel
theorem dX1_init_28 : decode cX1_init 28 = .ok (.iconst 0, 1) := by decide +kernel
theorem dX1_init_29 : decode cX1_init 29 = .ok (.putfield 24, 3) := by decide +kernel
theorem dX1_init_32 : decode cX1_init 32 = .ok (.aload_n 0, 1) := by decide +kernel
theorem dX1_init_33 : decode cX1_init 33 = .ok (.new 9, 3) := by decide +kernel
theorem dX1_init_36 : decode cX1_init 36 = .ok (.dup, 1) := by decide +kernel
theorem dX1_init_37 : decode cX1_init 37 = .ok (.invokespecial 27, 3) := by decide +kernel
theorem dX1_init_4 : decode cX1_init 4 = .ok (.aload_n 0, 1) := by decide +kernel
theorem dX1_init_40 : decode cX1_init 40 = .ok (.putfield 28, 3) := by decide +kernel
theorem dX1_init_43 : decode cX1_init 43 = .ok (.aload_n 0, 1) := by decide +kernel
theorem dX1_init_44 : decode cX1_init 44 = .ok (.aload_n 1, 1) := by decide +kernel
theorem dX1_init_45 : decode cX1_init 45 = .ok (.putfield 32, 3) := by decide +kernel
theorem dX1_init_48 : decode cX1_init 48 = .ok (.aload_n 0, 1) := by decide +kernel
theorem dX1_init_49 : decode cX1_init 49 = .ok (.aload_n 2, 1) := by decide +kernel
theorem dX1_init_5 : decode cX1_init 5 = .ok (.bipush 64, 2) := by decide +kernel
theorem dX1_init_50 : decode cX1_init 50 = .ok (.putfield 36, 3) := by decide +kernel
theorem dX1_init_53 : decode cX1_init 53 = .ok (.iconst 0, 1) := by decide +kernel
theorem dX1_init_54 : decode cX1_init 54 = .ok (.istore_n 3, 1) := by decide +kernel
theorem dX1_init_55 : decode cX1_init 55 = .ok (.iload_n 3, 1) := by decide +kernel
theorem dX1_init_56 : decode cX1_init 56 = .ok (.bipush 64, 2) := by decide +kernel
theorem dX1_init_58 : decode cX1_init 58 = .ok (.if_icmp .ge 35, 3) := by decide +kernel
theorem dX1_init_61 : decode cX1_init 61 = .ok (.aload_n 0, 1) := by decide +kernel
theorem dX1_init_62 : decode cX1_init 62 = .ok (.getfield 11, 3) := by decide +kernel
theorem dX1_init_65 : decode cX1_init 65 = .ok (.iload_n 3, 1) := by decide +kernel
theorem dX1_init_66 : decode cX1_init 66 = .ok (.new 9, 3) := by decide +kernel
theorem dX1_init_69 : decode cX1_init 69 = .ok (.dup, 1) := by decide +kernel
theorem dX1_init_7 : decode cX1_init 7 = .ok (.anewarray 9, 3) := by decide +kernel
theorem dX1_init_70 : decode cX1_init 70 = .ok (.invokespecial 27, 3) := by decide +kernel
theorem dX1_init_73 : decode cX1_init 73 = .ok (.aastore, 1) := by decide +kernel
theorem dX1_init_74 : decode cX1_init 74 = .ok (.aload_n 0, 1) := by decide +kernel
theorem dX1_init_75 : decode cX1_init 75 = .ok (.getfield 17, 3) := by decide +kernel
theorem dX1_init_78 : decode cX1_init 78 = .ok (.iload_n 3, 1) := by decide +kernel
theorem dX1_init_79 : decode cX1_init 79 = .ok (.new 9, 3) := by decide +kernel
theorem dX1_init_82 : decode cX1_init 82 = .ok (.dup, 1) := by decide +kernel
theorem dX1_init_83 : decode cX1_init 83 = .ok (.invokespecial 27, 3) := by decide +kernel
theorem dX1_init_86 : decode cX1_init 86 = .ok (.aastore, 1) := by decide +kernel
theorem dX1_init_87 : decode cX1_init 87 = .ok (.iinc 3 1, 3) := by decide +kernel
theorem dX1_init_90 : decode cX1_init 90 = .ok (.goto (-35), 3) := by decide +kernel
theorem dX1_init_93 : decode cX1_init 93 = .ok (.return_, 1) := by decide +kernel
theorem dX2_init_0 : decode cX2_init 0 = .ok (.aload_n 0, 1) := by decide +kernel
theorem dX2_init_1 : decode cX2_init 1 = .ok (.invokespecial 3, 3) := by decide +kernel
theorem dX2_init_10 : decode cX2_init 10 = .ok (.iconst 0, 1) := by decide +kernel
theorem dX2_init_11 : decode cX2_init 11 = .ok (.putfield 15, 3) := by decide +kernel
theorem dX2_init_14 : decode cX2_init 14 = .ok (.aload_n 0, 1) := by decide +kernel
theorem dX2_init_15 : decode cX2_init 15 = .ok (.iconst 0, 1) := by decide +kernel
theorem dX2_init_16 : decode cX2_init 16 = .ok (.putfield 18, 3) := by decide +kernel
theorem dX2_init_19 : decode cX2_init 19 = .ok (.aload_n 0, 1) := by decide +kernel
theorem dX2_init_20 : decode cX2_init 20 = .ok (.iconst 0, 1) := by decide +kernel
theorem dX2_init_21 : decode cX2_init 21 = .ok (.putfield 21, 3) := by decide +kernel
theorem dX2_init_24 : decode cX2_init 24 = .ok (.aload_n 0, 1) := by decide +kernel
theorem dX2_init_25 : decode cX2_init 25 = .ok (.iconst 0, 1) := by decide +kernel
theorem dX2_init_26 : decode cX2_init 26 = .ok (.putfield 25, 3) := by decide +kernel
theorem dX2_init_29 : decode cX2_init 29 = .ok (.aload_n 0, 1) := by decide +kernel
theorem dX2_init_30 : decode cX2_init 30 = .ok (.sipush 180, 3) := by decide +kernel
theorem dX2_init_33 : decode cX2_init 33 = .ok (.newarray .int, 2) := by decide +kernel
theorem dX2_init_35 : decode cX2_init 35 = .ok (.putfield 28, 3) := by decide +kernel
theorem dX2_init_38 : decode cX2_init 38 = .ok (.aload_n 0, 1) := by decide +kernel
theorem dX2_init_39 : decode cX2_init 39 = .ok (.bipush 6, 2) := by decide +kernel
theorem dX2_init_4 : decode cX2_init 4 = .ok (.aload_n 0, 1) := by decide +kernel
theorem dX2_init_41 : decode cX2_init 41 = .ok (.newarray .boolean, 2) := by decide +kernel
theorem dX2_init_43 : decode cX2_init 43 = .ok (.putfield 32, 3) := by decide +kernel
theorem dX2_init_46 : decode cX2_init 46 = .ok (.aload_n 0, 1) := by decide +kernel
theorem dX2_init_47 : decode cX2_init 47 = .ok (.bipush 60, 2) := by decide +kernel
theorem dX2_init_49 : decode cX2_init 49 = .ok (.newarray .int, 2) := by decide +kernel
theorem dX2_init_5 : decode cX2_init 5 = .ok (.iconst 0, 1) := by decide +kernel
theorem dX2_init_51 : decode cX2_init 51 = .ok (.putfield 36, 3) := by decide +kernel
theorem dX2_init_54 : decode cX2_init 54 = .ok (.aload_n 0, 1) := by decide +kernel
theorem dX2_init_55 : decode cX2_init 55 = .ok (.bipush 60, 2) := by decide +kernel
theorem dX2_init_57 : decode cX2_init 57 = .ok (.newarray .int, 2) := by decide +kernel
theorem dX2_init_59 : decode cX2_init 59 = .ok (.putfield 39, 3) := by decide +kernel
theorem dX2_init_6 : decode cX2_init 6 = .ok (.putfield 9, 3) := by decide +kernel
theorem dX2_init_62 : decode cX2_init 62 = .ok (.aload_n 0, 1) := by decide +kernel
theorem dX2_init_63 : decode cX2_init 63 = .ok (.bipush 6, 2) := by decide +kernel
theorem dX2_init_65 : decode cX2_init 65 = .ok (.newarray .int, 2) := by decide +kernel
theorem dX2_init_67 : decode cX2_init 67 = .ok (.putfield 42, 3) := by decide +kernel
theorem dX2_init_70 : decode cX2_init 70 = .ok (.aload_n 0, 1) := by decide +kernel
theorem dX2_init_71 : decode cX2_init 71 = .ok (.sipush 288, 3) := by decide +kernel
theorem dX2_init_74 : decode cX2_init 74 = .ok (.newarray .int, 2) := by decide +kernel
theorem dX2_init_76 : decode cX2_init 76 = .ok (.putfield 45, 3) := by decide +kernel
theorem dX2_init_79 : decode cX2_init 79 = .ok (.aload_n 0, 1) := by decide +kernel
theorem dX2_init_80 : decode cX2_init 80 = .ok (.sipush 288, 3) := by decide +kernel
theorem dX2_init_83 : decode cX2_init 83 = .ok (.newarray .int, 2) := by decide +kernel
theorem dX2_init_85 : decode cX2_init 85 = .ok (.putfield 48, 3) := by decide +kernel
theorem dX2_init_88 : decode cX2_init 88 = .ok (.return_, 1) := by decide +kernel
theorem dX2_init_9 : decode cX2_init 9 = .ok (.aload_n 0, 1) := by decide +kernel
theorem dX3_init_0 : decode cX3_init 0 = .ok (.aload_n 0, 1) := by decide +kernel
theorem dX3_init_1 : decode cX3_init 1 = .ok (.invokespecial 3, 3) := by decide +kernel
theorem dX3_init_10 : decode cX3_init 10 = .ok (.iconst 0, 1) := by decide +kernel
theorem dX3_init_100 : decode cX3_init 100 = .ok (.return_, 1) := by decide +kernel
theorem dX3_init_11 : decode cX3_init 11 = .ok (.putfield 15, 3) := by decide +kernel
theorem dX3_init_14 : decode cX3_init 14 = .ok (.aload_n 0, 1) := by decide +kernel
theorem dX3_init_15 : decode cX3_init 15 = .ok (.sipush 240, 3) := by decide +kernel
theorem dX3_init_18 : decode cX3_init 18 = .ok (.newarray .int, 2) := by decide +kernel
theorem dX3_init_20 : decode cX3_init 20 = .ok (.putfield 18, 3) := by decide +kernel
theorem dX3_init_23 : decode cX3_init 23 = .ok (.aload_n 0, 1) := by decide +kernel
theorem dX3_init_24 : decode cX3_init 24 = .ok (.sipush 240, 3) := by decide +kernel
theorem dX3_init_27 : decode cX3_init 27 = .ok (.newarray .int, 2) := by decide +kernel
theorem dX3_init_29 : decode cX3_init 29 = .ok (.putfield 22, 3) := by decide +kernel
theorem dX3_init_32 : decode cX3_init 32 = .ok (.aload_n 0, 1) := by decide +kernel
theorem dX3_init_33 : decode cX3_init 33 = .ok (.sipush 240, 3) := by decide +kernel
theorem dX3_init_36 : decode cX3_init 36 = .ok (.newarray .boolean, 2) := by decide +kernel
theorem dX3_init_38 : decode cX3_init 38 = .ok (.putfield 25, 3) := by decide +kernel
theorem dX3_init_4 : decode cX3_init 4 = .ok (.aload_n 0, 1) := by decide +kernel
theorem dX3_init_41 : decode cX3_init 41 = .ok (.aload_n 0, 1) := by decide +kernel
theorem dX3_init_42 : decode cX3_init 42 = .ok (.bipush 60, 2) := by decide +kernel
theorem dX3_init_44 : decode cX3_init 44 = .ok (.newarray .boolean, 2) := by decide +kernel
theorem dX3_init_46 : decode cX3_init 46 = .ok (.putfield 29, 3) := by decide +kernel
theorem dX3_init_49 : decode cX3_init 49 = .ok (.aload_n 0, 1) := by decide +kernel
theorem dX3_init_5 : decode cX3_init 5 = .ok (.iconst 0, 1) := by decide +kernel
theorem dX3_init_50 : decode cX3_init 50 = .ok (.bipush 122, 2) := by decide +kernel
theorem dX3_init_52 : decode cX3_init 52 = .ok (.anewarray 32, 3) := by decide +kernel
theorem dX3_init_55 : decode cX3_init 55 = .ok (.putfield 34, 3) := by decide +kernel
theorem dX3_init_58 : decode cX3_init 58 = .ok (.aload_n 0, 1) := by decide +kernel
theorem dX3_init_59 : decode cX3_init 59 = .ok (.iconst 3, 1) := by decide +kernel
theorem dX3_init_6 : decode cX3_init 6 = .ok (.putfield 9, 3) := by decide +kernel
theorem dX3_init_60 : decode cX3_init 60 = .ok (.newarray .int, 2) := by decide +kernel
theorem dX3_init_62 : decode cX3_init 62 = .ok (.putfield 38, 3) := by decide +kernel
theorem dX3_init_65 : decode cX3_init 65 = .ok (.aload_n 0, 1) := by decide +kernel
theorem dX3_init_66 : decode cX3_init 66 = .ok (.aload_n 1, 1) := by decide +kernel
theorem dX3_init_67 : decode cX3_init 67 = .ok (.putfield 41, 3) := by decide +kernel
theorem dX3_init_70 : decode cX3_init 70 = .ok (.iconst 0, 1) := by decide +kernel
theorem dX3_init_71 : decode cX3_init 71 = .ok (.istore_n 2, 1) := by decide +kernel
theorem dX3_init_72 : decode cX3_init 72 = .ok (.iload_n 2, 1) := by decide +kernel
theorem dX3_init_73 : decode cX3_init 73 = .ok (.aload_n 0, 1) := by decide +kernel
theorem dX3_init_74 : decode cX3_init 74 = .ok (.getfield 34, 3) := by decide +kernel
theorem dX3_init_77 : decode cX3_init 77 = .ok (.arraylength, 1) := by decide +kernel
theorem dX3_init_78 : decode cX3_init 78 = .ok (.if_icmp .ge 22, 3) := by decide +kernel
theorem dX3_init_81 : decode cX3_init 81 = .ok (.aload_n 0, 1) := by decide +kernel
theorem dX3_init_82 : decode cX3_init 82 = .ok (.getfield 34, 3) := by decide +kernel
theorem dX3_init_85 : decode cX3_init 85 = .ok (.iload_n 2, 1) := by decide +kernel
theorem dX3_init_86 : decode cX3_init 86 = .ok (.new 32, 3) := by decide +kernel
theorem dX3_init_89 : decode cX3_init 89 = .ok (.dup, 1) := by decide +kernel
theorem dX3_init_9 : decode cX3_init 9 = .ok (.aload_n 0, 1) := by decide +kernel
theorem dX3_init_90 : decode cX3_init 90 = .ok (.invokespecial 45, 3) := by decide +kernel
theorem dX3_init_93 : decode cX3_init 93 = .ok (.aastore, 1) := by decide +kernel
theorem dX3_init_94 : decode cX3_init 94 = .ok (.iinc 2 1, 3) := by decide +kernel
theorem dX3_init_97 : decode cX3_init 97 = .ok (.goto (-25), 3) := by decide +kernel
theorem dX4_init_0 : decode cX4_init 0 = .ok (.aload_n 0, 1) := by decide +kernel
theorem dX4_init_1 : decode cX4_init 1 = .ok (.invokespecial 3, 3) := by decide +kernel
theorem dX4_init_10 : decode cX4_init 10 = .ok (.iconst 0, 1) := by decide +kernel
theorem dX4_init_11 : decode cX4_init 11 = .ok (.putfield 15, 3) := by decide +kernel
theorem dX4_init_14 : decode cX4_init 14 = .ok (.aload_n 0, 1) := by decide +kernel
theorem dX4_init_15 : decode cX4_init 15 = .ok (.iconst 0, 1) := by decide +kernel
theorem dX4_init_16 : decode cX4_init 16 = .ok (.putfield 18, 3) := by decide +kernel
theorem dX4_init_19 : decode cX4_init 19 = .ok (.aload_n 0, 1) := by decide +kernel
theorem dX4_init_20 : decode cX4_init 20 = .ok (.iconst 0, 1) := by decide +kernel
theorem dX4_init_21 : decode cX4_init 21 = .ok (.putfield 21, 3) := by decide +kernel
theorem dX4_init_24 : decode cX4_init 24 = .ok (.aload_n 0, 1) := by decide +kernel
theorem dX4_init_25 : decode cX4_init 25 = .ok (.iconst 0, 1) := by decide +kernel
theorem dX4_init_26 : decode cX4_init 26 = .ok (.putfield 24, 3) := by decide +kernel
theorem dX4_init_29 : decode cX4_init 29 = .ok (.aload_n 0, 1) := by decide +kernel
theorem dX4_init_30 : decode cX4_init 30 = .ok (.iconst 0, 1) := by decide +kernel
theorem dX4_init_31 : decode cX4_init 31 = .ok (.putfield 27, 3) := by decide +kernel
theorem dX4_init_34 : decode cX4_init 34 = .ok (.aload_n 0, 1) := by decide +kernel
theorem dX4_init_35 : decode cX4_init 35 = .ok (.iconst 0, 1) := by decide +kernel
theorem dX4_init_36 : decode cX4_init 36 = .ok (.putfield 30, 3) := by decide +kernel
theorem dX4_init_39 : decode cX4_init 39 = .ok (.return_, 1) := by decide +kernel
theorem dX4_init_4 : decode cX4_init 4 = .ok (.aload_n 0, 1) := by decide +kernel
theorem dX4_init_5 : decode cX4_init 5 = .ok (.iconst 0, 1) := by decide +kernel
theorem dX4_init_6 : decode cX4_init 6 = .ok (.putfield 9, 3) := by decide +kernel
theorem dX4_init_9 : decode cX4_init 9 = .ok (.aload_n 0, 1) := by decide +kernel
theorem dX5_init_0 : decode cX5_init 0 = .ok (.aload_n 0, 1) := by decide +kernel
theorem dX5_init_1 : decode cX5_init 1 = .ok (.invokespecial 3, 3) := by decide +kernel
theorem dX5_init_10 : decode cX5_init 10 = .ok (.iconst (-1), 1) := by decide +kernel
theorem dX5_init_11 : decode cX5_init 11 = .ok (.putfield 15, 3) := by decide +kernel
theorem dX5_init_14 : decode cX5_init 14 = .ok (.aload_n 0, 1) := by decide +kernel
theorem dX5_init_15 : decode cX5_init 15 = .ok (.iconst 0, 1) := by decide +kernel
theorem dX5_init_16 : decode cX5_init 16 = .ok (.putfield 18, 3) := by decide +kernel
theorem dX5_init_19 : decode cX5_init 19 = .ok (.aload_n 0, 1) := by decide +kernel
theorem dX5_init_20 : decode cX5_init 20 = .ok (.iconst 0, 1) := by decide +kernel
theorem dX5_init_21 : decode cX5_init 21 = .ok (.putfield 23, 3) := by decide +kernel
theorem dX5_init_24 : decode cX5_init 24 = .ok (.aload_n 0, 1) := by decide +kernel
theorem dX5_init_25 : decode cX5_init 25 = .ok (.iconst 0, 1) := by decide +kernel
theorem dX5_init_26 : decode cX5_init 26 = .ok (.putfield 26, 3) := by decide +kernel
theorem dX5_init_29 : decode cX5_init 29 = .ok (.aload_n 0, 1) := by decide +kernel
theorem dX5_init_30 : decode cX5_init 30 = .ok (.iconst 0, 1) := by decide +kernel
theorem dX5_init_31 : decode cX5_init 31 = .ok (.putfield 29, 3) := by decide +kernel
theorem dX5_init_34 : decode cX5_init 34 = .ok (.aload_n 0, 1) := by decide +kernel
theorem dX5_init_35 : decode cX5_init 35 = .ok (.iconst 0, 1) := by decide +kernel
theorem dX5_init_36 : decode cX5_init 36 = .ok (.putfield 32, 3) := by decide +kernel
theorem dX5_init_39 : decode cX5_init 39 = .ok (.aload_n 0, 1) := by decide +kernel
theorem dX5_init_4 : decode cX5_init 4 = .ok (.aload_n 0, 1) := by decide +kernel
theorem dX5_init_40 : decode cX5_init 40 = .ok (.bipush 6, 2) := by decide +kernel
theorem dX5_init_42 : decode cX5_init 42 = .ok (.newarray .int, 2) := by decide +kernel
theorem dX5_init_44 : decode cX5_init 44 = .ok (.putfield 35, 3) := by decide +kernel
theorem dX5_init_47 : decode cX5_init 47 = .ok (.aload_n 0, 1) := by decide +kernel
theorem dX5_init_48 : decode cX5_init 48 = .ok (.new 21, 3) := by decide +kernel
theorem dX5_init_5 : decode cX5_init 5 = .ok (.iconst 0, 1) := by decide +kernel
theorem dX5_init_51 : decode cX5_init 51 = .ok (.dup, 1) := by decide +kernel
theorem dX5_init_52 : decode cX5_init 52 = .ok (.aload_n 1, 1) := by decide +kernel
theorem dX5_init_53 : decode cX5_init 53 = .ok (.invokespecial 39, 3) := by decide +kernel
theorem dX5_init_56 : decode cX5_init 56 = .ok (.putfield 42, 3) := by decide +kernel
theorem dX5_init_59 : decode cX5_init 59 = .ok (.aload_n 0, 1) := by decide +kernel
theorem dX5_init_6 : decode cX5_init 6 = .ok (.putfield 9, 3) := by decide +kernel
theorem dX5_init_60 : decode cX5_init 60 = .ok (.aload_n 2, 1) := by decide +kernel
theorem dX5_init_61 : decode cX5_init 61 = .ok (.putfield 46, 3) := by decide +kernel
theorem dX5_init_64 : decode cX5_init 64 = .ok (.return_, 1) := by decide +kernel
theorem dX5_init_9 : decode cX5_init 9 = .ok (.aload_n 0, 1) := by decide +kernel
theorem dX6_init_0 : decode cX6_init 0 = .ok (.aload_n 0, 1) := by decide +kernel
theorem dX6_init_1 : decode cX6_init 1 = .ok (.invokespecial 3, 3) := by decide +kernel
theorem dX6_init_12 : decode cX6_init 12 = .ok (.aload_n 0, 1) := by decide +kernel
theorem dX6_init_13 : decode cX6_init 13 = .ok (.iconst 0, 1) := by decide +kernel
theorem dX6_init_14 : decode cX6_init 14 = .ok (.putfield 17, 3) := by decide +kernel
theorem dX6_init_17 : decode cX6_init 17 = .ok (.aload_n 0, 1) := by decide +kernel
theorem dX6_init_18 : decode cX6_init 18 = .ok (.aload_n 1, 1) := by decide +kernel
theorem dX6_init_19 : decode cX6_init 19 = .ok (.putfield 21, 3) := by decide +kernel
theorem dX6_init_22 : decode cX6_init 22 = .ok (.iconst 0, 1) := by decide +kernel
theorem dX6_init_23 : decode cX6_init 23 = .ok (.istore_n 2, 1) := by decide +kernel
theorem dX6_init_24 : decode cX6_init 24 = .ok (.iload_n 2, 1) := by decide +kernel
theorem dX6_init_25 : decode cX6_init 25 = .ok (.iconst 4, 1) := by decide +kernel
theorem dX6_init_26 : decode cX6_init 26 = .ok (.if_icmp .gt 22, 3) := by decide +kernel
theorem dX6_init_29 : decode cX6_init 29 = .ok (.aload_n 0, 1) := by decide +kernel
theorem dX6_init_30 : decode cX6_init 30 = .ok (.getfield 11, 3) := by decide +kernel
theorem dX6_init_33 : decode cX6_init 33 = .ok (.iload_n 2, 1) := by decide +kernel
theorem dX6_init_34 : decode cX6_init 34 = .ok (.new 9, 3) := by decide +kernel
theorem dX6_init_37 : decode cX6_init 37 = .ok (.dup, 1) := by decide +kernel
theorem dX6_init_38 : decode cX6_init 38 = .ok (.invokespecial 25, 3) := by decide +kernel
theorem dX6_init_4 : decode cX6_init 4 = .ok (.aload_n 0, 1) := by decide +kernel
theorem dX6_init_41 : decode cX6_init 41 = .ok (.aastore, 1) := by decide +kernel
theorem dX6_init_42 : decode cX6_init 42 = .ok (.iinc 2 1, 3) := by decide +kernel
theorem dX6_init_45 : decode cX6_init 45 = .ok (.goto (-21), 3) := by decide +kernel
theorem dX6_init_48 : decode cX6_init 48 = .ok (.return_, 1) := by decide +kernel
theorem dX6_init_5 : decode cX6_init 5 = .ok (.iconst 5, 1) := by decide +kernel
theorem dX6_init_6 : decode cX6_init 6 = .ok (.anewarray 9, 3) := by decide +kernel
theorem dX6_init_9 : decode cX6_init 9 = .ok (.putfield 11, 3) := by decide +kernel
theorem dX7_init_0 : decode cX7_init 0 = .ok (.aload_n 0, 1) := by decide +kernel
theorem dX7_init_1 : decode cX7_init 1 = .ok (.invokespecial 3, 3) := by decide +kernel
theorem dX7_init_10 : decode cX7_init 10 = .ok (.iconst 0, 1) := by decide +kernel
theorem dX7_init_11 : decode cX7_init 11 = .ok (.putfield 15, 3) := by decide +kernel
theorem dX7_init_14 : decode cX7_init 14 = .ok (.aload_n 0, 1) := by decide +kernel
theorem dX7_init_15 : decode cX7_init 15 = .ok (.bipush 30, 2) := by decide +kernel
theorem dX7_init_17 : decode cX7_init 17 = .ok (.newarray .int, 2) := by decide +kernel
theorem dX7_init_19 : decode cX7_init 19 = .ok (.putfield 18, 3) := by decide +kernel
theorem dX7_init_22 : decode cX7_init 22 = .ok (.aload_n 0, 1) := by decide +kernel
theorem dX7_init_23 : decode cX7_init 23 = .ok (.bipush 30, 2) := by decide +kernel
theorem dX7_init_25 : decode cX7_init 25 = .ok (.newarray .int, 2) := by decide +kernel
theorem dX7_init_27 : decode cX7_init 27 = .ok (.putfield 22, 3) := by decide +kernel
theorem dX7_init_30 : decode cX7_init 30 = .ok (.aload_n 0, 1) := by decide +kernel
theorem dX7_init_31 : decode cX7_init 31 = .ok (.bipush 30, 2) := by decide +kernel
theorem dX7_init_33 : decode cX7_init 33 = .ok (.newarray .int, 2) := by decide +kernel
theorem dX7_init_35 : decode cX7_init 35 = .ok (.putfield 25, 3) := by decide +kernel
theorem dX7_init_38 : decode cX7_init 38 = .ok (.aload_n 0, 1) := by decide +kernel
theorem dX7_init_39 : decode cX7_init 39 = .ok (.bipush 30, 2) := by decide +kernel
theorem dX7_init_4 : decode cX7_init 4 = .ok (.aload_n 0, 1) := by decide +kernel
theorem dX7_init_41 : decode cX7_init 41 = .ok (.newarray .int, 2) := by decide +kernel
theorem dX7_init_43 : decode cX7_init 43 = .ok (.putfield 28, 3) := by decide +kernel
theorem dX7_init_46 : decode cX7_init 46 = .ok (.aload_n 0, 1) := by decide +kernel
theorem dX7_init_47 : decode cX7_init 47 = .ok (.bipush 30, 2) := by decide +kernel
theorem dX7_init_49 : decode cX7_init 49 = .ok (.newarray .int, 2) := by decide +kernel
theorem dX7_init_5 : decode cX7_init 5 = .ok (.iconst 0, 1) := by decide +kernel
theorem dX7_init_51 : decode cX7_init 51 = .ok (.putfield 31, 3) := by decide +kernel
theorem dX7_init_54 : decode cX7_init 54 = .ok (.aload_n 0, 1) := by decide +kernel
theorem dX7_init_55 : decode cX7_init 55 = .ok (.bipush 30, 2) := by decide +kernel
theorem dX7_init_57 : decode cX7_init 57 = .ok (.newarray .int, 2) := by decide +kernel
theorem dX7_init_59 : decode cX7_init 59 = .ok (.putfield 34, 3) := by decide +kernel
theorem dX7_init_6 : decode cX7_init 6 = .ok (.putfield 9, 3) := by decide +kernel
theorem dX7_init_62 : decode cX7_init 62 = .ok (.return_, 1) := by decide +kernel
theorem dX7_init_9 : decode cX7_init 9 = .ok (.aload_n 0, 1) := by decide +kernel
theorem dX8_init_0 : decode cX8_init 0 = .ok (.aload_n 0, 1) := by decide +kernel
theorem dX8_init_1 : decode cX8_init 1 = .ok (.invokespecial 3, 3) := by decide +kernel
theorem dX8_init_10 : decode cX8_init 10 = .ok (.iconst 0, 1) := by decide +kernel
theorem dX8_init_100 : decode cX8_init 100 = .ok (.iinc 4 1, 3) := by decide +kernel
theorem dX8_init_103 : decode cX8_init 103 = .ok (.goto (-38), 3) := by decide +kernel
theorem dX8_init_106 : decode cX8_init 106 = .ok (.return_, 1) := by decide +kernel
theorem dX8_init_11 : decode cX8_init 11 = .ok (.putfield 15, 3) := by decide +kernel
theorem dX8_init_14 : decode cX8_init 14 = .ok (.aload_n 0, 1) := by decide +kernel
theorem dX8_init_15 : decode cX8_init 15 = .ok (.iconst 0, 1) := by decide +kernel
theorem dX8_init_16 : decode cX8_init 16 = .ok (.putfield 18, 3) := by decide +kernel
theorem dX8_init_19 : decode cX8_init 19 = .ok (.aload_n 0, 1) := by decide +kernel
theorem dX8_init_20 : decode cX8_init 20 = .ok (.iconst (-1), 1) := by decide +kernel
theorem dX8_init_21 : decode cX8_init 21 = .ok (.putfield 21, 3) := by decide +kernel
theorem dX8_init_24 : decode cX8_init 24 = .ok (.aload_n 0, 1) := by decide +kernel
theorem dX8_init_25 : decode cX8_init 25 = .ok (.bipush 11, 2) := by decide +kernel
theorem dX8_init_27 : decode cX8_init 27 = .ok (.anewarray 24, 3) := by decide +kernel
theorem dX8_init_30 : decode cX8_init 30 = .ok (.putfield 26, 3) := by decide +kernel
theorem dX8_init_33 : decode cX8_init 33 = .ok (.aload_n 0, 1) := by decide +kernel
theorem dX8_init_34 : decode cX8_init 34 = .ok (.bipush 11, 2) := by decide +kernel
theorem dX8_init_36 : decode cX8_init 36 = .ok (.anewarray 24, 3) := by decide +kernel
theorem dX8_init_39 : decode cX8_init 39 = .ok (.putfield 30, 3) := by decide +kernel
theorem dX8_init_4 : decode cX8_init 4 = .ok (.aload_n 0, 1) := by decide +kernel
theorem dX8_init_42 : decode cX8_init 42 = .ok (.aload_n 0, 1) := by decide +kernel
theorem dX8_init_43 : decode cX8_init 43 = .ok (.iconst 0, 1) := by decide +kernel
theorem dX8_init_44 : decode cX8_init 44 = .ok (.putfield 33, 3) := by decide +kernel
theorem dX8_init_47 : decode cX8_init 47 = .ok (.aload_n 0, 1) := by decide +kernel
theorem dX8_init_48 : decode cX8_init 48 = .ok (.aload_n 1, 1) := by decide +kernel
theorem dX8_init_49 : decode cX8_init 49 = .ok (.putfield 36, 3) := by decide +kernel
theorem dX8_init_5 : decode cX8_init 5 = .ok (.iconst 0, 1) := by decide +kernel
theorem dX8_init_52 : decode cX8_init 52 = .ok (.aload_n 0, 1) := by decide +kernel
theorem dX8_init_53 : decode cX8_init 53 = .ok (.aload_n 2, 1) := by decide +kernel
theorem dX8_init_54 : decode cX8_init 54 = .ok (.putfield 40, 3) := by decide +kernel
theorem dX8_init_57 : decode cX8_init 57 = .ok (.aload_n 0, 1) := by decide +kernel
theorem dX8_init_58 : decode cX8_init 58 = .ok (.aload_n 3, 1) := by decide +kernel
theorem dX8_init_59 : decode cX8_init 59 = .ok (.putfield 44, 3) := by decide +kernel
theorem dX8_init_6 : decode cX8_init 6 = .ok (.putfield 9, 3) := by decide +kernel
theorem dX8_init_62 : decode cX8_init 62 = .ok (.iconst 0, 1) := by decide +kernel
theorem dX8_init_63 : decode cX8_init 63 = .ok (.istore 4, 2) := by decide +kernel
theorem dX8_init_65 : decode cX8_init 65 = .ok (.iload 4, 2) := by decide +kernel
theorem dX8_init_67 : decode cX8_init 67 = .ok (.bipush 10, 2) := by decide +kernel
theorem dX8_init_69 : decode cX8_init 69 = .ok (.if_icmp .gt 37, 3) := by decide +kernel
theorem dX8_init_72 : decode cX8_init 72 = .ok (.aload_n 0, 1) := by decide +kernel
theorem dX8_init_73 : decode cX8_init 73 = .ok (.getfield 26, 3) := by decide +kernel
theorem dX8_init_76 : decode cX8_init 76 = .ok (.iload 4, 2) := by decide +kernel
theorem dX8_init_78 : decode cX8_init 78 = .ok (.new 24, 3) := by decide +kernel
theorem dX8_init_81 : decode cX8_init 81 = .ok (.dup, 1) := by decide +kernel
theorem dX8_init_82 : decode cX8_init 82 = .ok (.invokespecial 48, 3) := by decide +kernel
theorem dX8_init_85 : decode cX8_init 85 = .ok (.aastore, 1) := by decide +kernel
theorem dX8_init_86 : decode cX8_init 86 = .ok (.aload_n 0, 1) := by decide +kernel
theorem dX8_init_87 : decode cX8_init 87 = .ok (.getfield 30, 3) := by decide +kernel
theorem dX8_init_9 : decode cX8_init 9 = .ok (.aload_n 0, 1) := by decide +kernel
theorem dX8_init_90 : decode cX8_init 90 = .ok (.iload 4, 2) := by decide +kernel
theorem dX8_init_92 : decode cX8_init 92 = .ok (.new 24, 3) := by decide +kernel
theorem dX8_init_95 : decode cX8_init 95 = .ok (.dup, 1) := by decide +kernel
theorem dX8_init_96 : decode cX8_init 96 = .ok (.invokespecial 48, 3) := by decide +kernel
theorem dX8_init_99 : decode cX8_init 99 = .ok (.aastore, 1) := by decide +kernel
theorem dX9_init_0 : decode cX9_init 0 = .ok (.aload_n 0, 1) := by decide +kernel
theorem dX9_init_1 : decode cX9_init 1 = .ok (.invokespecial 3, 3) := by decide +kernel
theorem dX9_init_10 : decode cX9_init 10 = .ok (.sipush 1601, 3) := by decide +kernel
theorem dX9_init_13 : decode cX9_init 13 = .ok (.newarray .byte, 2) := by decide +kernel
theorem dX9_init_15 : decode cX9_init 15 = .ok (.putfield 15, 3) := by decide +kernel
theorem dX9_init_18 : decode cX9_init 18 = .ok (.aload_n 0, 1) := by decide +kernel
theorem dX9_init_19 : decode cX9_init 19 = .ok (.sipush 1601, 3) := by decide +kernel
theorem dX9_init_22 : decode cX9_init 22 = .ok (.newarray .int, 2) := by decide +kernel
theorem dX9_init_24 : decode cX9_init 24 = .ok (.putfield 19, 3) := by decide +kernel
theorem dX9_init_27 : decode cX9_init 27 = .ok (.aload_n 0, 1) := by decide +kernel
theorem dX9_init_28 : decode cX9_init 28 = .ok (.iconst 0, 1) := by decide +kernel
theorem dX9_init_29 : decode cX9_init 29 = .ok (.putfield 23, 3) := by decide +kernel
theorem dX9_init_32 : decode cX9_init 32 = .ok (.aload_n 0, 1) := by decide +kernel
theorem dX9_init_33 : decode cX9_init 33 = .ok (.aload_n 1, 1) := by decide +kernel
theorem dX9_init_34 : decode cX9_init 34 = .ok (.putfield 26, 3) := by decide +kernel
theorem dX9_init_37 : decode cX9_init 37 = .ok (.return_, 1) := by decide +kernel
theorem dX9_init_4 : decode cX9_init 4 = .ok (.aload_n 0, 1) := by decide +kernel
theorem dX9_init_5 : decode cX9_init 5 = .ok (.iconst 0, 1) := by decide +kernel
theorem dX9_init_6 : decode cX9_init 6 = .ok (.putfield 9, 3) := by decide +kernel
theorem dX9_init_9 : decode cX9_init 9 = .ok (.aload_n 0, 1) := by decide +kernel
set_option maxRecDepth 20000 in
theorem ggX10_init_X4_init : GoodIn wsX10_init wsX4_init := goodIn_r _ [23, 24, 2, 3, 25, 26, 27, 28, 29, 30, 31, 45, 46, 47, 48, 49, 50, 51] (by decide +kernel) (by decide +kernel)
set_option maxRecDepth 20000 in
theorem gX10_init_X4_init_n52 : GoodIn wsX10_init (wsX4_init) := ggX10_init_X4_init
set_option maxRecDepth 20000 in
theorem ggX1_init_X4_init : GoodIn wsX1_init wsX4_init := goodIn_r _ [15, 16, 2, 3, 17, 18, 19, 20, 21, 22, 23, 31, 32, 33, 34, 35, 36, 37] (by decide +kernel) (by decide +kernel)
set_option maxRecDepth 20000 in
theorem gX1_init_X4_init_n27 : GoodIn wsX1_init (wsX4_init) := ggX1_init_X4_init
set_option maxRecDepth 20000 in
theorem ggX3_init_X4_init : GoodIn wsX3_init wsX4_init := goodIn_r _ [19, 20, 2, 3, 21, 22, 23, 24, 25, 26, 27, 37, 38, 39, 40, 41, 42, 43] (by decide +kernel) (by decide +kernel)
set_option maxRecDepth 20000 in
theorem gX3_init_X4_init_n45 : GoodIn wsX3_init (wsX4_init) := ggX3_init_X4_init
set_option maxRecDepth 20000 in
theorem ggX5_init_X9_init : GoodIn wsX5_init wsX9_init := goodIn_r _ [20, 21, 2, 3, 22, 23, 24, 11, 25, 26, 27, 38, 39, 40, 41, 42] (by decide +kernel) (by decide +kernel)
set_option maxRecDepth 20000 in
theorem gX5_init_X9_init : GoodIn wsX5_init (wsX9_init) := ggX5_init_X9_init
set_option maxRecDepth 20000 in
theorem ggX6_init_X4_init : GoodIn wsX6_init wsX4_init := goodIn_r _ [11, 12, 2, 3, 13, 14, 15, 16, 17, 18, 19, 23, 24, 25, 26, 27, 28, 29] (by decide +kernel) (by decide +kernel)
set_option maxRecDepth 20000 in
theorem gX6_init_X4_init_n25 : GoodIn wsX6_init (wsX4_init) := ggX6_init_X4_init
set_option maxRecDepth 20000 in
theorem ggX8_init_X4_init : GoodIn wsX8_init wsX4_init := goodIn_r _ [18, 19, 2, 3, 20, 21, 22, 23, 24, 25, 26, 37, 38, 39, 40, 41, 42, 43] (by decide +kernel) (by decide +kernel)
set_option maxRecDepth 20000 in
theorem gX8_init_X4_init_n48 : GoodIn wsX8_init (wsX4_init) := ggX8_init_X4_init
theorem zk_10 : (10 : Int32).toInt = 10 := by decide
theorem zk_122 : (122 : Int32).toInt = 122 := by decide
theorem zk_4 : (4 : Int32).toInt = 4 := by decide
theorem zk_64 : (64 : Int32).toInt = 64 := by decide
theorem iuX4_init_X4 : ∀ w ∈ u_ws RX4 TX4 7, w ∈ wsX4_init := fun _ h => List.mem_cons_of_mem _ (List.mem_append_right _ h)
theorem iuX10_init_X10 : ∀ w ∈ u_ws RX10 TX10 13, w ∈ wsX10_init := fun _ h => List.mem_cons_of_mem _ (List.mem_append_left _ (List.mem_append_right _ h))
theorem iuX10_init_X4 : ∀ w ∈ u_ws RX4 TX4 7, w ∈ wsX10_init := fun _ h => List.mem_cons_of_mem _ (List.mem_append_right _ h)
theorem iuX9_init_X9 : ∀ w ∈ u_ws RX9 TX9 5, w ∈ wsX9_init := fun _ h => List.mem_cons_of_mem _ (List.mem_append_right _ h)
theorem iuX5_init_X5 : ∀ w ∈ u_ws RX5 TX5 10, w ∈ wsX5_init := fun _ h => List.mem_cons_of_mem _ (List.mem_append_left _ (List.mem_append_right _ h))
theorem iuX5_init_X9 : ∀ w ∈ u_ws RX9 TX9 5, w ∈ wsX5_init := fun _ h => List.mem_cons_of_mem _ (List.mem_append_right _ h)
theorem iuX2_init_X2 : ∀ w ∈ u_ws RX2 TX2 12, w ∈ wsX2_init := fun _ h => List.mem_cons_of_mem _ (List.mem_append_right _ h)
theorem iuX6_init_X4 : ∀ w ∈ u_ws RX4 TX4 7, w ∈ wsX6_init := fun _ h => List.mem_cons_of_mem _ (List.mem_append_right _ h)
theorem iuX6_init_X6 : ∀ w ∈ u_ws RX6 TX6 3, w ∈ wsX6_init := fun _ h => List.mem_cons_of_mem _ (List.mem_append_left _ (List.mem_append_right _ h))
theorem iuX3_init_X3 : ∀ w ∈ u_ws RX3 TX3 9, w ∈ wsX3_init := fun _ h => List.mem_cons_of_mem _ (List.mem_append_left _ (List.mem_append_right _ h))
theorem iuX3_init_X4 : ∀ w ∈ u_ws RX4 TX4 7, w ∈ wsX3_init := fun _ h => List.mem_cons_of_mem _ (List.mem_append_right _ h)
theorem iuX1_init_X1 : ∀ w ∈ u_ws RX1 TX1 7, w ∈ wsX1_init := fun _ h => List.mem_cons_of_mem _ (List.mem_append_left _ (List.mem_append_right _ h))
theorem iuX1_init_X4 : ∀ w ∈ u_ws RX4 TX4 7, w ∈ wsX1_init := fun _ h => List.mem_cons_of_mem _ (List.mem_append_right _ h)
theorem iuX0_init_X0 : ∀ w ∈ u_ws RX0 TX0 7, w ∈ wsX0_init := fun _ h => List.mem_cons_of_mem _ (List.mem_append_right _ h)
theorem iuX7_init_X7 : ∀ w ∈ u_ws RX7 TX7 8, w ∈ wsX7_init := fun _ h => List.mem_cons_of_mem _ (List.mem_append_right _ h)
theorem iuX8_init_X4 : ∀ w ∈ u_ws RX4 TX4 7, w ∈ wsX8_init := fun _ h => List.mem_cons_of_mem _ (List.mem_append_right _ h)
theorem iuX8_init_X8 : ∀ w ∈ u_ws RX8 TX8 10, w ∈ wsX8_init := fun _ h => List.mem_cons_of_mem _ (List.mem_append_left _ (List.mem_append_right _ h))
theorem fsX4 : ∀ j, j < 7 → defaultValue (tyX4 j) = vp_V [.int 0, .int 0, .int 0, .int 0, .int 0, .int 0, .int 0] j := fun j hj => match j, hj with
  | 0, _ => rfl
  | 1, _ => rfl
  | 2, _ => rfl
  | 3, _ => rfl
  | 4, _ => rfl
  | 5, _ => rfl
  | 6, _ => rfl
  | j + 7, h => absurd h (by omega)
theorem fsX9 : ∀ j, j < 5 → defaultValue (tyX9 j) = vp_V [.int 0, .null, .null, .null, .int 0] j := fun j hj => match j, hj with
  | 0, _ => rfl
  | 1, _ => rfl
  | 2, _ => rfl
  | 3, _ => rfl
  | 4, _ => rfl
  | j + 5, h => absurd h (by omega)
set_option maxHeartbeats 4000000 in
set_option maxRecDepth 100000 in
theorem zX4_init_1 (l : Launch) (D : va_G) (h0 : Nat) (sz : Nat) : Met l yX4_init wsX4_init ({ frames := 1, cells := 0, slots := 0, locals := 12 }) (zPre D [.ref h0] [(h0, .inr (4, [.int 0, .int 0, .int 0, .int 0, .int 0, .int 0, .int 0]))] [] sz) ((fun A => va_Qv (fun (u : Unit) => match u with | _ => True) (zB D A (fun (u : Unit) => match u with | _ => [(h0, .inr (4, [.int 0, .int 0, .int 0, .int 0, .int 0, .int 0, .int 0]))]) (fun (u : Unit) => match u with | _ => [])) A) (va_A [(h0, .inr (4, [.int 0, .int 0, .int 0, .int 0, .int 0, .int 0, .int 0]))] sz)) 0 0 (va_A [(h0, .inr (4, [.int 0, .int 0, .int 0, .int 0, .int 0, .int 0, .int 0]))] sz) := by
  refine zOfW (QF := fun A => va_Qv (fun (u : Unit) => match u with | _ => True) (zB D A (fun (u : Unit) => match u with | _ => [(h0, .inr (4, [.int 0, .int 0, .int 0, .int 0, .int 0, .int 0, .int 0]))]) (fun (u : Unit) => match u with | _ => [])) A) (cc := cX4_init) (maxL := 1) (ret := none) (by decide) rfl (Nat.le_of_ble_eq_true rfl) ?_
  intro p e s m below meth c A ls hx hb hr hml hts hown hlocks hin hA hS hP hD hK hN hl
  have hl : lv_has ls 1 [(0, .ref h0)] := hl
  refine lv_aload_n hx hb dX4_init_0 rfl (lv_at hl 0 rfl) ?_
  refine W.objInit hx hb hown (hts (.methodLink RX4 3 objectInit) (List.mem_of_getElem? (i := 1) rfl)) (hts (.instanceMethod objectInit) (List.mem_of_getElem? (i := 2) rfl)) (hts (.code objectInit ⟨#[0xb1]⟩ 1 none) (List.mem_of_getElem? (i := 3) rfl)) rfl (by rw [hml]; exact hl.1) rfl dX4_init_1 (Nat.le_of_ble_eq_true rfl) (Nat.le_of_ble_eq_true rfl) ?_
  refine W.eq (g2 := F0 m 4 ls []) rfl ?_
  refine lv_aload_n hx hb dX4_init_4 rfl (lv_at hl 0 rfl) ?_
  refine lv_iconst (v := 0) hx hb dX4_init_5 (by decide) ?_
  refine va_put (D := D) (ci := 4) (v := .int 0) (ty := .int) (C := RX4) (T := TX4) (N := 7) hx hb hts iuX4_init_X4 tyX4 tyX4_ok nmX4 hown hK hP hD hS 0 rfl rfl 0 (by decide) (hts (.fieldLink RX4 9 "StraitGame$Position" "toMove" "I") (List.mem_of_getElem? (i := 4) rfl)) (fun _ h9 => h9) rfl (by decide +kernel) rfl rfl (Nat.le_of_ble_eq_true rfl) dX4_init_6 (fun H locs hP hD hS => ?_)
  have hP : va_P D vwCl [(h0, .inr (4, [.int 0, .int 0, .int 0, .int 0, .int 0, .int 0, .int 0]))] H := hP
  have hD : va_D A [(h0, .inr (4, [.int 0, .int 0, .int 0, .int 0, .int 0, .int 0, .int 0]))] := hD
  refine lv_aload_n hx hb dX4_init_9 rfl (lv_at hl 0 rfl) ?_
  refine lv_iconst (v := 0) hx hb dX4_init_10 (by decide) ?_
  refine va_put (D := D) (ci := 4) (v := .int 0) (ty := .int) (C := RX4) (T := TX4) (N := 7) hx hb hts iuX4_init_X4 tyX4 tyX4_ok nmX4 hown hK hP hD hS 0 rfl rfl 1 (by decide) (hts (.fieldLink RX4 15 "StraitGame$Position" "white" "I") (List.mem_of_getElem? (i := 5) rfl)) (fun _ h9 => h9) rfl (by decide +kernel) rfl rfl (Nat.le_of_ble_eq_true rfl) dX4_init_11 (fun H locs hP hD hS => ?_)
  have hP : va_P D vwCl [(h0, .inr (4, [.int 0, .int 0, .int 0, .int 0, .int 0, .int 0, .int 0]))] H := hP
  have hD : va_D A [(h0, .inr (4, [.int 0, .int 0, .int 0, .int 0, .int 0, .int 0, .int 0]))] := hD
  refine lv_aload_n hx hb dX4_init_14 rfl (lv_at hl 0 rfl) ?_
  refine lv_iconst (v := 0) hx hb dX4_init_15 (by decide) ?_
  refine va_put (D := D) (ci := 4) (v := .int 0) (ty := .int) (C := RX4) (T := TX4) (N := 7) hx hb hts iuX4_init_X4 tyX4 tyX4_ok nmX4 hown hK hP hD hS 0 rfl rfl 2 (by decide) (hts (.fieldLink RX4 18 "StraitGame$Position" "black" "I") (List.mem_of_getElem? (i := 6) rfl)) (fun _ h9 => h9) rfl (by decide +kernel) rfl rfl (Nat.le_of_ble_eq_true rfl) dX4_init_16 (fun H locs hP hD hS => ?_)
  have hP : va_P D vwCl [(h0, .inr (4, [.int 0, .int 0, .int 0, .int 0, .int 0, .int 0, .int 0]))] H := hP
  have hD : va_D A [(h0, .inr (4, [.int 0, .int 0, .int 0, .int 0, .int 0, .int 0, .int 0]))] := hD
  refine lv_aload_n hx hb dX4_init_19 rfl (lv_at hl 0 rfl) ?_
  refine lv_iconst (v := 0) hx hb dX4_init_20 (by decide) ?_
  refine va_put (D := D) (ci := 4) (v := .int 0) (ty := .int) (C := RX4) (T := TX4) (N := 7) hx hb hts iuX4_init_X4 tyX4 tyX4_ok nmX4 hown hK hP hD hS 0 rfl rfl 3 (by decide) (hts (.fieldLink RX4 21 "StraitGame$Position" "kings" "I") (List.mem_of_getElem? (i := 7) rfl)) (fun _ h9 => h9) rfl (by decide +kernel) rfl rfl (Nat.le_of_ble_eq_true rfl) dX4_init_21 (fun H locs hP hD hS => ?_)
  have hP : va_P D vwCl [(h0, .inr (4, [.int 0, .int 0, .int 0, .int 0, .int 0, .int 0, .int 0]))] H := hP
  have hD : va_D A [(h0, .inr (4, [.int 0, .int 0, .int 0, .int 0, .int 0, .int 0, .int 0]))] := hD
  refine lv_aload_n hx hb dX4_init_24 rfl (lv_at hl 0 rfl) ?_
  refine lv_iconst (v := 0) hx hb dX4_init_25 (by decide) ?_
  refine va_put (D := D) (ci := 4) (v := .int 0) (ty := .int) (C := RX4) (T := TX4) (N := 7) hx hb hts iuX4_init_X4 tyX4 tyX4_ok nmX4 hown hK hP hD hS 0 rfl rfl 4 (by decide) (hts (.fieldLink RX4 24 "StraitGame$Position" "ones" "I") (List.mem_of_getElem? (i := 8) rfl)) (fun _ h9 => h9) rfl (by decide +kernel) rfl rfl (Nat.le_of_ble_eq_true rfl) dX4_init_26 (fun H locs hP hD hS => ?_)
  have hP : va_P D vwCl [(h0, .inr (4, [.int 0, .int 0, .int 0, .int 0, .int 0, .int 0, .int 0]))] H := hP
  have hD : va_D A [(h0, .inr (4, [.int 0, .int 0, .int 0, .int 0, .int 0, .int 0, .int 0]))] := hD
  refine lv_aload_n hx hb dX4_init_29 rfl (lv_at hl 0 rfl) ?_
  refine lv_iconst (v := 0) hx hb dX4_init_30 (by decide) ?_
  refine va_put (D := D) (ci := 4) (v := .int 0) (ty := .int) (C := RX4) (T := TX4) (N := 7) hx hb hts iuX4_init_X4 tyX4 tyX4_ok nmX4 hown hK hP hD hS 0 rfl rfl 5 (by decide) (hts (.fieldLink RX4 27 "StraitGame$Position" "twos" "I") (List.mem_of_getElem? (i := 9) rfl)) (fun _ h9 => h9) rfl (by decide +kernel) rfl rfl (Nat.le_of_ble_eq_true rfl) dX4_init_31 (fun H locs hP hD hS => ?_)
  have hP : va_P D vwCl [(h0, .inr (4, [.int 0, .int 0, .int 0, .int 0, .int 0, .int 0, .int 0]))] H := hP
  have hD : va_D A [(h0, .inr (4, [.int 0, .int 0, .int 0, .int 0, .int 0, .int 0, .int 0]))] := hD
  refine lv_aload_n hx hb dX4_init_34 rfl (lv_at hl 0 rfl) ?_
  refine lv_iconst (v := 0) hx hb dX4_init_35 (by decide) ?_
  refine va_put (D := D) (ci := 4) (v := .int 0) (ty := .int) (C := RX4) (T := TX4) (N := 7) hx hb hts iuX4_init_X4 tyX4 tyX4_ok nmX4 hown hK hP hD hS 0 rfl rfl 6 (by decide) (hts (.fieldLink RX4 30 "StraitGame$Position" "fours" "I") (List.mem_of_getElem? (i := 10) rfl)) (fun _ h9 => h9) rfl (by decide +kernel) rfl rfl (Nat.le_of_ble_eq_true rfl) dX4_init_36 (fun H locs hP hD hS => ?_)
  have hP : va_P D vwCl [(h0, .inr (4, [.int 0, .int 0, .int 0, .int 0, .int 0, .int 0, .int 0]))] H := hP
  have hD : va_D A [(h0, .inr (4, [.int 0, .int 0, .int 0, .int 0, .int 0, .int 0, .int 0]))] := hD
  exact zret_v hx hb hr hlocks hP hD hK hS () trivial [0] [] (by decide) rfl rfl (Nat.le_of_ble_eq_true rfl) (Nat.le_of_ble_eq_true rfl) dX4_init_39
set_option maxHeartbeats 4000000 in
set_option maxRecDepth 100000 in
theorem zX10_init_1 (l : Launch) (D : va_G) (h0 : Nat) (sz : Nat) : Met l yX10_init wsX10_init ({ frames := 2, cells := 8, slots := 145, locals := 32 }) (zPre D [.ref h0] [(h0, .inr (10, [.int 0, .int 0, .int 0, .int 0, .int 0, .null, .null, .null, .null, .null, .null, .null, .null]))] [] sz) ((fun A => va_Qv (fun (u : Nat × Nat × Nat × Nat × Nat × Nat × Nat × Nat) => match u with | (qa_18, qa_11, qa_12, qa_13, qa_14, qa_15, qa_16, qa_17) => True) (zB D A (fun (u : Nat × Nat × Nat × Nat × Nat × Nat × Nat × Nat) => match u with | (qa_18, qa_11, qa_12, qa_13, qa_14, qa_15, qa_16, qa_17) => [(h0, .inr (10, [.int 0, .int 0, .int 0, .int 0, .int 0, .ref qa_11, .ref qa_12, .ref qa_13, .ref qa_14, .ref qa_15, .ref qa_16, .ref qa_17, .ref qa_18])), (qa_18, .inr (4, [.int 0, .int 0, .int 0, .int 0, .int 0, .int 0, .int 0]))]) (fun (u : Nat × Nat × Nat × Nat × Nat × Nat × Nat × Nat) => match u with | (qa_18, qa_11, qa_12, qa_13, qa_14, qa_15, qa_16, qa_17) => [])) A) (va_A [(h0, .inr (10, [.int 0, .int 0, .int 0, .int 0, .int 0, .null, .null, .null, .null, .null, .null, .null, .null]))] sz)) 8 145 (va_A [(h0, .inr (10, [.int 0, .int 0, .int 0, .int 0, .int 0, .null, .null, .null, .null, .null, .null, .null, .null]))] sz) := by
  refine zOfW (QF := fun A => va_Qv (fun (u : Nat × Nat × Nat × Nat × Nat × Nat × Nat × Nat) => match u with | (qa_18, qa_11, qa_12, qa_13, qa_14, qa_15, qa_16, qa_17) => True) (zB D A (fun (u : Nat × Nat × Nat × Nat × Nat × Nat × Nat × Nat) => match u with | (qa_18, qa_11, qa_12, qa_13, qa_14, qa_15, qa_16, qa_17) => [(h0, .inr (10, [.int 0, .int 0, .int 0, .int 0, .int 0, .ref qa_11, .ref qa_12, .ref qa_13, .ref qa_14, .ref qa_15, .ref qa_16, .ref qa_17, .ref qa_18])), (qa_18, .inr (4, [.int 0, .int 0, .int 0, .int 0, .int 0, .int 0, .int 0]))]) (fun (u : Nat × Nat × Nat × Nat × Nat × Nat × Nat × Nat) => match u with | (qa_18, qa_11, qa_12, qa_13, qa_14, qa_15, qa_16, qa_17) => [])) A) (cc := cX10_init) (maxL := 1) (ret := none) (by decide) rfl (Nat.le_of_ble_eq_true rfl) ?_
  intro p e s m below meth c A ls hx hb hr hml hts hown hlocks hin hA hS hP hD hK hN hl
  have hl : lv_has ls 1 [(0, .ref h0)] := hl
  refine lv_aload_n hx hb dX10_init_0 rfl (lv_at hl 0 rfl) ?_
  refine W.objInit hx hb hown (hts (.methodLink RX10 3 objectInit) (List.mem_of_getElem? (i := 1) rfl)) (hts (.instanceMethod objectInit) (List.mem_of_getElem? (i := 2) rfl)) (hts (.code objectInit ⟨#[0xb1]⟩ 1 none) (List.mem_of_getElem? (i := 3) rfl)) rfl (by rw [hml]; exact hl.1) rfl dX10_init_1 (Nat.le_of_ble_eq_true rfl) (Nat.le_of_ble_eq_true rfl) ?_
  refine W.eq (g2 := F0 m 4 ls []) rfl ?_
  refine lv_aload_n hx hb dX10_init_4 rfl (lv_at hl 0 rfl) ?_
  refine lv_iconst (v := 0) hx hb dX10_init_5 (by decide) ?_
  refine va_put (D := D) (ci := 10) (v := .int 0) (ty := .int) (C := RX10) (T := TX10) (N := 13) hx hb hts iuX10_init_X10 tyX10 tyX10_ok nmX10 hown hK hP hD hS 0 rfl rfl 0 (by decide) (hts (.fieldLink RX10 9 "StraitGame$Told" "files" "I") (List.mem_of_getElem? (i := 4) rfl)) (fun _ h9 => h9) rfl (by decide +kernel) rfl rfl (Nat.le_of_ble_eq_true rfl) dX10_init_6 (fun H locs hP hD hS => ?_)
  have hP : va_P D vwCl [(h0, .inr (10, [.int 0, .int 0, .int 0, .int 0, .int 0, .null, .null, .null, .null, .null, .null, .null, .null]))] H := hP
  have hD : va_D A [(h0, .inr (10, [.int 0, .int 0, .int 0, .int 0, .int 0, .null, .null, .null, .null, .null, .null, .null, .null]))] := hD
  refine lv_aload_n hx hb dX10_init_9 rfl (lv_at hl 0 rfl) ?_
  refine lv_iconst (v := 0) hx hb dX10_init_10 (by decide) ?_
  refine va_put (D := D) (ci := 10) (v := .int 0) (ty := .int) (C := RX10) (T := TX10) (N := 13) hx hb hts iuX10_init_X10 tyX10 tyX10_ok nmX10 hown hK hP hD hS 0 rfl rfl 1 (by decide) (hts (.fieldLink RX10 15 "StraitGame$Told" "ranks" "I") (List.mem_of_getElem? (i := 5) rfl)) (fun _ h9 => h9) rfl (by decide +kernel) rfl rfl (Nat.le_of_ble_eq_true rfl) dX10_init_11 (fun H locs hP hD hS => ?_)
  have hP : va_P D vwCl [(h0, .inr (10, [.int 0, .int 0, .int 0, .int 0, .int 0, .null, .null, .null, .null, .null, .null, .null, .null]))] H := hP
  have hD : va_D A [(h0, .inr (10, [.int 0, .int 0, .int 0, .int 0, .int 0, .null, .null, .null, .null, .null, .null, .null, .null]))] := hD
  refine lv_aload_n hx hb dX10_init_14 rfl (lv_at hl 0 rfl) ?_
  refine lv_iconst (v := 0) hx hb dX10_init_15 (by decide) ?_
  refine va_put (D := D) (ci := 10) (v := .int 0) (ty := .int) (C := RX10) (T := TX10) (N := 13) hx hb hts iuX10_init_X10 tyX10 tyX10_ok nmX10 hown hK hP hD hS 0 rfl rfl 2 (by decide) (hts (.fieldLink RX10 18 "StraitGame$Told" "pieces" "I") (List.mem_of_getElem? (i := 6) rfl)) (fun _ h9 => h9) rfl (by decide +kernel) rfl rfl (Nat.le_of_ble_eq_true rfl) dX10_init_16 (fun H locs hP hD hS => ?_)
  have hP : va_P D vwCl [(h0, .inr (10, [.int 0, .int 0, .int 0, .int 0, .int 0, .null, .null, .null, .null, .null, .null, .null, .null]))] H := hP
  have hD : va_D A [(h0, .inr (10, [.int 0, .int 0, .int 0, .int 0, .int 0, .null, .null, .null, .null, .null, .null, .null, .null]))] := hD
  refine lv_aload_n hx hb dX10_init_19 rfl (lv_at hl 0 rfl) ?_
  refine lv_iconst (v := 0) hx hb dX10_init_20 (by decide) ?_
  refine va_put (D := D) (ci := 10) (v := .int 0) (ty := .int) (C := RX10) (T := TX10) (N := 13) hx hb hts iuX10_init_X10 tyX10 tyX10_ok nmX10 hown hK hP hD hS 0 rfl rfl 3 (by decide) (hts (.fieldLink RX10 21 "StraitGame$Told" "men" "I") (List.mem_of_getElem? (i := 7) rfl)) (fun _ h9 => h9) rfl (by decide +kernel) rfl rfl (Nat.le_of_ble_eq_true rfl) dX10_init_21 (fun H locs hP hD hS => ?_)
  have hP : va_P D vwCl [(h0, .inr (10, [.int 0, .int 0, .int 0, .int 0, .int 0, .null, .null, .null, .null, .null, .null, .null, .null]))] H := hP
  have hD : va_D A [(h0, .inr (10, [.int 0, .int 0, .int 0, .int 0, .int 0, .null, .null, .null, .null, .null, .null, .null, .null]))] := hD
  refine lv_aload_n hx hb dX10_init_24 rfl (lv_at hl 0 rfl) ?_
  refine lv_iconst (v := 0) hx hb dX10_init_25 (by decide) ?_
  refine va_put (D := D) (ci := 10) (v := .int 0) (ty := .int) (C := RX10) (T := TX10) (N := 13) hx hb hts iuX10_init_X10 tyX10 tyX10_ok nmX10 hown hK hP hD hS 0 rfl rfl 4 (by decide) (hts (.fieldLink RX10 24 "StraitGame$Told" "numbers" "I") (List.mem_of_getElem? (i := 8) rfl)) (fun _ h9 => h9) rfl (by decide +kernel) rfl rfl (Nat.le_of_ble_eq_true rfl) dX10_init_26 (fun H locs hP hD hS => ?_)
  have hP : va_P D vwCl [(h0, .inr (10, [.int 0, .int 0, .int 0, .int 0, .int 0, .null, .null, .null, .null, .null, .null, .null, .null]))] H := hP
  have hD : va_D A [(h0, .inr (10, [.int 0, .int 0, .int 0, .int 0, .int 0, .null, .null, .null, .null, .null, .null, .null, .null]))] := hD
  refine lv_aload_n hx hb dX10_init_29 rfl (lv_at hl 0 rfl) ?_
  refine lv_bipush (v := 6) hx hb dX10_init_30 (by decide) ?_
  refine va_newa (atype := .boolean) (a0 := (6, .inl (fun _ => 0))) (ty := .boolean) (N' := 6) hx hb (hts (.arrayClass .boolean) (List.mem_of_getElem? (i := 9) rfl)) rfl hK hP hD hS hA (zarr_boolean 6) (by decide) (by decide) (zby_boolean (Nat.le_of_ble_eq_true rfl)) (Nat.le_of_ble_eq_true rfl) (Nat.le_of_ble_eq_true rfl) dX10_init_32 (fun qa_19 ck_16 H hK hP hD hS => ?_)
  have hK : va_K D vwCl [(ck_16, .boolean)] s := hK
  have hP : va_P D vwCl [(h0, .inr (10, [.int 0, .int 0, .int 0, .int 0, .int 0, .null, .null, .null, .null, .null, .null, .null, .null])), (qa_19, .inl (ck_16, 6, .inl (fun _ => 0)))] H := hP
  have hD : va_D A [(h0, .inr (10, [.int 0, .int 0, .int 0, .int 0, .int 0, .null, .null, .null, .null, .null, .null, .null, .null])), (qa_19, .inl (ck_16, 6, .inl (fun _ => 0)))] := hD
  refine W.widen (k := 1) (n := 6) (Nat.le_of_ble_eq_true rfl) (Nat.le_of_ble_eq_true rfl) ?_
  refine va_putF (D := D) (ci := 10) (v := .ref qa_19) (ty := (tyX10 5)) (C := RX10) (T := TX10) (N := 13) hx hb hts iuX10_init_X10 tyX10 tyX10_ok nmX10 hown hK hP hD hS 0 rfl rfl 5 (by decide) (hts (.fieldLink RX10 27 "StraitGame$Told" "king" "[Z") (List.mem_of_getElem? (i := 10) rfl)) (fun _ h9 => h9) rfl hin rfl (by decide +kernel) rfl rfl (Nat.le_of_ble_eq_true rfl) dX10_init_34 (fun H locs hP hD hS => ?_)
  have hP : va_P D vwCl [(h0, .inr (10, [.int 0, .int 0, .int 0, .int 0, .int 0, .ref qa_19, .null, .null, .null, .null, .null, .null, .null])), (qa_19, .inl (ck_16, 6, .inl (fun _ => 0)))] H := hP
  have hD : va_D A [(h0, .inr (10, [.int 0, .int 0, .int 0, .int 0, .int 0, .ref qa_19, .null, .null, .null, .null, .null, .null, .null])), (qa_19, .inl (ck_16, 6, .inl (fun _ => 0)))] := hD
  refine lv_aload_n hx hb dX10_init_37 rfl (lv_at hl 0 rfl) ?_
  refine lv_bipush (v := 6) hx hb dX10_init_38 (by decide) ?_
  refine va_newa (atype := .boolean) (a0 := (6, .inl (fun _ => 0))) (ty := .boolean) (N' := 6) hx hb (hts (.arrayClass .boolean) (List.mem_of_getElem? (i := 9) rfl)) rfl hK hP hD hS hA (zarr_boolean 6) (by decide) (by decide) (zby_boolean (Nat.le_of_ble_eq_true rfl)) (Nat.le_of_ble_eq_true rfl) (Nat.le_of_ble_eq_true rfl) dX10_init_40 (fun qa_20 ck_17 H hK hP hD hS => ?_)
  have hK : va_K D vwCl [(ck_16, .boolean), (ck_17, .boolean)] s := hK
  have hP : va_P D vwCl [(h0, .inr (10, [.int 0, .int 0, .int 0, .int 0, .int 0, .ref qa_19, .null, .null, .null, .null, .null, .null, .null])), (qa_19, .inl (ck_16, 6, .inl (fun _ => 0))), (qa_20, .inl (ck_17, 6, .inl (fun _ => 0)))] H := hP
  have hD : va_D A [(h0, .inr (10, [.int 0, .int 0, .int 0, .int 0, .int 0, .ref qa_19, .null, .null, .null, .null, .null, .null, .null])), (qa_19, .inl (ck_16, 6, .inl (fun _ => 0))), (qa_20, .inl (ck_17, 6, .inl (fun _ => 0)))] := hD
  refine W.widen (k := 2) (n := 12) (Nat.le_of_ble_eq_true rfl) (Nat.le_of_ble_eq_true rfl) ?_
  refine va_putF (D := D) (ci := 10) (v := .ref qa_20) (ty := (tyX10 6)) (C := RX10) (T := TX10) (N := 13) hx hb hts iuX10_init_X10 tyX10 tyX10_ok nmX10 hown hK hP hD hS 0 rfl rfl 6 (by decide) (hts (.fieldLink RX10 31 "StraitGame$Told" "forward" "[Z") (List.mem_of_getElem? (i := 11) rfl)) (fun _ h9 => h9) rfl hin rfl (by decide +kernel) rfl rfl (Nat.le_of_ble_eq_true rfl) dX10_init_42 (fun H locs hP hD hS => ?_)
  have hP : va_P D vwCl [(h0, .inr (10, [.int 0, .int 0, .int 0, .int 0, .int 0, .ref qa_19, .ref qa_20, .null, .null, .null, .null, .null, .null])), (qa_19, .inl (ck_16, 6, .inl (fun _ => 0))), (qa_20, .inl (ck_17, 6, .inl (fun _ => 0)))] H := hP
  have hD : va_D A [(h0, .inr (10, [.int 0, .int 0, .int 0, .int 0, .int 0, .ref qa_19, .ref qa_20, .null, .null, .null, .null, .null, .null])), (qa_19, .inl (ck_16, 6, .inl (fun _ => 0))), (qa_20, .inl (ck_17, 6, .inl (fun _ => 0)))] := hD
  refine lv_aload_n hx hb dX10_init_45 rfl (lv_at hl 0 rfl) ?_
  refine lv_bipush (v := 6) hx hb dX10_init_46 (by decide) ?_
  refine va_newa (atype := .int) (a0 := (6, .inl (fun _ => 0))) (ty := .int) (N' := 6) hx hb (hts (.arrayClass .int) (List.mem_of_getElem? (i := 12) rfl)) rfl hK hP hD hS hA (zarr_int 6) (by decide) (by decide) (zby_int (Nat.le_of_ble_eq_true rfl)) (Nat.le_of_ble_eq_true rfl) (Nat.le_of_ble_eq_true rfl) dX10_init_48 (fun qa_21 ck_18 H hK hP hD hS => ?_)
  have hK : va_K D vwCl [(ck_16, .boolean), (ck_17, .boolean), (ck_18, .int)] s := hK
  have hP : va_P D vwCl [(h0, .inr (10, [.int 0, .int 0, .int 0, .int 0, .int 0, .ref qa_19, .ref qa_20, .null, .null, .null, .null, .null, .null])), (qa_19, .inl (ck_16, 6, .inl (fun _ => 0))), (qa_20, .inl (ck_17, 6, .inl (fun _ => 0))), (qa_21, .inl (ck_18, 6, .inl (fun _ => 0)))] H := hP
  have hD : va_D A [(h0, .inr (10, [.int 0, .int 0, .int 0, .int 0, .int 0, .ref qa_19, .ref qa_20, .null, .null, .null, .null, .null, .null])), (qa_19, .inl (ck_16, 6, .inl (fun _ => 0))), (qa_20, .inl (ck_17, 6, .inl (fun _ => 0))), (qa_21, .inl (ck_18, 6, .inl (fun _ => 0)))] := hD
  refine W.widen (k := 3) (n := 18) (Nat.le_of_ble_eq_true rfl) (Nat.le_of_ble_eq_true rfl) ?_
  refine va_putF (D := D) (ci := 10) (v := .ref qa_21) (ty := (tyX10 7)) (C := RX10) (T := TX10) (N := 13) hx hb hts iuX10_init_X10 tyX10 tyX10_ok nmX10 hown hK hP hD hS 0 rfl rfl 7 (by decide) (hts (.fieldLink RX10 34 "StraitGame$Told" "ways" "[I") (List.mem_of_getElem? (i := 13) rfl)) (fun _ h9 => h9) rfl hin rfl (by decide +kernel) rfl rfl (Nat.le_of_ble_eq_true rfl) dX10_init_50 (fun H locs hP hD hS => ?_)
  have hP : va_P D vwCl [(h0, .inr (10, [.int 0, .int 0, .int 0, .int 0, .int 0, .ref qa_19, .ref qa_20, .ref qa_21, .null, .null, .null, .null, .null])), (qa_19, .inl (ck_16, 6, .inl (fun _ => 0))), (qa_20, .inl (ck_17, 6, .inl (fun _ => 0))), (qa_21, .inl (ck_18, 6, .inl (fun _ => 0)))] H := hP
  have hD : va_D A [(h0, .inr (10, [.int 0, .int 0, .int 0, .int 0, .int 0, .ref qa_19, .ref qa_20, .ref qa_21, .null, .null, .null, .null, .null])), (qa_19, .inl (ck_16, 6, .inl (fun _ => 0))), (qa_20, .inl (ck_17, 6, .inl (fun _ => 0))), (qa_21, .inl (ck_18, 6, .inl (fun _ => 0)))] := hD
  refine lv_aload_n hx hb dX10_init_53 rfl (lv_at hl 0 rfl) ?_
  refine lv_bipush (v := 36) hx hb dX10_init_54 (by decide) ?_
  refine va_newa (atype := .boolean) (a0 := (36, .inl (fun _ => 0))) (ty := .boolean) (N' := 36) hx hb (hts (.arrayClass .boolean) (List.mem_of_getElem? (i := 9) rfl)) rfl hK hP hD hS hA (zarr_boolean 36) (by decide) (by decide) (zby_boolean (Nat.le_of_ble_eq_true rfl)) (Nat.le_of_ble_eq_true rfl) (Nat.le_of_ble_eq_true rfl) dX10_init_56 (fun qa_22 ck_19 H hK hP hD hS => ?_)
  have hK : va_K D vwCl [(ck_16, .boolean), (ck_17, .boolean), (ck_18, .int), (ck_19, .boolean)] s := hK
  have hP : va_P D vwCl [(h0, .inr (10, [.int 0, .int 0, .int 0, .int 0, .int 0, .ref qa_19, .ref qa_20, .ref qa_21, .null, .null, .null, .null, .null])), (qa_19, .inl (ck_16, 6, .inl (fun _ => 0))), (qa_20, .inl (ck_17, 6, .inl (fun _ => 0))), (qa_21, .inl (ck_18, 6, .inl (fun _ => 0))), (qa_22, .inl (ck_19, 36, .inl (fun _ => 0)))] H := hP
  have hD : va_D A [(h0, .inr (10, [.int 0, .int 0, .int 0, .int 0, .int 0, .ref qa_19, .ref qa_20, .ref qa_21, .null, .null, .null, .null, .null])), (qa_19, .inl (ck_16, 6, .inl (fun _ => 0))), (qa_20, .inl (ck_17, 6, .inl (fun _ => 0))), (qa_21, .inl (ck_18, 6, .inl (fun _ => 0))), (qa_22, .inl (ck_19, 36, .inl (fun _ => 0)))] := hD
  refine W.widen (k := 4) (n := 54) (Nat.le_of_ble_eq_true rfl) (Nat.le_of_ble_eq_true rfl) ?_
  refine va_putF (D := D) (ci := 10) (v := .ref qa_22) (ty := (tyX10 8)) (C := RX10) (T := TX10) (N := 13) hx hb hts iuX10_init_X10 tyX10 tyX10_ok nmX10 hown hK hP hD hS 0 rfl rfl 8 (by decide) (hts (.fieldLink RX10 38 "StraitGame$Told" "wayRides" "[Z") (List.mem_of_getElem? (i := 14) rfl)) (fun _ h9 => h9) rfl hin rfl (by decide +kernel) rfl rfl (Nat.le_of_ble_eq_true rfl) dX10_init_58 (fun H locs hP hD hS => ?_)
  have hP : va_P D vwCl [(h0, .inr (10, [.int 0, .int 0, .int 0, .int 0, .int 0, .ref qa_19, .ref qa_20, .ref qa_21, .ref qa_22, .null, .null, .null, .null])), (qa_19, .inl (ck_16, 6, .inl (fun _ => 0))), (qa_20, .inl (ck_17, 6, .inl (fun _ => 0))), (qa_21, .inl (ck_18, 6, .inl (fun _ => 0))), (qa_22, .inl (ck_19, 36, .inl (fun _ => 0)))] H := hP
  have hD : va_D A [(h0, .inr (10, [.int 0, .int 0, .int 0, .int 0, .int 0, .ref qa_19, .ref qa_20, .ref qa_21, .ref qa_22, .null, .null, .null, .null])), (qa_19, .inl (ck_16, 6, .inl (fun _ => 0))), (qa_20, .inl (ck_17, 6, .inl (fun _ => 0))), (qa_21, .inl (ck_18, 6, .inl (fun _ => 0))), (qa_22, .inl (ck_19, 36, .inl (fun _ => 0)))] := hD
  refine lv_aload_n hx hb dX10_init_61 rfl (lv_at hl 0 rfl) ?_
  refine lv_bipush (v := 36) hx hb dX10_init_62 (by decide) ?_
  refine va_newa (atype := .int) (a0 := (36, .inl (fun _ => 0))) (ty := .int) (N' := 36) hx hb (hts (.arrayClass .int) (List.mem_of_getElem? (i := 12) rfl)) rfl hK hP hD hS hA (zarr_int 36) (by decide) (by decide) (zby_int (Nat.le_of_ble_eq_true rfl)) (Nat.le_of_ble_eq_true rfl) (Nat.le_of_ble_eq_true rfl) dX10_init_64 (fun qa_23 ck_20 H hK hP hD hS => ?_)
  have hK : va_K D vwCl [(ck_16, .boolean), (ck_17, .boolean), (ck_18, .int), (ck_19, .boolean), (ck_20, .int)] s := hK
  have hP : va_P D vwCl [(h0, .inr (10, [.int 0, .int 0, .int 0, .int 0, .int 0, .ref qa_19, .ref qa_20, .ref qa_21, .ref qa_22, .null, .null, .null, .null])), (qa_19, .inl (ck_16, 6, .inl (fun _ => 0))), (qa_20, .inl (ck_17, 6, .inl (fun _ => 0))), (qa_21, .inl (ck_18, 6, .inl (fun _ => 0))), (qa_22, .inl (ck_19, 36, .inl (fun _ => 0))), (qa_23, .inl (ck_20, 36, .inl (fun _ => 0)))] H := hP
  have hD : va_D A [(h0, .inr (10, [.int 0, .int 0, .int 0, .int 0, .int 0, .ref qa_19, .ref qa_20, .ref qa_21, .ref qa_22, .null, .null, .null, .null])), (qa_19, .inl (ck_16, 6, .inl (fun _ => 0))), (qa_20, .inl (ck_17, 6, .inl (fun _ => 0))), (qa_21, .inl (ck_18, 6, .inl (fun _ => 0))), (qa_22, .inl (ck_19, 36, .inl (fun _ => 0))), (qa_23, .inl (ck_20, 36, .inl (fun _ => 0)))] := hD
  refine W.widen (k := 5) (n := 90) (Nat.le_of_ble_eq_true rfl) (Nat.le_of_ble_eq_true rfl) ?_
  refine va_putF (D := D) (ci := 10) (v := .ref qa_23) (ty := (tyX10 9)) (C := RX10) (T := TX10) (N := 13) hx hb hts iuX10_init_X10 tyX10 tyX10_ok nmX10 hown hK hP hD hS 0 rfl rfl 9 (by decide) (hts (.fieldLink RX10 41 "StraitGame$Told" "wayFirst" "[I") (List.mem_of_getElem? (i := 15) rfl)) (fun _ h9 => h9) rfl hin rfl (by decide +kernel) rfl rfl (Nat.le_of_ble_eq_true rfl) dX10_init_66 (fun H locs hP hD hS => ?_)
  have hP : va_P D vwCl [(h0, .inr (10, [.int 0, .int 0, .int 0, .int 0, .int 0, .ref qa_19, .ref qa_20, .ref qa_21, .ref qa_22, .ref qa_23, .null, .null, .null])), (qa_19, .inl (ck_16, 6, .inl (fun _ => 0))), (qa_20, .inl (ck_17, 6, .inl (fun _ => 0))), (qa_21, .inl (ck_18, 6, .inl (fun _ => 0))), (qa_22, .inl (ck_19, 36, .inl (fun _ => 0))), (qa_23, .inl (ck_20, 36, .inl (fun _ => 0)))] H := hP
  have hD : va_D A [(h0, .inr (10, [.int 0, .int 0, .int 0, .int 0, .int 0, .ref qa_19, .ref qa_20, .ref qa_21, .ref qa_22, .ref qa_23, .null, .null, .null])), (qa_19, .inl (ck_16, 6, .inl (fun _ => 0))), (qa_20, .inl (ck_17, 6, .inl (fun _ => 0))), (qa_21, .inl (ck_18, 6, .inl (fun _ => 0))), (qa_22, .inl (ck_19, 36, .inl (fun _ => 0))), (qa_23, .inl (ck_20, 36, .inl (fun _ => 0)))] := hD
  refine lv_aload_n hx hb dX10_init_69 rfl (lv_at hl 0 rfl) ?_
  refine lv_bipush (v := 36) hx hb dX10_init_70 (by decide) ?_
  refine va_newa (atype := .int) (a0 := (36, .inl (fun _ => 0))) (ty := .int) (N' := 36) hx hb (hts (.arrayClass .int) (List.mem_of_getElem? (i := 12) rfl)) rfl hK hP hD hS hA (zarr_int 36) (by decide) (by decide) (zby_int (Nat.le_of_ble_eq_true rfl)) (Nat.le_of_ble_eq_true rfl) (Nat.le_of_ble_eq_true rfl) dX10_init_72 (fun qa_24 ck_21 H hK hP hD hS => ?_)
  have hK : va_K D vwCl [(ck_16, .boolean), (ck_17, .boolean), (ck_18, .int), (ck_19, .boolean), (ck_20, .int), (ck_21, .int)] s := hK
  have hP : va_P D vwCl [(h0, .inr (10, [.int 0, .int 0, .int 0, .int 0, .int 0, .ref qa_19, .ref qa_20, .ref qa_21, .ref qa_22, .ref qa_23, .null, .null, .null])), (qa_19, .inl (ck_16, 6, .inl (fun _ => 0))), (qa_20, .inl (ck_17, 6, .inl (fun _ => 0))), (qa_21, .inl (ck_18, 6, .inl (fun _ => 0))), (qa_22, .inl (ck_19, 36, .inl (fun _ => 0))), (qa_23, .inl (ck_20, 36, .inl (fun _ => 0))), (qa_24, .inl (ck_21, 36, .inl (fun _ => 0)))] H := hP
  have hD : va_D A [(h0, .inr (10, [.int 0, .int 0, .int 0, .int 0, .int 0, .ref qa_19, .ref qa_20, .ref qa_21, .ref qa_22, .ref qa_23, .null, .null, .null])), (qa_19, .inl (ck_16, 6, .inl (fun _ => 0))), (qa_20, .inl (ck_17, 6, .inl (fun _ => 0))), (qa_21, .inl (ck_18, 6, .inl (fun _ => 0))), (qa_22, .inl (ck_19, 36, .inl (fun _ => 0))), (qa_23, .inl (ck_20, 36, .inl (fun _ => 0))), (qa_24, .inl (ck_21, 36, .inl (fun _ => 0)))] := hD
  refine W.widen (k := 6) (n := 126) (Nat.le_of_ble_eq_true rfl) (Nat.le_of_ble_eq_true rfl) ?_
  refine va_putF (D := D) (ci := 10) (v := .ref qa_24) (ty := (tyX10 10)) (C := RX10) (T := TX10) (N := 13) hx hb hts iuX10_init_X10 tyX10 tyX10_ok nmX10 hown hK hP hD hS 0 rfl rfl 10 (by decide) (hts (.fieldLink RX10 44 "StraitGame$Told" "waySecond" "[I") (List.mem_of_getElem? (i := 16) rfl)) (fun _ h9 => h9) rfl hin rfl (by decide +kernel) rfl rfl (Nat.le_of_ble_eq_true rfl) dX10_init_74 (fun H locs hP hD hS => ?_)
  have hP : va_P D vwCl [(h0, .inr (10, [.int 0, .int 0, .int 0, .int 0, .int 0, .ref qa_19, .ref qa_20, .ref qa_21, .ref qa_22, .ref qa_23, .ref qa_24, .null, .null])), (qa_19, .inl (ck_16, 6, .inl (fun _ => 0))), (qa_20, .inl (ck_17, 6, .inl (fun _ => 0))), (qa_21, .inl (ck_18, 6, .inl (fun _ => 0))), (qa_22, .inl (ck_19, 36, .inl (fun _ => 0))), (qa_23, .inl (ck_20, 36, .inl (fun _ => 0))), (qa_24, .inl (ck_21, 36, .inl (fun _ => 0)))] H := hP
  have hD : va_D A [(h0, .inr (10, [.int 0, .int 0, .int 0, .int 0, .int 0, .ref qa_19, .ref qa_20, .ref qa_21, .ref qa_22, .ref qa_23, .ref qa_24, .null, .null])), (qa_19, .inl (ck_16, 6, .inl (fun _ => 0))), (qa_20, .inl (ck_17, 6, .inl (fun _ => 0))), (qa_21, .inl (ck_18, 6, .inl (fun _ => 0))), (qa_22, .inl (ck_19, 36, .inl (fun _ => 0))), (qa_23, .inl (ck_20, 36, .inl (fun _ => 0))), (qa_24, .inl (ck_21, 36, .inl (fun _ => 0)))] := hD
  refine lv_aload_n hx hb dX10_init_77 rfl (lv_at hl 0 rfl) ?_
  refine lv_bipush (v := 12) hx hb dX10_init_78 (by decide) ?_
  refine va_newa (atype := .int) (a0 := (12, .inl (fun _ => 0))) (ty := .int) (N' := 12) hx hb (hts (.arrayClass .int) (List.mem_of_getElem? (i := 12) rfl)) rfl hK hP hD hS hA (zarr_int 12) (by decide) (by decide) (zby_int (Nat.le_of_ble_eq_true rfl)) (Nat.le_of_ble_eq_true rfl) (Nat.le_of_ble_eq_true rfl) dX10_init_80 (fun qa_25 ck_22 H hK hP hD hS => ?_)
  have hK : va_K D vwCl [(ck_16, .boolean), (ck_17, .boolean), (ck_18, .int), (ck_19, .boolean), (ck_20, .int), (ck_21, .int), (ck_22, .int)] s := hK
  have hP : va_P D vwCl [(h0, .inr (10, [.int 0, .int 0, .int 0, .int 0, .int 0, .ref qa_19, .ref qa_20, .ref qa_21, .ref qa_22, .ref qa_23, .ref qa_24, .null, .null])), (qa_19, .inl (ck_16, 6, .inl (fun _ => 0))), (qa_20, .inl (ck_17, 6, .inl (fun _ => 0))), (qa_21, .inl (ck_18, 6, .inl (fun _ => 0))), (qa_22, .inl (ck_19, 36, .inl (fun _ => 0))), (qa_23, .inl (ck_20, 36, .inl (fun _ => 0))), (qa_24, .inl (ck_21, 36, .inl (fun _ => 0))), (qa_25, .inl (ck_22, 12, .inl (fun _ => 0)))] H := hP
  have hD : va_D A [(h0, .inr (10, [.int 0, .int 0, .int 0, .int 0, .int 0, .ref qa_19, .ref qa_20, .ref qa_21, .ref qa_22, .ref qa_23, .ref qa_24, .null, .null])), (qa_19, .inl (ck_16, 6, .inl (fun _ => 0))), (qa_20, .inl (ck_17, 6, .inl (fun _ => 0))), (qa_21, .inl (ck_18, 6, .inl (fun _ => 0))), (qa_22, .inl (ck_19, 36, .inl (fun _ => 0))), (qa_23, .inl (ck_20, 36, .inl (fun _ => 0))), (qa_24, .inl (ck_21, 36, .inl (fun _ => 0))), (qa_25, .inl (ck_22, 12, .inl (fun _ => 0)))] := hD
  refine W.widen (k := 7) (n := 138) (Nat.le_of_ble_eq_true rfl) (Nat.le_of_ble_eq_true rfl) ?_
  refine va_putF (D := D) (ci := 10) (v := .ref qa_25) (ty := (tyX10 11)) (C := RX10) (T := TX10) (N := 13) hx hb hts iuX10_init_X10 tyX10 tyX10_ok nmX10 hown hK hP hD hS 0 rfl rfl 11 (by decide) (hts (.fieldLink RX10 47 "StraitGame$Told" "often" "[I") (List.mem_of_getElem? (i := 17) rfl)) (fun _ h9 => h9) rfl hin rfl (by decide +kernel) rfl rfl (Nat.le_of_ble_eq_true rfl) dX10_init_82 (fun H locs hP hD hS => ?_)
  have hP : va_P D vwCl [(h0, .inr (10, [.int 0, .int 0, .int 0, .int 0, .int 0, .ref qa_19, .ref qa_20, .ref qa_21, .ref qa_22, .ref qa_23, .ref qa_24, .ref qa_25, .null])), (qa_19, .inl (ck_16, 6, .inl (fun _ => 0))), (qa_20, .inl (ck_17, 6, .inl (fun _ => 0))), (qa_21, .inl (ck_18, 6, .inl (fun _ => 0))), (qa_22, .inl (ck_19, 36, .inl (fun _ => 0))), (qa_23, .inl (ck_20, 36, .inl (fun _ => 0))), (qa_24, .inl (ck_21, 36, .inl (fun _ => 0))), (qa_25, .inl (ck_22, 12, .inl (fun _ => 0)))] H := hP
  have hD : va_D A [(h0, .inr (10, [.int 0, .int 0, .int 0, .int 0, .int 0, .ref qa_19, .ref qa_20, .ref qa_21, .ref qa_22, .ref qa_23, .ref qa_24, .ref qa_25, .null])), (qa_19, .inl (ck_16, 6, .inl (fun _ => 0))), (qa_20, .inl (ck_17, 6, .inl (fun _ => 0))), (qa_21, .inl (ck_18, 6, .inl (fun _ => 0))), (qa_22, .inl (ck_19, 36, .inl (fun _ => 0))), (qa_23, .inl (ck_20, 36, .inl (fun _ => 0))), (qa_24, .inl (ck_21, 36, .inl (fun _ => 0))), (qa_25, .inl (ck_22, 12, .inl (fun _ => 0)))] := hD
  refine lv_aload_n hx hb dX10_init_85 rfl (lv_at hl 0 rfl) ?_
  refine va_new (ci := 4) (fs := [.int 0, .int 0, .int 0, .int 0, .int 0, .int 0, .int 0]) (C := RX4) (T := TX4) (N := 7) hx hb hts iuX10_init_X4 tyX4 tyX4_ok hown (hts (.classLink RX10 50 RX4) (List.mem_of_getElem? (i := 18) rfl)) (hts (.instantiable RX4 7) (List.mem_of_getElem? (i := 19) rfl)) (hts (.initialized RX4) (List.mem_of_getElem? (i := 20) rfl)) hK hP hD hS hA rfl fsX4 (Nat.le_of_ble_eq_true rfl) (Nat.le_of_ble_eq_true rfl) dX10_init_86 (fun qa_26 H hP hD hS => ?_)
  have hP : va_P D vwCl [(h0, .inr (10, [.int 0, .int 0, .int 0, .int 0, .int 0, .ref qa_19, .ref qa_20, .ref qa_21, .ref qa_22, .ref qa_23, .ref qa_24, .ref qa_25, .null])), (qa_19, .inl (ck_16, 6, .inl (fun _ => 0))), (qa_20, .inl (ck_17, 6, .inl (fun _ => 0))), (qa_21, .inl (ck_18, 6, .inl (fun _ => 0))), (qa_22, .inl (ck_19, 36, .inl (fun _ => 0))), (qa_23, .inl (ck_20, 36, .inl (fun _ => 0))), (qa_24, .inl (ck_21, 36, .inl (fun _ => 0))), (qa_25, .inl (ck_22, 12, .inl (fun _ => 0))), (qa_26, .inr (4, [.int 0, .int 0, .int 0, .int 0, .int 0, .int 0, .int 0]))] H := hP
  have hD : va_D A [(h0, .inr (10, [.int 0, .int 0, .int 0, .int 0, .int 0, .ref qa_19, .ref qa_20, .ref qa_21, .ref qa_22, .ref qa_23, .ref qa_24, .ref qa_25, .null])), (qa_19, .inl (ck_16, 6, .inl (fun _ => 0))), (qa_20, .inl (ck_17, 6, .inl (fun _ => 0))), (qa_21, .inl (ck_18, 6, .inl (fun _ => 0))), (qa_22, .inl (ck_19, 36, .inl (fun _ => 0))), (qa_23, .inl (ck_20, 36, .inl (fun _ => 0))), (qa_24, .inl (ck_21, 36, .inl (fun _ => 0))), (qa_25, .inl (ck_22, 12, .inl (fun _ => 0))), (qa_26, .inr (4, [.int 0, .int 0, .int 0, .int 0, .int 0, .int 0, .int 0]))] := hD
  refine W.widen (k := 8) (n := 145) (Nat.le_of_ble_eq_true rfl) (Nat.le_of_ble_eq_true rfl) ?_
  refine lv_dup hx hb dX10_init_89 rfl ?_
  refine zA_v (zR_IN (As := []) (rest := [.ref qa_26, .ref h0]) (host := RX11) ⟨hx, hb, hml, hown, hts⟩ (zX4_init_1 l D qa_26 _) ⟨va_cnB 0 hts gX10_init_X4_init_n52 rfl rfl rfl (hN.2 _ (List.mem_of_getElem? (i := 9) rfl)) (hts (.initialized RX4) (List.mem_of_getElem? (i := 20) rfl)) (by decide +kernel) ⟨(Nat.le_of_ble_eq_true rfl), (Nat.le_of_ble_eq_true rfl)⟩, rfl, (hts (.instanceMethod yX4_init) (List.mem_of_getElem? (i := 22) rfl))⟩ hP hD hK hN [8] [] rfl (by decide) rfl rfl hl.1 rfl (Nat.le_of_ble_eq_true rfl) dX10_init_90 ⟨(Nat.le_of_ble_eq_true rfl), (Nat.le_of_ble_eq_true rfl)⟩) hP hD hK hS hA [8] [0, 1, 2, 3, 4, 5, 6, 7] rfl rfl (by decide) (by decide) (fun u H locs hw hP hD hK hS => ?_)
  have hK : va_K D vwCl [(ck_16, .boolean), (ck_17, .boolean), (ck_18, .int), (ck_19, .boolean), (ck_20, .int), (ck_21, .int), (ck_22, .int)] s := hK
  have hP : va_P D vwCl [(h0, .inr (10, [.int 0, .int 0, .int 0, .int 0, .int 0, .ref qa_19, .ref qa_20, .ref qa_21, .ref qa_22, .ref qa_23, .ref qa_24, .ref qa_25, .null])), (qa_19, .inl (ck_16, 6, .inl (fun _ => 0))), (qa_20, .inl (ck_17, 6, .inl (fun _ => 0))), (qa_21, .inl (ck_18, 6, .inl (fun _ => 0))), (qa_22, .inl (ck_19, 36, .inl (fun _ => 0))), (qa_23, .inl (ck_20, 36, .inl (fun _ => 0))), (qa_24, .inl (ck_21, 36, .inl (fun _ => 0))), (qa_25, .inl (ck_22, 12, .inl (fun _ => 0))), (qa_26, .inr (4, [.int 0, .int 0, .int 0, .int 0, .int 0, .int 0, .int 0]))] H := hP
  have hD : va_D A [(h0, .inr (10, [.int 0, .int 0, .int 0, .int 0, .int 0, .ref qa_19, .ref qa_20, .ref qa_21, .ref qa_22, .ref qa_23, .ref qa_24, .ref qa_25, .null])), (qa_19, .inl (ck_16, 6, .inl (fun _ => 0))), (qa_20, .inl (ck_17, 6, .inl (fun _ => 0))), (qa_21, .inl (ck_18, 6, .inl (fun _ => 0))), (qa_22, .inl (ck_19, 36, .inl (fun _ => 0))), (qa_23, .inl (ck_20, 36, .inl (fun _ => 0))), (qa_24, .inl (ck_21, 36, .inl (fun _ => 0))), (qa_25, .inl (ck_22, 12, .inl (fun _ => 0))), (qa_26, .inr (4, [.int 0, .int 0, .int 0, .int 0, .int 0, .int 0, .int 0]))] := hD
  refine W.widen (k := 8) (n := 145) (Nat.le_of_ble_eq_true rfl) (Nat.le_of_ble_eq_true rfl) ?_
  refine va_putF (D := D) (ci := 10) (v := .ref qa_26) (ty := (tyX10 12)) (C := RX10) (T := TX10) (N := 13) hx hb hts iuX10_init_X10 tyX10 tyX10_ok nmX10 hown hK hP hD hS 0 rfl rfl 12 (by decide) (hts (.fieldLink RX10 53 "StraitGame$Told" "start" "LStraitGame$Position;") (List.mem_of_getElem? (i := 21) rfl)) (fun _ h9 => h9) rfl hin rfl (by decide +kernel) rfl rfl (Nat.le_of_ble_eq_true rfl) dX10_init_93 (fun H locs hP hD hS => ?_)
  have hP : va_P D vwCl [(h0, .inr (10, [.int 0, .int 0, .int 0, .int 0, .int 0, .ref qa_19, .ref qa_20, .ref qa_21, .ref qa_22, .ref qa_23, .ref qa_24, .ref qa_25, .ref qa_26])), (qa_19, .inl (ck_16, 6, .inl (fun _ => 0))), (qa_20, .inl (ck_17, 6, .inl (fun _ => 0))), (qa_21, .inl (ck_18, 6, .inl (fun _ => 0))), (qa_22, .inl (ck_19, 36, .inl (fun _ => 0))), (qa_23, .inl (ck_20, 36, .inl (fun _ => 0))), (qa_24, .inl (ck_21, 36, .inl (fun _ => 0))), (qa_25, .inl (ck_22, 12, .inl (fun _ => 0))), (qa_26, .inr (4, [.int 0, .int 0, .int 0, .int 0, .int 0, .int 0, .int 0]))] H := hP
  have hD : va_D A [(h0, .inr (10, [.int 0, .int 0, .int 0, .int 0, .int 0, .ref qa_19, .ref qa_20, .ref qa_21, .ref qa_22, .ref qa_23, .ref qa_24, .ref qa_25, .ref qa_26])), (qa_19, .inl (ck_16, 6, .inl (fun _ => 0))), (qa_20, .inl (ck_17, 6, .inl (fun _ => 0))), (qa_21, .inl (ck_18, 6, .inl (fun _ => 0))), (qa_22, .inl (ck_19, 36, .inl (fun _ => 0))), (qa_23, .inl (ck_20, 36, .inl (fun _ => 0))), (qa_24, .inl (ck_21, 36, .inl (fun _ => 0))), (qa_25, .inl (ck_22, 12, .inl (fun _ => 0))), (qa_26, .inr (4, [.int 0, .int 0, .int 0, .int 0, .int 0, .int 0, .int 0]))] := hD
  exact zret_v hx hb hr hlocks hP hD hK hS (qa_26, qa_19, qa_20, qa_21, qa_22, qa_23, qa_24, qa_25) trivial [0, 8] [] (by decide) rfl rfl (Nat.le_of_ble_eq_true rfl) (Nat.le_of_ble_eq_true rfl) dX10_init_96
set_option maxHeartbeats 4000000 in
set_option maxRecDepth 100000 in
theorem zX9_init_1 (l : Launch) (D : va_G) (h0 r0 : Nat) (sz : Nat) : Met l yX9_init wsX9_init ({ frames := 1, cells := 2, slots := 3202, locals := 12 }) (zPre D [.ref h0, .ref r0] [(h0, .inr (9, [.int 0, .null, .null, .null, .int 0]))] [] sz) ((fun A => va_Qv (fun (u : Nat × Nat × ClassId × ClassId) => match u with | (qa_41, qa_42, ck_33, ck_34) => True) (zB D A (fun (u : Nat × Nat × ClassId × ClassId) => match u with | (qa_41, qa_42, ck_33, ck_34) => [(h0, .inr (9, [.int 0, .ref qa_41, .ref qa_42, .ref r0, .int 0])), (qa_41, .inl (ck_33, 1601, .inl (fun _ => 0))), (qa_42, .inl (ck_34, 1601, .inl (fun _ => 0)))]) (fun (u : Nat × Nat × ClassId × ClassId) => match u with | (qa_41, qa_42, ck_33, ck_34) => [(ck_33, .byte), (ck_34, .int)])) A) (va_A [(h0, .inr (9, [.int 0, .null, .null, .null, .int 0]))] sz)) 2 3202 (va_A [(h0, .inr (9, [.int 0, .null, .null, .null, .int 0]))] sz) := by
  refine zOfW (QF := fun A => va_Qv (fun (u : Nat × Nat × ClassId × ClassId) => match u with | (qa_41, qa_42, ck_33, ck_34) => True) (zB D A (fun (u : Nat × Nat × ClassId × ClassId) => match u with | (qa_41, qa_42, ck_33, ck_34) => [(h0, .inr (9, [.int 0, .ref qa_41, .ref qa_42, .ref r0, .int 0])), (qa_41, .inl (ck_33, 1601, .inl (fun _ => 0))), (qa_42, .inl (ck_34, 1601, .inl (fun _ => 0)))]) (fun (u : Nat × Nat × ClassId × ClassId) => match u with | (qa_41, qa_42, ck_33, ck_34) => [(ck_33, .byte), (ck_34, .int)])) A) (cc := cX9_init) (maxL := 2) (ret := none) (by decide) rfl (Nat.le_of_ble_eq_true rfl) ?_
  intro p e s m below meth c A ls hx hb hr hml hts hown hlocks hin hA hS hP hD hK hN hl
  have hl : lv_has ls 2 [(0, .ref h0), (1, .ref r0)] := hl
  refine lv_aload_n hx hb dX9_init_0 rfl (lv_at hl 0 rfl) ?_
  refine W.objInit hx hb hown (hts (.methodLink RX9 3 objectInit) (List.mem_of_getElem? (i := 1) rfl)) (hts (.instanceMethod objectInit) (List.mem_of_getElem? (i := 2) rfl)) (hts (.code objectInit ⟨#[0xb1]⟩ 1 none) (List.mem_of_getElem? (i := 3) rfl)) rfl (by rw [hml]; exact hl.1) rfl dX9_init_1 (Nat.le_of_ble_eq_true rfl) (Nat.le_of_ble_eq_true rfl) ?_
  refine W.eq (g2 := F0 m 4 ls []) rfl ?_
  refine lv_aload_n hx hb dX9_init_4 rfl (lv_at hl 0 rfl) ?_
  refine lv_iconst (v := 0) hx hb dX9_init_5 (by decide) ?_
  refine va_put (D := D) (ci := 9) (v := .int 0) (ty := .int) (C := RX9) (T := TX9) (N := 5) hx hb hts iuX9_init_X9 tyX9 tyX9_ok nmX9 hown hK hP hD hS 0 rfl rfl 0 (by decide) (hts (.fieldLink RX9 9 "StraitGame$Tokens" "count" "I") (List.mem_of_getElem? (i := 4) rfl)) (fun _ h9 => h9) rfl (by decide +kernel) rfl rfl (Nat.le_of_ble_eq_true rfl) dX9_init_6 (fun H locs hP hD hS => ?_)
  have hP : va_P D vwCl [(h0, .inr (9, [.int 0, .null, .null, .null, .int 0]))] H := hP
  have hD : va_D A [(h0, .inr (9, [.int 0, .null, .null, .null, .int 0]))] := hD
  refine lv_aload_n hx hb dX9_init_9 rfl (lv_at hl 0 rfl) ?_
  refine lv_sipush (v := 1601) hx hb dX9_init_10 (by decide) ?_
  refine va_newa (atype := .byte) (a0 := (1601, .inl (fun _ => 0))) (ty := .byte) (N' := 1601) hx hb (hts (.arrayClass .byte) (List.mem_of_getElem? (i := 5) rfl)) rfl hK hP hD hS hA (zarr_byte 1601) (by decide) (by decide) (zby_byte (Nat.le_of_ble_eq_true rfl)) (Nat.le_of_ble_eq_true rfl) (Nat.le_of_ble_eq_true rfl) dX9_init_13 (fun qa_43 ck_35 H hK hP hD hS => ?_)
  have hK : va_K D vwCl [(ck_35, .byte)] s := hK
  have hP : va_P D vwCl [(h0, .inr (9, [.int 0, .null, .null, .null, .int 0])), (qa_43, .inl (ck_35, 1601, .inl (fun _ => 0)))] H := hP
  have hD : va_D A [(h0, .inr (9, [.int 0, .null, .null, .null, .int 0])), (qa_43, .inl (ck_35, 1601, .inl (fun _ => 0)))] := hD
  refine W.widen (k := 1) (n := 1601) (Nat.le_of_ble_eq_true rfl) (Nat.le_of_ble_eq_true rfl) ?_
  refine va_putF (D := D) (ci := 9) (v := .ref qa_43) (ty := (tyX9 1)) (C := RX9) (T := TX9) (N := 5) hx hb hts iuX9_init_X9 tyX9 tyX9_ok nmX9 hown hK hP hD hS 0 rfl rfl 1 (by decide) (hts (.fieldLink RX9 15 "StraitGame$Tokens" "kinds" "[B") (List.mem_of_getElem? (i := 6) rfl)) (fun _ h9 => h9) rfl hin rfl (by decide +kernel) rfl rfl (Nat.le_of_ble_eq_true rfl) dX9_init_15 (fun H locs hP hD hS => ?_)
  have hP : va_P D vwCl [(h0, .inr (9, [.int 0, .ref qa_43, .null, .null, .int 0])), (qa_43, .inl (ck_35, 1601, .inl (fun _ => 0)))] H := hP
  have hD : va_D A [(h0, .inr (9, [.int 0, .ref qa_43, .null, .null, .int 0])), (qa_43, .inl (ck_35, 1601, .inl (fun _ => 0)))] := hD
  refine lv_aload_n hx hb dX9_init_18 rfl (lv_at hl 0 rfl) ?_
  refine lv_sipush (v := 1601) hx hb dX9_init_19 (by decide) ?_
  refine va_newa (atype := .int) (a0 := (1601, .inl (fun _ => 0))) (ty := .int) (N' := 1601) hx hb (hts (.arrayClass .int) (List.mem_of_getElem? (i := 7) rfl)) rfl hK hP hD hS hA (zarr_int 1601) (by decide) (by decide) (zby_int (Nat.le_of_ble_eq_true rfl)) (Nat.le_of_ble_eq_true rfl) (Nat.le_of_ble_eq_true rfl) dX9_init_22 (fun qa_44 ck_36 H hK hP hD hS => ?_)
  have hK : va_K D vwCl [(ck_35, .byte), (ck_36, .int)] s := hK
  have hP : va_P D vwCl [(h0, .inr (9, [.int 0, .ref qa_43, .null, .null, .int 0])), (qa_43, .inl (ck_35, 1601, .inl (fun _ => 0))), (qa_44, .inl (ck_36, 1601, .inl (fun _ => 0)))] H := hP
  have hD : va_D A [(h0, .inr (9, [.int 0, .ref qa_43, .null, .null, .int 0])), (qa_43, .inl (ck_35, 1601, .inl (fun _ => 0))), (qa_44, .inl (ck_36, 1601, .inl (fun _ => 0)))] := hD
  refine W.widen (k := 2) (n := 3202) (Nat.le_of_ble_eq_true rfl) (Nat.le_of_ble_eq_true rfl) ?_
  refine va_putF (D := D) (ci := 9) (v := .ref qa_44) (ty := (tyX9 2)) (C := RX9) (T := TX9) (N := 5) hx hb hts iuX9_init_X9 tyX9 tyX9_ok nmX9 hown hK hP hD hS 0 rfl rfl 2 (by decide) (hts (.fieldLink RX9 19 "StraitGame$Tokens" "places" "[I") (List.mem_of_getElem? (i := 8) rfl)) (fun _ h9 => h9) rfl hin rfl (by decide +kernel) rfl rfl (Nat.le_of_ble_eq_true rfl) dX9_init_24 (fun H locs hP hD hS => ?_)
  have hP : va_P D vwCl [(h0, .inr (9, [.int 0, .ref qa_43, .ref qa_44, .null, .int 0])), (qa_43, .inl (ck_35, 1601, .inl (fun _ => 0))), (qa_44, .inl (ck_36, 1601, .inl (fun _ => 0)))] H := hP
  have hD : va_D A [(h0, .inr (9, [.int 0, .ref qa_43, .ref qa_44, .null, .int 0])), (qa_43, .inl (ck_35, 1601, .inl (fun _ => 0))), (qa_44, .inl (ck_36, 1601, .inl (fun _ => 0)))] := hD
  refine lv_aload_n hx hb dX9_init_27 rfl (lv_at hl 0 rfl) ?_
  refine lv_iconst (v := 0) hx hb dX9_init_28 (by decide) ?_
  refine va_put (D := D) (ci := 9) (v := .int 0) (ty := .int) (C := RX9) (T := TX9) (N := 5) hx hb hts iuX9_init_X9 tyX9 tyX9_ok nmX9 hown hK hP hD hS 0 rfl rfl 4 (by decide) (hts (.fieldLink RX9 23 "StraitGame$Tokens" "bytes" "I") (List.mem_of_getElem? (i := 9) rfl)) (fun _ h9 => h9) rfl (by decide +kernel) rfl rfl (Nat.le_of_ble_eq_true rfl) dX9_init_29 (fun H locs hP hD hS => ?_)
  have hP : va_P D vwCl [(h0, .inr (9, [.int 0, .ref qa_43, .ref qa_44, .null, .int 0])), (qa_43, .inl (ck_35, 1601, .inl (fun _ => 0))), (qa_44, .inl (ck_36, 1601, .inl (fun _ => 0)))] H := hP
  have hD : va_D A [(h0, .inr (9, [.int 0, .ref qa_43, .ref qa_44, .null, .int 0])), (qa_43, .inl (ck_35, 1601, .inl (fun _ => 0))), (qa_44, .inl (ck_36, 1601, .inl (fun _ => 0)))] := hD
  refine lv_aload_n hx hb dX9_init_32 rfl (lv_at hl 0 rfl) ?_
  refine lv_aload_n hx hb dX9_init_33 rfl (lv_at hl 1 rfl) ?_
  refine va_putF (D := D) (ci := 9) (v := .ref r0) (ty := (tyX9 3)) (C := RX9) (T := TX9) (N := 5) hx hb hts iuX9_init_X9 tyX9 tyX9_ok nmX9 hown hK hP hD hS 0 rfl rfl 3 (by decide) (hts (.fieldLink RX9 26 "StraitGame$Tokens" "text" "[B") (List.mem_of_getElem? (i := 10) rfl)) (fun _ h9 => h9) rfl hin rfl (by decide +kernel) rfl rfl (Nat.le_of_ble_eq_true rfl) dX9_init_34 (fun H locs hP hD hS => ?_)
  have hP : va_P D vwCl [(h0, .inr (9, [.int 0, .ref qa_43, .ref qa_44, .ref r0, .int 0])), (qa_43, .inl (ck_35, 1601, .inl (fun _ => 0))), (qa_44, .inl (ck_36, 1601, .inl (fun _ => 0)))] H := hP
  have hD : va_D A [(h0, .inr (9, [.int 0, .ref qa_43, .ref qa_44, .ref r0, .int 0])), (qa_43, .inl (ck_35, 1601, .inl (fun _ => 0))), (qa_44, .inl (ck_36, 1601, .inl (fun _ => 0)))] := hD
  exact zret_v hx hb hr hlocks hP hD hK hS (qa_43, qa_44, ck_35, ck_36) trivial [0, 1, 2] [0, 1] (by decide) rfl rfl (Nat.le_of_ble_eq_true rfl) (Nat.le_of_ble_eq_true rfl) dX9_init_37
set_option maxHeartbeats 4000000 in
set_option maxRecDepth 100000 in
theorem zX5_init_1 (l : Launch) (D : va_G) (h0 r0 r1 : Nat) (sz : Nat) : Met l yX5_init wsX5_init ({ frames := 2, cells := 4, slots := 3213, locals := 33 }) (zPre D [.ref h0, .ref r0, .ref r1] [(h0, .inr (5, [.int 0, .int 0, .null, .null, .int 0, .int 0, .int 0, .int 0, .int 0, .null]))] [] sz) ((fun A => va_Qv (fun (u : Nat × Nat × Nat × Nat × ClassId × ClassId) => match u with | (qa_46, qb_19, qb_20, qa_45, cm_3, cm_4) => True) (zB D A (fun (u : Nat × Nat × Nat × Nat × ClassId × ClassId) => match u with | (qa_46, qb_19, qb_20, qa_45, cm_3, cm_4) => [(h0, .inr (5, [.int 0, .int (-1), .ref qa_46, .ref r1, .int 0, .int 0, .int 0, .int 0, .int 0, .ref qa_45])), (qa_46, .inr (9, [.int 0, .ref qb_19, .ref qb_20, .ref r0, .int 0])), (qb_19, .inl (cm_3, 1601, .inl (fun _ => 0))), (qb_20, .inl (cm_4, 1601, .inl (fun _ => 0)))]) (fun (u : Nat × Nat × Nat × Nat × ClassId × ClassId) => match u with | (qa_46, qb_19, qb_20, qa_45, cm_3, cm_4) => [(cm_3, .byte), (cm_4, .int)])) A) (va_A [(h0, .inr (5, [.int 0, .int 0, .null, .null, .int 0, .int 0, .int 0, .int 0, .int 0, .null]))] sz)) 4 3213 (va_A [(h0, .inr (5, [.int 0, .int 0, .null, .null, .int 0, .int 0, .int 0, .int 0, .int 0, .null]))] sz) := by
  refine zOfW (QF := fun A => va_Qv (fun (u : Nat × Nat × Nat × Nat × ClassId × ClassId) => match u with | (qa_46, qb_19, qb_20, qa_45, cm_3, cm_4) => True) (zB D A (fun (u : Nat × Nat × Nat × Nat × ClassId × ClassId) => match u with | (qa_46, qb_19, qb_20, qa_45, cm_3, cm_4) => [(h0, .inr (5, [.int 0, .int (-1), .ref qa_46, .ref r1, .int 0, .int 0, .int 0, .int 0, .int 0, .ref qa_45])), (qa_46, .inr (9, [.int 0, .ref qb_19, .ref qb_20, .ref r0, .int 0])), (qb_19, .inl (cm_3, 1601, .inl (fun _ => 0))), (qb_20, .inl (cm_4, 1601, .inl (fun _ => 0)))]) (fun (u : Nat × Nat × Nat × Nat × ClassId × ClassId) => match u with | (qa_46, qb_19, qb_20, qa_45, cm_3, cm_4) => [(cm_3, .byte), (cm_4, .int)])) A) (cc := cX5_init) (maxL := 3) (ret := none) (by decide) rfl (Nat.le_of_ble_eq_true rfl) ?_
  intro p e s m below meth c A ls hx hb hr hml hts hown hlocks hin hA hS hP hD hK hN hl
  have hl : lv_has ls 3 [(0, .ref h0), (1, .ref r0), (2, .ref r1)] := hl
  refine lv_aload_n hx hb dX5_init_0 rfl (lv_at hl 0 rfl) ?_
  refine W.objInit hx hb hown (hts (.methodLink RX5 3 objectInit) (List.mem_of_getElem? (i := 1) rfl)) (hts (.instanceMethod objectInit) (List.mem_of_getElem? (i := 2) rfl)) (hts (.code objectInit ⟨#[0xb1]⟩ 1 none) (List.mem_of_getElem? (i := 3) rfl)) rfl (by rw [hml]; exact hl.1) rfl dX5_init_1 (Nat.le_of_ble_eq_true rfl) (Nat.le_of_ble_eq_true rfl) ?_
  refine W.eq (g2 := F0 m 4 ls []) rfl ?_
  refine lv_aload_n hx hb dX5_init_4 rfl (lv_at hl 0 rfl) ?_
  refine lv_iconst (v := 0) hx hb dX5_init_5 (by decide) ?_
  refine va_put (D := D) (ci := 5) (v := .int 0) (ty := .int) (C := RX5) (T := TX5) (N := 10) hx hb hts iuX5_init_X5 tyX5 tyX5_ok nmX5 hown hK hP hD hS 0 rfl rfl 0 (by decide) (hts (.fieldLink RX5 9 "StraitGame$Reader" "fault" "I") (List.mem_of_getElem? (i := 4) rfl)) (fun _ h9 => h9) rfl (by decide +kernel) rfl rfl (Nat.le_of_ble_eq_true rfl) dX5_init_6 (fun H locs hP hD hS => ?_)
  have hP : va_P D vwCl [(h0, .inr (5, [.int 0, .int 0, .null, .null, .int 0, .int 0, .int 0, .int 0, .int 0, .null]))] H := hP
  have hD : va_D A [(h0, .inr (5, [.int 0, .int 0, .null, .null, .int 0, .int 0, .int 0, .int 0, .int 0, .null]))] := hD
  refine lv_aload_n hx hb dX5_init_9 rfl (lv_at hl 0 rfl) ?_
  refine lv_iconst (v := (-1)) hx hb dX5_init_10 (by decide) ?_
  refine va_put (D := D) (ci := 5) (v := .int (-1)) (ty := .int) (C := RX5) (T := TX5) (N := 10) hx hb hts iuX5_init_X5 tyX5 tyX5_ok nmX5 hown hK hP hD hS 0 rfl rfl 1 (by decide) (hts (.fieldLink RX5 15 "StraitGame$Reader" "faultPlace" "I") (List.mem_of_getElem? (i := 5) rfl)) (fun _ h9 => h9) rfl (by decide +kernel) rfl rfl (Nat.le_of_ble_eq_true rfl) dX5_init_11 (fun H locs hP hD hS => ?_)
  have hP : va_P D vwCl [(h0, .inr (5, [.int 0, .int (-1), .null, .null, .int 0, .int 0, .int 0, .int 0, .int 0, .null]))] H := hP
  have hD : va_D A [(h0, .inr (5, [.int 0, .int (-1), .null, .null, .int 0, .int 0, .int 0, .int 0, .int 0, .null]))] := hD
  refine lv_aload_n hx hb dX5_init_14 rfl (lv_at hl 0 rfl) ?_
  refine lv_iconst (v := 0) hx hb dX5_init_15 (by decide) ?_
  refine va_put (D := D) (ci := 5) (v := .int 0) (ty := .int) (C := RX5) (T := TX5) (N := 10) hx hb hts iuX5_init_X5 tyX5 tyX5_ok nmX5 hown hK hP hD hS 0 rfl rfl 4 (by decide) (hts (.fieldLink RX5 18 "StraitGame$Reader" "token" "I") (List.mem_of_getElem? (i := 6) rfl)) (fun _ h9 => h9) rfl (by decide +kernel) rfl rfl (Nat.le_of_ble_eq_true rfl) dX5_init_16 (fun H locs hP hD hS => ?_)
  have hP : va_P D vwCl [(h0, .inr (5, [.int 0, .int (-1), .null, .null, .int 0, .int 0, .int 0, .int 0, .int 0, .null]))] H := hP
  have hD : va_D A [(h0, .inr (5, [.int 0, .int (-1), .null, .null, .int 0, .int 0, .int 0, .int 0, .int 0, .null]))] := hD
  refine lv_aload_n hx hb dX5_init_19 rfl (lv_at hl 0 rfl) ?_
  refine lv_iconst (v := 0) hx hb dX5_init_20 (by decide) ?_
  refine va_put (D := D) (ci := 5) (v := .int 0) (ty := .int) (C := RX5) (T := TX5) (N := 10) hx hb hts iuX5_init_X5 tyX5 tyX5_ok nmX5 hown hK hP hD hS 0 rfl rfl 5 (by decide) (hts (.fieldLink RX5 23 "StraitGame$Reader" "kind" "I") (List.mem_of_getElem? (i := 7) rfl)) (fun _ h9 => h9) rfl (by decide +kernel) rfl rfl (Nat.le_of_ble_eq_true rfl) dX5_init_21 (fun H locs hP hD hS => ?_)
  have hP : va_P D vwCl [(h0, .inr (5, [.int 0, .int (-1), .null, .null, .int 0, .int 0, .int 0, .int 0, .int 0, .null]))] H := hP
  have hD : va_D A [(h0, .inr (5, [.int 0, .int (-1), .null, .null, .int 0, .int 0, .int 0, .int 0, .int 0, .null]))] := hD
  refine lv_aload_n hx hb dX5_init_24 rfl (lv_at hl 0 rfl) ?_
  refine lv_iconst (v := 0) hx hb dX5_init_25 (by decide) ?_
  refine va_put (D := D) (ci := 5) (v := .int 0) (ty := .int) (C := RX5) (T := TX5) (N := 10) hx hb hts iuX5_init_X5 tyX5 tyX5_ok nmX5 hown hK hP hD hS 0 rfl rfl 6 (by decide) (hts (.fieldLink RX5 26 "StraitGame$Reader" "place" "I") (List.mem_of_getElem? (i := 8) rfl)) (fun _ h9 => h9) rfl (by decide +kernel) rfl rfl (Nat.le_of_ble_eq_true rfl) dX5_init_26 (fun H locs hP hD hS => ?_)
  have hP : va_P D vwCl [(h0, .inr (5, [.int 0, .int (-1), .null, .null, .int 0, .int 0, .int 0, .int 0, .int 0, .null]))] H := hP
  have hD : va_D A [(h0, .inr (5, [.int 0, .int (-1), .null, .null, .int 0, .int 0, .int 0, .int 0, .int 0, .null]))] := hD
  refine lv_aload_n hx hb dX5_init_29 rfl (lv_at hl 0 rfl) ?_
  refine lv_iconst (v := 0) hx hb dX5_init_30 (by decide) ?_
  refine va_put (D := D) (ci := 5) (v := .int 0) (ty := .int) (C := RX5) (T := TX5) (N := 10) hx hb hts iuX5_init_X5 tyX5 tyX5_ok nmX5 hown hK hP hD hS 0 rfl rfl 7 (by decide) (hts (.fieldLink RX5 29 "StraitGame$Reader" "taken" "I") (List.mem_of_getElem? (i := 9) rfl)) (fun _ h9 => h9) rfl (by decide +kernel) rfl rfl (Nat.le_of_ble_eq_true rfl) dX5_init_31 (fun H locs hP hD hS => ?_)
  have hP : va_P D vwCl [(h0, .inr (5, [.int 0, .int (-1), .null, .null, .int 0, .int 0, .int 0, .int 0, .int 0, .null]))] H := hP
  have hD : va_D A [(h0, .inr (5, [.int 0, .int (-1), .null, .null, .int 0, .int 0, .int 0, .int 0, .int 0, .null]))] := hD
  refine lv_aload_n hx hb dX5_init_34 rfl (lv_at hl 0 rfl) ?_
  refine lv_iconst (v := 0) hx hb dX5_init_35 (by decide) ?_
  refine va_put (D := D) (ci := 5) (v := .int 0) (ty := .int) (C := RX5) (T := TX5) (N := 10) hx hb hts iuX5_init_X5 tyX5 tyX5_ok nmX5 hown hK hP hD hS 0 rfl rfl 8 (by decide) (hts (.fieldLink RX5 32 "StraitGame$Reader" "takenPlace" "I") (List.mem_of_getElem? (i := 10) rfl)) (fun _ h9 => h9) rfl (by decide +kernel) rfl rfl (Nat.le_of_ble_eq_true rfl) dX5_init_36 (fun H locs hP hD hS => ?_)
  have hP : va_P D vwCl [(h0, .inr (5, [.int 0, .int (-1), .null, .null, .int 0, .int 0, .int 0, .int 0, .int 0, .null]))] H := hP
  have hD : va_D A [(h0, .inr (5, [.int 0, .int (-1), .null, .null, .int 0, .int 0, .int 0, .int 0, .int 0, .null]))] := hD
  refine lv_aload_n hx hb dX5_init_39 rfl (lv_at hl 0 rfl) ?_
  refine lv_bipush (v := 6) hx hb dX5_init_40 (by decide) ?_
  refine va_newa (atype := .int) (a0 := (6, .inl (fun _ => 0))) (ty := .int) (N' := 6) hx hb (hts (.arrayClass .int) (List.mem_of_getElem? (i := 11) rfl)) rfl hK hP hD hS hA (zarr_int 6) (by decide) (by decide) (zby_int (Nat.le_of_ble_eq_true rfl)) (Nat.le_of_ble_eq_true rfl) (Nat.le_of_ble_eq_true rfl) dX5_init_42 (fun qa_49 ck_40 H hK hP hD hS => ?_)
  have hK : va_K D vwCl [(ck_40, .int)] s := hK
  have hP : va_P D vwCl [(h0, .inr (5, [.int 0, .int (-1), .null, .null, .int 0, .int 0, .int 0, .int 0, .int 0, .null])), (qa_49, .inl (ck_40, 6, .inl (fun _ => 0)))] H := hP
  have hD : va_D A [(h0, .inr (5, [.int 0, .int (-1), .null, .null, .int 0, .int 0, .int 0, .int 0, .int 0, .null])), (qa_49, .inl (ck_40, 6, .inl (fun _ => 0)))] := hD
  refine W.widen (k := 1) (n := 6) (Nat.le_of_ble_eq_true rfl) (Nat.le_of_ble_eq_true rfl) ?_
  refine va_putF (D := D) (ci := 5) (v := .ref qa_49) (ty := (tyX5 9)) (C := RX5) (T := TX5) (N := 10) hx hb hts iuX5_init_X5 tyX5 tyX5_ok nmX5 hown hK hP hD hS 0 rfl rfl 9 (by decide) (hts (.fieldLink RX5 35 "StraitGame$Reader" "namePlace" "[I") (List.mem_of_getElem? (i := 12) rfl)) (fun _ h9 => h9) rfl hin rfl (by decide +kernel) rfl rfl (Nat.le_of_ble_eq_true rfl) dX5_init_44 (fun H locs hP hD hS => ?_)
  have hP : va_P D vwCl [(h0, .inr (5, [.int 0, .int (-1), .null, .null, .int 0, .int 0, .int 0, .int 0, .int 0, .ref qa_49])), (qa_49, .inl (ck_40, 6, .inl (fun _ => 0)))] H := hP
  have hD : va_D A [(h0, .inr (5, [.int 0, .int (-1), .null, .null, .int 0, .int 0, .int 0, .int 0, .int 0, .ref qa_49])), (qa_49, .inl (ck_40, 6, .inl (fun _ => 0)))] := hD
  refine lv_aload_n hx hb dX5_init_47 rfl (lv_at hl 0 rfl) ?_
  refine va_new (ci := 9) (fs := [.int 0, .null, .null, .null, .int 0]) (C := RX9) (T := TX9) (N := 5) hx hb hts iuX5_init_X9 tyX9 tyX9_ok hown (hts (.classLink RX5 21 RX9) (List.mem_of_getElem? (i := 13) rfl)) (hts (.instantiable RX9 5) (List.mem_of_getElem? (i := 14) rfl)) (hts (.initialized RX9) (List.mem_of_getElem? (i := 15) rfl)) hK hP hD hS hA rfl fsX9 (Nat.le_of_ble_eq_true rfl) (Nat.le_of_ble_eq_true rfl) dX5_init_48 (fun qa_50 H hP hD hS => ?_)
  have hP : va_P D vwCl [(h0, .inr (5, [.int 0, .int (-1), .null, .null, .int 0, .int 0, .int 0, .int 0, .int 0, .ref qa_49])), (qa_49, .inl (ck_40, 6, .inl (fun _ => 0))), (qa_50, .inr (9, [.int 0, .null, .null, .null, .int 0]))] H := hP
  have hD : va_D A [(h0, .inr (5, [.int 0, .int (-1), .null, .null, .int 0, .int 0, .int 0, .int 0, .int 0, .ref qa_49])), (qa_49, .inl (ck_40, 6, .inl (fun _ => 0))), (qa_50, .inr (9, [.int 0, .null, .null, .null, .int 0]))] := hD
  refine W.widen (k := 2) (n := 11) (Nat.le_of_ble_eq_true rfl) (Nat.le_of_ble_eq_true rfl) ?_
  refine lv_dup hx hb dX5_init_51 rfl ?_
  refine lv_aload_n hx hb dX5_init_52 rfl (lv_at hl 1 rfl) ?_
  refine zA_v (zR_I (As := [.ref r0]) (rest := [.ref qa_50, .ref h0]) ⟨hx, hb, hml, hown, hts⟩ (zX9_init_1 l D qa_50 r0 _) (cwI 1 hts gX5_init_X9_init rfl rfl rfl (hts (.initialized RX9) (List.mem_of_getElem? (i := 15) rfl)) (hts (.methodLink RX5 39 yX9_init) (List.mem_of_getElem? (i := 18) rfl)) (hts (.instanceMethod yX9_init) (List.mem_of_getElem? (i := 19) rfl)) rfl (by decide +kernel) ⟨(Nat.le_of_ble_eq_true rfl), (Nat.le_of_ble_eq_true rfl)⟩) hP hD hK hN [2] [] rfl (by decide) rfl rfl hl.1 rfl (Nat.le_of_ble_eq_true rfl) dX5_init_53 ⟨(Nat.le_of_ble_eq_true rfl), (Nat.le_of_ble_eq_true rfl)⟩) hP hD hK hS hA [2] [0, 1] rfl rfl (by decide) (by decide) (fun u H locs hw hP hD hK hS => ?_)
  obtain ⟨qb_21, qb_22, cm_5, cm_6⟩ := u
  have hK : va_K D vwCl [(ck_40, .int), (cm_5, .byte), (cm_6, .int)] s := hK
  have hP : va_P D vwCl [(h0, .inr (5, [.int 0, .int (-1), .null, .null, .int 0, .int 0, .int 0, .int 0, .int 0, .ref qa_49])), (qa_49, .inl (ck_40, 6, .inl (fun _ => 0))), (qa_50, .inr (9, [.int 0, .ref qb_21, .ref qb_22, .ref r0, .int 0])), (qb_21, .inl (cm_5, 1601, .inl (fun _ => 0))), (qb_22, .inl (cm_6, 1601, .inl (fun _ => 0)))] H := hP
  have hD : va_D A [(h0, .inr (5, [.int 0, .int (-1), .null, .null, .int 0, .int 0, .int 0, .int 0, .int 0, .ref qa_49])), (qa_49, .inl (ck_40, 6, .inl (fun _ => 0))), (qa_50, .inr (9, [.int 0, .ref qb_21, .ref qb_22, .ref r0, .int 0])), (qb_21, .inl (cm_5, 1601, .inl (fun _ => 0))), (qb_22, .inl (cm_6, 1601, .inl (fun _ => 0)))] := hD
  refine W.widen (k := 4) (n := 3213) (Nat.le_of_ble_eq_true rfl) (Nat.le_of_ble_eq_true rfl) ?_
  refine va_putF (D := D) (ci := 5) (v := .ref qa_50) (ty := (tyX5 2)) (C := RX5) (T := TX5) (N := 10) hx hb hts iuX5_init_X5 tyX5 tyX5_ok nmX5 hown hK hP hD hS 0 rfl rfl 2 (by decide) (hts (.fieldLink RX5 42 "StraitGame$Reader" "tokens" "LStraitGame$Tokens;") (List.mem_of_getElem? (i := 16) rfl)) (fun _ h9 => h9) rfl hin rfl (by decide +kernel) rfl rfl (Nat.le_of_ble_eq_true rfl) dX5_init_56 (fun H locs hP hD hS => ?_)
  have hP : va_P D vwCl [(h0, .inr (5, [.int 0, .int (-1), .ref qa_50, .null, .int 0, .int 0, .int 0, .int 0, .int 0, .ref qa_49])), (qa_49, .inl (ck_40, 6, .inl (fun _ => 0))), (qa_50, .inr (9, [.int 0, .ref qb_21, .ref qb_22, .ref r0, .int 0])), (qb_21, .inl (cm_5, 1601, .inl (fun _ => 0))), (qb_22, .inl (cm_6, 1601, .inl (fun _ => 0)))] H := hP
  have hD : va_D A [(h0, .inr (5, [.int 0, .int (-1), .ref qa_50, .null, .int 0, .int 0, .int 0, .int 0, .int 0, .ref qa_49])), (qa_49, .inl (ck_40, 6, .inl (fun _ => 0))), (qa_50, .inr (9, [.int 0, .ref qb_21, .ref qb_22, .ref r0, .int 0])), (qb_21, .inl (cm_5, 1601, .inl (fun _ => 0))), (qb_22, .inl (cm_6, 1601, .inl (fun _ => 0)))] := hD
  refine lv_aload_n hx hb dX5_init_59 rfl (lv_at hl 0 rfl) ?_
  refine lv_aload_n hx hb dX5_init_60 rfl (lv_at hl 2 rfl) ?_
  refine va_put (D := D) (ci := 5) (v := .ref r1) (ty := (tyX5 3)) (C := RX5) (T := TX5) (N := 10) hx hb hts iuX5_init_X5 tyX5 tyX5_ok nmX5 hown hK hP hD hS 0 rfl rfl 3 (by decide) (hts (.fieldLink RX5 46 "StraitGame$Reader" "told" "LStraitGame$Told;") (List.mem_of_getElem? (i := 17) rfl)) (fun _ h9 => h9) rfl (by decide +kernel) rfl rfl (Nat.le_of_ble_eq_true rfl) dX5_init_61 (fun H locs hP hD hS => ?_)
  have hP : va_P D vwCl [(h0, .inr (5, [.int 0, .int (-1), .ref qa_50, .ref r1, .int 0, .int 0, .int 0, .int 0, .int 0, .ref qa_49])), (qa_49, .inl (ck_40, 6, .inl (fun _ => 0))), (qa_50, .inr (9, [.int 0, .ref qb_21, .ref qb_22, .ref r0, .int 0])), (qb_21, .inl (cm_5, 1601, .inl (fun _ => 0))), (qb_22, .inl (cm_6, 1601, .inl (fun _ => 0)))] H := hP
  have hD : va_D A [(h0, .inr (5, [.int 0, .int (-1), .ref qa_50, .ref r1, .int 0, .int 0, .int 0, .int 0, .int 0, .ref qa_49])), (qa_49, .inl (ck_40, 6, .inl (fun _ => 0))), (qa_50, .inr (9, [.int 0, .ref qb_21, .ref qb_22, .ref r0, .int 0])), (qb_21, .inl (cm_5, 1601, .inl (fun _ => 0))), (qb_22, .inl (cm_6, 1601, .inl (fun _ => 0)))] := hD
  exact zret_v hx hb hr hlocks hP hD hK hS (qa_50, qb_21, qb_22, qa_49, cm_5, cm_6) trivial [0, 2, 3, 4] [1, 2] (by decide) rfl rfl (Nat.le_of_ble_eq_true rfl) (Nat.le_of_ble_eq_true rfl) dX5_init_64
set_option maxHeartbeats 4000000 in
set_option maxRecDepth 100000 in
theorem zX2_init_1 (l : Launch) (D : va_G) (h0 : Nat) (sz : Nat) : Met l yX2_init wsX2_init ({ frames := 1, cells := 7, slots := 888, locals := 12 }) (zPre D [.ref h0] [(h0, .inr (2, [.int 0, .int 0, .int 0, .int 0, .int 0, .null, .null, .null, .null, .null, .null, .null]))] [] sz) ((fun A => va_Qv (fun (u : Nat × Nat × Nat × Nat × Nat × Nat × Nat × ClassId) => match u with | (qa_61, qa_62, qa_63, qa_64, qa_65, qa_66, qa_67, ck_50) => True) (zB D A (fun (u : Nat × Nat × Nat × Nat × Nat × Nat × Nat × ClassId) => match u with | (qa_61, qa_62, qa_63, qa_64, qa_65, qa_66, qa_67, ck_50) => [(h0, .inr (2, [.int 0, .int 0, .int 0, .int 0, .int 0, .ref qa_61, .ref qa_62, .ref qa_63, .ref qa_64, .ref qa_65, .ref qa_66, .ref qa_67])), (qa_61, .inl (ck_50, 180, .inl (fun _ => 0)))]) (fun (u : Nat × Nat × Nat × Nat × Nat × Nat × Nat × ClassId) => match u with | (qa_61, qa_62, qa_63, qa_64, qa_65, qa_66, qa_67, ck_50) => [(ck_50, .int)])) A) (va_A [(h0, .inr (2, [.int 0, .int 0, .int 0, .int 0, .int 0, .null, .null, .null, .null, .null, .null, .null]))] sz)) 7 888 (va_A [(h0, .inr (2, [.int 0, .int 0, .int 0, .int 0, .int 0, .null, .null, .null, .null, .null, .null, .null]))] sz) := by
  refine zOfW (QF := fun A => va_Qv (fun (u : Nat × Nat × Nat × Nat × Nat × Nat × Nat × ClassId) => match u with | (qa_61, qa_62, qa_63, qa_64, qa_65, qa_66, qa_67, ck_50) => True) (zB D A (fun (u : Nat × Nat × Nat × Nat × Nat × Nat × Nat × ClassId) => match u with | (qa_61, qa_62, qa_63, qa_64, qa_65, qa_66, qa_67, ck_50) => [(h0, .inr (2, [.int 0, .int 0, .int 0, .int 0, .int 0, .ref qa_61, .ref qa_62, .ref qa_63, .ref qa_64, .ref qa_65, .ref qa_66, .ref qa_67])), (qa_61, .inl (ck_50, 180, .inl (fun _ => 0)))]) (fun (u : Nat × Nat × Nat × Nat × Nat × Nat × Nat × ClassId) => match u with | (qa_61, qa_62, qa_63, qa_64, qa_65, qa_66, qa_67, ck_50) => [(ck_50, .int)])) A) (cc := cX2_init) (maxL := 1) (ret := none) (by decide) rfl (Nat.le_of_ble_eq_true rfl) ?_
  intro p e s m below meth c A ls hx hb hr hml hts hown hlocks hin hA hS hP hD hK hN hl
  have hl : lv_has ls 1 [(0, .ref h0)] := hl
  refine lv_aload_n hx hb dX2_init_0 rfl (lv_at hl 0 rfl) ?_
  refine W.objInit hx hb hown (hts (.methodLink RX2 3 objectInit) (List.mem_of_getElem? (i := 1) rfl)) (hts (.instanceMethod objectInit) (List.mem_of_getElem? (i := 2) rfl)) (hts (.code objectInit ⟨#[0xb1]⟩ 1 none) (List.mem_of_getElem? (i := 3) rfl)) rfl (by rw [hml]; exact hl.1) rfl dX2_init_1 (Nat.le_of_ble_eq_true rfl) (Nat.le_of_ble_eq_true rfl) ?_
  refine W.eq (g2 := F0 m 4 ls []) rfl ?_
  refine lv_aload_n hx hb dX2_init_4 rfl (lv_at hl 0 rfl) ?_
  refine lv_iconst (v := 0) hx hb dX2_init_5 (by decide) ?_
  refine va_put (D := D) (ci := 2) (v := .int 0) (ty := .int) (C := RX2) (T := TX2) (N := 12) hx hb hts iuX2_init_X2 tyX2 tyX2_ok nmX2 hown hK hP hD hS 0 rfl rfl 0 (by decide) (hts (.fieldLink RX2 9 "StraitGame$Laws" "squares" "I") (List.mem_of_getElem? (i := 4) rfl)) (fun _ h9 => h9) rfl (by decide +kernel) rfl rfl (Nat.le_of_ble_eq_true rfl) dX2_init_6 (fun H locs hP hD hS => ?_)
  have hP : va_P D vwCl [(h0, .inr (2, [.int 0, .int 0, .int 0, .int 0, .int 0, .null, .null, .null, .null, .null, .null, .null]))] H := hP
  have hD : va_D A [(h0, .inr (2, [.int 0, .int 0, .int 0, .int 0, .int 0, .null, .null, .null, .null, .null, .null, .null]))] := hD
  refine lv_aload_n hx hb dX2_init_9 rfl (lv_at hl 0 rfl) ?_
  refine lv_iconst (v := 0) hx hb dX2_init_10 (by decide) ?_
  refine va_put (D := D) (ci := 2) (v := .int 0) (ty := .int) (C := RX2) (T := TX2) (N := 12) hx hb hts iuX2_init_X2 tyX2 tyX2_ok nmX2 hown hK hP hD hS 0 rfl rfl 1 (by decide) (hts (.fieldLink RX2 15 "StraitGame$Laws" "files" "I") (List.mem_of_getElem? (i := 5) rfl)) (fun _ h9 => h9) rfl (by decide +kernel) rfl rfl (Nat.le_of_ble_eq_true rfl) dX2_init_11 (fun H locs hP hD hS => ?_)
  have hP : va_P D vwCl [(h0, .inr (2, [.int 0, .int 0, .int 0, .int 0, .int 0, .null, .null, .null, .null, .null, .null, .null]))] H := hP
  have hD : va_D A [(h0, .inr (2, [.int 0, .int 0, .int 0, .int 0, .int 0, .null, .null, .null, .null, .null, .null, .null]))] := hD
  refine lv_aload_n hx hb dX2_init_14 rfl (lv_at hl 0 rfl) ?_
  refine lv_iconst (v := 0) hx hb dX2_init_15 (by decide) ?_
  refine va_put (D := D) (ci := 2) (v := .int 0) (ty := .int) (C := RX2) (T := TX2) (N := 12) hx hb hts iuX2_init_X2 tyX2 tyX2_ok nmX2 hown hK hP hD hS 0 rfl rfl 2 (by decide) (hts (.fieldLink RX2 18 "StraitGame$Laws" "ranks" "I") (List.mem_of_getElem? (i := 6) rfl)) (fun _ h9 => h9) rfl (by decide +kernel) rfl rfl (Nat.le_of_ble_eq_true rfl) dX2_init_16 (fun H locs hP hD hS => ?_)
  have hP : va_P D vwCl [(h0, .inr (2, [.int 0, .int 0, .int 0, .int 0, .int 0, .null, .null, .null, .null, .null, .null, .null]))] H := hP
  have hD : va_D A [(h0, .inr (2, [.int 0, .int 0, .int 0, .int 0, .int 0, .null, .null, .null, .null, .null, .null, .null]))] := hD
  refine lv_aload_n hx hb dX2_init_19 rfl (lv_at hl 0 rfl) ?_
  refine lv_iconst (v := 0) hx hb dX2_init_20 (by decide) ?_
  refine va_put (D := D) (ci := 2) (v := .int 0) (ty := .boolean) (C := RX2) (T := TX2) (N := 12) hx hb hts iuX2_init_X2 tyX2 tyX2_ok nmX2 hown hK hP hD hS 0 rfl rfl 3 (by decide) (hts (.fieldLink RX2 21 "StraitGame$Laws" "whiteHadKing" "Z") (List.mem_of_getElem? (i := 7) rfl)) (fun _ h9 => h9) rfl (by decide +kernel) (by decide) rfl (Nat.le_of_ble_eq_true rfl) dX2_init_21 (fun H locs hP hD hS => ?_)
  have hP : va_P D vwCl [(h0, .inr (2, [.int 0, .int 0, .int 0, .int 0, .int 0, .null, .null, .null, .null, .null, .null, .null]))] H := hP
  have hD : va_D A [(h0, .inr (2, [.int 0, .int 0, .int 0, .int 0, .int 0, .null, .null, .null, .null, .null, .null, .null]))] := hD
  refine lv_aload_n hx hb dX2_init_24 rfl (lv_at hl 0 rfl) ?_
  refine lv_iconst (v := 0) hx hb dX2_init_25 (by decide) ?_
  refine va_put (D := D) (ci := 2) (v := .int 0) (ty := .boolean) (C := RX2) (T := TX2) (N := 12) hx hb hts iuX2_init_X2 tyX2 tyX2_ok nmX2 hown hK hP hD hS 0 rfl rfl 4 (by decide) (hts (.fieldLink RX2 25 "StraitGame$Laws" "blackHadKing" "Z") (List.mem_of_getElem? (i := 8) rfl)) (fun _ h9 => h9) rfl (by decide +kernel) (by decide) rfl (Nat.le_of_ble_eq_true rfl) dX2_init_26 (fun H locs hP hD hS => ?_)
  have hP : va_P D vwCl [(h0, .inr (2, [.int 0, .int 0, .int 0, .int 0, .int 0, .null, .null, .null, .null, .null, .null, .null]))] H := hP
  have hD : va_D A [(h0, .inr (2, [.int 0, .int 0, .int 0, .int 0, .int 0, .null, .null, .null, .null, .null, .null, .null]))] := hD
  refine lv_aload_n hx hb dX2_init_29 rfl (lv_at hl 0 rfl) ?_
  refine lv_sipush (v := 180) hx hb dX2_init_30 (by decide) ?_
  refine va_newa (atype := .int) (a0 := (180, .inl (fun _ => 0))) (ty := .int) (N' := 180) hx hb (hts (.arrayClass .int) (List.mem_of_getElem? (i := 9) rfl)) rfl hK hP hD hS hA (zarr_int 180) (by decide) (by decide) (zby_int (Nat.le_of_ble_eq_true rfl)) (Nat.le_of_ble_eq_true rfl) (Nat.le_of_ble_eq_true rfl) dX2_init_33 (fun qa_68 ck_57 H hK hP hD hS => ?_)
  have hK : va_K D vwCl [(ck_57, .int)] s := hK
  have hP : va_P D vwCl [(h0, .inr (2, [.int 0, .int 0, .int 0, .int 0, .int 0, .null, .null, .null, .null, .null, .null, .null])), (qa_68, .inl (ck_57, 180, .inl (fun _ => 0)))] H := hP
  have hD : va_D A [(h0, .inr (2, [.int 0, .int 0, .int 0, .int 0, .int 0, .null, .null, .null, .null, .null, .null, .null])), (qa_68, .inl (ck_57, 180, .inl (fun _ => 0)))] := hD
  refine W.widen (k := 1) (n := 180) (Nat.le_of_ble_eq_true rfl) (Nat.le_of_ble_eq_true rfl) ?_
  refine va_putF (D := D) (ci := 2) (v := .ref qa_68) (ty := (tyX2 5)) (C := RX2) (T := TX2) (N := 12) hx hb hts iuX2_init_X2 tyX2 tyX2_ok nmX2 hown hK hP hD hS 0 rfl rfl 5 (by decide) (hts (.fieldLink RX2 28 "StraitGame$Laws" "leapTo" "[I") (List.mem_of_getElem? (i := 10) rfl)) (fun _ h9 => h9) rfl hin rfl (by decide +kernel) rfl rfl (Nat.le_of_ble_eq_true rfl) dX2_init_35 (fun H locs hP hD hS => ?_)
  have hP : va_P D vwCl [(h0, .inr (2, [.int 0, .int 0, .int 0, .int 0, .int 0, .ref qa_68, .null, .null, .null, .null, .null, .null])), (qa_68, .inl (ck_57, 180, .inl (fun _ => 0)))] H := hP
  have hD : va_D A [(h0, .inr (2, [.int 0, .int 0, .int 0, .int 0, .int 0, .ref qa_68, .null, .null, .null, .null, .null, .null])), (qa_68, .inl (ck_57, 180, .inl (fun _ => 0)))] := hD
  refine lv_aload_n hx hb dX2_init_38 rfl (lv_at hl 0 rfl) ?_
  refine lv_bipush (v := 6) hx hb dX2_init_39 (by decide) ?_
  refine va_newa (atype := .boolean) (a0 := (6, .inl (fun _ => 0))) (ty := .boolean) (N' := 6) hx hb (hts (.arrayClass .boolean) (List.mem_of_getElem? (i := 11) rfl)) rfl hK hP hD hS hA (zarr_boolean 6) (by decide) (by decide) (zby_boolean (Nat.le_of_ble_eq_true rfl)) (Nat.le_of_ble_eq_true rfl) (Nat.le_of_ble_eq_true rfl) dX2_init_41 (fun qa_69 ck_58 H hK hP hD hS => ?_)
  have hK : va_K D vwCl [(ck_57, .int), (ck_58, .boolean)] s := hK
  have hP : va_P D vwCl [(h0, .inr (2, [.int 0, .int 0, .int 0, .int 0, .int 0, .ref qa_68, .null, .null, .null, .null, .null, .null])), (qa_68, .inl (ck_57, 180, .inl (fun _ => 0))), (qa_69, .inl (ck_58, 6, .inl (fun _ => 0)))] H := hP
  have hD : va_D A [(h0, .inr (2, [.int 0, .int 0, .int 0, .int 0, .int 0, .ref qa_68, .null, .null, .null, .null, .null, .null])), (qa_68, .inl (ck_57, 180, .inl (fun _ => 0))), (qa_69, .inl (ck_58, 6, .inl (fun _ => 0)))] := hD
  refine W.widen (k := 2) (n := 186) (Nat.le_of_ble_eq_true rfl) (Nat.le_of_ble_eq_true rfl) ?_
  refine va_putF (D := D) (ci := 2) (v := .ref qa_69) (ty := (tyX2 6)) (C := RX2) (T := TX2) (N := 12) hx hb hts iuX2_init_X2 tyX2 tyX2_ok nmX2 hown hK hP hD hS 0 rfl rfl 6 (by decide) (hts (.fieldLink RX2 32 "StraitGame$Laws" "forward" "[Z") (List.mem_of_getElem? (i := 12) rfl)) (fun _ h9 => h9) rfl hin rfl (by decide +kernel) rfl rfl (Nat.le_of_ble_eq_true rfl) dX2_init_43 (fun H locs hP hD hS => ?_)
  have hP : va_P D vwCl [(h0, .inr (2, [.int 0, .int 0, .int 0, .int 0, .int 0, .ref qa_68, .ref qa_69, .null, .null, .null, .null, .null])), (qa_68, .inl (ck_57, 180, .inl (fun _ => 0))), (qa_69, .inl (ck_58, 6, .inl (fun _ => 0)))] H := hP
  have hD : va_D A [(h0, .inr (2, [.int 0, .int 0, .int 0, .int 0, .int 0, .ref qa_68, .ref qa_69, .null, .null, .null, .null, .null])), (qa_68, .inl (ck_57, 180, .inl (fun _ => 0))), (qa_69, .inl (ck_58, 6, .inl (fun _ => 0)))] := hD
  refine lv_aload_n hx hb dX2_init_46 rfl (lv_at hl 0 rfl) ?_
  refine lv_bipush (v := 60) hx hb dX2_init_47 (by decide) ?_
  refine va_newa (atype := .int) (a0 := (60, .inl (fun _ => 0))) (ty := .int) (N' := 60) hx hb (hts (.arrayClass .int) (List.mem_of_getElem? (i := 9) rfl)) rfl hK hP hD hS hA (zarr_int 60) (by decide) (by decide) (zby_int (Nat.le_of_ble_eq_true rfl)) (Nat.le_of_ble_eq_true rfl) (Nat.le_of_ble_eq_true rfl) dX2_init_49 (fun qa_70 ck_59 H hK hP hD hS => ?_)
  have hK : va_K D vwCl [(ck_57, .int), (ck_58, .boolean), (ck_59, .int)] s := hK
  have hP : va_P D vwCl [(h0, .inr (2, [.int 0, .int 0, .int 0, .int 0, .int 0, .ref qa_68, .ref qa_69, .null, .null, .null, .null, .null])), (qa_68, .inl (ck_57, 180, .inl (fun _ => 0))), (qa_69, .inl (ck_58, 6, .inl (fun _ => 0))), (qa_70, .inl (ck_59, 60, .inl (fun _ => 0)))] H := hP
  have hD : va_D A [(h0, .inr (2, [.int 0, .int 0, .int 0, .int 0, .int 0, .ref qa_68, .ref qa_69, .null, .null, .null, .null, .null])), (qa_68, .inl (ck_57, 180, .inl (fun _ => 0))), (qa_69, .inl (ck_58, 6, .inl (fun _ => 0))), (qa_70, .inl (ck_59, 60, .inl (fun _ => 0)))] := hD
  refine W.widen (k := 3) (n := 246) (Nat.le_of_ble_eq_true rfl) (Nat.le_of_ble_eq_true rfl) ?_
  refine va_putF (D := D) (ci := 2) (v := .ref qa_70) (ty := (tyX2 7)) (C := RX2) (T := TX2) (N := 12) hx hb hts iuX2_init_X2 tyX2 tyX2_ok nmX2 hown hK hP hD hS 0 rfl rfl 7 (by decide) (hts (.fieldLink RX2 36 "StraitGame$Laws" "ahead" "[I") (List.mem_of_getElem? (i := 13) rfl)) (fun _ h9 => h9) rfl hin rfl (by decide +kernel) rfl rfl (Nat.le_of_ble_eq_true rfl) dX2_init_51 (fun H locs hP hD hS => ?_)
  have hP : va_P D vwCl [(h0, .inr (2, [.int 0, .int 0, .int 0, .int 0, .int 0, .ref qa_68, .ref qa_69, .ref qa_70, .null, .null, .null, .null])), (qa_68, .inl (ck_57, 180, .inl (fun _ => 0))), (qa_69, .inl (ck_58, 6, .inl (fun _ => 0))), (qa_70, .inl (ck_59, 60, .inl (fun _ => 0)))] H := hP
  have hD : va_D A [(h0, .inr (2, [.int 0, .int 0, .int 0, .int 0, .int 0, .ref qa_68, .ref qa_69, .ref qa_70, .null, .null, .null, .null])), (qa_68, .inl (ck_57, 180, .inl (fun _ => 0))), (qa_69, .inl (ck_58, 6, .inl (fun _ => 0))), (qa_70, .inl (ck_59, 60, .inl (fun _ => 0)))] := hD
  refine lv_aload_n hx hb dX2_init_54 rfl (lv_at hl 0 rfl) ?_
  refine lv_bipush (v := 60) hx hb dX2_init_55 (by decide) ?_
  refine va_newa (atype := .int) (a0 := (60, .inl (fun _ => 0))) (ty := .int) (N' := 60) hx hb (hts (.arrayClass .int) (List.mem_of_getElem? (i := 9) rfl)) rfl hK hP hD hS hA (zarr_int 60) (by decide) (by decide) (zby_int (Nat.le_of_ble_eq_true rfl)) (Nat.le_of_ble_eq_true rfl) (Nat.le_of_ble_eq_true rfl) dX2_init_57 (fun qa_71 ck_60 H hK hP hD hS => ?_)
  have hK : va_K D vwCl [(ck_57, .int), (ck_58, .boolean), (ck_59, .int), (ck_60, .int)] s := hK
  have hP : va_P D vwCl [(h0, .inr (2, [.int 0, .int 0, .int 0, .int 0, .int 0, .ref qa_68, .ref qa_69, .ref qa_70, .null, .null, .null, .null])), (qa_68, .inl (ck_57, 180, .inl (fun _ => 0))), (qa_69, .inl (ck_58, 6, .inl (fun _ => 0))), (qa_70, .inl (ck_59, 60, .inl (fun _ => 0))), (qa_71, .inl (ck_60, 60, .inl (fun _ => 0)))] H := hP
  have hD : va_D A [(h0, .inr (2, [.int 0, .int 0, .int 0, .int 0, .int 0, .ref qa_68, .ref qa_69, .ref qa_70, .null, .null, .null, .null])), (qa_68, .inl (ck_57, 180, .inl (fun _ => 0))), (qa_69, .inl (ck_58, 6, .inl (fun _ => 0))), (qa_70, .inl (ck_59, 60, .inl (fun _ => 0))), (qa_71, .inl (ck_60, 60, .inl (fun _ => 0)))] := hD
  refine W.widen (k := 4) (n := 306) (Nat.le_of_ble_eq_true rfl) (Nat.le_of_ble_eq_true rfl) ?_
  refine va_putF (D := D) (ci := 2) (v := .ref qa_71) (ty := (tyX2 8)) (C := RX2) (T := TX2) (N := 12) hx hb hts iuX2_init_X2 tyX2 tyX2_ok nmX2 hown hK hP hD hS 0 rfl rfl 8 (by decide) (hts (.fieldLink RX2 39 "StraitGame$Laws" "beside" "[I") (List.mem_of_getElem? (i := 14) rfl)) (fun _ h9 => h9) rfl hin rfl (by decide +kernel) rfl rfl (Nat.le_of_ble_eq_true rfl) dX2_init_59 (fun H locs hP hD hS => ?_)
  have hP : va_P D vwCl [(h0, .inr (2, [.int 0, .int 0, .int 0, .int 0, .int 0, .ref qa_68, .ref qa_69, .ref qa_70, .ref qa_71, .null, .null, .null])), (qa_68, .inl (ck_57, 180, .inl (fun _ => 0))), (qa_69, .inl (ck_58, 6, .inl (fun _ => 0))), (qa_70, .inl (ck_59, 60, .inl (fun _ => 0))), (qa_71, .inl (ck_60, 60, .inl (fun _ => 0)))] H := hP
  have hD : va_D A [(h0, .inr (2, [.int 0, .int 0, .int 0, .int 0, .int 0, .ref qa_68, .ref qa_69, .ref qa_70, .ref qa_71, .null, .null, .null])), (qa_68, .inl (ck_57, 180, .inl (fun _ => 0))), (qa_69, .inl (ck_58, 6, .inl (fun _ => 0))), (qa_70, .inl (ck_59, 60, .inl (fun _ => 0))), (qa_71, .inl (ck_60, 60, .inl (fun _ => 0)))] := hD
  refine lv_aload_n hx hb dX2_init_62 rfl (lv_at hl 0 rfl) ?_
  refine lv_bipush (v := 6) hx hb dX2_init_63 (by decide) ?_
  refine va_newa (atype := .int) (a0 := (6, .inl (fun _ => 0))) (ty := .int) (N' := 6) hx hb (hts (.arrayClass .int) (List.mem_of_getElem? (i := 9) rfl)) rfl hK hP hD hS hA (zarr_int 6) (by decide) (by decide) (zby_int (Nat.le_of_ble_eq_true rfl)) (Nat.le_of_ble_eq_true rfl) (Nat.le_of_ble_eq_true rfl) dX2_init_65 (fun qa_72 ck_61 H hK hP hD hS => ?_)
  have hK : va_K D vwCl [(ck_57, .int), (ck_58, .boolean), (ck_59, .int), (ck_60, .int), (ck_61, .int)] s := hK
  have hP : va_P D vwCl [(h0, .inr (2, [.int 0, .int 0, .int 0, .int 0, .int 0, .ref qa_68, .ref qa_69, .ref qa_70, .ref qa_71, .null, .null, .null])), (qa_68, .inl (ck_57, 180, .inl (fun _ => 0))), (qa_69, .inl (ck_58, 6, .inl (fun _ => 0))), (qa_70, .inl (ck_59, 60, .inl (fun _ => 0))), (qa_71, .inl (ck_60, 60, .inl (fun _ => 0))), (qa_72, .inl (ck_61, 6, .inl (fun _ => 0)))] H := hP
  have hD : va_D A [(h0, .inr (2, [.int 0, .int 0, .int 0, .int 0, .int 0, .ref qa_68, .ref qa_69, .ref qa_70, .ref qa_71, .null, .null, .null])), (qa_68, .inl (ck_57, 180, .inl (fun _ => 0))), (qa_69, .inl (ck_58, 6, .inl (fun _ => 0))), (qa_70, .inl (ck_59, 60, .inl (fun _ => 0))), (qa_71, .inl (ck_60, 60, .inl (fun _ => 0))), (qa_72, .inl (ck_61, 6, .inl (fun _ => 0)))] := hD
  refine W.widen (k := 5) (n := 312) (Nat.le_of_ble_eq_true rfl) (Nat.le_of_ble_eq_true rfl) ?_
  refine va_putF (D := D) (ci := 2) (v := .ref qa_72) (ty := (tyX2 9)) (C := RX2) (T := TX2) (N := 12) hx hb hts iuX2_init_X2 tyX2 tyX2_ok nmX2 hown hK hP hD hS 0 rfl rfl 9 (by decide) (hts (.fieldLink RX2 42 "StraitGame$Laws" "rays" "[I") (List.mem_of_getElem? (i := 15) rfl)) (fun _ h9 => h9) rfl hin rfl (by decide +kernel) rfl rfl (Nat.le_of_ble_eq_true rfl) dX2_init_67 (fun H locs hP hD hS => ?_)
  have hP : va_P D vwCl [(h0, .inr (2, [.int 0, .int 0, .int 0, .int 0, .int 0, .ref qa_68, .ref qa_69, .ref qa_70, .ref qa_71, .ref qa_72, .null, .null])), (qa_68, .inl (ck_57, 180, .inl (fun _ => 0))), (qa_69, .inl (ck_58, 6, .inl (fun _ => 0))), (qa_70, .inl (ck_59, 60, .inl (fun _ => 0))), (qa_71, .inl (ck_60, 60, .inl (fun _ => 0))), (qa_72, .inl (ck_61, 6, .inl (fun _ => 0)))] H := hP
  have hD : va_D A [(h0, .inr (2, [.int 0, .int 0, .int 0, .int 0, .int 0, .ref qa_68, .ref qa_69, .ref qa_70, .ref qa_71, .ref qa_72, .null, .null])), (qa_68, .inl (ck_57, 180, .inl (fun _ => 0))), (qa_69, .inl (ck_58, 6, .inl (fun _ => 0))), (qa_70, .inl (ck_59, 60, .inl (fun _ => 0))), (qa_71, .inl (ck_60, 60, .inl (fun _ => 0))), (qa_72, .inl (ck_61, 6, .inl (fun _ => 0)))] := hD
  refine lv_aload_n hx hb dX2_init_70 rfl (lv_at hl 0 rfl) ?_
  refine lv_sipush (v := 288) hx hb dX2_init_71 (by decide) ?_
  refine va_newa (atype := .int) (a0 := (288, .inl (fun _ => 0))) (ty := .int) (N' := 288) hx hb (hts (.arrayClass .int) (List.mem_of_getElem? (i := 9) rfl)) rfl hK hP hD hS hA (zarr_int 288) (by decide) (by decide) (zby_int (Nat.le_of_ble_eq_true rfl)) (Nat.le_of_ble_eq_true rfl) (Nat.le_of_ble_eq_true rfl) dX2_init_74 (fun qa_73 ck_62 H hK hP hD hS => ?_)
  have hK : va_K D vwCl [(ck_57, .int), (ck_58, .boolean), (ck_59, .int), (ck_60, .int), (ck_61, .int), (ck_62, .int)] s := hK
  have hP : va_P D vwCl [(h0, .inr (2, [.int 0, .int 0, .int 0, .int 0, .int 0, .ref qa_68, .ref qa_69, .ref qa_70, .ref qa_71, .ref qa_72, .null, .null])), (qa_68, .inl (ck_57, 180, .inl (fun _ => 0))), (qa_69, .inl (ck_58, 6, .inl (fun _ => 0))), (qa_70, .inl (ck_59, 60, .inl (fun _ => 0))), (qa_71, .inl (ck_60, 60, .inl (fun _ => 0))), (qa_72, .inl (ck_61, 6, .inl (fun _ => 0))), (qa_73, .inl (ck_62, 288, .inl (fun _ => 0)))] H := hP
  have hD : va_D A [(h0, .inr (2, [.int 0, .int 0, .int 0, .int 0, .int 0, .ref qa_68, .ref qa_69, .ref qa_70, .ref qa_71, .ref qa_72, .null, .null])), (qa_68, .inl (ck_57, 180, .inl (fun _ => 0))), (qa_69, .inl (ck_58, 6, .inl (fun _ => 0))), (qa_70, .inl (ck_59, 60, .inl (fun _ => 0))), (qa_71, .inl (ck_60, 60, .inl (fun _ => 0))), (qa_72, .inl (ck_61, 6, .inl (fun _ => 0))), (qa_73, .inl (ck_62, 288, .inl (fun _ => 0)))] := hD
  refine W.widen (k := 6) (n := 600) (Nat.le_of_ble_eq_true rfl) (Nat.le_of_ble_eq_true rfl) ?_
  refine va_putF (D := D) (ci := 2) (v := .ref qa_73) (ty := (tyX2 10)) (C := RX2) (T := TX2) (N := 12) hx hb hts iuX2_init_X2 tyX2 tyX2_ok nmX2 hown hK hP hD hS 0 rfl rfl 10 (by decide) (hts (.fieldLink RX2 45 "StraitGame$Laws" "rayFiles" "[I") (List.mem_of_getElem? (i := 16) rfl)) (fun _ h9 => h9) rfl hin rfl (by decide +kernel) rfl rfl (Nat.le_of_ble_eq_true rfl) dX2_init_76 (fun H locs hP hD hS => ?_)
  have hP : va_P D vwCl [(h0, .inr (2, [.int 0, .int 0, .int 0, .int 0, .int 0, .ref qa_68, .ref qa_69, .ref qa_70, .ref qa_71, .ref qa_72, .ref qa_73, .null])), (qa_68, .inl (ck_57, 180, .inl (fun _ => 0))), (qa_69, .inl (ck_58, 6, .inl (fun _ => 0))), (qa_70, .inl (ck_59, 60, .inl (fun _ => 0))), (qa_71, .inl (ck_60, 60, .inl (fun _ => 0))), (qa_72, .inl (ck_61, 6, .inl (fun _ => 0))), (qa_73, .inl (ck_62, 288, .inl (fun _ => 0)))] H := hP
  have hD : va_D A [(h0, .inr (2, [.int 0, .int 0, .int 0, .int 0, .int 0, .ref qa_68, .ref qa_69, .ref qa_70, .ref qa_71, .ref qa_72, .ref qa_73, .null])), (qa_68, .inl (ck_57, 180, .inl (fun _ => 0))), (qa_69, .inl (ck_58, 6, .inl (fun _ => 0))), (qa_70, .inl (ck_59, 60, .inl (fun _ => 0))), (qa_71, .inl (ck_60, 60, .inl (fun _ => 0))), (qa_72, .inl (ck_61, 6, .inl (fun _ => 0))), (qa_73, .inl (ck_62, 288, .inl (fun _ => 0)))] := hD
  refine lv_aload_n hx hb dX2_init_79 rfl (lv_at hl 0 rfl) ?_
  refine lv_sipush (v := 288) hx hb dX2_init_80 (by decide) ?_
  refine va_newa (atype := .int) (a0 := (288, .inl (fun _ => 0))) (ty := .int) (N' := 288) hx hb (hts (.arrayClass .int) (List.mem_of_getElem? (i := 9) rfl)) rfl hK hP hD hS hA (zarr_int 288) (by decide) (by decide) (zby_int (Nat.le_of_ble_eq_true rfl)) (Nat.le_of_ble_eq_true rfl) (Nat.le_of_ble_eq_true rfl) dX2_init_83 (fun qa_74 ck_63 H hK hP hD hS => ?_)
  have hK : va_K D vwCl [(ck_57, .int), (ck_58, .boolean), (ck_59, .int), (ck_60, .int), (ck_61, .int), (ck_62, .int), (ck_63, .int)] s := hK
  have hP : va_P D vwCl [(h0, .inr (2, [.int 0, .int 0, .int 0, .int 0, .int 0, .ref qa_68, .ref qa_69, .ref qa_70, .ref qa_71, .ref qa_72, .ref qa_73, .null])), (qa_68, .inl (ck_57, 180, .inl (fun _ => 0))), (qa_69, .inl (ck_58, 6, .inl (fun _ => 0))), (qa_70, .inl (ck_59, 60, .inl (fun _ => 0))), (qa_71, .inl (ck_60, 60, .inl (fun _ => 0))), (qa_72, .inl (ck_61, 6, .inl (fun _ => 0))), (qa_73, .inl (ck_62, 288, .inl (fun _ => 0))), (qa_74, .inl (ck_63, 288, .inl (fun _ => 0)))] H := hP
  have hD : va_D A [(h0, .inr (2, [.int 0, .int 0, .int 0, .int 0, .int 0, .ref qa_68, .ref qa_69, .ref qa_70, .ref qa_71, .ref qa_72, .ref qa_73, .null])), (qa_68, .inl (ck_57, 180, .inl (fun _ => 0))), (qa_69, .inl (ck_58, 6, .inl (fun _ => 0))), (qa_70, .inl (ck_59, 60, .inl (fun _ => 0))), (qa_71, .inl (ck_60, 60, .inl (fun _ => 0))), (qa_72, .inl (ck_61, 6, .inl (fun _ => 0))), (qa_73, .inl (ck_62, 288, .inl (fun _ => 0))), (qa_74, .inl (ck_63, 288, .inl (fun _ => 0)))] := hD
  refine W.widen (k := 7) (n := 888) (Nat.le_of_ble_eq_true rfl) (Nat.le_of_ble_eq_true rfl) ?_
  refine va_putF (D := D) (ci := 2) (v := .ref qa_74) (ty := (tyX2 11)) (C := RX2) (T := TX2) (N := 12) hx hb hts iuX2_init_X2 tyX2 tyX2_ok nmX2 hown hK hP hD hS 0 rfl rfl 11 (by decide) (hts (.fieldLink RX2 48 "StraitGame$Laws" "rayRanks" "[I") (List.mem_of_getElem? (i := 17) rfl)) (fun _ h9 => h9) rfl hin rfl (by decide +kernel) rfl rfl (Nat.le_of_ble_eq_true rfl) dX2_init_85 (fun H locs hP hD hS => ?_)
  have hP : va_P D vwCl [(h0, .inr (2, [.int 0, .int 0, .int 0, .int 0, .int 0, .ref qa_68, .ref qa_69, .ref qa_70, .ref qa_71, .ref qa_72, .ref qa_73, .ref qa_74])), (qa_68, .inl (ck_57, 180, .inl (fun _ => 0))), (qa_69, .inl (ck_58, 6, .inl (fun _ => 0))), (qa_70, .inl (ck_59, 60, .inl (fun _ => 0))), (qa_71, .inl (ck_60, 60, .inl (fun _ => 0))), (qa_72, .inl (ck_61, 6, .inl (fun _ => 0))), (qa_73, .inl (ck_62, 288, .inl (fun _ => 0))), (qa_74, .inl (ck_63, 288, .inl (fun _ => 0)))] H := hP
  have hD : va_D A [(h0, .inr (2, [.int 0, .int 0, .int 0, .int 0, .int 0, .ref qa_68, .ref qa_69, .ref qa_70, .ref qa_71, .ref qa_72, .ref qa_73, .ref qa_74])), (qa_68, .inl (ck_57, 180, .inl (fun _ => 0))), (qa_69, .inl (ck_58, 6, .inl (fun _ => 0))), (qa_70, .inl (ck_59, 60, .inl (fun _ => 0))), (qa_71, .inl (ck_60, 60, .inl (fun _ => 0))), (qa_72, .inl (ck_61, 6, .inl (fun _ => 0))), (qa_73, .inl (ck_62, 288, .inl (fun _ => 0))), (qa_74, .inl (ck_63, 288, .inl (fun _ => 0)))] := hD
  exact zret_v hx hb hr hlocks hP hD hK hS (qa_68, qa_69, qa_70, qa_71, qa_72, qa_73, qa_74, ck_57) trivial [0, 1] [0] (by decide) rfl rfl (Nat.le_of_ble_eq_true rfl) (Nat.le_of_ble_eq_true rfl) dX2_init_88
set_option maxHeartbeats 4000000 in
set_option maxRecDepth 100000 in
theorem zX6_init_1 (l : Launch) (D : va_G) (h0 r0 : Nat) (sz : Nat) : Met l yX6_init wsX6_init ({ frames := 2, cells := 6, slots := 40, locals := 32 }) (zPre D [.ref h0, .ref r0] [(h0, .inr (6, [.null, .null, .int 0]))] [] sz) ((fun A => va_Qv (fun (u : Nat × Nat × ClassId × (Nat → Option Nat)) => match u with | (qa_79, qa_80, ck_65, fl_2) => fl_2 0 = some qa_80) (zB D A (fun (u : Nat × Nat × ClassId × (Nat → Option Nat)) => match u with | (qa_79, qa_80, ck_65, fl_2) => [(h0, .inr (6, [.ref r0, .ref qa_79, .int 0])), (qa_79, .inl (ck_65, 5, .inr (.inr (.inr (.inr fl_2))))), (qa_80, .inr (4, [.int 0, .int 0, .int 0, .int 0, .int 0, .int 0, .int 0]))]) (fun (u : Nat × Nat × ClassId × (Nat → Option Nat)) => match u with | (qa_79, qa_80, ck_65, fl_2) => [(ck_65, .object RX4)])) A) (va_A [(h0, .inr (6, [.null, .null, .int 0]))] sz)) 6 40 (va_A [(h0, .inr (6, [.null, .null, .int 0]))] sz) := by
  refine zOfW (QF := fun A => va_Qv (fun (u : Nat × Nat × ClassId × (Nat → Option Nat)) => match u with | (qa_79, qa_80, ck_65, fl_2) => fl_2 0 = some qa_80) (zB D A (fun (u : Nat × Nat × ClassId × (Nat → Option Nat)) => match u with | (qa_79, qa_80, ck_65, fl_2) => [(h0, .inr (6, [.ref r0, .ref qa_79, .int 0])), (qa_79, .inl (ck_65, 5, .inr (.inr (.inr (.inr fl_2))))), (qa_80, .inr (4, [.int 0, .int 0, .int 0, .int 0, .int 0, .int 0, .int 0]))]) (fun (u : Nat × Nat × ClassId × (Nat → Option Nat)) => match u with | (qa_79, qa_80, ck_65, fl_2) => [(ck_65, .object RX4)])) A) (cc := cX6_init) (maxL := 3) (ret := none) (by decide) rfl (Nat.le_of_ble_eq_true rfl) ?_
  intro p e s m below meth c A ls hx hb hr hml hts hown hlocks hin hA hS hP hD hK hN hl
  have hl : lv_has ls 3 [(0, .ref h0), (1, .ref r0)] := hl
  refine lv_aload_n hx hb dX6_init_0 rfl (lv_at hl 0 rfl) ?_
  refine W.objInit hx hb hown (hts (.methodLink RX6 3 objectInit) (List.mem_of_getElem? (i := 1) rfl)) (hts (.instanceMethod objectInit) (List.mem_of_getElem? (i := 2) rfl)) (hts (.code objectInit ⟨#[0xb1]⟩ 1 none) (List.mem_of_getElem? (i := 3) rfl)) rfl (by rw [hml]; exact hl.1) rfl dX6_init_1 (Nat.le_of_ble_eq_true rfl) (Nat.le_of_ble_eq_true rfl) ?_
  refine W.eq (g2 := F0 m 4 ls []) rfl ?_
  refine lv_aload_n hx hb dX6_init_4 rfl (lv_at hl 0 rfl) ?_
  refine lv_iconst (v := 5) hx hb dX6_init_5 (by decide) ?_
  refine va_newq (N' := 5) hx hb hown (hts (.classLink RX6 9 RX4) (List.mem_of_getElem? (i := 4) rfl)) hN.1 hK hP hD hS hA (by decide) (by decide) (zby_ref (Nat.le_of_ble_eq_true rfl)) (Nat.le_of_ble_eq_true rfl) (Nat.le_of_ble_eq_true rfl) dX6_init_6 (fun qa_82 ck_66 H hK hP hD hS => ?_)
  have hK : va_K D vwCl [(ck_66, .object RX4)] s := hK
  have hP : va_P D vwCl [(h0, .inr (6, [.null, .null, .int 0])), (qa_82, .inl (ck_66, 5, .inr (.inr (.inr (.inr (fun _ => none))))))] H := hP
  have hD : va_D A [(h0, .inr (6, [.null, .null, .int 0])), (qa_82, .inl (ck_66, 5, .inr (.inr (.inr (.inr (fun _ => none))))))] := hD
  refine W.widen (k := 1) (n := 5) (Nat.le_of_ble_eq_true rfl) (Nat.le_of_ble_eq_true rfl) ?_
  refine va_putF (D := D) (ci := 6) (v := .ref qa_82) (ty := (tyX6 1)) (C := RX6) (T := TX6) (N := 3) hx hb hts iuX6_init_X6 tyX6 tyX6_ok nmX6 hown hK hP hD hS 0 rfl rfl 1 (by decide) (hts (.fieldLink RX6 11 "StraitGame$Search" "line" "[LStraitGame$Position;") (List.mem_of_getElem? (i := 5) rfl)) (fun _ h9 => h9) rfl hin rfl (by decide +kernel) rfl rfl (Nat.le_of_ble_eq_true rfl) dX6_init_9 (fun H locs hP hD hS => ?_)
  have hP : va_P D vwCl [(h0, .inr (6, [.null, .ref qa_82, .int 0])), (qa_82, .inl (ck_66, 5, .inr (.inr (.inr (.inr (fun _ => none))))))] H := hP
  have hD : va_D A [(h0, .inr (6, [.null, .ref qa_82, .int 0])), (qa_82, .inl (ck_66, 5, .inr (.inr (.inr (.inr (fun _ => none))))))] := hD
  refine lv_aload_n hx hb dX6_init_12 rfl (lv_at hl 0 rfl) ?_
  refine lv_iconst (v := 0) hx hb dX6_init_13 (by decide) ?_
  refine va_put (D := D) (ci := 6) (v := .int 0) (ty := .int) (C := RX6) (T := TX6) (N := 3) hx hb hts iuX6_init_X6 tyX6 tyX6_ok nmX6 hown hK hP hD hS 0 rfl rfl 2 (by decide) (hts (.fieldLink RX6 17 "StraitGame$Search" "comeTo" "I") (List.mem_of_getElem? (i := 6) rfl)) (fun _ h9 => h9) rfl (by decide +kernel) rfl rfl (Nat.le_of_ble_eq_true rfl) dX6_init_14 (fun H locs hP hD hS => ?_)
  have hP : va_P D vwCl [(h0, .inr (6, [.null, .ref qa_82, .int 0])), (qa_82, .inl (ck_66, 5, .inr (.inr (.inr (.inr (fun _ => none))))))] H := hP
  have hD : va_D A [(h0, .inr (6, [.null, .ref qa_82, .int 0])), (qa_82, .inl (ck_66, 5, .inr (.inr (.inr (.inr (fun _ => none))))))] := hD
  refine lv_aload_n hx hb dX6_init_17 rfl (lv_at hl 0 rfl) ?_
  refine lv_aload_n hx hb dX6_init_18 rfl (lv_at hl 1 rfl) ?_
  refine va_putF (D := D) (ci := 6) (v := .ref r0) (ty := (tyX6 0)) (C := RX6) (T := TX6) (N := 3) hx hb hts iuX6_init_X6 tyX6 tyX6_ok nmX6 hown hK hP hD hS 0 rfl rfl 0 (by decide) (hts (.fieldLink RX6 21 "StraitGame$Search" "laws" "LStraitGame$Laws;") (List.mem_of_getElem? (i := 7) rfl)) (fun _ h9 => h9) rfl hin rfl (by decide +kernel) rfl rfl (Nat.le_of_ble_eq_true rfl) dX6_init_19 (fun H locs hP hD hS => ?_)
  have hP : va_P D vwCl [(h0, .inr (6, [.ref r0, .ref qa_82, .int 0])), (qa_82, .inl (ck_66, 5, .inr (.inr (.inr (.inr (fun _ => none))))))] H := hP
  have hD : va_D A [(h0, .inr (6, [.ref r0, .ref qa_82, .int 0])), (qa_82, .inl (ck_66, 5, .inr (.inr (.inr (.inr (fun _ => none))))))] := hD
  refine lv_iconst (v := 0) hx hb dX6_init_22 (by decide) ?_
  refine lv_istore_n (lv' := [(2, .int 0), (0, .ref h0), (1, .ref r0)]) hx hb dX6_init_23 rfl hl (by decide) rfl (fun ls hl => ?_)
  refine lv_iload_n hx hb dX6_init_24 rfl (lv_at hl 0 rfl) ?_
  refine lv_iconst (v := 4) hx hb dX6_init_25 (by decide) ?_
  refine lv_icmp_gt (tgt := 48) hx hb dX6_init_26 (by decide) (fun h9 => absurd h9 (by decide)) (fun _ => ?_)
  refine lv_aload_n hx hb dX6_init_29 rfl (lv_at hl 1 rfl) ?_
  refine va_get (D := D) (ci := 6) (v := .ref qa_82) (C := RX6) (T := TX6) (N := 3) hx hb hts iuX6_init_X6 hown hK hP 0 rfl rfl 1 (by decide) (hts (.fieldLink RX6 11 "StraitGame$Search" "line" "[LStraitGame$Position;") (List.mem_of_getElem? (i := 5) rfl)) (fun _ h9 => h9) rfl dX6_init_30 ?_
  refine lv_iload_n hx hb dX6_init_33 rfl (lv_at hl 0 rfl) ?_
  refine va_new (ci := 4) (fs := [.int 0, .int 0, .int 0, .int 0, .int 0, .int 0, .int 0]) (C := RX4) (T := TX4) (N := 7) hx hb hts iuX6_init_X4 tyX4 tyX4_ok hown (hts (.classLink RX6 9 RX4) (List.mem_of_getElem? (i := 4) rfl)) (hts (.instantiable RX4 7) (List.mem_of_getElem? (i := 8) rfl)) (hts (.initialized RX4) (List.mem_of_getElem? (i := 9) rfl)) hK hP hD hS hA rfl fsX4 (Nat.le_of_ble_eq_true rfl) (Nat.le_of_ble_eq_true rfl) dX6_init_34 (fun qa_83 H hP hD hS => ?_)
  have hP : va_P D vwCl [(h0, .inr (6, [.ref r0, .ref qa_82, .int 0])), (qa_82, .inl (ck_66, 5, .inr (.inr (.inr (.inr (fun _ => none)))))), (qa_83, .inr (4, [.int 0, .int 0, .int 0, .int 0, .int 0, .int 0, .int 0]))] H := hP
  have hD : va_D A [(h0, .inr (6, [.ref r0, .ref qa_82, .int 0])), (qa_82, .inl (ck_66, 5, .inr (.inr (.inr (.inr (fun _ => none)))))), (qa_83, .inr (4, [.int 0, .int 0, .int 0, .int 0, .int 0, .int 0, .int 0]))] := hD
  refine W.widen (k := 2) (n := 12) (Nat.le_of_ble_eq_true rfl) (Nat.le_of_ble_eq_true rfl) ?_
  refine lv_dup hx hb dX6_init_37 rfl ?_
  refine zA_v (zR_IN (As := []) (rest := [.ref qa_83, .int 0, .ref qa_82]) (host := RX11) ⟨hx, hb, hml, hown, hts⟩ (zX4_init_1 l D qa_83 _) ⟨va_cnB 0 hts gX6_init_X4_init_n25 rfl rfl rfl (hN.2 _ (List.mem_of_getElem? (i := 7) rfl)) (hts (.initialized RX4) (List.mem_of_getElem? (i := 9) rfl)) (by decide +kernel) ⟨(Nat.le_of_ble_eq_true rfl), (Nat.le_of_ble_eq_true rfl)⟩, rfl, (hts (.instanceMethod yX4_init) (List.mem_of_getElem? (i := 10) rfl))⟩ hP hD hK hN [2] [] rfl (by decide) rfl rfl hl.1 rfl (Nat.le_of_ble_eq_true rfl) dX6_init_38 ⟨(Nat.le_of_ble_eq_true rfl), (Nat.le_of_ble_eq_true rfl)⟩) hP hD hK hS hA [2] [0, 1] rfl rfl (by decide) (by decide) (fun u H locs hw hP hD hK hS => ?_)
  have hK : va_K D vwCl [(ck_66, .object RX4)] s := hK
  have hP : va_P D vwCl [(h0, .inr (6, [.ref r0, .ref qa_82, .int 0])), (qa_82, .inl (ck_66, 5, .inr (.inr (.inr (.inr (fun _ => none)))))), (qa_83, .inr (4, [.int 0, .int 0, .int 0, .int 0, .int 0, .int 0, .int 0]))] H := hP
  have hD : va_D A [(h0, .inr (6, [.ref r0, .ref qa_82, .int 0])), (qa_82, .inl (ck_66, 5, .inr (.inr (.inr (.inr (fun _ => none)))))), (qa_83, .inr (4, [.int 0, .int 0, .int 0, .int 0, .int 0, .int 0, .int 0]))] := hD
  refine W.widen (k := 2) (n := 12) (Nat.le_of_ble_eq_true rfl) (Nat.le_of_ble_eq_true rfl) ?_
  refine va_astq (r := (RX4, TX4, 7)) hx hb hK hP hD hS 1 0 2 4 rfl rfl rfl rfl (z_in (by decide)) dX6_init_41 (fun H locs hP hD hS => ?_)
  have hP : va_P D vwCl [(h0, .inr (6, [.ref r0, .ref qa_82, .int 0])), (qa_82, .inl (ck_66, 5, .inr (.inr (.inr (.inr (va_up (fun _ => none) 0 (some qa_83))))))), (qa_83, .inr (4, [.int 0, .int 0, .int 0, .int 0, .int 0, .int 0, .int 0]))] H := hP
  have hD : va_D A [(h0, .inr (6, [.ref r0, .ref qa_82, .int 0])), (qa_82, .inl (ck_66, 5, .inr (.inr (.inr (.inr (va_up (fun _ => none) 0 (some qa_83))))))), (qa_83, .inr (4, [.int 0, .int 0, .int 0, .int 0, .int 0, .int 0, .int 0]))] := hD
  refine lv_iinc (v := 1) (lv' := [(2, .int 1), (0, .ref h0), (1, .ref r0)]) hx hb dX6_init_42 hl (k := 0) rfl (by decide) (by decide) rfl (fun ls hl => ?_)
  refine lv_goto (tgt := 24) hx hb dX6_init_45 (by decide) ?_
  have hloop : ∀ (n k : Nat) (fl_3 : Nat → Option Nat) (H : Heap) (locs : List Loc) (ls : Array Slot), k + n = 5 → 1 ≤ k → fl_3 0 = some qa_83 → va_P D vwCl [(h0, .inr (6, [.ref r0, .ref qa_82, .int 0])), (qa_82, .inl (ck_66, 5, .inr (.inr (.inr (.inr fl_3))))), (qa_83, .inr (4, [.int 0, .int 0, .int 0, .int 0, .int 0, .int 0, .int 0]))] H → va_D A [(h0, .inr (6, [.ref r0, .ref qa_82, .int 0])), (qa_82, .inl (ck_66, 5, .inr (.inr (.inr (.inr fl_3))))), (qa_83, .inr (4, [.int 0, .int 0, .int 0, .int 0, .int 0, .int 0, .int 0]))] → va_S A s.heap H locs → lv_has ls 3 [(2, .int (nI k)), (0, .ref h0), (1, .ref r0)] → (∀ (fl_3 : Nat → Option Nat) (H : Heap) (locs : List Loc) (ls : Array Slot), fl_3 0 = some qa_83 → va_P D vwCl [(h0, .inr (6, [.ref r0, .ref qa_82, .int 0])), (qa_82, .inl (ck_66, 5, .inr (.inr (.inr (.inr fl_3))))), (qa_83, .inr (4, [.int 0, .int 0, .int 0, .int 0, .int 0, .int 0, .int 0]))] H → va_D A [(h0, .inr (6, [.ref r0, .ref qa_82, .int 0])), (qa_82, .inl (ck_66, 5, .inr (.inr (.inr (.inr fl_3))))), (qa_83, .inr (4, [.int 0, .int 0, .int 0, .int 0, .int 0, .int 0, .int 0]))] → va_S A s.heap H locs → lv_has ls 3 [(2, .int 5), (0, .ref h0), (1, .ref r0)] → W p l e ({ frames := 2, cells := 6, slots := 40, locals := 32 }) s m ([.ref h0, .ref r0] : List Value).toArray below meth c H locs 6 40 (MQ below ((fun A => va_Qv (fun (u : Nat × Nat × ClassId × (Nat → Option Nat)) => match u with | (qa_79, qa_80, ck_65, fl_2) => fl_2 0 = some qa_80) (zB D A (fun (u : Nat × Nat × ClassId × (Nat → Option Nat)) => match u with | (qa_79, qa_80, ck_65, fl_2) => [(h0, .inr (6, [.ref r0, .ref qa_79, .int 0])), (qa_79, .inl (ck_65, 5, .inr (.inr (.inr (.inr fl_2))))), (qa_80, .inr (4, [.int 0, .int 0, .int 0, .int 0, .int 0, .int 0, .int 0]))]) (fun (u : Nat × Nat × ClassId × (Nat → Option Nat)) => match u with | (qa_79, qa_80, ck_65, fl_2) => [(ck_65, .object RX4)])) A) A) ([.ref h0, .ref r0] : List Value).toArray s 6 40 A) (F0 m 48 ls [])) → W p l e ({ frames := 2, cells := 6, slots := 40, locals := 32 }) s m ([.ref h0, .ref r0] : List Value).toArray below meth c H locs (2 + 1 * (k - 1)) (12 + 7 * (k - 1)) (MQ below ((fun A => va_Qv (fun (u : Nat × Nat × ClassId × (Nat → Option Nat)) => match u with | (qa_79, qa_80, ck_65, fl_2) => fl_2 0 = some qa_80) (zB D A (fun (u : Nat × Nat × ClassId × (Nat → Option Nat)) => match u with | (qa_79, qa_80, ck_65, fl_2) => [(h0, .inr (6, [.ref r0, .ref qa_79, .int 0])), (qa_79, .inl (ck_65, 5, .inr (.inr (.inr (.inr fl_2))))), (qa_80, .inr (4, [.int 0, .int 0, .int 0, .int 0, .int 0, .int 0, .int 0]))]) (fun (u : Nat × Nat × ClassId × (Nat → Option Nat)) => match u with | (qa_79, qa_80, ck_65, fl_2) => [(ck_65, .object RX4)])) A) A) ([.ref h0, .ref r0] : List Value).toArray s 6 40 A) (F0 m 24 ls []) := by
    intro n
    induction n with
    | zero =>
      intro k fl_3 H locs ls hkn hk0 hfl_fl_3_0 hP hD hS hl hex
      obtain rfl : k = 5 := by omega
      have hl : lv_has ls 3 [(2, .int 5), (0, .ref h0), (1, .ref r0)] := hl
      refine lv_iload_n hx hb dX6_init_24 rfl (lv_at hl 0 rfl) ?_
      refine lv_iconst (v := 4) hx hb dX6_init_25 (by decide) ?_
      refine lv_icmp_gt (tgt := 48) hx hb dX6_init_26 (by decide) (fun _ => ?_) (fun h9 => absurd (by decide) h9)
      refine W.widen (k := 6) (n := 40) (by decide) (by decide) ?_
      exact hex fl_3 H locs ls hfl_fl_3_0 hP hD hS hl
    | succ n ih =>
      intro k fl_3 H locs ls hkn hk0 hfl_fl_3_0 hP hD hS hl hex
      have hkd : 1 ≤ (nI k).toInt ∧ (nI k).toInt ≤ 4 := z_nI (by omega) (by omega) (by decide)
      refine lv_iload_n hx hb dX6_init_24 rfl (lv_at hl 0 rfl) ?_
      refine lv_iconst (v := 4) hx hb dX6_init_25 (by decide) ?_
      refine lv_icmp_gt (tgt := 48) hx hb dX6_init_26 (by decide) (fun h9 => absurd h9 (z_cmp (show ¬ ((4 : Int32) < (nI k)) from by simp only [fa_lt, fa_le, fa_eq, zk_4]; have := hkd; omega))) (fun _ => ?_)
      refine lv_aload_n hx hb dX6_init_29 rfl (lv_at hl 1 rfl) ?_
      refine va_get (D := D) (ci := 6) (v := .ref qa_82) (C := RX6) (T := TX6) (N := 3) hx hb hts iuX6_init_X6 hown hK hP 0 rfl rfl 1 (by decide) (hts (.fieldLink RX6 11 "StraitGame$Search" "line" "[LStraitGame$Position;") (List.mem_of_getElem? (i := 5) rfl)) (fun _ h9 => h9) rfl dX6_init_30 ?_
      refine lv_iload_n hx hb dX6_init_33 rfl (lv_at hl 0 rfl) ?_
      refine va_new (ci := 4) (fs := [.int 0, .int 0, .int 0, .int 0, .int 0, .int 0, .int 0]) (C := RX4) (T := TX4) (N := 7) hx hb hts iuX6_init_X4 tyX4 tyX4_ok hown (hts (.classLink RX6 9 RX4) (List.mem_of_getElem? (i := 4) rfl)) (hts (.instantiable RX4 7) (List.mem_of_getElem? (i := 8) rfl)) (hts (.initialized RX4) (List.mem_of_getElem? (i := 9) rfl)) hK hP hD hS hA rfl fsX4 (by show _ ≤ (6 : Nat); omega) (by show _ ≤ (40 : Nat); omega) dX6_init_34 (fun qa_85 H hP hD hS => ?_)
      have hP : va_P D vwCl [(h0, .inr (6, [.ref r0, .ref qa_82, .int 0])), (qa_82, .inl (ck_66, 5, .inr (.inr (.inr (.inr fl_3))))), (qa_83, .inr (4, [.int 0, .int 0, .int 0, .int 0, .int 0, .int 0, .int 0])), (qa_85, .inr (4, [.int 0, .int 0, .int 0, .int 0, .int 0, .int 0, .int 0]))] H := hP
      have hD : va_D A [(h0, .inr (6, [.ref r0, .ref qa_82, .int 0])), (qa_82, .inl (ck_66, 5, .inr (.inr (.inr (.inr fl_3))))), (qa_83, .inr (4, [.int 0, .int 0, .int 0, .int 0, .int 0, .int 0, .int 0])), (qa_85, .inr (4, [.int 0, .int 0, .int 0, .int 0, .int 0, .int 0, .int 0]))] := hD
      refine lv_dup hx hb dX6_init_37 rfl ?_
      refine zA_v (zR_IN (As := []) (rest := [.ref qa_85, .int (nI k), .ref qa_82]) (host := RX11) ⟨hx, hb, hml, hown, hts⟩ (zX4_init_1 l D qa_85 _) ⟨va_cnB 0 hts gX6_init_X4_init_n25 rfl rfl rfl (hN.2 _ (List.mem_of_getElem? (i := 7) rfl)) (hts (.initialized RX4) (List.mem_of_getElem? (i := 9) rfl)) (by decide +kernel) ⟨(Nat.le_of_ble_eq_true rfl), (Nat.le_of_ble_eq_true rfl)⟩, rfl, (hts (.instanceMethod yX4_init) (List.mem_of_getElem? (i := 10) rfl))⟩ hP hD hK hN [3] [] rfl (by decide) rfl rfl hl.1 rfl (Nat.le_of_ble_eq_true rfl) dX6_init_38 ⟨by show _ ≤ (6 : Nat); omega, by show _ ≤ (40 : Nat); omega⟩) hP hD hK hS hA [3] [0, 1, 2] rfl rfl (by decide) (by decide) (fun u H locs hw hP hD hK hS => ?_)
      have hK : va_K D vwCl [(ck_66, .object RX4)] s := hK
      have hP : va_P D vwCl [(h0, .inr (6, [.ref r0, .ref qa_82, .int 0])), (qa_82, .inl (ck_66, 5, .inr (.inr (.inr (.inr fl_3))))), (qa_83, .inr (4, [.int 0, .int 0, .int 0, .int 0, .int 0, .int 0, .int 0])), (qa_85, .inr (4, [.int 0, .int 0, .int 0, .int 0, .int 0, .int 0, .int 0]))] H := hP
      have hD : va_D A [(h0, .inr (6, [.ref r0, .ref qa_82, .int 0])), (qa_82, .inl (ck_66, 5, .inr (.inr (.inr (.inr fl_3))))), (qa_83, .inr (4, [.int 0, .int 0, .int 0, .int 0, .int 0, .int 0, .int 0])), (qa_85, .inr (4, [.int 0, .int 0, .int 0, .int 0, .int 0, .int 0, .int 0]))] := hD
      refine va_astq (r := (RX4, TX4, 7)) hx hb hK hP hD hS 1 0 3 4 rfl rfl rfl rfl (vp_in_nI (by omega) (by decide)) dX6_init_41 (fun H locs hP hD hS => ?_)
      rw [nI_clamp (by omega : k < 2 ^ 31)] at hP hD
      have hP : va_P D vwCl [(h0, .inr (6, [.ref r0, .ref qa_82, .int 0])), (qa_82, .inl (ck_66, 5, .inr (.inr (.inr (.inr (va_up fl_3 (k) (some qa_85))))))), (qa_83, .inr (4, [.int 0, .int 0, .int 0, .int 0, .int 0, .int 0, .int 0])), (qa_85, .inr (4, [.int 0, .int 0, .int 0, .int 0, .int 0, .int 0, .int 0]))] H := hP
      have hD : va_D A [(h0, .inr (6, [.ref r0, .ref qa_82, .int 0])), (qa_82, .inl (ck_66, 5, .inr (.inr (.inr (.inr (va_up fl_3 (k) (some qa_85))))))), (qa_83, .inr (4, [.int 0, .int 0, .int 0, .int 0, .int 0, .int 0, .int 0])), (qa_85, .inr (4, [.int 0, .int 0, .int 0, .int 0, .int 0, .int 0, .int 0]))] := hD
      refine lv_iinc (v := (nI (k + 1))) (lv' := [(2, .int (nI (k + 1))), (0, .ref h0), (1, .ref r0)]) hx hb dX6_init_42 hl (k := 0) rfl (z_inc k 1) (by decide) rfl (fun ls hl => ?_)
      refine lv_goto (tgt := 24) hx hb dX6_init_45 (by decide) ?_
      refine W.widen (k := (2 + 1 * (k + 1 - 1))) (n := (12 + 7 * (k + 1 - 1))) (by omega) (by omega) ?_
      exact ih (k + 1) _ H locs ls (by omega) (by omega) ((va_up_ne _ _ (by omega)).trans hfl_fl_3_0) (hP.sub [0, 1, 2] rfl) (hD.sub [0, 1, 2] (by decide) rfl) hS (lv_sub hl [0, 1, 2] rfl) hex
  refine W.widen (k := (2 + 1 * (1 - 1))) (n := (12 + 7 * (1 - 1))) (by decide) (by decide) ?_
  refine hloop 4 1 (va_up (fun _ => none) 0 (some qa_83)) H locs ls (by decide) (by decide) rfl hP hD hS (lv_sub hl [0, 1, 2] rfl) (fun fl_3 H locs ls hfl_fl_3_0 hP hD hS hl => ?_)
  have hl : lv_has ls 3 [(2, .int 5), (0, .ref h0), (1, .ref r0)] := hl
  exact zret_v hx hb hr hlocks hP hD hK hS (qa_82, qa_83, ck_66, fl_3) (hfl_fl_3_0) [0, 1, 2] [0] (by decide) rfl rfl (Nat.le_of_ble_eq_true rfl) (Nat.le_of_ble_eq_true rfl) dX6_init_48
set_option maxHeartbeats 4000000 in
set_option maxRecDepth 100000 in
theorem zX3_init_1 (l : Launch) (D : va_G) (h0 r0 : Nat) (sz : Nat) : Met l yX3_init wsX3_init ({ frames := 2, cells := 128, slots := 1759, locals := 32 }) (zPre D [.ref h0, .ref r0] [(h0, .inr (3, [.int 0, .int 0, .null, .null, .null, .null, .null, .null, .null]))] [] sz) ((fun A => va_Qv (fun (u : Nat × Nat × Nat × Nat × Nat × Nat × Nat × Nat × Nat × Nat × ClassId × ClassId × ClassId × ClassId × ClassId × ClassId × (Nat → Option Nat)) => match u with | (qa_98, qa_99, qa_100, qa_101, qa_102, qa_103, qa_104, qa_105, qa_106, qa_107, ck_73, ck_74, ck_75, ck_76, ck_77, ck_78, fl_5) => fl_5 0 = some qa_104 ∧ fl_5 1 = some qa_105 ∧ fl_5 2 = some qa_106 ∧ fl_5 3 = some qa_107) (zB D A (fun (u : Nat × Nat × Nat × Nat × Nat × Nat × Nat × Nat × Nat × Nat × ClassId × ClassId × ClassId × ClassId × ClassId × ClassId × (Nat → Option Nat)) => match u with | (qa_98, qa_99, qa_100, qa_101, qa_102, qa_103, qa_104, qa_105, qa_106, qa_107, ck_73, ck_74, ck_75, ck_76, ck_77, ck_78, fl_5) => [(h0, .inr (3, [.int 0, .int 0, .ref qa_98, .ref qa_99, .ref qa_100, .ref qa_101, .ref r0, .ref qa_102, .ref qa_103])), (qa_98, .inl (ck_73, 240, .inl (fun _ => 0))), (qa_99, .inl (ck_74, 240, .inl (fun _ => 0))), (qa_100, .inl (ck_75, 240, .inl (fun _ => 0))), (qa_101, .inl (ck_76, 60, .inl (fun _ => 0))), (qa_102, .inl (ck_77, 122, .inr (.inr (.inr (.inr fl_5))))), (qa_103, .inl (ck_78, 3, .inl (fun _ => 0))), (qa_104, .inr (4, [.int 0, .int 0, .int 0, .int 0, .int 0, .int 0, .int 0])), (qa_105, .inr (4, [.int 0, .int 0, .int 0, .int 0, .int 0, .int 0, .int 0])), (qa_106, .inr (4, [.int 0, .int 0, .int 0, .int 0, .int 0, .int 0, .int 0])), (qa_107, .inr (4, [.int 0, .int 0, .int 0, .int 0, .int 0, .int 0, .int 0]))]) (fun (u : Nat × Nat × Nat × Nat × Nat × Nat × Nat × Nat × Nat × Nat × ClassId × ClassId × ClassId × ClassId × ClassId × ClassId × (Nat → Option Nat)) => match u with | (qa_98, qa_99, qa_100, qa_101, qa_102, qa_103, qa_104, qa_105, qa_106, qa_107, ck_73, ck_74, ck_75, ck_76, ck_77, ck_78, fl_5) => [(ck_73, .int), (ck_74, .int), (ck_75, .boolean), (ck_76, .boolean), (ck_77, .object RX4), (ck_78, .int)])) A) (va_A [(h0, .inr (3, [.int 0, .int 0, .null, .null, .null, .null, .null, .null, .null]))] sz)) 128 1759 (va_A [(h0, .inr (3, [.int 0, .int 0, .null, .null, .null, .null, .null, .null, .null]))] sz) := by
  refine zOfW (QF := fun A => va_Qv (fun (u : Nat × Nat × Nat × Nat × Nat × Nat × Nat × Nat × Nat × Nat × ClassId × ClassId × ClassId × ClassId × ClassId × ClassId × (Nat → Option Nat)) => match u with | (qa_98, qa_99, qa_100, qa_101, qa_102, qa_103, qa_104, qa_105, qa_106, qa_107, ck_73, ck_74, ck_75, ck_76, ck_77, ck_78, fl_5) => fl_5 0 = some qa_104 ∧ fl_5 1 = some qa_105 ∧ fl_5 2 = some qa_106 ∧ fl_5 3 = some qa_107) (zB D A (fun (u : Nat × Nat × Nat × Nat × Nat × Nat × Nat × Nat × Nat × Nat × ClassId × ClassId × ClassId × ClassId × ClassId × ClassId × (Nat → Option Nat)) => match u with | (qa_98, qa_99, qa_100, qa_101, qa_102, qa_103, qa_104, qa_105, qa_106, qa_107, ck_73, ck_74, ck_75, ck_76, ck_77, ck_78, fl_5) => [(h0, .inr (3, [.int 0, .int 0, .ref qa_98, .ref qa_99, .ref qa_100, .ref qa_101, .ref r0, .ref qa_102, .ref qa_103])), (qa_98, .inl (ck_73, 240, .inl (fun _ => 0))), (qa_99, .inl (ck_74, 240, .inl (fun _ => 0))), (qa_100, .inl (ck_75, 240, .inl (fun _ => 0))), (qa_101, .inl (ck_76, 60, .inl (fun _ => 0))), (qa_102, .inl (ck_77, 122, .inr (.inr (.inr (.inr fl_5))))), (qa_103, .inl (ck_78, 3, .inl (fun _ => 0))), (qa_104, .inr (4, [.int 0, .int 0, .int 0, .int 0, .int 0, .int 0, .int 0])), (qa_105, .inr (4, [.int 0, .int 0, .int 0, .int 0, .int 0, .int 0, .int 0])), (qa_106, .inr (4, [.int 0, .int 0, .int 0, .int 0, .int 0, .int 0, .int 0])), (qa_107, .inr (4, [.int 0, .int 0, .int 0, .int 0, .int 0, .int 0, .int 0]))]) (fun (u : Nat × Nat × Nat × Nat × Nat × Nat × Nat × Nat × Nat × Nat × ClassId × ClassId × ClassId × ClassId × ClassId × ClassId × (Nat → Option Nat)) => match u with | (qa_98, qa_99, qa_100, qa_101, qa_102, qa_103, qa_104, qa_105, qa_106, qa_107, ck_73, ck_74, ck_75, ck_76, ck_77, ck_78, fl_5) => [(ck_73, .int), (ck_74, .int), (ck_75, .boolean), (ck_76, .boolean), (ck_77, .object RX4), (ck_78, .int)])) A) (cc := cX3_init) (maxL := 3) (ret := none) (by decide) rfl (Nat.le_of_ble_eq_true rfl) ?_
  intro p e s m below meth c A ls hx hb hr hml hts hown hlocks hin hA hS hP hD hK hN hl
  have hl : lv_has ls 3 [(0, .ref h0), (1, .ref r0)] := hl
  refine lv_aload_n hx hb dX3_init_0 rfl (lv_at hl 0 rfl) ?_
  refine W.objInit hx hb hown (hts (.methodLink RX3 3 objectInit) (List.mem_of_getElem? (i := 1) rfl)) (hts (.instanceMethod objectInit) (List.mem_of_getElem? (i := 2) rfl)) (hts (.code objectInit ⟨#[0xb1]⟩ 1 none) (List.mem_of_getElem? (i := 3) rfl)) rfl (by rw [hml]; exact hl.1) rfl dX3_init_1 (Nat.le_of_ble_eq_true rfl) (Nat.le_of_ble_eq_true rfl) ?_
  refine W.eq (g2 := F0 m 4 ls []) rfl ?_
  refine lv_aload_n hx hb dX3_init_4 rfl (lv_at hl 0 rfl) ?_
  refine lv_iconst (v := 0) hx hb dX3_init_5 (by decide) ?_
  refine va_put (D := D) (ci := 3) (v := .int 0) (ty := .int) (C := RX3) (T := TX3) (N := 9) hx hb hts iuX3_init_X3 tyX3 tyX3_ok nmX3 hown hK hP hD hS 0 rfl rfl 0 (by decide) (hts (.fieldLink RX3 9 "StraitGame$Nights" "count" "I") (List.mem_of_getElem? (i := 4) rfl)) (fun _ h9 => h9) rfl (by decide +kernel) rfl rfl (Nat.le_of_ble_eq_true rfl) dX3_init_6 (fun H locs hP hD hS => ?_)
  have hP : va_P D vwCl [(h0, .inr (3, [.int 0, .int 0, .null, .null, .null, .null, .null, .null, .null]))] H := hP
  have hD : va_D A [(h0, .inr (3, [.int 0, .int 0, .null, .null, .null, .null, .null, .null, .null]))] := hD
  refine lv_aload_n hx hb dX3_init_9 rfl (lv_at hl 0 rfl) ?_
  refine lv_iconst (v := 0) hx hb dX3_init_10 (by decide) ?_
  refine va_put (D := D) (ci := 3) (v := .int 0) (ty := .int) (C := RX3) (T := TX3) (N := 9) hx hb hts iuX3_init_X3 tyX3 tyX3_ok nmX3 hown hK hP hD hS 0 rfl rfl 1 (by decide) (hts (.fieldLink RX3 15 "StraitGame$Nights" "kept" "I") (List.mem_of_getElem? (i := 5) rfl)) (fun _ h9 => h9) rfl (by decide +kernel) rfl rfl (Nat.le_of_ble_eq_true rfl) dX3_init_11 (fun H locs hP hD hS => ?_)
  have hP : va_P D vwCl [(h0, .inr (3, [.int 0, .int 0, .null, .null, .null, .null, .null, .null, .null]))] H := hP
  have hD : va_D A [(h0, .inr (3, [.int 0, .int 0, .null, .null, .null, .null, .null, .null, .null]))] := hD
  refine lv_aload_n hx hb dX3_init_14 rfl (lv_at hl 0 rfl) ?_
  refine lv_sipush (v := 240) hx hb dX3_init_15 (by decide) ?_
  refine va_newa (atype := .int) (a0 := (240, .inl (fun _ => 0))) (ty := .int) (N' := 240) hx hb (hts (.arrayClass .int) (List.mem_of_getElem? (i := 6) rfl)) rfl hK hP hD hS hA (zarr_int 240) (by decide) (by decide) (zby_int (Nat.le_of_ble_eq_true rfl)) (Nat.le_of_ble_eq_true rfl) (Nat.le_of_ble_eq_true rfl) dX3_init_18 (fun qa_109 ck_79 H hK hP hD hS => ?_)
  have hK : va_K D vwCl [(ck_79, .int)] s := hK
  have hP : va_P D vwCl [(h0, .inr (3, [.int 0, .int 0, .null, .null, .null, .null, .null, .null, .null])), (qa_109, .inl (ck_79, 240, .inl (fun _ => 0)))] H := hP
  have hD : va_D A [(h0, .inr (3, [.int 0, .int 0, .null, .null, .null, .null, .null, .null, .null])), (qa_109, .inl (ck_79, 240, .inl (fun _ => 0)))] := hD
  refine W.widen (k := 1) (n := 240) (Nat.le_of_ble_eq_true rfl) (Nat.le_of_ble_eq_true rfl) ?_
  refine va_putF (D := D) (ci := 3) (v := .ref qa_109) (ty := (tyX3 2)) (C := RX3) (T := TX3) (N := 9) hx hb hts iuX3_init_X3 tyX3 tyX3_ok nmX3 hown hK hP hD hS 0 rfl rfl 2 (by decide) (hts (.fieldLink RX3 18 "StraitGame$Nights" "flasher" "[I") (List.mem_of_getElem? (i := 7) rfl)) (fun _ h9 => h9) rfl hin rfl (by decide +kernel) rfl rfl (Nat.le_of_ble_eq_true rfl) dX3_init_20 (fun H locs hP hD hS => ?_)
  have hP : va_P D vwCl [(h0, .inr (3, [.int 0, .int 0, .ref qa_109, .null, .null, .null, .null, .null, .null])), (qa_109, .inl (ck_79, 240, .inl (fun _ => 0)))] H := hP
  have hD : va_D A [(h0, .inr (3, [.int 0, .int 0, .ref qa_109, .null, .null, .null, .null, .null, .null])), (qa_109, .inl (ck_79, 240, .inl (fun _ => 0)))] := hD
  refine lv_aload_n hx hb dX3_init_23 rfl (lv_at hl 0 rfl) ?_
  refine lv_sipush (v := 240) hx hb dX3_init_24 (by decide) ?_
  refine va_newa (atype := .int) (a0 := (240, .inl (fun _ => 0))) (ty := .int) (N' := 240) hx hb (hts (.arrayClass .int) (List.mem_of_getElem? (i := 6) rfl)) rfl hK hP hD hS hA (zarr_int 240) (by decide) (by decide) (zby_int (Nat.le_of_ble_eq_true rfl)) (Nat.le_of_ble_eq_true rfl) (Nat.le_of_ble_eq_true rfl) dX3_init_27 (fun qa_110 ck_80 H hK hP hD hS => ?_)
  have hK : va_K D vwCl [(ck_79, .int), (ck_80, .int)] s := hK
  have hP : va_P D vwCl [(h0, .inr (3, [.int 0, .int 0, .ref qa_109, .null, .null, .null, .null, .null, .null])), (qa_109, .inl (ck_79, 240, .inl (fun _ => 0))), (qa_110, .inl (ck_80, 240, .inl (fun _ => 0)))] H := hP
  have hD : va_D A [(h0, .inr (3, [.int 0, .int 0, .ref qa_109, .null, .null, .null, .null, .null, .null])), (qa_109, .inl (ck_79, 240, .inl (fun _ => 0))), (qa_110, .inl (ck_80, 240, .inl (fun _ => 0)))] := hD
  refine W.widen (k := 2) (n := 480) (Nat.le_of_ble_eq_true rfl) (Nat.le_of_ble_eq_true rfl) ?_
  refine va_putF (D := D) (ci := 3) (v := .ref qa_110) (ty := (tyX3 3)) (C := RX3) (T := TX3) (N := 9) hx hb hts iuX3_init_X3 tyX3 tyX3_ok nmX3 hown hK hP hD hS 0 rfl rfl 3 (by decide) (hts (.fieldLink RX3 22 "StraitGame$Nights" "number" "[I") (List.mem_of_getElem? (i := 8) rfl)) (fun _ h9 => h9) rfl hin rfl (by decide +kernel) rfl rfl (Nat.le_of_ble_eq_true rfl) dX3_init_29 (fun H locs hP hD hS => ?_)
  have hP : va_P D vwCl [(h0, .inr (3, [.int 0, .int 0, .ref qa_109, .ref qa_110, .null, .null, .null, .null, .null])), (qa_109, .inl (ck_79, 240, .inl (fun _ => 0))), (qa_110, .inl (ck_80, 240, .inl (fun _ => 0)))] H := hP
  have hD : va_D A [(h0, .inr (3, [.int 0, .int 0, .ref qa_109, .ref qa_110, .null, .null, .null, .null, .null])), (qa_109, .inl (ck_79, 240, .inl (fun _ => 0))), (qa_110, .inl (ck_80, 240, .inl (fun _ => 0)))] := hD
  refine lv_aload_n hx hb dX3_init_32 rfl (lv_at hl 0 rfl) ?_
  refine lv_sipush (v := 240) hx hb dX3_init_33 (by decide) ?_
  refine va_newa (atype := .boolean) (a0 := (240, .inl (fun _ => 0))) (ty := .boolean) (N' := 240) hx hb (hts (.arrayClass .boolean) (List.mem_of_getElem? (i := 9) rfl)) rfl hK hP hD hS hA (zarr_boolean 240) (by decide) (by decide) (zby_boolean (Nat.le_of_ble_eq_true rfl)) (Nat.le_of_ble_eq_true rfl) (Nat.le_of_ble_eq_true rfl) dX3_init_36 (fun qa_111 ck_81 H hK hP hD hS => ?_)
  have hK : va_K D vwCl [(ck_79, .int), (ck_80, .int), (ck_81, .boolean)] s := hK
  have hP : va_P D vwCl [(h0, .inr (3, [.int 0, .int 0, .ref qa_109, .ref qa_110, .null, .null, .null, .null, .null])), (qa_109, .inl (ck_79, 240, .inl (fun _ => 0))), (qa_110, .inl (ck_80, 240, .inl (fun _ => 0))), (qa_111, .inl (ck_81, 240, .inl (fun _ => 0)))] H := hP
  have hD : va_D A [(h0, .inr (3, [.int 0, .int 0, .ref qa_109, .ref qa_110, .null, .null, .null, .null, .null])), (qa_109, .inl (ck_79, 240, .inl (fun _ => 0))), (qa_110, .inl (ck_80, 240, .inl (fun _ => 0))), (qa_111, .inl (ck_81, 240, .inl (fun _ => 0)))] := hD
  refine W.widen (k := 3) (n := 720) (Nat.le_of_ble_eq_true rfl) (Nat.le_of_ble_eq_true rfl) ?_
  refine va_putF (D := D) (ci := 3) (v := .ref qa_111) (ty := (tyX3 4)) (C := RX3) (T := TX3) (N := 9) hx hb hts iuX3_init_X3 tyX3 tyX3_ok nmX3 hown hK hP hD hS 0 rfl rfl 4 (by decide) (hts (.fieldLink RX3 25 "StraitGame$Nights" "heard" "[Z") (List.mem_of_getElem? (i := 10) rfl)) (fun _ h9 => h9) rfl hin rfl (by decide +kernel) rfl rfl (Nat.le_of_ble_eq_true rfl) dX3_init_38 (fun H locs hP hD hS => ?_)
  have hP : va_P D vwCl [(h0, .inr (3, [.int 0, .int 0, .ref qa_109, .ref qa_110, .ref qa_111, .null, .null, .null, .null])), (qa_109, .inl (ck_79, 240, .inl (fun _ => 0))), (qa_110, .inl (ck_80, 240, .inl (fun _ => 0))), (qa_111, .inl (ck_81, 240, .inl (fun _ => 0)))] H := hP
  have hD : va_D A [(h0, .inr (3, [.int 0, .int 0, .ref qa_109, .ref qa_110, .ref qa_111, .null, .null, .null, .null])), (qa_109, .inl (ck_79, 240, .inl (fun _ => 0))), (qa_110, .inl (ck_80, 240, .inl (fun _ => 0))), (qa_111, .inl (ck_81, 240, .inl (fun _ => 0)))] := hD
  refine lv_aload_n hx hb dX3_init_41 rfl (lv_at hl 0 rfl) ?_
  refine lv_bipush (v := 60) hx hb dX3_init_42 (by decide) ?_
  refine va_newa (atype := .boolean) (a0 := (60, .inl (fun _ => 0))) (ty := .boolean) (N' := 60) hx hb (hts (.arrayClass .boolean) (List.mem_of_getElem? (i := 9) rfl)) rfl hK hP hD hS hA (zarr_boolean 60) (by decide) (by decide) (zby_boolean (Nat.le_of_ble_eq_true rfl)) (Nat.le_of_ble_eq_true rfl) (Nat.le_of_ble_eq_true rfl) dX3_init_44 (fun qa_112 ck_82 H hK hP hD hS => ?_)
  have hK : va_K D vwCl [(ck_79, .int), (ck_80, .int), (ck_81, .boolean), (ck_82, .boolean)] s := hK
  have hP : va_P D vwCl [(h0, .inr (3, [.int 0, .int 0, .ref qa_109, .ref qa_110, .ref qa_111, .null, .null, .null, .null])), (qa_109, .inl (ck_79, 240, .inl (fun _ => 0))), (qa_110, .inl (ck_80, 240, .inl (fun _ => 0))), (qa_111, .inl (ck_81, 240, .inl (fun _ => 0))), (qa_112, .inl (ck_82, 60, .inl (fun _ => 0)))] H := hP
  have hD : va_D A [(h0, .inr (3, [.int 0, .int 0, .ref qa_109, .ref qa_110, .ref qa_111, .null, .null, .null, .null])), (qa_109, .inl (ck_79, 240, .inl (fun _ => 0))), (qa_110, .inl (ck_80, 240, .inl (fun _ => 0))), (qa_111, .inl (ck_81, 240, .inl (fun _ => 0))), (qa_112, .inl (ck_82, 60, .inl (fun _ => 0)))] := hD
  refine W.widen (k := 4) (n := 780) (Nat.le_of_ble_eq_true rfl) (Nat.le_of_ble_eq_true rfl) ?_
  refine va_putF (D := D) (ci := 3) (v := .ref qa_112) (ty := (tyX3 5)) (C := RX3) (T := TX3) (N := 9) hx hb hts iuX3_init_X3 tyX3 tyX3_ok nmX3 hown hK hP hD hS 0 rfl rfl 5 (by decide) (hts (.fieldLink RX3 29 "StraitGame$Nights" "noticed" "[Z") (List.mem_of_getElem? (i := 11) rfl)) (fun _ h9 => h9) rfl hin rfl (by decide +kernel) rfl rfl (Nat.le_of_ble_eq_true rfl) dX3_init_46 (fun H locs hP hD hS => ?_)
  have hP : va_P D vwCl [(h0, .inr (3, [.int 0, .int 0, .ref qa_109, .ref qa_110, .ref qa_111, .ref qa_112, .null, .null, .null])), (qa_109, .inl (ck_79, 240, .inl (fun _ => 0))), (qa_110, .inl (ck_80, 240, .inl (fun _ => 0))), (qa_111, .inl (ck_81, 240, .inl (fun _ => 0))), (qa_112, .inl (ck_82, 60, .inl (fun _ => 0)))] H := hP
  have hD : va_D A [(h0, .inr (3, [.int 0, .int 0, .ref qa_109, .ref qa_110, .ref qa_111, .ref qa_112, .null, .null, .null])), (qa_109, .inl (ck_79, 240, .inl (fun _ => 0))), (qa_110, .inl (ck_80, 240, .inl (fun _ => 0))), (qa_111, .inl (ck_81, 240, .inl (fun _ => 0))), (qa_112, .inl (ck_82, 60, .inl (fun _ => 0)))] := hD
  refine lv_aload_n hx hb dX3_init_49 rfl (lv_at hl 0 rfl) ?_
  refine lv_bipush (v := 122) hx hb dX3_init_50 (by decide) ?_
  refine va_newq (N' := 122) hx hb hown (hts (.classLink RX3 32 RX4) (List.mem_of_getElem? (i := 12) rfl)) hN.1 hK hP hD hS hA (by decide) (by decide) (zby_ref (Nat.le_of_ble_eq_true rfl)) (Nat.le_of_ble_eq_true rfl) (Nat.le_of_ble_eq_true rfl) dX3_init_52 (fun qa_113 ck_83 H hK hP hD hS => ?_)
  have hK : va_K D vwCl [(ck_79, .int), (ck_80, .int), (ck_81, .boolean), (ck_82, .boolean), (ck_83, .object RX4)] s := hK
  have hP : va_P D vwCl [(h0, .inr (3, [.int 0, .int 0, .ref qa_109, .ref qa_110, .ref qa_111, .ref qa_112, .null, .null, .null])), (qa_109, .inl (ck_79, 240, .inl (fun _ => 0))), (qa_110, .inl (ck_80, 240, .inl (fun _ => 0))), (qa_111, .inl (ck_81, 240, .inl (fun _ => 0))), (qa_112, .inl (ck_82, 60, .inl (fun _ => 0))), (qa_113, .inl (ck_83, 122, .inr (.inr (.inr (.inr (fun _ => none))))))] H := hP
  have hD : va_D A [(h0, .inr (3, [.int 0, .int 0, .ref qa_109, .ref qa_110, .ref qa_111, .ref qa_112, .null, .null, .null])), (qa_109, .inl (ck_79, 240, .inl (fun _ => 0))), (qa_110, .inl (ck_80, 240, .inl (fun _ => 0))), (qa_111, .inl (ck_81, 240, .inl (fun _ => 0))), (qa_112, .inl (ck_82, 60, .inl (fun _ => 0))), (qa_113, .inl (ck_83, 122, .inr (.inr (.inr (.inr (fun _ => none))))))] := hD
  refine W.widen (k := 5) (n := 902) (Nat.le_of_ble_eq_true rfl) (Nat.le_of_ble_eq_true rfl) ?_
  refine va_putF (D := D) (ci := 3) (v := .ref qa_113) (ty := (tyX3 7)) (C := RX3) (T := TX3) (N := 9) hx hb hts iuX3_init_X3 tyX3 tyX3_ok nmX3 hown hK hP hD hS 0 rfl rfl 7 (by decide) (hts (.fieldLink RX3 34 "StraitGame$Nights" "boards" "[LStraitGame$Position;") (List.mem_of_getElem? (i := 13) rfl)) (fun _ h9 => h9) rfl hin rfl (by decide +kernel) rfl rfl (Nat.le_of_ble_eq_true rfl) dX3_init_55 (fun H locs hP hD hS => ?_)
  have hP : va_P D vwCl [(h0, .inr (3, [.int 0, .int 0, .ref qa_109, .ref qa_110, .ref qa_111, .ref qa_112, .null, .ref qa_113, .null])), (qa_109, .inl (ck_79, 240, .inl (fun _ => 0))), (qa_110, .inl (ck_80, 240, .inl (fun _ => 0))), (qa_111, .inl (ck_81, 240, .inl (fun _ => 0))), (qa_112, .inl (ck_82, 60, .inl (fun _ => 0))), (qa_113, .inl (ck_83, 122, .inr (.inr (.inr (.inr (fun _ => none))))))] H := hP
  have hD : va_D A [(h0, .inr (3, [.int 0, .int 0, .ref qa_109, .ref qa_110, .ref qa_111, .ref qa_112, .null, .ref qa_113, .null])), (qa_109, .inl (ck_79, 240, .inl (fun _ => 0))), (qa_110, .inl (ck_80, 240, .inl (fun _ => 0))), (qa_111, .inl (ck_81, 240, .inl (fun _ => 0))), (qa_112, .inl (ck_82, 60, .inl (fun _ => 0))), (qa_113, .inl (ck_83, 122, .inr (.inr (.inr (.inr (fun _ => none))))))] := hD
  refine lv_aload_n hx hb dX3_init_58 rfl (lv_at hl 0 rfl) ?_
  refine lv_iconst (v := 3) hx hb dX3_init_59 (by decide) ?_
  refine va_newa (atype := .int) (a0 := (3, .inl (fun _ => 0))) (ty := .int) (N' := 3) hx hb (hts (.arrayClass .int) (List.mem_of_getElem? (i := 6) rfl)) rfl hK hP hD hS hA (zarr_int 3) (by decide) (by decide) (zby_int (Nat.le_of_ble_eq_true rfl)) (Nat.le_of_ble_eq_true rfl) (Nat.le_of_ble_eq_true rfl) dX3_init_60 (fun qa_114 ck_84 H hK hP hD hS => ?_)
  have hK : va_K D vwCl [(ck_79, .int), (ck_80, .int), (ck_81, .boolean), (ck_82, .boolean), (ck_83, .object RX4), (ck_84, .int)] s := hK
  have hP : va_P D vwCl [(h0, .inr (3, [.int 0, .int 0, .ref qa_109, .ref qa_110, .ref qa_111, .ref qa_112, .null, .ref qa_113, .null])), (qa_109, .inl (ck_79, 240, .inl (fun _ => 0))), (qa_110, .inl (ck_80, 240, .inl (fun _ => 0))), (qa_111, .inl (ck_81, 240, .inl (fun _ => 0))), (qa_112, .inl (ck_82, 60, .inl (fun _ => 0))), (qa_113, .inl (ck_83, 122, .inr (.inr (.inr (.inr (fun _ => none)))))), (qa_114, .inl (ck_84, 3, .inl (fun _ => 0)))] H := hP
  have hD : va_D A [(h0, .inr (3, [.int 0, .int 0, .ref qa_109, .ref qa_110, .ref qa_111, .ref qa_112, .null, .ref qa_113, .null])), (qa_109, .inl (ck_79, 240, .inl (fun _ => 0))), (qa_110, .inl (ck_80, 240, .inl (fun _ => 0))), (qa_111, .inl (ck_81, 240, .inl (fun _ => 0))), (qa_112, .inl (ck_82, 60, .inl (fun _ => 0))), (qa_113, .inl (ck_83, 122, .inr (.inr (.inr (.inr (fun _ => none)))))), (qa_114, .inl (ck_84, 3, .inl (fun _ => 0)))] := hD
  refine W.widen (k := 6) (n := 905) (Nat.le_of_ble_eq_true rfl) (Nat.le_of_ble_eq_true rfl) ?_
  refine va_putF (D := D) (ci := 3) (v := .ref qa_114) (ty := (tyX3 8)) (C := RX3) (T := TX3) (N := 9) hx hb hts iuX3_init_X3 tyX3 tyX3_ok nmX3 hown hK hP hD hS 0 rfl rfl 8 (by decide) (hts (.fieldLink RX3 38 "StraitGame$Nights" "boxCount" "[I") (List.mem_of_getElem? (i := 14) rfl)) (fun _ h9 => h9) rfl hin rfl (by decide +kernel) rfl rfl (Nat.le_of_ble_eq_true rfl) dX3_init_62 (fun H locs hP hD hS => ?_)
  have hP : va_P D vwCl [(h0, .inr (3, [.int 0, .int 0, .ref qa_109, .ref qa_110, .ref qa_111, .ref qa_112, .null, .ref qa_113, .ref qa_114])), (qa_109, .inl (ck_79, 240, .inl (fun _ => 0))), (qa_110, .inl (ck_80, 240, .inl (fun _ => 0))), (qa_111, .inl (ck_81, 240, .inl (fun _ => 0))), (qa_112, .inl (ck_82, 60, .inl (fun _ => 0))), (qa_113, .inl (ck_83, 122, .inr (.inr (.inr (.inr (fun _ => none)))))), (qa_114, .inl (ck_84, 3, .inl (fun _ => 0)))] H := hP
  have hD : va_D A [(h0, .inr (3, [.int 0, .int 0, .ref qa_109, .ref qa_110, .ref qa_111, .ref qa_112, .null, .ref qa_113, .ref qa_114])), (qa_109, .inl (ck_79, 240, .inl (fun _ => 0))), (qa_110, .inl (ck_80, 240, .inl (fun _ => 0))), (qa_111, .inl (ck_81, 240, .inl (fun _ => 0))), (qa_112, .inl (ck_82, 60, .inl (fun _ => 0))), (qa_113, .inl (ck_83, 122, .inr (.inr (.inr (.inr (fun _ => none)))))), (qa_114, .inl (ck_84, 3, .inl (fun _ => 0)))] := hD
  refine lv_aload_n hx hb dX3_init_65 rfl (lv_at hl 0 rfl) ?_
  refine lv_aload_n hx hb dX3_init_66 rfl (lv_at hl 1 rfl) ?_
  refine va_putF (D := D) (ci := 3) (v := .ref r0) (ty := (tyX3 6)) (C := RX3) (T := TX3) (N := 9) hx hb hts iuX3_init_X3 tyX3 tyX3_ok nmX3 hown hK hP hD hS 0 rfl rfl 6 (by decide) (hts (.fieldLink RX3 41 "StraitGame$Nights" "laws" "LStraitGame$Laws;") (List.mem_of_getElem? (i := 15) rfl)) (fun _ h9 => h9) rfl hin rfl (by decide +kernel) rfl rfl (Nat.le_of_ble_eq_true rfl) dX3_init_67 (fun H locs hP hD hS => ?_)
  have hP : va_P D vwCl [(h0, .inr (3, [.int 0, .int 0, .ref qa_109, .ref qa_110, .ref qa_111, .ref qa_112, .ref r0, .ref qa_113, .ref qa_114])), (qa_109, .inl (ck_79, 240, .inl (fun _ => 0))), (qa_110, .inl (ck_80, 240, .inl (fun _ => 0))), (qa_111, .inl (ck_81, 240, .inl (fun _ => 0))), (qa_112, .inl (ck_82, 60, .inl (fun _ => 0))), (qa_113, .inl (ck_83, 122, .inr (.inr (.inr (.inr (fun _ => none)))))), (qa_114, .inl (ck_84, 3, .inl (fun _ => 0)))] H := hP
  have hD : va_D A [(h0, .inr (3, [.int 0, .int 0, .ref qa_109, .ref qa_110, .ref qa_111, .ref qa_112, .ref r0, .ref qa_113, .ref qa_114])), (qa_109, .inl (ck_79, 240, .inl (fun _ => 0))), (qa_110, .inl (ck_80, 240, .inl (fun _ => 0))), (qa_111, .inl (ck_81, 240, .inl (fun _ => 0))), (qa_112, .inl (ck_82, 60, .inl (fun _ => 0))), (qa_113, .inl (ck_83, 122, .inr (.inr (.inr (.inr (fun _ => none)))))), (qa_114, .inl (ck_84, 3, .inl (fun _ => 0)))] := hD
  refine lv_iconst (v := 0) hx hb dX3_init_70 (by decide) ?_
  refine lv_istore_n (lv' := [(2, .int 0), (0, .ref h0), (1, .ref r0)]) hx hb dX3_init_71 rfl hl (by decide) rfl (fun ls hl => ?_)
  refine lv_iload_n hx hb dX3_init_72 rfl (lv_at hl 0 rfl) ?_
  refine lv_aload_n hx hb dX3_init_73 rfl (lv_at hl 1 rfl) ?_
  refine va_get (D := D) (ci := 3) (v := .ref qa_113) (C := RX3) (T := TX3) (N := 9) hx hb hts iuX3_init_X3 hown hK hP 0 rfl rfl 7 (by decide) (hts (.fieldLink RX3 34 "StraitGame$Nights" "boards" "[LStraitGame$Position;") (List.mem_of_getElem? (i := 13) rfl)) (fun _ h9 => h9) rfl dX3_init_74 ?_
  refine va_alen (v := 122) hx hb hK hP 5 4 rfl rfl rfl dX3_init_77 ?_
  refine lv_icmp_ge (tgt := 100) hx hb dX3_init_78 (by decide) (fun h9 => absurd h9 (by decide)) (fun _ => ?_)
  refine lv_aload_n hx hb dX3_init_81 rfl (lv_at hl 1 rfl) ?_
  refine va_get (D := D) (ci := 3) (v := .ref qa_113) (C := RX3) (T := TX3) (N := 9) hx hb hts iuX3_init_X3 hown hK hP 0 rfl rfl 7 (by decide) (hts (.fieldLink RX3 34 "StraitGame$Nights" "boards" "[LStraitGame$Position;") (List.mem_of_getElem? (i := 13) rfl)) (fun _ h9 => h9) rfl dX3_init_82 ?_
  refine lv_iload_n hx hb dX3_init_85 rfl (lv_at hl 0 rfl) ?_
  refine va_new (ci := 4) (fs := [.int 0, .int 0, .int 0, .int 0, .int 0, .int 0, .int 0]) (C := RX4) (T := TX4) (N := 7) hx hb hts iuX3_init_X4 tyX4 tyX4_ok hown (hts (.classLink RX3 32 RX4) (List.mem_of_getElem? (i := 12) rfl)) (hts (.instantiable RX4 7) (List.mem_of_getElem? (i := 16) rfl)) (hts (.initialized RX4) (List.mem_of_getElem? (i := 17) rfl)) hK hP hD hS hA rfl fsX4 (Nat.le_of_ble_eq_true rfl) (Nat.le_of_ble_eq_true rfl) dX3_init_86 (fun qa_115 H hP hD hS => ?_)
  have hP : va_P D vwCl [(h0, .inr (3, [.int 0, .int 0, .ref qa_109, .ref qa_110, .ref qa_111, .ref qa_112, .ref r0, .ref qa_113, .ref qa_114])), (qa_109, .inl (ck_79, 240, .inl (fun _ => 0))), (qa_110, .inl (ck_80, 240, .inl (fun _ => 0))), (qa_111, .inl (ck_81, 240, .inl (fun _ => 0))), (qa_112, .inl (ck_82, 60, .inl (fun _ => 0))), (qa_113, .inl (ck_83, 122, .inr (.inr (.inr (.inr (fun _ => none)))))), (qa_114, .inl (ck_84, 3, .inl (fun _ => 0))), (qa_115, .inr (4, [.int 0, .int 0, .int 0, .int 0, .int 0, .int 0, .int 0]))] H := hP
  have hD : va_D A [(h0, .inr (3, [.int 0, .int 0, .ref qa_109, .ref qa_110, .ref qa_111, .ref qa_112, .ref r0, .ref qa_113, .ref qa_114])), (qa_109, .inl (ck_79, 240, .inl (fun _ => 0))), (qa_110, .inl (ck_80, 240, .inl (fun _ => 0))), (qa_111, .inl (ck_81, 240, .inl (fun _ => 0))), (qa_112, .inl (ck_82, 60, .inl (fun _ => 0))), (qa_113, .inl (ck_83, 122, .inr (.inr (.inr (.inr (fun _ => none)))))), (qa_114, .inl (ck_84, 3, .inl (fun _ => 0))), (qa_115, .inr (4, [.int 0, .int 0, .int 0, .int 0, .int 0, .int 0, .int 0]))] := hD
  refine W.widen (k := 7) (n := 912) (Nat.le_of_ble_eq_true rfl) (Nat.le_of_ble_eq_true rfl) ?_
  refine lv_dup hx hb dX3_init_89 rfl ?_
  refine zA_v (zR_IN (As := []) (rest := [.ref qa_115, .int 0, .ref qa_113]) (host := RX11) ⟨hx, hb, hml, hown, hts⟩ (zX4_init_1 l D qa_115 _) ⟨va_cnB 0 hts gX3_init_X4_init_n45 rfl rfl rfl (hN.2 _ (List.mem_of_getElem? (i := 6) rfl)) (hts (.initialized RX4) (List.mem_of_getElem? (i := 17) rfl)) (by decide +kernel) ⟨(Nat.le_of_ble_eq_true rfl), (Nat.le_of_ble_eq_true rfl)⟩, rfl, (hts (.instanceMethod yX4_init) (List.mem_of_getElem? (i := 18) rfl))⟩ hP hD hK hN [7] [] rfl (by decide) rfl rfl hl.1 rfl (Nat.le_of_ble_eq_true rfl) dX3_init_90 ⟨(Nat.le_of_ble_eq_true rfl), (Nat.le_of_ble_eq_true rfl)⟩) hP hD hK hS hA [7] [0, 1, 2, 3, 4, 5, 6] rfl rfl (by decide) (by decide) (fun u H locs hw hP hD hK hS => ?_)
  have hK : va_K D vwCl [(ck_79, .int), (ck_80, .int), (ck_81, .boolean), (ck_82, .boolean), (ck_83, .object RX4), (ck_84, .int)] s := hK
  have hP : va_P D vwCl [(h0, .inr (3, [.int 0, .int 0, .ref qa_109, .ref qa_110, .ref qa_111, .ref qa_112, .ref r0, .ref qa_113, .ref qa_114])), (qa_109, .inl (ck_79, 240, .inl (fun _ => 0))), (qa_110, .inl (ck_80, 240, .inl (fun _ => 0))), (qa_111, .inl (ck_81, 240, .inl (fun _ => 0))), (qa_112, .inl (ck_82, 60, .inl (fun _ => 0))), (qa_113, .inl (ck_83, 122, .inr (.inr (.inr (.inr (fun _ => none)))))), (qa_114, .inl (ck_84, 3, .inl (fun _ => 0))), (qa_115, .inr (4, [.int 0, .int 0, .int 0, .int 0, .int 0, .int 0, .int 0]))] H := hP
  have hD : va_D A [(h0, .inr (3, [.int 0, .int 0, .ref qa_109, .ref qa_110, .ref qa_111, .ref qa_112, .ref r0, .ref qa_113, .ref qa_114])), (qa_109, .inl (ck_79, 240, .inl (fun _ => 0))), (qa_110, .inl (ck_80, 240, .inl (fun _ => 0))), (qa_111, .inl (ck_81, 240, .inl (fun _ => 0))), (qa_112, .inl (ck_82, 60, .inl (fun _ => 0))), (qa_113, .inl (ck_83, 122, .inr (.inr (.inr (.inr (fun _ => none)))))), (qa_114, .inl (ck_84, 3, .inl (fun _ => 0))), (qa_115, .inr (4, [.int 0, .int 0, .int 0, .int 0, .int 0, .int 0, .int 0]))] := hD
  refine W.widen (k := 7) (n := 912) (Nat.le_of_ble_eq_true rfl) (Nat.le_of_ble_eq_true rfl) ?_
  refine va_astq (r := (RX4, TX4, 7)) hx hb hK hP hD hS 5 4 7 4 rfl rfl rfl rfl (z_in (by decide)) dX3_init_93 (fun H locs hP hD hS => ?_)
  have hP : va_P D vwCl [(h0, .inr (3, [.int 0, .int 0, .ref qa_109, .ref qa_110, .ref qa_111, .ref qa_112, .ref r0, .ref qa_113, .ref qa_114])), (qa_109, .inl (ck_79, 240, .inl (fun _ => 0))), (qa_110, .inl (ck_80, 240, .inl (fun _ => 0))), (qa_111, .inl (ck_81, 240, .inl (fun _ => 0))), (qa_112, .inl (ck_82, 60, .inl (fun _ => 0))), (qa_113, .inl (ck_83, 122, .inr (.inr (.inr (.inr (va_up (fun _ => none) 0 (some qa_115))))))), (qa_114, .inl (ck_84, 3, .inl (fun _ => 0))), (qa_115, .inr (4, [.int 0, .int 0, .int 0, .int 0, .int 0, .int 0, .int 0]))] H := hP
  have hD : va_D A [(h0, .inr (3, [.int 0, .int 0, .ref qa_109, .ref qa_110, .ref qa_111, .ref qa_112, .ref r0, .ref qa_113, .ref qa_114])), (qa_109, .inl (ck_79, 240, .inl (fun _ => 0))), (qa_110, .inl (ck_80, 240, .inl (fun _ => 0))), (qa_111, .inl (ck_81, 240, .inl (fun _ => 0))), (qa_112, .inl (ck_82, 60, .inl (fun _ => 0))), (qa_113, .inl (ck_83, 122, .inr (.inr (.inr (.inr (va_up (fun _ => none) 0 (some qa_115))))))), (qa_114, .inl (ck_84, 3, .inl (fun _ => 0))), (qa_115, .inr (4, [.int 0, .int 0, .int 0, .int 0, .int 0, .int 0, .int 0]))] := hD
  refine lv_iinc (v := 1) (lv' := [(2, .int 1), (0, .ref h0), (1, .ref r0)]) hx hb dX3_init_94 hl (k := 0) rfl (by decide) (by decide) rfl (fun ls hl => ?_)
  refine lv_goto (tgt := 72) hx hb dX3_init_97 (by decide) ?_
  refine lv_iload_n hx hb dX3_init_72 rfl (lv_at hl 0 rfl) ?_
  refine lv_aload_n hx hb dX3_init_73 rfl (lv_at hl 1 rfl) ?_
  refine va_get (D := D) (ci := 3) (v := .ref qa_113) (C := RX3) (T := TX3) (N := 9) hx hb hts iuX3_init_X3 hown hK hP 0 rfl rfl 7 (by decide) (hts (.fieldLink RX3 34 "StraitGame$Nights" "boards" "[LStraitGame$Position;") (List.mem_of_getElem? (i := 13) rfl)) (fun _ h9 => h9) rfl dX3_init_74 ?_
  refine va_alen (v := 122) hx hb hK hP 5 4 rfl rfl rfl dX3_init_77 ?_
  refine lv_icmp_ge (tgt := 100) hx hb dX3_init_78 (by decide) (fun h9 => absurd h9 (by decide)) (fun _ => ?_)
  refine lv_aload_n hx hb dX3_init_81 rfl (lv_at hl 1 rfl) ?_
  refine va_get (D := D) (ci := 3) (v := .ref qa_113) (C := RX3) (T := TX3) (N := 9) hx hb hts iuX3_init_X3 hown hK hP 0 rfl rfl 7 (by decide) (hts (.fieldLink RX3 34 "StraitGame$Nights" "boards" "[LStraitGame$Position;") (List.mem_of_getElem? (i := 13) rfl)) (fun _ h9 => h9) rfl dX3_init_82 ?_
  refine lv_iload_n hx hb dX3_init_85 rfl (lv_at hl 0 rfl) ?_
  refine va_new (ci := 4) (fs := [.int 0, .int 0, .int 0, .int 0, .int 0, .int 0, .int 0]) (C := RX4) (T := TX4) (N := 7) hx hb hts iuX3_init_X4 tyX4 tyX4_ok hown (hts (.classLink RX3 32 RX4) (List.mem_of_getElem? (i := 12) rfl)) (hts (.instantiable RX4 7) (List.mem_of_getElem? (i := 16) rfl)) (hts (.initialized RX4) (List.mem_of_getElem? (i := 17) rfl)) hK hP hD hS hA rfl fsX4 (Nat.le_of_ble_eq_true rfl) (Nat.le_of_ble_eq_true rfl) dX3_init_86 (fun qa_116 H hP hD hS => ?_)
  have hP : va_P D vwCl [(h0, .inr (3, [.int 0, .int 0, .ref qa_109, .ref qa_110, .ref qa_111, .ref qa_112, .ref r0, .ref qa_113, .ref qa_114])), (qa_109, .inl (ck_79, 240, .inl (fun _ => 0))), (qa_110, .inl (ck_80, 240, .inl (fun _ => 0))), (qa_111, .inl (ck_81, 240, .inl (fun _ => 0))), (qa_112, .inl (ck_82, 60, .inl (fun _ => 0))), (qa_113, .inl (ck_83, 122, .inr (.inr (.inr (.inr (va_up (fun _ => none) 0 (some qa_115))))))), (qa_114, .inl (ck_84, 3, .inl (fun _ => 0))), (qa_115, .inr (4, [.int 0, .int 0, .int 0, .int 0, .int 0, .int 0, .int 0])), (qa_116, .inr (4, [.int 0, .int 0, .int 0, .int 0, .int 0, .int 0, .int 0]))] H := hP
  have hD : va_D A [(h0, .inr (3, [.int 0, .int 0, .ref qa_109, .ref qa_110, .ref qa_111, .ref qa_112, .ref r0, .ref qa_113, .ref qa_114])), (qa_109, .inl (ck_79, 240, .inl (fun _ => 0))), (qa_110, .inl (ck_80, 240, .inl (fun _ => 0))), (qa_111, .inl (ck_81, 240, .inl (fun _ => 0))), (qa_112, .inl (ck_82, 60, .inl (fun _ => 0))), (qa_113, .inl (ck_83, 122, .inr (.inr (.inr (.inr (va_up (fun _ => none) 0 (some qa_115))))))), (qa_114, .inl (ck_84, 3, .inl (fun _ => 0))), (qa_115, .inr (4, [.int 0, .int 0, .int 0, .int 0, .int 0, .int 0, .int 0])), (qa_116, .inr (4, [.int 0, .int 0, .int 0, .int 0, .int 0, .int 0, .int 0]))] := hD
  refine W.widen (k := 8) (n := 919) (Nat.le_of_ble_eq_true rfl) (Nat.le_of_ble_eq_true rfl) ?_
  refine lv_dup hx hb dX3_init_89 rfl ?_
  refine zA_v (zR_IN (As := []) (rest := [.ref qa_116, .int 1, .ref qa_113]) (host := RX11) ⟨hx, hb, hml, hown, hts⟩ (zX4_init_1 l D qa_116 _) ⟨va_cnB 0 hts gX3_init_X4_init_n45 rfl rfl rfl (hN.2 _ (List.mem_of_getElem? (i := 6) rfl)) (hts (.initialized RX4) (List.mem_of_getElem? (i := 17) rfl)) (by decide +kernel) ⟨(Nat.le_of_ble_eq_true rfl), (Nat.le_of_ble_eq_true rfl)⟩, rfl, (hts (.instanceMethod yX4_init) (List.mem_of_getElem? (i := 18) rfl))⟩ hP hD hK hN [8] [] rfl (by decide) rfl rfl hl.1 rfl (Nat.le_of_ble_eq_true rfl) dX3_init_90 ⟨(Nat.le_of_ble_eq_true rfl), (Nat.le_of_ble_eq_true rfl)⟩) hP hD hK hS hA [8] [0, 1, 2, 3, 4, 5, 6, 7] rfl rfl (by decide) (by decide) (fun u H locs hw hP hD hK hS => ?_)
  have hK : va_K D vwCl [(ck_79, .int), (ck_80, .int), (ck_81, .boolean), (ck_82, .boolean), (ck_83, .object RX4), (ck_84, .int)] s := hK
  have hP : va_P D vwCl [(h0, .inr (3, [.int 0, .int 0, .ref qa_109, .ref qa_110, .ref qa_111, .ref qa_112, .ref r0, .ref qa_113, .ref qa_114])), (qa_109, .inl (ck_79, 240, .inl (fun _ => 0))), (qa_110, .inl (ck_80, 240, .inl (fun _ => 0))), (qa_111, .inl (ck_81, 240, .inl (fun _ => 0))), (qa_112, .inl (ck_82, 60, .inl (fun _ => 0))), (qa_113, .inl (ck_83, 122, .inr (.inr (.inr (.inr (va_up (fun _ => none) 0 (some qa_115))))))), (qa_114, .inl (ck_84, 3, .inl (fun _ => 0))), (qa_115, .inr (4, [.int 0, .int 0, .int 0, .int 0, .int 0, .int 0, .int 0])), (qa_116, .inr (4, [.int 0, .int 0, .int 0, .int 0, .int 0, .int 0, .int 0]))] H := hP
  have hD : va_D A [(h0, .inr (3, [.int 0, .int 0, .ref qa_109, .ref qa_110, .ref qa_111, .ref qa_112, .ref r0, .ref qa_113, .ref qa_114])), (qa_109, .inl (ck_79, 240, .inl (fun _ => 0))), (qa_110, .inl (ck_80, 240, .inl (fun _ => 0))), (qa_111, .inl (ck_81, 240, .inl (fun _ => 0))), (qa_112, .inl (ck_82, 60, .inl (fun _ => 0))), (qa_113, .inl (ck_83, 122, .inr (.inr (.inr (.inr (va_up (fun _ => none) 0 (some qa_115))))))), (qa_114, .inl (ck_84, 3, .inl (fun _ => 0))), (qa_115, .inr (4, [.int 0, .int 0, .int 0, .int 0, .int 0, .int 0, .int 0])), (qa_116, .inr (4, [.int 0, .int 0, .int 0, .int 0, .int 0, .int 0, .int 0]))] := hD
  refine W.widen (k := 8) (n := 919) (Nat.le_of_ble_eq_true rfl) (Nat.le_of_ble_eq_true rfl) ?_
  refine va_astq (r := (RX4, TX4, 7)) hx hb hK hP hD hS 5 4 8 4 rfl rfl rfl rfl (z_in (by decide)) dX3_init_93 (fun H locs hP hD hS => ?_)
  have hP : va_P D vwCl [(h0, .inr (3, [.int 0, .int 0, .ref qa_109, .ref qa_110, .ref qa_111, .ref qa_112, .ref r0, .ref qa_113, .ref qa_114])), (qa_109, .inl (ck_79, 240, .inl (fun _ => 0))), (qa_110, .inl (ck_80, 240, .inl (fun _ => 0))), (qa_111, .inl (ck_81, 240, .inl (fun _ => 0))), (qa_112, .inl (ck_82, 60, .inl (fun _ => 0))), (qa_113, .inl (ck_83, 122, .inr (.inr (.inr (.inr (va_up (va_up (fun _ => none) 0 (some qa_115)) 1 (some qa_116))))))), (qa_114, .inl (ck_84, 3, .inl (fun _ => 0))), (qa_115, .inr (4, [.int 0, .int 0, .int 0, .int 0, .int 0, .int 0, .int 0])), (qa_116, .inr (4, [.int 0, .int 0, .int 0, .int 0, .int 0, .int 0, .int 0]))] H := hP
  have hD : va_D A [(h0, .inr (3, [.int 0, .int 0, .ref qa_109, .ref qa_110, .ref qa_111, .ref qa_112, .ref r0, .ref qa_113, .ref qa_114])), (qa_109, .inl (ck_79, 240, .inl (fun _ => 0))), (qa_110, .inl (ck_80, 240, .inl (fun _ => 0))), (qa_111, .inl (ck_81, 240, .inl (fun _ => 0))), (qa_112, .inl (ck_82, 60, .inl (fun _ => 0))), (qa_113, .inl (ck_83, 122, .inr (.inr (.inr (.inr (va_up (va_up (fun _ => none) 0 (some qa_115)) 1 (some qa_116))))))), (qa_114, .inl (ck_84, 3, .inl (fun _ => 0))), (qa_115, .inr (4, [.int 0, .int 0, .int 0, .int 0, .int 0, .int 0, .int 0])), (qa_116, .inr (4, [.int 0, .int 0, .int 0, .int 0, .int 0, .int 0, .int 0]))] := hD
  refine lv_iinc (v := 2) (lv' := [(2, .int 2), (0, .ref h0), (1, .ref r0)]) hx hb dX3_init_94 hl (k := 0) rfl (by decide) (by decide) rfl (fun ls hl => ?_)
  refine lv_goto (tgt := 72) hx hb dX3_init_97 (by decide) ?_
  refine lv_iload_n hx hb dX3_init_72 rfl (lv_at hl 0 rfl) ?_
  refine lv_aload_n hx hb dX3_init_73 rfl (lv_at hl 1 rfl) ?_
  refine va_get (D := D) (ci := 3) (v := .ref qa_113) (C := RX3) (T := TX3) (N := 9) hx hb hts iuX3_init_X3 hown hK hP 0 rfl rfl 7 (by decide) (hts (.fieldLink RX3 34 "StraitGame$Nights" "boards" "[LStraitGame$Position;") (List.mem_of_getElem? (i := 13) rfl)) (fun _ h9 => h9) rfl dX3_init_74 ?_
  refine va_alen (v := 122) hx hb hK hP 5 4 rfl rfl rfl dX3_init_77 ?_
  refine lv_icmp_ge (tgt := 100) hx hb dX3_init_78 (by decide) (fun h9 => absurd h9 (by decide)) (fun _ => ?_)
  refine lv_aload_n hx hb dX3_init_81 rfl (lv_at hl 1 rfl) ?_
  refine va_get (D := D) (ci := 3) (v := .ref qa_113) (C := RX3) (T := TX3) (N := 9) hx hb hts iuX3_init_X3 hown hK hP 0 rfl rfl 7 (by decide) (hts (.fieldLink RX3 34 "StraitGame$Nights" "boards" "[LStraitGame$Position;") (List.mem_of_getElem? (i := 13) rfl)) (fun _ h9 => h9) rfl dX3_init_82 ?_
  refine lv_iload_n hx hb dX3_init_85 rfl (lv_at hl 0 rfl) ?_
  refine va_new (ci := 4) (fs := [.int 0, .int 0, .int 0, .int 0, .int 0, .int 0, .int 0]) (C := RX4) (T := TX4) (N := 7) hx hb hts iuX3_init_X4 tyX4 tyX4_ok hown (hts (.classLink RX3 32 RX4) (List.mem_of_getElem? (i := 12) rfl)) (hts (.instantiable RX4 7) (List.mem_of_getElem? (i := 16) rfl)) (hts (.initialized RX4) (List.mem_of_getElem? (i := 17) rfl)) hK hP hD hS hA rfl fsX4 (Nat.le_of_ble_eq_true rfl) (Nat.le_of_ble_eq_true rfl) dX3_init_86 (fun qa_117 H hP hD hS => ?_)
  have hP : va_P D vwCl [(h0, .inr (3, [.int 0, .int 0, .ref qa_109, .ref qa_110, .ref qa_111, .ref qa_112, .ref r0, .ref qa_113, .ref qa_114])), (qa_109, .inl (ck_79, 240, .inl (fun _ => 0))), (qa_110, .inl (ck_80, 240, .inl (fun _ => 0))), (qa_111, .inl (ck_81, 240, .inl (fun _ => 0))), (qa_112, .inl (ck_82, 60, .inl (fun _ => 0))), (qa_113, .inl (ck_83, 122, .inr (.inr (.inr (.inr (va_up (va_up (fun _ => none) 0 (some qa_115)) 1 (some qa_116))))))), (qa_114, .inl (ck_84, 3, .inl (fun _ => 0))), (qa_115, .inr (4, [.int 0, .int 0, .int 0, .int 0, .int 0, .int 0, .int 0])), (qa_116, .inr (4, [.int 0, .int 0, .int 0, .int 0, .int 0, .int 0, .int 0])), (qa_117, .inr (4, [.int 0, .int 0, .int 0, .int 0, .int 0, .int 0, .int 0]))] H := hP
  have hD : va_D A [(h0, .inr (3, [.int 0, .int 0, .ref qa_109, .ref qa_110, .ref qa_111, .ref qa_112, .ref r0, .ref qa_113, .ref qa_114])), (qa_109, .inl (ck_79, 240, .inl (fun _ => 0))), (qa_110, .inl (ck_80, 240, .inl (fun _ => 0))), (qa_111, .inl (ck_81, 240, .inl (fun _ => 0))), (qa_112, .inl (ck_82, 60, .inl (fun _ => 0))), (qa_113, .inl (ck_83, 122, .inr (.inr (.inr (.inr (va_up (va_up (fun _ => none) 0 (some qa_115)) 1 (some qa_116))))))), (qa_114, .inl (ck_84, 3, .inl (fun _ => 0))), (qa_115, .inr (4, [.int 0, .int 0, .int 0, .int 0, .int 0, .int 0, .int 0])), (qa_116, .inr (4, [.int 0, .int 0, .int 0, .int 0, .int 0, .int 0, .int 0])), (qa_117, .inr (4, [.int 0, .int 0, .int 0, .int 0, .int 0, .int 0, .int 0]))] := hD
  refine W.widen (k := 9) (n := 926) (Nat.le_of_ble_eq_true rfl) (Nat.le_of_ble_eq_true rfl) ?_
  refine lv_dup hx hb dX3_init_89 rfl ?_
  refine zA_v (zR_IN (As := []) (rest := [.ref qa_117, .int 2, .ref qa_113]) (host := RX11) ⟨hx, hb, hml, hown, hts⟩ (zX4_init_1 l D qa_117 _) ⟨va_cnB 0 hts gX3_init_X4_init_n45 rfl rfl rfl (hN.2 _ (List.mem_of_getElem? (i := 6) rfl)) (hts (.initialized RX4) (List.mem_of_getElem? (i := 17) rfl)) (by decide +kernel) ⟨(Nat.le_of_ble_eq_true rfl), (Nat.le_of_ble_eq_true rfl)⟩, rfl, (hts (.instanceMethod yX4_init) (List.mem_of_getElem? (i := 18) rfl))⟩ hP hD hK hN [9] [] rfl (by decide) rfl rfl hl.1 rfl (Nat.le_of_ble_eq_true rfl) dX3_init_90 ⟨(Nat.le_of_ble_eq_true rfl), (Nat.le_of_ble_eq_true rfl)⟩) hP hD hK hS hA [9] [0, 1, 2, 3, 4, 5, 6, 7, 8] rfl rfl (by decide) (by decide) (fun u H locs hw hP hD hK hS => ?_)
  have hK : va_K D vwCl [(ck_79, .int), (ck_80, .int), (ck_81, .boolean), (ck_82, .boolean), (ck_83, .object RX4), (ck_84, .int)] s := hK
  have hP : va_P D vwCl [(h0, .inr (3, [.int 0, .int 0, .ref qa_109, .ref qa_110, .ref qa_111, .ref qa_112, .ref r0, .ref qa_113, .ref qa_114])), (qa_109, .inl (ck_79, 240, .inl (fun _ => 0))), (qa_110, .inl (ck_80, 240, .inl (fun _ => 0))), (qa_111, .inl (ck_81, 240, .inl (fun _ => 0))), (qa_112, .inl (ck_82, 60, .inl (fun _ => 0))), (qa_113, .inl (ck_83, 122, .inr (.inr (.inr (.inr (va_up (va_up (fun _ => none) 0 (some qa_115)) 1 (some qa_116))))))), (qa_114, .inl (ck_84, 3, .inl (fun _ => 0))), (qa_115, .inr (4, [.int 0, .int 0, .int 0, .int 0, .int 0, .int 0, .int 0])), (qa_116, .inr (4, [.int 0, .int 0, .int 0, .int 0, .int 0, .int 0, .int 0])), (qa_117, .inr (4, [.int 0, .int 0, .int 0, .int 0, .int 0, .int 0, .int 0]))] H := hP
  have hD : va_D A [(h0, .inr (3, [.int 0, .int 0, .ref qa_109, .ref qa_110, .ref qa_111, .ref qa_112, .ref r0, .ref qa_113, .ref qa_114])), (qa_109, .inl (ck_79, 240, .inl (fun _ => 0))), (qa_110, .inl (ck_80, 240, .inl (fun _ => 0))), (qa_111, .inl (ck_81, 240, .inl (fun _ => 0))), (qa_112, .inl (ck_82, 60, .inl (fun _ => 0))), (qa_113, .inl (ck_83, 122, .inr (.inr (.inr (.inr (va_up (va_up (fun _ => none) 0 (some qa_115)) 1 (some qa_116))))))), (qa_114, .inl (ck_84, 3, .inl (fun _ => 0))), (qa_115, .inr (4, [.int 0, .int 0, .int 0, .int 0, .int 0, .int 0, .int 0])), (qa_116, .inr (4, [.int 0, .int 0, .int 0, .int 0, .int 0, .int 0, .int 0])), (qa_117, .inr (4, [.int 0, .int 0, .int 0, .int 0, .int 0, .int 0, .int 0]))] := hD
  refine W.widen (k := 9) (n := 926) (Nat.le_of_ble_eq_true rfl) (Nat.le_of_ble_eq_true rfl) ?_
  refine va_astq (r := (RX4, TX4, 7)) hx hb hK hP hD hS 5 4 9 4 rfl rfl rfl rfl (z_in (by decide)) dX3_init_93 (fun H locs hP hD hS => ?_)
  have hP : va_P D vwCl [(h0, .inr (3, [.int 0, .int 0, .ref qa_109, .ref qa_110, .ref qa_111, .ref qa_112, .ref r0, .ref qa_113, .ref qa_114])), (qa_109, .inl (ck_79, 240, .inl (fun _ => 0))), (qa_110, .inl (ck_80, 240, .inl (fun _ => 0))), (qa_111, .inl (ck_81, 240, .inl (fun _ => 0))), (qa_112, .inl (ck_82, 60, .inl (fun _ => 0))), (qa_113, .inl (ck_83, 122, .inr (.inr (.inr (.inr (va_up (va_up (va_up (fun _ => none) 0 (some qa_115)) 1 (some qa_116)) 2 (some qa_117))))))), (qa_114, .inl (ck_84, 3, .inl (fun _ => 0))), (qa_115, .inr (4, [.int 0, .int 0, .int 0, .int 0, .int 0, .int 0, .int 0])), (qa_116, .inr (4, [.int 0, .int 0, .int 0, .int 0, .int 0, .int 0, .int 0])), (qa_117, .inr (4, [.int 0, .int 0, .int 0, .int 0, .int 0, .int 0, .int 0]))] H := hP
  have hD : va_D A [(h0, .inr (3, [.int 0, .int 0, .ref qa_109, .ref qa_110, .ref qa_111, .ref qa_112, .ref r0, .ref qa_113, .ref qa_114])), (qa_109, .inl (ck_79, 240, .inl (fun _ => 0))), (qa_110, .inl (ck_80, 240, .inl (fun _ => 0))), (qa_111, .inl (ck_81, 240, .inl (fun _ => 0))), (qa_112, .inl (ck_82, 60, .inl (fun _ => 0))), (qa_113, .inl (ck_83, 122, .inr (.inr (.inr (.inr (va_up (va_up (va_up (fun _ => none) 0 (some qa_115)) 1 (some qa_116)) 2 (some qa_117))))))), (qa_114, .inl (ck_84, 3, .inl (fun _ => 0))), (qa_115, .inr (4, [.int 0, .int 0, .int 0, .int 0, .int 0, .int 0, .int 0])), (qa_116, .inr (4, [.int 0, .int 0, .int 0, .int 0, .int 0, .int 0, .int 0])), (qa_117, .inr (4, [.int 0, .int 0, .int 0, .int 0, .int 0, .int 0, .int 0]))] := hD
  refine lv_iinc (v := 3) (lv' := [(2, .int 3), (0, .ref h0), (1, .ref r0)]) hx hb dX3_init_94 hl (k := 0) rfl (by decide) (by decide) rfl (fun ls hl => ?_)
  refine lv_goto (tgt := 72) hx hb dX3_init_97 (by decide) ?_
  refine lv_iload_n hx hb dX3_init_72 rfl (lv_at hl 0 rfl) ?_
  refine lv_aload_n hx hb dX3_init_73 rfl (lv_at hl 1 rfl) ?_
  refine va_get (D := D) (ci := 3) (v := .ref qa_113) (C := RX3) (T := TX3) (N := 9) hx hb hts iuX3_init_X3 hown hK hP 0 rfl rfl 7 (by decide) (hts (.fieldLink RX3 34 "StraitGame$Nights" "boards" "[LStraitGame$Position;") (List.mem_of_getElem? (i := 13) rfl)) (fun _ h9 => h9) rfl dX3_init_74 ?_
  refine va_alen (v := 122) hx hb hK hP 5 4 rfl rfl rfl dX3_init_77 ?_
  refine lv_icmp_ge (tgt := 100) hx hb dX3_init_78 (by decide) (fun h9 => absurd h9 (by decide)) (fun _ => ?_)
  refine lv_aload_n hx hb dX3_init_81 rfl (lv_at hl 1 rfl) ?_
  refine va_get (D := D) (ci := 3) (v := .ref qa_113) (C := RX3) (T := TX3) (N := 9) hx hb hts iuX3_init_X3 hown hK hP 0 rfl rfl 7 (by decide) (hts (.fieldLink RX3 34 "StraitGame$Nights" "boards" "[LStraitGame$Position;") (List.mem_of_getElem? (i := 13) rfl)) (fun _ h9 => h9) rfl dX3_init_82 ?_
  refine lv_iload_n hx hb dX3_init_85 rfl (lv_at hl 0 rfl) ?_
  refine va_new (ci := 4) (fs := [.int 0, .int 0, .int 0, .int 0, .int 0, .int 0, .int 0]) (C := RX4) (T := TX4) (N := 7) hx hb hts iuX3_init_X4 tyX4 tyX4_ok hown (hts (.classLink RX3 32 RX4) (List.mem_of_getElem? (i := 12) rfl)) (hts (.instantiable RX4 7) (List.mem_of_getElem? (i := 16) rfl)) (hts (.initialized RX4) (List.mem_of_getElem? (i := 17) rfl)) hK hP hD hS hA rfl fsX4 (Nat.le_of_ble_eq_true rfl) (Nat.le_of_ble_eq_true rfl) dX3_init_86 (fun qa_118 H hP hD hS => ?_)
  have hP : va_P D vwCl [(h0, .inr (3, [.int 0, .int 0, .ref qa_109, .ref qa_110, .ref qa_111, .ref qa_112, .ref r0, .ref qa_113, .ref qa_114])), (qa_109, .inl (ck_79, 240, .inl (fun _ => 0))), (qa_110, .inl (ck_80, 240, .inl (fun _ => 0))), (qa_111, .inl (ck_81, 240, .inl (fun _ => 0))), (qa_112, .inl (ck_82, 60, .inl (fun _ => 0))), (qa_113, .inl (ck_83, 122, .inr (.inr (.inr (.inr (va_up (va_up (va_up (fun _ => none) 0 (some qa_115)) 1 (some qa_116)) 2 (some qa_117))))))), (qa_114, .inl (ck_84, 3, .inl (fun _ => 0))), (qa_115, .inr (4, [.int 0, .int 0, .int 0, .int 0, .int 0, .int 0, .int 0])), (qa_116, .inr (4, [.int 0, .int 0, .int 0, .int 0, .int 0, .int 0, .int 0])), (qa_117, .inr (4, [.int 0, .int 0, .int 0, .int 0, .int 0, .int 0, .int 0])), (qa_118, .inr (4, [.int 0, .int 0, .int 0, .int 0, .int 0, .int 0, .int 0]))] H := hP
  have hD : va_D A [(h0, .inr (3, [.int 0, .int 0, .ref qa_109, .ref qa_110, .ref qa_111, .ref qa_112, .ref r0, .ref qa_113, .ref qa_114])), (qa_109, .inl (ck_79, 240, .inl (fun _ => 0))), (qa_110, .inl (ck_80, 240, .inl (fun _ => 0))), (qa_111, .inl (ck_81, 240, .inl (fun _ => 0))), (qa_112, .inl (ck_82, 60, .inl (fun _ => 0))), (qa_113, .inl (ck_83, 122, .inr (.inr (.inr (.inr (va_up (va_up (va_up (fun _ => none) 0 (some qa_115)) 1 (some qa_116)) 2 (some qa_117))))))), (qa_114, .inl (ck_84, 3, .inl (fun _ => 0))), (qa_115, .inr (4, [.int 0, .int 0, .int 0, .int 0, .int 0, .int 0, .int 0])), (qa_116, .inr (4, [.int 0, .int 0, .int 0, .int 0, .int 0, .int 0, .int 0])), (qa_117, .inr (4, [.int 0, .int 0, .int 0, .int 0, .int 0, .int 0, .int 0])), (qa_118, .inr (4, [.int 0, .int 0, .int 0, .int 0, .int 0, .int 0, .int 0]))] := hD
  refine W.widen (k := 10) (n := 933) (Nat.le_of_ble_eq_true rfl) (Nat.le_of_ble_eq_true rfl) ?_
  refine lv_dup hx hb dX3_init_89 rfl ?_
  refine zA_v (zR_IN (As := []) (rest := [.ref qa_118, .int 3, .ref qa_113]) (host := RX11) ⟨hx, hb, hml, hown, hts⟩ (zX4_init_1 l D qa_118 _) ⟨va_cnB 0 hts gX3_init_X4_init_n45 rfl rfl rfl (hN.2 _ (List.mem_of_getElem? (i := 6) rfl)) (hts (.initialized RX4) (List.mem_of_getElem? (i := 17) rfl)) (by decide +kernel) ⟨(Nat.le_of_ble_eq_true rfl), (Nat.le_of_ble_eq_true rfl)⟩, rfl, (hts (.instanceMethod yX4_init) (List.mem_of_getElem? (i := 18) rfl))⟩ hP hD hK hN [10] [] rfl (by decide) rfl rfl hl.1 rfl (Nat.le_of_ble_eq_true rfl) dX3_init_90 ⟨(Nat.le_of_ble_eq_true rfl), (Nat.le_of_ble_eq_true rfl)⟩) hP hD hK hS hA [10] [0, 1, 2, 3, 4, 5, 6, 7, 8, 9] rfl rfl (by decide) (by decide) (fun u H locs hw hP hD hK hS => ?_)
  have hK : va_K D vwCl [(ck_79, .int), (ck_80, .int), (ck_81, .boolean), (ck_82, .boolean), (ck_83, .object RX4), (ck_84, .int)] s := hK
  have hP : va_P D vwCl [(h0, .inr (3, [.int 0, .int 0, .ref qa_109, .ref qa_110, .ref qa_111, .ref qa_112, .ref r0, .ref qa_113, .ref qa_114])), (qa_109, .inl (ck_79, 240, .inl (fun _ => 0))), (qa_110, .inl (ck_80, 240, .inl (fun _ => 0))), (qa_111, .inl (ck_81, 240, .inl (fun _ => 0))), (qa_112, .inl (ck_82, 60, .inl (fun _ => 0))), (qa_113, .inl (ck_83, 122, .inr (.inr (.inr (.inr (va_up (va_up (va_up (fun _ => none) 0 (some qa_115)) 1 (some qa_116)) 2 (some qa_117))))))), (qa_114, .inl (ck_84, 3, .inl (fun _ => 0))), (qa_115, .inr (4, [.int 0, .int 0, .int 0, .int 0, .int 0, .int 0, .int 0])), (qa_116, .inr (4, [.int 0, .int 0, .int 0, .int 0, .int 0, .int 0, .int 0])), (qa_117, .inr (4, [.int 0, .int 0, .int 0, .int 0, .int 0, .int 0, .int 0])), (qa_118, .inr (4, [.int 0, .int 0, .int 0, .int 0, .int 0, .int 0, .int 0]))] H := hP
  have hD : va_D A [(h0, .inr (3, [.int 0, .int 0, .ref qa_109, .ref qa_110, .ref qa_111, .ref qa_112, .ref r0, .ref qa_113, .ref qa_114])), (qa_109, .inl (ck_79, 240, .inl (fun _ => 0))), (qa_110, .inl (ck_80, 240, .inl (fun _ => 0))), (qa_111, .inl (ck_81, 240, .inl (fun _ => 0))), (qa_112, .inl (ck_82, 60, .inl (fun _ => 0))), (qa_113, .inl (ck_83, 122, .inr (.inr (.inr (.inr (va_up (va_up (va_up (fun _ => none) 0 (some qa_115)) 1 (some qa_116)) 2 (some qa_117))))))), (qa_114, .inl (ck_84, 3, .inl (fun _ => 0))), (qa_115, .inr (4, [.int 0, .int 0, .int 0, .int 0, .int 0, .int 0, .int 0])), (qa_116, .inr (4, [.int 0, .int 0, .int 0, .int 0, .int 0, .int 0, .int 0])), (qa_117, .inr (4, [.int 0, .int 0, .int 0, .int 0, .int 0, .int 0, .int 0])), (qa_118, .inr (4, [.int 0, .int 0, .int 0, .int 0, .int 0, .int 0, .int 0]))] := hD
  refine W.widen (k := 10) (n := 933) (Nat.le_of_ble_eq_true rfl) (Nat.le_of_ble_eq_true rfl) ?_
  refine va_astq (r := (RX4, TX4, 7)) hx hb hK hP hD hS 5 4 10 4 rfl rfl rfl rfl (z_in (by decide)) dX3_init_93 (fun H locs hP hD hS => ?_)
  have hP : va_P D vwCl [(h0, .inr (3, [.int 0, .int 0, .ref qa_109, .ref qa_110, .ref qa_111, .ref qa_112, .ref r0, .ref qa_113, .ref qa_114])), (qa_109, .inl (ck_79, 240, .inl (fun _ => 0))), (qa_110, .inl (ck_80, 240, .inl (fun _ => 0))), (qa_111, .inl (ck_81, 240, .inl (fun _ => 0))), (qa_112, .inl (ck_82, 60, .inl (fun _ => 0))), (qa_113, .inl (ck_83, 122, .inr (.inr (.inr (.inr (va_up (va_up (va_up (va_up (fun _ => none) 0 (some qa_115)) 1 (some qa_116)) 2 (some qa_117)) 3 (some qa_118))))))), (qa_114, .inl (ck_84, 3, .inl (fun _ => 0))), (qa_115, .inr (4, [.int 0, .int 0, .int 0, .int 0, .int 0, .int 0, .int 0])), (qa_116, .inr (4, [.int 0, .int 0, .int 0, .int 0, .int 0, .int 0, .int 0])), (qa_117, .inr (4, [.int 0, .int 0, .int 0, .int 0, .int 0, .int 0, .int 0])), (qa_118, .inr (4, [.int 0, .int 0, .int 0, .int 0, .int 0, .int 0, .int 0]))] H := hP
  have hD : va_D A [(h0, .inr (3, [.int 0, .int 0, .ref qa_109, .ref qa_110, .ref qa_111, .ref qa_112, .ref r0, .ref qa_113, .ref qa_114])), (qa_109, .inl (ck_79, 240, .inl (fun _ => 0))), (qa_110, .inl (ck_80, 240, .inl (fun _ => 0))), (qa_111, .inl (ck_81, 240, .inl (fun _ => 0))), (qa_112, .inl (ck_82, 60, .inl (fun _ => 0))), (qa_113, .inl (ck_83, 122, .inr (.inr (.inr (.inr (va_up (va_up (va_up (va_up (fun _ => none) 0 (some qa_115)) 1 (some qa_116)) 2 (some qa_117)) 3 (some qa_118))))))), (qa_114, .inl (ck_84, 3, .inl (fun _ => 0))), (qa_115, .inr (4, [.int 0, .int 0, .int 0, .int 0, .int 0, .int 0, .int 0])), (qa_116, .inr (4, [.int 0, .int 0, .int 0, .int 0, .int 0, .int 0, .int 0])), (qa_117, .inr (4, [.int 0, .int 0, .int 0, .int 0, .int 0, .int 0, .int 0])), (qa_118, .inr (4, [.int 0, .int 0, .int 0, .int 0, .int 0, .int 0, .int 0]))] := hD
  refine lv_iinc (v := 4) (lv' := [(2, .int 4), (0, .ref h0), (1, .ref r0)]) hx hb dX3_init_94 hl (k := 0) rfl (by decide) (by decide) rfl (fun ls hl => ?_)
  refine lv_goto (tgt := 72) hx hb dX3_init_97 (by decide) ?_
  have hloop : ∀ (n k : Nat) (fl_6 : Nat → Option Nat) (H : Heap) (locs : List Loc) (ls : Array Slot), k + n = 122 → 4 ≤ k → fl_6 0 = some qa_115 → fl_6 1 = some qa_116 → fl_6 2 = some qa_117 → fl_6 3 = some qa_118 → va_P D vwCl [(h0, .inr (3, [.int 0, .int 0, .ref qa_109, .ref qa_110, .ref qa_111, .ref qa_112, .ref r0, .ref qa_113, .ref qa_114])), (qa_109, .inl (ck_79, 240, .inl (fun _ => 0))), (qa_110, .inl (ck_80, 240, .inl (fun _ => 0))), (qa_111, .inl (ck_81, 240, .inl (fun _ => 0))), (qa_112, .inl (ck_82, 60, .inl (fun _ => 0))), (qa_113, .inl (ck_83, 122, .inr (.inr (.inr (.inr fl_6))))), (qa_114, .inl (ck_84, 3, .inl (fun _ => 0))), (qa_115, .inr (4, [.int 0, .int 0, .int 0, .int 0, .int 0, .int 0, .int 0])), (qa_116, .inr (4, [.int 0, .int 0, .int 0, .int 0, .int 0, .int 0, .int 0])), (qa_117, .inr (4, [.int 0, .int 0, .int 0, .int 0, .int 0, .int 0, .int 0])), (qa_118, .inr (4, [.int 0, .int 0, .int 0, .int 0, .int 0, .int 0, .int 0]))] H → va_D A [(h0, .inr (3, [.int 0, .int 0, .ref qa_109, .ref qa_110, .ref qa_111, .ref qa_112, .ref r0, .ref qa_113, .ref qa_114])), (qa_109, .inl (ck_79, 240, .inl (fun _ => 0))), (qa_110, .inl (ck_80, 240, .inl (fun _ => 0))), (qa_111, .inl (ck_81, 240, .inl (fun _ => 0))), (qa_112, .inl (ck_82, 60, .inl (fun _ => 0))), (qa_113, .inl (ck_83, 122, .inr (.inr (.inr (.inr fl_6))))), (qa_114, .inl (ck_84, 3, .inl (fun _ => 0))), (qa_115, .inr (4, [.int 0, .int 0, .int 0, .int 0, .int 0, .int 0, .int 0])), (qa_116, .inr (4, [.int 0, .int 0, .int 0, .int 0, .int 0, .int 0, .int 0])), (qa_117, .inr (4, [.int 0, .int 0, .int 0, .int 0, .int 0, .int 0, .int 0])), (qa_118, .inr (4, [.int 0, .int 0, .int 0, .int 0, .int 0, .int 0, .int 0]))] → va_S A s.heap H locs → lv_has ls 3 [(2, .int (nI k)), (0, .ref h0), (1, .ref r0)] → (∀ (fl_6 : Nat → Option Nat) (H : Heap) (locs : List Loc) (ls : Array Slot), fl_6 0 = some qa_115 → fl_6 1 = some qa_116 → fl_6 2 = some qa_117 → fl_6 3 = some qa_118 → va_P D vwCl [(h0, .inr (3, [.int 0, .int 0, .ref qa_109, .ref qa_110, .ref qa_111, .ref qa_112, .ref r0, .ref qa_113, .ref qa_114])), (qa_109, .inl (ck_79, 240, .inl (fun _ => 0))), (qa_110, .inl (ck_80, 240, .inl (fun _ => 0))), (qa_111, .inl (ck_81, 240, .inl (fun _ => 0))), (qa_112, .inl (ck_82, 60, .inl (fun _ => 0))), (qa_113, .inl (ck_83, 122, .inr (.inr (.inr (.inr fl_6))))), (qa_114, .inl (ck_84, 3, .inl (fun _ => 0))), (qa_115, .inr (4, [.int 0, .int 0, .int 0, .int 0, .int 0, .int 0, .int 0])), (qa_116, .inr (4, [.int 0, .int 0, .int 0, .int 0, .int 0, .int 0, .int 0])), (qa_117, .inr (4, [.int 0, .int 0, .int 0, .int 0, .int 0, .int 0, .int 0])), (qa_118, .inr (4, [.int 0, .int 0, .int 0, .int 0, .int 0, .int 0, .int 0]))] H → va_D A [(h0, .inr (3, [.int 0, .int 0, .ref qa_109, .ref qa_110, .ref qa_111, .ref qa_112, .ref r0, .ref qa_113, .ref qa_114])), (qa_109, .inl (ck_79, 240, .inl (fun _ => 0))), (qa_110, .inl (ck_80, 240, .inl (fun _ => 0))), (qa_111, .inl (ck_81, 240, .inl (fun _ => 0))), (qa_112, .inl (ck_82, 60, .inl (fun _ => 0))), (qa_113, .inl (ck_83, 122, .inr (.inr (.inr (.inr fl_6))))), (qa_114, .inl (ck_84, 3, .inl (fun _ => 0))), (qa_115, .inr (4, [.int 0, .int 0, .int 0, .int 0, .int 0, .int 0, .int 0])), (qa_116, .inr (4, [.int 0, .int 0, .int 0, .int 0, .int 0, .int 0, .int 0])), (qa_117, .inr (4, [.int 0, .int 0, .int 0, .int 0, .int 0, .int 0, .int 0])), (qa_118, .inr (4, [.int 0, .int 0, .int 0, .int 0, .int 0, .int 0, .int 0]))] → va_S A s.heap H locs → lv_has ls 3 [(2, .int 122), (0, .ref h0), (1, .ref r0)] → W p l e ({ frames := 2, cells := 128, slots := 1759, locals := 32 }) s m ([.ref h0, .ref r0] : List Value).toArray below meth c H locs 128 1759 (MQ below ((fun A => va_Qv (fun (u : Nat × Nat × Nat × Nat × Nat × Nat × Nat × Nat × Nat × Nat × ClassId × ClassId × ClassId × ClassId × ClassId × ClassId × (Nat → Option Nat)) => match u with | (qa_98, qa_99, qa_100, qa_101, qa_102, qa_103, qa_104, qa_105, qa_106, qa_107, ck_73, ck_74, ck_75, ck_76, ck_77, ck_78, fl_5) => fl_5 0 = some qa_104 ∧ fl_5 1 = some qa_105 ∧ fl_5 2 = some qa_106 ∧ fl_5 3 = some qa_107) (zB D A (fun (u : Nat × Nat × Nat × Nat × Nat × Nat × Nat × Nat × Nat × Nat × ClassId × ClassId × ClassId × ClassId × ClassId × ClassId × (Nat → Option Nat)) => match u with | (qa_98, qa_99, qa_100, qa_101, qa_102, qa_103, qa_104, qa_105, qa_106, qa_107, ck_73, ck_74, ck_75, ck_76, ck_77, ck_78, fl_5) => [(h0, .inr (3, [.int 0, .int 0, .ref qa_98, .ref qa_99, .ref qa_100, .ref qa_101, .ref r0, .ref qa_102, .ref qa_103])), (qa_98, .inl (ck_73, 240, .inl (fun _ => 0))), (qa_99, .inl (ck_74, 240, .inl (fun _ => 0))), (qa_100, .inl (ck_75, 240, .inl (fun _ => 0))), (qa_101, .inl (ck_76, 60, .inl (fun _ => 0))), (qa_102, .inl (ck_77, 122, .inr (.inr (.inr (.inr fl_5))))), (qa_103, .inl (ck_78, 3, .inl (fun _ => 0))), (qa_104, .inr (4, [.int 0, .int 0, .int 0, .int 0, .int 0, .int 0, .int 0])), (qa_105, .inr (4, [.int 0, .int 0, .int 0, .int 0, .int 0, .int 0, .int 0])), (qa_106, .inr (4, [.int 0, .int 0, .int 0, .int 0, .int 0, .int 0, .int 0])), (qa_107, .inr (4, [.int 0, .int 0, .int 0, .int 0, .int 0, .int 0, .int 0]))]) (fun (u : Nat × Nat × Nat × Nat × Nat × Nat × Nat × Nat × Nat × Nat × ClassId × ClassId × ClassId × ClassId × ClassId × ClassId × (Nat → Option Nat)) => match u with | (qa_98, qa_99, qa_100, qa_101, qa_102, qa_103, qa_104, qa_105, qa_106, qa_107, ck_73, ck_74, ck_75, ck_76, ck_77, ck_78, fl_5) => [(ck_73, .int), (ck_74, .int), (ck_75, .boolean), (ck_76, .boolean), (ck_77, .object RX4), (ck_78, .int)])) A) A) ([.ref h0, .ref r0] : List Value).toArray s 128 1759 A) (F0 m 100 ls [])) → W p l e ({ frames := 2, cells := 128, slots := 1759, locals := 32 }) s m ([.ref h0, .ref r0] : List Value).toArray below meth c H locs (10 + 1 * (k - 4)) (933 + 7 * (k - 4)) (MQ below ((fun A => va_Qv (fun (u : Nat × Nat × Nat × Nat × Nat × Nat × Nat × Nat × Nat × Nat × ClassId × ClassId × ClassId × ClassId × ClassId × ClassId × (Nat → Option Nat)) => match u with | (qa_98, qa_99, qa_100, qa_101, qa_102, qa_103, qa_104, qa_105, qa_106, qa_107, ck_73, ck_74, ck_75, ck_76, ck_77, ck_78, fl_5) => fl_5 0 = some qa_104 ∧ fl_5 1 = some qa_105 ∧ fl_5 2 = some qa_106 ∧ fl_5 3 = some qa_107) (zB D A (fun (u : Nat × Nat × Nat × Nat × Nat × Nat × Nat × Nat × Nat × Nat × ClassId × ClassId × ClassId × ClassId × ClassId × ClassId × (Nat → Option Nat)) => match u with | (qa_98, qa_99, qa_100, qa_101, qa_102, qa_103, qa_104, qa_105, qa_106, qa_107, ck_73, ck_74, ck_75, ck_76, ck_77, ck_78, fl_5) => [(h0, .inr (3, [.int 0, .int 0, .ref qa_98, .ref qa_99, .ref qa_100, .ref qa_101, .ref r0, .ref qa_102, .ref qa_103])), (qa_98, .inl (ck_73, 240, .inl (fun _ => 0))), (qa_99, .inl (ck_74, 240, .inl (fun _ => 0))), (qa_100, .inl (ck_75, 240, .inl (fun _ => 0))), (qa_101, .inl (ck_76, 60, .inl (fun _ => 0))), (qa_102, .inl (ck_77, 122, .inr (.inr (.inr (.inr fl_5))))), (qa_103, .inl (ck_78, 3, .inl (fun _ => 0))), (qa_104, .inr (4, [.int 0, .int 0, .int 0, .int 0, .int 0, .int 0, .int 0])), (qa_105, .inr (4, [.int 0, .int 0, .int 0, .int 0, .int 0, .int 0, .int 0])), (qa_106, .inr (4, [.int 0, .int 0, .int 0, .int 0, .int 0, .int 0, .int 0])), (qa_107, .inr (4, [.int 0, .int 0, .int 0, .int 0, .int 0, .int 0, .int 0]))]) (fun (u : Nat × Nat × Nat × Nat × Nat × Nat × Nat × Nat × Nat × Nat × ClassId × ClassId × ClassId × ClassId × ClassId × ClassId × (Nat → Option Nat)) => match u with | (qa_98, qa_99, qa_100, qa_101, qa_102, qa_103, qa_104, qa_105, qa_106, qa_107, ck_73, ck_74, ck_75, ck_76, ck_77, ck_78, fl_5) => [(ck_73, .int), (ck_74, .int), (ck_75, .boolean), (ck_76, .boolean), (ck_77, .object RX4), (ck_78, .int)])) A) A) ([.ref h0, .ref r0] : List Value).toArray s 128 1759 A) (F0 m 72 ls []) := by
    intro n
    induction n with
    | zero =>
      intro k fl_6 H locs ls hkn hk0 hfl_fl_6_0 hfl_fl_6_1 hfl_fl_6_2 hfl_fl_6_3 hP hD hS hl hex
      obtain rfl : k = 122 := by omega
      have hl : lv_has ls 3 [(2, .int 122), (0, .ref h0), (1, .ref r0)] := hl
      refine lv_iload_n hx hb dX3_init_72 rfl (lv_at hl 0 rfl) ?_
      refine lv_aload_n hx hb dX3_init_73 rfl (lv_at hl 1 rfl) ?_
      refine va_get (D := D) (ci := 3) (v := .ref qa_113) (C := RX3) (T := TX3) (N := 9) hx hb hts iuX3_init_X3 hown hK hP 0 rfl rfl 7 (by decide) (hts (.fieldLink RX3 34 "StraitGame$Nights" "boards" "[LStraitGame$Position;") (List.mem_of_getElem? (i := 13) rfl)) (fun _ h9 => h9) rfl dX3_init_74 ?_
      refine va_alen (v := 122) hx hb hK hP 5 4 rfl rfl rfl dX3_init_77 ?_
      refine lv_icmp_ge (tgt := 100) hx hb dX3_init_78 (by decide) (fun _ => ?_) (fun h9 => absurd (by decide) h9)
      refine W.widen (k := 128) (n := 1759) (by decide) (by decide) ?_
      exact hex fl_6 H locs ls hfl_fl_6_0 hfl_fl_6_1 hfl_fl_6_2 hfl_fl_6_3 hP hD hS hl
    | succ n ih =>
      intro k fl_6 H locs ls hkn hk0 hfl_fl_6_0 hfl_fl_6_1 hfl_fl_6_2 hfl_fl_6_3 hP hD hS hl hex
      have hkd : 4 ≤ (nI k).toInt ∧ (nI k).toInt ≤ 121 := z_nI (by omega) (by omega) (by decide)
      refine lv_iload_n hx hb dX3_init_72 rfl (lv_at hl 0 rfl) ?_
      refine lv_aload_n hx hb dX3_init_73 rfl (lv_at hl 1 rfl) ?_
      refine va_get (D := D) (ci := 3) (v := .ref qa_113) (C := RX3) (T := TX3) (N := 9) hx hb hts iuX3_init_X3 hown hK hP 0 rfl rfl 7 (by decide) (hts (.fieldLink RX3 34 "StraitGame$Nights" "boards" "[LStraitGame$Position;") (List.mem_of_getElem? (i := 13) rfl)) (fun _ h9 => h9) rfl dX3_init_74 ?_
      refine va_alen (v := 122) hx hb hK hP 5 4 rfl rfl rfl dX3_init_77 ?_
      refine lv_icmp_ge (tgt := 100) hx hb dX3_init_78 (by decide) (fun h9 => absurd h9 (z_cmp (show ¬ ((122 : Int32) ≤ (nI k)) from by simp only [fa_lt, fa_le, fa_eq, zk_122]; have := hkd; omega))) (fun _ => ?_)
      refine lv_aload_n hx hb dX3_init_81 rfl (lv_at hl 1 rfl) ?_
      refine va_get (D := D) (ci := 3) (v := .ref qa_113) (C := RX3) (T := TX3) (N := 9) hx hb hts iuX3_init_X3 hown hK hP 0 rfl rfl 7 (by decide) (hts (.fieldLink RX3 34 "StraitGame$Nights" "boards" "[LStraitGame$Position;") (List.mem_of_getElem? (i := 13) rfl)) (fun _ h9 => h9) rfl dX3_init_82 ?_
      refine lv_iload_n hx hb dX3_init_85 rfl (lv_at hl 0 rfl) ?_
      refine va_new (ci := 4) (fs := [.int 0, .int 0, .int 0, .int 0, .int 0, .int 0, .int 0]) (C := RX4) (T := TX4) (N := 7) hx hb hts iuX3_init_X4 tyX4 tyX4_ok hown (hts (.classLink RX3 32 RX4) (List.mem_of_getElem? (i := 12) rfl)) (hts (.instantiable RX4 7) (List.mem_of_getElem? (i := 16) rfl)) (hts (.initialized RX4) (List.mem_of_getElem? (i := 17) rfl)) hK hP hD hS hA rfl fsX4 (by show _ ≤ (128 : Nat); omega) (by show _ ≤ (1759 : Nat); omega) dX3_init_86 (fun qa_120 H hP hD hS => ?_)
      have hP : va_P D vwCl [(h0, .inr (3, [.int 0, .int 0, .ref qa_109, .ref qa_110, .ref qa_111, .ref qa_112, .ref r0, .ref qa_113, .ref qa_114])), (qa_109, .inl (ck_79, 240, .inl (fun _ => 0))), (qa_110, .inl (ck_80, 240, .inl (fun _ => 0))), (qa_111, .inl (ck_81, 240, .inl (fun _ => 0))), (qa_112, .inl (ck_82, 60, .inl (fun _ => 0))), (qa_113, .inl (ck_83, 122, .inr (.inr (.inr (.inr fl_6))))), (qa_114, .inl (ck_84, 3, .inl (fun _ => 0))), (qa_115, .inr (4, [.int 0, .int 0, .int 0, .int 0, .int 0, .int 0, .int 0])), (qa_116, .inr (4, [.int 0, .int 0, .int 0, .int 0, .int 0, .int 0, .int 0])), (qa_117, .inr (4, [.int 0, .int 0, .int 0, .int 0, .int 0, .int 0, .int 0])), (qa_118, .inr (4, [.int 0, .int 0, .int 0, .int 0, .int 0, .int 0, .int 0])), (qa_120, .inr (4, [.int 0, .int 0, .int 0, .int 0, .int 0, .int 0, .int 0]))] H := hP
      have hD : va_D A [(h0, .inr (3, [.int 0, .int 0, .ref qa_109, .ref qa_110, .ref qa_111, .ref qa_112, .ref r0, .ref qa_113, .ref qa_114])), (qa_109, .inl (ck_79, 240, .inl (fun _ => 0))), (qa_110, .inl (ck_80, 240, .inl (fun _ => 0))), (qa_111, .inl (ck_81, 240, .inl (fun _ => 0))), (qa_112, .inl (ck_82, 60, .inl (fun _ => 0))), (qa_113, .inl (ck_83, 122, .inr (.inr (.inr (.inr fl_6))))), (qa_114, .inl (ck_84, 3, .inl (fun _ => 0))), (qa_115, .inr (4, [.int 0, .int 0, .int 0, .int 0, .int 0, .int 0, .int 0])), (qa_116, .inr (4, [.int 0, .int 0, .int 0, .int 0, .int 0, .int 0, .int 0])), (qa_117, .inr (4, [.int 0, .int 0, .int 0, .int 0, .int 0, .int 0, .int 0])), (qa_118, .inr (4, [.int 0, .int 0, .int 0, .int 0, .int 0, .int 0, .int 0])), (qa_120, .inr (4, [.int 0, .int 0, .int 0, .int 0, .int 0, .int 0, .int 0]))] := hD
      refine lv_dup hx hb dX3_init_89 rfl ?_
      refine zA_v (zR_IN (As := []) (rest := [.ref qa_120, .int (nI k), .ref qa_113]) (host := RX11) ⟨hx, hb, hml, hown, hts⟩ (zX4_init_1 l D qa_120 _) ⟨va_cnB 0 hts gX3_init_X4_init_n45 rfl rfl rfl (hN.2 _ (List.mem_of_getElem? (i := 6) rfl)) (hts (.initialized RX4) (List.mem_of_getElem? (i := 17) rfl)) (by decide +kernel) ⟨(Nat.le_of_ble_eq_true rfl), (Nat.le_of_ble_eq_true rfl)⟩, rfl, (hts (.instanceMethod yX4_init) (List.mem_of_getElem? (i := 18) rfl))⟩ hP hD hK hN [11] [] rfl (by decide) rfl rfl hl.1 rfl (Nat.le_of_ble_eq_true rfl) dX3_init_90 ⟨by show _ ≤ (128 : Nat); omega, by show _ ≤ (1759 : Nat); omega⟩) hP hD hK hS hA [11] [0, 1, 2, 3, 4, 5, 6, 7, 8, 9, 10] rfl rfl (by decide) (by decide) (fun u H locs hw hP hD hK hS => ?_)
      have hK : va_K D vwCl [(ck_79, .int), (ck_80, .int), (ck_81, .boolean), (ck_82, .boolean), (ck_83, .object RX4), (ck_84, .int)] s := hK
      have hP : va_P D vwCl [(h0, .inr (3, [.int 0, .int 0, .ref qa_109, .ref qa_110, .ref qa_111, .ref qa_112, .ref r0, .ref qa_113, .ref qa_114])), (qa_109, .inl (ck_79, 240, .inl (fun _ => 0))), (qa_110, .inl (ck_80, 240, .inl (fun _ => 0))), (qa_111, .inl (ck_81, 240, .inl (fun _ => 0))), (qa_112, .inl (ck_82, 60, .inl (fun _ => 0))), (qa_113, .inl (ck_83, 122, .inr (.inr (.inr (.inr fl_6))))), (qa_114, .inl (ck_84, 3, .inl (fun _ => 0))), (qa_115, .inr (4, [.int 0, .int 0, .int 0, .int 0, .int 0, .int 0, .int 0])), (qa_116, .inr (4, [.int 0, .int 0, .int 0, .int 0, .int 0, .int 0, .int 0])), (qa_117, .inr (4, [.int 0, .int 0, .int 0, .int 0, .int 0, .int 0, .int 0])), (qa_118, .inr (4, [.int 0, .int 0, .int 0, .int 0, .int 0, .int 0, .int 0])), (qa_120, .inr (4, [.int 0, .int 0, .int 0, .int 0, .int 0, .int 0, .int 0]))] H := hP
      have hD : va_D A [(h0, .inr (3, [.int 0, .int 0, .ref qa_109, .ref qa_110, .ref qa_111, .ref qa_112, .ref r0, .ref qa_113, .ref qa_114])), (qa_109, .inl (ck_79, 240, .inl (fun _ => 0))), (qa_110, .inl (ck_80, 240, .inl (fun _ => 0))), (qa_111, .inl (ck_81, 240, .inl (fun _ => 0))), (qa_112, .inl (ck_82, 60, .inl (fun _ => 0))), (qa_113, .inl (ck_83, 122, .inr (.inr (.inr (.inr fl_6))))), (qa_114, .inl (ck_84, 3, .inl (fun _ => 0))), (qa_115, .inr (4, [.int 0, .int 0, .int 0, .int 0, .int 0, .int 0, .int 0])), (qa_116, .inr (4, [.int 0, .int 0, .int 0, .int 0, .int 0, .int 0, .int 0])), (qa_117, .inr (4, [.int 0, .int 0, .int 0, .int 0, .int 0, .int 0, .int 0])), (qa_118, .inr (4, [.int 0, .int 0, .int 0, .int 0, .int 0, .int 0, .int 0])), (qa_120, .inr (4, [.int 0, .int 0, .int 0, .int 0, .int 0, .int 0, .int 0]))] := hD
      refine va_astq (r := (RX4, TX4, 7)) hx hb hK hP hD hS 5 4 11 4 rfl rfl rfl rfl (vp_in_nI (by omega) (by decide)) dX3_init_93 (fun H locs hP hD hS => ?_)
      rw [nI_clamp (by omega : k < 2 ^ 31)] at hP hD
      have hP : va_P D vwCl [(h0, .inr (3, [.int 0, .int 0, .ref qa_109, .ref qa_110, .ref qa_111, .ref qa_112, .ref r0, .ref qa_113, .ref qa_114])), (qa_109, .inl (ck_79, 240, .inl (fun _ => 0))), (qa_110, .inl (ck_80, 240, .inl (fun _ => 0))), (qa_111, .inl (ck_81, 240, .inl (fun _ => 0))), (qa_112, .inl (ck_82, 60, .inl (fun _ => 0))), (qa_113, .inl (ck_83, 122, .inr (.inr (.inr (.inr (va_up fl_6 (k) (some qa_120))))))), (qa_114, .inl (ck_84, 3, .inl (fun _ => 0))), (qa_115, .inr (4, [.int 0, .int 0, .int 0, .int 0, .int 0, .int 0, .int 0])), (qa_116, .inr (4, [.int 0, .int 0, .int 0, .int 0, .int 0, .int 0, .int 0])), (qa_117, .inr (4, [.int 0, .int 0, .int 0, .int 0, .int 0, .int 0, .int 0])), (qa_118, .inr (4, [.int 0, .int 0, .int 0, .int 0, .int 0, .int 0, .int 0])), (qa_120, .inr (4, [.int 0, .int 0, .int 0, .int 0, .int 0, .int 0, .int 0]))] H := hP
      have hD : va_D A [(h0, .inr (3, [.int 0, .int 0, .ref qa_109, .ref qa_110, .ref qa_111, .ref qa_112, .ref r0, .ref qa_113, .ref qa_114])), (qa_109, .inl (ck_79, 240, .inl (fun _ => 0))), (qa_110, .inl (ck_80, 240, .inl (fun _ => 0))), (qa_111, .inl (ck_81, 240, .inl (fun _ => 0))), (qa_112, .inl (ck_82, 60, .inl (fun _ => 0))), (qa_113, .inl (ck_83, 122, .inr (.inr (.inr (.inr (va_up fl_6 (k) (some qa_120))))))), (qa_114, .inl (ck_84, 3, .inl (fun _ => 0))), (qa_115, .inr (4, [.int 0, .int 0, .int 0, .int 0, .int 0, .int 0, .int 0])), (qa_116, .inr (4, [.int 0, .int 0, .int 0, .int 0, .int 0, .int 0, .int 0])), (qa_117, .inr (4, [.int 0, .int 0, .int 0, .int 0, .int 0, .int 0, .int 0])), (qa_118, .inr (4, [.int 0, .int 0, .int 0, .int 0, .int 0, .int 0, .int 0])), (qa_120, .inr (4, [.int 0, .int 0, .int 0, .int 0, .int 0, .int 0, .int 0]))] := hD
      refine lv_iinc (v := (nI (k + 1))) (lv' := [(2, .int (nI (k + 1))), (0, .ref h0), (1, .ref r0)]) hx hb dX3_init_94 hl (k := 0) rfl (z_inc k 1) (by decide) rfl (fun ls hl => ?_)
      refine lv_goto (tgt := 72) hx hb dX3_init_97 (by decide) ?_
      refine W.widen (k := (10 + 1 * (k + 1 - 4))) (n := (933 + 7 * (k + 1 - 4))) (by omega) (by omega) ?_
      exact ih (k + 1) _ H locs ls (by omega) (by omega) ((va_up_ne _ _ (by omega)).trans hfl_fl_6_0) ((va_up_ne _ _ (by omega)).trans hfl_fl_6_1) ((va_up_ne _ _ (by omega)).trans hfl_fl_6_2) ((va_up_ne _ _ (by omega)).trans hfl_fl_6_3) (hP.sub [0, 1, 2, 3, 4, 5, 6, 7, 8, 9, 10] rfl) (hD.sub [0, 1, 2, 3, 4, 5, 6, 7, 8, 9, 10] (by decide) rfl) hS (lv_sub hl [0, 1, 2] rfl) hex
  refine W.widen (k := (10 + 1 * (4 - 4))) (n := (933 + 7 * (4 - 4))) (by decide) (by decide) ?_
  refine hloop 118 4 (va_up (va_up (va_up (va_up (fun _ => none) 0 (some qa_115)) 1 (some qa_116)) 2 (some qa_117)) 3 (some qa_118)) H locs ls (by decide) (by decide) rfl rfl rfl rfl hP hD hS (lv_sub hl [0, 1, 2] rfl) (fun fl_6 H locs ls hfl_fl_6_0 hfl_fl_6_1 hfl_fl_6_2 hfl_fl_6_3 hP hD hS hl => ?_)
  have hl : lv_has ls 3 [(2, .int 122), (0, .ref h0), (1, .ref r0)] := hl
  exact zret_v hx hb hr hlocks hP hD hK hS (qa_109, qa_110, qa_111, qa_112, qa_113, qa_114, qa_115, qa_116, qa_117, qa_118, ck_79, ck_80, ck_81, ck_82, ck_83, ck_84, fl_6) ⟨(hfl_fl_6_0), (hfl_fl_6_1), (hfl_fl_6_2), (hfl_fl_6_3)⟩ [0, 1, 2, 3, 4, 5, 6, 7, 8, 9, 10] [0, 1, 2, 3, 4, 5] (by decide) rfl rfl (Nat.le_of_ble_eq_true rfl) (Nat.le_of_ble_eq_true rfl) dX3_init_100
set_option maxHeartbeats 4000000 in
set_option maxRecDepth 100000 in
theorem zX1_init_1 (l : Launch) (D : va_G) (h0 r0 r1 : Nat) (sz : Nat) : Met l yX1_init wsX1_init ({ frames := 2, cells := 131, slots := 1031, locals := 32 }) (zPre D [.ref h0, .ref r0, .ref r1] [(h0, .inr (1, [.null, .null, .null, .null, .int 0, .int 0, .null]))] [] sz) ((fun A => va_Qv (fun (u : Nat × Nat × Nat × Nat × ClassId × (Nat → Option Nat)) => match u with | (qa_129, qa_132, qa_130, qa_131, ck_87, fl_9) => fl_9 0 = some qa_132) (zB D A (fun (u : Nat × Nat × Nat × Nat × ClassId × (Nat → Option Nat)) => match u with | (qa_129, qa_132, qa_130, qa_131, ck_87, fl_9) => [(h0, .inr (1, [.ref r0, .ref r1, .ref qa_129, .ref qa_130, .int 0, .int 0, .ref qa_131])), (qa_129, .inl (ck_87, 64, .inr (.inr (.inr (.inr fl_9))))), (qa_132, .inr (4, [.int 0, .int 0, .int 0, .int 0, .int 0, .int 0, .int 0]))]) (fun (u : Nat × Nat × Nat × Nat × ClassId × (Nat → Option Nat)) => match u with | (qa_129, qa_132, qa_130, qa_131, ck_87, fl_9) => [(ck_87, .object RX4)])) A) (va_A [(h0, .inr (1, [.null, .null, .null, .null, .int 0, .int 0, .null]))] sz)) 131 1031 (va_A [(h0, .inr (1, [.null, .null, .null, .null, .int 0, .int 0, .null]))] sz) := by
  refine zOfW (QF := fun A => va_Qv (fun (u : Nat × Nat × Nat × Nat × ClassId × (Nat → Option Nat)) => match u with | (qa_129, qa_132, qa_130, qa_131, ck_87, fl_9) => fl_9 0 = some qa_132) (zB D A (fun (u : Nat × Nat × Nat × Nat × ClassId × (Nat → Option Nat)) => match u with | (qa_129, qa_132, qa_130, qa_131, ck_87, fl_9) => [(h0, .inr (1, [.ref r0, .ref r1, .ref qa_129, .ref qa_130, .int 0, .int 0, .ref qa_131])), (qa_129, .inl (ck_87, 64, .inr (.inr (.inr (.inr fl_9))))), (qa_132, .inr (4, [.int 0, .int 0, .int 0, .int 0, .int 0, .int 0, .int 0]))]) (fun (u : Nat × Nat × Nat × Nat × ClassId × (Nat → Option Nat)) => match u with | (qa_129, qa_132, qa_130, qa_131, ck_87, fl_9) => [(ck_87, .object RX4)])) A) (cc := cX1_init) (maxL := 4) (ret := none) (by decide) rfl (Nat.le_of_ble_eq_true rfl) ?_
  intro p e s m below meth c A ls hx hb hr hml hts hown hlocks hin hA hS hP hD hK hN hl
  have hl : lv_has ls 4 [(0, .ref h0), (1, .ref r0), (2, .ref r1)] := hl
  refine lv_aload_n hx hb dX1_init_0 rfl (lv_at hl 0 rfl) ?_
  refine W.objInit hx hb hown (hts (.methodLink RX1 3 objectInit) (List.mem_of_getElem? (i := 1) rfl)) (hts (.instanceMethod objectInit) (List.mem_of_getElem? (i := 2) rfl)) (hts (.code objectInit ⟨#[0xb1]⟩ 1 none) (List.mem_of_getElem? (i := 3) rfl)) rfl (by rw [hml]; exact hl.1) rfl dX1_init_1 (Nat.le_of_ble_eq_true rfl) (Nat.le_of_ble_eq_true rfl) ?_
  refine W.eq (g2 := F0 m 4 ls []) rfl ?_
  refine lv_aload_n hx hb dX1_init_4 rfl (lv_at hl 0 rfl) ?_
  refine lv_bipush (v := 64) hx hb dX1_init_5 (by decide) ?_
  refine va_newq (N' := 64) hx hb hown (hts (.classLink RX1 9 RX4) (List.mem_of_getElem? (i := 4) rfl)) hN.1 hK hP hD hS hA (by decide) (by decide) (zby_ref (Nat.le_of_ble_eq_true rfl)) (Nat.le_of_ble_eq_true rfl) (Nat.le_of_ble_eq_true rfl) dX1_init_7 (fun qa_136 ck_89 H hK hP hD hS => ?_)
  have hK : va_K D vwCl [(ck_89, .object RX4)] s := hK
  have hP : va_P D vwCl [(h0, .inr (1, [.null, .null, .null, .null, .int 0, .int 0, .null])), (qa_136, .inl (ck_89, 64, .inr (.inr (.inr (.inr (fun _ => none))))))] H := hP
  have hD : va_D A [(h0, .inr (1, [.null, .null, .null, .null, .int 0, .int 0, .null])), (qa_136, .inl (ck_89, 64, .inr (.inr (.inr (.inr (fun _ => none))))))] := hD
  refine W.widen (k := 1) (n := 64) (Nat.le_of_ble_eq_true rfl) (Nat.le_of_ble_eq_true rfl) ?_
  refine va_put (D := D) (ci := 1) (v := .ref qa_136) (ty := (tyX1 2)) (C := RX1) (T := TX1) (N := 7) hx hb hts iuX1_init_X1 tyX1 tyX1_ok nmX1 hown hK hP hD hS 0 rfl rfl 2 (by decide) (hts (.fieldLink RX1 11 "StraitGame$Guess" "now" "[LStraitGame$Position;") (List.mem_of_getElem? (i := 5) rfl)) (fun _ h9 => h9) rfl (by decide +kernel) rfl rfl (Nat.le_of_ble_eq_true rfl) dX1_init_10 (fun H locs hP hD hS => ?_)
  have hP : va_P D vwCl [(h0, .inr (1, [.null, .null, .ref qa_136, .null, .int 0, .int 0, .null])), (qa_136, .inl (ck_89, 64, .inr (.inr (.inr (.inr (fun _ => none))))))] H := hP
  have hD : va_D A [(h0, .inr (1, [.null, .null, .ref qa_136, .null, .int 0, .int 0, .null])), (qa_136, .inl (ck_89, 64, .inr (.inr (.inr (.inr (fun _ => none))))))] := hD
  refine lv_aload_n hx hb dX1_init_13 rfl (lv_at hl 0 rfl) ?_
  refine lv_bipush (v := 64) hx hb dX1_init_14 (by decide) ?_
  refine va_newq (N' := 64) hx hb hown (hts (.classLink RX1 9 RX4) (List.mem_of_getElem? (i := 4) rfl)) hN.1 hK hP hD hS hA (by decide) (by decide) (zby_ref (Nat.le_of_ble_eq_true rfl)) (Nat.le_of_ble_eq_true rfl) (Nat.le_of_ble_eq_true rfl) dX1_init_16 (fun qa_137 ck_90 H hK hP hD hS => ?_)
  have hK : va_K D vwCl [(ck_89, .object RX4), (ck_90, .object RX4)] s := hK
  have hP : va_P D vwCl [(h0, .inr (1, [.null, .null, .ref qa_136, .null, .int 0, .int 0, .null])), (qa_136, .inl (ck_89, 64, .inr (.inr (.inr (.inr (fun _ => none)))))), (qa_137, .inl (ck_90, 64, .inr (.inr (.inr (.inr (fun _ => none))))))] H := hP
  have hD : va_D A [(h0, .inr (1, [.null, .null, .ref qa_136, .null, .int 0, .int 0, .null])), (qa_136, .inl (ck_89, 64, .inr (.inr (.inr (.inr (fun _ => none)))))), (qa_137, .inl (ck_90, 64, .inr (.inr (.inr (.inr (fun _ => none))))))] := hD
  refine W.widen (k := 2) (n := 128) (Nat.le_of_ble_eq_true rfl) (Nat.le_of_ble_eq_true rfl) ?_
  refine va_put (D := D) (ci := 1) (v := .ref qa_137) (ty := (tyX1 3)) (C := RX1) (T := TX1) (N := 7) hx hb hts iuX1_init_X1 tyX1 tyX1_ok nmX1 hown hK hP hD hS 0 rfl rfl 3 (by decide) (hts (.fieldLink RX1 17 "StraitGame$Guess" "next" "[LStraitGame$Position;") (List.mem_of_getElem? (i := 6) rfl)) (fun _ h9 => h9) rfl (by decide +kernel) rfl rfl (Nat.le_of_ble_eq_true rfl) dX1_init_19 (fun H locs hP hD hS => ?_)
  have hP : va_P D vwCl [(h0, .inr (1, [.null, .null, .ref qa_136, .ref qa_137, .int 0, .int 0, .null])), (qa_136, .inl (ck_89, 64, .inr (.inr (.inr (.inr (fun _ => none)))))), (qa_137, .inl (ck_90, 64, .inr (.inr (.inr (.inr (fun _ => none))))))] H := hP
  have hD : va_D A [(h0, .inr (1, [.null, .null, .ref qa_136, .ref qa_137, .int 0, .int 0, .null])), (qa_136, .inl (ck_89, 64, .inr (.inr (.inr (.inr (fun _ => none)))))), (qa_137, .inl (ck_90, 64, .inr (.inr (.inr (.inr (fun _ => none))))))] := hD
  refine lv_aload_n hx hb dX1_init_22 rfl (lv_at hl 0 rfl) ?_
  refine lv_iconst (v := 0) hx hb dX1_init_23 (by decide) ?_
  refine va_put (D := D) (ci := 1) (v := .int 0) (ty := .int) (C := RX1) (T := TX1) (N := 7) hx hb hts iuX1_init_X1 tyX1 tyX1_ok nmX1 hown hK hP hD hS 0 rfl rfl 4 (by decide) (hts (.fieldLink RX1 20 "StraitGame$Guess" "count" "I") (List.mem_of_getElem? (i := 7) rfl)) (fun _ h9 => h9) rfl (by decide +kernel) rfl rfl (Nat.le_of_ble_eq_true rfl) dX1_init_24 (fun H locs hP hD hS => ?_)
  have hP : va_P D vwCl [(h0, .inr (1, [.null, .null, .ref qa_136, .ref qa_137, .int 0, .int 0, .null])), (qa_136, .inl (ck_89, 64, .inr (.inr (.inr (.inr (fun _ => none)))))), (qa_137, .inl (ck_90, 64, .inr (.inr (.inr (.inr (fun _ => none))))))] H := hP
  have hD : va_D A [(h0, .inr (1, [.null, .null, .ref qa_136, .ref qa_137, .int 0, .int 0, .null])), (qa_136, .inl (ck_89, 64, .inr (.inr (.inr (.inr (fun _ => none)))))), (qa_137, .inl (ck_90, 64, .inr (.inr (.inr (.inr (fun _ => none))))))] := hD
  refine lv_aload_n hx hb dX1_init_27 rfl (lv_at hl 0 rfl) ?_
  refine lv_iconst (v := 0) hx hb dX1_init_28 (by decide) ?_
  refine va_put (D := D) (ci := 1) (v := .int 0) (ty := .int) (C := RX1) (T := TX1) (N := 7) hx hb hts iuX1_init_X1 tyX1 tyX1_ok nmX1 hown hK hP hD hS 0 rfl rfl 5 (by decide) (hts (.fieldLink RX1 24 "StraitGame$Guess" "nextCount" "I") (List.mem_of_getElem? (i := 8) rfl)) (fun _ h9 => h9) rfl (by decide +kernel) rfl rfl (Nat.le_of_ble_eq_true rfl) dX1_init_29 (fun H locs hP hD hS => ?_)
  have hP : va_P D vwCl [(h0, .inr (1, [.null, .null, .ref qa_136, .ref qa_137, .int 0, .int 0, .null])), (qa_136, .inl (ck_89, 64, .inr (.inr (.inr (.inr (fun _ => none)))))), (qa_137, .inl (ck_90, 64, .inr (.inr (.inr (.inr (fun _ => none))))))] H := hP
  have hD : va_D A [(h0, .inr (1, [.null, .null, .ref qa_136, .ref qa_137, .int 0, .int 0, .null])), (qa_136, .inl (ck_89, 64, .inr (.inr (.inr (.inr (fun _ => none)))))), (qa_137, .inl (ck_90, 64, .inr (.inr (.inr (.inr (fun _ => none))))))] := hD
  refine lv_aload_n hx hb dX1_init_32 rfl (lv_at hl 0 rfl) ?_
  refine va_new (ci := 4) (fs := [.int 0, .int 0, .int 0, .int 0, .int 0, .int 0, .int 0]) (C := RX4) (T := TX4) (N := 7) hx hb hts iuX1_init_X4 tyX4 tyX4_ok hown (hts (.classLink RX1 9 RX4) (List.mem_of_getElem? (i := 4) rfl)) (hts (.instantiable RX4 7) (List.mem_of_getElem? (i := 9) rfl)) (hts (.initialized RX4) (List.mem_of_getElem? (i := 10) rfl)) hK hP hD hS hA rfl fsX4 (Nat.le_of_ble_eq_true rfl) (Nat.le_of_ble_eq_true rfl) dX1_init_33 (fun qa_138 H hP hD hS => ?_)
  have hP : va_P D vwCl [(h0, .inr (1, [.null, .null, .ref qa_136, .ref qa_137, .int 0, .int 0, .null])), (qa_136, .inl (ck_89, 64, .inr (.inr (.inr (.inr (fun _ => none)))))), (qa_137, .inl (ck_90, 64, .inr (.inr (.inr (.inr (fun _ => none)))))), (qa_138, .inr (4, [.int 0, .int 0, .int 0, .int 0, .int 0, .int 0, .int 0]))] H := hP
  have hD : va_D A [(h0, .inr (1, [.null, .null, .ref qa_136, .ref qa_137, .int 0, .int 0, .null])), (qa_136, .inl (ck_89, 64, .inr (.inr (.inr (.inr (fun _ => none)))))), (qa_137, .inl (ck_90, 64, .inr (.inr (.inr (.inr (fun _ => none)))))), (qa_138, .inr (4, [.int 0, .int 0, .int 0, .int 0, .int 0, .int 0, .int 0]))] := hD
  refine W.widen (k := 3) (n := 135) (Nat.le_of_ble_eq_true rfl) (Nat.le_of_ble_eq_true rfl) ?_
  refine lv_dup hx hb dX1_init_36 rfl ?_
  refine zA_v (zR_IN (As := []) (rest := [.ref qa_138, .ref h0]) (host := RX11) ⟨hx, hb, hml, hown, hts⟩ (zX4_init_1 l D qa_138 _) ⟨va_cnB 0 hts gX1_init_X4_init_n27 rfl rfl rfl (hN.2 _ (List.mem_of_getElem? (i := 5) rfl)) (hts (.initialized RX4) (List.mem_of_getElem? (i := 10) rfl)) (by decide +kernel) ⟨(Nat.le_of_ble_eq_true rfl), (Nat.le_of_ble_eq_true rfl)⟩, rfl, (hts (.instanceMethod yX4_init) (List.mem_of_getElem? (i := 14) rfl))⟩ hP hD hK hN [3] [] rfl (by decide) rfl rfl hl.1 rfl (Nat.le_of_ble_eq_true rfl) dX1_init_37 ⟨(Nat.le_of_ble_eq_true rfl), (Nat.le_of_ble_eq_true rfl)⟩) hP hD hK hS hA [3] [0, 1, 2] rfl rfl (by decide) (by decide) (fun u H locs hw hP hD hK hS => ?_)
  have hK : va_K D vwCl [(ck_89, .object RX4), (ck_90, .object RX4)] s := hK
  have hP : va_P D vwCl [(h0, .inr (1, [.null, .null, .ref qa_136, .ref qa_137, .int 0, .int 0, .null])), (qa_136, .inl (ck_89, 64, .inr (.inr (.inr (.inr (fun _ => none)))))), (qa_137, .inl (ck_90, 64, .inr (.inr (.inr (.inr (fun _ => none)))))), (qa_138, .inr (4, [.int 0, .int 0, .int 0, .int 0, .int 0, .int 0, .int 0]))] H := hP
  have hD : va_D A [(h0, .inr (1, [.null, .null, .ref qa_136, .ref qa_137, .int 0, .int 0, .null])), (qa_136, .inl (ck_89, 64, .inr (.inr (.inr (.inr (fun _ => none)))))), (qa_137, .inl (ck_90, 64, .inr (.inr (.inr (.inr (fun _ => none)))))), (qa_138, .inr (4, [.int 0, .int 0, .int 0, .int 0, .int 0, .int 0, .int 0]))] := hD
  refine W.widen (k := 3) (n := 135) (Nat.le_of_ble_eq_true rfl) (Nat.le_of_ble_eq_true rfl) ?_
  refine va_putF (D := D) (ci := 1) (v := .ref qa_138) (ty := (tyX1 6)) (C := RX1) (T := TX1) (N := 7) hx hb hts iuX1_init_X1 tyX1 tyX1_ok nmX1 hown hK hP hD hS 0 rfl rfl 6 (by decide) (hts (.fieldLink RX1 28 "StraitGame$Guess" "supposed" "LStraitGame$Position;") (List.mem_of_getElem? (i := 11) rfl)) (fun _ h9 => h9) rfl hin rfl (by decide +kernel) rfl rfl (Nat.le_of_ble_eq_true rfl) dX1_init_40 (fun H locs hP hD hS => ?_)
  have hP : va_P D vwCl [(h0, .inr (1, [.null, .null, .ref qa_136, .ref qa_137, .int 0, .int 0, .ref qa_138])), (qa_136, .inl (ck_89, 64, .inr (.inr (.inr (.inr (fun _ => none)))))), (qa_137, .inl (ck_90, 64, .inr (.inr (.inr (.inr (fun _ => none)))))), (qa_138, .inr (4, [.int 0, .int 0, .int 0, .int 0, .int 0, .int 0, .int 0]))] H := hP
  have hD : va_D A [(h0, .inr (1, [.null, .null, .ref qa_136, .ref qa_137, .int 0, .int 0, .ref qa_138])), (qa_136, .inl (ck_89, 64, .inr (.inr (.inr (.inr (fun _ => none)))))), (qa_137, .inl (ck_90, 64, .inr (.inr (.inr (.inr (fun _ => none)))))), (qa_138, .inr (4, [.int 0, .int 0, .int 0, .int 0, .int 0, .int 0, .int 0]))] := hD
  refine lv_aload_n hx hb dX1_init_43 rfl (lv_at hl 0 rfl) ?_
  refine lv_aload_n hx hb dX1_init_44 rfl (lv_at hl 1 rfl) ?_
  refine va_putF (D := D) (ci := 1) (v := .ref r0) (ty := (tyX1 0)) (C := RX1) (T := TX1) (N := 7) hx hb hts iuX1_init_X1 tyX1 tyX1_ok nmX1 hown hK hP hD hS 0 rfl rfl 0 (by decide) (hts (.fieldLink RX1 32 "StraitGame$Guess" "laws" "LStraitGame$Laws;") (List.mem_of_getElem? (i := 12) rfl)) (fun _ h9 => h9) rfl hin rfl (by decide +kernel) rfl rfl (Nat.le_of_ble_eq_true rfl) dX1_init_45 (fun H locs hP hD hS => ?_)
  have hP : va_P D vwCl [(h0, .inr (1, [.ref r0, .null, .ref qa_136, .ref qa_137, .int 0, .int 0, .ref qa_138])), (qa_136, .inl (ck_89, 64, .inr (.inr (.inr (.inr (fun _ => none)))))), (qa_137, .inl (ck_90, 64, .inr (.inr (.inr (.inr (fun _ => none)))))), (qa_138, .inr (4, [.int 0, .int 0, .int 0, .int 0, .int 0, .int 0, .int 0]))] H := hP
  have hD : va_D A [(h0, .inr (1, [.ref r0, .null, .ref qa_136, .ref qa_137, .int 0, .int 0, .ref qa_138])), (qa_136, .inl (ck_89, 64, .inr (.inr (.inr (.inr (fun _ => none)))))), (qa_137, .inl (ck_90, 64, .inr (.inr (.inr (.inr (fun _ => none)))))), (qa_138, .inr (4, [.int 0, .int 0, .int 0, .int 0, .int 0, .int 0, .int 0]))] := hD
  refine lv_aload_n hx hb dX1_init_48 rfl (lv_at hl 0 rfl) ?_
  refine lv_aload_n hx hb dX1_init_49 rfl (lv_at hl 2 rfl) ?_
  refine va_putF (D := D) (ci := 1) (v := .ref r1) (ty := (tyX1 1)) (C := RX1) (T := TX1) (N := 7) hx hb hts iuX1_init_X1 tyX1 tyX1_ok nmX1 hown hK hP hD hS 0 rfl rfl 1 (by decide) (hts (.fieldLink RX1 36 "StraitGame$Guess" "nights" "LStraitGame$Nights;") (List.mem_of_getElem? (i := 13) rfl)) (fun _ h9 => h9) rfl hin rfl (by decide +kernel) rfl rfl (Nat.le_of_ble_eq_true rfl) dX1_init_50 (fun H locs hP hD hS => ?_)
  have hP : va_P D vwCl [(h0, .inr (1, [.ref r0, .ref r1, .ref qa_136, .ref qa_137, .int 0, .int 0, .ref qa_138])), (qa_136, .inl (ck_89, 64, .inr (.inr (.inr (.inr (fun _ => none)))))), (qa_137, .inl (ck_90, 64, .inr (.inr (.inr (.inr (fun _ => none)))))), (qa_138, .inr (4, [.int 0, .int 0, .int 0, .int 0, .int 0, .int 0, .int 0]))] H := hP
  have hD : va_D A [(h0, .inr (1, [.ref r0, .ref r1, .ref qa_136, .ref qa_137, .int 0, .int 0, .ref qa_138])), (qa_136, .inl (ck_89, 64, .inr (.inr (.inr (.inr (fun _ => none)))))), (qa_137, .inl (ck_90, 64, .inr (.inr (.inr (.inr (fun _ => none)))))), (qa_138, .inr (4, [.int 0, .int 0, .int 0, .int 0, .int 0, .int 0, .int 0]))] := hD
  refine lv_iconst (v := 0) hx hb dX1_init_53 (by decide) ?_
  refine lv_istore_n (lv' := [(3, .int 0), (0, .ref h0), (1, .ref r0), (2, .ref r1)]) hx hb dX1_init_54 rfl hl (by decide) rfl (fun ls hl => ?_)
  refine lv_iload_n hx hb dX1_init_55 rfl (lv_at hl 0 rfl) ?_
  refine lv_bipush (v := 64) hx hb dX1_init_56 (by decide) ?_
  refine lv_icmp_ge (tgt := 93) hx hb dX1_init_58 (by decide) (fun h9 => absurd h9 (by decide)) (fun _ => ?_)
  refine lv_aload_n hx hb dX1_init_61 rfl (lv_at hl 1 rfl) ?_
  refine va_get (D := D) (ci := 1) (v := .ref qa_136) (C := RX1) (T := TX1) (N := 7) hx hb hts iuX1_init_X1 hown hK hP 0 rfl rfl 2 (by decide) (hts (.fieldLink RX1 11 "StraitGame$Guess" "now" "[LStraitGame$Position;") (List.mem_of_getElem? (i := 5) rfl)) (fun _ h9 => h9) rfl dX1_init_62 ?_
  refine lv_iload_n hx hb dX1_init_65 rfl (lv_at hl 0 rfl) ?_
  refine va_new (ci := 4) (fs := [.int 0, .int 0, .int 0, .int 0, .int 0, .int 0, .int 0]) (C := RX4) (T := TX4) (N := 7) hx hb hts iuX1_init_X4 tyX4 tyX4_ok hown (hts (.classLink RX1 9 RX4) (List.mem_of_getElem? (i := 4) rfl)) (hts (.instantiable RX4 7) (List.mem_of_getElem? (i := 9) rfl)) (hts (.initialized RX4) (List.mem_of_getElem? (i := 10) rfl)) hK hP hD hS hA rfl fsX4 (Nat.le_of_ble_eq_true rfl) (Nat.le_of_ble_eq_true rfl) dX1_init_66 (fun qa_139 H hP hD hS => ?_)
  have hP : va_P D vwCl [(h0, .inr (1, [.ref r0, .ref r1, .ref qa_136, .ref qa_137, .int 0, .int 0, .ref qa_138])), (qa_136, .inl (ck_89, 64, .inr (.inr (.inr (.inr (fun _ => none)))))), (qa_137, .inl (ck_90, 64, .inr (.inr (.inr (.inr (fun _ => none)))))), (qa_138, .inr (4, [.int 0, .int 0, .int 0, .int 0, .int 0, .int 0, .int 0])), (qa_139, .inr (4, [.int 0, .int 0, .int 0, .int 0, .int 0, .int 0, .int 0]))] H := hP
  have hD : va_D A [(h0, .inr (1, [.ref r0, .ref r1, .ref qa_136, .ref qa_137, .int 0, .int 0, .ref qa_138])), (qa_136, .inl (ck_89, 64, .inr (.inr (.inr (.inr (fun _ => none)))))), (qa_137, .inl (ck_90, 64, .inr (.inr (.inr (.inr (fun _ => none)))))), (qa_138, .inr (4, [.int 0, .int 0, .int 0, .int 0, .int 0, .int 0, .int 0])), (qa_139, .inr (4, [.int 0, .int 0, .int 0, .int 0, .int 0, .int 0, .int 0]))] := hD
  refine W.widen (k := 4) (n := 142) (Nat.le_of_ble_eq_true rfl) (Nat.le_of_ble_eq_true rfl) ?_
  refine lv_dup hx hb dX1_init_69 rfl ?_
  refine zA_v (zR_IN (As := []) (rest := [.ref qa_139, .int 0, .ref qa_136]) (host := RX11) ⟨hx, hb, hml, hown, hts⟩ (zX4_init_1 l D qa_139 _) ⟨va_cnB 0 hts gX1_init_X4_init_n27 rfl rfl rfl (hN.2 _ (List.mem_of_getElem? (i := 5) rfl)) (hts (.initialized RX4) (List.mem_of_getElem? (i := 10) rfl)) (by decide +kernel) ⟨(Nat.le_of_ble_eq_true rfl), (Nat.le_of_ble_eq_true rfl)⟩, rfl, (hts (.instanceMethod yX4_init) (List.mem_of_getElem? (i := 14) rfl))⟩ hP hD hK hN [4] [] rfl (by decide) rfl rfl hl.1 rfl (Nat.le_of_ble_eq_true rfl) dX1_init_70 ⟨(Nat.le_of_ble_eq_true rfl), (Nat.le_of_ble_eq_true rfl)⟩) hP hD hK hS hA [4] [0, 1, 2, 3] rfl rfl (by decide) (by decide) (fun u H locs hw hP hD hK hS => ?_)
  have hK : va_K D vwCl [(ck_89, .object RX4), (ck_90, .object RX4)] s := hK
  have hP : va_P D vwCl [(h0, .inr (1, [.ref r0, .ref r1, .ref qa_136, .ref qa_137, .int 0, .int 0, .ref qa_138])), (qa_136, .inl (ck_89, 64, .inr (.inr (.inr (.inr (fun _ => none)))))), (qa_137, .inl (ck_90, 64, .inr (.inr (.inr (.inr (fun _ => none)))))), (qa_138, .inr (4, [.int 0, .int 0, .int 0, .int 0, .int 0, .int 0, .int 0])), (qa_139, .inr (4, [.int 0, .int 0, .int 0, .int 0, .int 0, .int 0, .int 0]))] H := hP
  have hD : va_D A [(h0, .inr (1, [.ref r0, .ref r1, .ref qa_136, .ref qa_137, .int 0, .int 0, .ref qa_138])), (qa_136, .inl (ck_89, 64, .inr (.inr (.inr (.inr (fun _ => none)))))), (qa_137, .inl (ck_90, 64, .inr (.inr (.inr (.inr (fun _ => none)))))), (qa_138, .inr (4, [.int 0, .int 0, .int 0, .int 0, .int 0, .int 0, .int 0])), (qa_139, .inr (4, [.int 0, .int 0, .int 0, .int 0, .int 0, .int 0, .int 0]))] := hD
  refine W.widen (k := 4) (n := 142) (Nat.le_of_ble_eq_true rfl) (Nat.le_of_ble_eq_true rfl) ?_
  refine va_astq (r := (RX4, TX4, 7)) hx hb hK hP hD hS 1 0 4 4 rfl rfl rfl rfl (z_in (by decide)) dX1_init_73 (fun H locs hP hD hS => ?_)
  have hP : va_P D vwCl [(h0, .inr (1, [.ref r0, .ref r1, .ref qa_136, .ref qa_137, .int 0, .int 0, .ref qa_138])), (qa_136, .inl (ck_89, 64, .inr (.inr (.inr (.inr (va_up (fun _ => none) 0 (some qa_139))))))), (qa_137, .inl (ck_90, 64, .inr (.inr (.inr (.inr (fun _ => none)))))), (qa_138, .inr (4, [.int 0, .int 0, .int 0, .int 0, .int 0, .int 0, .int 0])), (qa_139, .inr (4, [.int 0, .int 0, .int 0, .int 0, .int 0, .int 0, .int 0]))] H := hP
  have hD : va_D A [(h0, .inr (1, [.ref r0, .ref r1, .ref qa_136, .ref qa_137, .int 0, .int 0, .ref qa_138])), (qa_136, .inl (ck_89, 64, .inr (.inr (.inr (.inr (va_up (fun _ => none) 0 (some qa_139))))))), (qa_137, .inl (ck_90, 64, .inr (.inr (.inr (.inr (fun _ => none)))))), (qa_138, .inr (4, [.int 0, .int 0, .int 0, .int 0, .int 0, .int 0, .int 0])), (qa_139, .inr (4, [.int 0, .int 0, .int 0, .int 0, .int 0, .int 0, .int 0]))] := hD
  refine lv_aload_n hx hb dX1_init_74 rfl (lv_at hl 1 rfl) ?_
  refine va_get (D := D) (ci := 1) (v := .ref qa_137) (C := RX1) (T := TX1) (N := 7) hx hb hts iuX1_init_X1 hown hK hP 0 rfl rfl 3 (by decide) (hts (.fieldLink RX1 17 "StraitGame$Guess" "next" "[LStraitGame$Position;") (List.mem_of_getElem? (i := 6) rfl)) (fun _ h9 => h9) rfl dX1_init_75 ?_
  refine lv_iload_n hx hb dX1_init_78 rfl (lv_at hl 0 rfl) ?_
  refine va_new (ci := 4) (fs := [.int 0, .int 0, .int 0, .int 0, .int 0, .int 0, .int 0]) (C := RX4) (T := TX4) (N := 7) hx hb hts iuX1_init_X4 tyX4 tyX4_ok hown (hts (.classLink RX1 9 RX4) (List.mem_of_getElem? (i := 4) rfl)) (hts (.instantiable RX4 7) (List.mem_of_getElem? (i := 9) rfl)) (hts (.initialized RX4) (List.mem_of_getElem? (i := 10) rfl)) hK hP hD hS hA rfl fsX4 (Nat.le_of_ble_eq_true rfl) (Nat.le_of_ble_eq_true rfl) dX1_init_79 (fun qa_140 H hP hD hS => ?_)
  have hP : va_P D vwCl [(h0, .inr (1, [.ref r0, .ref r1, .ref qa_136, .ref qa_137, .int 0, .int 0, .ref qa_138])), (qa_136, .inl (ck_89, 64, .inr (.inr (.inr (.inr (va_up (fun _ => none) 0 (some qa_139))))))), (qa_137, .inl (ck_90, 64, .inr (.inr (.inr (.inr (fun _ => none)))))), (qa_138, .inr (4, [.int 0, .int 0, .int 0, .int 0, .int 0, .int 0, .int 0])), (qa_139, .inr (4, [.int 0, .int 0, .int 0, .int 0, .int 0, .int 0, .int 0])), (qa_140, .inr (4, [.int 0, .int 0, .int 0, .int 0, .int 0, .int 0, .int 0]))] H := hP
  have hD : va_D A [(h0, .inr (1, [.ref r0, .ref r1, .ref qa_136, .ref qa_137, .int 0, .int 0, .ref qa_138])), (qa_136, .inl (ck_89, 64, .inr (.inr (.inr (.inr (va_up (fun _ => none) 0 (some qa_139))))))), (qa_137, .inl (ck_90, 64, .inr (.inr (.inr (.inr (fun _ => none)))))), (qa_138, .inr (4, [.int 0, .int 0, .int 0, .int 0, .int 0, .int 0, .int 0])), (qa_139, .inr (4, [.int 0, .int 0, .int 0, .int 0, .int 0, .int 0, .int 0])), (qa_140, .inr (4, [.int 0, .int 0, .int 0, .int 0, .int 0, .int 0, .int 0]))] := hD
  refine W.widen (k := 5) (n := 149) (Nat.le_of_ble_eq_true rfl) (Nat.le_of_ble_eq_true rfl) ?_
  refine lv_dup hx hb dX1_init_82 rfl ?_
  refine zA_v (zR_IN (As := []) (rest := [.ref qa_140, .int 0, .ref qa_137]) (host := RX11) ⟨hx, hb, hml, hown, hts⟩ (zX4_init_1 l D qa_140 _) ⟨va_cnB 0 hts gX1_init_X4_init_n27 rfl rfl rfl (hN.2 _ (List.mem_of_getElem? (i := 5) rfl)) (hts (.initialized RX4) (List.mem_of_getElem? (i := 10) rfl)) (by decide +kernel) ⟨(Nat.le_of_ble_eq_true rfl), (Nat.le_of_ble_eq_true rfl)⟩, rfl, (hts (.instanceMethod yX4_init) (List.mem_of_getElem? (i := 14) rfl))⟩ hP hD hK hN [5] [] rfl (by decide) rfl rfl hl.1 rfl (Nat.le_of_ble_eq_true rfl) dX1_init_83 ⟨(Nat.le_of_ble_eq_true rfl), (Nat.le_of_ble_eq_true rfl)⟩) hP hD hK hS hA [5] [0, 1, 2, 3, 4] rfl rfl (by decide) (by decide) (fun u H locs hw hP hD hK hS => ?_)
  have hK : va_K D vwCl [(ck_89, .object RX4), (ck_90, .object RX4)] s := hK
  have hP : va_P D vwCl [(h0, .inr (1, [.ref r0, .ref r1, .ref qa_136, .ref qa_137, .int 0, .int 0, .ref qa_138])), (qa_136, .inl (ck_89, 64, .inr (.inr (.inr (.inr (va_up (fun _ => none) 0 (some qa_139))))))), (qa_137, .inl (ck_90, 64, .inr (.inr (.inr (.inr (fun _ => none)))))), (qa_138, .inr (4, [.int 0, .int 0, .int 0, .int 0, .int 0, .int 0, .int 0])), (qa_139, .inr (4, [.int 0, .int 0, .int 0, .int 0, .int 0, .int 0, .int 0])), (qa_140, .inr (4, [.int 0, .int 0, .int 0, .int 0, .int 0, .int 0, .int 0]))] H := hP
  have hD : va_D A [(h0, .inr (1, [.ref r0, .ref r1, .ref qa_136, .ref qa_137, .int 0, .int 0, .ref qa_138])), (qa_136, .inl (ck_89, 64, .inr (.inr (.inr (.inr (va_up (fun _ => none) 0 (some qa_139))))))), (qa_137, .inl (ck_90, 64, .inr (.inr (.inr (.inr (fun _ => none)))))), (qa_138, .inr (4, [.int 0, .int 0, .int 0, .int 0, .int 0, .int 0, .int 0])), (qa_139, .inr (4, [.int 0, .int 0, .int 0, .int 0, .int 0, .int 0, .int 0])), (qa_140, .inr (4, [.int 0, .int 0, .int 0, .int 0, .int 0, .int 0, .int 0]))] := hD
  refine W.widen (k := 5) (n := 149) (Nat.le_of_ble_eq_true rfl) (Nat.le_of_ble_eq_true rfl) ?_
  refine va_astq (r := (RX4, TX4, 7)) hx hb hK hP hD hS 2 1 5 4 rfl rfl rfl rfl (z_in (by decide)) dX1_init_86 (fun H locs hP hD hS => ?_)
  have hP : va_P D vwCl [(h0, .inr (1, [.ref r0, .ref r1, .ref qa_136, .ref qa_137, .int 0, .int 0, .ref qa_138])), (qa_136, .inl (ck_89, 64, .inr (.inr (.inr (.inr (va_up (fun _ => none) 0 (some qa_139))))))), (qa_137, .inl (ck_90, 64, .inr (.inr (.inr (.inr (va_up (fun _ => none) 0 (some qa_140))))))), (qa_138, .inr (4, [.int 0, .int 0, .int 0, .int 0, .int 0, .int 0, .int 0])), (qa_139, .inr (4, [.int 0, .int 0, .int 0, .int 0, .int 0, .int 0, .int 0])), (qa_140, .inr (4, [.int 0, .int 0, .int 0, .int 0, .int 0, .int 0, .int 0]))] H := hP
  have hD : va_D A [(h0, .inr (1, [.ref r0, .ref r1, .ref qa_136, .ref qa_137, .int 0, .int 0, .ref qa_138])), (qa_136, .inl (ck_89, 64, .inr (.inr (.inr (.inr (va_up (fun _ => none) 0 (some qa_139))))))), (qa_137, .inl (ck_90, 64, .inr (.inr (.inr (.inr (va_up (fun _ => none) 0 (some qa_140))))))), (qa_138, .inr (4, [.int 0, .int 0, .int 0, .int 0, .int 0, .int 0, .int 0])), (qa_139, .inr (4, [.int 0, .int 0, .int 0, .int 0, .int 0, .int 0, .int 0])), (qa_140, .inr (4, [.int 0, .int 0, .int 0, .int 0, .int 0, .int 0, .int 0]))] := hD
  refine lv_iinc (v := 1) (lv' := [(3, .int 1), (0, .ref h0), (1, .ref r0), (2, .ref r1)]) hx hb dX1_init_87 hl (k := 0) rfl (by decide) (by decide) rfl (fun ls hl => ?_)
  refine lv_goto (tgt := 55) hx hb dX1_init_90 (by decide) ?_
  have hloop : ∀ (n k : Nat) (fl_11 : Nat → Option Nat) (fl_12 : Nat → Option Nat) (H : Heap) (locs : List Loc) (ls : Array Slot), k + n = 64 → 1 ≤ k → fl_11 0 = some qa_139 → fl_12 0 = some qa_140 → va_P D vwCl [(h0, .inr (1, [.ref r0, .ref r1, .ref qa_136, .ref qa_137, .int 0, .int 0, .ref qa_138])), (qa_136, .inl (ck_89, 64, .inr (.inr (.inr (.inr fl_11))))), (qa_137, .inl (ck_90, 64, .inr (.inr (.inr (.inr fl_12))))), (qa_138, .inr (4, [.int 0, .int 0, .int 0, .int 0, .int 0, .int 0, .int 0])), (qa_139, .inr (4, [.int 0, .int 0, .int 0, .int 0, .int 0, .int 0, .int 0])), (qa_140, .inr (4, [.int 0, .int 0, .int 0, .int 0, .int 0, .int 0, .int 0]))] H → va_D A [(h0, .inr (1, [.ref r0, .ref r1, .ref qa_136, .ref qa_137, .int 0, .int 0, .ref qa_138])), (qa_136, .inl (ck_89, 64, .inr (.inr (.inr (.inr fl_11))))), (qa_137, .inl (ck_90, 64, .inr (.inr (.inr (.inr fl_12))))), (qa_138, .inr (4, [.int 0, .int 0, .int 0, .int 0, .int 0, .int 0, .int 0])), (qa_139, .inr (4, [.int 0, .int 0, .int 0, .int 0, .int 0, .int 0, .int 0])), (qa_140, .inr (4, [.int 0, .int 0, .int 0, .int 0, .int 0, .int 0, .int 0]))] → va_S A s.heap H locs → lv_has ls 4 [(3, .int (nI k)), (0, .ref h0), (1, .ref r0), (2, .ref r1)] → (∀ (fl_11 : Nat → Option Nat) (fl_12 : Nat → Option Nat) (H : Heap) (locs : List Loc) (ls : Array Slot), fl_11 0 = some qa_139 → fl_12 0 = some qa_140 → va_P D vwCl [(h0, .inr (1, [.ref r0, .ref r1, .ref qa_136, .ref qa_137, .int 0, .int 0, .ref qa_138])), (qa_136, .inl (ck_89, 64, .inr (.inr (.inr (.inr fl_11))))), (qa_137, .inl (ck_90, 64, .inr (.inr (.inr (.inr fl_12))))), (qa_138, .inr (4, [.int 0, .int 0, .int 0, .int 0, .int 0, .int 0, .int 0])), (qa_139, .inr (4, [.int 0, .int 0, .int 0, .int 0, .int 0, .int 0, .int 0])), (qa_140, .inr (4, [.int 0, .int 0, .int 0, .int 0, .int 0, .int 0, .int 0]))] H → va_D A [(h0, .inr (1, [.ref r0, .ref r1, .ref qa_136, .ref qa_137, .int 0, .int 0, .ref qa_138])), (qa_136, .inl (ck_89, 64, .inr (.inr (.inr (.inr fl_11))))), (qa_137, .inl (ck_90, 64, .inr (.inr (.inr (.inr fl_12))))), (qa_138, .inr (4, [.int 0, .int 0, .int 0, .int 0, .int 0, .int 0, .int 0])), (qa_139, .inr (4, [.int 0, .int 0, .int 0, .int 0, .int 0, .int 0, .int 0])), (qa_140, .inr (4, [.int 0, .int 0, .int 0, .int 0, .int 0, .int 0, .int 0]))] → va_S A s.heap H locs → lv_has ls 4 [(3, .int 64), (0, .ref h0), (1, .ref r0), (2, .ref r1)] → W p l e ({ frames := 2, cells := 131, slots := 1031, locals := 32 }) s m ([.ref h0, .ref r0, .ref r1] : List Value).toArray below meth c H locs 131 1031 (MQ below ((fun A => va_Qv (fun (u : Nat × Nat × Nat × Nat × ClassId × (Nat → Option Nat)) => match u with | (qa_129, qa_132, qa_130, qa_131, ck_87, fl_9) => fl_9 0 = some qa_132) (zB D A (fun (u : Nat × Nat × Nat × Nat × ClassId × (Nat → Option Nat)) => match u with | (qa_129, qa_132, qa_130, qa_131, ck_87, fl_9) => [(h0, .inr (1, [.ref r0, .ref r1, .ref qa_129, .ref qa_130, .int 0, .int 0, .ref qa_131])), (qa_129, .inl (ck_87, 64, .inr (.inr (.inr (.inr fl_9))))), (qa_132, .inr (4, [.int 0, .int 0, .int 0, .int 0, .int 0, .int 0, .int 0]))]) (fun (u : Nat × Nat × Nat × Nat × ClassId × (Nat → Option Nat)) => match u with | (qa_129, qa_132, qa_130, qa_131, ck_87, fl_9) => [(ck_87, .object RX4)])) A) A) ([.ref h0, .ref r0, .ref r1] : List Value).toArray s 131 1031 A) (F0 m 93 ls [])) → W p l e ({ frames := 2, cells := 131, slots := 1031, locals := 32 }) s m ([.ref h0, .ref r0, .ref r1] : List Value).toArray below meth c H locs (5 + 2 * (k - 1)) (149 + 14 * (k - 1)) (MQ below ((fun A => va_Qv (fun (u : Nat × Nat × Nat × Nat × ClassId × (Nat → Option Nat)) => match u with | (qa_129, qa_132, qa_130, qa_131, ck_87, fl_9) => fl_9 0 = some qa_132) (zB D A (fun (u : Nat × Nat × Nat × Nat × ClassId × (Nat → Option Nat)) => match u with | (qa_129, qa_132, qa_130, qa_131, ck_87, fl_9) => [(h0, .inr (1, [.ref r0, .ref r1, .ref qa_129, .ref qa_130, .int 0, .int 0, .ref qa_131])), (qa_129, .inl (ck_87, 64, .inr (.inr (.inr (.inr fl_9))))), (qa_132, .inr (4, [.int 0, .int 0, .int 0, .int 0, .int 0, .int 0, .int 0]))]) (fun (u : Nat × Nat × Nat × Nat × ClassId × (Nat → Option Nat)) => match u with | (qa_129, qa_132, qa_130, qa_131, ck_87, fl_9) => [(ck_87, .object RX4)])) A) A) ([.ref h0, .ref r0, .ref r1] : List Value).toArray s 131 1031 A) (F0 m 55 ls []) := by
    intro n
    induction n with
    | zero =>
      intro k fl_11 fl_12 H locs ls hkn hk0 hfl_fl_11_0 hfl_fl_12_0 hP hD hS hl hex
      obtain rfl : k = 64 := by omega
      have hl : lv_has ls 4 [(3, .int 64), (0, .ref h0), (1, .ref r0), (2, .ref r1)] := hl
      refine lv_iload_n hx hb dX1_init_55 rfl (lv_at hl 0 rfl) ?_
      refine lv_bipush (v := 64) hx hb dX1_init_56 (by decide) ?_
      refine lv_icmp_ge (tgt := 93) hx hb dX1_init_58 (by decide) (fun _ => ?_) (fun h9 => absurd (by decide) h9)
      refine W.widen (k := 131) (n := 1031) (by decide) (by decide) ?_
      exact hex fl_11 fl_12 H locs ls hfl_fl_11_0 hfl_fl_12_0 hP hD hS hl
    | succ n ih =>
      intro k fl_11 fl_12 H locs ls hkn hk0 hfl_fl_11_0 hfl_fl_12_0 hP hD hS hl hex
      have hkd : 1 ≤ (nI k).toInt ∧ (nI k).toInt ≤ 63 := z_nI (by omega) (by omega) (by decide)
      refine lv_iload_n hx hb dX1_init_55 rfl (lv_at hl 0 rfl) ?_
      refine lv_bipush (v := 64) hx hb dX1_init_56 (by decide) ?_
      refine lv_icmp_ge (tgt := 93) hx hb dX1_init_58 (by decide) (fun h9 => absurd h9 (z_cmp (show ¬ ((64 : Int32) ≤ (nI k)) from by simp only [fa_lt, fa_le, fa_eq, zk_64]; have := hkd; omega))) (fun _ => ?_)
      refine lv_aload_n hx hb dX1_init_61 rfl (lv_at hl 1 rfl) ?_
      refine va_get (D := D) (ci := 1) (v := .ref qa_136) (C := RX1) (T := TX1) (N := 7) hx hb hts iuX1_init_X1 hown hK hP 0 rfl rfl 2 (by decide) (hts (.fieldLink RX1 11 "StraitGame$Guess" "now" "[LStraitGame$Position;") (List.mem_of_getElem? (i := 5) rfl)) (fun _ h9 => h9) rfl dX1_init_62 ?_
      refine lv_iload_n hx hb dX1_init_65 rfl (lv_at hl 0 rfl) ?_
      refine va_new (ci := 4) (fs := [.int 0, .int 0, .int 0, .int 0, .int 0, .int 0, .int 0]) (C := RX4) (T := TX4) (N := 7) hx hb hts iuX1_init_X4 tyX4 tyX4_ok hown (hts (.classLink RX1 9 RX4) (List.mem_of_getElem? (i := 4) rfl)) (hts (.instantiable RX4 7) (List.mem_of_getElem? (i := 9) rfl)) (hts (.initialized RX4) (List.mem_of_getElem? (i := 10) rfl)) hK hP hD hS hA rfl fsX4 (by show _ ≤ (131 : Nat); omega) (by show _ ≤ (1031 : Nat); omega) dX1_init_66 (fun qa_143 H hP hD hS => ?_)
      have hP : va_P D vwCl [(h0, .inr (1, [.ref r0, .ref r1, .ref qa_136, .ref qa_137, .int 0, .int 0, .ref qa_138])), (qa_136, .inl (ck_89, 64, .inr (.inr (.inr (.inr fl_11))))), (qa_137, .inl (ck_90, 64, .inr (.inr (.inr (.inr fl_12))))), (qa_138, .inr (4, [.int 0, .int 0, .int 0, .int 0, .int 0, .int 0, .int 0])), (qa_139, .inr (4, [.int 0, .int 0, .int 0, .int 0, .int 0, .int 0, .int 0])), (qa_140, .inr (4, [.int 0, .int 0, .int 0, .int 0, .int 0, .int 0, .int 0])), (qa_143, .inr (4, [.int 0, .int 0, .int 0, .int 0, .int 0, .int 0, .int 0]))] H := hP
      have hD : va_D A [(h0, .inr (1, [.ref r0, .ref r1, .ref qa_136, .ref qa_137, .int 0, .int 0, .ref qa_138])), (qa_136, .inl (ck_89, 64, .inr (.inr (.inr (.inr fl_11))))), (qa_137, .inl (ck_90, 64, .inr (.inr (.inr (.inr fl_12))))), (qa_138, .inr (4, [.int 0, .int 0, .int 0, .int 0, .int 0, .int 0, .int 0])), (qa_139, .inr (4, [.int 0, .int 0, .int 0, .int 0, .int 0, .int 0, .int 0])), (qa_140, .inr (4, [.int 0, .int 0, .int 0, .int 0, .int 0, .int 0, .int 0])), (qa_143, .inr (4, [.int 0, .int 0, .int 0, .int 0, .int 0, .int 0, .int 0]))] := hD
      refine lv_dup hx hb dX1_init_69 rfl ?_
      refine zA_v (zR_IN (As := []) (rest := [.ref qa_143, .int (nI k), .ref qa_136]) (host := RX11) ⟨hx, hb, hml, hown, hts⟩ (zX4_init_1 l D qa_143 _) ⟨va_cnB 0 hts gX1_init_X4_init_n27 rfl rfl rfl (hN.2 _ (List.mem_of_getElem? (i := 5) rfl)) (hts (.initialized RX4) (List.mem_of_getElem? (i := 10) rfl)) (by decide +kernel) ⟨(Nat.le_of_ble_eq_true rfl), (Nat.le_of_ble_eq_true rfl)⟩, rfl, (hts (.instanceMethod yX4_init) (List.mem_of_getElem? (i := 14) rfl))⟩ hP hD hK hN [6] [] rfl (by decide) rfl rfl hl.1 rfl (Nat.le_of_ble_eq_true rfl) dX1_init_70 ⟨by show _ ≤ (131 : Nat); omega, by show _ ≤ (1031 : Nat); omega⟩) hP hD hK hS hA [6] [0, 1, 2, 3, 4, 5] rfl rfl (by decide) (by decide) (fun u H locs hw hP hD hK hS => ?_)
      have hK : va_K D vwCl [(ck_89, .object RX4), (ck_90, .object RX4)] s := hK
      have hP : va_P D vwCl [(h0, .inr (1, [.ref r0, .ref r1, .ref qa_136, .ref qa_137, .int 0, .int 0, .ref qa_138])), (qa_136, .inl (ck_89, 64, .inr (.inr (.inr (.inr fl_11))))), (qa_137, .inl (ck_90, 64, .inr (.inr (.inr (.inr fl_12))))), (qa_138, .inr (4, [.int 0, .int 0, .int 0, .int 0, .int 0, .int 0, .int 0])), (qa_139, .inr (4, [.int 0, .int 0, .int 0, .int 0, .int 0, .int 0, .int 0])), (qa_140, .inr (4, [.int 0, .int 0, .int 0, .int 0, .int 0, .int 0, .int 0])), (qa_143, .inr (4, [.int 0, .int 0, .int 0, .int 0, .int 0, .int 0, .int 0]))] H := hP
      have hD : va_D A [(h0, .inr (1, [.ref r0, .ref r1, .ref qa_136, .ref qa_137, .int 0, .int 0, .ref qa_138])), (qa_136, .inl (ck_89, 64, .inr (.inr (.inr (.inr fl_11))))), (qa_137, .inl (ck_90, 64, .inr (.inr (.inr (.inr fl_12))))), (qa_138, .inr (4, [.int 0, .int 0, .int 0, .int 0, .int 0, .int 0, .int 0])), (qa_139, .inr (4, [.int 0, .int 0, .int 0, .int 0, .int 0, .int 0, .int 0])), (qa_140, .inr (4, [.int 0, .int 0, .int 0, .int 0, .int 0, .int 0, .int 0])), (qa_143, .inr (4, [.int 0, .int 0, .int 0, .int 0, .int 0, .int 0, .int 0]))] := hD
      refine va_astq (r := (RX4, TX4, 7)) hx hb hK hP hD hS 1 0 6 4 rfl rfl rfl rfl (vp_in_nI (by omega) (by decide)) dX1_init_73 (fun H locs hP hD hS => ?_)
      rw [nI_clamp (by omega : k < 2 ^ 31)] at hP hD
      have hP : va_P D vwCl [(h0, .inr (1, [.ref r0, .ref r1, .ref qa_136, .ref qa_137, .int 0, .int 0, .ref qa_138])), (qa_136, .inl (ck_89, 64, .inr (.inr (.inr (.inr (va_up fl_11 (k) (some qa_143))))))), (qa_137, .inl (ck_90, 64, .inr (.inr (.inr (.inr fl_12))))), (qa_138, .inr (4, [.int 0, .int 0, .int 0, .int 0, .int 0, .int 0, .int 0])), (qa_139, .inr (4, [.int 0, .int 0, .int 0, .int 0, .int 0, .int 0, .int 0])), (qa_140, .inr (4, [.int 0, .int 0, .int 0, .int 0, .int 0, .int 0, .int 0])), (qa_143, .inr (4, [.int 0, .int 0, .int 0, .int 0, .int 0, .int 0, .int 0]))] H := hP
      have hD : va_D A [(h0, .inr (1, [.ref r0, .ref r1, .ref qa_136, .ref qa_137, .int 0, .int 0, .ref qa_138])), (qa_136, .inl (ck_89, 64, .inr (.inr (.inr (.inr (va_up fl_11 (k) (some qa_143))))))), (qa_137, .inl (ck_90, 64, .inr (.inr (.inr (.inr fl_12))))), (qa_138, .inr (4, [.int 0, .int 0, .int 0, .int 0, .int 0, .int 0, .int 0])), (qa_139, .inr (4, [.int 0, .int 0, .int 0, .int 0, .int 0, .int 0, .int 0])), (qa_140, .inr (4, [.int 0, .int 0, .int 0, .int 0, .int 0, .int 0, .int 0])), (qa_143, .inr (4, [.int 0, .int 0, .int 0, .int 0, .int 0, .int 0, .int 0]))] := hD
      refine lv_aload_n hx hb dX1_init_74 rfl (lv_at hl 1 rfl) ?_
      refine va_get (D := D) (ci := 1) (v := .ref qa_137) (C := RX1) (T := TX1) (N := 7) hx hb hts iuX1_init_X1 hown hK hP 0 rfl rfl 3 (by decide) (hts (.fieldLink RX1 17 "StraitGame$Guess" "next" "[LStraitGame$Position;") (List.mem_of_getElem? (i := 6) rfl)) (fun _ h9 => h9) rfl dX1_init_75 ?_
      refine lv_iload_n hx hb dX1_init_78 rfl (lv_at hl 0 rfl) ?_
      refine va_new (ci := 4) (fs := [.int 0, .int 0, .int 0, .int 0, .int 0, .int 0, .int 0]) (C := RX4) (T := TX4) (N := 7) hx hb hts iuX1_init_X4 tyX4 tyX4_ok hown (hts (.classLink RX1 9 RX4) (List.mem_of_getElem? (i := 4) rfl)) (hts (.instantiable RX4 7) (List.mem_of_getElem? (i := 9) rfl)) (hts (.initialized RX4) (List.mem_of_getElem? (i := 10) rfl)) hK hP hD hS hA rfl fsX4 (by show _ ≤ (131 : Nat); omega) (by show _ ≤ (1031 : Nat); omega) dX1_init_79 (fun qa_144 H hP hD hS => ?_)
      have hP : va_P D vwCl [(h0, .inr (1, [.ref r0, .ref r1, .ref qa_136, .ref qa_137, .int 0, .int 0, .ref qa_138])), (qa_136, .inl (ck_89, 64, .inr (.inr (.inr (.inr (va_up fl_11 (k) (some qa_143))))))), (qa_137, .inl (ck_90, 64, .inr (.inr (.inr (.inr fl_12))))), (qa_138, .inr (4, [.int 0, .int 0, .int 0, .int 0, .int 0, .int 0, .int 0])), (qa_139, .inr (4, [.int 0, .int 0, .int 0, .int 0, .int 0, .int 0, .int 0])), (qa_140, .inr (4, [.int 0, .int 0, .int 0, .int 0, .int 0, .int 0, .int 0])), (qa_143, .inr (4, [.int 0, .int 0, .int 0, .int 0, .int 0, .int 0, .int 0])), (qa_144, .inr (4, [.int 0, .int 0, .int 0, .int 0, .int 0, .int 0, .int 0]))] H := hP
      have hD : va_D A [(h0, .inr (1, [.ref r0, .ref r1, .ref qa_136, .ref qa_137, .int 0, .int 0, .ref qa_138])), (qa_136, .inl (ck_89, 64, .inr (.inr (.inr (.inr (va_up fl_11 (k) (some qa_143))))))), (qa_137, .inl (ck_90, 64, .inr (.inr (.inr (.inr fl_12))))), (qa_138, .inr (4, [.int 0, .int 0, .int 0, .int 0, .int 0, .int 0, .int 0])), (qa_139, .inr (4, [.int 0, .int 0, .int 0, .int 0, .int 0, .int 0, .int 0])), (qa_140, .inr (4, [.int 0, .int 0, .int 0, .int 0, .int 0, .int 0, .int 0])), (qa_143, .inr (4, [.int 0, .int 0, .int 0, .int 0, .int 0, .int 0, .int 0])), (qa_144, .inr (4, [.int 0, .int 0, .int 0, .int 0, .int 0, .int 0, .int 0]))] := hD
      refine lv_dup hx hb dX1_init_82 rfl ?_
      refine zA_v (zR_IN (As := []) (rest := [.ref qa_144, .int (nI k), .ref qa_137]) (host := RX11) ⟨hx, hb, hml, hown, hts⟩ (zX4_init_1 l D qa_144 _) ⟨va_cnB 0 hts gX1_init_X4_init_n27 rfl rfl rfl (hN.2 _ (List.mem_of_getElem? (i := 5) rfl)) (hts (.initialized RX4) (List.mem_of_getElem? (i := 10) rfl)) (by decide +kernel) ⟨(Nat.le_of_ble_eq_true rfl), (Nat.le_of_ble_eq_true rfl)⟩, rfl, (hts (.instanceMethod yX4_init) (List.mem_of_getElem? (i := 14) rfl))⟩ hP hD hK hN [7] [] rfl (by decide) rfl rfl hl.1 rfl (Nat.le_of_ble_eq_true rfl) dX1_init_83 ⟨by show _ ≤ (131 : Nat); omega, by show _ ≤ (1031 : Nat); omega⟩) hP hD hK hS hA [7] [0, 1, 2, 3, 4, 5, 6] rfl rfl (by decide) (by decide) (fun u H locs hw hP hD hK hS => ?_)
      have hK : va_K D vwCl [(ck_89, .object RX4), (ck_90, .object RX4)] s := hK
      have hP : va_P D vwCl [(h0, .inr (1, [.ref r0, .ref r1, .ref qa_136, .ref qa_137, .int 0, .int 0, .ref qa_138])), (qa_136, .inl (ck_89, 64, .inr (.inr (.inr (.inr (va_up fl_11 (k) (some qa_143))))))), (qa_137, .inl (ck_90, 64, .inr (.inr (.inr (.inr fl_12))))), (qa_138, .inr (4, [.int 0, .int 0, .int 0, .int 0, .int 0, .int 0, .int 0])), (qa_139, .inr (4, [.int 0, .int 0, .int 0, .int 0, .int 0, .int 0, .int 0])), (qa_140, .inr (4, [.int 0, .int 0, .int 0, .int 0, .int 0, .int 0, .int 0])), (qa_143, .inr (4, [.int 0, .int 0, .int 0, .int 0, .int 0, .int 0, .int 0])), (qa_144, .inr (4, [.int 0, .int 0, .int 0, .int 0, .int 0, .int 0, .int 0]))] H := hP
      have hD : va_D A [(h0, .inr (1, [.ref r0, .ref r1, .ref qa_136, .ref qa_137, .int 0, .int 0, .ref qa_138])), (qa_136, .inl (ck_89, 64, .inr (.inr (.inr (.inr (va_up fl_11 (k) (some qa_143))))))), (qa_137, .inl (ck_90, 64, .inr (.inr (.inr (.inr fl_12))))), (qa_138, .inr (4, [.int 0, .int 0, .int 0, .int 0, .int 0, .int 0, .int 0])), (qa_139, .inr (4, [.int 0, .int 0, .int 0, .int 0, .int 0, .int 0, .int 0])), (qa_140, .inr (4, [.int 0, .int 0, .int 0, .int 0, .int 0, .int 0, .int 0])), (qa_143, .inr (4, [.int 0, .int 0, .int 0, .int 0, .int 0, .int 0, .int 0])), (qa_144, .inr (4, [.int 0, .int 0, .int 0, .int 0, .int 0, .int 0, .int 0]))] := hD
      refine va_astq (r := (RX4, TX4, 7)) hx hb hK hP hD hS 2 1 7 4 rfl rfl rfl rfl (vp_in_nI (by omega) (by decide)) dX1_init_86 (fun H locs hP hD hS => ?_)
      rw [nI_clamp (by omega : k < 2 ^ 31)] at hP hD
      have hP : va_P D vwCl [(h0, .inr (1, [.ref r0, .ref r1, .ref qa_136, .ref qa_137, .int 0, .int 0, .ref qa_138])), (qa_136, .inl (ck_89, 64, .inr (.inr (.inr (.inr (va_up fl_11 (k) (some qa_143))))))), (qa_137, .inl (ck_90, 64, .inr (.inr (.inr (.inr (va_up fl_12 (k) (some qa_144))))))), (qa_138, .inr (4, [.int 0, .int 0, .int 0, .int 0, .int 0, .int 0, .int 0])), (qa_139, .inr (4, [.int 0, .int 0, .int 0, .int 0, .int 0, .int 0, .int 0])), (qa_140, .inr (4, [.int 0, .int 0, .int 0, .int 0, .int 0, .int 0, .int 0])), (qa_143, .inr (4, [.int 0, .int 0, .int 0, .int 0, .int 0, .int 0, .int 0])), (qa_144, .inr (4, [.int 0, .int 0, .int 0, .int 0, .int 0, .int 0, .int 0]))] H := hP
      have hD : va_D A [(h0, .inr (1, [.ref r0, .ref r1, .ref qa_136, .ref qa_137, .int 0, .int 0, .ref qa_138])), (qa_136, .inl (ck_89, 64, .inr (.inr (.inr (.inr (va_up fl_11 (k) (some qa_143))))))), (qa_137, .inl (ck_90, 64, .inr (.inr (.inr (.inr (va_up fl_12 (k) (some qa_144))))))), (qa_138, .inr (4, [.int 0, .int 0, .int 0, .int 0, .int 0, .int 0, .int 0])), (qa_139, .inr (4, [.int 0, .int 0, .int 0, .int 0, .int 0, .int 0, .int 0])), (qa_140, .inr (4, [.int 0, .int 0, .int 0, .int 0, .int 0, .int 0, .int 0])), (qa_143, .inr (4, [.int 0, .int 0, .int 0, .int 0, .int 0, .int 0, .int 0])), (qa_144, .inr (4, [.int 0, .int 0, .int 0, .int 0, .int 0, .int 0, .int 0]))] := hD
      refine lv_iinc (v := (nI (k + 1))) (lv' := [(3, .int (nI (k + 1))), (0, .ref h0), (1, .ref r0), (2, .ref r1)]) hx hb dX1_init_87 hl (k := 0) rfl (z_inc k 1) (by decide) rfl (fun ls hl => ?_)
      refine lv_goto (tgt := 55) hx hb dX1_init_90 (by decide) ?_
      refine W.widen (k := (5 + 2 * (k + 1 - 1))) (n := (149 + 14 * (k + 1 - 1))) (by omega) (by omega) ?_
      exact ih (k + 1) _ _ H locs ls (by omega) (by omega) ((va_up_ne _ _ (by omega)).trans hfl_fl_11_0) ((va_up_ne _ _ (by omega)).trans hfl_fl_12_0) (hP.sub [0, 1, 2, 3, 4, 5] rfl) (hD.sub [0, 1, 2, 3, 4, 5] (by decide) rfl) hS (lv_sub hl [0, 1, 2, 3] rfl) hex
  refine W.widen (k := (5 + 2 * (1 - 1))) (n := (149 + 14 * (1 - 1))) (by decide) (by decide) ?_
  refine hloop 63 1 (va_up (fun _ => none) 0 (some qa_139)) (va_up (fun _ => none) 0 (some qa_140)) H locs ls (by decide) (by decide) rfl rfl hP hD hS (lv_sub hl [0, 1, 2, 3] rfl) (fun fl_11 fl_12 H locs ls hfl_fl_11_0 hfl_fl_12_0 hP hD hS hl => ?_)
  have hl : lv_has ls 4 [(3, .int 64), (0, .ref h0), (1, .ref r0), (2, .ref r1)] := hl
  exact zret_v hx hb hr hlocks hP hD hK hS (qa_136, qa_139, qa_137, qa_138, ck_89, fl_11) (hfl_fl_11_0) [0, 1, 4] [0] (by decide) rfl rfl (Nat.le_of_ble_eq_true rfl) (Nat.le_of_ble_eq_true rfl) dX1_init_93
set_option maxHeartbeats 4000000 in
set_option maxRecDepth 100000 in
theorem zX0_init_1 (l : Launch) (D : va_G) (h0 : Nat) (sz : Nat) : Met l yX0_init wsX0_init ({ frames := 1, cells := 5, slots := 60, locals := 12 }) (zPre D [.ref h0] [(h0, .inr (0, [.int 0, .int 0, .null, .null, .null, .null, .null]))] [] sz) ((fun A => va_Qv (fun (u : Nat × Nat × Nat × Nat × Nat) => match u with | (qa_151, qa_152, qa_153, qa_154, qa_155) => True) (zB D A (fun (u : Nat × Nat × Nat × Nat × Nat) => match u with | (qa_151, qa_152, qa_153, qa_154, qa_155) => [(h0, .inr (0, [.int 0, .int 0, .ref qa_151, .ref qa_152, .ref qa_153, .ref qa_154, .ref qa_155]))]) (fun (u : Nat × Nat × Nat × Nat × Nat) => match u with | (qa_151, qa_152, qa_153, qa_154, qa_155) => [])) A) (va_A [(h0, .inr (0, [.int 0, .int 0, .null, .null, .null, .null, .null]))] sz)) 5 60 (va_A [(h0, .inr (0, [.int 0, .int 0, .null, .null, .null, .null, .null]))] sz) := by
  refine zOfW (QF := fun A => va_Qv (fun (u : Nat × Nat × Nat × Nat × Nat) => match u with | (qa_151, qa_152, qa_153, qa_154, qa_155) => True) (zB D A (fun (u : Nat × Nat × Nat × Nat × Nat) => match u with | (qa_151, qa_152, qa_153, qa_154, qa_155) => [(h0, .inr (0, [.int 0, .int 0, .ref qa_151, .ref qa_152, .ref qa_153, .ref qa_154, .ref qa_155]))]) (fun (u : Nat × Nat × Nat × Nat × Nat) => match u with | (qa_151, qa_152, qa_153, qa_154, qa_155) => [])) A) (cc := cX0_init) (maxL := 1) (ret := none) (by decide) rfl (Nat.le_of_ble_eq_true rfl) ?_
  intro p e s m below meth c A ls hx hb hr hml hts hown hlocks hin hA hS hP hD hK hN hl
  have hl : lv_has ls 1 [(0, .ref h0)] := hl
  refine lv_aload_n hx hb dX0_init_0 rfl (lv_at hl 0 rfl) ?_
  refine W.objInit hx hb hown (hts (.methodLink RX0 3 objectInit) (List.mem_of_getElem? (i := 1) rfl)) (hts (.instanceMethod objectInit) (List.mem_of_getElem? (i := 2) rfl)) (hts (.code objectInit ⟨#[0xb1]⟩ 1 none) (List.mem_of_getElem? (i := 3) rfl)) rfl (by rw [hml]; exact hl.1) rfl dX0_init_1 (Nat.le_of_ble_eq_true rfl) (Nat.le_of_ble_eq_true rfl) ?_
  refine W.eq (g2 := F0 m 4 ls []) rfl ?_
  refine lv_aload_n hx hb dX0_init_4 rfl (lv_at hl 0 rfl) ?_
  refine lv_iconst (v := 0) hx hb dX0_init_5 (by decide) ?_
  refine va_put (D := D) (ci := 0) (v := .int 0) (ty := .int) (C := RX0) (T := TX0) (N := 7) hx hb hts iuX0_init_X0 tyX0 tyX0_ok nmX0 hown hK hP hD hS 0 rfl rfl 0 (by decide) (hts (.fieldLink RX0 9 "StraitGame$Codes" "count" "I") (List.mem_of_getElem? (i := 4) rfl)) (fun _ h9 => h9) rfl (by decide +kernel) rfl rfl (Nat.le_of_ble_eq_true rfl) dX0_init_6 (fun H locs hP hD hS => ?_)
  have hP : va_P D vwCl [(h0, .inr (0, [.int 0, .int 0, .null, .null, .null, .null, .null]))] H := hP
  have hD : va_D A [(h0, .inr (0, [.int 0, .int 0, .null, .null, .null, .null, .null]))] := hD
  refine lv_aload_n hx hb dX0_init_9 rfl (lv_at hl 0 rfl) ?_
  refine lv_iconst (v := 0) hx hb dX0_init_10 (by decide) ?_
  refine va_put (D := D) (ci := 0) (v := .int 0) (ty := .int) (C := RX0) (T := TX0) (N := 7) hx hb hts iuX0_init_X0 tyX0 tyX0_ok nmX0 hown hK hP hD hS 0 rfl rfl 1 (by decide) (hts (.fieldLink RX0 15 "StraitGame$Codes" "total" "I") (List.mem_of_getElem? (i := 5) rfl)) (fun _ h9 => h9) rfl (by decide +kernel) rfl rfl (Nat.le_of_ble_eq_true rfl) dX0_init_11 (fun H locs hP hD hS => ?_)
  have hP : va_P D vwCl [(h0, .inr (0, [.int 0, .int 0, .null, .null, .null, .null, .null]))] H := hP
  have hD : va_D A [(h0, .inr (0, [.int 0, .int 0, .null, .null, .null, .null, .null]))] := hD
  refine lv_aload_n hx hb dX0_init_14 rfl (lv_at hl 0 rfl) ?_
  refine lv_bipush (v := 12) hx hb dX0_init_15 (by decide) ?_
  refine va_newa (atype := .int) (a0 := (12, .inl (fun _ => 0))) (ty := .int) (N' := 12) hx hb (hts (.arrayClass .int) (List.mem_of_getElem? (i := 6) rfl)) rfl hK hP hD hS hA (zarr_int 12) (by decide) (by decide) (zby_int (Nat.le_of_ble_eq_true rfl)) (Nat.le_of_ble_eq_true rfl) (Nat.le_of_ble_eq_true rfl) dX0_init_17 (fun qa_156 ck_101 H hK hP hD hS => ?_)
  have hK : va_K D vwCl [(ck_101, .int)] s := hK
  have hP : va_P D vwCl [(h0, .inr (0, [.int 0, .int 0, .null, .null, .null, .null, .null])), (qa_156, .inl (ck_101, 12, .inl (fun _ => 0)))] H := hP
  have hD : va_D A [(h0, .inr (0, [.int 0, .int 0, .null, .null, .null, .null, .null])), (qa_156, .inl (ck_101, 12, .inl (fun _ => 0)))] := hD
  refine W.widen (k := 1) (n := 12) (Nat.le_of_ble_eq_true rfl) (Nat.le_of_ble_eq_true rfl) ?_
  refine va_putF (D := D) (ci := 0) (v := .ref qa_156) (ty := (tyX0 2)) (C := RX0) (T := TX0) (N := 7) hx hb hts iuX0_init_X0 tyX0 tyX0_ok nmX0 hown hK hP hD hS 0 rfl rfl 2 (by decide) (hts (.fieldLink RX0 18 "StraitGame$Codes" "lengths" "[I") (List.mem_of_getElem? (i := 7) rfl)) (fun _ h9 => h9) rfl hin rfl (by decide +kernel) rfl rfl (Nat.le_of_ble_eq_true rfl) dX0_init_19 (fun H locs hP hD hS => ?_)
  have hP : va_P D vwCl [(h0, .inr (0, [.int 0, .int 0, .ref qa_156, .null, .null, .null, .null])), (qa_156, .inl (ck_101, 12, .inl (fun _ => 0)))] H := hP
  have hD : va_D A [(h0, .inr (0, [.int 0, .int 0, .ref qa_156, .null, .null, .null, .null])), (qa_156, .inl (ck_101, 12, .inl (fun _ => 0)))] := hD
  refine lv_aload_n hx hb dX0_init_22 rfl (lv_at hl 0 rfl) ?_
  refine lv_bipush (v := 12) hx hb dX0_init_23 (by decide) ?_
  refine va_newa (atype := .int) (a0 := (12, .inl (fun _ => 0))) (ty := .int) (N' := 12) hx hb (hts (.arrayClass .int) (List.mem_of_getElem? (i := 6) rfl)) rfl hK hP hD hS hA (zarr_int 12) (by decide) (by decide) (zby_int (Nat.le_of_ble_eq_true rfl)) (Nat.le_of_ble_eq_true rfl) (Nat.le_of_ble_eq_true rfl) dX0_init_25 (fun qa_157 ck_102 H hK hP hD hS => ?_)
  have hK : va_K D vwCl [(ck_101, .int), (ck_102, .int)] s := hK
  have hP : va_P D vwCl [(h0, .inr (0, [.int 0, .int 0, .ref qa_156, .null, .null, .null, .null])), (qa_156, .inl (ck_101, 12, .inl (fun _ => 0))), (qa_157, .inl (ck_102, 12, .inl (fun _ => 0)))] H := hP
  have hD : va_D A [(h0, .inr (0, [.int 0, .int 0, .ref qa_156, .null, .null, .null, .null])), (qa_156, .inl (ck_101, 12, .inl (fun _ => 0))), (qa_157, .inl (ck_102, 12, .inl (fun _ => 0)))] := hD
  refine W.widen (k := 2) (n := 24) (Nat.le_of_ble_eq_true rfl) (Nat.le_of_ble_eq_true rfl) ?_
  refine va_putF (D := D) (ci := 0) (v := .ref qa_157) (ty := (tyX0 3)) (C := RX0) (T := TX0) (N := 7) hx hb hts iuX0_init_X0 tyX0 tyX0_ok nmX0 hown hK hP hD hS 0 rfl rfl 3 (by decide) (hts (.fieldLink RX0 22 "StraitGame$Codes" "often" "[I") (List.mem_of_getElem? (i := 8) rfl)) (fun _ h9 => h9) rfl hin rfl (by decide +kernel) rfl rfl (Nat.le_of_ble_eq_true rfl) dX0_init_27 (fun H locs hP hD hS => ?_)
  have hP : va_P D vwCl [(h0, .inr (0, [.int 0, .int 0, .ref qa_156, .ref qa_157, .null, .null, .null])), (qa_156, .inl (ck_101, 12, .inl (fun _ => 0))), (qa_157, .inl (ck_102, 12, .inl (fun _ => 0)))] H := hP
  have hD : va_D A [(h0, .inr (0, [.int 0, .int 0, .ref qa_156, .ref qa_157, .null, .null, .null])), (qa_156, .inl (ck_101, 12, .inl (fun _ => 0))), (qa_157, .inl (ck_102, 12, .inl (fun _ => 0)))] := hD
  refine lv_aload_n hx hb dX0_init_30 rfl (lv_at hl 0 rfl) ?_
  refine lv_bipush (v := 12) hx hb dX0_init_31 (by decide) ?_
  refine va_newa (atype := .int) (a0 := (12, .inl (fun _ => 0))) (ty := .int) (N' := 12) hx hb (hts (.arrayClass .int) (List.mem_of_getElem? (i := 6) rfl)) rfl hK hP hD hS hA (zarr_int 12) (by decide) (by decide) (zby_int (Nat.le_of_ble_eq_true rfl)) (Nat.le_of_ble_eq_true rfl) (Nat.le_of_ble_eq_true rfl) dX0_init_33 (fun qa_158 ck_103 H hK hP hD hS => ?_)
  have hK : va_K D vwCl [(ck_101, .int), (ck_102, .int), (ck_103, .int)] s := hK
  have hP : va_P D vwCl [(h0, .inr (0, [.int 0, .int 0, .ref qa_156, .ref qa_157, .null, .null, .null])), (qa_156, .inl (ck_101, 12, .inl (fun _ => 0))), (qa_157, .inl (ck_102, 12, .inl (fun _ => 0))), (qa_158, .inl (ck_103, 12, .inl (fun _ => 0)))] H := hP
  have hD : va_D A [(h0, .inr (0, [.int 0, .int 0, .ref qa_156, .ref qa_157, .null, .null, .null])), (qa_156, .inl (ck_101, 12, .inl (fun _ => 0))), (qa_157, .inl (ck_102, 12, .inl (fun _ => 0))), (qa_158, .inl (ck_103, 12, .inl (fun _ => 0)))] := hD
  refine W.widen (k := 3) (n := 36) (Nat.le_of_ble_eq_true rfl) (Nat.le_of_ble_eq_true rfl) ?_
  refine va_putF (D := D) (ci := 0) (v := .ref qa_158) (ty := (tyX0 4)) (C := RX0) (T := TX0) (N := 7) hx hb hts iuX0_init_X0 tyX0 tyX0_ok nmX0 hown hK hP hD hS 0 rfl rfl 4 (by decide) (hts (.fieldLink RX0 25 "StraitGame$Codes" "order" "[I") (List.mem_of_getElem? (i := 9) rfl)) (fun _ h9 => h9) rfl hin rfl (by decide +kernel) rfl rfl (Nat.le_of_ble_eq_true rfl) dX0_init_35 (fun H locs hP hD hS => ?_)
  have hP : va_P D vwCl [(h0, .inr (0, [.int 0, .int 0, .ref qa_156, .ref qa_157, .ref qa_158, .null, .null])), (qa_156, .inl (ck_101, 12, .inl (fun _ => 0))), (qa_157, .inl (ck_102, 12, .inl (fun _ => 0))), (qa_158, .inl (ck_103, 12, .inl (fun _ => 0)))] H := hP
  have hD : va_D A [(h0, .inr (0, [.int 0, .int 0, .ref qa_156, .ref qa_157, .ref qa_158, .null, .null])), (qa_156, .inl (ck_101, 12, .inl (fun _ => 0))), (qa_157, .inl (ck_102, 12, .inl (fun _ => 0))), (qa_158, .inl (ck_103, 12, .inl (fun _ => 0)))] := hD
  refine lv_aload_n hx hb dX0_init_38 rfl (lv_at hl 0 rfl) ?_
  refine lv_bipush (v := 12) hx hb dX0_init_39 (by decide) ?_
  refine va_newa (atype := .int) (a0 := (12, .inl (fun _ => 0))) (ty := .int) (N' := 12) hx hb (hts (.arrayClass .int) (List.mem_of_getElem? (i := 6) rfl)) rfl hK hP hD hS hA (zarr_int 12) (by decide) (by decide) (zby_int (Nat.le_of_ble_eq_true rfl)) (Nat.le_of_ble_eq_true rfl) (Nat.le_of_ble_eq_true rfl) dX0_init_41 (fun qa_159 ck_104 H hK hP hD hS => ?_)
  have hK : va_K D vwCl [(ck_101, .int), (ck_102, .int), (ck_103, .int), (ck_104, .int)] s := hK
  have hP : va_P D vwCl [(h0, .inr (0, [.int 0, .int 0, .ref qa_156, .ref qa_157, .ref qa_158, .null, .null])), (qa_156, .inl (ck_101, 12, .inl (fun _ => 0))), (qa_157, .inl (ck_102, 12, .inl (fun _ => 0))), (qa_158, .inl (ck_103, 12, .inl (fun _ => 0))), (qa_159, .inl (ck_104, 12, .inl (fun _ => 0)))] H := hP
  have hD : va_D A [(h0, .inr (0, [.int 0, .int 0, .ref qa_156, .ref qa_157, .ref qa_158, .null, .null])), (qa_156, .inl (ck_101, 12, .inl (fun _ => 0))), (qa_157, .inl (ck_102, 12, .inl (fun _ => 0))), (qa_158, .inl (ck_103, 12, .inl (fun _ => 0))), (qa_159, .inl (ck_104, 12, .inl (fun _ => 0)))] := hD
  refine W.widen (k := 4) (n := 48) (Nat.le_of_ble_eq_true rfl) (Nat.le_of_ble_eq_true rfl) ?_
  refine va_putF (D := D) (ci := 0) (v := .ref qa_159) (ty := (tyX0 5)) (C := RX0) (T := TX0) (N := 7) hx hb hts iuX0_init_X0 tyX0 tyX0_ok nmX0 hown hK hP hD hS 0 rfl rfl 5 (by decide) (hts (.fieldLink RX0 28 "StraitGame$Codes" "rising" "[I") (List.mem_of_getElem? (i := 10) rfl)) (fun _ h9 => h9) rfl hin rfl (by decide +kernel) rfl rfl (Nat.le_of_ble_eq_true rfl) dX0_init_43 (fun H locs hP hD hS => ?_)
  have hP : va_P D vwCl [(h0, .inr (0, [.int 0, .int 0, .ref qa_156, .ref qa_157, .ref qa_158, .ref qa_159, .null])), (qa_156, .inl (ck_101, 12, .inl (fun _ => 0))), (qa_157, .inl (ck_102, 12, .inl (fun _ => 0))), (qa_158, .inl (ck_103, 12, .inl (fun _ => 0))), (qa_159, .inl (ck_104, 12, .inl (fun _ => 0)))] H := hP
  have hD : va_D A [(h0, .inr (0, [.int 0, .int 0, .ref qa_156, .ref qa_157, .ref qa_158, .ref qa_159, .null])), (qa_156, .inl (ck_101, 12, .inl (fun _ => 0))), (qa_157, .inl (ck_102, 12, .inl (fun _ => 0))), (qa_158, .inl (ck_103, 12, .inl (fun _ => 0))), (qa_159, .inl (ck_104, 12, .inl (fun _ => 0)))] := hD
  refine lv_aload_n hx hb dX0_init_46 rfl (lv_at hl 0 rfl) ?_
  refine lv_bipush (v := 12) hx hb dX0_init_47 (by decide) ?_
  refine va_newa (atype := .int) (a0 := (12, .inl (fun _ => 0))) (ty := .int) (N' := 12) hx hb (hts (.arrayClass .int) (List.mem_of_getElem? (i := 6) rfl)) rfl hK hP hD hS hA (zarr_int 12) (by decide) (by decide) (zby_int (Nat.le_of_ble_eq_true rfl)) (Nat.le_of_ble_eq_true rfl) (Nat.le_of_ble_eq_true rfl) dX0_init_49 (fun qa_160 ck_105 H hK hP hD hS => ?_)
  have hK : va_K D vwCl [(ck_101, .int), (ck_102, .int), (ck_103, .int), (ck_104, .int), (ck_105, .int)] s := hK
  have hP : va_P D vwCl [(h0, .inr (0, [.int 0, .int 0, .ref qa_156, .ref qa_157, .ref qa_158, .ref qa_159, .null])), (qa_156, .inl (ck_101, 12, .inl (fun _ => 0))), (qa_157, .inl (ck_102, 12, .inl (fun _ => 0))), (qa_158, .inl (ck_103, 12, .inl (fun _ => 0))), (qa_159, .inl (ck_104, 12, .inl (fun _ => 0))), (qa_160, .inl (ck_105, 12, .inl (fun _ => 0)))] H := hP
  have hD : va_D A [(h0, .inr (0, [.int 0, .int 0, .ref qa_156, .ref qa_157, .ref qa_158, .ref qa_159, .null])), (qa_156, .inl (ck_101, 12, .inl (fun _ => 0))), (qa_157, .inl (ck_102, 12, .inl (fun _ => 0))), (qa_158, .inl (ck_103, 12, .inl (fun _ => 0))), (qa_159, .inl (ck_104, 12, .inl (fun _ => 0))), (qa_160, .inl (ck_105, 12, .inl (fun _ => 0)))] := hD
  refine W.widen (k := 5) (n := 60) (Nat.le_of_ble_eq_true rfl) (Nat.le_of_ble_eq_true rfl) ?_
  refine va_putF (D := D) (ci := 0) (v := .ref qa_160) (ty := (tyX0 6)) (C := RX0) (T := TX0) (N := 7) hx hb hts iuX0_init_X0 tyX0 tyX0_ok nmX0 hown hK hP hD hS 0 rfl rfl 6 (by decide) (hts (.fieldLink RX0 31 "StraitGame$Codes" "trial" "[I") (List.mem_of_getElem? (i := 11) rfl)) (fun _ h9 => h9) rfl hin rfl (by decide +kernel) rfl rfl (Nat.le_of_ble_eq_true rfl) dX0_init_51 (fun H locs hP hD hS => ?_)
  have hP : va_P D vwCl [(h0, .inr (0, [.int 0, .int 0, .ref qa_156, .ref qa_157, .ref qa_158, .ref qa_159, .ref qa_160])), (qa_156, .inl (ck_101, 12, .inl (fun _ => 0))), (qa_157, .inl (ck_102, 12, .inl (fun _ => 0))), (qa_158, .inl (ck_103, 12, .inl (fun _ => 0))), (qa_159, .inl (ck_104, 12, .inl (fun _ => 0))), (qa_160, .inl (ck_105, 12, .inl (fun _ => 0)))] H := hP
  have hD : va_D A [(h0, .inr (0, [.int 0, .int 0, .ref qa_156, .ref qa_157, .ref qa_158, .ref qa_159, .ref qa_160])), (qa_156, .inl (ck_101, 12, .inl (fun _ => 0))), (qa_157, .inl (ck_102, 12, .inl (fun _ => 0))), (qa_158, .inl (ck_103, 12, .inl (fun _ => 0))), (qa_159, .inl (ck_104, 12, .inl (fun _ => 0))), (qa_160, .inl (ck_105, 12, .inl (fun _ => 0)))] := hD
  exact zret_v hx hb hr hlocks hP hD hK hS (qa_156, qa_157, qa_158, qa_159, qa_160) trivial [0] [] (by decide) rfl rfl (Nat.le_of_ble_eq_true rfl) (Nat.le_of_ble_eq_true rfl) dX0_init_54
set_option maxHeartbeats 4000000 in
set_option maxRecDepth 100000 in
theorem zX7_init_1 (l : Launch) (D : va_G) (h0 : Nat) (sz : Nat) : Met l yX7_init wsX7_init ({ frames := 1, cells := 6, slots := 180, locals := 12 }) (zPre D [.ref h0] [(h0, .inr (7, [.int 0, .int 0, .null, .null, .null, .null, .null, .null]))] [] sz) ((fun A => va_Qv (fun (u : Nat × Nat × Nat × Nat × Nat × Nat) => match u with | (qa_168, qa_169, qa_170, qa_171, qa_172, qa_173) => True) (zB D A (fun (u : Nat × Nat × Nat × Nat × Nat × Nat) => match u with | (qa_168, qa_169, qa_170, qa_171, qa_172, qa_173) => [(h0, .inr (7, [.int 0, .int 0, .ref qa_168, .ref qa_169, .ref qa_170, .ref qa_171, .ref qa_172, .ref qa_173]))]) (fun (u : Nat × Nat × Nat × Nat × Nat × Nat) => match u with | (qa_168, qa_169, qa_170, qa_171, qa_172, qa_173) => [])) A) (va_A [(h0, .inr (7, [.int 0, .int 0, .null, .null, .null, .null, .null, .null]))] sz)) 6 180 (va_A [(h0, .inr (7, [.int 0, .int 0, .null, .null, .null, .null, .null, .null]))] sz) := by
  refine zOfW (QF := fun A => va_Qv (fun (u : Nat × Nat × Nat × Nat × Nat × Nat) => match u with | (qa_168, qa_169, qa_170, qa_171, qa_172, qa_173) => True) (zB D A (fun (u : Nat × Nat × Nat × Nat × Nat × Nat) => match u with | (qa_168, qa_169, qa_170, qa_171, qa_172, qa_173) => [(h0, .inr (7, [.int 0, .int 0, .ref qa_168, .ref qa_169, .ref qa_170, .ref qa_171, .ref qa_172, .ref qa_173]))]) (fun (u : Nat × Nat × Nat × Nat × Nat × Nat) => match u with | (qa_168, qa_169, qa_170, qa_171, qa_172, qa_173) => [])) A) (cc := cX7_init) (maxL := 1) (ret := none) (by decide) rfl (Nat.le_of_ble_eq_true rfl) ?_
  intro p e s m below meth c A ls hx hb hr hml hts hown hlocks hin hA hS hP hD hK hN hl
  have hl : lv_has ls 1 [(0, .ref h0)] := hl
  refine lv_aload_n hx hb dX7_init_0 rfl (lv_at hl 0 rfl) ?_
  refine W.objInit hx hb hown (hts (.methodLink RX7 3 objectInit) (List.mem_of_getElem? (i := 1) rfl)) (hts (.instanceMethod objectInit) (List.mem_of_getElem? (i := 2) rfl)) (hts (.code objectInit ⟨#[0xb1]⟩ 1 none) (List.mem_of_getElem? (i := 3) rfl)) rfl (by rw [hml]; exact hl.1) rfl dX7_init_1 (Nat.le_of_ble_eq_true rfl) (Nat.le_of_ble_eq_true rfl) ?_
  refine W.eq (g2 := F0 m 4 ls []) rfl ?_
  refine lv_aload_n hx hb dX7_init_4 rfl (lv_at hl 0 rfl) ?_
  refine lv_iconst (v := 0) hx hb dX7_init_5 (by decide) ?_
  refine va_put (D := D) (ci := 7) (v := .int 0) (ty := .int) (C := RX7) (T := TX7) (N := 8) hx hb hts iuX7_init_X7 tyX7 tyX7_ok nmX7 hown hK hP hD hS 0 rfl rfl 0 (by decide) (hts (.fieldLink RX7 9 "StraitGame$Sights" "count" "I") (List.mem_of_getElem? (i := 4) rfl)) (fun _ h9 => h9) rfl (by decide +kernel) rfl rfl (Nat.le_of_ble_eq_true rfl) dX7_init_6 (fun H locs hP hD hS => ?_)
  have hP : va_P D vwCl [(h0, .inr (7, [.int 0, .int 0, .null, .null, .null, .null, .null, .null]))] H := hP
  have hD : va_D A [(h0, .inr (7, [.int 0, .int 0, .null, .null, .null, .null, .null, .null]))] := hD
  refine lv_aload_n hx hb dX7_init_9 rfl (lv_at hl 0 rfl) ?_
  refine lv_iconst (v := 0) hx hb dX7_init_10 (by decide) ?_
  refine va_put (D := D) (ci := 7) (v := .int 0) (ty := .int) (C := RX7) (T := TX7) (N := 8) hx hb hts iuX7_init_X7 tyX7 tyX7_ok nmX7 hown hK hP hD hS 0 rfl rfl 1 (by decide) (hts (.fieldLink RX7 15 "StraitGame$Sights" "time" "I") (List.mem_of_getElem? (i := 5) rfl)) (fun _ h9 => h9) rfl (by decide +kernel) rfl rfl (Nat.le_of_ble_eq_true rfl) dX7_init_11 (fun H locs hP hD hS => ?_)
  have hP : va_P D vwCl [(h0, .inr (7, [.int 0, .int 0, .null, .null, .null, .null, .null, .null]))] H := hP
  have hD : va_D A [(h0, .inr (7, [.int 0, .int 0, .null, .null, .null, .null, .null, .null]))] := hD
  refine lv_aload_n hx hb dX7_init_14 rfl (lv_at hl 0 rfl) ?_
  refine lv_bipush (v := 30) hx hb dX7_init_15 (by decide) ?_
  refine va_newa (atype := .int) (a0 := (30, .inl (fun _ => 0))) (ty := .int) (N' := 30) hx hb (hts (.arrayClass .int) (List.mem_of_getElem? (i := 6) rfl)) rfl hK hP hD hS hA (zarr_int 30) (by decide) (by decide) (zby_int (Nat.le_of_ble_eq_true rfl)) (Nat.le_of_ble_eq_true rfl) (Nat.le_of_ble_eq_true rfl) dX7_init_17 (fun qa_174 ck_118 H hK hP hD hS => ?_)
  have hK : va_K D vwCl [(ck_118, .int)] s := hK
  have hP : va_P D vwCl [(h0, .inr (7, [.int 0, .int 0, .null, .null, .null, .null, .null, .null])), (qa_174, .inl (ck_118, 30, .inl (fun _ => 0)))] H := hP
  have hD : va_D A [(h0, .inr (7, [.int 0, .int 0, .null, .null, .null, .null, .null, .null])), (qa_174, .inl (ck_118, 30, .inl (fun _ => 0)))] := hD
  refine W.widen (k := 1) (n := 30) (Nat.le_of_ble_eq_true rfl) (Nat.le_of_ble_eq_true rfl) ?_
  refine va_putF (D := D) (ci := 7) (v := .ref qa_174) (ty := (tyX7 2)) (C := RX7) (T := TX7) (N := 8) hx hb hts iuX7_init_X7 tyX7 tyX7_ok nmX7 hown hK hP hD hS 0 rfl rfl 2 (by decide) (hts (.fieldLink RX7 18 "StraitGame$Sights" "night" "[I") (List.mem_of_getElem? (i := 7) rfl)) (fun _ h9 => h9) rfl hin rfl (by decide +kernel) rfl rfl (Nat.le_of_ble_eq_true rfl) dX7_init_19 (fun H locs hP hD hS => ?_)
  have hP : va_P D vwCl [(h0, .inr (7, [.int 0, .int 0, .ref qa_174, .null, .null, .null, .null, .null])), (qa_174, .inl (ck_118, 30, .inl (fun _ => 0)))] H := hP
  have hD : va_D A [(h0, .inr (7, [.int 0, .int 0, .ref qa_174, .null, .null, .null, .null, .null])), (qa_174, .inl (ck_118, 30, .inl (fun _ => 0)))] := hD
  refine lv_aload_n hx hb dX7_init_22 rfl (lv_at hl 0 rfl) ?_
  refine lv_bipush (v := 30) hx hb dX7_init_23 (by decide) ?_
  refine va_newa (atype := .int) (a0 := (30, .inl (fun _ => 0))) (ty := .int) (N' := 30) hx hb (hts (.arrayClass .int) (List.mem_of_getElem? (i := 6) rfl)) rfl hK hP hD hS hA (zarr_int 30) (by decide) (by decide) (zby_int (Nat.le_of_ble_eq_true rfl)) (Nat.le_of_ble_eq_true rfl) (Nat.le_of_ble_eq_true rfl) dX7_init_25 (fun qa_175 ck_119 H hK hP hD hS => ?_)
  have hK : va_K D vwCl [(ck_118, .int), (ck_119, .int)] s := hK
  have hP : va_P D vwCl [(h0, .inr (7, [.int 0, .int 0, .ref qa_174, .null, .null, .null, .null, .null])), (qa_174, .inl (ck_118, 30, .inl (fun _ => 0))), (qa_175, .inl (ck_119, 30, .inl (fun _ => 0)))] H := hP
  have hD : va_D A [(h0, .inr (7, [.int 0, .int 0, .ref qa_174, .null, .null, .null, .null, .null])), (qa_174, .inl (ck_118, 30, .inl (fun _ => 0))), (qa_175, .inl (ck_119, 30, .inl (fun _ => 0)))] := hD
  refine W.widen (k := 2) (n := 60) (Nat.le_of_ble_eq_true rfl) (Nat.le_of_ble_eq_true rfl) ?_
  refine va_putF (D := D) (ci := 7) (v := .ref qa_175) (ty := (tyX7 3)) (C := RX7) (T := TX7) (N := 8) hx hb hts iuX7_init_X7 tyX7 tyX7_ok nmX7 hown hK hP hD hS 0 rfl rfl 3 (by decide) (hts (.fieldLink RX7 22 "StraitGame$Sights" "keeper" "[I") (List.mem_of_getElem? (i := 8) rfl)) (fun _ h9 => h9) rfl hin rfl (by decide +kernel) rfl rfl (Nat.le_of_ble_eq_true rfl) dX7_init_27 (fun H locs hP hD hS => ?_)
  have hP : va_P D vwCl [(h0, .inr (7, [.int 0, .int 0, .ref qa_174, .ref qa_175, .null, .null, .null, .null])), (qa_174, .inl (ck_118, 30, .inl (fun _ => 0))), (qa_175, .inl (ck_119, 30, .inl (fun _ => 0)))] H := hP
  have hD : va_D A [(h0, .inr (7, [.int 0, .int 0, .ref qa_174, .ref qa_175, .null, .null, .null, .null])), (qa_174, .inl (ck_118, 30, .inl (fun _ => 0))), (qa_175, .inl (ck_119, 30, .inl (fun _ => 0)))] := hD
  refine lv_aload_n hx hb dX7_init_30 rfl (lv_at hl 0 rfl) ?_
  refine lv_bipush (v := 30) hx hb dX7_init_31 (by decide) ?_
  refine va_newa (atype := .int) (a0 := (30, .inl (fun _ => 0))) (ty := .int) (N' := 30) hx hb (hts (.arrayClass .int) (List.mem_of_getElem? (i := 6) rfl)) rfl hK hP hD hS hA (zarr_int 30) (by decide) (by decide) (zby_int (Nat.le_of_ble_eq_true rfl)) (Nat.le_of_ble_eq_true rfl) (Nat.le_of_ble_eq_true rfl) dX7_init_33 (fun qa_176 ck_120 H hK hP hD hS => ?_)
  have hK : va_K D vwCl [(ck_118, .int), (ck_119, .int), (ck_120, .int)] s := hK
  have hP : va_P D vwCl [(h0, .inr (7, [.int 0, .int 0, .ref qa_174, .ref qa_175, .null, .null, .null, .null])), (qa_174, .inl (ck_118, 30, .inl (fun _ => 0))), (qa_175, .inl (ck_119, 30, .inl (fun _ => 0))), (qa_176, .inl (ck_120, 30, .inl (fun _ => 0)))] H := hP
  have hD : va_D A [(h0, .inr (7, [.int 0, .int 0, .ref qa_174, .ref qa_175, .null, .null, .null, .null])), (qa_174, .inl (ck_118, 30, .inl (fun _ => 0))), (qa_175, .inl (ck_119, 30, .inl (fun _ => 0))), (qa_176, .inl (ck_120, 30, .inl (fun _ => 0)))] := hD
  refine W.widen (k := 3) (n := 90) (Nat.le_of_ble_eq_true rfl) (Nat.le_of_ble_eq_true rfl) ?_
  refine va_putF (D := D) (ci := 7) (v := .ref qa_176) (ty := (tyX7 4)) (C := RX7) (T := TX7) (N := 8) hx hb hts iuX7_init_X7 tyX7 tyX7_ok nmX7 hown hK hP hD hS 0 rfl rfl 4 (by decide) (hts (.fieldLink RX7 25 "StraitGame$Sights" "square" "[I") (List.mem_of_getElem? (i := 9) rfl)) (fun _ h9 => h9) rfl hin rfl (by decide +kernel) rfl rfl (Nat.le_of_ble_eq_true rfl) dX7_init_35 (fun H locs hP hD hS => ?_)
  have hP : va_P D vwCl [(h0, .inr (7, [.int 0, .int 0, .ref qa_174, .ref qa_175, .ref qa_176, .null, .null, .null])), (qa_174, .inl (ck_118, 30, .inl (fun _ => 0))), (qa_175, .inl (ck_119, 30, .inl (fun _ => 0))), (qa_176, .inl (ck_120, 30, .inl (fun _ => 0)))] H := hP
  have hD : va_D A [(h0, .inr (7, [.int 0, .int 0, .ref qa_174, .ref qa_175, .ref qa_176, .null, .null, .null])), (qa_174, .inl (ck_118, 30, .inl (fun _ => 0))), (qa_175, .inl (ck_119, 30, .inl (fun _ => 0))), (qa_176, .inl (ck_120, 30, .inl (fun _ => 0)))] := hD
  refine lv_aload_n hx hb dX7_init_38 rfl (lv_at hl 0 rfl) ?_
  refine lv_bipush (v := 30) hx hb dX7_init_39 (by decide) ?_
  refine va_newa (atype := .int) (a0 := (30, .inl (fun _ => 0))) (ty := .int) (N' := 30) hx hb (hts (.arrayClass .int) (List.mem_of_getElem? (i := 6) rfl)) rfl hK hP hD hS hA (zarr_int 30) (by decide) (by decide) (zby_int (Nat.le_of_ble_eq_true rfl)) (Nat.le_of_ble_eq_true rfl) (Nat.le_of_ble_eq_true rfl) dX7_init_41 (fun qa_177 ck_121 H hK hP hD hS => ?_)
  have hK : va_K D vwCl [(ck_118, .int), (ck_119, .int), (ck_120, .int), (ck_121, .int)] s := hK
  have hP : va_P D vwCl [(h0, .inr (7, [.int 0, .int 0, .ref qa_174, .ref qa_175, .ref qa_176, .null, .null, .null])), (qa_174, .inl (ck_118, 30, .inl (fun _ => 0))), (qa_175, .inl (ck_119, 30, .inl (fun _ => 0))), (qa_176, .inl (ck_120, 30, .inl (fun _ => 0))), (qa_177, .inl (ck_121, 30, .inl (fun _ => 0)))] H := hP
  have hD : va_D A [(h0, .inr (7, [.int 0, .int 0, .ref qa_174, .ref qa_175, .ref qa_176, .null, .null, .null])), (qa_174, .inl (ck_118, 30, .inl (fun _ => 0))), (qa_175, .inl (ck_119, 30, .inl (fun _ => 0))), (qa_176, .inl (ck_120, 30, .inl (fun _ => 0))), (qa_177, .inl (ck_121, 30, .inl (fun _ => 0)))] := hD
  refine W.widen (k := 4) (n := 120) (Nat.le_of_ble_eq_true rfl) (Nat.le_of_ble_eq_true rfl) ?_
  refine va_putF (D := D) (ci := 7) (v := .ref qa_177) (ty := (tyX7 5)) (C := RX7) (T := TX7) (N := 8) hx hb hts iuX7_init_X7 tyX7 tyX7_ok nmX7 hown hK hP hD hS 0 rfl rfl 5 (by decide) (hts (.fieldLink RX7 28 "StraitGame$Sights" "man" "[I") (List.mem_of_getElem? (i := 10) rfl)) (fun _ h9 => h9) rfl hin rfl (by decide +kernel) rfl rfl (Nat.le_of_ble_eq_true rfl) dX7_init_43 (fun H locs hP hD hS => ?_)
  have hP : va_P D vwCl [(h0, .inr (7, [.int 0, .int 0, .ref qa_174, .ref qa_175, .ref qa_176, .ref qa_177, .null, .null])), (qa_174, .inl (ck_118, 30, .inl (fun _ => 0))), (qa_175, .inl (ck_119, 30, .inl (fun _ => 0))), (qa_176, .inl (ck_120, 30, .inl (fun _ => 0))), (qa_177, .inl (ck_121, 30, .inl (fun _ => 0)))] H := hP
  have hD : va_D A [(h0, .inr (7, [.int 0, .int 0, .ref qa_174, .ref qa_175, .ref qa_176, .ref qa_177, .null, .null])), (qa_174, .inl (ck_118, 30, .inl (fun _ => 0))), (qa_175, .inl (ck_119, 30, .inl (fun _ => 0))), (qa_176, .inl (ck_120, 30, .inl (fun _ => 0))), (qa_177, .inl (ck_121, 30, .inl (fun _ => 0)))] := hD
  refine lv_aload_n hx hb dX7_init_46 rfl (lv_at hl 0 rfl) ?_
  refine lv_bipush (v := 30) hx hb dX7_init_47 (by decide) ?_
  refine va_newa (atype := .int) (a0 := (30, .inl (fun _ => 0))) (ty := .int) (N' := 30) hx hb (hts (.arrayClass .int) (List.mem_of_getElem? (i := 6) rfl)) rfl hK hP hD hS hA (zarr_int 30) (by decide) (by decide) (zby_int (Nat.le_of_ble_eq_true rfl)) (Nat.le_of_ble_eq_true rfl) (Nat.le_of_ble_eq_true rfl) dX7_init_49 (fun qa_178 ck_122 H hK hP hD hS => ?_)
  have hK : va_K D vwCl [(ck_118, .int), (ck_119, .int), (ck_120, .int), (ck_121, .int), (ck_122, .int)] s := hK
  have hP : va_P D vwCl [(h0, .inr (7, [.int 0, .int 0, .ref qa_174, .ref qa_175, .ref qa_176, .ref qa_177, .null, .null])), (qa_174, .inl (ck_118, 30, .inl (fun _ => 0))), (qa_175, .inl (ck_119, 30, .inl (fun _ => 0))), (qa_176, .inl (ck_120, 30, .inl (fun _ => 0))), (qa_177, .inl (ck_121, 30, .inl (fun _ => 0))), (qa_178, .inl (ck_122, 30, .inl (fun _ => 0)))] H := hP
  have hD : va_D A [(h0, .inr (7, [.int 0, .int 0, .ref qa_174, .ref qa_175, .ref qa_176, .ref qa_177, .null, .null])), (qa_174, .inl (ck_118, 30, .inl (fun _ => 0))), (qa_175, .inl (ck_119, 30, .inl (fun _ => 0))), (qa_176, .inl (ck_120, 30, .inl (fun _ => 0))), (qa_177, .inl (ck_121, 30, .inl (fun _ => 0))), (qa_178, .inl (ck_122, 30, .inl (fun _ => 0)))] := hD
  refine W.widen (k := 5) (n := 150) (Nat.le_of_ble_eq_true rfl) (Nat.le_of_ble_eq_true rfl) ?_
  refine va_putF (D := D) (ci := 7) (v := .ref qa_178) (ty := (tyX7 6)) (C := RX7) (T := TX7) (N := 8) hx hb hts iuX7_init_X7 tyX7 tyX7_ok nmX7 hown hK hP hD hS 0 rfl rfl 6 (by decide) (hts (.fieldLink RX7 31 "StraitGame$Sights" "toldAt" "[I") (List.mem_of_getElem? (i := 11) rfl)) (fun _ h9 => h9) rfl hin rfl (by decide +kernel) rfl rfl (Nat.le_of_ble_eq_true rfl) dX7_init_51 (fun H locs hP hD hS => ?_)
  have hP : va_P D vwCl [(h0, .inr (7, [.int 0, .int 0, .ref qa_174, .ref qa_175, .ref qa_176, .ref qa_177, .ref qa_178, .null])), (qa_174, .inl (ck_118, 30, .inl (fun _ => 0))), (qa_175, .inl (ck_119, 30, .inl (fun _ => 0))), (qa_176, .inl (ck_120, 30, .inl (fun _ => 0))), (qa_177, .inl (ck_121, 30, .inl (fun _ => 0))), (qa_178, .inl (ck_122, 30, .inl (fun _ => 0)))] H := hP
  have hD : va_D A [(h0, .inr (7, [.int 0, .int 0, .ref qa_174, .ref qa_175, .ref qa_176, .ref qa_177, .ref qa_178, .null])), (qa_174, .inl (ck_118, 30, .inl (fun _ => 0))), (qa_175, .inl (ck_119, 30, .inl (fun _ => 0))), (qa_176, .inl (ck_120, 30, .inl (fun _ => 0))), (qa_177, .inl (ck_121, 30, .inl (fun _ => 0))), (qa_178, .inl (ck_122, 30, .inl (fun _ => 0)))] := hD
  refine lv_aload_n hx hb dX7_init_54 rfl (lv_at hl 0 rfl) ?_
  refine lv_bipush (v := 30) hx hb dX7_init_55 (by decide) ?_
  refine va_newa (atype := .int) (a0 := (30, .inl (fun _ => 0))) (ty := .int) (N' := 30) hx hb (hts (.arrayClass .int) (List.mem_of_getElem? (i := 6) rfl)) rfl hK hP hD hS hA (zarr_int 30) (by decide) (by decide) (zby_int (Nat.le_of_ble_eq_true rfl)) (Nat.le_of_ble_eq_true rfl) (Nat.le_of_ble_eq_true rfl) dX7_init_57 (fun qa_179 ck_123 H hK hP hD hS => ?_)
  have hK : va_K D vwCl [(ck_118, .int), (ck_119, .int), (ck_120, .int), (ck_121, .int), (ck_122, .int), (ck_123, .int)] s := hK
  have hP : va_P D vwCl [(h0, .inr (7, [.int 0, .int 0, .ref qa_174, .ref qa_175, .ref qa_176, .ref qa_177, .ref qa_178, .null])), (qa_174, .inl (ck_118, 30, .inl (fun _ => 0))), (qa_175, .inl (ck_119, 30, .inl (fun _ => 0))), (qa_176, .inl (ck_120, 30, .inl (fun _ => 0))), (qa_177, .inl (ck_121, 30, .inl (fun _ => 0))), (qa_178, .inl (ck_122, 30, .inl (fun _ => 0))), (qa_179, .inl (ck_123, 30, .inl (fun _ => 0)))] H := hP
  have hD : va_D A [(h0, .inr (7, [.int 0, .int 0, .ref qa_174, .ref qa_175, .ref qa_176, .ref qa_177, .ref qa_178, .null])), (qa_174, .inl (ck_118, 30, .inl (fun _ => 0))), (qa_175, .inl (ck_119, 30, .inl (fun _ => 0))), (qa_176, .inl (ck_120, 30, .inl (fun _ => 0))), (qa_177, .inl (ck_121, 30, .inl (fun _ => 0))), (qa_178, .inl (ck_122, 30, .inl (fun _ => 0))), (qa_179, .inl (ck_123, 30, .inl (fun _ => 0)))] := hD
  refine W.widen (k := 6) (n := 180) (Nat.le_of_ble_eq_true rfl) (Nat.le_of_ble_eq_true rfl) ?_
  refine va_putF (D := D) (ci := 7) (v := .ref qa_179) (ty := (tyX7 7)) (C := RX7) (T := TX7) (N := 8) hx hb hts iuX7_init_X7 tyX7 tyX7_ok nmX7 hown hK hP hD hS 0 rfl rfl 7 (by decide) (hts (.fieldLink RX7 34 "StraitGame$Sights" "untoldAt" "[I") (List.mem_of_getElem? (i := 12) rfl)) (fun _ h9 => h9) rfl hin rfl (by decide +kernel) rfl rfl (Nat.le_of_ble_eq_true rfl) dX7_init_59 (fun H locs hP hD hS => ?_)
  have hP : va_P D vwCl [(h0, .inr (7, [.int 0, .int 0, .ref qa_174, .ref qa_175, .ref qa_176, .ref qa_177, .ref qa_178, .ref qa_179])), (qa_174, .inl (ck_118, 30, .inl (fun _ => 0))), (qa_175, .inl (ck_119, 30, .inl (fun _ => 0))), (qa_176, .inl (ck_120, 30, .inl (fun _ => 0))), (qa_177, .inl (ck_121, 30, .inl (fun _ => 0))), (qa_178, .inl (ck_122, 30, .inl (fun _ => 0))), (qa_179, .inl (ck_123, 30, .inl (fun _ => 0)))] H := hP
  have hD : va_D A [(h0, .inr (7, [.int 0, .int 0, .ref qa_174, .ref qa_175, .ref qa_176, .ref qa_177, .ref qa_178, .ref qa_179])), (qa_174, .inl (ck_118, 30, .inl (fun _ => 0))), (qa_175, .inl (ck_119, 30, .inl (fun _ => 0))), (qa_176, .inl (ck_120, 30, .inl (fun _ => 0))), (qa_177, .inl (ck_121, 30, .inl (fun _ => 0))), (qa_178, .inl (ck_122, 30, .inl (fun _ => 0))), (qa_179, .inl (ck_123, 30, .inl (fun _ => 0)))] := hD
  exact zret_v hx hb hr hlocks hP hD hK hS (qa_174, qa_175, qa_176, qa_177, qa_178, qa_179) trivial [0] [] (by decide) rfl rfl (Nat.le_of_ble_eq_true rfl) (Nat.le_of_ble_eq_true rfl) dX7_init_62
set_option maxHeartbeats 4000000 in
set_option maxRecDepth 100000 in
theorem zX8_init_1 (l : Launch) (D : va_G) (h0 r0 r1 r2 : Nat) (sz : Nat) : Met l yX8_init wsX8_init ({ frames := 2, cells := 24, slots := 176, locals := 32 }) (zPre D [.ref h0, .ref r0, .ref r1, .ref r2] [(h0, .inr (8, [.int 0, .int 0, .int 0, .int 0, .null, .null, .null, .null, .null, .int 0]))] [] sz) ((fun A => va_Qv (fun (u : Nat × Nat × Nat × Nat × ClassId × ClassId × (Nat → Option Nat) × (Nat → Option Nat)) => match u with | (qa_187, qa_188, qa_189, qa_190, ck_126, ck_127, fl_15, fl_16) => fl_15 0 = some qa_189 ∧ fl_16 0 = some qa_190) (zB D A (fun (u : Nat × Nat × Nat × Nat × ClassId × ClassId × (Nat → Option Nat) × (Nat → Option Nat)) => match u with | (qa_187, qa_188, qa_189, qa_190, ck_126, ck_127, fl_15, fl_16) => [(h0, .inr (8, [.int 0, .int 0, .int 0, .int (-1), .ref r0, .ref r1, .ref r2, .ref qa_187, .ref qa_188, .int 0])), (qa_187, .inl (ck_126, 11, .inr (.inr (.inr (.inr fl_15))))), (qa_188, .inl (ck_127, 11, .inr (.inr (.inr (.inr fl_16))))), (qa_189, .inr (4, [.int 0, .int 0, .int 0, .int 0, .int 0, .int 0, .int 0])), (qa_190, .inr (4, [.int 0, .int 0, .int 0, .int 0, .int 0, .int 0, .int 0]))]) (fun (u : Nat × Nat × Nat × Nat × ClassId × ClassId × (Nat → Option Nat) × (Nat → Option Nat)) => match u with | (qa_187, qa_188, qa_189, qa_190, ck_126, ck_127, fl_15, fl_16) => [(ck_126, .object RX4), (ck_127, .object RX4)])) A) (va_A [(h0, .inr (8, [.int 0, .int 0, .int 0, .int 0, .null, .null, .null, .null, .null, .int 0]))] sz)) 24 176 (va_A [(h0, .inr (8, [.int 0, .int 0, .int 0, .int 0, .null, .null, .null, .null, .null, .int 0]))] sz) := by
  refine zOfW (QF := fun A => va_Qv (fun (u : Nat × Nat × Nat × Nat × ClassId × ClassId × (Nat → Option Nat) × (Nat → Option Nat)) => match u with | (qa_187, qa_188, qa_189, qa_190, ck_126, ck_127, fl_15, fl_16) => fl_15 0 = some qa_189 ∧ fl_16 0 = some qa_190) (zB D A (fun (u : Nat × Nat × Nat × Nat × ClassId × ClassId × (Nat → Option Nat) × (Nat → Option Nat)) => match u with | (qa_187, qa_188, qa_189, qa_190, ck_126, ck_127, fl_15, fl_16) => [(h0, .inr (8, [.int 0, .int 0, .int 0, .int (-1), .ref r0, .ref r1, .ref r2, .ref qa_187, .ref qa_188, .int 0])), (qa_187, .inl (ck_126, 11, .inr (.inr (.inr (.inr fl_15))))), (qa_188, .inl (ck_127, 11, .inr (.inr (.inr (.inr fl_16))))), (qa_189, .inr (4, [.int 0, .int 0, .int 0, .int 0, .int 0, .int 0, .int 0])), (qa_190, .inr (4, [.int 0, .int 0, .int 0, .int 0, .int 0, .int 0, .int 0]))]) (fun (u : Nat × Nat × Nat × Nat × ClassId × ClassId × (Nat → Option Nat) × (Nat → Option Nat)) => match u with | (qa_187, qa_188, qa_189, qa_190, ck_126, ck_127, fl_15, fl_16) => [(ck_126, .object RX4), (ck_127, .object RX4)])) A) (cc := cX8_init) (maxL := 5) (ret := none) (by decide) rfl (Nat.le_of_ble_eq_true rfl) ?_
  intro p e s m below meth c A ls hx hb hr hml hts hown hlocks hin hA hS hP hD hK hN hl
  have hl : lv_has ls 5 [(0, .ref h0), (1, .ref r0), (2, .ref r1), (3, .ref r2)] := hl
  refine lv_aload_n hx hb dX8_init_0 rfl (lv_at hl 0 rfl) ?_
  refine W.objInit hx hb hown (hts (.methodLink RX8 3 objectInit) (List.mem_of_getElem? (i := 1) rfl)) (hts (.instanceMethod objectInit) (List.mem_of_getElem? (i := 2) rfl)) (hts (.code objectInit ⟨#[0xb1]⟩ 1 none) (List.mem_of_getElem? (i := 3) rfl)) rfl (by rw [hml]; exact hl.1) rfl dX8_init_1 (Nat.le_of_ble_eq_true rfl) (Nat.le_of_ble_eq_true rfl) ?_
  refine W.eq (g2 := F0 m 4 ls []) rfl ?_
  refine lv_aload_n hx hb dX8_init_4 rfl (lv_at hl 0 rfl) ?_
  refine lv_iconst (v := 0) hx hb dX8_init_5 (by decide) ?_
  refine va_put (D := D) (ci := 8) (v := .int 0) (ty := .int) (C := RX8) (T := TX8) (N := 10) hx hb hts iuX8_init_X8 tyX8 tyX8_ok nmX8 hown hK hP hD hS 0 rfl rfl 0 (by decide) (hts (.fieldLink RX8 9 "StraitGame$Storms" "sets" "I") (List.mem_of_getElem? (i := 4) rfl)) (fun _ h9 => h9) rfl (by decide +kernel) rfl rfl (Nat.le_of_ble_eq_true rfl) dX8_init_6 (fun H locs hP hD hS => ?_)
  have hP : va_P D vwCl [(h0, .inr (8, [.int 0, .int 0, .int 0, .int 0, .null, .null, .null, .null, .null, .int 0]))] H := hP
  have hD : va_D A [(h0, .inr (8, [.int 0, .int 0, .int 0, .int 0, .null, .null, .null, .null, .null, .int 0]))] := hD
  refine lv_aload_n hx hb dX8_init_9 rfl (lv_at hl 0 rfl) ?_
  refine lv_iconst (v := 0) hx hb dX8_init_10 (by decide) ?_
  refine va_put (D := D) (ci := 8) (v := .int 0) (ty := .int) (C := RX8) (T := TX8) (N := 10) hx hb hts iuX8_init_X8 tyX8 tyX8_ok nmX8 hown hK hP hD hS 0 rfl rfl 1 (by decide) (hts (.fieldLink RX8 15 "StraitGame$Storms" "lostForSure" "I") (List.mem_of_getElem? (i := 5) rfl)) (fun _ h9 => h9) rfl (by decide +kernel) rfl rfl (Nat.le_of_ble_eq_true rfl) dX8_init_11 (fun H locs hP hD hS => ?_)
  have hP : va_P D vwCl [(h0, .inr (8, [.int 0, .int 0, .int 0, .int 0, .null, .null, .null, .null, .null, .int 0]))] H := hP
  have hD : va_D A [(h0, .inr (8, [.int 0, .int 0, .int 0, .int 0, .null, .null, .null, .null, .null, .int 0]))] := hD
  refine lv_aload_n hx hb dX8_init_14 rfl (lv_at hl 0 rfl) ?_
  refine lv_iconst (v := 0) hx hb dX8_init_15 (by decide) ?_
  refine va_put (D := D) (ci := 8) (v := .int 0) (ty := .int) (C := RX8) (T := TX8) (N := 10) hx hb hts iuX8_init_X8 tyX8 tyX8_ok nmX8 hown hK hP hD hS 0 rfl rfl 2 (by decide) (hts (.fieldLink RX8 18 "StraitGame$Storms" "heardForSure" "I") (List.mem_of_getElem? (i := 6) rfl)) (fun _ h9 => h9) rfl (by decide +kernel) rfl rfl (Nat.le_of_ble_eq_true rfl) dX8_init_16 (fun H locs hP hD hS => ?_)
  have hP : va_P D vwCl [(h0, .inr (8, [.int 0, .int 0, .int 0, .int 0, .null, .null, .null, .null, .null, .int 0]))] H := hP
  have hD : va_D A [(h0, .inr (8, [.int 0, .int 0, .int 0, .int 0, .null, .null, .null, .null, .null, .int 0]))] := hD
  refine lv_aload_n hx hb dX8_init_19 rfl (lv_at hl 0 rfl) ?_
  refine lv_iconst (v := (-1)) hx hb dX8_init_20 (by decide) ?_
  refine va_put (D := D) (ci := 8) (v := .int (-1)) (ty := .int) (C := RX8) (T := TX8) (N := 10) hx hb hts iuX8_init_X8 tyX8 tyX8_ok nmX8 hown hK hP hD hS 0 rfl rfl 3 (by decide) (hts (.fieldLink RX8 21 "StraitGame$Storms" "fewest" "I") (List.mem_of_getElem? (i := 7) rfl)) (fun _ h9 => h9) rfl (by decide +kernel) rfl rfl (Nat.le_of_ble_eq_true rfl) dX8_init_21 (fun H locs hP hD hS => ?_)
  have hP : va_P D vwCl [(h0, .inr (8, [.int 0, .int 0, .int 0, .int (-1), .null, .null, .null, .null, .null, .int 0]))] H := hP
  have hD : va_D A [(h0, .inr (8, [.int 0, .int 0, .int 0, .int (-1), .null, .null, .null, .null, .null, .int 0]))] := hD
  refine lv_aload_n hx hb dX8_init_24 rfl (lv_at hl 0 rfl) ?_
  refine lv_bipush (v := 11) hx hb dX8_init_25 (by decide) ?_
  refine va_newq (N' := 11) hx hb hown (hts (.classLink RX8 24 RX4) (List.mem_of_getElem? (i := 8) rfl)) hN.1 hK hP hD hS hA (by decide) (by decide) (zby_ref (Nat.le_of_ble_eq_true rfl)) (Nat.le_of_ble_eq_true rfl) (Nat.le_of_ble_eq_true rfl) dX8_init_27 (fun qa_193 ck_128 H hK hP hD hS => ?_)
  have hK : va_K D vwCl [(ck_128, .object RX4)] s := hK
  have hP : va_P D vwCl [(h0, .inr (8, [.int 0, .int 0, .int 0, .int (-1), .null, .null, .null, .null, .null, .int 0])), (qa_193, .inl (ck_128, 11, .inr (.inr (.inr (.inr (fun _ => none))))))] H := hP
  have hD : va_D A [(h0, .inr (8, [.int 0, .int 0, .int 0, .int (-1), .null, .null, .null, .null, .null, .int 0])), (qa_193, .inl (ck_128, 11, .inr (.inr (.inr (.inr (fun _ => none))))))] := hD
  refine W.widen (k := 1) (n := 11) (Nat.le_of_ble_eq_true rfl) (Nat.le_of_ble_eq_true rfl) ?_
  refine va_putF (D := D) (ci := 8) (v := .ref qa_193) (ty := (tyX8 7)) (C := RX8) (T := TX8) (N := 10) hx hb hts iuX8_init_X8 tyX8 tyX8_ok nmX8 hown hK hP hD hS 0 rfl rfl 7 (by decide) (hts (.fieldLink RX8 26 "StraitGame$Storms" "white" "[LStraitGame$Position;") (List.mem_of_getElem? (i := 9) rfl)) (fun _ h9 => h9) rfl hin rfl (by decide +kernel) rfl rfl (Nat.le_of_ble_eq_true rfl) dX8_init_30 (fun H locs hP hD hS => ?_)
  have hP : va_P D vwCl [(h0, .inr (8, [.int 0, .int 0, .int 0, .int (-1), .null, .null, .null, .ref qa_193, .null, .int 0])), (qa_193, .inl (ck_128, 11, .inr (.inr (.inr (.inr (fun _ => none))))))] H := hP
  have hD : va_D A [(h0, .inr (8, [.int 0, .int 0, .int 0, .int (-1), .null, .null, .null, .ref qa_193, .null, .int 0])), (qa_193, .inl (ck_128, 11, .inr (.inr (.inr (.inr (fun _ => none))))))] := hD
  refine lv_aload_n hx hb dX8_init_33 rfl (lv_at hl 0 rfl) ?_
  refine lv_bipush (v := 11) hx hb dX8_init_34 (by decide) ?_
  refine va_newq (N' := 11) hx hb hown (hts (.classLink RX8 24 RX4) (List.mem_of_getElem? (i := 8) rfl)) hN.1 hK hP hD hS hA (by decide) (by decide) (zby_ref (Nat.le_of_ble_eq_true rfl)) (Nat.le_of_ble_eq_true rfl) (Nat.le_of_ble_eq_true rfl) dX8_init_36 (fun qa_194 ck_129 H hK hP hD hS => ?_)
  have hK : va_K D vwCl [(ck_128, .object RX4), (ck_129, .object RX4)] s := hK
  have hP : va_P D vwCl [(h0, .inr (8, [.int 0, .int 0, .int 0, .int (-1), .null, .null, .null, .ref qa_193, .null, .int 0])), (qa_193, .inl (ck_128, 11, .inr (.inr (.inr (.inr (fun _ => none)))))), (qa_194, .inl (ck_129, 11, .inr (.inr (.inr (.inr (fun _ => none))))))] H := hP
  have hD : va_D A [(h0, .inr (8, [.int 0, .int 0, .int 0, .int (-1), .null, .null, .null, .ref qa_193, .null, .int 0])), (qa_193, .inl (ck_128, 11, .inr (.inr (.inr (.inr (fun _ => none)))))), (qa_194, .inl (ck_129, 11, .inr (.inr (.inr (.inr (fun _ => none))))))] := hD
  refine W.widen (k := 2) (n := 22) (Nat.le_of_ble_eq_true rfl) (Nat.le_of_ble_eq_true rfl) ?_
  refine va_putF (D := D) (ci := 8) (v := .ref qa_194) (ty := (tyX8 8)) (C := RX8) (T := TX8) (N := 10) hx hb hts iuX8_init_X8 tyX8 tyX8_ok nmX8 hown hK hP hD hS 0 rfl rfl 8 (by decide) (hts (.fieldLink RX8 30 "StraitGame$Storms" "black" "[LStraitGame$Position;") (List.mem_of_getElem? (i := 10) rfl)) (fun _ h9 => h9) rfl hin rfl (by decide +kernel) rfl rfl (Nat.le_of_ble_eq_true rfl) dX8_init_39 (fun H locs hP hD hS => ?_)
  have hP : va_P D vwCl [(h0, .inr (8, [.int 0, .int 0, .int 0, .int (-1), .null, .null, .null, .ref qa_193, .ref qa_194, .int 0])), (qa_193, .inl (ck_128, 11, .inr (.inr (.inr (.inr (fun _ => none)))))), (qa_194, .inl (ck_129, 11, .inr (.inr (.inr (.inr (fun _ => none))))))] H := hP
  have hD : va_D A [(h0, .inr (8, [.int 0, .int 0, .int 0, .int (-1), .null, .null, .null, .ref qa_193, .ref qa_194, .int 0])), (qa_193, .inl (ck_128, 11, .inr (.inr (.inr (.inr (fun _ => none)))))), (qa_194, .inl (ck_129, 11, .inr (.inr (.inr (.inr (fun _ => none))))))] := hD
  refine lv_aload_n hx hb dX8_init_42 rfl (lv_at hl 0 rfl) ?_
  refine lv_iconst (v := 0) hx hb dX8_init_43 (by decide) ?_
  refine va_put (D := D) (ci := 8) (v := .int 0) (ty := .int) (C := RX8) (T := TX8) (N := 10) hx hb hts iuX8_init_X8 tyX8 tyX8_ok nmX8 hown hK hP hD hS 0 rfl rfl 9 (by decide) (hts (.fieldLink RX8 33 "StraitGame$Storms" "known" "I") (List.mem_of_getElem? (i := 11) rfl)) (fun _ h9 => h9) rfl (by decide +kernel) rfl rfl (Nat.le_of_ble_eq_true rfl) dX8_init_44 (fun H locs hP hD hS => ?_)
  have hP : va_P D vwCl [(h0, .inr (8, [.int 0, .int 0, .int 0, .int (-1), .null, .null, .null, .ref qa_193, .ref qa_194, .int 0])), (qa_193, .inl (ck_128, 11, .inr (.inr (.inr (.inr (fun _ => none)))))), (qa_194, .inl (ck_129, 11, .inr (.inr (.inr (.inr (fun _ => none))))))] H := hP
  have hD : va_D A [(h0, .inr (8, [.int 0, .int 0, .int 0, .int (-1), .null, .null, .null, .ref qa_193, .ref qa_194, .int 0])), (qa_193, .inl (ck_128, 11, .inr (.inr (.inr (.inr (fun _ => none)))))), (qa_194, .inl (ck_129, 11, .inr (.inr (.inr (.inr (fun _ => none))))))] := hD
  refine lv_aload_n hx hb dX8_init_47 rfl (lv_at hl 0 rfl) ?_
  refine lv_aload_n hx hb dX8_init_48 rfl (lv_at hl 1 rfl) ?_
  refine va_putF (D := D) (ci := 8) (v := .ref r0) (ty := (tyX8 4)) (C := RX8) (T := TX8) (N := 10) hx hb hts iuX8_init_X8 tyX8 tyX8_ok nmX8 hown hK hP hD hS 0 rfl rfl 4 (by decide) (hts (.fieldLink RX8 36 "StraitGame$Storms" "laws" "LStraitGame$Laws;") (List.mem_of_getElem? (i := 12) rfl)) (fun _ h9 => h9) rfl hin rfl (by decide +kernel) rfl rfl (Nat.le_of_ble_eq_true rfl) dX8_init_49 (fun H locs hP hD hS => ?_)
  have hP : va_P D vwCl [(h0, .inr (8, [.int 0, .int 0, .int 0, .int (-1), .ref r0, .null, .null, .ref qa_193, .ref qa_194, .int 0])), (qa_193, .inl (ck_128, 11, .inr (.inr (.inr (.inr (fun _ => none)))))), (qa_194, .inl (ck_129, 11, .inr (.inr (.inr (.inr (fun _ => none))))))] H := hP
  have hD : va_D A [(h0, .inr (8, [.int 0, .int 0, .int 0, .int (-1), .ref r0, .null, .null, .ref qa_193, .ref qa_194, .int 0])), (qa_193, .inl (ck_128, 11, .inr (.inr (.inr (.inr (fun _ => none)))))), (qa_194, .inl (ck_129, 11, .inr (.inr (.inr (.inr (fun _ => none))))))] := hD
  refine lv_aload_n hx hb dX8_init_52 rfl (lv_at hl 0 rfl) ?_
  refine lv_aload_n hx hb dX8_init_53 rfl (lv_at hl 2 rfl) ?_
  refine va_putF (D := D) (ci := 8) (v := .ref r1) (ty := (tyX8 5)) (C := RX8) (T := TX8) (N := 10) hx hb hts iuX8_init_X8 tyX8 tyX8_ok nmX8 hown hK hP hD hS 0 rfl rfl 5 (by decide) (hts (.fieldLink RX8 40 "StraitGame$Storms" "nights" "LStraitGame$Nights;") (List.mem_of_getElem? (i := 13) rfl)) (fun _ h9 => h9) rfl hin rfl (by decide +kernel) rfl rfl (Nat.le_of_ble_eq_true rfl) dX8_init_54 (fun H locs hP hD hS => ?_)
  have hP : va_P D vwCl [(h0, .inr (8, [.int 0, .int 0, .int 0, .int (-1), .ref r0, .ref r1, .null, .ref qa_193, .ref qa_194, .int 0])), (qa_193, .inl (ck_128, 11, .inr (.inr (.inr (.inr (fun _ => none)))))), (qa_194, .inl (ck_129, 11, .inr (.inr (.inr (.inr (fun _ => none))))))] H := hP
  have hD : va_D A [(h0, .inr (8, [.int 0, .int 0, .int 0, .int (-1), .ref r0, .ref r1, .null, .ref qa_193, .ref qa_194, .int 0])), (qa_193, .inl (ck_128, 11, .inr (.inr (.inr (.inr (fun _ => none)))))), (qa_194, .inl (ck_129, 11, .inr (.inr (.inr (.inr (fun _ => none))))))] := hD
  refine lv_aload_n hx hb dX8_init_57 rfl (lv_at hl 0 rfl) ?_
  refine lv_aload_n hx hb dX8_init_58 rfl (lv_at hl 3 rfl) ?_
  refine va_putF (D := D) (ci := 8) (v := .ref r2) (ty := (tyX8 6)) (C := RX8) (T := TX8) (N := 10) hx hb hts iuX8_init_X8 tyX8 tyX8_ok nmX8 hown hK hP hD hS 0 rfl rfl 6 (by decide) (hts (.fieldLink RX8 44 "StraitGame$Storms" "sights" "LStraitGame$Sights;") (List.mem_of_getElem? (i := 14) rfl)) (fun _ h9 => h9) rfl hin rfl (by decide +kernel) rfl rfl (Nat.le_of_ble_eq_true rfl) dX8_init_59 (fun H locs hP hD hS => ?_)
  have hP : va_P D vwCl [(h0, .inr (8, [.int 0, .int 0, .int 0, .int (-1), .ref r0, .ref r1, .ref r2, .ref qa_193, .ref qa_194, .int 0])), (qa_193, .inl (ck_128, 11, .inr (.inr (.inr (.inr (fun _ => none)))))), (qa_194, .inl (ck_129, 11, .inr (.inr (.inr (.inr (fun _ => none))))))] H := hP
  have hD : va_D A [(h0, .inr (8, [.int 0, .int 0, .int 0, .int (-1), .ref r0, .ref r1, .ref r2, .ref qa_193, .ref qa_194, .int 0])), (qa_193, .inl (ck_128, 11, .inr (.inr (.inr (.inr (fun _ => none)))))), (qa_194, .inl (ck_129, 11, .inr (.inr (.inr (.inr (fun _ => none))))))] := hD
  refine lv_iconst (v := 0) hx hb dX8_init_62 (by decide) ?_
  refine lv_istore (lv' := [(4, .int 0), (0, .ref h0), (1, .ref r0), (2, .ref r1), (3, .ref r2)]) hx hb dX8_init_63 hl (by decide) rfl (fun ls hl => ?_)
  refine lv_iload hx hb dX8_init_65 (lv_at hl 0 rfl) ?_
  refine lv_bipush (v := 10) hx hb dX8_init_67 (by decide) ?_
  refine lv_icmp_gt (tgt := 106) hx hb dX8_init_69 (by decide) (fun h9 => absurd h9 (by decide)) (fun _ => ?_)
  refine lv_aload_n hx hb dX8_init_72 rfl (lv_at hl 1 rfl) ?_
  refine va_get (D := D) (ci := 8) (v := .ref qa_193) (C := RX8) (T := TX8) (N := 10) hx hb hts iuX8_init_X8 hown hK hP 0 rfl rfl 7 (by decide) (hts (.fieldLink RX8 26 "StraitGame$Storms" "white" "[LStraitGame$Position;") (List.mem_of_getElem? (i := 9) rfl)) (fun _ h9 => h9) rfl dX8_init_73 ?_
  refine lv_iload hx hb dX8_init_76 (lv_at hl 0 rfl) ?_
  refine va_new (ci := 4) (fs := [.int 0, .int 0, .int 0, .int 0, .int 0, .int 0, .int 0]) (C := RX4) (T := TX4) (N := 7) hx hb hts iuX8_init_X4 tyX4 tyX4_ok hown (hts (.classLink RX8 24 RX4) (List.mem_of_getElem? (i := 8) rfl)) (hts (.instantiable RX4 7) (List.mem_of_getElem? (i := 15) rfl)) (hts (.initialized RX4) (List.mem_of_getElem? (i := 16) rfl)) hK hP hD hS hA rfl fsX4 (Nat.le_of_ble_eq_true rfl) (Nat.le_of_ble_eq_true rfl) dX8_init_78 (fun qa_195 H hP hD hS => ?_)
  have hP : va_P D vwCl [(h0, .inr (8, [.int 0, .int 0, .int 0, .int (-1), .ref r0, .ref r1, .ref r2, .ref qa_193, .ref qa_194, .int 0])), (qa_193, .inl (ck_128, 11, .inr (.inr (.inr (.inr (fun _ => none)))))), (qa_194, .inl (ck_129, 11, .inr (.inr (.inr (.inr (fun _ => none)))))), (qa_195, .inr (4, [.int 0, .int 0, .int 0, .int 0, .int 0, .int 0, .int 0]))] H := hP
  have hD : va_D A [(h0, .inr (8, [.int 0, .int 0, .int 0, .int (-1), .ref r0, .ref r1, .ref r2, .ref qa_193, .ref qa_194, .int 0])), (qa_193, .inl (ck_128, 11, .inr (.inr (.inr (.inr (fun _ => none)))))), (qa_194, .inl (ck_129, 11, .inr (.inr (.inr (.inr (fun _ => none)))))), (qa_195, .inr (4, [.int 0, .int 0, .int 0, .int 0, .int 0, .int 0, .int 0]))] := hD
  refine W.widen (k := 3) (n := 29) (Nat.le_of_ble_eq_true rfl) (Nat.le_of_ble_eq_true rfl) ?_
  refine lv_dup hx hb dX8_init_81 rfl ?_
  refine zA_v (zR_IN (As := []) (rest := [.ref qa_195, .int 0, .ref qa_193]) (host := RX11) ⟨hx, hb, hml, hown, hts⟩ (zX4_init_1 l D qa_195 _) ⟨va_cnB 0 hts gX8_init_X4_init_n48 rfl rfl rfl (hN.2 _ (List.mem_of_getElem? (i := 8) rfl)) (hts (.initialized RX4) (List.mem_of_getElem? (i := 16) rfl)) (by decide +kernel) ⟨(Nat.le_of_ble_eq_true rfl), (Nat.le_of_ble_eq_true rfl)⟩, rfl, (hts (.instanceMethod yX4_init) (List.mem_of_getElem? (i := 17) rfl))⟩ hP hD hK hN [3] [] rfl (by decide) rfl rfl hl.1 rfl (Nat.le_of_ble_eq_true rfl) dX8_init_82 ⟨(Nat.le_of_ble_eq_true rfl), (Nat.le_of_ble_eq_true rfl)⟩) hP hD hK hS hA [3] [0, 1, 2] rfl rfl (by decide) (by decide) (fun u H locs hw hP hD hK hS => ?_)
  have hK : va_K D vwCl [(ck_128, .object RX4), (ck_129, .object RX4)] s := hK
  have hP : va_P D vwCl [(h0, .inr (8, [.int 0, .int 0, .int 0, .int (-1), .ref r0, .ref r1, .ref r2, .ref qa_193, .ref qa_194, .int 0])), (qa_193, .inl (ck_128, 11, .inr (.inr (.inr (.inr (fun _ => none)))))), (qa_194, .inl (ck_129, 11, .inr (.inr (.inr (.inr (fun _ => none)))))), (qa_195, .inr (4, [.int 0, .int 0, .int 0, .int 0, .int 0, .int 0, .int 0]))] H := hP
  have hD : va_D A [(h0, .inr (8, [.int 0, .int 0, .int 0, .int (-1), .ref r0, .ref r1, .ref r2, .ref qa_193, .ref qa_194, .int 0])), (qa_193, .inl (ck_128, 11, .inr (.inr (.inr (.inr (fun _ => none)))))), (qa_194, .inl (ck_129, 11, .inr (.inr (.inr (.inr (fun _ => none)))))), (qa_195, .inr (4, [.int 0, .int 0, .int 0, .int 0, .int 0, .int 0, .int 0]))] := hD
  refine W.widen (k := 3) (n := 29) (Nat.le_of_ble_eq_true rfl) (Nat.le_of_ble_eq_true rfl) ?_
  refine va_astq (r := (RX4, TX4, 7)) hx hb hK hP hD hS 1 0 3 4 rfl rfl rfl rfl (z_in (by decide)) dX8_init_85 (fun H locs hP hD hS => ?_)
  have hP : va_P D vwCl [(h0, .inr (8, [.int 0, .int 0, .int 0, .int (-1), .ref r0, .ref r1, .ref r2, .ref qa_193, .ref qa_194, .int 0])), (qa_193, .inl (ck_128, 11, .inr (.inr (.inr (.inr (va_up (fun _ => none) 0 (some qa_195))))))), (qa_194, .inl (ck_129, 11, .inr (.inr (.inr (.inr (fun _ => none)))))), (qa_195, .inr (4, [.int 0, .int 0, .int 0, .int 0, .int 0, .int 0, .int 0]))] H := hP
  have hD : va_D A [(h0, .inr (8, [.int 0, .int 0, .int 0, .int (-1), .ref r0, .ref r1, .ref r2, .ref qa_193, .ref qa_194, .int 0])), (qa_193, .inl (ck_128, 11, .inr (.inr (.inr (.inr (va_up (fun _ => none) 0 (some qa_195))))))), (qa_194, .inl (ck_129, 11, .inr (.inr (.inr (.inr (fun _ => none)))))), (qa_195, .inr (4, [.int 0, .int 0, .int 0, .int 0, .int 0, .int 0, .int 0]))] := hD
  refine lv_aload_n hx hb dX8_init_86 rfl (lv_at hl 1 rfl) ?_
  refine va_get (D := D) (ci := 8) (v := .ref qa_194) (C := RX8) (T := TX8) (N := 10) hx hb hts iuX8_init_X8 hown hK hP 0 rfl rfl 8 (by decide) (hts (.fieldLink RX8 30 "StraitGame$Storms" "black" "[LStraitGame$Position;") (List.mem_of_getElem? (i := 10) rfl)) (fun _ h9 => h9) rfl dX8_init_87 ?_
  refine lv_iload hx hb dX8_init_90 (lv_at hl 0 rfl) ?_
  refine va_new (ci := 4) (fs := [.int 0, .int 0, .int 0, .int 0, .int 0, .int 0, .int 0]) (C := RX4) (T := TX4) (N := 7) hx hb hts iuX8_init_X4 tyX4 tyX4_ok hown (hts (.classLink RX8 24 RX4) (List.mem_of_getElem? (i := 8) rfl)) (hts (.instantiable RX4 7) (List.mem_of_getElem? (i := 15) rfl)) (hts (.initialized RX4) (List.mem_of_getElem? (i := 16) rfl)) hK hP hD hS hA rfl fsX4 (Nat.le_of_ble_eq_true rfl) (Nat.le_of_ble_eq_true rfl) dX8_init_92 (fun qa_196 H hP hD hS => ?_)
  have hP : va_P D vwCl [(h0, .inr (8, [.int 0, .int 0, .int 0, .int (-1), .ref r0, .ref r1, .ref r2, .ref qa_193, .ref qa_194, .int 0])), (qa_193, .inl (ck_128, 11, .inr (.inr (.inr (.inr (va_up (fun _ => none) 0 (some qa_195))))))), (qa_194, .inl (ck_129, 11, .inr (.inr (.inr (.inr (fun _ => none)))))), (qa_195, .inr (4, [.int 0, .int 0, .int 0, .int 0, .int 0, .int 0, .int 0])), (qa_196, .inr (4, [.int 0, .int 0, .int 0, .int 0, .int 0, .int 0, .int 0]))] H := hP
  have hD : va_D A [(h0, .inr (8, [.int 0, .int 0, .int 0, .int (-1), .ref r0, .ref r1, .ref r2, .ref qa_193, .ref qa_194, .int 0])), (qa_193, .inl (ck_128, 11, .inr (.inr (.inr (.inr (va_up (fun _ => none) 0 (some qa_195))))))), (qa_194, .inl (ck_129, 11, .inr (.inr (.inr (.inr (fun _ => none)))))), (qa_195, .inr (4, [.int 0, .int 0, .int 0, .int 0, .int 0, .int 0, .int 0])), (qa_196, .inr (4, [.int 0, .int 0, .int 0, .int 0, .int 0, .int 0, .int 0]))] := hD
  refine W.widen (k := 4) (n := 36) (Nat.le_of_ble_eq_true rfl) (Nat.le_of_ble_eq_true rfl) ?_
  refine lv_dup hx hb dX8_init_95 rfl ?_
  refine zA_v (zR_IN (As := []) (rest := [.ref qa_196, .int 0, .ref qa_194]) (host := RX11) ⟨hx, hb, hml, hown, hts⟩ (zX4_init_1 l D qa_196 _) ⟨va_cnB 0 hts gX8_init_X4_init_n48 rfl rfl rfl (hN.2 _ (List.mem_of_getElem? (i := 8) rfl)) (hts (.initialized RX4) (List.mem_of_getElem? (i := 16) rfl)) (by decide +kernel) ⟨(Nat.le_of_ble_eq_true rfl), (Nat.le_of_ble_eq_true rfl)⟩, rfl, (hts (.instanceMethod yX4_init) (List.mem_of_getElem? (i := 17) rfl))⟩ hP hD hK hN [4] [] rfl (by decide) rfl rfl hl.1 rfl (Nat.le_of_ble_eq_true rfl) dX8_init_96 ⟨(Nat.le_of_ble_eq_true rfl), (Nat.le_of_ble_eq_true rfl)⟩) hP hD hK hS hA [4] [0, 1, 2, 3] rfl rfl (by decide) (by decide) (fun u H locs hw hP hD hK hS => ?_)
  have hK : va_K D vwCl [(ck_128, .object RX4), (ck_129, .object RX4)] s := hK
  have hP : va_P D vwCl [(h0, .inr (8, [.int 0, .int 0, .int 0, .int (-1), .ref r0, .ref r1, .ref r2, .ref qa_193, .ref qa_194, .int 0])), (qa_193, .inl (ck_128, 11, .inr (.inr (.inr (.inr (va_up (fun _ => none) 0 (some qa_195))))))), (qa_194, .inl (ck_129, 11, .inr (.inr (.inr (.inr (fun _ => none)))))), (qa_195, .inr (4, [.int 0, .int 0, .int 0, .int 0, .int 0, .int 0, .int 0])), (qa_196, .inr (4, [.int 0, .int 0, .int 0, .int 0, .int 0, .int 0, .int 0]))] H := hP
  have hD : va_D A [(h0, .inr (8, [.int 0, .int 0, .int 0, .int (-1), .ref r0, .ref r1, .ref r2, .ref qa_193, .ref qa_194, .int 0])), (qa_193, .inl (ck_128, 11, .inr (.inr (.inr (.inr (va_up (fun _ => none) 0 (some qa_195))))))), (qa_194, .inl (ck_129, 11, .inr (.inr (.inr (.inr (fun _ => none)))))), (qa_195, .inr (4, [.int 0, .int 0, .int 0, .int 0, .int 0, .int 0, .int 0])), (qa_196, .inr (4, [.int 0, .int 0, .int 0, .int 0, .int 0, .int 0, .int 0]))] := hD
  refine W.widen (k := 4) (n := 36) (Nat.le_of_ble_eq_true rfl) (Nat.le_of_ble_eq_true rfl) ?_
  refine va_astq (r := (RX4, TX4, 7)) hx hb hK hP hD hS 2 1 4 4 rfl rfl rfl rfl (z_in (by decide)) dX8_init_99 (fun H locs hP hD hS => ?_)
  have hP : va_P D vwCl [(h0, .inr (8, [.int 0, .int 0, .int 0, .int (-1), .ref r0, .ref r1, .ref r2, .ref qa_193, .ref qa_194, .int 0])), (qa_193, .inl (ck_128, 11, .inr (.inr (.inr (.inr (va_up (fun _ => none) 0 (some qa_195))))))), (qa_194, .inl (ck_129, 11, .inr (.inr (.inr (.inr (va_up (fun _ => none) 0 (some qa_196))))))), (qa_195, .inr (4, [.int 0, .int 0, .int 0, .int 0, .int 0, .int 0, .int 0])), (qa_196, .inr (4, [.int 0, .int 0, .int 0, .int 0, .int 0, .int 0, .int 0]))] H := hP
  have hD : va_D A [(h0, .inr (8, [.int 0, .int 0, .int 0, .int (-1), .ref r0, .ref r1, .ref r2, .ref qa_193, .ref qa_194, .int 0])), (qa_193, .inl (ck_128, 11, .inr (.inr (.inr (.inr (va_up (fun _ => none) 0 (some qa_195))))))), (qa_194, .inl (ck_129, 11, .inr (.inr (.inr (.inr (va_up (fun _ => none) 0 (some qa_196))))))), (qa_195, .inr (4, [.int 0, .int 0, .int 0, .int 0, .int 0, .int 0, .int 0])), (qa_196, .inr (4, [.int 0, .int 0, .int 0, .int 0, .int 0, .int 0, .int 0]))] := hD
  refine lv_iinc (v := 1) (lv' := [(4, .int 1), (0, .ref h0), (1, .ref r0), (2, .ref r1), (3, .ref r2)]) hx hb dX8_init_100 hl (k := 0) rfl (by decide) (by decide) rfl (fun ls hl => ?_)
  refine lv_goto (tgt := 65) hx hb dX8_init_103 (by decide) ?_
  have hloop : ∀ (n k : Nat) (fl_17 : Nat → Option Nat) (fl_18 : Nat → Option Nat) (H : Heap) (locs : List Loc) (ls : Array Slot), k + n = 11 → 1 ≤ k → fl_17 0 = some qa_195 → fl_18 0 = some qa_196 → va_P D vwCl [(h0, .inr (8, [.int 0, .int 0, .int 0, .int (-1), .ref r0, .ref r1, .ref r2, .ref qa_193, .ref qa_194, .int 0])), (qa_193, .inl (ck_128, 11, .inr (.inr (.inr (.inr fl_17))))), (qa_194, .inl (ck_129, 11, .inr (.inr (.inr (.inr fl_18))))), (qa_195, .inr (4, [.int 0, .int 0, .int 0, .int 0, .int 0, .int 0, .int 0])), (qa_196, .inr (4, [.int 0, .int 0, .int 0, .int 0, .int 0, .int 0, .int 0]))] H → va_D A [(h0, .inr (8, [.int 0, .int 0, .int 0, .int (-1), .ref r0, .ref r1, .ref r2, .ref qa_193, .ref qa_194, .int 0])), (qa_193, .inl (ck_128, 11, .inr (.inr (.inr (.inr fl_17))))), (qa_194, .inl (ck_129, 11, .inr (.inr (.inr (.inr fl_18))))), (qa_195, .inr (4, [.int 0, .int 0, .int 0, .int 0, .int 0, .int 0, .int 0])), (qa_196, .inr (4, [.int 0, .int 0, .int 0, .int 0, .int 0, .int 0, .int 0]))] → va_S A s.heap H locs → lv_has ls 5 [(4, .int (nI k)), (0, .ref h0), (1, .ref r0), (2, .ref r1), (3, .ref r2)] → (∀ (fl_17 : Nat → Option Nat) (fl_18 : Nat → Option Nat) (H : Heap) (locs : List Loc) (ls : Array Slot), fl_17 0 = some qa_195 → fl_18 0 = some qa_196 → va_P D vwCl [(h0, .inr (8, [.int 0, .int 0, .int 0, .int (-1), .ref r0, .ref r1, .ref r2, .ref qa_193, .ref qa_194, .int 0])), (qa_193, .inl (ck_128, 11, .inr (.inr (.inr (.inr fl_17))))), (qa_194, .inl (ck_129, 11, .inr (.inr (.inr (.inr fl_18))))), (qa_195, .inr (4, [.int 0, .int 0, .int 0, .int 0, .int 0, .int 0, .int 0])), (qa_196, .inr (4, [.int 0, .int 0, .int 0, .int 0, .int 0, .int 0, .int 0]))] H → va_D A [(h0, .inr (8, [.int 0, .int 0, .int 0, .int (-1), .ref r0, .ref r1, .ref r2, .ref qa_193, .ref qa_194, .int 0])), (qa_193, .inl (ck_128, 11, .inr (.inr (.inr (.inr fl_17))))), (qa_194, .inl (ck_129, 11, .inr (.inr (.inr (.inr fl_18))))), (qa_195, .inr (4, [.int 0, .int 0, .int 0, .int 0, .int 0, .int 0, .int 0])), (qa_196, .inr (4, [.int 0, .int 0, .int 0, .int 0, .int 0, .int 0, .int 0]))] → va_S A s.heap H locs → lv_has ls 5 [(4, .int 11), (0, .ref h0), (1, .ref r0), (2, .ref r1), (3, .ref r2)] → W p l e ({ frames := 2, cells := 24, slots := 176, locals := 32 }) s m ([.ref h0, .ref r0, .ref r1, .ref r2] : List Value).toArray below meth c H locs 24 176 (MQ below ((fun A => va_Qv (fun (u : Nat × Nat × Nat × Nat × ClassId × ClassId × (Nat → Option Nat) × (Nat → Option Nat)) => match u with | (qa_187, qa_188, qa_189, qa_190, ck_126, ck_127, fl_15, fl_16) => fl_15 0 = some qa_189 ∧ fl_16 0 = some qa_190) (zB D A (fun (u : Nat × Nat × Nat × Nat × ClassId × ClassId × (Nat → Option Nat) × (Nat → Option Nat)) => match u with | (qa_187, qa_188, qa_189, qa_190, ck_126, ck_127, fl_15, fl_16) => [(h0, .inr (8, [.int 0, .int 0, .int 0, .int (-1), .ref r0, .ref r1, .ref r2, .ref qa_187, .ref qa_188, .int 0])), (qa_187, .inl (ck_126, 11, .inr (.inr (.inr (.inr fl_15))))), (qa_188, .inl (ck_127, 11, .inr (.inr (.inr (.inr fl_16))))), (qa_189, .inr (4, [.int 0, .int 0, .int 0, .int 0, .int 0, .int 0, .int 0])), (qa_190, .inr (4, [.int 0, .int 0, .int 0, .int 0, .int 0, .int 0, .int 0]))]) (fun (u : Nat × Nat × Nat × Nat × ClassId × ClassId × (Nat → Option Nat) × (Nat → Option Nat)) => match u with | (qa_187, qa_188, qa_189, qa_190, ck_126, ck_127, fl_15, fl_16) => [(ck_126, .object RX4), (ck_127, .object RX4)])) A) A) ([.ref h0, .ref r0, .ref r1, .ref r2] : List Value).toArray s 24 176 A) (F0 m 106 ls [])) → W p l e ({ frames := 2, cells := 24, slots := 176, locals := 32 }) s m ([.ref h0, .ref r0, .ref r1, .ref r2] : List Value).toArray below meth c H locs (4 + 2 * (k - 1)) (36 + 14 * (k - 1)) (MQ below ((fun A => va_Qv (fun (u : Nat × Nat × Nat × Nat × ClassId × ClassId × (Nat → Option Nat) × (Nat → Option Nat)) => match u with | (qa_187, qa_188, qa_189, qa_190, ck_126, ck_127, fl_15, fl_16) => fl_15 0 = some qa_189 ∧ fl_16 0 = some qa_190) (zB D A (fun (u : Nat × Nat × Nat × Nat × ClassId × ClassId × (Nat → Option Nat) × (Nat → Option Nat)) => match u with | (qa_187, qa_188, qa_189, qa_190, ck_126, ck_127, fl_15, fl_16) => [(h0, .inr (8, [.int 0, .int 0, .int 0, .int (-1), .ref r0, .ref r1, .ref r2, .ref qa_187, .ref qa_188, .int 0])), (qa_187, .inl (ck_126, 11, .inr (.inr (.inr (.inr fl_15))))), (qa_188, .inl (ck_127, 11, .inr (.inr (.inr (.inr fl_16))))), (qa_189, .inr (4, [.int 0, .int 0, .int 0, .int 0, .int 0, .int 0, .int 0])), (qa_190, .inr (4, [.int 0, .int 0, .int 0, .int 0, .int 0, .int 0, .int 0]))]) (fun (u : Nat × Nat × Nat × Nat × ClassId × ClassId × (Nat → Option Nat) × (Nat → Option Nat)) => match u with | (qa_187, qa_188, qa_189, qa_190, ck_126, ck_127, fl_15, fl_16) => [(ck_126, .object RX4), (ck_127, .object RX4)])) A) A) ([.ref h0, .ref r0, .ref r1, .ref r2] : List Value).toArray s 24 176 A) (F0 m 65 ls []) := by
    intro n
    induction n with
    | zero =>
      intro k fl_17 fl_18 H locs ls hkn hk0 hfl_fl_17_0 hfl_fl_18_0 hP hD hS hl hex
      obtain rfl : k = 11 := by omega
      have hl : lv_has ls 5 [(4, .int 11), (0, .ref h0), (1, .ref r0), (2, .ref r1), (3, .ref r2)] := hl
      refine lv_iload hx hb dX8_init_65 (lv_at hl 0 rfl) ?_
      refine lv_bipush (v := 10) hx hb dX8_init_67 (by decide) ?_
      refine lv_icmp_gt (tgt := 106) hx hb dX8_init_69 (by decide) (fun _ => ?_) (fun h9 => absurd (by decide) h9)
      refine W.widen (k := 24) (n := 176) (by decide) (by decide) ?_
      exact hex fl_17 fl_18 H locs ls hfl_fl_17_0 hfl_fl_18_0 hP hD hS hl
    | succ n ih =>
      intro k fl_17 fl_18 H locs ls hkn hk0 hfl_fl_17_0 hfl_fl_18_0 hP hD hS hl hex
      have hkd : 1 ≤ (nI k).toInt ∧ (nI k).toInt ≤ 10 := z_nI (by omega) (by omega) (by decide)
      refine lv_iload hx hb dX8_init_65 (lv_at hl 0 rfl) ?_
      refine lv_bipush (v := 10) hx hb dX8_init_67 (by decide) ?_
      refine lv_icmp_gt (tgt := 106) hx hb dX8_init_69 (by decide) (fun h9 => absurd h9 (z_cmp (show ¬ ((10 : Int32) < (nI k)) from by simp only [fa_lt, fa_le, fa_eq, zk_10]; have := hkd; omega))) (fun _ => ?_)
      refine lv_aload_n hx hb dX8_init_72 rfl (lv_at hl 1 rfl) ?_
      refine va_get (D := D) (ci := 8) (v := .ref qa_193) (C := RX8) (T := TX8) (N := 10) hx hb hts iuX8_init_X8 hown hK hP 0 rfl rfl 7 (by decide) (hts (.fieldLink RX8 26 "StraitGame$Storms" "white" "[LStraitGame$Position;") (List.mem_of_getElem? (i := 9) rfl)) (fun _ h9 => h9) rfl dX8_init_73 ?_
      refine lv_iload hx hb dX8_init_76 (lv_at hl 0 rfl) ?_
      refine va_new (ci := 4) (fs := [.int 0, .int 0, .int 0, .int 0, .int 0, .int 0, .int 0]) (C := RX4) (T := TX4) (N := 7) hx hb hts iuX8_init_X4 tyX4 tyX4_ok hown (hts (.classLink RX8 24 RX4) (List.mem_of_getElem? (i := 8) rfl)) (hts (.instantiable RX4 7) (List.mem_of_getElem? (i := 15) rfl)) (hts (.initialized RX4) (List.mem_of_getElem? (i := 16) rfl)) hK hP hD hS hA rfl fsX4 (by show _ ≤ (24 : Nat); omega) (by show _ ≤ (176 : Nat); omega) dX8_init_78 (fun qa_199 H hP hD hS => ?_)
      have hP : va_P D vwCl [(h0, .inr (8, [.int 0, .int 0, .int 0, .int (-1), .ref r0, .ref r1, .ref r2, .ref qa_193, .ref qa_194, .int 0])), (qa_193, .inl (ck_128, 11, .inr (.inr (.inr (.inr fl_17))))), (qa_194, .inl (ck_129, 11, .inr (.inr (.inr (.inr fl_18))))), (qa_195, .inr (4, [.int 0, .int 0, .int 0, .int 0, .int 0, .int 0, .int 0])), (qa_196, .inr (4, [.int 0, .int 0, .int 0, .int 0, .int 0, .int 0, .int 0])), (qa_199, .inr (4, [.int 0, .int 0, .int 0, .int 0, .int 0, .int 0, .int 0]))] H := hP
      have hD : va_D A [(h0, .inr (8, [.int 0, .int 0, .int 0, .int (-1), .ref r0, .ref r1, .ref r2, .ref qa_193, .ref qa_194, .int 0])), (qa_193, .inl (ck_128, 11, .inr (.inr (.inr (.inr fl_17))))), (qa_194, .inl (ck_129, 11, .inr (.inr (.inr (.inr fl_18))))), (qa_195, .inr (4, [.int 0, .int 0, .int 0, .int 0, .int 0, .int 0, .int 0])), (qa_196, .inr (4, [.int 0, .int 0, .int 0, .int 0, .int 0, .int 0, .int 0])), (qa_199, .inr (4, [.int 0, .int 0, .int 0, .int 0, .int 0, .int 0, .int 0]))] := hD
      refine lv_dup hx hb dX8_init_81 rfl ?_
      refine zA_v (zR_IN (As := []) (rest := [.ref qa_199, .int (nI k), .ref qa_193]) (host := RX11) ⟨hx, hb, hml, hown, hts⟩ (zX4_init_1 l D qa_199 _) ⟨va_cnB 0 hts gX8_init_X4_init_n48 rfl rfl rfl (hN.2 _ (List.mem_of_getElem? (i := 8) rfl)) (hts (.initialized RX4) (List.mem_of_getElem? (i := 16) rfl)) (by decide +kernel) ⟨(Nat.le_of_ble_eq_true rfl), (Nat.le_of_ble_eq_true rfl)⟩, rfl, (hts (.instanceMethod yX4_init) (List.mem_of_getElem? (i := 17) rfl))⟩ hP hD hK hN [5] [] rfl (by decide) rfl rfl hl.1 rfl (Nat.le_of_ble_eq_true rfl) dX8_init_82 ⟨by show _ ≤ (24 : Nat); omega, by show _ ≤ (176 : Nat); omega⟩) hP hD hK hS hA [5] [0, 1, 2, 3, 4] rfl rfl (by decide) (by decide) (fun u H locs hw hP hD hK hS => ?_)
      have hK : va_K D vwCl [(ck_128, .object RX4), (ck_129, .object RX4)] s := hK
      have hP : va_P D vwCl [(h0, .inr (8, [.int 0, .int 0, .int 0, .int (-1), .ref r0, .ref r1, .ref r2, .ref qa_193, .ref qa_194, .int 0])), (qa_193, .inl (ck_128, 11, .inr (.inr (.inr (.inr fl_17))))), (qa_194, .inl (ck_129, 11, .inr (.inr (.inr (.inr fl_18))))), (qa_195, .inr (4, [.int 0, .int 0, .int 0, .int 0, .int 0, .int 0, .int 0])), (qa_196, .inr (4, [.int 0, .int 0, .int 0, .int 0, .int 0, .int 0, .int 0])), (qa_199, .inr (4, [.int 0, .int 0, .int 0, .int 0, .int 0, .int 0, .int 0]))] H := hP
      have hD : va_D A [(h0, .inr (8, [.int 0, .int 0, .int 0, .int (-1), .ref r0, .ref r1, .ref r2, .ref qa_193, .ref qa_194, .int 0])), (qa_193, .inl (ck_128, 11, .inr (.inr (.inr (.inr fl_17))))), (qa_194, .inl (ck_129, 11, .inr (.inr (.inr (.inr fl_18))))), (qa_195, .inr (4, [.int 0, .int 0, .int 0, .int 0, .int 0, .int 0, .int 0])), (qa_196, .inr (4, [.int 0, .int 0, .int 0, .int 0, .int 0, .int 0, .int 0])), (qa_199, .inr (4, [.int 0, .int 0, .int 0, .int 0, .int 0, .int 0, .int 0]))] := hD
      refine va_astq (r := (RX4, TX4, 7)) hx hb hK hP hD hS 1 0 5 4 rfl rfl rfl rfl (vp_in_nI (by omega) (by decide)) dX8_init_85 (fun H locs hP hD hS => ?_)
      rw [nI_clamp (by omega : k < 2 ^ 31)] at hP hD
      have hP : va_P D vwCl [(h0, .inr (8, [.int 0, .int 0, .int 0, .int (-1), .ref r0, .ref r1, .ref r2, .ref qa_193, .ref qa_194, .int 0])), (qa_193, .inl (ck_128, 11, .inr (.inr (.inr (.inr (va_up fl_17 (k) (some qa_199))))))), (qa_194, .inl (ck_129, 11, .inr (.inr (.inr (.inr fl_18))))), (qa_195, .inr (4, [.int 0, .int 0, .int 0, .int 0, .int 0, .int 0, .int 0])), (qa_196, .inr (4, [.int 0, .int 0, .int 0, .int 0, .int 0, .int 0, .int 0])), (qa_199, .inr (4, [.int 0, .int 0, .int 0, .int 0, .int 0, .int 0, .int 0]))] H := hP
      have hD : va_D A [(h0, .inr (8, [.int 0, .int 0, .int 0, .int (-1), .ref r0, .ref r1, .ref r2, .ref qa_193, .ref qa_194, .int 0])), (qa_193, .inl (ck_128, 11, .inr (.inr (.inr (.inr (va_up fl_17 (k) (some qa_199))))))), (qa_194, .inl (ck_129, 11, .inr (.inr (.inr (.inr fl_18))))), (qa_195, .inr (4, [.int 0, .int 0, .int 0, .int 0, .int 0, .int 0, .int 0])), (qa_196, .inr (4, [.int 0, .int 0, .int 0, .int 0, .int 0, .int 0, .int 0])), (qa_199, .inr (4, [.int 0, .int 0, .int 0, .int 0, .int 0, .int 0, .int 0]))] := hD
      refine lv_aload_n hx hb dX8_init_86 rfl (lv_at hl 1 rfl) ?_
      refine va_get (D := D) (ci := 8) (v := .ref qa_194) (C := RX8) (T := TX8) (N := 10) hx hb hts iuX8_init_X8 hown hK hP 0 rfl rfl 8 (by decide) (hts (.fieldLink RX8 30 "StraitGame$Storms" "black" "[LStraitGame$Position;") (List.mem_of_getElem? (i := 10) rfl)) (fun _ h9 => h9) rfl dX8_init_87 ?_
      refine lv_iload hx hb dX8_init_90 (lv_at hl 0 rfl) ?_
      refine va_new (ci := 4) (fs := [.int 0, .int 0, .int 0, .int 0, .int 0, .int 0, .int 0]) (C := RX4) (T := TX4) (N := 7) hx hb hts iuX8_init_X4 tyX4 tyX4_ok hown (hts (.classLink RX8 24 RX4) (List.mem_of_getElem? (i := 8) rfl)) (hts (.instantiable RX4 7) (List.mem_of_getElem? (i := 15) rfl)) (hts (.initialized RX4) (List.mem_of_getElem? (i := 16) rfl)) hK hP hD hS hA rfl fsX4 (by show _ ≤ (24 : Nat); omega) (by show _ ≤ (176 : Nat); omega) dX8_init_92 (fun qa_200 H hP hD hS => ?_)
      have hP : va_P D vwCl [(h0, .inr (8, [.int 0, .int 0, .int 0, .int (-1), .ref r0, .ref r1, .ref r2, .ref qa_193, .ref qa_194, .int 0])), (qa_193, .inl (ck_128, 11, .inr (.inr (.inr (.inr (va_up fl_17 (k) (some qa_199))))))), (qa_194, .inl (ck_129, 11, .inr (.inr (.inr (.inr fl_18))))), (qa_195, .inr (4, [.int 0, .int 0, .int 0, .int 0, .int 0, .int 0, .int 0])), (qa_196, .inr (4, [.int 0, .int 0, .int 0, .int 0, .int 0, .int 0, .int 0])), (qa_199, .inr (4, [.int 0, .int 0, .int 0, .int 0, .int 0, .int 0, .int 0])), (qa_200, .inr (4, [.int 0, .int 0, .int 0, .int 0, .int 0, .int 0, .int 0]))] H := hP
      have hD : va_D A [(h0, .inr (8, [.int 0, .int 0, .int 0, .int (-1), .ref r0, .ref r1, .ref r2, .ref qa_193, .ref qa_194, .int 0])), (qa_193, .inl (ck_128, 11, .inr (.inr (.inr (.inr (va_up fl_17 (k) (some qa_199))))))), (qa_194, .inl (ck_129, 11, .inr (.inr (.inr (.inr fl_18))))), (qa_195, .inr (4, [.int 0, .int 0, .int 0, .int 0, .int 0, .int 0, .int 0])), (qa_196, .inr (4, [.int 0, .int 0, .int 0, .int 0, .int 0, .int 0, .int 0])), (qa_199, .inr (4, [.int 0, .int 0, .int 0, .int 0, .int 0, .int 0, .int 0])), (qa_200, .inr (4, [.int 0, .int 0, .int 0, .int 0, .int 0, .int 0, .int 0]))] := hD
      refine lv_dup hx hb dX8_init_95 rfl ?_
      refine zA_v (zR_IN (As := []) (rest := [.ref qa_200, .int (nI k), .ref qa_194]) (host := RX11) ⟨hx, hb, hml, hown, hts⟩ (zX4_init_1 l D qa_200 _) ⟨va_cnB 0 hts gX8_init_X4_init_n48 rfl rfl rfl (hN.2 _ (List.mem_of_getElem? (i := 8) rfl)) (hts (.initialized RX4) (List.mem_of_getElem? (i := 16) rfl)) (by decide +kernel) ⟨(Nat.le_of_ble_eq_true rfl), (Nat.le_of_ble_eq_true rfl)⟩, rfl, (hts (.instanceMethod yX4_init) (List.mem_of_getElem? (i := 17) rfl))⟩ hP hD hK hN [6] [] rfl (by decide) rfl rfl hl.1 rfl (Nat.le_of_ble_eq_true rfl) dX8_init_96 ⟨by show _ ≤ (24 : Nat); omega, by show _ ≤ (176 : Nat); omega⟩) hP hD hK hS hA [6] [0, 1, 2, 3, 4, 5] rfl rfl (by decide) (by decide) (fun u H locs hw hP hD hK hS => ?_)
      have hK : va_K D vwCl [(ck_128, .object RX4), (ck_129, .object RX4)] s := hK
      have hP : va_P D vwCl [(h0, .inr (8, [.int 0, .int 0, .int 0, .int (-1), .ref r0, .ref r1, .ref r2, .ref qa_193, .ref qa_194, .int 0])), (qa_193, .inl (ck_128, 11, .inr (.inr (.inr (.inr (va_up fl_17 (k) (some qa_199))))))), (qa_194, .inl (ck_129, 11, .inr (.inr (.inr (.inr fl_18))))), (qa_195, .inr (4, [.int 0, .int 0, .int 0, .int 0, .int 0, .int 0, .int 0])), (qa_196, .inr (4, [.int 0, .int 0, .int 0, .int 0, .int 0, .int 0, .int 0])), (qa_199, .inr (4, [.int 0, .int 0, .int 0, .int 0, .int 0, .int 0, .int 0])), (qa_200, .inr (4, [.int 0, .int 0, .int 0, .int 0, .int 0, .int 0, .int 0]))] H := hP
      have hD : va_D A [(h0, .inr (8, [.int 0, .int 0, .int 0, .int (-1), .ref r0, .ref r1, .ref r2, .ref qa_193, .ref qa_194, .int 0])), (qa_193, .inl (ck_128, 11, .inr (.inr (.inr (.inr (va_up fl_17 (k) (some qa_199))))))), (qa_194, .inl (ck_129, 11, .inr (.inr (.inr (.inr fl_18))))), (qa_195, .inr (4, [.int 0, .int 0, .int 0, .int 0, .int 0, .int 0, .int 0])), (qa_196, .inr (4, [.int 0, .int 0, .int 0, .int 0, .int 0, .int 0, .int 0])), (qa_199, .inr (4, [.int 0, .int 0, .int 0, .int 0, .int 0, .int 0, .int 0])), (qa_200, .inr (4, [.int 0, .int 0, .int 0, .int 0, .int 0, .int 0, .int 0]))] := hD
      refine va_astq (r := (RX4, TX4, 7)) hx hb hK hP hD hS 2 1 6 4 rfl rfl rfl rfl (vp_in_nI (by omega) (by decide)) dX8_init_99 (fun H locs hP hD hS => ?_)
      rw [nI_clamp (by omega : k < 2 ^ 31)] at hP hD
      have hP : va_P D vwCl [(h0, .inr (8, [.int 0, .int 0, .int 0, .int (-1), .ref r0, .ref r1, .ref r2, .ref qa_193, .ref qa_194, .int 0])), (qa_193, .inl (ck_128, 11, .inr (.inr (.inr (.inr (va_up fl_17 (k) (some qa_199))))))), (qa_194, .inl (ck_129, 11, .inr (.inr (.inr (.inr (va_up fl_18 (k) (some qa_200))))))), (qa_195, .inr (4, [.int 0, .int 0, .int 0, .int 0, .int 0, .int 0, .int 0])), (qa_196, .inr (4, [.int 0, .int 0, .int 0, .int 0, .int 0, .int 0, .int 0])), (qa_199, .inr (4, [.int 0, .int 0, .int 0, .int 0, .int 0, .int 0, .int 0])), (qa_200, .inr (4, [.int 0, .int 0, .int 0, .int 0, .int 0, .int 0, .int 0]))] H := hP
      have hD : va_D A [(h0, .inr (8, [.int 0, .int 0, .int 0, .int (-1), .ref r0, .ref r1, .ref r2, .ref qa_193, .ref qa_194, .int 0])), (qa_193, .inl (ck_128, 11, .inr (.inr (.inr (.inr (va_up fl_17 (k) (some qa_199))))))), (qa_194, .inl (ck_129, 11, .inr (.inr (.inr (.inr (va_up fl_18 (k) (some qa_200))))))), (qa_195, .inr (4, [.int 0, .int 0, .int 0, .int 0, .int 0, .int 0, .int 0])), (qa_196, .inr (4, [.int 0, .int 0, .int 0, .int 0, .int 0, .int 0, .int 0])), (qa_199, .inr (4, [.int 0, .int 0, .int 0, .int 0, .int 0, .int 0, .int 0])), (qa_200, .inr (4, [.int 0, .int 0, .int 0, .int 0, .int 0, .int 0, .int 0]))] := hD
      refine lv_iinc (v := (nI (k + 1))) (lv' := [(4, .int (nI (k + 1))), (0, .ref h0), (1, .ref r0), (2, .ref r1), (3, .ref r2)]) hx hb dX8_init_100 hl (k := 0) rfl (z_inc k 1) (by decide) rfl (fun ls hl => ?_)
      refine lv_goto (tgt := 65) hx hb dX8_init_103 (by decide) ?_
      refine W.widen (k := (4 + 2 * (k + 1 - 1))) (n := (36 + 14 * (k + 1 - 1))) (by omega) (by omega) ?_
      exact ih (k + 1) _ _ H locs ls (by omega) (by omega) ((va_up_ne _ _ (by omega)).trans hfl_fl_17_0) ((va_up_ne _ _ (by omega)).trans hfl_fl_18_0) (hP.sub [0, 1, 2, 3, 4] rfl) (hD.sub [0, 1, 2, 3, 4] (by decide) rfl) hS (lv_sub hl [0, 1, 2, 3, 4] rfl) hex
  refine W.widen (k := (4 + 2 * (1 - 1))) (n := (36 + 14 * (1 - 1))) (by decide) (by decide) ?_
  refine hloop 10 1 (va_up (fun _ => none) 0 (some qa_195)) (va_up (fun _ => none) 0 (some qa_196)) H locs ls (by decide) (by decide) rfl rfl hP hD hS (lv_sub hl [0, 1, 2, 3, 4] rfl) (fun fl_17 fl_18 H locs ls hfl_fl_17_0 hfl_fl_18_0 hP hD hS hl => ?_)
  have hl : lv_has ls 5 [(4, .int 11), (0, .ref h0), (1, .ref r0), (2, .ref r1), (3, .ref r2)] := hl
  exact zret_v hx hb hr hlocks hP hD hK hS (qa_193, qa_194, qa_195, qa_196, ck_128, ck_129, fl_17, fl_18) ⟨(hfl_fl_17_0), (hfl_fl_18_0)⟩ [0, 1, 2, 3, 4] [0, 1] (by decide) rfl rfl (Nat.le_of_ble_eq_true rfl) (Nat.le_of_ble_eq_true rfl) dX8_init_106
