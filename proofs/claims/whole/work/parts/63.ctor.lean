
/-! ===== constructors ===== -/
theorem dX0_init_0 : decode cX0_init 0 = .ok (.aload_n 0, 1) := by decide +kernel
theorem dX0_init_1 : decode cX0_init 1 = .ok (.invokespecial 3, 3) := by decide +kernel
theorem dX0_init_4 : decode cX0_init 4 = .ok (.aload_n 0, 1) := by decide +kernel
theorem dX0_init_5 : decode cX0_init 5 = .ok (.sipush 144, 3) := by decide +kernel
theorem dX0_init_8 : decode cX0_init 8 = .ok (.newarray .int, 2) := by decide +kernel
theorem dX0_init_10 : decode cX0_init 10 = .ok (.putfield 9, 3) := by decide +kernel
theorem dX0_init_13 : decode cX0_init 13 = .ok (.aload_n 0, 1) := by decide +kernel
theorem dX0_init_14 : decode cX0_init 14 = .ok (.bipush 16, 2) := by decide +kernel
theorem dX0_init_16 : decode cX0_init 16 = .ok (.newarray .int, 2) := by decide +kernel
theorem dX0_init_18 : decode cX0_init 18 = .ok (.putfield 15, 3) := by decide +kernel
theorem dX0_init_21 : decode cX0_init 21 = .ok (.aload_n 0, 1) := by decide +kernel
theorem dX0_init_22 : decode cX0_init 22 = .ok (.bipush 96, 2) := by decide +kernel
theorem dX0_init_24 : decode cX0_init 24 = .ok (.newarray .int, 2) := by decide +kernel
theorem dX0_init_26 : decode cX0_init 26 = .ok (.putfield 18, 3) := by decide +kernel
theorem dX0_init_29 : decode cX0_init 29 = .ok (.aload_n 0, 1) := by decide +kernel
theorem dX0_init_30 : decode cX0_init 30 = .ok (.iconst 0, 1) := by decide +kernel
theorem dX0_init_31 : decode cX0_init 31 = .ok (.putfield 21, 3) := by decide +kernel
theorem dX0_init_34 : decode cX0_init 34 = .ok (.aload_n 0, 1) := by decide +kernel
theorem dX0_init_35 : decode cX0_init 35 = .ok (.iconst 0, 1) := by decide +kernel
theorem dX0_init_36 : decode cX0_init 36 = .ok (.putfield 25, 3) := by decide +kernel
theorem dX0_init_39 : decode cX0_init 39 = .ok (.return_, 1) := by decide +kernel
theorem dX1_init_0 : decode cX1_init 0 = .ok (.aload_n 0, 1) := by decide +kernel
theorem dX1_init_1 : decode cX1_init 1 = .ok (.invokespecial 3, 3) := by decide +kernel
theorem dX1_init_4 : decode cX1_init 4 = .ok (.aload_n 0, 1) := by decide +kernel
theorem dX1_init_5 : decode cX1_init 5 = .ok (.bipush 30, 2) := by decide +kernel
theorem dX1_init_7 : decode cX1_init 7 = .ok (.newarray .int, 2) := by decide +kernel
theorem dX1_init_9 : decode cX1_init 9 = .ok (.putfield 9, 3) := by decide +kernel
theorem dX1_init_12 : decode cX1_init 12 = .ok (.aload_n 0, 1) := by decide +kernel
theorem dX1_init_13 : decode cX1_init 13 = .ok (.bipush 30, 2) := by decide +kernel
theorem dX1_init_15 : decode cX1_init 15 = .ok (.newarray .int, 2) := by decide +kernel
theorem dX1_init_17 : decode cX1_init 17 = .ok (.putfield 15, 3) := by decide +kernel
theorem dX1_init_20 : decode cX1_init 20 = .ok (.aload_n 0, 1) := by decide +kernel
theorem dX1_init_21 : decode cX1_init 21 = .ok (.bipush 30, 2) := by decide +kernel
theorem dX1_init_23 : decode cX1_init 23 = .ok (.newarray .int, 2) := by decide +kernel
theorem dX1_init_25 : decode cX1_init 25 = .ok (.putfield 18, 3) := by decide +kernel
theorem dX1_init_28 : decode cX1_init 28 = .ok (.aload_n 0, 1) := by decide +kernel
theorem dX1_init_29 : decode cX1_init 29 = .ok (.bipush 30, 2) := by decide +kernel
theorem dX1_init_31 : decode cX1_init 31 = .ok (.newarray .int, 2) := by decide +kernel
theorem dX1_init_33 : decode cX1_init 33 = .ok (.putfield 21, 3) := by decide +kernel
theorem dX1_init_36 : decode cX1_init 36 = .ok (.aload_n 0, 1) := by decide +kernel
theorem dX1_init_37 : decode cX1_init 37 = .ok (.bipush 30, 2) := by decide +kernel
theorem dX1_init_39 : decode cX1_init 39 = .ok (.newarray .int, 2) := by decide +kernel
theorem dX1_init_41 : decode cX1_init 41 = .ok (.putfield 24, 3) := by decide +kernel
theorem dX1_init_44 : decode cX1_init 44 = .ok (.aload_n 0, 1) := by decide +kernel
theorem dX1_init_45 : decode cX1_init 45 = .ok (.bipush 30, 2) := by decide +kernel
theorem dX1_init_47 : decode cX1_init 47 = .ok (.newarray .int, 2) := by decide +kernel
theorem dX1_init_49 : decode cX1_init 49 = .ok (.putfield 27, 3) := by decide +kernel
theorem dX1_init_52 : decode cX1_init 52 = .ok (.aload_n 0, 1) := by decide +kernel
theorem dX1_init_53 : decode cX1_init 53 = .ok (.bipush 30, 2) := by decide +kernel
theorem dX1_init_55 : decode cX1_init 55 = .ok (.newarray .int, 2) := by decide +kernel
theorem dX1_init_57 : decode cX1_init 57 = .ok (.putfield 30, 3) := by decide +kernel
theorem dX1_init_60 : decode cX1_init 60 = .ok (.aload_n 0, 1) := by decide +kernel
theorem dX1_init_61 : decode cX1_init 61 = .ok (.bipush 30, 2) := by decide +kernel
theorem dX1_init_63 : decode cX1_init 63 = .ok (.newarray .int, 2) := by decide +kernel
theorem dX1_init_65 : decode cX1_init 65 = .ok (.putfield 33, 3) := by decide +kernel
theorem dX1_init_68 : decode cX1_init 68 = .ok (.aload_n 0, 1) := by decide +kernel
theorem dX1_init_69 : decode cX1_init 69 = .ok (.iconst 0, 1) := by decide +kernel
theorem dX1_init_70 : decode cX1_init 70 = .ok (.putfield 36, 3) := by decide +kernel
theorem dX1_init_73 : decode cX1_init 73 = .ok (.aload_n 0, 1) := by decide +kernel
theorem dX1_init_74 : decode cX1_init 74 = .ok (.iconst 0, 1) := by decide +kernel
theorem dX1_init_75 : decode cX1_init 75 = .ok (.putfield 40, 3) := by decide +kernel
theorem dX1_init_78 : decode cX1_init 78 = .ok (.return_, 1) := by decide +kernel
theorem dX2_init_0 : decode cX2_init 0 = .ok (.aload_n 0, 1) := by decide +kernel
theorem dX2_init_1 : decode cX2_init 1 = .ok (.invokespecial 3, 3) := by decide +kernel
theorem dX2_init_4 : decode cX2_init 4 = .ok (.aload_n 0, 1) := by decide +kernel
theorem dX2_init_5 : decode cX2_init 5 = .ok (.bipush 20, 2) := by decide +kernel
theorem dX2_init_7 : decode cX2_init 7 = .ok (.newarray .int, 2) := by decide +kernel
theorem dX2_init_9 : decode cX2_init 9 = .ok (.putfield 9, 3) := by decide +kernel
theorem dX2_init_12 : decode cX2_init 12 = .ok (.aload_n 0, 1) := by decide +kernel
theorem dX2_init_13 : decode cX2_init 13 = .ok (.bipush 20, 2) := by decide +kernel
theorem dX2_init_15 : decode cX2_init 15 = .ok (.newarray .int, 2) := by decide +kernel
theorem dX2_init_17 : decode cX2_init 17 = .ok (.putfield 15, 3) := by decide +kernel
theorem dX2_init_20 : decode cX2_init 20 = .ok (.aload_n 0, 1) := by decide +kernel
theorem dX2_init_21 : decode cX2_init 21 = .ok (.bipush 20, 2) := by decide +kernel
theorem dX2_init_23 : decode cX2_init 23 = .ok (.newarray .int, 2) := by decide +kernel
theorem dX2_init_25 : decode cX2_init 25 = .ok (.putfield 18, 3) := by decide +kernel
theorem dX2_init_28 : decode cX2_init 28 = .ok (.aload_n 0, 1) := by decide +kernel
theorem dX2_init_29 : decode cX2_init 29 = .ok (.iconst 0, 1) := by decide +kernel
theorem dX2_init_30 : decode cX2_init 30 = .ok (.putfield 21, 3) := by decide +kernel
theorem dX2_init_33 : decode cX2_init 33 = .ok (.return_, 1) := by decide +kernel
theorem dX3_init_0 : decode cX3_init 0 = .ok (.aload_n 0, 1) := by decide +kernel
theorem dX3_init_1 : decode cX3_init 1 = .ok (.invokespecial 3, 3) := by decide +kernel
theorem dX3_init_4 : decode cX3_init 4 = .ok (.aload_n 0, 1) := by decide +kernel
theorem dX3_init_5 : decode cX3_init 5 = .ok (.sipush 160, 3) := by decide +kernel
theorem dX3_init_8 : decode cX3_init 8 = .ok (.newarray .long, 2) := by decide +kernel
theorem dX3_init_10 : decode cX3_init 10 = .ok (.putfield 9, 3) := by decide +kernel
theorem dX3_init_13 : decode cX3_init 13 = .ok (.aload_n 0, 1) := by decide +kernel
theorem dX3_init_14 : decode cX3_init 14 = .ok (.iconst 4, 1) := by decide +kernel
theorem dX3_init_15 : decode cX3_init 15 = .ok (.newarray .int, 2) := by decide +kernel
theorem dX3_init_17 : decode cX3_init 17 = .ok (.putfield 15, 3) := by decide +kernel
theorem dX3_init_20 : decode cX3_init 20 = .ok (.aload_n 0, 1) := by decide +kernel
theorem dX3_init_21 : decode cX3_init 21 = .ok (.iconst 4, 1) := by decide +kernel
theorem dX3_init_22 : decode cX3_init 22 = .ok (.newarray .int, 2) := by decide +kernel
theorem dX3_init_24 : decode cX3_init 24 = .ok (.putfield 19, 3) := by decide +kernel
theorem dX3_init_27 : decode cX3_init 27 = .ok (.return_, 1) := by decide +kernel
theorem dX4_init_0 : decode cX4_init 0 = .ok (.aload_n 0, 1) := by decide +kernel
theorem dX4_init_1 : decode cX4_init 1 = .ok (.invokespecial 3, 3) := by decide +kernel
theorem dX4_init_4 : decode cX4_init 4 = .ok (.aload_n 0, 1) := by decide +kernel
theorem dX4_init_5 : decode cX4_init 5 = .ok (.bipush 16, 2) := by decide +kernel
theorem dX4_init_7 : decode cX4_init 7 = .ok (.newarray .int, 2) := by decide +kernel
theorem dX4_init_9 : decode cX4_init 9 = .ok (.putfield 9, 3) := by decide +kernel
theorem dX4_init_12 : decode cX4_init 12 = .ok (.aload_n 0, 1) := by decide +kernel
theorem dX4_init_13 : decode cX4_init 13 = .ok (.bipush 16, 2) := by decide +kernel
theorem dX4_init_15 : decode cX4_init 15 = .ok (.newarray .int, 2) := by decide +kernel
theorem dX4_init_17 : decode cX4_init 17 = .ok (.putfield 15, 3) := by decide +kernel
theorem dX4_init_20 : decode cX4_init 20 = .ok (.aload_n 0, 1) := by decide +kernel
theorem dX4_init_21 : decode cX4_init 21 = .ok (.bipush 16, 2) := by decide +kernel
theorem dX4_init_23 : decode cX4_init 23 = .ok (.newarray .int, 2) := by decide +kernel
theorem dX4_init_25 : decode cX4_init 25 = .ok (.putfield 18, 3) := by decide +kernel
theorem dX4_init_28 : decode cX4_init 28 = .ok (.aload_n 0, 1) := by decide +kernel
theorem dX4_init_29 : decode cX4_init 29 = .ok (.bipush 16, 2) := by decide +kernel
theorem dX4_init_31 : decode cX4_init 31 = .ok (.newarray .int, 2) := by decide +kernel
theorem dX4_init_33 : decode cX4_init 33 = .ok (.putfield 21, 3) := by decide +kernel
theorem dX4_init_36 : decode cX4_init 36 = .ok (.aload_n 0, 1) := by decide +kernel
theorem dX4_init_37 : decode cX4_init 37 = .ok (.sipush 192, 3) := by decide +kernel
theorem dX4_init_40 : decode cX4_init 40 = .ok (.newarray .int, 2) := by decide +kernel
theorem dX4_init_42 : decode cX4_init 42 = .ok (.putfield 24, 3) := by decide +kernel
theorem dX4_init_45 : decode cX4_init 45 = .ok (.aload_n 0, 1) := by decide +kernel
theorem dX4_init_46 : decode cX4_init 46 = .ok (.sipush 192, 3) := by decide +kernel
theorem dX4_init_49 : decode cX4_init 49 = .ok (.newarray .int, 2) := by decide +kernel
theorem dX4_init_51 : decode cX4_init 51 = .ok (.putfield 27, 3) := by decide +kernel
theorem dX4_init_54 : decode cX4_init 54 = .ok (.aload_n 0, 1) := by decide +kernel
theorem dX4_init_55 : decode cX4_init 55 = .ok (.bipush 16, 2) := by decide +kernel
theorem dX4_init_57 : decode cX4_init 57 = .ok (.newarray .int, 2) := by decide +kernel
theorem dX4_init_59 : decode cX4_init 59 = .ok (.putfield 30, 3) := by decide +kernel
theorem dX4_init_62 : decode cX4_init 62 = .ok (.aload_n 0, 1) := by decide +kernel
theorem dX4_init_63 : decode cX4_init 63 = .ok (.bipush 40, 2) := by decide +kernel
theorem dX4_init_65 : decode cX4_init 65 = .ok (.newarray .int, 2) := by decide +kernel
theorem dX4_init_67 : decode cX4_init 67 = .ok (.putfield 33, 3) := by decide +kernel
theorem dX4_init_70 : decode cX4_init 70 = .ok (.aload_n 0, 1) := by decide +kernel
theorem dX4_init_71 : decode cX4_init 71 = .ok (.sipush 144, 3) := by decide +kernel
theorem dX4_init_74 : decode cX4_init 74 = .ok (.newarray .long, 2) := by decide +kernel
theorem dX4_init_76 : decode cX4_init 76 = .ok (.putfield 36, 3) := by decide +kernel
theorem dX4_init_79 : decode cX4_init 79 = .ok (.aload_n 0, 1) := by decide +kernel
theorem dX4_init_80 : decode cX4_init 80 = .ok (.sipush 192, 3) := by decide +kernel
theorem dX4_init_83 : decode cX4_init 83 = .ok (.newarray .int, 2) := by decide +kernel
theorem dX4_init_85 : decode cX4_init 85 = .ok (.putfield 40, 3) := by decide +kernel
theorem dX4_init_88 : decode cX4_init 88 = .ok (.aload_n 0, 1) := by decide +kernel
theorem dX4_init_89 : decode cX4_init 89 = .ok (.iconst 0, 1) := by decide +kernel
theorem dX4_init_90 : decode cX4_init 90 = .ok (.putfield 43, 3) := by decide +kernel
theorem dX4_init_93 : decode cX4_init 93 = .ok (.aload_n 0, 1) := by decide +kernel
theorem dX4_init_94 : decode cX4_init 94 = .ok (.iconst 1, 1) := by decide +kernel
theorem dX4_init_95 : decode cX4_init 95 = .ok (.putfield 47, 3) := by decide +kernel
theorem dX4_init_98 : decode cX4_init 98 = .ok (.return_, 1) := by decide +kernel
theorem dX5_init_0 : decode cX5_init 0 = .ok (.aload_n 0, 1) := by decide +kernel
theorem dX5_init_1 : decode cX5_init 1 = .ok (.invokespecial 3, 3) := by decide +kernel
theorem dX5_init_4 : decode cX5_init 4 = .ok (.aload_n 0, 1) := by decide +kernel
theorem dX5_init_5 : decode cX5_init 5 = .ok (.bipush 120, 2) := by decide +kernel
theorem dX5_init_7 : decode cX5_init 7 = .ok (.newarray .int, 2) := by decide +kernel
theorem dX5_init_9 : decode cX5_init 9 = .ok (.putfield 9, 3) := by decide +kernel
theorem dX5_init_12 : decode cX5_init 12 = .ok (.aload_n 0, 1) := by decide +kernel
theorem dX5_init_13 : decode cX5_init 13 = .ok (.iconst 0, 1) := by decide +kernel
theorem dX5_init_14 : decode cX5_init 14 = .ok (.putfield 15, 3) := by decide +kernel
theorem dX5_init_17 : decode cX5_init 17 = .ok (.aload_n 0, 1) := by decide +kernel
theorem dX5_init_18 : decode cX5_init 18 = .ok (.bipush 6, 2) := by decide +kernel
theorem dX5_init_20 : decode cX5_init 20 = .ok (.newarray .int, 2) := by decide +kernel
theorem dX5_init_22 : decode cX5_init 22 = .ok (.putfield 19, 3) := by decide +kernel
theorem dX5_init_25 : decode cX5_init 25 = .ok (.aload_n 0, 1) := by decide +kernel
theorem dX5_init_26 : decode cX5_init 26 = .ok (.bipush 6, 2) := by decide +kernel
theorem dX5_init_28 : decode cX5_init 28 = .ok (.newarray .int, 2) := by decide +kernel
theorem dX5_init_30 : decode cX5_init 30 = .ok (.putfield 22, 3) := by decide +kernel
theorem dX5_init_33 : decode cX5_init 33 = .ok (.aload_n 0, 1) := by decide +kernel
theorem dX5_init_34 : decode cX5_init 34 = .ok (.bipush 6, 2) := by decide +kernel
theorem dX5_init_36 : decode cX5_init 36 = .ok (.newarray .int, 2) := by decide +kernel
theorem dX5_init_38 : decode cX5_init 38 = .ok (.putfield 25, 3) := by decide +kernel
theorem dX5_init_41 : decode cX5_init 41 = .ok (.aload_n 0, 1) := by decide +kernel
theorem dX5_init_42 : decode cX5_init 42 = .ok (.iconst 0, 1) := by decide +kernel
theorem dX5_init_43 : decode cX5_init 43 = .ok (.putfield 28, 3) := by decide +kernel
theorem dX5_init_46 : decode cX5_init 46 = .ok (.return_, 1) := by decide +kernel
theorem dX6_init_0 : decode cX6_init 0 = .ok (.aload_n 0, 1) := by decide +kernel
theorem dX6_init_1 : decode cX6_init 1 = .ok (.invokespecial 3, 3) := by decide +kernel
theorem dX6_init_4 : decode cX6_init 4 = .ok (.aload_n 0, 1) := by decide +kernel
theorem dX6_init_5 : decode cX6_init 5 = .ok (.bipush 8, 2) := by decide +kernel
theorem dX6_init_7 : decode cX6_init 7 = .ok (.newarray .int, 2) := by decide +kernel
theorem dX6_init_9 : decode cX6_init 9 = .ok (.putfield 9, 3) := by decide +kernel
theorem dX6_init_12 : decode cX6_init 12 = .ok (.aload_n 0, 1) := by decide +kernel
theorem dX6_init_13 : decode cX6_init 13 = .ok (.bipush 8, 2) := by decide +kernel
theorem dX6_init_15 : decode cX6_init 15 = .ok (.newarray .int, 2) := by decide +kernel
theorem dX6_init_17 : decode cX6_init 17 = .ok (.putfield 15, 3) := by decide +kernel
theorem dX6_init_20 : decode cX6_init 20 = .ok (.aload_n 0, 1) := by decide +kernel
theorem dX6_init_21 : decode cX6_init 21 = .ok (.bipush 48, 2) := by decide +kernel
theorem dX6_init_23 : decode cX6_init 23 = .ok (.newarray .int, 2) := by decide +kernel
theorem dX6_init_25 : decode cX6_init 25 = .ok (.putfield 18, 3) := by decide +kernel
theorem dX6_init_28 : decode cX6_init 28 = .ok (.aload_n 0, 1) := by decide +kernel
theorem dX6_init_29 : decode cX6_init 29 = .ok (.bipush 48, 2) := by decide +kernel
theorem dX6_init_31 : decode cX6_init 31 = .ok (.newarray .int, 2) := by decide +kernel
theorem dX6_init_33 : decode cX6_init 33 = .ok (.putfield 21, 3) := by decide +kernel
theorem dX6_init_36 : decode cX6_init 36 = .ok (.aload_n 0, 1) := by decide +kernel
theorem dX6_init_37 : decode cX6_init 37 = .ok (.bipush 48, 2) := by decide +kernel
theorem dX6_init_39 : decode cX6_init 39 = .ok (.newarray .int, 2) := by decide +kernel
theorem dX6_init_41 : decode cX6_init 41 = .ok (.putfield 24, 3) := by decide +kernel
theorem dX6_init_44 : decode cX6_init 44 = .ok (.aload_n 0, 1) := by decide +kernel
theorem dX6_init_45 : decode cX6_init 45 = .ok (.iconst 0, 1) := by decide +kernel
theorem dX6_init_46 : decode cX6_init 46 = .ok (.putfield 27, 3) := by decide +kernel
theorem dX6_init_49 : decode cX6_init 49 = .ok (.return_, 1) := by decide +kernel
theorem dX7_init_0 : decode cX7_init 0 = .ok (.aload_n 0, 1) := by decide +kernel
theorem dX7_init_1 : decode cX7_init 1 = .ok (.invokespecial 3, 3) := by decide +kernel
theorem dX7_init_4 : decode cX7_init 4 = .ok (.aload_n 0, 1) := by decide +kernel
theorem dX7_init_5 : decode cX7_init 5 = .ok (.new 9, 3) := by decide +kernel
theorem dX7_init_8 : decode cX7_init 8 = .ok (.dup, 1) := by decide +kernel
theorem dX7_init_9 : decode cX7_init 9 = .ok (.invokespecial 11, 3) := by decide +kernel
theorem dX7_init_12 : decode cX7_init 12 = .ok (.putfield 12, 3) := by decide +kernel
theorem dX7_init_15 : decode cX7_init 15 = .ok (.aload_n 0, 1) := by decide +kernel
theorem dX7_init_16 : decode cX7_init 16 = .ok (.new 18, 3) := by decide +kernel
theorem dX7_init_19 : decode cX7_init 19 = .ok (.dup, 1) := by decide +kernel
theorem dX7_init_20 : decode cX7_init 20 = .ok (.invokespecial 20, 3) := by decide +kernel
theorem dX7_init_23 : decode cX7_init 23 = .ok (.putfield 21, 3) := by decide +kernel
theorem dX7_init_26 : decode cX7_init 26 = .ok (.aload_n 0, 1) := by decide +kernel
theorem dX7_init_27 : decode cX7_init 27 = .ok (.new 25, 3) := by decide +kernel
theorem dX7_init_30 : decode cX7_init 30 = .ok (.dup, 1) := by decide +kernel
theorem dX7_init_31 : decode cX7_init 31 = .ok (.invokespecial 27, 3) := by decide +kernel
theorem dX7_init_34 : decode cX7_init 34 = .ok (.putfield 28, 3) := by decide +kernel
theorem dX7_init_37 : decode cX7_init 37 = .ok (.aload_n 0, 1) := by decide +kernel
theorem dX7_init_38 : decode cX7_init 38 = .ok (.new 32, 3) := by decide +kernel
theorem dX7_init_41 : decode cX7_init 41 = .ok (.dup, 1) := by decide +kernel
theorem dX7_init_42 : decode cX7_init 42 = .ok (.invokespecial 34, 3) := by decide +kernel
theorem dX7_init_45 : decode cX7_init 45 = .ok (.putfield 35, 3) := by decide +kernel
theorem dX7_init_48 : decode cX7_init 48 = .ok (.aload_n 0, 1) := by decide +kernel
theorem dX7_init_49 : decode cX7_init 49 = .ok (.iconst 4, 1) := by decide +kernel
theorem dX7_init_50 : decode cX7_init 50 = .ok (.newarray .int, 2) := by decide +kernel
theorem dX7_init_52 : decode cX7_init 52 = .ok (.putfield 39, 3) := by decide +kernel
theorem dX7_init_55 : decode cX7_init 55 = .ok (.return_, 1) := by decide +kernel
theorem dX8_init_0 : decode cX8_init 0 = .ok (.aload_n 0, 1) := by decide +kernel
theorem dX8_init_1 : decode cX8_init 1 = .ok (.invokespecial 3, 3) := by decide +kernel
theorem dX8_init_4 : decode cX8_init 4 = .ok (.aload_n 0, 1) := by decide +kernel
theorem dX8_init_5 : decode cX8_init 5 = .ok (.new 9, 3) := by decide +kernel
theorem dX8_init_8 : decode cX8_init 8 = .ok (.dup, 1) := by decide +kernel
theorem dX8_init_9 : decode cX8_init 9 = .ok (.invokespecial 11, 3) := by decide +kernel
theorem dX8_init_12 : decode cX8_init 12 = .ok (.putfield 12, 3) := by decide +kernel
theorem dX8_init_15 : decode cX8_init 15 = .ok (.aload_n 0, 1) := by decide +kernel
theorem dX8_init_16 : decode cX8_init 16 = .ok (.new 9, 3) := by decide +kernel
theorem dX8_init_19 : decode cX8_init 19 = .ok (.dup, 1) := by decide +kernel
theorem dX8_init_20 : decode cX8_init 20 = .ok (.invokespecial 11, 3) := by decide +kernel
theorem dX8_init_23 : decode cX8_init 23 = .ok (.putfield 16, 3) := by decide +kernel
theorem dX8_init_26 : decode cX8_init 26 = .ok (.aload_n 0, 1) := by decide +kernel
theorem dX8_init_27 : decode cX8_init 27 = .ok (.iconst 0, 1) := by decide +kernel
theorem dX8_init_28 : decode cX8_init 28 = .ok (.putfield 19, 3) := by decide +kernel
theorem dX8_init_31 : decode cX8_init 31 = .ok (.aload_n 0, 1) := by decide +kernel
theorem dX8_init_32 : decode cX8_init 32 = .ok (.new 23, 3) := by decide +kernel
theorem dX8_init_35 : decode cX8_init 35 = .ok (.dup, 1) := by decide +kernel
theorem dX8_init_36 : decode cX8_init 36 = .ok (.invokespecial 25, 3) := by decide +kernel
theorem dX8_init_39 : decode cX8_init 39 = .ok (.putfield 26, 3) := by decide +kernel
theorem dX8_init_42 : decode cX8_init 42 = .ok (.aload_n 0, 1) := by decide +kernel
theorem dX8_init_43 : decode cX8_init 43 = .ok (.new 30, 3) := by decide +kernel
theorem dX8_init_46 : decode cX8_init 46 = .ok (.dup, 1) := by decide +kernel
theorem dX8_init_47 : decode cX8_init 47 = .ok (.invokespecial 32, 3) := by decide +kernel
theorem dX8_init_50 : decode cX8_init 50 = .ok (.putfield 33, 3) := by decide +kernel
theorem dX8_init_53 : decode cX8_init 53 = .ok (.aload_n 0, 1) := by decide +kernel
theorem dX8_init_54 : decode cX8_init 54 = .ok (.new 37, 3) := by decide +kernel
theorem dX8_init_57 : decode cX8_init 57 = .ok (.dup, 1) := by decide +kernel
theorem dX8_init_58 : decode cX8_init 58 = .ok (.invokespecial 39, 3) := by decide +kernel
theorem dX8_init_61 : decode cX8_init 61 = .ok (.putfield 40, 3) := by decide +kernel
theorem dX8_init_64 : decode cX8_init 64 = .ok (.aload_n 0, 1) := by decide +kernel
theorem dX8_init_65 : decode cX8_init 65 = .ok (.bipush 7, 2) := by decide +kernel
theorem dX8_init_67 : decode cX8_init 67 = .ok (.newarray .int, 2) := by decide +kernel
theorem dX8_init_69 : decode cX8_init 69 = .ok (.putfield 44, 3) := by decide +kernel
theorem dX8_init_72 : decode cX8_init 72 = .ok (.return_, 1) := by decide +kernel
theorem dX9_init_0 : decode cX9_init 0 = .ok (.aload_n 0, 1) := by decide +kernel
theorem dX9_init_1 : decode cX9_init 1 = .ok (.invokespecial 1, 3) := by decide +kernel
theorem dX9_init_4 : decode cX9_init 4 = .ok (.aload_n 0, 1) := by decide +kernel
theorem dX9_init_5 : decode cX9_init 5 = .ok (.bipush 8, 2) := by decide +kernel
theorem dX9_init_7 : decode cX9_init 7 = .ok (.newarray .int, 2) := by decide +kernel
theorem dX9_init_9 : decode cX9_init 9 = .ok (.putfield 7, 3) := by decide +kernel
theorem dX9_init_12 : decode cX9_init 12 = .ok (.aload_n 0, 1) := by decide +kernel
theorem dX9_init_13 : decode cX9_init 13 = .ok (.iconst 5, 1) := by decide +kernel
theorem dX9_init_14 : decode cX9_init 14 = .ok (.newarray .int, 2) := by decide +kernel
theorem dX9_init_16 : decode cX9_init 16 = .ok (.putfield 13, 3) := by decide +kernel
theorem dX9_init_19 : decode cX9_init 19 = .ok (.aload_n 0, 1) := by decide +kernel
theorem dX9_init_20 : decode cX9_init 20 = .ok (.sipush 144, 3) := by decide +kernel
theorem dX9_init_23 : decode cX9_init 23 = .ok (.newarray .int, 2) := by decide +kernel
theorem dX9_init_25 : decode cX9_init 25 = .ok (.putfield 16, 3) := by decide +kernel
theorem dX9_init_28 : decode cX9_init 28 = .ok (.aload_n 0, 1) := by decide +kernel
theorem dX9_init_29 : decode cX9_init 29 = .ok (.bipush 16, 2) := by decide +kernel
theorem dX9_init_31 : decode cX9_init 31 = .ok (.newarray .int, 2) := by decide +kernel
theorem dX9_init_33 : decode cX9_init 33 = .ok (.putfield 19, 3) := by decide +kernel
theorem dX9_init_36 : decode cX9_init 36 = .ok (.aload_n 0, 1) := by decide +kernel
theorem dX9_init_37 : decode cX9_init 37 = .ok (.bipush 96, 2) := by decide +kernel
theorem dX9_init_39 : decode cX9_init 39 = .ok (.newarray .int, 2) := by decide +kernel
theorem dX9_init_41 : decode cX9_init 41 = .ok (.putfield 22, 3) := by decide +kernel
theorem dX9_init_44 : decode cX9_init 44 = .ok (.aload_n 0, 1) := by decide +kernel
theorem dX9_init_45 : decode cX9_init 45 = .ok (.sipush 270, 3) := by decide +kernel
theorem dX9_init_48 : decode cX9_init 48 = .ok (.newarray .int, 2) := by decide +kernel
theorem dX9_init_50 : decode cX9_init 50 = .ok (.putfield 25, 3) := by decide +kernel
theorem dX9_init_53 : decode cX9_init 53 = .ok (.aload_n 0, 1) := by decide +kernel
theorem dX9_init_54 : decode cX9_init 54 = .ok (.bipush 16, 2) := by decide +kernel
theorem dX9_init_56 : decode cX9_init 56 = .ok (.newarray .int, 2) := by decide +kernel
theorem dX9_init_58 : decode cX9_init 58 = .ok (.putfield 28, 3) := by decide +kernel
theorem dX9_init_61 : decode cX9_init 61 = .ok (.aload_n 0, 1) := by decide +kernel
theorem dX9_init_62 : decode cX9_init 62 = .ok (.sipush 192, 3) := by decide +kernel
theorem dX9_init_65 : decode cX9_init 65 = .ok (.newarray .int, 2) := by decide +kernel
theorem dX9_init_67 : decode cX9_init 67 = .ok (.putfield 31, 3) := by decide +kernel
theorem dX9_init_70 : decode cX9_init 70 = .ok (.aload_n 0, 1) := by decide +kernel
theorem dX9_init_71 : decode cX9_init 71 = .ok (.bipush 60, 2) := by decide +kernel
theorem dX9_init_73 : decode cX9_init 73 = .ok (.newarray .int, 2) := by decide +kernel
theorem dX9_init_75 : decode cX9_init 75 = .ok (.putfield 34, 3) := by decide +kernel
theorem dX9_init_78 : decode cX9_init 78 = .ok (.aload_n 0, 1) := by decide +kernel
theorem dX9_init_79 : decode cX9_init 79 = .ok (.bipush 30, 2) := by decide +kernel
theorem dX9_init_81 : decode cX9_init 81 = .ok (.newarray .boolean, 2) := by decide +kernel
theorem dX9_init_83 : decode cX9_init 83 = .ok (.putfield 37, 3) := by decide +kernel
theorem dX9_init_86 : decode cX9_init 86 = .ok (.aload_n 0, 1) := by decide +kernel
theorem dX9_init_87 : decode cX9_init 87 = .ok (.iconst 4, 1) := by decide +kernel
theorem dX9_init_88 : decode cX9_init 88 = .ok (.newarray .int, 2) := by decide +kernel
theorem dX9_init_90 : decode cX9_init 90 = .ok (.putfield 41, 3) := by decide +kernel
theorem dX9_init_93 : decode cX9_init 93 = .ok (.aload_n 0, 1) := by decide +kernel
theorem dX9_init_94 : decode cX9_init 94 = .ok (.iconst 4, 1) := by decide +kernel
theorem dX9_init_95 : decode cX9_init 95 = .ok (.newarray .int, 2) := by decide +kernel
theorem dX9_init_97 : decode cX9_init 97 = .ok (.putfield 44, 3) := by decide +kernel
theorem dX9_init_100 : decode cX9_init 100 = .ok (.aload_n 0, 1) := by decide +kernel
theorem dX9_init_101 : decode cX9_init 101 = .ok (.bipush 120, 2) := by decide +kernel
theorem dX9_init_103 : decode cX9_init 103 = .ok (.newarray .int, 2) := by decide +kernel
theorem dX9_init_105 : decode cX9_init 105 = .ok (.putfield 47, 3) := by decide +kernel
theorem dX9_init_108 : decode cX9_init 108 = .ok (.aload_n 0, 1) := by decide +kernel
theorem dX9_init_109 : decode cX9_init 109 = .ok (.bipush 16, 2) := by decide +kernel
theorem dX9_init_111 : decode cX9_init 111 = .ok (.newarray .int, 2) := by decide +kernel
theorem dX9_init_113 : decode cX9_init 113 = .ok (.putfield 50, 3) := by decide +kernel
theorem dX9_init_116 : decode cX9_init 116 = .ok (.aload_n 0, 1) := by decide +kernel
theorem dX9_init_117 : decode cX9_init 117 = .ok (.iconst 3, 1) := by decide +kernel
theorem dX9_init_118 : decode cX9_init 118 = .ok (.newarray .int, 2) := by decide +kernel
theorem dX9_init_120 : decode cX9_init 120 = .ok (.putfield 53, 3) := by decide +kernel
theorem dX9_init_123 : decode cX9_init 123 = .ok (.aload_n 0, 1) := by decide +kernel
theorem dX9_init_124 : decode cX9_init 124 = .ok (.sipush 144, 3) := by decide +kernel
theorem dX9_init_127 : decode cX9_init 127 = .ok (.newarray .long, 2) := by decide +kernel
theorem dX9_init_129 : decode cX9_init 129 = .ok (.putfield 56, 3) := by decide +kernel
theorem dX9_init_132 : decode cX9_init 132 = .ok (.aload_n 0, 1) := by decide +kernel
theorem dX9_init_133 : decode cX9_init 133 = .ok (.sipush 192, 3) := by decide +kernel
theorem dX9_init_136 : decode cX9_init 136 = .ok (.newarray .int, 2) := by decide +kernel
theorem dX9_init_138 : decode cX9_init 138 = .ok (.putfield 60, 3) := by decide +kernel
theorem dX9_init_141 : decode cX9_init 141 = .ok (.aload_n 0, 1) := by decide +kernel
theorem dX9_init_142 : decode cX9_init 142 = .ok (.iconst 4, 1) := by decide +kernel
theorem dX9_init_143 : decode cX9_init 143 = .ok (.newarray .int, 2) := by decide +kernel
theorem dX9_init_145 : decode cX9_init 145 = .ok (.putfield 63, 3) := by decide +kernel
theorem dX9_init_148 : decode cX9_init 148 = .ok (.aload_n 0, 1) := by decide +kernel
theorem dX9_init_149 : decode cX9_init 149 = .ok (.iconst 4, 1) := by decide +kernel
theorem dX9_init_150 : decode cX9_init 150 = .ok (.newarray .int, 2) := by decide +kernel
theorem dX9_init_152 : decode cX9_init 152 = .ok (.putfield 66, 3) := by decide +kernel
theorem dX9_init_155 : decode cX9_init 155 = .ok (.aload_n 0, 1) := by decide +kernel
theorem dX9_init_156 : decode cX9_init 156 = .ok (.sipush 160, 3) := by decide +kernel
theorem dX9_init_159 : decode cX9_init 159 = .ok (.newarray .long, 2) := by decide +kernel
theorem dX9_init_161 : decode cX9_init 161 = .ok (.putfield 69, 3) := by decide +kernel
theorem dX9_init_164 : decode cX9_init 164 = .ok (.aload_n 0, 1) := by decide +kernel
theorem dX9_init_165 : decode cX9_init 165 = .ok (.bipush 40, 2) := by decide +kernel
theorem dX9_init_167 : decode cX9_init 167 = .ok (.newarray .long, 2) := by decide +kernel
theorem dX9_init_169 : decode cX9_init 169 = .ok (.putfield 72, 3) := by decide +kernel
theorem dX9_init_172 : decode cX9_init 172 = .ok (.aload_n 0, 1) := by decide +kernel
theorem dX9_init_173 : decode cX9_init 173 = .ok (.sipush 900, 3) := by decide +kernel
theorem dX9_init_176 : decode cX9_init 176 = .ok (.newarray .int, 2) := by decide +kernel
theorem dX9_init_178 : decode cX9_init 178 = .ok (.putfield 75, 3) := by decide +kernel
theorem dX9_init_181 : decode cX9_init 181 = .ok (.return_, 1) := by decide +kernel
theorem dL_law_0 : decode cL_law 0 = .ok (.new 7, 3) := by decide +kernel
theorem dL_law_4 : decode cL_law 4 = .ok (.invokespecial 9, 3) := by decide +kernel
theorem dL_law_8 : decode cL_law 8 = .ok (.new 10, 3) := by decide +kernel
theorem dL_law_12 : decode cL_law 12 = .ok (.invokespecial 12, 3) := by decide +kernel
theorem w_ob2 : Cond.instanceMethod objectInit ∈ wall := mw 82 (by decide +kernel) rfl
theorem w_ob3 : Cond.code objectInit ⟨#[0xb1]⟩ 1 none ∈ wall := mw 83 (by decide +kernel) rfl
theorem w_ar_int : Cond.arrayClass .int ∈ wall := mw 120 (by decide +kernel) rfl
theorem w_ar_long : Cond.arrayClass .long ∈ wall := mw 304 (by decide +kernel) rfl
theorem w_ar_boolean : Cond.arrayClass .boolean ∈ wall := mw 1156 (by decide +kernel) rfl
theorem w_ob_0 : Cond.methodLink (cnm 0) 3 objectInit ∈ wall := mw 95 (by decide +kernel) rfl
theorem w_in_0 : Cond.instanceMethod yX0_init ∈ wall := mw 93 (by decide +kernel) rfl
theorem w_co_0 : Cond.code yX0_init cX0_init 1 none ∈ wall := mw 94 (by decide +kernel) rfl
theorem w_is_0 : Cond.instantiable RX0 5 ∈ wall := mw 91 (by decide +kernel) rfl
theorem w_ii_0 : Cond.initialized RX0 ∈ wall := mw 60 (by decide +kernel) rfl
theorem w_ob_1 : Cond.methodLink (cnm 1) 3 objectInit ∈ wall := mw 126 (by decide +kernel) rfl
theorem w_in_1 : Cond.instanceMethod yX1_init ∈ wall := mw 124 (by decide +kernel) rfl
theorem w_co_1 : Cond.code yX1_init cX1_init 1 none ∈ wall := mw 125 (by decide +kernel) rfl
theorem w_is_1 : Cond.instantiable RX1 10 ∈ wall := mw 122 (by decide +kernel) rfl
theorem w_ii_1 : Cond.initialized RX1 ∈ wall := mw 61 (by decide +kernel) rfl
theorem w_ob_2 : Cond.methodLink (cnm 2) 3 objectInit ∈ wall := mw 203 (by decide +kernel) rfl
theorem w_in_2 : Cond.instanceMethod yX2_init ∈ wall := mw 201 (by decide +kernel) rfl
theorem w_co_2 : Cond.code yX2_init cX2_init 1 none ∈ wall := mw 202 (by decide +kernel) rfl
theorem w_is_2 : Cond.instantiable RX2 4 ∈ wall := mw 199 (by decide +kernel) rfl
theorem w_ii_2 : Cond.initialized RX2 ∈ wall := mw 63 (by decide +kernel) rfl
theorem w_ob_3 : Cond.methodLink (cnm 3) 3 objectInit ∈ wall := mw 291 (by decide +kernel) rfl
theorem w_in_3 : Cond.instanceMethod yX3_init ∈ wall := mw 289 (by decide +kernel) rfl
theorem w_co_3 : Cond.code yX3_init cX3_init 1 none ∈ wall := mw 290 (by decide +kernel) rfl
theorem w_is_3 : Cond.instantiable RX3 3 ∈ wall := mw 287 (by decide +kernel) rfl
theorem w_ii_3 : Cond.initialized RX3 ∈ wall := mw 65 (by decide +kernel) rfl
theorem w_ob_4 : Cond.methodLink (cnm 4) 3 objectInit ∈ wall := mw 310 (by decide +kernel) rfl
theorem w_in_4 : Cond.instanceMethod yX4_init ∈ wall := mw 308 (by decide +kernel) rfl
theorem w_co_4 : Cond.code yX4_init cX4_init 1 none ∈ wall := mw 309 (by decide +kernel) rfl
theorem w_is_4 : Cond.instantiable RX4 12 ∈ wall := mw 306 (by decide +kernel) rfl
theorem w_ii_4 : Cond.initialized RX4 ∈ wall := mw 66 (by decide +kernel) rfl
theorem w_ob_5 : Cond.methodLink (cnm 5) 3 objectInit ∈ wall := mw 249 (by decide +kernel) rfl
theorem w_in_5 : Cond.instanceMethod yX5_init ∈ wall := mw 247 (by decide +kernel) rfl
theorem w_co_5 : Cond.code yX5_init cX5_init 1 none ∈ wall := mw 248 (by decide +kernel) rfl
theorem w_is_5 : Cond.instantiable RX5 10 ∈ wall := mw 245 (by decide +kernel) rfl
theorem w_ii_5 : Cond.initialized RX5 ∈ wall := mw 64 (by decide +kernel) rfl
theorem w_ob_6 : Cond.methodLink (cnm 6) 3 objectInit ∈ wall := mw 175 (by decide +kernel) rfl
theorem w_in_6 : Cond.instanceMethod yX6_init ∈ wall := mw 173 (by decide +kernel) rfl
theorem w_co_6 : Cond.code yX6_init cX6_init 1 none ∈ wall := mw 174 (by decide +kernel) rfl
theorem w_is_6 : Cond.instantiable RX6 6 ∈ wall := mw 171 (by decide +kernel) rfl
theorem w_ii_6 : Cond.initialized RX6 ∈ wall := mw 62 (by decide +kernel) rfl
theorem w_ob_7 : Cond.methodLink (cnm 7) 3 objectInit ∈ wall := mw 89 (by decide +kernel) rfl
theorem w_in_7 : Cond.instanceMethod yX7_init ∈ wall := mw 87 (by decide +kernel) rfl
theorem w_co_7 : Cond.code yX7_init cX7_init 1 none ∈ wall := mw 88 (by decide +kernel) rfl
theorem w_is_7 : Cond.instantiable RX7 5 ∈ wall := mw 85 (by decide +kernel) rfl
theorem w_ii_7 : Cond.initialized RX7 ∈ wall := mw 59 (by decide +kernel) rfl
theorem w_ob_8 : Cond.methodLink (cnm 8) 3 objectInit ∈ wall := mw 81 (by decide +kernel) rfl
theorem w_in_8 : Cond.instanceMethod yX8_init ∈ wall := mw 79 (by decide +kernel) rfl
theorem w_co_8 : Cond.code yX8_init cX8_init 1 none ∈ wall := mw 80 (by decide +kernel) rfl
theorem w_is_8 : Cond.instantiable RX8 7 ∈ wall := mw 77 (by decide +kernel) rfl
theorem w_ii_8 : Cond.initialized RX8 ∈ wall := mw 58 (by decide +kernel) rfl
theorem w_ob_9 : Cond.methodLink (cnm 9) 1 objectInit ∈ wall := mw 1049 (by decide +kernel) rfl
theorem w_in_9 : Cond.instanceMethod yX9_init ∈ wall := mw 1047 (by decide +kernel) rfl
theorem w_co_9 : Cond.code yX9_init cX9_init 1 none ∈ wall := mw 1048 (by decide +kernel) rfl
theorem w_is_9 : Cond.instantiable RX9 35 ∈ wall := mw 1045 (by decide +kernel) rfl
theorem w_ii_9 : Cond.initialized RX9 ∈ wall := mw 67 (by decide +kernel) rfl
theorem w_cl_7_9 : Cond.classLink (cnm 7) 9 RX0 ∈ wall := mw 90 (by decide +kernel) rfl
theorem w_ml_7_11 : Cond.methodLink (cnm 7) 11 yX0_init ∈ wall := mw 92 (by decide +kernel) rfl
theorem w_cl_7_18 : Cond.classLink (cnm 7) 18 RX1 ∈ wall := mw 121 (by decide +kernel) rfl
theorem w_ml_7_20 : Cond.methodLink (cnm 7) 20 yX1_init ∈ wall := mw 123 (by decide +kernel) rfl
theorem w_cl_7_25 : Cond.classLink (cnm 7) 25 RX6 ∈ wall := mw 170 (by decide +kernel) rfl
theorem w_ml_7_27 : Cond.methodLink (cnm 7) 27 yX6_init ∈ wall := mw 172 (by decide +kernel) rfl
theorem w_cl_7_32 : Cond.classLink (cnm 7) 32 RX2 ∈ wall := mw 198 (by decide +kernel) rfl
theorem w_ml_7_34 : Cond.methodLink (cnm 7) 34 yX2_init ∈ wall := mw 200 (by decide +kernel) rfl
theorem w_cl_8_9 : Cond.classLink (cnm 8) 9 RX7 ∈ wall := mw 84 (by decide +kernel) rfl
theorem w_ml_8_11 : Cond.methodLink (cnm 8) 11 yX7_init ∈ wall := mw 86 (by decide +kernel) rfl
theorem w_cl_8_23 : Cond.classLink (cnm 8) 23 RX5 ∈ wall := mw 244 (by decide +kernel) rfl
theorem w_ml_8_25 : Cond.methodLink (cnm 8) 25 yX5_init ∈ wall := mw 246 (by decide +kernel) rfl
theorem w_cl_8_30 : Cond.classLink (cnm 8) 30 RX3 ∈ wall := mw 286 (by decide +kernel) rfl
theorem w_ml_8_32 : Cond.methodLink (cnm 8) 32 yX3_init ∈ wall := mw 288 (by decide +kernel) rfl
theorem w_cl_8_37 : Cond.classLink (cnm 8) 37 RX4 ∈ wall := mw 305 (by decide +kernel) rfl
theorem w_ml_8_39 : Cond.methodLink (cnm 8) 39 yX4_init ∈ wall := mw 307 (by decide +kernel) rfl
theorem w_cl_10_7 : Cond.classLink (cnm 10) 7 RX8 ∈ wall := mw 76 (by decide +kernel) rfl
theorem w_ml_10_9 : Cond.methodLink (cnm 10) 9 yX8_init ∈ wall := mw 78 (by decide +kernel) rfl
theorem w_cl_10_10 : Cond.classLink (cnm 10) 10 RX9 ∈ wall := mw 1044 (by decide +kernel) rfl
theorem w_ml_10_12 : Cond.methodLink (cnm 10) 12 yX9_init ∈ wall := mw 1046 (by decide +kernel) rfl

theorem ra_I {s : State} {a b : ClassId} (h1 : va_RA s a .int) (h2 : va_RA s b .int) : a = b := Option.some.inj (h1.symm.trans h2)
theorem ra_J {s : State} {a b : ClassId} (h1 : va_RA s a .long) (h2 : va_RA s b .long) : a = b := Option.some.inj (h1.symm.trans h2)
theorem ra_Z {s : State} {a b : ClassId} (h1 : va_RA s a .boolean) (h2 : va_RA s b .boolean) : a = b := Option.some.inj (h1.symm.trans h2)

theorem df_0 : ∀ j, j < 5 → defaultValue (tyC 0 j) = vp_V [.null, .null, .null, .int 0, .int 0] j := by
  intro j hj
  rcases (show j = 0 ∨ j = 1 ∨ j = 2 ∨ j = 3 ∨ j = 4 by omega) with rfl | rfl | rfl | rfl | rfl <;> rfl
theorem df_1 : ∀ j, j < 10 → defaultValue (tyC 1 j) = vp_V [.null, .null, .null, .null, .null, .null, .null, .null, .int 0, .int 0] j := by
  intro j hj
  rcases (show j = 0 ∨ j = 1 ∨ j = 2 ∨ j = 3 ∨ j = 4 ∨ j = 5 ∨ j = 6 ∨ j = 7 ∨ j = 8 ∨ j = 9 by omega) with rfl | rfl | rfl | rfl | rfl | rfl | rfl | rfl | rfl | rfl <;> rfl
theorem df_2 : ∀ j, j < 4 → defaultValue (tyC 2 j) = vp_V [.null, .null, .null, .int 0] j := by
  intro j hj
  rcases (show j = 0 ∨ j = 1 ∨ j = 2 ∨ j = 3 by omega) with rfl | rfl | rfl | rfl <;> rfl
theorem df_3 : ∀ j, j < 3 → defaultValue (tyC 3 j) = vp_V [.null, .null, .null] j := by
  intro j hj
  rcases (show j = 0 ∨ j = 1 ∨ j = 2 by omega) with rfl | rfl | rfl <;> rfl
theorem df_4 : ∀ j, j < 12 → defaultValue (tyC 4 j) = vp_V [.null, .int 0, .int 0, .null, .null, .null, .null, .null, .null, .null, .null, .null] j := by
  intro j hj
  rcases (show j = 0 ∨ j = 1 ∨ j = 2 ∨ j = 3 ∨ j = 4 ∨ j = 5 ∨ j = 6 ∨ j = 7 ∨ j = 8 ∨ j = 9 ∨ j = 10 ∨ j = 11 by omega) with rfl | rfl | rfl | rfl | rfl | rfl | rfl | rfl | rfl | rfl | rfl | rfl <;> rfl
theorem df_5 : ∀ j, j < 10 → defaultValue (tyC 5 j) = vp_V [.null, .int 0, .null, .null, .null, .int 0, .int 0, .int 0, .int 0, .int 0] j := by
  intro j hj
  rcases (show j = 0 ∨ j = 1 ∨ j = 2 ∨ j = 3 ∨ j = 4 ∨ j = 5 ∨ j = 6 ∨ j = 7 ∨ j = 8 ∨ j = 9 by omega) with rfl | rfl | rfl | rfl | rfl | rfl | rfl | rfl | rfl | rfl <;> rfl
theorem df_6 : ∀ j, j < 6 → defaultValue (tyC 6 j) = vp_V [.null, .null, .null, .null, .null, .int 0] j := by
  intro j hj
  rcases (show j = 0 ∨ j = 1 ∨ j = 2 ∨ j = 3 ∨ j = 4 ∨ j = 5 by omega) with rfl | rfl | rfl | rfl | rfl | rfl <;> rfl
theorem df_7 : ∀ j, j < 5 → defaultValue (tyC 7 j) = vp_V [.null, .null, .null, .null, .null] j := by
  intro j hj
  rcases (show j = 0 ∨ j = 1 ∨ j = 2 ∨ j = 3 ∨ j = 4 by omega) with rfl | rfl | rfl | rfl | rfl <;> rfl
theorem df_8 : ∀ j, j < 7 → defaultValue (tyC 8 j) = vp_V [.null, .null, .int 0, .null, .null, .null, .null] j := by
  intro j hj
  rcases (show j = 0 ∨ j = 1 ∨ j = 2 ∨ j = 3 ∨ j = 4 ∨ j = 5 ∨ j = 6 by omega) with rfl | rfl | rfl | rfl | rfl | rfl | rfl <;> rfl
theorem df_9 : ∀ j, j < 35 → defaultValue (tyC 9 j) = vp_V [.null, .null, .null, .null, .null, .null, .null, .null, .null, .null, .null, .int 0, .null, .null, .int 0, .int 0, .int 0, .int 0, .long 0, .int 0, .null, .int 0, .null, .null, .long 0, .int 0, .int 0, .null, .null, .null, .null, .null, .int 0, .null, .int 0] j := by
  intro j hj
  rcases (show j = 0 ∨ j = 1 ∨ j = 2 ∨ j = 3 ∨ j = 4 ∨ j = 5 ∨ j = 6 ∨ j = 7 ∨ j = 8 ∨ j = 9 ∨ j = 10 ∨ j = 11 ∨ j = 12 ∨ j = 13 ∨ j = 14 ∨ j = 15 ∨ j = 16 ∨ j = 17 ∨ j = 18 ∨ j = 19 ∨ j = 20 ∨ j = 21 ∨ j = 22 ∨ j = 23 ∨ j = 24 ∨ j = 25 ∨ j = 26 ∨ j = 27 ∨ j = 28 ∨ j = 29 ∨ j = 30 ∨ j = 31 ∨ j = 32 ∨ j = 33 ∨ j = 34 by omega) with rfl | rfl | rfl | rfl | rfl | rfl | rfl | rfl | rfl | rfl | rfl | rfl | rfl | rfl | rfl | rfl | rfl | rfl | rfl | rfl | rfl | rfl | rfl | rfl | rfl | rfl | rfl | rfl | rfl | rfl | rfl | rfl | rfl | rfl | rfl <;> rfl
def ws0 (cI cJ cZ : ClassId) (h0 : Nat) (u : Nat → Nat) : va_W := [(h0, .inr (0, [.ref (u 0), .ref (u 1), .ref (u 2), .int 0, .int 0])), ((u 0), .inl (cI, 144, .inl (fun _ => 0))), ((u 1), .inl (cI, 16, .inl (fun _ => 0))), ((u 2), .inl (cI, 96, .inl (fun _ => 0)))]
set_option maxHeartbeats 4000000 in
set_option maxRecDepth 100000 in
theorem c_init0 (l : Launch) (D : va_G) (cI cJ cZ : ClassId) (h0 : Nat) (sz : Nat) : Met l yX0_init (Cond.code yX0_init cX0_init 1 none :: wall) ({ frames := 1, cells := 3, slots := 256, locals := 12 }) (va_Pc [.ref h0] (fun U => U.heap.size = sz ∧ va_P D vwCl [(h0, .inr (0, [.null, .null, .null, .int 0, .int 0]))] U.heap ∧ va_K D vwCl (tyz cI cJ cZ) U ∧ va_D (fun _ => True) [(h0, .inr (0, [.null, .null, .null, .int 0, .int 0]))])) (va_Qv (fun _ : Nat → Nat => True) (fun u t => va_P D vwCl (ws0 cI cJ cZ h0 u) t.heap ∧ va_D (va_A [(h0, .inr (0, [.null, .null, .null, .int 0, .int 0]))] sz) (ws0 cI cJ cZ h0 u)) (va_A [(h0, .inr (0, [.null, .null, .null, .int 0, .int 0]))] sz)) 3 256 (va_A [(h0, .inr (0, [.null, .null, .null, .int 0, .int 0]))] sz) := by
  refine Met.ofW (cc := cX0_init) (maxL := 1) (ret := none) (by decide) rfl ?_
  intro p e s m args below meth c s₁ B hml hv
  obtain ⟨rfl, hsz, hP, hK, hD0⟩ := hv
  have hx := B.exec
  have hb := B.bytes
  have hr := B.returns
  have hts0 := atoms_spec (ws := Cond.code yX0_init cX0_init 1 none :: wall) B.pre
  have hts : ∀ w ∈ wall, w.before _ s = true := fun w hw => hts0 w (List.mem_cons_of_mem _ hw)
  have hown : s.vm.findClass (cnm 0) = some m.cls := findClass_of_methodNamed B.named
  have hin : meth.name = "<init>" := (name_of_methodNamed B.named B.method).1
  subst hsz
  have hD := hD0.self (sz := s.heap.size)
  generalize hAe : va_A [(h0, .inr (0, [.null, .null, .null, .int 0, .int 0]))] s.heap.size = A at hD ⊢
  have hA : ∀ q : Nat, s.heap.size ≤ q → A q := fun q h => by rw [← hAe]; exact Or.inr h
  have hS : va_S A s.heap s.heap [] := va_S.rf
  have hl := lv_entry ([.ref h0]) (n := 1) (Nat.le_of_ble_eq_true rfl)
  rw [lg_entry_eq]
  generalize (lg_sl ([.ref h0]) ++ List.replicate (1 - (lg_sl ([.ref h0])).length) Slot.unset).toArray = ls at hl ⊢
  have hl : lv_has ls 1 [(0, .ref h0)] := hl
  refine lv_aload_n hx hb dX0_init_0 rfl (lv_at hl 0 rfl) ?_
  refine W.objInit hx hb hown (hts _ w_ob_0) (hts _ w_ob2) (hts _ w_ob3) rfl (by rw [hml]; exact hl.1) rfl dX0_init_1 (Nat.le_of_ble_eq_true rfl) (Nat.le_of_ble_eq_true rfl) ?_
  refine W.eq (g2 := F0 m 4 ls []) rfl ?_
  refine lv_aload_n hx hb dX0_init_4 rfl (lv_at hl 0 rfl) ?_
  refine lv_sipush hx hb (v := 144) dX0_init_5 (by decide) ?_
  refine va_newa (atype := .int) (a0 := (144, .inl (fun _ => 0))) hx hb (hts _ w_ar_int) (ty := .int) rfl hK hP hD hS hA (fun _ => rfl) (by decide) (by decide) (by decide) (by decide) (by decide) dX0_init_8 (fun q8 cA H hK3 hP hD hS => ?_)
  have ec : cI = cA := (ra_I (hK3.2 3 _ rfl).2 (hK.2 0 _ rfl).2).symm
  subst ec
  have hP : va_P D vwCl [(h0, .inr (0, [.null, .null, .null, .int 0, .int 0])), (q8, .inl (cI, 144, .inl (fun _ => 0)))] H := hP
  have hD : va_D A [(h0, .inr (0, [.null, .null, .null, .int 0, .int 0])), (q8, .inl (cI, 144, .inl (fun _ => 0)))] := hD
  obtain ⟨n1, n2, n3, n4⟩ := nC_of (c := 0) rfl
  obtain ⟨C0, T0, N0, fl1, fl2, fl3⟩ := fl_0_9
  cases fl1
  refine va_putF (ci := 0) (v := .ref q8) (ty := tyC 0 0) hx hb hts n2 (tyC 0) n3 n4 hown hK hP hD hS 0 rfl rfl 0 fl2 (hts _ fl3) (fun _ z => z) rfl hin rfl (n3 0 fl2) (rfl) (rfl) (Nat.le_of_ble_eq_true rfl) dX0_init_10 (fun H locs hP hD hS => ?_)
  have hP : va_P D vwCl [(h0, .inr (0, [.ref q8, .null, .null, .int 0, .int 0])), (q8, .inl (cI, 144, .inl (fun _ => 0)))] H := hP
  have hD : va_D A [(h0, .inr (0, [.ref q8, .null, .null, .int 0, .int 0])), (q8, .inl (cI, 144, .inl (fun _ => 0)))] := hD
  refine lv_aload_n hx hb dX0_init_13 rfl (lv_at hl 0 rfl) ?_
  refine lv_bipush hx hb (v := 16) dX0_init_14 (by decide) ?_
  refine va_newa (atype := .int) (a0 := (16, .inl (fun _ => 0))) hx hb (hts _ w_ar_int) (ty := .int) rfl hK hP hD hS hA (fun _ => rfl) (by decide) (by decide) (by decide) (by decide) (by decide) dX0_init_16 (fun q16 cA H hK3 hP hD hS => ?_)
  have ec : cI = cA := (ra_I (hK3.2 3 _ rfl).2 (hK.2 0 _ rfl).2).symm
  subst ec
  have hP : va_P D vwCl [(h0, .inr (0, [.ref q8, .null, .null, .int 0, .int 0])), (q8, .inl (cI, 144, .inl (fun _ => 0))), (q16, .inl (cI, 16, .inl (fun _ => 0)))] H := hP
  have hD : va_D A [(h0, .inr (0, [.ref q8, .null, .null, .int 0, .int 0])), (q8, .inl (cI, 144, .inl (fun _ => 0))), (q16, .inl (cI, 16, .inl (fun _ => 0)))] := hD
  obtain ⟨n1, n2, n3, n4⟩ := nC_of (c := 0) rfl
  obtain ⟨C0, T0, N0, fl1, fl2, fl3⟩ := fl_0_15
  cases fl1
  refine va_putF (ci := 0) (v := .ref q16) (ty := tyC 0 1) hx hb hts n2 (tyC 0) n3 n4 hown hK hP hD hS 0 rfl rfl 1 fl2 (hts _ fl3) (fun _ z => z) rfl hin rfl (n3 1 fl2) (rfl) (rfl) (Nat.le_of_ble_eq_true rfl) dX0_init_18 (fun H locs hP hD hS => ?_)
  have hP : va_P D vwCl [(h0, .inr (0, [.ref q8, .ref q16, .null, .int 0, .int 0])), (q8, .inl (cI, 144, .inl (fun _ => 0))), (q16, .inl (cI, 16, .inl (fun _ => 0)))] H := hP
  have hD : va_D A [(h0, .inr (0, [.ref q8, .ref q16, .null, .int 0, .int 0])), (q8, .inl (cI, 144, .inl (fun _ => 0))), (q16, .inl (cI, 16, .inl (fun _ => 0)))] := hD
  refine lv_aload_n hx hb dX0_init_21 rfl (lv_at hl 0 rfl) ?_
  refine lv_bipush hx hb (v := 96) dX0_init_22 (by decide) ?_
  refine va_newa (atype := .int) (a0 := (96, .inl (fun _ => 0))) hx hb (hts _ w_ar_int) (ty := .int) rfl hK hP hD hS hA (fun _ => rfl) (by decide) (by decide) (by decide) (by decide) (by decide) dX0_init_24 (fun q24 cA H hK3 hP hD hS => ?_)
  have ec : cI = cA := (ra_I (hK3.2 3 _ rfl).2 (hK.2 0 _ rfl).2).symm
  subst ec
  have hP : va_P D vwCl [(h0, .inr (0, [.ref q8, .ref q16, .null, .int 0, .int 0])), (q8, .inl (cI, 144, .inl (fun _ => 0))), (q16, .inl (cI, 16, .inl (fun _ => 0))), (q24, .inl (cI, 96, .inl (fun _ => 0)))] H := hP
  have hD : va_D A [(h0, .inr (0, [.ref q8, .ref q16, .null, .int 0, .int 0])), (q8, .inl (cI, 144, .inl (fun _ => 0))), (q16, .inl (cI, 16, .inl (fun _ => 0))), (q24, .inl (cI, 96, .inl (fun _ => 0)))] := hD
  obtain ⟨n1, n2, n3, n4⟩ := nC_of (c := 0) rfl
  obtain ⟨C0, T0, N0, fl1, fl2, fl3⟩ := fl_0_18
  cases fl1
  refine va_putF (ci := 0) (v := .ref q24) (ty := tyC 0 2) hx hb hts n2 (tyC 0) n3 n4 hown hK hP hD hS 0 rfl rfl 2 fl2 (hts _ fl3) (fun _ z => z) rfl hin rfl (n3 2 fl2) (rfl) (rfl) (Nat.le_of_ble_eq_true rfl) dX0_init_26 (fun H locs hP hD hS => ?_)
  have hP : va_P D vwCl [(h0, .inr (0, [.ref q8, .ref q16, .ref q24, .int 0, .int 0])), (q8, .inl (cI, 144, .inl (fun _ => 0))), (q16, .inl (cI, 16, .inl (fun _ => 0))), (q24, .inl (cI, 96, .inl (fun _ => 0)))] H := hP
  have hD : va_D A [(h0, .inr (0, [.ref q8, .ref q16, .ref q24, .int 0, .int 0])), (q8, .inl (cI, 144, .inl (fun _ => 0))), (q16, .inl (cI, 16, .inl (fun _ => 0))), (q24, .inl (cI, 96, .inl (fun _ => 0)))] := hD
  refine lv_aload_n hx hb dX0_init_29 rfl (lv_at hl 0 rfl) ?_
  refine lv_iconst hx hb (v := 0) dX0_init_30 (by decide) ?_
  obtain ⟨n1, n2, n3, n4⟩ := nC_of (c := 0) rfl
  obtain ⟨C0, T0, N0, fl1, fl2, fl3⟩ := fl_0_21
  cases fl1
  refine va_put (ci := 0) (v := .int 0) (ty := tyC 0 3) hx hb hts n2 (tyC 0) n3 n4 hown hK hP hD hS 0 rfl rfl 3 fl2 (hts _ fl3) (fun _ z => z) rfl (n3 3 fl2) (by decide) (by decide) (Nat.le_of_ble_eq_true rfl) dX0_init_31 (fun H locs hP hD hS => ?_)
  have hP : va_P D vwCl [(h0, .inr (0, [.ref q8, .ref q16, .ref q24, .int 0, .int 0])), (q8, .inl (cI, 144, .inl (fun _ => 0))), (q16, .inl (cI, 16, .inl (fun _ => 0))), (q24, .inl (cI, 96, .inl (fun _ => 0)))] H := hP
  have hD : va_D A [(h0, .inr (0, [.ref q8, .ref q16, .ref q24, .int 0, .int 0])), (q8, .inl (cI, 144, .inl (fun _ => 0))), (q16, .inl (cI, 16, .inl (fun _ => 0))), (q24, .inl (cI, 96, .inl (fun _ => 0)))] := hD
  refine lv_aload_n hx hb dX0_init_34 rfl (lv_at hl 0 rfl) ?_
  refine lv_iconst hx hb (v := 0) dX0_init_35 (by decide) ?_
  obtain ⟨n1, n2, n3, n4⟩ := nC_of (c := 0) rfl
  obtain ⟨C0, T0, N0, fl1, fl2, fl3⟩ := fl_0_25
  cases fl1
  refine va_put (ci := 0) (v := .int 0) (ty := tyC 0 4) hx hb hts n2 (tyC 0) n3 n4 hown hK hP hD hS 0 rfl rfl 4 fl2 (hts _ fl3) (fun _ z => z) rfl (n3 4 fl2) (by decide) (by decide) (Nat.le_of_ble_eq_true rfl) dX0_init_36 (fun H locs hP hD hS => ?_)
  have hP : va_P D vwCl [(h0, .inr (0, [.ref q8, .ref q16, .ref q24, .int 0, .int 0])), (q8, .inl (cI, 144, .inl (fun _ => 0))), (q16, .inl (cI, 16, .inl (fun _ => 0))), (q24, .inl (cI, 96, .inl (fun _ => 0)))] H := hP
  have hD : va_D A [(h0, .inr (0, [.ref q8, .ref q16, .ref q24, .int 0, .int 0])), (q8, .inl (cI, 144, .inl (fun _ => 0))), (q16, .inl (cI, 16, .inl (fun _ => 0))), (q24, .inl (cI, 96, .inl (fun _ => 0)))] := hD
  have hP9 := hP
  have hD9 := hD
  refine W.widen (k := 3) (n := 256) (by decide) (by decide) ?_
  exact W.vret hx hb hr (fun t ht hW => ⟨⟨(fun j => ([q8, q16, q24] : List Nat).getD j 0), rfl, trivial, by rw [ht]; exact hP9, hD9⟩, hS.F ht⟩) hS.2.2 dX0_init_39
def ws1 (cI cJ cZ : ClassId) (h0 : Nat) (u : Nat → Nat) : va_W := [(h0, .inr (1, [.ref (u 0), .ref (u 1), .ref (u 2), .ref (u 3), .ref (u 4), .ref (u 5), .ref (u 6), .ref (u 7), .int 0, .int 0])), ((u 0), .inl (cI, 30, .inl (fun _ => 0))), ((u 1), .inl (cI, 30, .inl (fun _ => 0))), ((u 2), .inl (cI, 30, .inl (fun _ => 0))), ((u 3), .inl (cI, 30, .inl (fun _ => 0))), ((u 4), .inl (cI, 30, .inl (fun _ => 0))), ((u 5), .inl (cI, 30, .inl (fun _ => 0))), ((u 6), .inl (cI, 30, .inl (fun _ => 0))), ((u 7), .inl (cI, 30, .inl (fun _ => 0)))]
set_option maxHeartbeats 4000000 in
set_option maxRecDepth 100000 in
theorem c_init1 (l : Launch) (D : va_G) (cI cJ cZ : ClassId) (h0 : Nat) (sz : Nat) : Met l yX1_init (Cond.code yX1_init cX1_init 1 none :: wall) ({ frames := 1, cells := 8, slots := 240, locals := 12 }) (va_Pc [.ref h0] (fun U => U.heap.size = sz ∧ va_P D vwCl [(h0, .inr (1, [.null, .null, .null, .null, .null, .null, .null, .null, .int 0, .int 0]))] U.heap ∧ va_K D vwCl (tyz cI cJ cZ) U ∧ va_D (fun _ => True) [(h0, .inr (1, [.null, .null, .null, .null, .null, .null, .null, .null, .int 0, .int 0]))])) (va_Qv (fun _ : Nat → Nat => True) (fun u t => va_P D vwCl (ws1 cI cJ cZ h0 u) t.heap ∧ va_D (va_A [(h0, .inr (1, [.null, .null, .null, .null, .null, .null, .null, .null, .int 0, .int 0]))] sz) (ws1 cI cJ cZ h0 u)) (va_A [(h0, .inr (1, [.null, .null, .null, .null, .null, .null, .null, .null, .int 0, .int 0]))] sz)) 8 240 (va_A [(h0, .inr (1, [.null, .null, .null, .null, .null, .null, .null, .null, .int 0, .int 0]))] sz) := by
  refine Met.ofW (cc := cX1_init) (maxL := 1) (ret := none) (by decide) rfl ?_
  intro p e s m args below meth c s₁ B hml hv
  obtain ⟨rfl, hsz, hP, hK, hD0⟩ := hv
  have hx := B.exec
  have hb := B.bytes
  have hr := B.returns
  have hts0 := atoms_spec (ws := Cond.code yX1_init cX1_init 1 none :: wall) B.pre
  have hts : ∀ w ∈ wall, w.before _ s = true := fun w hw => hts0 w (List.mem_cons_of_mem _ hw)
  have hown : s.vm.findClass (cnm 1) = some m.cls := findClass_of_methodNamed B.named
  have hin : meth.name = "<init>" := (name_of_methodNamed B.named B.method).1
  subst hsz
  have hD := hD0.self (sz := s.heap.size)
  generalize hAe : va_A [(h0, .inr (1, [.null, .null, .null, .null, .null, .null, .null, .null, .int 0, .int 0]))] s.heap.size = A at hD ⊢
  have hA : ∀ q : Nat, s.heap.size ≤ q → A q := fun q h => by rw [← hAe]; exact Or.inr h
  have hS : va_S A s.heap s.heap [] := va_S.rf
  have hl := lv_entry ([.ref h0]) (n := 1) (Nat.le_of_ble_eq_true rfl)
  rw [lg_entry_eq]
  generalize (lg_sl ([.ref h0]) ++ List.replicate (1 - (lg_sl ([.ref h0])).length) Slot.unset).toArray = ls at hl ⊢
  have hl : lv_has ls 1 [(0, .ref h0)] := hl
  refine lv_aload_n hx hb dX1_init_0 rfl (lv_at hl 0 rfl) ?_
  refine W.objInit hx hb hown (hts _ w_ob_1) (hts _ w_ob2) (hts _ w_ob3) rfl (by rw [hml]; exact hl.1) rfl dX1_init_1 (Nat.le_of_ble_eq_true rfl) (Nat.le_of_ble_eq_true rfl) ?_
  refine W.eq (g2 := F0 m 4 ls []) rfl ?_
  refine lv_aload_n hx hb dX1_init_4 rfl (lv_at hl 0 rfl) ?_
  refine lv_bipush hx hb (v := 30) dX1_init_5 (by decide) ?_
  refine va_newa (atype := .int) (a0 := (30, .inl (fun _ => 0))) hx hb (hts _ w_ar_int) (ty := .int) rfl hK hP hD hS hA (fun _ => rfl) (by decide) (by decide) (by decide) (by decide) (by decide) dX1_init_7 (fun q7 cA H hK3 hP hD hS => ?_)
  have ec : cI = cA := (ra_I (hK3.2 3 _ rfl).2 (hK.2 0 _ rfl).2).symm
  subst ec
  have hP : va_P D vwCl [(h0, .inr (1, [.null, .null, .null, .null, .null, .null, .null, .null, .int 0, .int 0])), (q7, .inl (cI, 30, .inl (fun _ => 0)))] H := hP
  have hD : va_D A [(h0, .inr (1, [.null, .null, .null, .null, .null, .null, .null, .null, .int 0, .int 0])), (q7, .inl (cI, 30, .inl (fun _ => 0)))] := hD
  obtain ⟨n1, n2, n3, n4⟩ := nC_of (c := 1) rfl
  obtain ⟨C0, T0, N0, fl1, fl2, fl3⟩ := fl_1_9
  cases fl1
  refine va_putF (ci := 1) (v := .ref q7) (ty := tyC 1 0) hx hb hts n2 (tyC 1) n3 n4 hown hK hP hD hS 0 rfl rfl 0 fl2 (hts _ fl3) (fun _ z => z) rfl hin rfl (n3 0 fl2) (rfl) (rfl) (Nat.le_of_ble_eq_true rfl) dX1_init_9 (fun H locs hP hD hS => ?_)
  have hP : va_P D vwCl [(h0, .inr (1, [.ref q7, .null, .null, .null, .null, .null, .null, .null, .int 0, .int 0])), (q7, .inl (cI, 30, .inl (fun _ => 0)))] H := hP
  have hD : va_D A [(h0, .inr (1, [.ref q7, .null, .null, .null, .null, .null, .null, .null, .int 0, .int 0])), (q7, .inl (cI, 30, .inl (fun _ => 0)))] := hD
  refine lv_aload_n hx hb dX1_init_12 rfl (lv_at hl 0 rfl) ?_
  refine lv_bipush hx hb (v := 30) dX1_init_13 (by decide) ?_
  refine va_newa (atype := .int) (a0 := (30, .inl (fun _ => 0))) hx hb (hts _ w_ar_int) (ty := .int) rfl hK hP hD hS hA (fun _ => rfl) (by decide) (by decide) (by decide) (by decide) (by decide) dX1_init_15 (fun q15 cA H hK3 hP hD hS => ?_)
  have ec : cI = cA := (ra_I (hK3.2 3 _ rfl).2 (hK.2 0 _ rfl).2).symm
  subst ec
  have hP : va_P D vwCl [(h0, .inr (1, [.ref q7, .null, .null, .null, .null, .null, .null, .null, .int 0, .int 0])), (q7, .inl (cI, 30, .inl (fun _ => 0))), (q15, .inl (cI, 30, .inl (fun _ => 0)))] H := hP
  have hD : va_D A [(h0, .inr (1, [.ref q7, .null, .null, .null, .null, .null, .null, .null, .int 0, .int 0])), (q7, .inl (cI, 30, .inl (fun _ => 0))), (q15, .inl (cI, 30, .inl (fun _ => 0)))] := hD
  obtain ⟨n1, n2, n3, n4⟩ := nC_of (c := 1) rfl
  obtain ⟨C0, T0, N0, fl1, fl2, fl3⟩ := fl_1_15
  cases fl1
  refine va_putF (ci := 1) (v := .ref q15) (ty := tyC 1 1) hx hb hts n2 (tyC 1) n3 n4 hown hK hP hD hS 0 rfl rfl 1 fl2 (hts _ fl3) (fun _ z => z) rfl hin rfl (n3 1 fl2) (rfl) (rfl) (Nat.le_of_ble_eq_true rfl) dX1_init_17 (fun H locs hP hD hS => ?_)
  have hP : va_P D vwCl [(h0, .inr (1, [.ref q7, .ref q15, .null, .null, .null, .null, .null, .null, .int 0, .int 0])), (q7, .inl (cI, 30, .inl (fun _ => 0))), (q15, .inl (cI, 30, .inl (fun _ => 0)))] H := hP
  have hD : va_D A [(h0, .inr (1, [.ref q7, .ref q15, .null, .null, .null, .null, .null, .null, .int 0, .int 0])), (q7, .inl (cI, 30, .inl (fun _ => 0))), (q15, .inl (cI, 30, .inl (fun _ => 0)))] := hD
  refine lv_aload_n hx hb dX1_init_20 rfl (lv_at hl 0 rfl) ?_
  refine lv_bipush hx hb (v := 30) dX1_init_21 (by decide) ?_
  refine va_newa (atype := .int) (a0 := (30, .inl (fun _ => 0))) hx hb (hts _ w_ar_int) (ty := .int) rfl hK hP hD hS hA (fun _ => rfl) (by decide) (by decide) (by decide) (by decide) (by decide) dX1_init_23 (fun q23 cA H hK3 hP hD hS => ?_)
  have ec : cI = cA := (ra_I (hK3.2 3 _ rfl).2 (hK.2 0 _ rfl).2).symm
  subst ec
  have hP : va_P D vwCl [(h0, .inr (1, [.ref q7, .ref q15, .null, .null, .null, .null, .null, .null, .int 0, .int 0])), (q7, .inl (cI, 30, .inl (fun _ => 0))), (q15, .inl (cI, 30, .inl (fun _ => 0))), (q23, .inl (cI, 30, .inl (fun _ => 0)))] H := hP
  have hD : va_D A [(h0, .inr (1, [.ref q7, .ref q15, .null, .null, .null, .null, .null, .null, .int 0, .int 0])), (q7, .inl (cI, 30, .inl (fun _ => 0))), (q15, .inl (cI, 30, .inl (fun _ => 0))), (q23, .inl (cI, 30, .inl (fun _ => 0)))] := hD
  obtain ⟨n1, n2, n3, n4⟩ := nC_of (c := 1) rfl
  obtain ⟨C0, T0, N0, fl1, fl2, fl3⟩ := fl_1_18
  cases fl1
  refine va_putF (ci := 1) (v := .ref q23) (ty := tyC 1 2) hx hb hts n2 (tyC 1) n3 n4 hown hK hP hD hS 0 rfl rfl 2 fl2 (hts _ fl3) (fun _ z => z) rfl hin rfl (n3 2 fl2) (rfl) (rfl) (Nat.le_of_ble_eq_true rfl) dX1_init_25 (fun H locs hP hD hS => ?_)
  have hP : va_P D vwCl [(h0, .inr (1, [.ref q7, .ref q15, .ref q23, .null, .null, .null, .null, .null, .int 0, .int 0])), (q7, .inl (cI, 30, .inl (fun _ => 0))), (q15, .inl (cI, 30, .inl (fun _ => 0))), (q23, .inl (cI, 30, .inl (fun _ => 0)))] H := hP
  have hD : va_D A [(h0, .inr (1, [.ref q7, .ref q15, .ref q23, .null, .null, .null, .null, .null, .int 0, .int 0])), (q7, .inl (cI, 30, .inl (fun _ => 0))), (q15, .inl (cI, 30, .inl (fun _ => 0))), (q23, .inl (cI, 30, .inl (fun _ => 0)))] := hD
  refine lv_aload_n hx hb dX1_init_28 rfl (lv_at hl 0 rfl) ?_
  refine lv_bipush hx hb (v := 30) dX1_init_29 (by decide) ?_
  refine va_newa (atype := .int) (a0 := (30, .inl (fun _ => 0))) hx hb (hts _ w_ar_int) (ty := .int) rfl hK hP hD hS hA (fun _ => rfl) (by decide) (by decide) (by decide) (by decide) (by decide) dX1_init_31 (fun q31 cA H hK3 hP hD hS => ?_)
  have ec : cI = cA := (ra_I (hK3.2 3 _ rfl).2 (hK.2 0 _ rfl).2).symm
  subst ec
  have hP : va_P D vwCl [(h0, .inr (1, [.ref q7, .ref q15, .ref q23, .null, .null, .null, .null, .null, .int 0, .int 0])), (q7, .inl (cI, 30, .inl (fun _ => 0))), (q15, .inl (cI, 30, .inl (fun _ => 0))), (q23, .inl (cI, 30, .inl (fun _ => 0))), (q31, .inl (cI, 30, .inl (fun _ => 0)))] H := hP
  have hD : va_D A [(h0, .inr (1, [.ref q7, .ref q15, .ref q23, .null, .null, .null, .null, .null, .int 0, .int 0])), (q7, .inl (cI, 30, .inl (fun _ => 0))), (q15, .inl (cI, 30, .inl (fun _ => 0))), (q23, .inl (cI, 30, .inl (fun _ => 0))), (q31, .inl (cI, 30, .inl (fun _ => 0)))] := hD
  obtain ⟨n1, n2, n3, n4⟩ := nC_of (c := 1) rfl
  obtain ⟨C0, T0, N0, fl1, fl2, fl3⟩ := fl_1_21
  cases fl1
  refine va_putF (ci := 1) (v := .ref q31) (ty := tyC 1 3) hx hb hts n2 (tyC 1) n3 n4 hown hK hP hD hS 0 rfl rfl 3 fl2 (hts _ fl3) (fun _ z => z) rfl hin rfl (n3 3 fl2) (rfl) (rfl) (Nat.le_of_ble_eq_true rfl) dX1_init_33 (fun H locs hP hD hS => ?_)
  have hP : va_P D vwCl [(h0, .inr (1, [.ref q7, .ref q15, .ref q23, .ref q31, .null, .null, .null, .null, .int 0, .int 0])), (q7, .inl (cI, 30, .inl (fun _ => 0))), (q15, .inl (cI, 30, .inl (fun _ => 0))), (q23, .inl (cI, 30, .inl (fun _ => 0))), (q31, .inl (cI, 30, .inl (fun _ => 0)))] H := hP
  have hD : va_D A [(h0, .inr (1, [.ref q7, .ref q15, .ref q23, .ref q31, .null, .null, .null, .null, .int 0, .int 0])), (q7, .inl (cI, 30, .inl (fun _ => 0))), (q15, .inl (cI, 30, .inl (fun _ => 0))), (q23, .inl (cI, 30, .inl (fun _ => 0))), (q31, .inl (cI, 30, .inl (fun _ => 0)))] := hD
  refine lv_aload_n hx hb dX1_init_36 rfl (lv_at hl 0 rfl) ?_
  refine lv_bipush hx hb (v := 30) dX1_init_37 (by decide) ?_
  refine va_newa (atype := .int) (a0 := (30, .inl (fun _ => 0))) hx hb (hts _ w_ar_int) (ty := .int) rfl hK hP hD hS hA (fun _ => rfl) (by decide) (by decide) (by decide) (by decide) (by decide) dX1_init_39 (fun q39 cA H hK3 hP hD hS => ?_)
  have ec : cI = cA := (ra_I (hK3.2 3 _ rfl).2 (hK.2 0 _ rfl).2).symm
  subst ec
  have hP : va_P D vwCl [(h0, .inr (1, [.ref q7, .ref q15, .ref q23, .ref q31, .null, .null, .null, .null, .int 0, .int 0])), (q7, .inl (cI, 30, .inl (fun _ => 0))), (q15, .inl (cI, 30, .inl (fun _ => 0))), (q23, .inl (cI, 30, .inl (fun _ => 0))), (q31, .inl (cI, 30, .inl (fun _ => 0))), (q39, .inl (cI, 30, .inl (fun _ => 0)))] H := hP
  have hD : va_D A [(h0, .inr (1, [.ref q7, .ref q15, .ref q23, .ref q31, .null, .null, .null, .null, .int 0, .int 0])), (q7, .inl (cI, 30, .inl (fun _ => 0))), (q15, .inl (cI, 30, .inl (fun _ => 0))), (q23, .inl (cI, 30, .inl (fun _ => 0))), (q31, .inl (cI, 30, .inl (fun _ => 0))), (q39, .inl (cI, 30, .inl (fun _ => 0)))] := hD
  obtain ⟨n1, n2, n3, n4⟩ := nC_of (c := 1) rfl
  obtain ⟨C0, T0, N0, fl1, fl2, fl3⟩ := fl_1_24
  cases fl1
  refine va_putF (ci := 1) (v := .ref q39) (ty := tyC 1 4) hx hb hts n2 (tyC 1) n3 n4 hown hK hP hD hS 0 rfl rfl 4 fl2 (hts _ fl3) (fun _ z => z) rfl hin rfl (n3 4 fl2) (rfl) (rfl) (Nat.le_of_ble_eq_true rfl) dX1_init_41 (fun H locs hP hD hS => ?_)
  have hP : va_P D vwCl [(h0, .inr (1, [.ref q7, .ref q15, .ref q23, .ref q31, .ref q39, .null, .null, .null, .int 0, .int 0])), (q7, .inl (cI, 30, .inl (fun _ => 0))), (q15, .inl (cI, 30, .inl (fun _ => 0))), (q23, .inl (cI, 30, .inl (fun _ => 0))), (q31, .inl (cI, 30, .inl (fun _ => 0))), (q39, .inl (cI, 30, .inl (fun _ => 0)))] H := hP
  have hD : va_D A [(h0, .inr (1, [.ref q7, .ref q15, .ref q23, .ref q31, .ref q39, .null, .null, .null, .int 0, .int 0])), (q7, .inl (cI, 30, .inl (fun _ => 0))), (q15, .inl (cI, 30, .inl (fun _ => 0))), (q23, .inl (cI, 30, .inl (fun _ => 0))), (q31, .inl (cI, 30, .inl (fun _ => 0))), (q39, .inl (cI, 30, .inl (fun _ => 0)))] := hD
  refine lv_aload_n hx hb dX1_init_44 rfl (lv_at hl 0 rfl) ?_
  refine lv_bipush hx hb (v := 30) dX1_init_45 (by decide) ?_
  refine va_newa (atype := .int) (a0 := (30, .inl (fun _ => 0))) hx hb (hts _ w_ar_int) (ty := .int) rfl hK hP hD hS hA (fun _ => rfl) (by decide) (by decide) (by decide) (by decide) (by decide) dX1_init_47 (fun q47 cA H hK3 hP hD hS => ?_)
  have ec : cI = cA := (ra_I (hK3.2 3 _ rfl).2 (hK.2 0 _ rfl).2).symm
  subst ec
  have hP : va_P D vwCl [(h0, .inr (1, [.ref q7, .ref q15, .ref q23, .ref q31, .ref q39, .null, .null, .null, .int 0, .int 0])), (q7, .inl (cI, 30, .inl (fun _ => 0))), (q15, .inl (cI, 30, .inl (fun _ => 0))), (q23, .inl (cI, 30, .inl (fun _ => 0))), (q31, .inl (cI, 30, .inl (fun _ => 0))), (q39, .inl (cI, 30, .inl (fun _ => 0))), (q47, .inl (cI, 30, .inl (fun _ => 0)))] H := hP
  have hD : va_D A [(h0, .inr (1, [.ref q7, .ref q15, .ref q23, .ref q31, .ref q39, .null, .null, .null, .int 0, .int 0])), (q7, .inl (cI, 30, .inl (fun _ => 0))), (q15, .inl (cI, 30, .inl (fun _ => 0))), (q23, .inl (cI, 30, .inl (fun _ => 0))), (q31, .inl (cI, 30, .inl (fun _ => 0))), (q39, .inl (cI, 30, .inl (fun _ => 0))), (q47, .inl (cI, 30, .inl (fun _ => 0)))] := hD
  obtain ⟨n1, n2, n3, n4⟩ := nC_of (c := 1) rfl
  obtain ⟨C0, T0, N0, fl1, fl2, fl3⟩ := fl_1_27
  cases fl1
  refine va_putF (ci := 1) (v := .ref q47) (ty := tyC 1 5) hx hb hts n2 (tyC 1) n3 n4 hown hK hP hD hS 0 rfl rfl 5 fl2 (hts _ fl3) (fun _ z => z) rfl hin rfl (n3 5 fl2) (rfl) (rfl) (Nat.le_of_ble_eq_true rfl) dX1_init_49 (fun H locs hP hD hS => ?_)
  have hP : va_P D vwCl [(h0, .inr (1, [.ref q7, .ref q15, .ref q23, .ref q31, .ref q39, .ref q47, .null, .null, .int 0, .int 0])), (q7, .inl (cI, 30, .inl (fun _ => 0))), (q15, .inl (cI, 30, .inl (fun _ => 0))), (q23, .inl (cI, 30, .inl (fun _ => 0))), (q31, .inl (cI, 30, .inl (fun _ => 0))), (q39, .inl (cI, 30, .inl (fun _ => 0))), (q47, .inl (cI, 30, .inl (fun _ => 0)))] H := hP
  have hD : va_D A [(h0, .inr (1, [.ref q7, .ref q15, .ref q23, .ref q31, .ref q39, .ref q47, .null, .null, .int 0, .int 0])), (q7, .inl (cI, 30, .inl (fun _ => 0))), (q15, .inl (cI, 30, .inl (fun _ => 0))), (q23, .inl (cI, 30, .inl (fun _ => 0))), (q31, .inl (cI, 30, .inl (fun _ => 0))), (q39, .inl (cI, 30, .inl (fun _ => 0))), (q47, .inl (cI, 30, .inl (fun _ => 0)))] := hD
  refine lv_aload_n hx hb dX1_init_52 rfl (lv_at hl 0 rfl) ?_
  refine lv_bipush hx hb (v := 30) dX1_init_53 (by decide) ?_
  refine va_newa (atype := .int) (a0 := (30, .inl (fun _ => 0))) hx hb (hts _ w_ar_int) (ty := .int) rfl hK hP hD hS hA (fun _ => rfl) (by decide) (by decide) (by decide) (by decide) (by decide) dX1_init_55 (fun q55 cA H hK3 hP hD hS => ?_)
  have ec : cI = cA := (ra_I (hK3.2 3 _ rfl).2 (hK.2 0 _ rfl).2).symm
  subst ec
  have hP : va_P D vwCl [(h0, .inr (1, [.ref q7, .ref q15, .ref q23, .ref q31, .ref q39, .ref q47, .null, .null, .int 0, .int 0])), (q7, .inl (cI, 30, .inl (fun _ => 0))), (q15, .inl (cI, 30, .inl (fun _ => 0))), (q23, .inl (cI, 30, .inl (fun _ => 0))), (q31, .inl (cI, 30, .inl (fun _ => 0))), (q39, .inl (cI, 30, .inl (fun _ => 0))), (q47, .inl (cI, 30, .inl (fun _ => 0))), (q55, .inl (cI, 30, .inl (fun _ => 0)))] H := hP
  have hD : va_D A [(h0, .inr (1, [.ref q7, .ref q15, .ref q23, .ref q31, .ref q39, .ref q47, .null, .null, .int 0, .int 0])), (q7, .inl (cI, 30, .inl (fun _ => 0))), (q15, .inl (cI, 30, .inl (fun _ => 0))), (q23, .inl (cI, 30, .inl (fun _ => 0))), (q31, .inl (cI, 30, .inl (fun _ => 0))), (q39, .inl (cI, 30, .inl (fun _ => 0))), (q47, .inl (cI, 30, .inl (fun _ => 0))), (q55, .inl (cI, 30, .inl (fun _ => 0)))] := hD
  obtain ⟨n1, n2, n3, n4⟩ := nC_of (c := 1) rfl
  obtain ⟨C0, T0, N0, fl1, fl2, fl3⟩ := fl_1_30
  cases fl1
  refine va_putF (ci := 1) (v := .ref q55) (ty := tyC 1 6) hx hb hts n2 (tyC 1) n3 n4 hown hK hP hD hS 0 rfl rfl 6 fl2 (hts _ fl3) (fun _ z => z) rfl hin rfl (n3 6 fl2) (rfl) (rfl) (Nat.le_of_ble_eq_true rfl) dX1_init_57 (fun H locs hP hD hS => ?_)
  have hP : va_P D vwCl [(h0, .inr (1, [.ref q7, .ref q15, .ref q23, .ref q31, .ref q39, .ref q47, .ref q55, .null, .int 0, .int 0])), (q7, .inl (cI, 30, .inl (fun _ => 0))), (q15, .inl (cI, 30, .inl (fun _ => 0))), (q23, .inl (cI, 30, .inl (fun _ => 0))), (q31, .inl (cI, 30, .inl (fun _ => 0))), (q39, .inl (cI, 30, .inl (fun _ => 0))), (q47, .inl (cI, 30, .inl (fun _ => 0))), (q55, .inl (cI, 30, .inl (fun _ => 0)))] H := hP
  have hD : va_D A [(h0, .inr (1, [.ref q7, .ref q15, .ref q23, .ref q31, .ref q39, .ref q47, .ref q55, .null, .int 0, .int 0])), (q7, .inl (cI, 30, .inl (fun _ => 0))), (q15, .inl (cI, 30, .inl (fun _ => 0))), (q23, .inl (cI, 30, .inl (fun _ => 0))), (q31, .inl (cI, 30, .inl (fun _ => 0))), (q39, .inl (cI, 30, .inl (fun _ => 0))), (q47, .inl (cI, 30, .inl (fun _ => 0))), (q55, .inl (cI, 30, .inl (fun _ => 0)))] := hD
  refine lv_aload_n hx hb dX1_init_60 rfl (lv_at hl 0 rfl) ?_
  refine lv_bipush hx hb (v := 30) dX1_init_61 (by decide) ?_
  refine va_newa (atype := .int) (a0 := (30, .inl (fun _ => 0))) hx hb (hts _ w_ar_int) (ty := .int) rfl hK hP hD hS hA (fun _ => rfl) (by decide) (by decide) (by decide) (by decide) (by decide) dX1_init_63 (fun q63 cA H hK3 hP hD hS => ?_)
  have ec : cI = cA := (ra_I (hK3.2 3 _ rfl).2 (hK.2 0 _ rfl).2).symm
  subst ec
  have hP : va_P D vwCl [(h0, .inr (1, [.ref q7, .ref q15, .ref q23, .ref q31, .ref q39, .ref q47, .ref q55, .null, .int 0, .int 0])), (q7, .inl (cI, 30, .inl (fun _ => 0))), (q15, .inl (cI, 30, .inl (fun _ => 0))), (q23, .inl (cI, 30, .inl (fun _ => 0))), (q31, .inl (cI, 30, .inl (fun _ => 0))), (q39, .inl (cI, 30, .inl (fun _ => 0))), (q47, .inl (cI, 30, .inl (fun _ => 0))), (q55, .inl (cI, 30, .inl (fun _ => 0))), (q63, .inl (cI, 30, .inl (fun _ => 0)))] H := hP
  have hD : va_D A [(h0, .inr (1, [.ref q7, .ref q15, .ref q23, .ref q31, .ref q39, .ref q47, .ref q55, .null, .int 0, .int 0])), (q7, .inl (cI, 30, .inl (fun _ => 0))), (q15, .inl (cI, 30, .inl (fun _ => 0))), (q23, .inl (cI, 30, .inl (fun _ => 0))), (q31, .inl (cI, 30, .inl (fun _ => 0))), (q39, .inl (cI, 30, .inl (fun _ => 0))), (q47, .inl (cI, 30, .inl (fun _ => 0))), (q55, .inl (cI, 30, .inl (fun _ => 0))), (q63, .inl (cI, 30, .inl (fun _ => 0)))] := hD
  obtain ⟨n1, n2, n3, n4⟩ := nC_of (c := 1) rfl
  obtain ⟨C0, T0, N0, fl1, fl2, fl3⟩ := fl_1_33
  cases fl1
  refine va_putF (ci := 1) (v := .ref q63) (ty := tyC 1 7) hx hb hts n2 (tyC 1) n3 n4 hown hK hP hD hS 0 rfl rfl 7 fl2 (hts _ fl3) (fun _ z => z) rfl hin rfl (n3 7 fl2) (rfl) (rfl) (Nat.le_of_ble_eq_true rfl) dX1_init_65 (fun H locs hP hD hS => ?_)
  have hP : va_P D vwCl [(h0, .inr (1, [.ref q7, .ref q15, .ref q23, .ref q31, .ref q39, .ref q47, .ref q55, .ref q63, .int 0, .int 0])), (q7, .inl (cI, 30, .inl (fun _ => 0))), (q15, .inl (cI, 30, .inl (fun _ => 0))), (q23, .inl (cI, 30, .inl (fun _ => 0))), (q31, .inl (cI, 30, .inl (fun _ => 0))), (q39, .inl (cI, 30, .inl (fun _ => 0))), (q47, .inl (cI, 30, .inl (fun _ => 0))), (q55, .inl (cI, 30, .inl (fun _ => 0))), (q63, .inl (cI, 30, .inl (fun _ => 0)))] H := hP
  have hD : va_D A [(h0, .inr (1, [.ref q7, .ref q15, .ref q23, .ref q31, .ref q39, .ref q47, .ref q55, .ref q63, .int 0, .int 0])), (q7, .inl (cI, 30, .inl (fun _ => 0))), (q15, .inl (cI, 30, .inl (fun _ => 0))), (q23, .inl (cI, 30, .inl (fun _ => 0))), (q31, .inl (cI, 30, .inl (fun _ => 0))), (q39, .inl (cI, 30, .inl (fun _ => 0))), (q47, .inl (cI, 30, .inl (fun _ => 0))), (q55, .inl (cI, 30, .inl (fun _ => 0))), (q63, .inl (cI, 30, .inl (fun _ => 0)))] := hD
  refine lv_aload_n hx hb dX1_init_68 rfl (lv_at hl 0 rfl) ?_
  refine lv_iconst hx hb (v := 0) dX1_init_69 (by decide) ?_
  obtain ⟨n1, n2, n3, n4⟩ := nC_of (c := 1) rfl
  obtain ⟨C0, T0, N0, fl1, fl2, fl3⟩ := fl_1_36
  cases fl1
  refine va_put (ci := 1) (v := .int 0) (ty := tyC 1 8) hx hb hts n2 (tyC 1) n3 n4 hown hK hP hD hS 0 rfl rfl 8 fl2 (hts _ fl3) (fun _ z => z) rfl (n3 8 fl2) (by decide) (by decide) (Nat.le_of_ble_eq_true rfl) dX1_init_70 (fun H locs hP hD hS => ?_)
  have hP : va_P D vwCl [(h0, .inr (1, [.ref q7, .ref q15, .ref q23, .ref q31, .ref q39, .ref q47, .ref q55, .ref q63, .int 0, .int 0])), (q7, .inl (cI, 30, .inl (fun _ => 0))), (q15, .inl (cI, 30, .inl (fun _ => 0))), (q23, .inl (cI, 30, .inl (fun _ => 0))), (q31, .inl (cI, 30, .inl (fun _ => 0))), (q39, .inl (cI, 30, .inl (fun _ => 0))), (q47, .inl (cI, 30, .inl (fun _ => 0))), (q55, .inl (cI, 30, .inl (fun _ => 0))), (q63, .inl (cI, 30, .inl (fun _ => 0)))] H := hP
  have hD : va_D A [(h0, .inr (1, [.ref q7, .ref q15, .ref q23, .ref q31, .ref q39, .ref q47, .ref q55, .ref q63, .int 0, .int 0])), (q7, .inl (cI, 30, .inl (fun _ => 0))), (q15, .inl (cI, 30, .inl (fun _ => 0))), (q23, .inl (cI, 30, .inl (fun _ => 0))), (q31, .inl (cI, 30, .inl (fun _ => 0))), (q39, .inl (cI, 30, .inl (fun _ => 0))), (q47, .inl (cI, 30, .inl (fun _ => 0))), (q55, .inl (cI, 30, .inl (fun _ => 0))), (q63, .inl (cI, 30, .inl (fun _ => 0)))] := hD
  refine lv_aload_n hx hb dX1_init_73 rfl (lv_at hl 0 rfl) ?_
  refine lv_iconst hx hb (v := 0) dX1_init_74 (by decide) ?_
  obtain ⟨n1, n2, n3, n4⟩ := nC_of (c := 1) rfl
  obtain ⟨C0, T0, N0, fl1, fl2, fl3⟩ := fl_1_40
  cases fl1
  refine va_put (ci := 1) (v := .int 0) (ty := tyC 1 9) hx hb hts n2 (tyC 1) n3 n4 hown hK hP hD hS 0 rfl rfl 9 fl2 (hts _ fl3) (fun _ z => z) rfl (n3 9 fl2) (by decide) (by decide) (Nat.le_of_ble_eq_true rfl) dX1_init_75 (fun H locs hP hD hS => ?_)
  have hP : va_P D vwCl [(h0, .inr (1, [.ref q7, .ref q15, .ref q23, .ref q31, .ref q39, .ref q47, .ref q55, .ref q63, .int 0, .int 0])), (q7, .inl (cI, 30, .inl (fun _ => 0))), (q15, .inl (cI, 30, .inl (fun _ => 0))), (q23, .inl (cI, 30, .inl (fun _ => 0))), (q31, .inl (cI, 30, .inl (fun _ => 0))), (q39, .inl (cI, 30, .inl (fun _ => 0))), (q47, .inl (cI, 30, .inl (fun _ => 0))), (q55, .inl (cI, 30, .inl (fun _ => 0))), (q63, .inl (cI, 30, .inl (fun _ => 0)))] H := hP
  have hD : va_D A [(h0, .inr (1, [.ref q7, .ref q15, .ref q23, .ref q31, .ref q39, .ref q47, .ref q55, .ref q63, .int 0, .int 0])), (q7, .inl (cI, 30, .inl (fun _ => 0))), (q15, .inl (cI, 30, .inl (fun _ => 0))), (q23, .inl (cI, 30, .inl (fun _ => 0))), (q31, .inl (cI, 30, .inl (fun _ => 0))), (q39, .inl (cI, 30, .inl (fun _ => 0))), (q47, .inl (cI, 30, .inl (fun _ => 0))), (q55, .inl (cI, 30, .inl (fun _ => 0))), (q63, .inl (cI, 30, .inl (fun _ => 0)))] := hD
  have hP9 := hP
  have hD9 := hD
  refine W.widen (k := 8) (n := 240) (by decide) (by decide) ?_
  exact W.vret hx hb hr (fun t ht hW => ⟨⟨(fun j => ([q7, q15, q23, q31, q39, q47, q55, q63] : List Nat).getD j 0), rfl, trivial, by rw [ht]; exact hP9, hD9⟩, hS.F ht⟩) hS.2.2 dX1_init_78
def ws6 (cI cJ cZ : ClassId) (h0 : Nat) (u : Nat → Nat) : va_W := [(h0, .inr (6, [.ref (u 0), .ref (u 1), .ref (u 2), .ref (u 3), .ref (u 4), .int 0])), ((u 0), .inl (cI, 8, .inl (fun _ => 0))), ((u 1), .inl (cI, 8, .inl (fun _ => 0))), ((u 2), .inl (cI, 48, .inl (fun _ => 0))), ((u 3), .inl (cI, 48, .inl (fun _ => 0))), ((u 4), .inl (cI, 48, .inl (fun _ => 0)))]
set_option maxHeartbeats 4000000 in
set_option maxRecDepth 100000 in
theorem c_init6 (l : Launch) (D : va_G) (cI cJ cZ : ClassId) (h0 : Nat) (sz : Nat) : Met l yX6_init (Cond.code yX6_init cX6_init 1 none :: wall) ({ frames := 1, cells := 5, slots := 160, locals := 12 }) (va_Pc [.ref h0] (fun U => U.heap.size = sz ∧ va_P D vwCl [(h0, .inr (6, [.null, .null, .null, .null, .null, .int 0]))] U.heap ∧ va_K D vwCl (tyz cI cJ cZ) U ∧ va_D (fun _ => True) [(h0, .inr (6, [.null, .null, .null, .null, .null, .int 0]))])) (va_Qv (fun _ : Nat → Nat => True) (fun u t => va_P D vwCl (ws6 cI cJ cZ h0 u) t.heap ∧ va_D (va_A [(h0, .inr (6, [.null, .null, .null, .null, .null, .int 0]))] sz) (ws6 cI cJ cZ h0 u)) (va_A [(h0, .inr (6, [.null, .null, .null, .null, .null, .int 0]))] sz)) 5 160 (va_A [(h0, .inr (6, [.null, .null, .null, .null, .null, .int 0]))] sz) := by
  refine Met.ofW (cc := cX6_init) (maxL := 1) (ret := none) (by decide) rfl ?_
  intro p e s m args below meth c s₁ B hml hv
  obtain ⟨rfl, hsz, hP, hK, hD0⟩ := hv
  have hx := B.exec
  have hb := B.bytes
  have hr := B.returns
  have hts0 := atoms_spec (ws := Cond.code yX6_init cX6_init 1 none :: wall) B.pre
  have hts : ∀ w ∈ wall, w.before _ s = true := fun w hw => hts0 w (List.mem_cons_of_mem _ hw)
  have hown : s.vm.findClass (cnm 6) = some m.cls := findClass_of_methodNamed B.named
  have hin : meth.name = "<init>" := (name_of_methodNamed B.named B.method).1
  subst hsz
  have hD := hD0.self (sz := s.heap.size)
  generalize hAe : va_A [(h0, .inr (6, [.null, .null, .null, .null, .null, .int 0]))] s.heap.size = A at hD ⊢
  have hA : ∀ q : Nat, s.heap.size ≤ q → A q := fun q h => by rw [← hAe]; exact Or.inr h
  have hS : va_S A s.heap s.heap [] := va_S.rf
  have hl := lv_entry ([.ref h0]) (n := 1) (Nat.le_of_ble_eq_true rfl)
  rw [lg_entry_eq]
  generalize (lg_sl ([.ref h0]) ++ List.replicate (1 - (lg_sl ([.ref h0])).length) Slot.unset).toArray = ls at hl ⊢
  have hl : lv_has ls 1 [(0, .ref h0)] := hl
  refine lv_aload_n hx hb dX6_init_0 rfl (lv_at hl 0 rfl) ?_
  refine W.objInit hx hb hown (hts _ w_ob_6) (hts _ w_ob2) (hts _ w_ob3) rfl (by rw [hml]; exact hl.1) rfl dX6_init_1 (Nat.le_of_ble_eq_true rfl) (Nat.le_of_ble_eq_true rfl) ?_
  refine W.eq (g2 := F0 m 4 ls []) rfl ?_
  refine lv_aload_n hx hb dX6_init_4 rfl (lv_at hl 0 rfl) ?_
  refine lv_bipush hx hb (v := 8) dX6_init_5 (by decide) ?_
  refine va_newa (atype := .int) (a0 := (8, .inl (fun _ => 0))) hx hb (hts _ w_ar_int) (ty := .int) rfl hK hP hD hS hA (fun _ => rfl) (by decide) (by decide) (by decide) (by decide) (by decide) dX6_init_7 (fun q7 cA H hK3 hP hD hS => ?_)
  have ec : cI = cA := (ra_I (hK3.2 3 _ rfl).2 (hK.2 0 _ rfl).2).symm
  subst ec
  have hP : va_P D vwCl [(h0, .inr (6, [.null, .null, .null, .null, .null, .int 0])), (q7, .inl (cI, 8, .inl (fun _ => 0)))] H := hP
  have hD : va_D A [(h0, .inr (6, [.null, .null, .null, .null, .null, .int 0])), (q7, .inl (cI, 8, .inl (fun _ => 0)))] := hD
  obtain ⟨n1, n2, n3, n4⟩ := nC_of (c := 6) rfl
  obtain ⟨C0, T0, N0, fl1, fl2, fl3⟩ := fl_6_9
  cases fl1
  refine va_putF (ci := 6) (v := .ref q7) (ty := tyC 6 0) hx hb hts n2 (tyC 6) n3 n4 hown hK hP hD hS 0 rfl rfl 0 fl2 (hts _ fl3) (fun _ z => z) rfl hin rfl (n3 0 fl2) (rfl) (rfl) (Nat.le_of_ble_eq_true rfl) dX6_init_9 (fun H locs hP hD hS => ?_)
  have hP : va_P D vwCl [(h0, .inr (6, [.ref q7, .null, .null, .null, .null, .int 0])), (q7, .inl (cI, 8, .inl (fun _ => 0)))] H := hP
  have hD : va_D A [(h0, .inr (6, [.ref q7, .null, .null, .null, .null, .int 0])), (q7, .inl (cI, 8, .inl (fun _ => 0)))] := hD
  refine lv_aload_n hx hb dX6_init_12 rfl (lv_at hl 0 rfl) ?_
  refine lv_bipush hx hb (v := 8) dX6_init_13 (by decide) ?_
  refine va_newa (atype := .int) (a0 := (8, .inl (fun _ => 0))) hx hb (hts _ w_ar_int) (ty := .int) rfl hK hP hD hS hA (fun _ => rfl) (by decide) (by decide) (by decide) (by decide) (by decide) dX6_init_15 (fun q15 cA H hK3 hP hD hS => ?_)
  have ec : cI = cA := (ra_I (hK3.2 3 _ rfl).2 (hK.2 0 _ rfl).2).symm
  subst ec
  have hP : va_P D vwCl [(h0, .inr (6, [.ref q7, .null, .null, .null, .null, .int 0])), (q7, .inl (cI, 8, .inl (fun _ => 0))), (q15, .inl (cI, 8, .inl (fun _ => 0)))] H := hP
  have hD : va_D A [(h0, .inr (6, [.ref q7, .null, .null, .null, .null, .int 0])), (q7, .inl (cI, 8, .inl (fun _ => 0))), (q15, .inl (cI, 8, .inl (fun _ => 0)))] := hD
  obtain ⟨n1, n2, n3, n4⟩ := nC_of (c := 6) rfl
  obtain ⟨C0, T0, N0, fl1, fl2, fl3⟩ := fl_6_15
  cases fl1
  refine va_putF (ci := 6) (v := .ref q15) (ty := tyC 6 1) hx hb hts n2 (tyC 6) n3 n4 hown hK hP hD hS 0 rfl rfl 1 fl2 (hts _ fl3) (fun _ z => z) rfl hin rfl (n3 1 fl2) (rfl) (rfl) (Nat.le_of_ble_eq_true rfl) dX6_init_17 (fun H locs hP hD hS => ?_)
  have hP : va_P D vwCl [(h0, .inr (6, [.ref q7, .ref q15, .null, .null, .null, .int 0])), (q7, .inl (cI, 8, .inl (fun _ => 0))), (q15, .inl (cI, 8, .inl (fun _ => 0)))] H := hP
  have hD : va_D A [(h0, .inr (6, [.ref q7, .ref q15, .null, .null, .null, .int 0])), (q7, .inl (cI, 8, .inl (fun _ => 0))), (q15, .inl (cI, 8, .inl (fun _ => 0)))] := hD
  refine lv_aload_n hx hb dX6_init_20 rfl (lv_at hl 0 rfl) ?_
  refine lv_bipush hx hb (v := 48) dX6_init_21 (by decide) ?_
  refine va_newa (atype := .int) (a0 := (48, .inl (fun _ => 0))) hx hb (hts _ w_ar_int) (ty := .int) rfl hK hP hD hS hA (fun _ => rfl) (by decide) (by decide) (by decide) (by decide) (by decide) dX6_init_23 (fun q23 cA H hK3 hP hD hS => ?_)
  have ec : cI = cA := (ra_I (hK3.2 3 _ rfl).2 (hK.2 0 _ rfl).2).symm
  subst ec
  have hP : va_P D vwCl [(h0, .inr (6, [.ref q7, .ref q15, .null, .null, .null, .int 0])), (q7, .inl (cI, 8, .inl (fun _ => 0))), (q15, .inl (cI, 8, .inl (fun _ => 0))), (q23, .inl (cI, 48, .inl (fun _ => 0)))] H := hP
  have hD : va_D A [(h0, .inr (6, [.ref q7, .ref q15, .null, .null, .null, .int 0])), (q7, .inl (cI, 8, .inl (fun _ => 0))), (q15, .inl (cI, 8, .inl (fun _ => 0))), (q23, .inl (cI, 48, .inl (fun _ => 0)))] := hD
  obtain ⟨n1, n2, n3, n4⟩ := nC_of (c := 6) rfl
  obtain ⟨C0, T0, N0, fl1, fl2, fl3⟩ := fl_6_18
  cases fl1
  refine va_putF (ci := 6) (v := .ref q23) (ty := tyC 6 2) hx hb hts n2 (tyC 6) n3 n4 hown hK hP hD hS 0 rfl rfl 2 fl2 (hts _ fl3) (fun _ z => z) rfl hin rfl (n3 2 fl2) (rfl) (rfl) (Nat.le_of_ble_eq_true rfl) dX6_init_25 (fun H locs hP hD hS => ?_)
  have hP : va_P D vwCl [(h0, .inr (6, [.ref q7, .ref q15, .ref q23, .null, .null, .int 0])), (q7, .inl (cI, 8, .inl (fun _ => 0))), (q15, .inl (cI, 8, .inl (fun _ => 0))), (q23, .inl (cI, 48, .inl (fun _ => 0)))] H := hP
  have hD : va_D A [(h0, .inr (6, [.ref q7, .ref q15, .ref q23, .null, .null, .int 0])), (q7, .inl (cI, 8, .inl (fun _ => 0))), (q15, .inl (cI, 8, .inl (fun _ => 0))), (q23, .inl (cI, 48, .inl (fun _ => 0)))] := hD
  refine lv_aload_n hx hb dX6_init_28 rfl (lv_at hl 0 rfl) ?_
  refine lv_bipush hx hb (v := 48) dX6_init_29 (by decide) ?_
  refine va_newa (atype := .int) (a0 := (48, .inl (fun _ => 0))) hx hb (hts _ w_ar_int) (ty := .int) rfl hK hP hD hS hA (fun _ => rfl) (by decide) (by decide) (by decide) (by decide) (by decide) dX6_init_31 (fun q31 cA H hK3 hP hD hS => ?_)
  have ec : cI = cA := (ra_I (hK3.2 3 _ rfl).2 (hK.2 0 _ rfl).2).symm
  subst ec
  have hP : va_P D vwCl [(h0, .inr (6, [.ref q7, .ref q15, .ref q23, .null, .null, .int 0])), (q7, .inl (cI, 8, .inl (fun _ => 0))), (q15, .inl (cI, 8, .inl (fun _ => 0))), (q23, .inl (cI, 48, .inl (fun _ => 0))), (q31, .inl (cI, 48, .inl (fun _ => 0)))] H := hP
  have hD : va_D A [(h0, .inr (6, [.ref q7, .ref q15, .ref q23, .null, .null, .int 0])), (q7, .inl (cI, 8, .inl (fun _ => 0))), (q15, .inl (cI, 8, .inl (fun _ => 0))), (q23, .inl (cI, 48, .inl (fun _ => 0))), (q31, .inl (cI, 48, .inl (fun _ => 0)))] := hD
  obtain ⟨n1, n2, n3, n4⟩ := nC_of (c := 6) rfl
  obtain ⟨C0, T0, N0, fl1, fl2, fl3⟩ := fl_6_21
  cases fl1
  refine va_putF (ci := 6) (v := .ref q31) (ty := tyC 6 3) hx hb hts n2 (tyC 6) n3 n4 hown hK hP hD hS 0 rfl rfl 3 fl2 (hts _ fl3) (fun _ z => z) rfl hin rfl (n3 3 fl2) (rfl) (rfl) (Nat.le_of_ble_eq_true rfl) dX6_init_33 (fun H locs hP hD hS => ?_)
  have hP : va_P D vwCl [(h0, .inr (6, [.ref q7, .ref q15, .ref q23, .ref q31, .null, .int 0])), (q7, .inl (cI, 8, .inl (fun _ => 0))), (q15, .inl (cI, 8, .inl (fun _ => 0))), (q23, .inl (cI, 48, .inl (fun _ => 0))), (q31, .inl (cI, 48, .inl (fun _ => 0)))] H := hP
  have hD : va_D A [(h0, .inr (6, [.ref q7, .ref q15, .ref q23, .ref q31, .null, .int 0])), (q7, .inl (cI, 8, .inl (fun _ => 0))), (q15, .inl (cI, 8, .inl (fun _ => 0))), (q23, .inl (cI, 48, .inl (fun _ => 0))), (q31, .inl (cI, 48, .inl (fun _ => 0)))] := hD
  refine lv_aload_n hx hb dX6_init_36 rfl (lv_at hl 0 rfl) ?_
  refine lv_bipush hx hb (v := 48) dX6_init_37 (by decide) ?_
  refine va_newa (atype := .int) (a0 := (48, .inl (fun _ => 0))) hx hb (hts _ w_ar_int) (ty := .int) rfl hK hP hD hS hA (fun _ => rfl) (by decide) (by decide) (by decide) (by decide) (by decide) dX6_init_39 (fun q39 cA H hK3 hP hD hS => ?_)
  have ec : cI = cA := (ra_I (hK3.2 3 _ rfl).2 (hK.2 0 _ rfl).2).symm
  subst ec
  have hP : va_P D vwCl [(h0, .inr (6, [.ref q7, .ref q15, .ref q23, .ref q31, .null, .int 0])), (q7, .inl (cI, 8, .inl (fun _ => 0))), (q15, .inl (cI, 8, .inl (fun _ => 0))), (q23, .inl (cI, 48, .inl (fun _ => 0))), (q31, .inl (cI, 48, .inl (fun _ => 0))), (q39, .inl (cI, 48, .inl (fun _ => 0)))] H := hP
  have hD : va_D A [(h0, .inr (6, [.ref q7, .ref q15, .ref q23, .ref q31, .null, .int 0])), (q7, .inl (cI, 8, .inl (fun _ => 0))), (q15, .inl (cI, 8, .inl (fun _ => 0))), (q23, .inl (cI, 48, .inl (fun _ => 0))), (q31, .inl (cI, 48, .inl (fun _ => 0))), (q39, .inl (cI, 48, .inl (fun _ => 0)))] := hD
  obtain ⟨n1, n2, n3, n4⟩ := nC_of (c := 6) rfl
  obtain ⟨C0, T0, N0, fl1, fl2, fl3⟩ := fl_6_24
  cases fl1
  refine va_putF (ci := 6) (v := .ref q39) (ty := tyC 6 4) hx hb hts n2 (tyC 6) n3 n4 hown hK hP hD hS 0 rfl rfl 4 fl2 (hts _ fl3) (fun _ z => z) rfl hin rfl (n3 4 fl2) (rfl) (rfl) (Nat.le_of_ble_eq_true rfl) dX6_init_41 (fun H locs hP hD hS => ?_)
  have hP : va_P D vwCl [(h0, .inr (6, [.ref q7, .ref q15, .ref q23, .ref q31, .ref q39, .int 0])), (q7, .inl (cI, 8, .inl (fun _ => 0))), (q15, .inl (cI, 8, .inl (fun _ => 0))), (q23, .inl (cI, 48, .inl (fun _ => 0))), (q31, .inl (cI, 48, .inl (fun _ => 0))), (q39, .inl (cI, 48, .inl (fun _ => 0)))] H := hP
  have hD : va_D A [(h0, .inr (6, [.ref q7, .ref q15, .ref q23, .ref q31, .ref q39, .int 0])), (q7, .inl (cI, 8, .inl (fun _ => 0))), (q15, .inl (cI, 8, .inl (fun _ => 0))), (q23, .inl (cI, 48, .inl (fun _ => 0))), (q31, .inl (cI, 48, .inl (fun _ => 0))), (q39, .inl (cI, 48, .inl (fun _ => 0)))] := hD
  refine lv_aload_n hx hb dX6_init_44 rfl (lv_at hl 0 rfl) ?_
  refine lv_iconst hx hb (v := 0) dX6_init_45 (by decide) ?_
  obtain ⟨n1, n2, n3, n4⟩ := nC_of (c := 6) rfl
  obtain ⟨C0, T0, N0, fl1, fl2, fl3⟩ := fl_6_27
  cases fl1
  refine va_put (ci := 6) (v := .int 0) (ty := tyC 6 5) hx hb hts n2 (tyC 6) n3 n4 hown hK hP hD hS 0 rfl rfl 5 fl2 (hts _ fl3) (fun _ z => z) rfl (n3 5 fl2) (by decide) (by decide) (Nat.le_of_ble_eq_true rfl) dX6_init_46 (fun H locs hP hD hS => ?_)
  have hP : va_P D vwCl [(h0, .inr (6, [.ref q7, .ref q15, .ref q23, .ref q31, .ref q39, .int 0])), (q7, .inl (cI, 8, .inl (fun _ => 0))), (q15, .inl (cI, 8, .inl (fun _ => 0))), (q23, .inl (cI, 48, .inl (fun _ => 0))), (q31, .inl (cI, 48, .inl (fun _ => 0))), (q39, .inl (cI, 48, .inl (fun _ => 0)))] H := hP
  have hD : va_D A [(h0, .inr (6, [.ref q7, .ref q15, .ref q23, .ref q31, .ref q39, .int 0])), (q7, .inl (cI, 8, .inl (fun _ => 0))), (q15, .inl (cI, 8, .inl (fun _ => 0))), (q23, .inl (cI, 48, .inl (fun _ => 0))), (q31, .inl (cI, 48, .inl (fun _ => 0))), (q39, .inl (cI, 48, .inl (fun _ => 0)))] := hD
  have hP9 := hP
  have hD9 := hD
  refine W.widen (k := 5) (n := 160) (by decide) (by decide) ?_
  exact W.vret hx hb hr (fun t ht hW => ⟨⟨(fun j => ([q7, q15, q23, q31, q39] : List Nat).getD j 0), rfl, trivial, by rw [ht]; exact hP9, hD9⟩, hS.F ht⟩) hS.2.2 dX6_init_49
def ws2 (cI cJ cZ : ClassId) (h0 : Nat) (u : Nat → Nat) : va_W := [(h0, .inr (2, [.ref (u 0), .ref (u 1), .ref (u 2), .int 0])), ((u 0), .inl (cI, 20, .inl (fun _ => 0))), ((u 1), .inl (cI, 20, .inl (fun _ => 0))), ((u 2), .inl (cI, 20, .inl (fun _ => 0)))]
set_option maxHeartbeats 4000000 in
set_option maxRecDepth 100000 in
theorem c_init2 (l : Launch) (D : va_G) (cI cJ cZ : ClassId) (h0 : Nat) (sz : Nat) : Met l yX2_init (Cond.code yX2_init cX2_init 1 none :: wall) ({ frames := 1, cells := 3, slots := 60, locals := 12 }) (va_Pc [.ref h0] (fun U => U.heap.size = sz ∧ va_P D vwCl [(h0, .inr (2, [.null, .null, .null, .int 0]))] U.heap ∧ va_K D vwCl (tyz cI cJ cZ) U ∧ va_D (fun _ => True) [(h0, .inr (2, [.null, .null, .null, .int 0]))])) (va_Qv (fun _ : Nat → Nat => True) (fun u t => va_P D vwCl (ws2 cI cJ cZ h0 u) t.heap ∧ va_D (va_A [(h0, .inr (2, [.null, .null, .null, .int 0]))] sz) (ws2 cI cJ cZ h0 u)) (va_A [(h0, .inr (2, [.null, .null, .null, .int 0]))] sz)) 3 60 (va_A [(h0, .inr (2, [.null, .null, .null, .int 0]))] sz) := by
  refine Met.ofW (cc := cX2_init) (maxL := 1) (ret := none) (by decide) rfl ?_
  intro p e s m args below meth c s₁ B hml hv
  obtain ⟨rfl, hsz, hP, hK, hD0⟩ := hv
  have hx := B.exec
  have hb := B.bytes
  have hr := B.returns
  have hts0 := atoms_spec (ws := Cond.code yX2_init cX2_init 1 none :: wall) B.pre
  have hts : ∀ w ∈ wall, w.before _ s = true := fun w hw => hts0 w (List.mem_cons_of_mem _ hw)
  have hown : s.vm.findClass (cnm 2) = some m.cls := findClass_of_methodNamed B.named
  have hin : meth.name = "<init>" := (name_of_methodNamed B.named B.method).1
  subst hsz
  have hD := hD0.self (sz := s.heap.size)
  generalize hAe : va_A [(h0, .inr (2, [.null, .null, .null, .int 0]))] s.heap.size = A at hD ⊢
  have hA : ∀ q : Nat, s.heap.size ≤ q → A q := fun q h => by rw [← hAe]; exact Or.inr h
  have hS : va_S A s.heap s.heap [] := va_S.rf
  have hl := lv_entry ([.ref h0]) (n := 1) (Nat.le_of_ble_eq_true rfl)
  rw [lg_entry_eq]
  generalize (lg_sl ([.ref h0]) ++ List.replicate (1 - (lg_sl ([.ref h0])).length) Slot.unset).toArray = ls at hl ⊢
  have hl : lv_has ls 1 [(0, .ref h0)] := hl
  refine lv_aload_n hx hb dX2_init_0 rfl (lv_at hl 0 rfl) ?_
  refine W.objInit hx hb hown (hts _ w_ob_2) (hts _ w_ob2) (hts _ w_ob3) rfl (by rw [hml]; exact hl.1) rfl dX2_init_1 (Nat.le_of_ble_eq_true rfl) (Nat.le_of_ble_eq_true rfl) ?_
  refine W.eq (g2 := F0 m 4 ls []) rfl ?_
  refine lv_aload_n hx hb dX2_init_4 rfl (lv_at hl 0 rfl) ?_
  refine lv_bipush hx hb (v := 20) dX2_init_5 (by decide) ?_
  refine va_newa (atype := .int) (a0 := (20, .inl (fun _ => 0))) hx hb (hts _ w_ar_int) (ty := .int) rfl hK hP hD hS hA (fun _ => rfl) (by decide) (by decide) (by decide) (by decide) (by decide) dX2_init_7 (fun q7 cA H hK3 hP hD hS => ?_)
  have ec : cI = cA := (ra_I (hK3.2 3 _ rfl).2 (hK.2 0 _ rfl).2).symm
  subst ec
  have hP : va_P D vwCl [(h0, .inr (2, [.null, .null, .null, .int 0])), (q7, .inl (cI, 20, .inl (fun _ => 0)))] H := hP
  have hD : va_D A [(h0, .inr (2, [.null, .null, .null, .int 0])), (q7, .inl (cI, 20, .inl (fun _ => 0)))] := hD
  obtain ⟨n1, n2, n3, n4⟩ := nC_of (c := 2) rfl
  obtain ⟨C0, T0, N0, fl1, fl2, fl3⟩ := fl_2_9
  cases fl1
  refine va_putF (ci := 2) (v := .ref q7) (ty := tyC 2 0) hx hb hts n2 (tyC 2) n3 n4 hown hK hP hD hS 0 rfl rfl 0 fl2 (hts _ fl3) (fun _ z => z) rfl hin rfl (n3 0 fl2) (rfl) (rfl) (Nat.le_of_ble_eq_true rfl) dX2_init_9 (fun H locs hP hD hS => ?_)
  have hP : va_P D vwCl [(h0, .inr (2, [.ref q7, .null, .null, .int 0])), (q7, .inl (cI, 20, .inl (fun _ => 0)))] H := hP
  have hD : va_D A [(h0, .inr (2, [.ref q7, .null, .null, .int 0])), (q7, .inl (cI, 20, .inl (fun _ => 0)))] := hD
  refine lv_aload_n hx hb dX2_init_12 rfl (lv_at hl 0 rfl) ?_
  refine lv_bipush hx hb (v := 20) dX2_init_13 (by decide) ?_
  refine va_newa (atype := .int) (a0 := (20, .inl (fun _ => 0))) hx hb (hts _ w_ar_int) (ty := .int) rfl hK hP hD hS hA (fun _ => rfl) (by decide) (by decide) (by decide) (by decide) (by decide) dX2_init_15 (fun q15 cA H hK3 hP hD hS => ?_)
  have ec : cI = cA := (ra_I (hK3.2 3 _ rfl).2 (hK.2 0 _ rfl).2).symm
  subst ec
  have hP : va_P D vwCl [(h0, .inr (2, [.ref q7, .null, .null, .int 0])), (q7, .inl (cI, 20, .inl (fun _ => 0))), (q15, .inl (cI, 20, .inl (fun _ => 0)))] H := hP
  have hD : va_D A [(h0, .inr (2, [.ref q7, .null, .null, .int 0])), (q7, .inl (cI, 20, .inl (fun _ => 0))), (q15, .inl (cI, 20, .inl (fun _ => 0)))] := hD
  obtain ⟨n1, n2, n3, n4⟩ := nC_of (c := 2) rfl
  obtain ⟨C0, T0, N0, fl1, fl2, fl3⟩ := fl_2_15
  cases fl1
  refine va_putF (ci := 2) (v := .ref q15) (ty := tyC 2 1) hx hb hts n2 (tyC 2) n3 n4 hown hK hP hD hS 0 rfl rfl 1 fl2 (hts _ fl3) (fun _ z => z) rfl hin rfl (n3 1 fl2) (rfl) (rfl) (Nat.le_of_ble_eq_true rfl) dX2_init_17 (fun H locs hP hD hS => ?_)
  have hP : va_P D vwCl [(h0, .inr (2, [.ref q7, .ref q15, .null, .int 0])), (q7, .inl (cI, 20, .inl (fun _ => 0))), (q15, .inl (cI, 20, .inl (fun _ => 0)))] H := hP
  have hD : va_D A [(h0, .inr (2, [.ref q7, .ref q15, .null, .int 0])), (q7, .inl (cI, 20, .inl (fun _ => 0))), (q15, .inl (cI, 20, .inl (fun _ => 0)))] := hD
  refine lv_aload_n hx hb dX2_init_20 rfl (lv_at hl 0 rfl) ?_
  refine lv_bipush hx hb (v := 20) dX2_init_21 (by decide) ?_
  refine va_newa (atype := .int) (a0 := (20, .inl (fun _ => 0))) hx hb (hts _ w_ar_int) (ty := .int) rfl hK hP hD hS hA (fun _ => rfl) (by decide) (by decide) (by decide) (by decide) (by decide) dX2_init_23 (fun q23 cA H hK3 hP hD hS => ?_)
  have ec : cI = cA := (ra_I (hK3.2 3 _ rfl).2 (hK.2 0 _ rfl).2).symm
  subst ec
  have hP : va_P D vwCl [(h0, .inr (2, [.ref q7, .ref q15, .null, .int 0])), (q7, .inl (cI, 20, .inl (fun _ => 0))), (q15, .inl (cI, 20, .inl (fun _ => 0))), (q23, .inl (cI, 20, .inl (fun _ => 0)))] H := hP
  have hD : va_D A [(h0, .inr (2, [.ref q7, .ref q15, .null, .int 0])), (q7, .inl (cI, 20, .inl (fun _ => 0))), (q15, .inl (cI, 20, .inl (fun _ => 0))), (q23, .inl (cI, 20, .inl (fun _ => 0)))] := hD
  obtain ⟨n1, n2, n3, n4⟩ := nC_of (c := 2) rfl
  obtain ⟨C0, T0, N0, fl1, fl2, fl3⟩ := fl_2_18
  cases fl1
  refine va_putF (ci := 2) (v := .ref q23) (ty := tyC 2 2) hx hb hts n2 (tyC 2) n3 n4 hown hK hP hD hS 0 rfl rfl 2 fl2 (hts _ fl3) (fun _ z => z) rfl hin rfl (n3 2 fl2) (rfl) (rfl) (Nat.le_of_ble_eq_true rfl) dX2_init_25 (fun H locs hP hD hS => ?_)
  have hP : va_P D vwCl [(h0, .inr (2, [.ref q7, .ref q15, .ref q23, .int 0])), (q7, .inl (cI, 20, .inl (fun _ => 0))), (q15, .inl (cI, 20, .inl (fun _ => 0))), (q23, .inl (cI, 20, .inl (fun _ => 0)))] H := hP
  have hD : va_D A [(h0, .inr (2, [.ref q7, .ref q15, .ref q23, .int 0])), (q7, .inl (cI, 20, .inl (fun _ => 0))), (q15, .inl (cI, 20, .inl (fun _ => 0))), (q23, .inl (cI, 20, .inl (fun _ => 0)))] := hD
  refine lv_aload_n hx hb dX2_init_28 rfl (lv_at hl 0 rfl) ?_
  refine lv_iconst hx hb (v := 0) dX2_init_29 (by decide) ?_
  obtain ⟨n1, n2, n3, n4⟩ := nC_of (c := 2) rfl
  obtain ⟨C0, T0, N0, fl1, fl2, fl3⟩ := fl_2_21
  cases fl1
  refine va_put (ci := 2) (v := .int 0) (ty := tyC 2 3) hx hb hts n2 (tyC 2) n3 n4 hown hK hP hD hS 0 rfl rfl 3 fl2 (hts _ fl3) (fun _ z => z) rfl (n3 3 fl2) (by decide) (by decide) (Nat.le_of_ble_eq_true rfl) dX2_init_30 (fun H locs hP hD hS => ?_)
  have hP : va_P D vwCl [(h0, .inr (2, [.ref q7, .ref q15, .ref q23, .int 0])), (q7, .inl (cI, 20, .inl (fun _ => 0))), (q15, .inl (cI, 20, .inl (fun _ => 0))), (q23, .inl (cI, 20, .inl (fun _ => 0)))] H := hP
  have hD : va_D A [(h0, .inr (2, [.ref q7, .ref q15, .ref q23, .int 0])), (q7, .inl (cI, 20, .inl (fun _ => 0))), (q15, .inl (cI, 20, .inl (fun _ => 0))), (q23, .inl (cI, 20, .inl (fun _ => 0)))] := hD
  have hP9 := hP
  have hD9 := hD
  refine W.widen (k := 3) (n := 60) (by decide) (by decide) ?_
  exact W.vret hx hb hr (fun t ht hW => ⟨⟨(fun j => ([q7, q15, q23] : List Nat).getD j 0), rfl, trivial, by rw [ht]; exact hP9, hD9⟩, hS.F ht⟩) hS.2.2 dX2_init_33
def ws5 (cI cJ cZ : ClassId) (h0 : Nat) (u : Nat → Nat) : va_W := [(h0, .inr (5, [.ref (u 0), .int 0, .ref (u 1), .ref (u 2), .ref (u 3), .int 0, .int 0, .int 0, .int 0, .int 0])), ((u 0), .inl (cI, 120, .inl (fun _ => 0))), ((u 1), .inl (cI, 6, .inl (fun _ => 0))), ((u 2), .inl (cI, 6, .inl (fun _ => 0))), ((u 3), .inl (cI, 6, .inl (fun _ => 0)))]
set_option maxHeartbeats 4000000 in
set_option maxRecDepth 100000 in
theorem c_init5 (l : Launch) (D : va_G) (cI cJ cZ : ClassId) (h0 : Nat) (sz : Nat) : Met l yX5_init (Cond.code yX5_init cX5_init 1 none :: wall) ({ frames := 1, cells := 4, slots := 138, locals := 12 }) (va_Pc [.ref h0] (fun U => U.heap.size = sz ∧ va_P D vwCl [(h0, .inr (5, [.null, .int 0, .null, .null, .null, .int 0, .int 0, .int 0, .int 0, .int 0]))] U.heap ∧ va_K D vwCl (tyz cI cJ cZ) U ∧ va_D (fun _ => True) [(h0, .inr (5, [.null, .int 0, .null, .null, .null, .int 0, .int 0, .int 0, .int 0, .int 0]))])) (va_Qv (fun _ : Nat → Nat => True) (fun u t => va_P D vwCl (ws5 cI cJ cZ h0 u) t.heap ∧ va_D (va_A [(h0, .inr (5, [.null, .int 0, .null, .null, .null, .int 0, .int 0, .int 0, .int 0, .int 0]))] sz) (ws5 cI cJ cZ h0 u)) (va_A [(h0, .inr (5, [.null, .int 0, .null, .null, .null, .int 0, .int 0, .int 0, .int 0, .int 0]))] sz)) 4 138 (va_A [(h0, .inr (5, [.null, .int 0, .null, .null, .null, .int 0, .int 0, .int 0, .int 0, .int 0]))] sz) := by
  refine Met.ofW (cc := cX5_init) (maxL := 1) (ret := none) (by decide) rfl ?_
  intro p e s m args below meth c s₁ B hml hv
  obtain ⟨rfl, hsz, hP, hK, hD0⟩ := hv
  have hx := B.exec
  have hb := B.bytes
  have hr := B.returns
  have hts0 := atoms_spec (ws := Cond.code yX5_init cX5_init 1 none :: wall) B.pre
  have hts : ∀ w ∈ wall, w.before _ s = true := fun w hw => hts0 w (List.mem_cons_of_mem _ hw)
  have hown : s.vm.findClass (cnm 5) = some m.cls := findClass_of_methodNamed B.named
  have hin : meth.name = "<init>" := (name_of_methodNamed B.named B.method).1
  subst hsz
  have hD := hD0.self (sz := s.heap.size)
  generalize hAe : va_A [(h0, .inr (5, [.null, .int 0, .null, .null, .null, .int 0, .int 0, .int 0, .int 0, .int 0]))] s.heap.size = A at hD ⊢
  have hA : ∀ q : Nat, s.heap.size ≤ q → A q := fun q h => by rw [← hAe]; exact Or.inr h
  have hS : va_S A s.heap s.heap [] := va_S.rf
  have hl := lv_entry ([.ref h0]) (n := 1) (Nat.le_of_ble_eq_true rfl)
  rw [lg_entry_eq]
  generalize (lg_sl ([.ref h0]) ++ List.replicate (1 - (lg_sl ([.ref h0])).length) Slot.unset).toArray = ls at hl ⊢
  have hl : lv_has ls 1 [(0, .ref h0)] := hl
  refine lv_aload_n hx hb dX5_init_0 rfl (lv_at hl 0 rfl) ?_
  refine W.objInit hx hb hown (hts _ w_ob_5) (hts _ w_ob2) (hts _ w_ob3) rfl (by rw [hml]; exact hl.1) rfl dX5_init_1 (Nat.le_of_ble_eq_true rfl) (Nat.le_of_ble_eq_true rfl) ?_
  refine W.eq (g2 := F0 m 4 ls []) rfl ?_
  refine lv_aload_n hx hb dX5_init_4 rfl (lv_at hl 0 rfl) ?_
  refine lv_bipush hx hb (v := 120) dX5_init_5 (by decide) ?_
  refine va_newa (atype := .int) (a0 := (120, .inl (fun _ => 0))) hx hb (hts _ w_ar_int) (ty := .int) rfl hK hP hD hS hA (fun _ => rfl) (by decide) (by decide) (by decide) (by decide) (by decide) dX5_init_7 (fun q7 cA H hK3 hP hD hS => ?_)
  have ec : cI = cA := (ra_I (hK3.2 3 _ rfl).2 (hK.2 0 _ rfl).2).symm
  subst ec
  have hP : va_P D vwCl [(h0, .inr (5, [.null, .int 0, .null, .null, .null, .int 0, .int 0, .int 0, .int 0, .int 0])), (q7, .inl (cI, 120, .inl (fun _ => 0)))] H := hP
  have hD : va_D A [(h0, .inr (5, [.null, .int 0, .null, .null, .null, .int 0, .int 0, .int 0, .int 0, .int 0])), (q7, .inl (cI, 120, .inl (fun _ => 0)))] := hD
  obtain ⟨n1, n2, n3, n4⟩ := nC_of (c := 5) rfl
  obtain ⟨C0, T0, N0, fl1, fl2, fl3⟩ := fl_5_9
  cases fl1
  refine va_putF (ci := 5) (v := .ref q7) (ty := tyC 5 0) hx hb hts n2 (tyC 5) n3 n4 hown hK hP hD hS 0 rfl rfl 0 fl2 (hts _ fl3) (fun _ z => z) rfl hin rfl (n3 0 fl2) (rfl) (rfl) (Nat.le_of_ble_eq_true rfl) dX5_init_9 (fun H locs hP hD hS => ?_)
  have hP : va_P D vwCl [(h0, .inr (5, [.ref q7, .int 0, .null, .null, .null, .int 0, .int 0, .int 0, .int 0, .int 0])), (q7, .inl (cI, 120, .inl (fun _ => 0)))] H := hP
  have hD : va_D A [(h0, .inr (5, [.ref q7, .int 0, .null, .null, .null, .int 0, .int 0, .int 0, .int 0, .int 0])), (q7, .inl (cI, 120, .inl (fun _ => 0)))] := hD
  refine lv_aload_n hx hb dX5_init_12 rfl (lv_at hl 0 rfl) ?_
  refine lv_iconst hx hb (v := 0) dX5_init_13 (by decide) ?_
  obtain ⟨n1, n2, n3, n4⟩ := nC_of (c := 5) rfl
  obtain ⟨C0, T0, N0, fl1, fl2, fl3⟩ := fl_5_15
  cases fl1
  refine va_put (ci := 5) (v := .int 0) (ty := tyC 5 1) hx hb hts n2 (tyC 5) n3 n4 hown hK hP hD hS 0 rfl rfl 1 fl2 (hts _ fl3) (fun _ z => z) rfl (n3 1 fl2) (by decide) (by decide) (Nat.le_of_ble_eq_true rfl) dX5_init_14 (fun H locs hP hD hS => ?_)
  have hP : va_P D vwCl [(h0, .inr (5, [.ref q7, .int 0, .null, .null, .null, .int 0, .int 0, .int 0, .int 0, .int 0])), (q7, .inl (cI, 120, .inl (fun _ => 0)))] H := hP
  have hD : va_D A [(h0, .inr (5, [.ref q7, .int 0, .null, .null, .null, .int 0, .int 0, .int 0, .int 0, .int 0])), (q7, .inl (cI, 120, .inl (fun _ => 0)))] := hD
  refine lv_aload_n hx hb dX5_init_17 rfl (lv_at hl 0 rfl) ?_
  refine lv_bipush hx hb (v := 6) dX5_init_18 (by decide) ?_
  refine va_newa (atype := .int) (a0 := (6, .inl (fun _ => 0))) hx hb (hts _ w_ar_int) (ty := .int) rfl hK hP hD hS hA (fun _ => rfl) (by decide) (by decide) (by decide) (by decide) (by decide) dX5_init_20 (fun q20 cA H hK3 hP hD hS => ?_)
  have ec : cI = cA := (ra_I (hK3.2 3 _ rfl).2 (hK.2 0 _ rfl).2).symm
  subst ec
  have hP : va_P D vwCl [(h0, .inr (5, [.ref q7, .int 0, .null, .null, .null, .int 0, .int 0, .int 0, .int 0, .int 0])), (q7, .inl (cI, 120, .inl (fun _ => 0))), (q20, .inl (cI, 6, .inl (fun _ => 0)))] H := hP
  have hD : va_D A [(h0, .inr (5, [.ref q7, .int 0, .null, .null, .null, .int 0, .int 0, .int 0, .int 0, .int 0])), (q7, .inl (cI, 120, .inl (fun _ => 0))), (q20, .inl (cI, 6, .inl (fun _ => 0)))] := hD
  obtain ⟨n1, n2, n3, n4⟩ := nC_of (c := 5) rfl
  obtain ⟨C0, T0, N0, fl1, fl2, fl3⟩ := fl_5_19
  cases fl1
  refine va_putF (ci := 5) (v := .ref q20) (ty := tyC 5 2) hx hb hts n2 (tyC 5) n3 n4 hown hK hP hD hS 0 rfl rfl 2 fl2 (hts _ fl3) (fun _ z => z) rfl hin rfl (n3 2 fl2) (rfl) (rfl) (Nat.le_of_ble_eq_true rfl) dX5_init_22 (fun H locs hP hD hS => ?_)
  have hP : va_P D vwCl [(h0, .inr (5, [.ref q7, .int 0, .ref q20, .null, .null, .int 0, .int 0, .int 0, .int 0, .int 0])), (q7, .inl (cI, 120, .inl (fun _ => 0))), (q20, .inl (cI, 6, .inl (fun _ => 0)))] H := hP
  have hD : va_D A [(h0, .inr (5, [.ref q7, .int 0, .ref q20, .null, .null, .int 0, .int 0, .int 0, .int 0, .int 0])), (q7, .inl (cI, 120, .inl (fun _ => 0))), (q20, .inl (cI, 6, .inl (fun _ => 0)))] := hD
  refine lv_aload_n hx hb dX5_init_25 rfl (lv_at hl 0 rfl) ?_
  refine lv_bipush hx hb (v := 6) dX5_init_26 (by decide) ?_
  refine va_newa (atype := .int) (a0 := (6, .inl (fun _ => 0))) hx hb (hts _ w_ar_int) (ty := .int) rfl hK hP hD hS hA (fun _ => rfl) (by decide) (by decide) (by decide) (by decide) (by decide) dX5_init_28 (fun q28 cA H hK3 hP hD hS => ?_)
  have ec : cI = cA := (ra_I (hK3.2 3 _ rfl).2 (hK.2 0 _ rfl).2).symm
  subst ec
  have hP : va_P D vwCl [(h0, .inr (5, [.ref q7, .int 0, .ref q20, .null, .null, .int 0, .int 0, .int 0, .int 0, .int 0])), (q7, .inl (cI, 120, .inl (fun _ => 0))), (q20, .inl (cI, 6, .inl (fun _ => 0))), (q28, .inl (cI, 6, .inl (fun _ => 0)))] H := hP
  have hD : va_D A [(h0, .inr (5, [.ref q7, .int 0, .ref q20, .null, .null, .int 0, .int 0, .int 0, .int 0, .int 0])), (q7, .inl (cI, 120, .inl (fun _ => 0))), (q20, .inl (cI, 6, .inl (fun _ => 0))), (q28, .inl (cI, 6, .inl (fun _ => 0)))] := hD
  obtain ⟨n1, n2, n3, n4⟩ := nC_of (c := 5) rfl
  obtain ⟨C0, T0, N0, fl1, fl2, fl3⟩ := fl_5_22
  cases fl1
  refine va_putF (ci := 5) (v := .ref q28) (ty := tyC 5 3) hx hb hts n2 (tyC 5) n3 n4 hown hK hP hD hS 0 rfl rfl 3 fl2 (hts _ fl3) (fun _ z => z) rfl hin rfl (n3 3 fl2) (rfl) (rfl) (Nat.le_of_ble_eq_true rfl) dX5_init_30 (fun H locs hP hD hS => ?_)
  have hP : va_P D vwCl [(h0, .inr (5, [.ref q7, .int 0, .ref q20, .ref q28, .null, .int 0, .int 0, .int 0, .int 0, .int 0])), (q7, .inl (cI, 120, .inl (fun _ => 0))), (q20, .inl (cI, 6, .inl (fun _ => 0))), (q28, .inl (cI, 6, .inl (fun _ => 0)))] H := hP
  have hD : va_D A [(h0, .inr (5, [.ref q7, .int 0, .ref q20, .ref q28, .null, .int 0, .int 0, .int 0, .int 0, .int 0])), (q7, .inl (cI, 120, .inl (fun _ => 0))), (q20, .inl (cI, 6, .inl (fun _ => 0))), (q28, .inl (cI, 6, .inl (fun _ => 0)))] := hD
  refine lv_aload_n hx hb dX5_init_33 rfl (lv_at hl 0 rfl) ?_
  refine lv_bipush hx hb (v := 6) dX5_init_34 (by decide) ?_
  refine va_newa (atype := .int) (a0 := (6, .inl (fun _ => 0))) hx hb (hts _ w_ar_int) (ty := .int) rfl hK hP hD hS hA (fun _ => rfl) (by decide) (by decide) (by decide) (by decide) (by decide) dX5_init_36 (fun q36 cA H hK3 hP hD hS => ?_)
  have ec : cI = cA := (ra_I (hK3.2 3 _ rfl).2 (hK.2 0 _ rfl).2).symm
  subst ec
  have hP : va_P D vwCl [(h0, .inr (5, [.ref q7, .int 0, .ref q20, .ref q28, .null, .int 0, .int 0, .int 0, .int 0, .int 0])), (q7, .inl (cI, 120, .inl (fun _ => 0))), (q20, .inl (cI, 6, .inl (fun _ => 0))), (q28, .inl (cI, 6, .inl (fun _ => 0))), (q36, .inl (cI, 6, .inl (fun _ => 0)))] H := hP
  have hD : va_D A [(h0, .inr (5, [.ref q7, .int 0, .ref q20, .ref q28, .null, .int 0, .int 0, .int 0, .int 0, .int 0])), (q7, .inl (cI, 120, .inl (fun _ => 0))), (q20, .inl (cI, 6, .inl (fun _ => 0))), (q28, .inl (cI, 6, .inl (fun _ => 0))), (q36, .inl (cI, 6, .inl (fun _ => 0)))] := hD
  obtain ⟨n1, n2, n3, n4⟩ := nC_of (c := 5) rfl
  obtain ⟨C0, T0, N0, fl1, fl2, fl3⟩ := fl_5_25
  cases fl1
  refine va_putF (ci := 5) (v := .ref q36) (ty := tyC 5 4) hx hb hts n2 (tyC 5) n3 n4 hown hK hP hD hS 0 rfl rfl 4 fl2 (hts _ fl3) (fun _ z => z) rfl hin rfl (n3 4 fl2) (rfl) (rfl) (Nat.le_of_ble_eq_true rfl) dX5_init_38 (fun H locs hP hD hS => ?_)
  have hP : va_P D vwCl [(h0, .inr (5, [.ref q7, .int 0, .ref q20, .ref q28, .ref q36, .int 0, .int 0, .int 0, .int 0, .int 0])), (q7, .inl (cI, 120, .inl (fun _ => 0))), (q20, .inl (cI, 6, .inl (fun _ => 0))), (q28, .inl (cI, 6, .inl (fun _ => 0))), (q36, .inl (cI, 6, .inl (fun _ => 0)))] H := hP
  have hD : va_D A [(h0, .inr (5, [.ref q7, .int 0, .ref q20, .ref q28, .ref q36, .int 0, .int 0, .int 0, .int 0, .int 0])), (q7, .inl (cI, 120, .inl (fun _ => 0))), (q20, .inl (cI, 6, .inl (fun _ => 0))), (q28, .inl (cI, 6, .inl (fun _ => 0))), (q36, .inl (cI, 6, .inl (fun _ => 0)))] := hD
  refine lv_aload_n hx hb dX5_init_41 rfl (lv_at hl 0 rfl) ?_
  refine lv_iconst hx hb (v := 0) dX5_init_42 (by decide) ?_
  obtain ⟨n1, n2, n3, n4⟩ := nC_of (c := 5) rfl
  obtain ⟨C0, T0, N0, fl1, fl2, fl3⟩ := fl_5_28
  cases fl1
  refine va_put (ci := 5) (v := .int 0) (ty := tyC 5 5) hx hb hts n2 (tyC 5) n3 n4 hown hK hP hD hS 0 rfl rfl 5 fl2 (hts _ fl3) (fun _ z => z) rfl (n3 5 fl2) (by decide) (by decide) (Nat.le_of_ble_eq_true rfl) dX5_init_43 (fun H locs hP hD hS => ?_)
  have hP : va_P D vwCl [(h0, .inr (5, [.ref q7, .int 0, .ref q20, .ref q28, .ref q36, .int 0, .int 0, .int 0, .int 0, .int 0])), (q7, .inl (cI, 120, .inl (fun _ => 0))), (q20, .inl (cI, 6, .inl (fun _ => 0))), (q28, .inl (cI, 6, .inl (fun _ => 0))), (q36, .inl (cI, 6, .inl (fun _ => 0)))] H := hP
  have hD : va_D A [(h0, .inr (5, [.ref q7, .int 0, .ref q20, .ref q28, .ref q36, .int 0, .int 0, .int 0, .int 0, .int 0])), (q7, .inl (cI, 120, .inl (fun _ => 0))), (q20, .inl (cI, 6, .inl (fun _ => 0))), (q28, .inl (cI, 6, .inl (fun _ => 0))), (q36, .inl (cI, 6, .inl (fun _ => 0)))] := hD
  have hP9 := hP
  have hD9 := hD
  refine W.widen (k := 4) (n := 138) (by decide) (by decide) ?_
  exact W.vret hx hb hr (fun t ht hW => ⟨⟨(fun j => ([q7, q20, q28, q36] : List Nat).getD j 0), rfl, trivial, by rw [ht]; exact hP9, hD9⟩, hS.F ht⟩) hS.2.2 dX5_init_46
def ws3 (cI cJ cZ : ClassId) (h0 : Nat) (u : Nat → Nat) : va_W := [(h0, .inr (3, [.ref (u 0), .ref (u 1), .ref (u 2)])), ((u 0), .inl (cJ, 160, .inr (.inl (fun _ => 0)))), ((u 1), .inl (cI, 4, .inl (fun _ => 0))), ((u 2), .inl (cI, 4, .inl (fun _ => 0)))]
set_option maxHeartbeats 4000000 in
set_option maxRecDepth 100000 in
theorem c_init3 (l : Launch) (D : va_G) (cI cJ cZ : ClassId) (h0 : Nat) (sz : Nat) : Met l yX3_init (Cond.code yX3_init cX3_init 1 none :: wall) ({ frames := 1, cells := 3, slots := 168, locals := 12 }) (va_Pc [.ref h0] (fun U => U.heap.size = sz ∧ va_P D vwCl [(h0, .inr (3, [.null, .null, .null]))] U.heap ∧ va_K D vwCl (tyz cI cJ cZ) U ∧ va_D (fun _ => True) [(h0, .inr (3, [.null, .null, .null]))])) (va_Qv (fun _ : Nat → Nat => True) (fun u t => va_P D vwCl (ws3 cI cJ cZ h0 u) t.heap ∧ va_D (va_A [(h0, .inr (3, [.null, .null, .null]))] sz) (ws3 cI cJ cZ h0 u)) (va_A [(h0, .inr (3, [.null, .null, .null]))] sz)) 3 168 (va_A [(h0, .inr (3, [.null, .null, .null]))] sz) := by
  refine Met.ofW (cc := cX3_init) (maxL := 1) (ret := none) (by decide) rfl ?_
  intro p e s m args below meth c s₁ B hml hv
  obtain ⟨rfl, hsz, hP, hK, hD0⟩ := hv
  have hx := B.exec
  have hb := B.bytes
  have hr := B.returns
  have hts0 := atoms_spec (ws := Cond.code yX3_init cX3_init 1 none :: wall) B.pre
  have hts : ∀ w ∈ wall, w.before _ s = true := fun w hw => hts0 w (List.mem_cons_of_mem _ hw)
  have hown : s.vm.findClass (cnm 3) = some m.cls := findClass_of_methodNamed B.named
  have hin : meth.name = "<init>" := (name_of_methodNamed B.named B.method).1
  subst hsz
  have hD := hD0.self (sz := s.heap.size)
  generalize hAe : va_A [(h0, .inr (3, [.null, .null, .null]))] s.heap.size = A at hD ⊢
  have hA : ∀ q : Nat, s.heap.size ≤ q → A q := fun q h => by rw [← hAe]; exact Or.inr h
  have hS : va_S A s.heap s.heap [] := va_S.rf
  have hl := lv_entry ([.ref h0]) (n := 1) (Nat.le_of_ble_eq_true rfl)
  rw [lg_entry_eq]
  generalize (lg_sl ([.ref h0]) ++ List.replicate (1 - (lg_sl ([.ref h0])).length) Slot.unset).toArray = ls at hl ⊢
  have hl : lv_has ls 1 [(0, .ref h0)] := hl
  refine lv_aload_n hx hb dX3_init_0 rfl (lv_at hl 0 rfl) ?_
  refine W.objInit hx hb hown (hts _ w_ob_3) (hts _ w_ob2) (hts _ w_ob3) rfl (by rw [hml]; exact hl.1) rfl dX3_init_1 (Nat.le_of_ble_eq_true rfl) (Nat.le_of_ble_eq_true rfl) ?_
  refine W.eq (g2 := F0 m 4 ls []) rfl ?_
  refine lv_aload_n hx hb dX3_init_4 rfl (lv_at hl 0 rfl) ?_
  refine lv_sipush hx hb (v := 160) dX3_init_5 (by decide) ?_
  refine va_newa (atype := .long) (a0 := (160, .inr (.inl (fun _ => 0)))) hx hb (hts _ w_ar_long) (ty := .long) rfl hK hP hD hS hA (fun _ => rfl) (by decide) (by decide) (by decide) (by decide) (by decide) dX3_init_8 (fun q8 cA H hK3 hP hD hS => ?_)
  have ec : cJ = cA := (ra_J (hK3.2 3 _ rfl).2 (hK.2 1 _ rfl).2).symm
  subst ec
  have hP : va_P D vwCl [(h0, .inr (3, [.null, .null, .null])), (q8, .inl (cJ, 160, .inr (.inl (fun _ => 0))))] H := hP
  have hD : va_D A [(h0, .inr (3, [.null, .null, .null])), (q8, .inl (cJ, 160, .inr (.inl (fun _ => 0))))] := hD
  obtain ⟨n1, n2, n3, n4⟩ := nC_of (c := 3) rfl
  obtain ⟨C0, T0, N0, fl1, fl2, fl3⟩ := fl_3_9
  cases fl1
  refine va_putF (ci := 3) (v := .ref q8) (ty := tyC 3 0) hx hb hts n2 (tyC 3) n3 n4 hown hK hP hD hS 0 rfl rfl 0 fl2 (hts _ fl3) (fun _ z => z) rfl hin rfl (n3 0 fl2) (rfl) (rfl) (Nat.le_of_ble_eq_true rfl) dX3_init_10 (fun H locs hP hD hS => ?_)
  have hP : va_P D vwCl [(h0, .inr (3, [.ref q8, .null, .null])), (q8, .inl (cJ, 160, .inr (.inl (fun _ => 0))))] H := hP
  have hD : va_D A [(h0, .inr (3, [.ref q8, .null, .null])), (q8, .inl (cJ, 160, .inr (.inl (fun _ => 0))))] := hD
  refine lv_aload_n hx hb dX3_init_13 rfl (lv_at hl 0 rfl) ?_
  refine lv_iconst hx hb (v := 4) dX3_init_14 (by decide) ?_
  refine va_newa (atype := .int) (a0 := (4, .inl (fun _ => 0))) hx hb (hts _ w_ar_int) (ty := .int) rfl hK hP hD hS hA (fun _ => rfl) (by decide) (by decide) (by decide) (by decide) (by decide) dX3_init_15 (fun q15 cA H hK3 hP hD hS => ?_)
  have ec : cI = cA := (ra_I (hK3.2 3 _ rfl).2 (hK.2 0 _ rfl).2).symm
  subst ec
  have hP : va_P D vwCl [(h0, .inr (3, [.ref q8, .null, .null])), (q8, .inl (cJ, 160, .inr (.inl (fun _ => 0)))), (q15, .inl (cI, 4, .inl (fun _ => 0)))] H := hP
  have hD : va_D A [(h0, .inr (3, [.ref q8, .null, .null])), (q8, .inl (cJ, 160, .inr (.inl (fun _ => 0)))), (q15, .inl (cI, 4, .inl (fun _ => 0)))] := hD
  obtain ⟨n1, n2, n3, n4⟩ := nC_of (c := 3) rfl
  obtain ⟨C0, T0, N0, fl1, fl2, fl3⟩ := fl_3_15
  cases fl1
  refine va_putF (ci := 3) (v := .ref q15) (ty := tyC 3 1) hx hb hts n2 (tyC 3) n3 n4 hown hK hP hD hS 0 rfl rfl 1 fl2 (hts _ fl3) (fun _ z => z) rfl hin rfl (n3 1 fl2) (rfl) (rfl) (Nat.le_of_ble_eq_true rfl) dX3_init_17 (fun H locs hP hD hS => ?_)
  have hP : va_P D vwCl [(h0, .inr (3, [.ref q8, .ref q15, .null])), (q8, .inl (cJ, 160, .inr (.inl (fun _ => 0)))), (q15, .inl (cI, 4, .inl (fun _ => 0)))] H := hP
  have hD : va_D A [(h0, .inr (3, [.ref q8, .ref q15, .null])), (q8, .inl (cJ, 160, .inr (.inl (fun _ => 0)))), (q15, .inl (cI, 4, .inl (fun _ => 0)))] := hD
  refine lv_aload_n hx hb dX3_init_20 rfl (lv_at hl 0 rfl) ?_
  refine lv_iconst hx hb (v := 4) dX3_init_21 (by decide) ?_
  refine va_newa (atype := .int) (a0 := (4, .inl (fun _ => 0))) hx hb (hts _ w_ar_int) (ty := .int) rfl hK hP hD hS hA (fun _ => rfl) (by decide) (by decide) (by decide) (by decide) (by decide) dX3_init_22 (fun q22 cA H hK3 hP hD hS => ?_)
  have ec : cI = cA := (ra_I (hK3.2 3 _ rfl).2 (hK.2 0 _ rfl).2).symm
  subst ec
  have hP : va_P D vwCl [(h0, .inr (3, [.ref q8, .ref q15, .null])), (q8, .inl (cJ, 160, .inr (.inl (fun _ => 0)))), (q15, .inl (cI, 4, .inl (fun _ => 0))), (q22, .inl (cI, 4, .inl (fun _ => 0)))] H := hP
  have hD : va_D A [(h0, .inr (3, [.ref q8, .ref q15, .null])), (q8, .inl (cJ, 160, .inr (.inl (fun _ => 0)))), (q15, .inl (cI, 4, .inl (fun _ => 0))), (q22, .inl (cI, 4, .inl (fun _ => 0)))] := hD
  obtain ⟨n1, n2, n3, n4⟩ := nC_of (c := 3) rfl
  obtain ⟨C0, T0, N0, fl1, fl2, fl3⟩ := fl_3_19
  cases fl1
  refine va_putF (ci := 3) (v := .ref q22) (ty := tyC 3 2) hx hb hts n2 (tyC 3) n3 n4 hown hK hP hD hS 0 rfl rfl 2 fl2 (hts _ fl3) (fun _ z => z) rfl hin rfl (n3 2 fl2) (rfl) (rfl) (Nat.le_of_ble_eq_true rfl) dX3_init_24 (fun H locs hP hD hS => ?_)
  have hP : va_P D vwCl [(h0, .inr (3, [.ref q8, .ref q15, .ref q22])), (q8, .inl (cJ, 160, .inr (.inl (fun _ => 0)))), (q15, .inl (cI, 4, .inl (fun _ => 0))), (q22, .inl (cI, 4, .inl (fun _ => 0)))] H := hP
  have hD : va_D A [(h0, .inr (3, [.ref q8, .ref q15, .ref q22])), (q8, .inl (cJ, 160, .inr (.inl (fun _ => 0)))), (q15, .inl (cI, 4, .inl (fun _ => 0))), (q22, .inl (cI, 4, .inl (fun _ => 0)))] := hD
  have hP9 := hP
  have hD9 := hD
  refine W.widen (k := 3) (n := 168) (by decide) (by decide) ?_
  exact W.vret hx hb hr (fun t ht hW => ⟨⟨(fun j => ([q8, q15, q22] : List Nat).getD j 0), rfl, trivial, by rw [ht]; exact hP9, hD9⟩, hS.F ht⟩) hS.2.2 dX3_init_27
def ws4 (cI cJ cZ : ClassId) (h0 : Nat) (u : Nat → Nat) : va_W := [(h0, .inr (4, [.ref (u 0), .int 0, .int 1, .ref (u 1), .ref (u 2), .ref (u 3), .ref (u 4), .ref (u 5), .ref (u 6), .ref (u 7), .ref (u 8), .ref (u 9)])), ((u 0), .inl (cI, 16, .inl (fun _ => 0))), ((u 1), .inl (cI, 16, .inl (fun _ => 0))), ((u 2), .inl (cI, 16, .inl (fun _ => 0))), ((u 3), .inl (cI, 16, .inl (fun _ => 0))), ((u 4), .inl (cI, 192, .inl (fun _ => 0))), ((u 5), .inl (cI, 192, .inl (fun _ => 0))), ((u 6), .inl (cI, 16, .inl (fun _ => 0))), ((u 7), .inl (cI, 40, .inl (fun _ => 0))), ((u 8), .inl (cJ, 144, .inr (.inl (fun _ => 0)))), ((u 9), .inl (cI, 192, .inl (fun _ => 0)))]
set_option maxHeartbeats 4000000 in
set_option maxRecDepth 100000 in
theorem c_init4 (l : Launch) (D : va_G) (cI cJ cZ : ClassId) (h0 : Nat) (sz : Nat) : Met l yX4_init (Cond.code yX4_init cX4_init 1 none :: wall) ({ frames := 1, cells := 10, slots := 840, locals := 12 }) (va_Pc [.ref h0] (fun U => U.heap.size = sz ∧ va_P D vwCl [(h0, .inr (4, [.null, .int 0, .int 0, .null, .null, .null, .null, .null, .null, .null, .null, .null]))] U.heap ∧ va_K D vwCl (tyz cI cJ cZ) U ∧ va_D (fun _ => True) [(h0, .inr (4, [.null, .int 0, .int 0, .null, .null, .null, .null, .null, .null, .null, .null, .null]))])) (va_Qv (fun _ : Nat → Nat => True) (fun u t => va_P D vwCl (ws4 cI cJ cZ h0 u) t.heap ∧ va_D (va_A [(h0, .inr (4, [.null, .int 0, .int 0, .null, .null, .null, .null, .null, .null, .null, .null, .null]))] sz) (ws4 cI cJ cZ h0 u)) (va_A [(h0, .inr (4, [.null, .int 0, .int 0, .null, .null, .null, .null, .null, .null, .null, .null, .null]))] sz)) 10 840 (va_A [(h0, .inr (4, [.null, .int 0, .int 0, .null, .null, .null, .null, .null, .null, .null, .null, .null]))] sz) := by
  refine Met.ofW (cc := cX4_init) (maxL := 1) (ret := none) (by decide) rfl ?_
  intro p e s m args below meth c s₁ B hml hv
  obtain ⟨rfl, hsz, hP, hK, hD0⟩ := hv
  have hx := B.exec
  have hb := B.bytes
  have hr := B.returns
  have hts0 := atoms_spec (ws := Cond.code yX4_init cX4_init 1 none :: wall) B.pre
  have hts : ∀ w ∈ wall, w.before _ s = true := fun w hw => hts0 w (List.mem_cons_of_mem _ hw)
  have hown : s.vm.findClass (cnm 4) = some m.cls := findClass_of_methodNamed B.named
  have hin : meth.name = "<init>" := (name_of_methodNamed B.named B.method).1
  subst hsz
  have hD := hD0.self (sz := s.heap.size)
  generalize hAe : va_A [(h0, .inr (4, [.null, .int 0, .int 0, .null, .null, .null, .null, .null, .null, .null, .null, .null]))] s.heap.size = A at hD ⊢
  have hA : ∀ q : Nat, s.heap.size ≤ q → A q := fun q h => by rw [← hAe]; exact Or.inr h
  have hS : va_S A s.heap s.heap [] := va_S.rf
  have hl := lv_entry ([.ref h0]) (n := 1) (Nat.le_of_ble_eq_true rfl)
  rw [lg_entry_eq]
  generalize (lg_sl ([.ref h0]) ++ List.replicate (1 - (lg_sl ([.ref h0])).length) Slot.unset).toArray = ls at hl ⊢
  have hl : lv_has ls 1 [(0, .ref h0)] := hl
  refine lv_aload_n hx hb dX4_init_0 rfl (lv_at hl 0 rfl) ?_
  refine W.objInit hx hb hown (hts _ w_ob_4) (hts _ w_ob2) (hts _ w_ob3) rfl (by rw [hml]; exact hl.1) rfl dX4_init_1 (Nat.le_of_ble_eq_true rfl) (Nat.le_of_ble_eq_true rfl) ?_
  refine W.eq (g2 := F0 m 4 ls []) rfl ?_
  refine lv_aload_n hx hb dX4_init_4 rfl (lv_at hl 0 rfl) ?_
  refine lv_bipush hx hb (v := 16) dX4_init_5 (by decide) ?_
  refine va_newa (atype := .int) (a0 := (16, .inl (fun _ => 0))) hx hb (hts _ w_ar_int) (ty := .int) rfl hK hP hD hS hA (fun _ => rfl) (by decide) (by decide) (by decide) (by decide) (by decide) dX4_init_7 (fun q7 cA H hK3 hP hD hS => ?_)
  have ec : cI = cA := (ra_I (hK3.2 3 _ rfl).2 (hK.2 0 _ rfl).2).symm
  subst ec
  have hP : va_P D vwCl [(h0, .inr (4, [.null, .int 0, .int 0, .null, .null, .null, .null, .null, .null, .null, .null, .null])), (q7, .inl (cI, 16, .inl (fun _ => 0)))] H := hP
  have hD : va_D A [(h0, .inr (4, [.null, .int 0, .int 0, .null, .null, .null, .null, .null, .null, .null, .null, .null])), (q7, .inl (cI, 16, .inl (fun _ => 0)))] := hD
  obtain ⟨n1, n2, n3, n4⟩ := nC_of (c := 4) rfl
  obtain ⟨C0, T0, N0, fl1, fl2, fl3⟩ := fl_4_9
  cases fl1
  refine va_putF (ci := 4) (v := .ref q7) (ty := tyC 4 0) hx hb hts n2 (tyC 4) n3 n4 hown hK hP hD hS 0 rfl rfl 0 fl2 (hts _ fl3) (fun _ z => z) rfl hin rfl (n3 0 fl2) (rfl) (rfl) (Nat.le_of_ble_eq_true rfl) dX4_init_9 (fun H locs hP hD hS => ?_)
  have hP : va_P D vwCl [(h0, .inr (4, [.ref q7, .int 0, .int 0, .null, .null, .null, .null, .null, .null, .null, .null, .null])), (q7, .inl (cI, 16, .inl (fun _ => 0)))] H := hP
  have hD : va_D A [(h0, .inr (4, [.ref q7, .int 0, .int 0, .null, .null, .null, .null, .null, .null, .null, .null, .null])), (q7, .inl (cI, 16, .inl (fun _ => 0)))] := hD
  refine lv_aload_n hx hb dX4_init_12 rfl (lv_at hl 0 rfl) ?_
  refine lv_bipush hx hb (v := 16) dX4_init_13 (by decide) ?_
  refine va_newa (atype := .int) (a0 := (16, .inl (fun _ => 0))) hx hb (hts _ w_ar_int) (ty := .int) rfl hK hP hD hS hA (fun _ => rfl) (by decide) (by decide) (by decide) (by decide) (by decide) dX4_init_15 (fun q15 cA H hK3 hP hD hS => ?_)
  have ec : cI = cA := (ra_I (hK3.2 3 _ rfl).2 (hK.2 0 _ rfl).2).symm
  subst ec
  have hP : va_P D vwCl [(h0, .inr (4, [.ref q7, .int 0, .int 0, .null, .null, .null, .null, .null, .null, .null, .null, .null])), (q7, .inl (cI, 16, .inl (fun _ => 0))), (q15, .inl (cI, 16, .inl (fun _ => 0)))] H := hP
  have hD : va_D A [(h0, .inr (4, [.ref q7, .int 0, .int 0, .null, .null, .null, .null, .null, .null, .null, .null, .null])), (q7, .inl (cI, 16, .inl (fun _ => 0))), (q15, .inl (cI, 16, .inl (fun _ => 0)))] := hD
  obtain ⟨n1, n2, n3, n4⟩ := nC_of (c := 4) rfl
  obtain ⟨C0, T0, N0, fl1, fl2, fl3⟩ := fl_4_15
  cases fl1
  refine va_putF (ci := 4) (v := .ref q15) (ty := tyC 4 3) hx hb hts n2 (tyC 4) n3 n4 hown hK hP hD hS 0 rfl rfl 3 fl2 (hts _ fl3) (fun _ z => z) rfl hin rfl (n3 3 fl2) (rfl) (rfl) (Nat.le_of_ble_eq_true rfl) dX4_init_17 (fun H locs hP hD hS => ?_)
  have hP : va_P D vwCl [(h0, .inr (4, [.ref q7, .int 0, .int 0, .ref q15, .null, .null, .null, .null, .null, .null, .null, .null])), (q7, .inl (cI, 16, .inl (fun _ => 0))), (q15, .inl (cI, 16, .inl (fun _ => 0)))] H := hP
  have hD : va_D A [(h0, .inr (4, [.ref q7, .int 0, .int 0, .ref q15, .null, .null, .null, .null, .null, .null, .null, .null])), (q7, .inl (cI, 16, .inl (fun _ => 0))), (q15, .inl (cI, 16, .inl (fun _ => 0)))] := hD
  refine lv_aload_n hx hb dX4_init_20 rfl (lv_at hl 0 rfl) ?_
  refine lv_bipush hx hb (v := 16) dX4_init_21 (by decide) ?_
  refine va_newa (atype := .int) (a0 := (16, .inl (fun _ => 0))) hx hb (hts _ w_ar_int) (ty := .int) rfl hK hP hD hS hA (fun _ => rfl) (by decide) (by decide) (by decide) (by decide) (by decide) dX4_init_23 (fun q23 cA H hK3 hP hD hS => ?_)
  have ec : cI = cA := (ra_I (hK3.2 3 _ rfl).2 (hK.2 0 _ rfl).2).symm
  subst ec
  have hP : va_P D vwCl [(h0, .inr (4, [.ref q7, .int 0, .int 0, .ref q15, .null, .null, .null, .null, .null, .null, .null, .null])), (q7, .inl (cI, 16, .inl (fun _ => 0))), (q15, .inl (cI, 16, .inl (fun _ => 0))), (q23, .inl (cI, 16, .inl (fun _ => 0)))] H := hP
  have hD : va_D A [(h0, .inr (4, [.ref q7, .int 0, .int 0, .ref q15, .null, .null, .null, .null, .null, .null, .null, .null])), (q7, .inl (cI, 16, .inl (fun _ => 0))), (q15, .inl (cI, 16, .inl (fun _ => 0))), (q23, .inl (cI, 16, .inl (fun _ => 0)))] := hD
  obtain ⟨n1, n2, n3, n4⟩ := nC_of (c := 4) rfl
  obtain ⟨C0, T0, N0, fl1, fl2, fl3⟩ := fl_4_18
  cases fl1
  refine va_putF (ci := 4) (v := .ref q23) (ty := tyC 4 4) hx hb hts n2 (tyC 4) n3 n4 hown hK hP hD hS 0 rfl rfl 4 fl2 (hts _ fl3) (fun _ z => z) rfl hin rfl (n3 4 fl2) (rfl) (rfl) (Nat.le_of_ble_eq_true rfl) dX4_init_25 (fun H locs hP hD hS => ?_)
  have hP : va_P D vwCl [(h0, .inr (4, [.ref q7, .int 0, .int 0, .ref q15, .ref q23, .null, .null, .null, .null, .null, .null, .null])), (q7, .inl (cI, 16, .inl (fun _ => 0))), (q15, .inl (cI, 16, .inl (fun _ => 0))), (q23, .inl (cI, 16, .inl (fun _ => 0)))] H := hP
  have hD : va_D A [(h0, .inr (4, [.ref q7, .int 0, .int 0, .ref q15, .ref q23, .null, .null, .null, .null, .null, .null, .null])), (q7, .inl (cI, 16, .inl (fun _ => 0))), (q15, .inl (cI, 16, .inl (fun _ => 0))), (q23, .inl (cI, 16, .inl (fun _ => 0)))] := hD
  refine lv_aload_n hx hb dX4_init_28 rfl (lv_at hl 0 rfl) ?_
  refine lv_bipush hx hb (v := 16) dX4_init_29 (by decide) ?_
  refine va_newa (atype := .int) (a0 := (16, .inl (fun _ => 0))) hx hb (hts _ w_ar_int) (ty := .int) rfl hK hP hD hS hA (fun _ => rfl) (by decide) (by decide) (by decide) (by decide) (by decide) dX4_init_31 (fun q31 cA H hK3 hP hD hS => ?_)
  have ec : cI = cA := (ra_I (hK3.2 3 _ rfl).2 (hK.2 0 _ rfl).2).symm
  subst ec
  have hP : va_P D vwCl [(h0, .inr (4, [.ref q7, .int 0, .int 0, .ref q15, .ref q23, .null, .null, .null, .null, .null, .null, .null])), (q7, .inl (cI, 16, .inl (fun _ => 0))), (q15, .inl (cI, 16, .inl (fun _ => 0))), (q23, .inl (cI, 16, .inl (fun _ => 0))), (q31, .inl (cI, 16, .inl (fun _ => 0)))] H := hP
  have hD : va_D A [(h0, .inr (4, [.ref q7, .int 0, .int 0, .ref q15, .ref q23, .null, .null, .null, .null, .null, .null, .null])), (q7, .inl (cI, 16, .inl (fun _ => 0))), (q15, .inl (cI, 16, .inl (fun _ => 0))), (q23, .inl (cI, 16, .inl (fun _ => 0))), (q31, .inl (cI, 16, .inl (fun _ => 0)))] := hD
  obtain ⟨n1, n2, n3, n4⟩ := nC_of (c := 4) rfl
  obtain ⟨C0, T0, N0, fl1, fl2, fl3⟩ := fl_4_21
  cases fl1
  refine va_putF (ci := 4) (v := .ref q31) (ty := tyC 4 5) hx hb hts n2 (tyC 4) n3 n4 hown hK hP hD hS 0 rfl rfl 5 fl2 (hts _ fl3) (fun _ z => z) rfl hin rfl (n3 5 fl2) (rfl) (rfl) (Nat.le_of_ble_eq_true rfl) dX4_init_33 (fun H locs hP hD hS => ?_)
  have hP : va_P D vwCl [(h0, .inr (4, [.ref q7, .int 0, .int 0, .ref q15, .ref q23, .ref q31, .null, .null, .null, .null, .null, .null])), (q7, .inl (cI, 16, .inl (fun _ => 0))), (q15, .inl (cI, 16, .inl (fun _ => 0))), (q23, .inl (cI, 16, .inl (fun _ => 0))), (q31, .inl (cI, 16, .inl (fun _ => 0)))] H := hP
  have hD : va_D A [(h0, .inr (4, [.ref q7, .int 0, .int 0, .ref q15, .ref q23, .ref q31, .null, .null, .null, .null, .null, .null])), (q7, .inl (cI, 16, .inl (fun _ => 0))), (q15, .inl (cI, 16, .inl (fun _ => 0))), (q23, .inl (cI, 16, .inl (fun _ => 0))), (q31, .inl (cI, 16, .inl (fun _ => 0)))] := hD
  refine lv_aload_n hx hb dX4_init_36 rfl (lv_at hl 0 rfl) ?_
  refine lv_sipush hx hb (v := 192) dX4_init_37 (by decide) ?_
  refine va_newa (atype := .int) (a0 := (192, .inl (fun _ => 0))) hx hb (hts _ w_ar_int) (ty := .int) rfl hK hP hD hS hA (fun _ => rfl) (by decide) (by decide) (by decide) (by decide) (by decide) dX4_init_40 (fun q40 cA H hK3 hP hD hS => ?_)
  have ec : cI = cA := (ra_I (hK3.2 3 _ rfl).2 (hK.2 0 _ rfl).2).symm
  subst ec
  have hP : va_P D vwCl [(h0, .inr (4, [.ref q7, .int 0, .int 0, .ref q15, .ref q23, .ref q31, .null, .null, .null, .null, .null, .null])), (q7, .inl (cI, 16, .inl (fun _ => 0))), (q15, .inl (cI, 16, .inl (fun _ => 0))), (q23, .inl (cI, 16, .inl (fun _ => 0))), (q31, .inl (cI, 16, .inl (fun _ => 0))), (q40, .inl (cI, 192, .inl (fun _ => 0)))] H := hP
  have hD : va_D A [(h0, .inr (4, [.ref q7, .int 0, .int 0, .ref q15, .ref q23, .ref q31, .null, .null, .null, .null, .null, .null])), (q7, .inl (cI, 16, .inl (fun _ => 0))), (q15, .inl (cI, 16, .inl (fun _ => 0))), (q23, .inl (cI, 16, .inl (fun _ => 0))), (q31, .inl (cI, 16, .inl (fun _ => 0))), (q40, .inl (cI, 192, .inl (fun _ => 0)))] := hD
  obtain ⟨n1, n2, n3, n4⟩ := nC_of (c := 4) rfl
  obtain ⟨C0, T0, N0, fl1, fl2, fl3⟩ := fl_4_24
  cases fl1
  refine va_putF (ci := 4) (v := .ref q40) (ty := tyC 4 6) hx hb hts n2 (tyC 4) n3 n4 hown hK hP hD hS 0 rfl rfl 6 fl2 (hts _ fl3) (fun _ z => z) rfl hin rfl (n3 6 fl2) (rfl) (rfl) (Nat.le_of_ble_eq_true rfl) dX4_init_42 (fun H locs hP hD hS => ?_)
  have hP : va_P D vwCl [(h0, .inr (4, [.ref q7, .int 0, .int 0, .ref q15, .ref q23, .ref q31, .ref q40, .null, .null, .null, .null, .null])), (q7, .inl (cI, 16, .inl (fun _ => 0))), (q15, .inl (cI, 16, .inl (fun _ => 0))), (q23, .inl (cI, 16, .inl (fun _ => 0))), (q31, .inl (cI, 16, .inl (fun _ => 0))), (q40, .inl (cI, 192, .inl (fun _ => 0)))] H := hP
  have hD : va_D A [(h0, .inr (4, [.ref q7, .int 0, .int 0, .ref q15, .ref q23, .ref q31, .ref q40, .null, .null, .null, .null, .null])), (q7, .inl (cI, 16, .inl (fun _ => 0))), (q15, .inl (cI, 16, .inl (fun _ => 0))), (q23, .inl (cI, 16, .inl (fun _ => 0))), (q31, .inl (cI, 16, .inl (fun _ => 0))), (q40, .inl (cI, 192, .inl (fun _ => 0)))] := hD
  refine lv_aload_n hx hb dX4_init_45 rfl (lv_at hl 0 rfl) ?_
  refine lv_sipush hx hb (v := 192) dX4_init_46 (by decide) ?_
  refine va_newa (atype := .int) (a0 := (192, .inl (fun _ => 0))) hx hb (hts _ w_ar_int) (ty := .int) rfl hK hP hD hS hA (fun _ => rfl) (by decide) (by decide) (by decide) (by decide) (by decide) dX4_init_49 (fun q49 cA H hK3 hP hD hS => ?_)
  have ec : cI = cA := (ra_I (hK3.2 3 _ rfl).2 (hK.2 0 _ rfl).2).symm
  subst ec
  have hP : va_P D vwCl [(h0, .inr (4, [.ref q7, .int 0, .int 0, .ref q15, .ref q23, .ref q31, .ref q40, .null, .null, .null, .null, .null])), (q7, .inl (cI, 16, .inl (fun _ => 0))), (q15, .inl (cI, 16, .inl (fun _ => 0))), (q23, .inl (cI, 16, .inl (fun _ => 0))), (q31, .inl (cI, 16, .inl (fun _ => 0))), (q40, .inl (cI, 192, .inl (fun _ => 0))), (q49, .inl (cI, 192, .inl (fun _ => 0)))] H := hP
  have hD : va_D A [(h0, .inr (4, [.ref q7, .int 0, .int 0, .ref q15, .ref q23, .ref q31, .ref q40, .null, .null, .null, .null, .null])), (q7, .inl (cI, 16, .inl (fun _ => 0))), (q15, .inl (cI, 16, .inl (fun _ => 0))), (q23, .inl (cI, 16, .inl (fun _ => 0))), (q31, .inl (cI, 16, .inl (fun _ => 0))), (q40, .inl (cI, 192, .inl (fun _ => 0))), (q49, .inl (cI, 192, .inl (fun _ => 0)))] := hD
  obtain ⟨n1, n2, n3, n4⟩ := nC_of (c := 4) rfl
  obtain ⟨C0, T0, N0, fl1, fl2, fl3⟩ := fl_4_27
  cases fl1
  refine va_putF (ci := 4) (v := .ref q49) (ty := tyC 4 7) hx hb hts n2 (tyC 4) n3 n4 hown hK hP hD hS 0 rfl rfl 7 fl2 (hts _ fl3) (fun _ z => z) rfl hin rfl (n3 7 fl2) (rfl) (rfl) (Nat.le_of_ble_eq_true rfl) dX4_init_51 (fun H locs hP hD hS => ?_)
  have hP : va_P D vwCl [(h0, .inr (4, [.ref q7, .int 0, .int 0, .ref q15, .ref q23, .ref q31, .ref q40, .ref q49, .null, .null, .null, .null])), (q7, .inl (cI, 16, .inl (fun _ => 0))), (q15, .inl (cI, 16, .inl (fun _ => 0))), (q23, .inl (cI, 16, .inl (fun _ => 0))), (q31, .inl (cI, 16, .inl (fun _ => 0))), (q40, .inl (cI, 192, .inl (fun _ => 0))), (q49, .inl (cI, 192, .inl (fun _ => 0)))] H := hP
  have hD : va_D A [(h0, .inr (4, [.ref q7, .int 0, .int 0, .ref q15, .ref q23, .ref q31, .ref q40, .ref q49, .null, .null, .null, .null])), (q7, .inl (cI, 16, .inl (fun _ => 0))), (q15, .inl (cI, 16, .inl (fun _ => 0))), (q23, .inl (cI, 16, .inl (fun _ => 0))), (q31, .inl (cI, 16, .inl (fun _ => 0))), (q40, .inl (cI, 192, .inl (fun _ => 0))), (q49, .inl (cI, 192, .inl (fun _ => 0)))] := hD
  refine lv_aload_n hx hb dX4_init_54 rfl (lv_at hl 0 rfl) ?_
  refine lv_bipush hx hb (v := 16) dX4_init_55 (by decide) ?_
  refine va_newa (atype := .int) (a0 := (16, .inl (fun _ => 0))) hx hb (hts _ w_ar_int) (ty := .int) rfl hK hP hD hS hA (fun _ => rfl) (by decide) (by decide) (by decide) (by decide) (by decide) dX4_init_57 (fun q57 cA H hK3 hP hD hS => ?_)
  have ec : cI = cA := (ra_I (hK3.2 3 _ rfl).2 (hK.2 0 _ rfl).2).symm
  subst ec
  have hP : va_P D vwCl [(h0, .inr (4, [.ref q7, .int 0, .int 0, .ref q15, .ref q23, .ref q31, .ref q40, .ref q49, .null, .null, .null, .null])), (q7, .inl (cI, 16, .inl (fun _ => 0))), (q15, .inl (cI, 16, .inl (fun _ => 0))), (q23, .inl (cI, 16, .inl (fun _ => 0))), (q31, .inl (cI, 16, .inl (fun _ => 0))), (q40, .inl (cI, 192, .inl (fun _ => 0))), (q49, .inl (cI, 192, .inl (fun _ => 0))), (q57, .inl (cI, 16, .inl (fun _ => 0)))] H := hP
  have hD : va_D A [(h0, .inr (4, [.ref q7, .int 0, .int 0, .ref q15, .ref q23, .ref q31, .ref q40, .ref q49, .null, .null, .null, .null])), (q7, .inl (cI, 16, .inl (fun _ => 0))), (q15, .inl (cI, 16, .inl (fun _ => 0))), (q23, .inl (cI, 16, .inl (fun _ => 0))), (q31, .inl (cI, 16, .inl (fun _ => 0))), (q40, .inl (cI, 192, .inl (fun _ => 0))), (q49, .inl (cI, 192, .inl (fun _ => 0))), (q57, .inl (cI, 16, .inl (fun _ => 0)))] := hD
  obtain ⟨n1, n2, n3, n4⟩ := nC_of (c := 4) rfl
  obtain ⟨C0, T0, N0, fl1, fl2, fl3⟩ := fl_4_30
  cases fl1
  refine va_putF (ci := 4) (v := .ref q57) (ty := tyC 4 8) hx hb hts n2 (tyC 4) n3 n4 hown hK hP hD hS 0 rfl rfl 8 fl2 (hts _ fl3) (fun _ z => z) rfl hin rfl (n3 8 fl2) (rfl) (rfl) (Nat.le_of_ble_eq_true rfl) dX4_init_59 (fun H locs hP hD hS => ?_)
  have hP : va_P D vwCl [(h0, .inr (4, [.ref q7, .int 0, .int 0, .ref q15, .ref q23, .ref q31, .ref q40, .ref q49, .ref q57, .null, .null, .null])), (q7, .inl (cI, 16, .inl (fun _ => 0))), (q15, .inl (cI, 16, .inl (fun _ => 0))), (q23, .inl (cI, 16, .inl (fun _ => 0))), (q31, .inl (cI, 16, .inl (fun _ => 0))), (q40, .inl (cI, 192, .inl (fun _ => 0))), (q49, .inl (cI, 192, .inl (fun _ => 0))), (q57, .inl (cI, 16, .inl (fun _ => 0)))] H := hP
  have hD : va_D A [(h0, .inr (4, [.ref q7, .int 0, .int 0, .ref q15, .ref q23, .ref q31, .ref q40, .ref q49, .ref q57, .null, .null, .null])), (q7, .inl (cI, 16, .inl (fun _ => 0))), (q15, .inl (cI, 16, .inl (fun _ => 0))), (q23, .inl (cI, 16, .inl (fun _ => 0))), (q31, .inl (cI, 16, .inl (fun _ => 0))), (q40, .inl (cI, 192, .inl (fun _ => 0))), (q49, .inl (cI, 192, .inl (fun _ => 0))), (q57, .inl (cI, 16, .inl (fun _ => 0)))] := hD
  refine lv_aload_n hx hb dX4_init_62 rfl (lv_at hl 0 rfl) ?_
  refine lv_bipush hx hb (v := 40) dX4_init_63 (by decide) ?_
  refine va_newa (atype := .int) (a0 := (40, .inl (fun _ => 0))) hx hb (hts _ w_ar_int) (ty := .int) rfl hK hP hD hS hA (fun _ => rfl) (by decide) (by decide) (by decide) (by decide) (by decide) dX4_init_65 (fun q65 cA H hK3 hP hD hS => ?_)
  have ec : cI = cA := (ra_I (hK3.2 3 _ rfl).2 (hK.2 0 _ rfl).2).symm
  subst ec
  have hP : va_P D vwCl [(h0, .inr (4, [.ref q7, .int 0, .int 0, .ref q15, .ref q23, .ref q31, .ref q40, .ref q49, .ref q57, .null, .null, .null])), (q7, .inl (cI, 16, .inl (fun _ => 0))), (q15, .inl (cI, 16, .inl (fun _ => 0))), (q23, .inl (cI, 16, .inl (fun _ => 0))), (q31, .inl (cI, 16, .inl (fun _ => 0))), (q40, .inl (cI, 192, .inl (fun _ => 0))), (q49, .inl (cI, 192, .inl (fun _ => 0))), (q57, .inl (cI, 16, .inl (fun _ => 0))), (q65, .inl (cI, 40, .inl (fun _ => 0)))] H := hP
  have hD : va_D A [(h0, .inr (4, [.ref q7, .int 0, .int 0, .ref q15, .ref q23, .ref q31, .ref q40, .ref q49, .ref q57, .null, .null, .null])), (q7, .inl (cI, 16, .inl (fun _ => 0))), (q15, .inl (cI, 16, .inl (fun _ => 0))), (q23, .inl (cI, 16, .inl (fun _ => 0))), (q31, .inl (cI, 16, .inl (fun _ => 0))), (q40, .inl (cI, 192, .inl (fun _ => 0))), (q49, .inl (cI, 192, .inl (fun _ => 0))), (q57, .inl (cI, 16, .inl (fun _ => 0))), (q65, .inl (cI, 40, .inl (fun _ => 0)))] := hD
  obtain ⟨n1, n2, n3, n4⟩ := nC_of (c := 4) rfl
  obtain ⟨C0, T0, N0, fl1, fl2, fl3⟩ := fl_4_33
  cases fl1
  refine va_putF (ci := 4) (v := .ref q65) (ty := tyC 4 9) hx hb hts n2 (tyC 4) n3 n4 hown hK hP hD hS 0 rfl rfl 9 fl2 (hts _ fl3) (fun _ z => z) rfl hin rfl (n3 9 fl2) (rfl) (rfl) (Nat.le_of_ble_eq_true rfl) dX4_init_67 (fun H locs hP hD hS => ?_)
  have hP : va_P D vwCl [(h0, .inr (4, [.ref q7, .int 0, .int 0, .ref q15, .ref q23, .ref q31, .ref q40, .ref q49, .ref q57, .ref q65, .null, .null])), (q7, .inl (cI, 16, .inl (fun _ => 0))), (q15, .inl (cI, 16, .inl (fun _ => 0))), (q23, .inl (cI, 16, .inl (fun _ => 0))), (q31, .inl (cI, 16, .inl (fun _ => 0))), (q40, .inl (cI, 192, .inl (fun _ => 0))), (q49, .inl (cI, 192, .inl (fun _ => 0))), (q57, .inl (cI, 16, .inl (fun _ => 0))), (q65, .inl (cI, 40, .inl (fun _ => 0)))] H := hP
  have hD : va_D A [(h0, .inr (4, [.ref q7, .int 0, .int 0, .ref q15, .ref q23, .ref q31, .ref q40, .ref q49, .ref q57, .ref q65, .null, .null])), (q7, .inl (cI, 16, .inl (fun _ => 0))), (q15, .inl (cI, 16, .inl (fun _ => 0))), (q23, .inl (cI, 16, .inl (fun _ => 0))), (q31, .inl (cI, 16, .inl (fun _ => 0))), (q40, .inl (cI, 192, .inl (fun _ => 0))), (q49, .inl (cI, 192, .inl (fun _ => 0))), (q57, .inl (cI, 16, .inl (fun _ => 0))), (q65, .inl (cI, 40, .inl (fun _ => 0)))] := hD
  refine lv_aload_n hx hb dX4_init_70 rfl (lv_at hl 0 rfl) ?_
  refine lv_sipush hx hb (v := 144) dX4_init_71 (by decide) ?_
  refine va_newa (atype := .long) (a0 := (144, .inr (.inl (fun _ => 0)))) hx hb (hts _ w_ar_long) (ty := .long) rfl hK hP hD hS hA (fun _ => rfl) (by decide) (by decide) (by decide) (by decide) (by decide) dX4_init_74 (fun q74 cA H hK3 hP hD hS => ?_)
  have ec : cJ = cA := (ra_J (hK3.2 3 _ rfl).2 (hK.2 1 _ rfl).2).symm
  subst ec
  have hP : va_P D vwCl [(h0, .inr (4, [.ref q7, .int 0, .int 0, .ref q15, .ref q23, .ref q31, .ref q40, .ref q49, .ref q57, .ref q65, .null, .null])), (q7, .inl (cI, 16, .inl (fun _ => 0))), (q15, .inl (cI, 16, .inl (fun _ => 0))), (q23, .inl (cI, 16, .inl (fun _ => 0))), (q31, .inl (cI, 16, .inl (fun _ => 0))), (q40, .inl (cI, 192, .inl (fun _ => 0))), (q49, .inl (cI, 192, .inl (fun _ => 0))), (q57, .inl (cI, 16, .inl (fun _ => 0))), (q65, .inl (cI, 40, .inl (fun _ => 0))), (q74, .inl (cJ, 144, .inr (.inl (fun _ => 0))))] H := hP
  have hD : va_D A [(h0, .inr (4, [.ref q7, .int 0, .int 0, .ref q15, .ref q23, .ref q31, .ref q40, .ref q49, .ref q57, .ref q65, .null, .null])), (q7, .inl (cI, 16, .inl (fun _ => 0))), (q15, .inl (cI, 16, .inl (fun _ => 0))), (q23, .inl (cI, 16, .inl (fun _ => 0))), (q31, .inl (cI, 16, .inl (fun _ => 0))), (q40, .inl (cI, 192, .inl (fun _ => 0))), (q49, .inl (cI, 192, .inl (fun _ => 0))), (q57, .inl (cI, 16, .inl (fun _ => 0))), (q65, .inl (cI, 40, .inl (fun _ => 0))), (q74, .inl (cJ, 144, .inr (.inl (fun _ => 0))))] := hD
  obtain ⟨n1, n2, n3, n4⟩ := nC_of (c := 4) rfl
  obtain ⟨C0, T0, N0, fl1, fl2, fl3⟩ := fl_4_36
  cases fl1
  refine va_putF (ci := 4) (v := .ref q74) (ty := tyC 4 10) hx hb hts n2 (tyC 4) n3 n4 hown hK hP hD hS 0 rfl rfl 10 fl2 (hts _ fl3) (fun _ z => z) rfl hin rfl (n3 10 fl2) (rfl) (rfl) (Nat.le_of_ble_eq_true rfl) dX4_init_76 (fun H locs hP hD hS => ?_)
  have hP : va_P D vwCl [(h0, .inr (4, [.ref q7, .int 0, .int 0, .ref q15, .ref q23, .ref q31, .ref q40, .ref q49, .ref q57, .ref q65, .ref q74, .null])), (q7, .inl (cI, 16, .inl (fun _ => 0))), (q15, .inl (cI, 16, .inl (fun _ => 0))), (q23, .inl (cI, 16, .inl (fun _ => 0))), (q31, .inl (cI, 16, .inl (fun _ => 0))), (q40, .inl (cI, 192, .inl (fun _ => 0))), (q49, .inl (cI, 192, .inl (fun _ => 0))), (q57, .inl (cI, 16, .inl (fun _ => 0))), (q65, .inl (cI, 40, .inl (fun _ => 0))), (q74, .inl (cJ, 144, .inr (.inl (fun _ => 0))))] H := hP
  have hD : va_D A [(h0, .inr (4, [.ref q7, .int 0, .int 0, .ref q15, .ref q23, .ref q31, .ref q40, .ref q49, .ref q57, .ref q65, .ref q74, .null])), (q7, .inl (cI, 16, .inl (fun _ => 0))), (q15, .inl (cI, 16, .inl (fun _ => 0))), (q23, .inl (cI, 16, .inl (fun _ => 0))), (q31, .inl (cI, 16, .inl (fun _ => 0))), (q40, .inl (cI, 192, .inl (fun _ => 0))), (q49, .inl (cI, 192, .inl (fun _ => 0))), (q57, .inl (cI, 16, .inl (fun _ => 0))), (q65, .inl (cI, 40, .inl (fun _ => 0))), (q74, .inl (cJ, 144, .inr (.inl (fun _ => 0))))] := hD
  refine lv_aload_n hx hb dX4_init_79 rfl (lv_at hl 0 rfl) ?_
  refine lv_sipush hx hb (v := 192) dX4_init_80 (by decide) ?_
  refine va_newa (atype := .int) (a0 := (192, .inl (fun _ => 0))) hx hb (hts _ w_ar_int) (ty := .int) rfl hK hP hD hS hA (fun _ => rfl) (by decide) (by decide) (by decide) (by decide) (by decide) dX4_init_83 (fun q83 cA H hK3 hP hD hS => ?_)
  have ec : cI = cA := (ra_I (hK3.2 3 _ rfl).2 (hK.2 0 _ rfl).2).symm
  subst ec
  have hP : va_P D vwCl [(h0, .inr (4, [.ref q7, .int 0, .int 0, .ref q15, .ref q23, .ref q31, .ref q40, .ref q49, .ref q57, .ref q65, .ref q74, .null])), (q7, .inl (cI, 16, .inl (fun _ => 0))), (q15, .inl (cI, 16, .inl (fun _ => 0))), (q23, .inl (cI, 16, .inl (fun _ => 0))), (q31, .inl (cI, 16, .inl (fun _ => 0))), (q40, .inl (cI, 192, .inl (fun _ => 0))), (q49, .inl (cI, 192, .inl (fun _ => 0))), (q57, .inl (cI, 16, .inl (fun _ => 0))), (q65, .inl (cI, 40, .inl (fun _ => 0))), (q74, .inl (cJ, 144, .inr (.inl (fun _ => 0)))), (q83, .inl (cI, 192, .inl (fun _ => 0)))] H := hP
  have hD : va_D A [(h0, .inr (4, [.ref q7, .int 0, .int 0, .ref q15, .ref q23, .ref q31, .ref q40, .ref q49, .ref q57, .ref q65, .ref q74, .null])), (q7, .inl (cI, 16, .inl (fun _ => 0))), (q15, .inl (cI, 16, .inl (fun _ => 0))), (q23, .inl (cI, 16, .inl (fun _ => 0))), (q31, .inl (cI, 16, .inl (fun _ => 0))), (q40, .inl (cI, 192, .inl (fun _ => 0))), (q49, .inl (cI, 192, .inl (fun _ => 0))), (q57, .inl (cI, 16, .inl (fun _ => 0))), (q65, .inl (cI, 40, .inl (fun _ => 0))), (q74, .inl (cJ, 144, .inr (.inl (fun _ => 0)))), (q83, .inl (cI, 192, .inl (fun _ => 0)))] := hD
  obtain ⟨n1, n2, n3, n4⟩ := nC_of (c := 4) rfl
  obtain ⟨C0, T0, N0, fl1, fl2, fl3⟩ := fl_4_40
  cases fl1
  refine va_putF (ci := 4) (v := .ref q83) (ty := tyC 4 11) hx hb hts n2 (tyC 4) n3 n4 hown hK hP hD hS 0 rfl rfl 11 fl2 (hts _ fl3) (fun _ z => z) rfl hin rfl (n3 11 fl2) (rfl) (rfl) (Nat.le_of_ble_eq_true rfl) dX4_init_85 (fun H locs hP hD hS => ?_)
  have hP : va_P D vwCl [(h0, .inr (4, [.ref q7, .int 0, .int 0, .ref q15, .ref q23, .ref q31, .ref q40, .ref q49, .ref q57, .ref q65, .ref q74, .ref q83])), (q7, .inl (cI, 16, .inl (fun _ => 0))), (q15, .inl (cI, 16, .inl (fun _ => 0))), (q23, .inl (cI, 16, .inl (fun _ => 0))), (q31, .inl (cI, 16, .inl (fun _ => 0))), (q40, .inl (cI, 192, .inl (fun _ => 0))), (q49, .inl (cI, 192, .inl (fun _ => 0))), (q57, .inl (cI, 16, .inl (fun _ => 0))), (q65, .inl (cI, 40, .inl (fun _ => 0))), (q74, .inl (cJ, 144, .inr (.inl (fun _ => 0)))), (q83, .inl (cI, 192, .inl (fun _ => 0)))] H := hP
  have hD : va_D A [(h0, .inr (4, [.ref q7, .int 0, .int 0, .ref q15, .ref q23, .ref q31, .ref q40, .ref q49, .ref q57, .ref q65, .ref q74, .ref q83])), (q7, .inl (cI, 16, .inl (fun _ => 0))), (q15, .inl (cI, 16, .inl (fun _ => 0))), (q23, .inl (cI, 16, .inl (fun _ => 0))), (q31, .inl (cI, 16, .inl (fun _ => 0))), (q40, .inl (cI, 192, .inl (fun _ => 0))), (q49, .inl (cI, 192, .inl (fun _ => 0))), (q57, .inl (cI, 16, .inl (fun _ => 0))), (q65, .inl (cI, 40, .inl (fun _ => 0))), (q74, .inl (cJ, 144, .inr (.inl (fun _ => 0)))), (q83, .inl (cI, 192, .inl (fun _ => 0)))] := hD
  refine lv_aload_n hx hb dX4_init_88 rfl (lv_at hl 0 rfl) ?_
  refine lv_iconst hx hb (v := 0) dX4_init_89 (by decide) ?_
  obtain ⟨n1, n2, n3, n4⟩ := nC_of (c := 4) rfl
  obtain ⟨C0, T0, N0, fl1, fl2, fl3⟩ := fl_4_43
  cases fl1
  refine va_put (ci := 4) (v := .int 0) (ty := tyC 4 1) hx hb hts n2 (tyC 4) n3 n4 hown hK hP hD hS 0 rfl rfl 1 fl2 (hts _ fl3) (fun _ z => z) rfl (n3 1 fl2) (by decide) (by decide) (Nat.le_of_ble_eq_true rfl) dX4_init_90 (fun H locs hP hD hS => ?_)
  have hP : va_P D vwCl [(h0, .inr (4, [.ref q7, .int 0, .int 0, .ref q15, .ref q23, .ref q31, .ref q40, .ref q49, .ref q57, .ref q65, .ref q74, .ref q83])), (q7, .inl (cI, 16, .inl (fun _ => 0))), (q15, .inl (cI, 16, .inl (fun _ => 0))), (q23, .inl (cI, 16, .inl (fun _ => 0))), (q31, .inl (cI, 16, .inl (fun _ => 0))), (q40, .inl (cI, 192, .inl (fun _ => 0))), (q49, .inl (cI, 192, .inl (fun _ => 0))), (q57, .inl (cI, 16, .inl (fun _ => 0))), (q65, .inl (cI, 40, .inl (fun _ => 0))), (q74, .inl (cJ, 144, .inr (.inl (fun _ => 0)))), (q83, .inl (cI, 192, .inl (fun _ => 0)))] H := hP
  have hD : va_D A [(h0, .inr (4, [.ref q7, .int 0, .int 0, .ref q15, .ref q23, .ref q31, .ref q40, .ref q49, .ref q57, .ref q65, .ref q74, .ref q83])), (q7, .inl (cI, 16, .inl (fun _ => 0))), (q15, .inl (cI, 16, .inl (fun _ => 0))), (q23, .inl (cI, 16, .inl (fun _ => 0))), (q31, .inl (cI, 16, .inl (fun _ => 0))), (q40, .inl (cI, 192, .inl (fun _ => 0))), (q49, .inl (cI, 192, .inl (fun _ => 0))), (q57, .inl (cI, 16, .inl (fun _ => 0))), (q65, .inl (cI, 40, .inl (fun _ => 0))), (q74, .inl (cJ, 144, .inr (.inl (fun _ => 0)))), (q83, .inl (cI, 192, .inl (fun _ => 0)))] := hD
  refine lv_aload_n hx hb dX4_init_93 rfl (lv_at hl 0 rfl) ?_
  refine lv_iconst hx hb (v := 1) dX4_init_94 (by decide) ?_
  obtain ⟨n1, n2, n3, n4⟩ := nC_of (c := 4) rfl
  obtain ⟨C0, T0, N0, fl1, fl2, fl3⟩ := fl_4_47
  cases fl1
  refine va_put (ci := 4) (v := .int 1) (ty := tyC 4 2) hx hb hts n2 (tyC 4) n3 n4 hown hK hP hD hS 0 rfl rfl 2 fl2 (hts _ fl3) (fun _ z => z) rfl (n3 2 fl2) (by decide) (by decide) (Nat.le_of_ble_eq_true rfl) dX4_init_95 (fun H locs hP hD hS => ?_)
  have hP : va_P D vwCl [(h0, .inr (4, [.ref q7, .int 0, .int 1, .ref q15, .ref q23, .ref q31, .ref q40, .ref q49, .ref q57, .ref q65, .ref q74, .ref q83])), (q7, .inl (cI, 16, .inl (fun _ => 0))), (q15, .inl (cI, 16, .inl (fun _ => 0))), (q23, .inl (cI, 16, .inl (fun _ => 0))), (q31, .inl (cI, 16, .inl (fun _ => 0))), (q40, .inl (cI, 192, .inl (fun _ => 0))), (q49, .inl (cI, 192, .inl (fun _ => 0))), (q57, .inl (cI, 16, .inl (fun _ => 0))), (q65, .inl (cI, 40, .inl (fun _ => 0))), (q74, .inl (cJ, 144, .inr (.inl (fun _ => 0)))), (q83, .inl (cI, 192, .inl (fun _ => 0)))] H := hP
  have hD : va_D A [(h0, .inr (4, [.ref q7, .int 0, .int 1, .ref q15, .ref q23, .ref q31, .ref q40, .ref q49, .ref q57, .ref q65, .ref q74, .ref q83])), (q7, .inl (cI, 16, .inl (fun _ => 0))), (q15, .inl (cI, 16, .inl (fun _ => 0))), (q23, .inl (cI, 16, .inl (fun _ => 0))), (q31, .inl (cI, 16, .inl (fun _ => 0))), (q40, .inl (cI, 192, .inl (fun _ => 0))), (q49, .inl (cI, 192, .inl (fun _ => 0))), (q57, .inl (cI, 16, .inl (fun _ => 0))), (q65, .inl (cI, 40, .inl (fun _ => 0))), (q74, .inl (cJ, 144, .inr (.inl (fun _ => 0)))), (q83, .inl (cI, 192, .inl (fun _ => 0)))] := hD
  have hP9 := hP
  have hD9 := hD
  refine W.widen (k := 10) (n := 840) (by decide) (by decide) ?_
  exact W.vret hx hb hr (fun t ht hW => ⟨⟨(fun j => ([q7, q15, q23, q31, q40, q49, q57, q65, q74, q83] : List Nat).getD j 0), rfl, trivial, by rw [ht]; exact hP9, hD9⟩, hS.F ht⟩) hS.2.2 dX4_init_98
def ws9 (cI cJ cZ : ClassId) (h0 : Nat) (u : Nat → Nat) : va_W := [(h0, .inr (9, [.ref (u 0), .ref (u 1), .ref (u 2), .ref (u 3), .ref (u 4), .ref (u 5), .ref (u 6), .ref (u 7), .ref (u 8), .ref (u 9), .ref (u 10), .int 0, .ref (u 11), .ref (u 12), .int 0, .int 0, .int 0, .int 0, .long 0, .int 0, .ref (u 13), .int 0, .ref (u 14), .ref (u 15), .long 0, .int 0, .int 0, .ref (u 16), .ref (u 17), .ref (u 18), .ref (u 19), .ref (u 20), .int 0, .ref (u 21), .int 0])), ((u 0), .inl (cI, 8, .inl (fun _ => 0))), ((u 1), .inl (cI, 5, .inl (fun _ => 0))), ((u 2), .inl (cI, 144, .inl (fun _ => 0))), ((u 3), .inl (cI, 16, .inl (fun _ => 0))), ((u 4), .inl (cI, 96, .inl (fun _ => 0))), ((u 5), .inl (cI, 270, .inl (fun _ => 0))), ((u 6), .inl (cI, 16, .inl (fun _ => 0))), ((u 7), .inl (cI, 192, .inl (fun _ => 0))), ((u 8), .inl (cI, 60, .inl (fun _ => 0))), ((u 9), .inl (cZ, 30, .inl (fun _ => 0))), ((u 10), .inl (cI, 4, .inl (fun _ => 0))), ((u 11), .inl (cI, 4, .inl (fun _ => 0))), ((u 12), .inl (cI, 120, .inl (fun _ => 0))), ((u 13), .inl (cI, 16, .inl (fun _ => 0))), ((u 14), .inl (cI, 3, .inl (fun _ => 0))), ((u 15), .inl (cJ, 144, .inr (.inl (fun _ => 0)))), ((u 16), .inl (cI, 192, .inl (fun _ => 0))), ((u 17), .inl (cI, 4, .inl (fun _ => 0))), ((u 18), .inl (cI, 4, .inl (fun _ => 0))), ((u 19), .inl (cJ, 160, .inr (.inl (fun _ => 0)))), ((u 20), .inl (cJ, 40, .inr (.inl (fun _ => 0)))), ((u 21), .inl (cI, 900, .inl (fun _ => 0)))]
set_option maxHeartbeats 4000000 in
set_option maxRecDepth 100000 in
theorem c_init9 (l : Launch) (D : va_G) (cI cJ cZ : ClassId) (h0 : Nat) (sz : Nat) : Met l yX9_init (Cond.code yX9_init cX9_init 1 none :: wall) ({ frames := 1, cells := 22, slots := 2428, locals := 12 }) (va_Pc [.ref h0] (fun U => U.heap.size = sz ∧ va_P D vwCl [(h0, .inr (9, [.null, .null, .null, .null, .null, .null, .null, .null, .null, .null, .null, .int 0, .null, .null, .int 0, .int 0, .int 0, .int 0, .long 0, .int 0, .null, .int 0, .null, .null, .long 0, .int 0, .int 0, .null, .null, .null, .null, .null, .int 0, .null, .int 0]))] U.heap ∧ va_K D vwCl (tyz cI cJ cZ) U ∧ va_D (fun _ => True) [(h0, .inr (9, [.null, .null, .null, .null, .null, .null, .null, .null, .null, .null, .null, .int 0, .null, .null, .int 0, .int 0, .int 0, .int 0, .long 0, .int 0, .null, .int 0, .null, .null, .long 0, .int 0, .int 0, .null, .null, .null, .null, .null, .int 0, .null, .int 0]))])) (va_Qv (fun _ : Nat → Nat => True) (fun u t => va_P D vwCl (ws9 cI cJ cZ h0 u) t.heap ∧ va_D (va_A [(h0, .inr (9, [.null, .null, .null, .null, .null, .null, .null, .null, .null, .null, .null, .int 0, .null, .null, .int 0, .int 0, .int 0, .int 0, .long 0, .int 0, .null, .int 0, .null, .null, .long 0, .int 0, .int 0, .null, .null, .null, .null, .null, .int 0, .null, .int 0]))] sz) (ws9 cI cJ cZ h0 u)) (va_A [(h0, .inr (9, [.null, .null, .null, .null, .null, .null, .null, .null, .null, .null, .null, .int 0, .null, .null, .int 0, .int 0, .int 0, .int 0, .long 0, .int 0, .null, .int 0, .null, .null, .long 0, .int 0, .int 0, .null, .null, .null, .null, .null, .int 0, .null, .int 0]))] sz)) 22 2428 (va_A [(h0, .inr (9, [.null, .null, .null, .null, .null, .null, .null, .null, .null, .null, .null, .int 0, .null, .null, .int 0, .int 0, .int 0, .int 0, .long 0, .int 0, .null, .int 0, .null, .null, .long 0, .int 0, .int 0, .null, .null, .null, .null, .null, .int 0, .null, .int 0]))] sz) := by
  refine Met.ofW (cc := cX9_init) (maxL := 1) (ret := none) (by decide) rfl ?_
  intro p e s m args below meth c s₁ B hml hv
  obtain ⟨rfl, hsz, hP, hK, hD0⟩ := hv
  have hx := B.exec
  have hb := B.bytes
  have hr := B.returns
  have hts0 := atoms_spec (ws := Cond.code yX9_init cX9_init 1 none :: wall) B.pre
  have hts : ∀ w ∈ wall, w.before _ s = true := fun w hw => hts0 w (List.mem_cons_of_mem _ hw)
  have hown : s.vm.findClass (cnm 9) = some m.cls := findClass_of_methodNamed B.named
  have hin : meth.name = "<init>" := (name_of_methodNamed B.named B.method).1
  subst hsz
  have hD := hD0.self (sz := s.heap.size)
  generalize hAe : va_A [(h0, .inr (9, [.null, .null, .null, .null, .null, .null, .null, .null, .null, .null, .null, .int 0, .null, .null, .int 0, .int 0, .int 0, .int 0, .long 0, .int 0, .null, .int 0, .null, .null, .long 0, .int 0, .int 0, .null, .null, .null, .null, .null, .int 0, .null, .int 0]))] s.heap.size = A at hD ⊢
  have hA : ∀ q : Nat, s.heap.size ≤ q → A q := fun q h => by rw [← hAe]; exact Or.inr h
  have hS : va_S A s.heap s.heap [] := va_S.rf
  have hl := lv_entry ([.ref h0]) (n := 1) (Nat.le_of_ble_eq_true rfl)
  rw [lg_entry_eq]
  generalize (lg_sl ([.ref h0]) ++ List.replicate (1 - (lg_sl ([.ref h0])).length) Slot.unset).toArray = ls at hl ⊢
  have hl : lv_has ls 1 [(0, .ref h0)] := hl
  refine lv_aload_n hx hb dX9_init_0 rfl (lv_at hl 0 rfl) ?_
  refine W.objInit hx hb hown (hts _ w_ob_9) (hts _ w_ob2) (hts _ w_ob3) rfl (by rw [hml]; exact hl.1) rfl dX9_init_1 (Nat.le_of_ble_eq_true rfl) (Nat.le_of_ble_eq_true rfl) ?_
  refine W.eq (g2 := F0 m 4 ls []) rfl ?_
  refine lv_aload_n hx hb dX9_init_4 rfl (lv_at hl 0 rfl) ?_
  refine lv_bipush hx hb (v := 8) dX9_init_5 (by decide) ?_
  refine va_newa (atype := .int) (a0 := (8, .inl (fun _ => 0))) hx hb (hts _ w_ar_int) (ty := .int) rfl hK hP hD hS hA (fun _ => rfl) (by decide) (by decide) (by decide) (by decide) (by decide) dX9_init_7 (fun q7 cA H hK3 hP hD hS => ?_)
  have ec : cI = cA := (ra_I (hK3.2 3 _ rfl).2 (hK.2 0 _ rfl).2).symm
  subst ec
  have hP : va_P D vwCl [(h0, .inr (9, [.null, .null, .null, .null, .null, .null, .null, .null, .null, .null, .null, .int 0, .null, .null, .int 0, .int 0, .int 0, .int 0, .long 0, .int 0, .null, .int 0, .null, .null, .long 0, .int 0, .int 0, .null, .null, .null, .null, .null, .int 0, .null, .int 0])), (q7, .inl (cI, 8, .inl (fun _ => 0)))] H := hP
  have hD : va_D A [(h0, .inr (9, [.null, .null, .null, .null, .null, .null, .null, .null, .null, .null, .null, .int 0, .null, .null, .int 0, .int 0, .int 0, .int 0, .long 0, .int 0, .null, .int 0, .null, .null, .long 0, .int 0, .int 0, .null, .null, .null, .null, .null, .int 0, .null, .int 0])), (q7, .inl (cI, 8, .inl (fun _ => 0)))] := hD
  obtain ⟨n1, n2, n3, n4⟩ := nC_of (c := 9) rfl
  obtain ⟨C0, T0, N0, fl1, fl2, fl3⟩ := fl_9_7
  cases fl1
  refine va_putF (ci := 9) (v := .ref q7) (ty := tyC 9 0) hx hb hts n2 (tyC 9) n3 n4 hown hK hP hD hS 0 rfl rfl 0 fl2 (hts _ fl3) (fun _ z => z) rfl hin rfl (n3 0 fl2) (rfl) (rfl) (Nat.le_of_ble_eq_true rfl) dX9_init_9 (fun H locs hP hD hS => ?_)
  have hP : va_P D vwCl [(h0, .inr (9, [.ref q7, .null, .null, .null, .null, .null, .null, .null, .null, .null, .null, .int 0, .null, .null, .int 0, .int 0, .int 0, .int 0, .long 0, .int 0, .null, .int 0, .null, .null, .long 0, .int 0, .int 0, .null, .null, .null, .null, .null, .int 0, .null, .int 0])), (q7, .inl (cI, 8, .inl (fun _ => 0)))] H := hP
  have hD : va_D A [(h0, .inr (9, [.ref q7, .null, .null, .null, .null, .null, .null, .null, .null, .null, .null, .int 0, .null, .null, .int 0, .int 0, .int 0, .int 0, .long 0, .int 0, .null, .int 0, .null, .null, .long 0, .int 0, .int 0, .null, .null, .null, .null, .null, .int 0, .null, .int 0])), (q7, .inl (cI, 8, .inl (fun _ => 0)))] := hD
  refine lv_aload_n hx hb dX9_init_12 rfl (lv_at hl 0 rfl) ?_
  refine lv_iconst hx hb (v := 5) dX9_init_13 (by decide) ?_
  refine va_newa (atype := .int) (a0 := (5, .inl (fun _ => 0))) hx hb (hts _ w_ar_int) (ty := .int) rfl hK hP hD hS hA (fun _ => rfl) (by decide) (by decide) (by decide) (by decide) (by decide) dX9_init_14 (fun q14 cA H hK3 hP hD hS => ?_)
  have ec : cI = cA := (ra_I (hK3.2 3 _ rfl).2 (hK.2 0 _ rfl).2).symm
  subst ec
  have hP : va_P D vwCl [(h0, .inr (9, [.ref q7, .null, .null, .null, .null, .null, .null, .null, .null, .null, .null, .int 0, .null, .null, .int 0, .int 0, .int 0, .int 0, .long 0, .int 0, .null, .int 0, .null, .null, .long 0, .int 0, .int 0, .null, .null, .null, .null, .null, .int 0, .null, .int 0])), (q7, .inl (cI, 8, .inl (fun _ => 0))), (q14, .inl (cI, 5, .inl (fun _ => 0)))] H := hP
  have hD : va_D A [(h0, .inr (9, [.ref q7, .null, .null, .null, .null, .null, .null, .null, .null, .null, .null, .int 0, .null, .null, .int 0, .int 0, .int 0, .int 0, .long 0, .int 0, .null, .int 0, .null, .null, .long 0, .int 0, .int 0, .null, .null, .null, .null, .null, .int 0, .null, .int 0])), (q7, .inl (cI, 8, .inl (fun _ => 0))), (q14, .inl (cI, 5, .inl (fun _ => 0)))] := hD
  obtain ⟨n1, n2, n3, n4⟩ := nC_of (c := 9) rfl
  obtain ⟨C0, T0, N0, fl1, fl2, fl3⟩ := fl_9_13
  cases fl1
  refine va_putF (ci := 9) (v := .ref q14) (ty := tyC 9 1) hx hb hts n2 (tyC 9) n3 n4 hown hK hP hD hS 0 rfl rfl 1 fl2 (hts _ fl3) (fun _ z => z) rfl hin rfl (n3 1 fl2) (rfl) (rfl) (Nat.le_of_ble_eq_true rfl) dX9_init_16 (fun H locs hP hD hS => ?_)
  have hP : va_P D vwCl [(h0, .inr (9, [.ref q7, .ref q14, .null, .null, .null, .null, .null, .null, .null, .null, .null, .int 0, .null, .null, .int 0, .int 0, .int 0, .int 0, .long 0, .int 0, .null, .int 0, .null, .null, .long 0, .int 0, .int 0, .null, .null, .null, .null, .null, .int 0, .null, .int 0])), (q7, .inl (cI, 8, .inl (fun _ => 0))), (q14, .inl (cI, 5, .inl (fun _ => 0)))] H := hP
  have hD : va_D A [(h0, .inr (9, [.ref q7, .ref q14, .null, .null, .null, .null, .null, .null, .null, .null, .null, .int 0, .null, .null, .int 0, .int 0, .int 0, .int 0, .long 0, .int 0, .null, .int 0, .null, .null, .long 0, .int 0, .int 0, .null, .null, .null, .null, .null, .int 0, .null, .int 0])), (q7, .inl (cI, 8, .inl (fun _ => 0))), (q14, .inl (cI, 5, .inl (fun _ => 0)))] := hD
  refine lv_aload_n hx hb dX9_init_19 rfl (lv_at hl 0 rfl) ?_
  refine lv_sipush hx hb (v := 144) dX9_init_20 (by decide) ?_
  refine va_newa (atype := .int) (a0 := (144, .inl (fun _ => 0))) hx hb (hts _ w_ar_int) (ty := .int) rfl hK hP hD hS hA (fun _ => rfl) (by decide) (by decide) (by decide) (by decide) (by decide) dX9_init_23 (fun q23 cA H hK3 hP hD hS => ?_)
  have ec : cI = cA := (ra_I (hK3.2 3 _ rfl).2 (hK.2 0 _ rfl).2).symm
  subst ec
  have hP : va_P D vwCl [(h0, .inr (9, [.ref q7, .ref q14, .null, .null, .null, .null, .null, .null, .null, .null, .null, .int 0, .null, .null, .int 0, .int 0, .int 0, .int 0, .long 0, .int 0, .null, .int 0, .null, .null, .long 0, .int 0, .int 0, .null, .null, .null, .null, .null, .int 0, .null, .int 0])), (q7, .inl (cI, 8, .inl (fun _ => 0))), (q14, .inl (cI, 5, .inl (fun _ => 0))), (q23, .inl (cI, 144, .inl (fun _ => 0)))] H := hP
  have hD : va_D A [(h0, .inr (9, [.ref q7, .ref q14, .null, .null, .null, .null, .null, .null, .null, .null, .null, .int 0, .null, .null, .int 0, .int 0, .int 0, .int 0, .long 0, .int 0, .null, .int 0, .null, .null, .long 0, .int 0, .int 0, .null, .null, .null, .null, .null, .int 0, .null, .int 0])), (q7, .inl (cI, 8, .inl (fun _ => 0))), (q14, .inl (cI, 5, .inl (fun _ => 0))), (q23, .inl (cI, 144, .inl (fun _ => 0)))] := hD
  obtain ⟨n1, n2, n3, n4⟩ := nC_of (c := 9) rfl
  obtain ⟨C0, T0, N0, fl1, fl2, fl3⟩ := fl_9_16
  cases fl1
  refine va_putF (ci := 9) (v := .ref q23) (ty := tyC 9 2) hx hb hts n2 (tyC 9) n3 n4 hown hK hP hD hS 0 rfl rfl 2 fl2 (hts _ fl3) (fun _ z => z) rfl hin rfl (n3 2 fl2) (rfl) (rfl) (Nat.le_of_ble_eq_true rfl) dX9_init_25 (fun H locs hP hD hS => ?_)
  have hP : va_P D vwCl [(h0, .inr (9, [.ref q7, .ref q14, .ref q23, .null, .null, .null, .null, .null, .null, .null, .null, .int 0, .null, .null, .int 0, .int 0, .int 0, .int 0, .long 0, .int 0, .null, .int 0, .null, .null, .long 0, .int 0, .int 0, .null, .null, .null, .null, .null, .int 0, .null, .int 0])), (q7, .inl (cI, 8, .inl (fun _ => 0))), (q14, .inl (cI, 5, .inl (fun _ => 0))), (q23, .inl (cI, 144, .inl (fun _ => 0)))] H := hP
  have hD : va_D A [(h0, .inr (9, [.ref q7, .ref q14, .ref q23, .null, .null, .null, .null, .null, .null, .null, .null, .int 0, .null, .null, .int 0, .int 0, .int 0, .int 0, .long 0, .int 0, .null, .int 0, .null, .null, .long 0, .int 0, .int 0, .null, .null, .null, .null, .null, .int 0, .null, .int 0])), (q7, .inl (cI, 8, .inl (fun _ => 0))), (q14, .inl (cI, 5, .inl (fun _ => 0))), (q23, .inl (cI, 144, .inl (fun _ => 0)))] := hD
  refine lv_aload_n hx hb dX9_init_28 rfl (lv_at hl 0 rfl) ?_
  refine lv_bipush hx hb (v := 16) dX9_init_29 (by decide) ?_
  refine va_newa (atype := .int) (a0 := (16, .inl (fun _ => 0))) hx hb (hts _ w_ar_int) (ty := .int) rfl hK hP hD hS hA (fun _ => rfl) (by decide) (by decide) (by decide) (by decide) (by decide) dX9_init_31 (fun q31 cA H hK3 hP hD hS => ?_)
  have ec : cI = cA := (ra_I (hK3.2 3 _ rfl).2 (hK.2 0 _ rfl).2).symm
  subst ec
  have hP : va_P D vwCl [(h0, .inr (9, [.ref q7, .ref q14, .ref q23, .null, .null, .null, .null, .null, .null, .null, .null, .int 0, .null, .null, .int 0, .int 0, .int 0, .int 0, .long 0, .int 0, .null, .int 0, .null, .null, .long 0, .int 0, .int 0, .null, .null, .null, .null, .null, .int 0, .null, .int 0])), (q7, .inl (cI, 8, .inl (fun _ => 0))), (q14, .inl (cI, 5, .inl (fun _ => 0))), (q23, .inl (cI, 144, .inl (fun _ => 0))), (q31, .inl (cI, 16, .inl (fun _ => 0)))] H := hP
  have hD : va_D A [(h0, .inr (9, [.ref q7, .ref q14, .ref q23, .null, .null, .null, .null, .null, .null, .null, .null, .int 0, .null, .null, .int 0, .int 0, .int 0, .int 0, .long 0, .int 0, .null, .int 0, .null, .null, .long 0, .int 0, .int 0, .null, .null, .null, .null, .null, .int 0, .null, .int 0])), (q7, .inl (cI, 8, .inl (fun _ => 0))), (q14, .inl (cI, 5, .inl (fun _ => 0))), (q23, .inl (cI, 144, .inl (fun _ => 0))), (q31, .inl (cI, 16, .inl (fun _ => 0)))] := hD
  obtain ⟨n1, n2, n3, n4⟩ := nC_of (c := 9) rfl
  obtain ⟨C0, T0, N0, fl1, fl2, fl3⟩ := fl_9_19
  cases fl1
  refine va_putF (ci := 9) (v := .ref q31) (ty := tyC 9 3) hx hb hts n2 (tyC 9) n3 n4 hown hK hP hD hS 0 rfl rfl 3 fl2 (hts _ fl3) (fun _ z => z) rfl hin rfl (n3 3 fl2) (rfl) (rfl) (Nat.le_of_ble_eq_true rfl) dX9_init_33 (fun H locs hP hD hS => ?_)
  have hP : va_P D vwCl [(h0, .inr (9, [.ref q7, .ref q14, .ref q23, .ref q31, .null, .null, .null, .null, .null, .null, .null, .int 0, .null, .null, .int 0, .int 0, .int 0, .int 0, .long 0, .int 0, .null, .int 0, .null, .null, .long 0, .int 0, .int 0, .null, .null, .null, .null, .null, .int 0, .null, .int 0])), (q7, .inl (cI, 8, .inl (fun _ => 0))), (q14, .inl (cI, 5, .inl (fun _ => 0))), (q23, .inl (cI, 144, .inl (fun _ => 0))), (q31, .inl (cI, 16, .inl (fun _ => 0)))] H := hP
  have hD : va_D A [(h0, .inr (9, [.ref q7, .ref q14, .ref q23, .ref q31, .null, .null, .null, .null, .null, .null, .null, .int 0, .null, .null, .int 0, .int 0, .int 0, .int 0, .long 0, .int 0, .null, .int 0, .null, .null, .long 0, .int 0, .int 0, .null, .null, .null, .null, .null, .int 0, .null, .int 0])), (q7, .inl (cI, 8, .inl (fun _ => 0))), (q14, .inl (cI, 5, .inl (fun _ => 0))), (q23, .inl (cI, 144, .inl (fun _ => 0))), (q31, .inl (cI, 16, .inl (fun _ => 0)))] := hD
  refine lv_aload_n hx hb dX9_init_36 rfl (lv_at hl 0 rfl) ?_
  refine lv_bipush hx hb (v := 96) dX9_init_37 (by decide) ?_
  refine va_newa (atype := .int) (a0 := (96, .inl (fun _ => 0))) hx hb (hts _ w_ar_int) (ty := .int) rfl hK hP hD hS hA (fun _ => rfl) (by decide) (by decide) (by decide) (by decide) (by decide) dX9_init_39 (fun q39 cA H hK3 hP hD hS => ?_)
  have ec : cI = cA := (ra_I (hK3.2 3 _ rfl).2 (hK.2 0 _ rfl).2).symm
  subst ec
  have hP : va_P D vwCl [(h0, .inr (9, [.ref q7, .ref q14, .ref q23, .ref q31, .null, .null, .null, .null, .null, .null, .null, .int 0, .null, .null, .int 0, .int 0, .int 0, .int 0, .long 0, .int 0, .null, .int 0, .null, .null, .long 0, .int 0, .int 0, .null, .null, .null, .null, .null, .int 0, .null, .int 0])), (q7, .inl (cI, 8, .inl (fun _ => 0))), (q14, .inl (cI, 5, .inl (fun _ => 0))), (q23, .inl (cI, 144, .inl (fun _ => 0))), (q31, .inl (cI, 16, .inl (fun _ => 0))), (q39, .inl (cI, 96, .inl (fun _ => 0)))] H := hP
  have hD : va_D A [(h0, .inr (9, [.ref q7, .ref q14, .ref q23, .ref q31, .null, .null, .null, .null, .null, .null, .null, .int 0, .null, .null, .int 0, .int 0, .int 0, .int 0, .long 0, .int 0, .null, .int 0, .null, .null, .long 0, .int 0, .int 0, .null, .null, .null, .null, .null, .int 0, .null, .int 0])), (q7, .inl (cI, 8, .inl (fun _ => 0))), (q14, .inl (cI, 5, .inl (fun _ => 0))), (q23, .inl (cI, 144, .inl (fun _ => 0))), (q31, .inl (cI, 16, .inl (fun _ => 0))), (q39, .inl (cI, 96, .inl (fun _ => 0)))] := hD
  obtain ⟨n1, n2, n3, n4⟩ := nC_of (c := 9) rfl
  obtain ⟨C0, T0, N0, fl1, fl2, fl3⟩ := fl_9_22
  cases fl1
  refine va_putF (ci := 9) (v := .ref q39) (ty := tyC 9 4) hx hb hts n2 (tyC 9) n3 n4 hown hK hP hD hS 0 rfl rfl 4 fl2 (hts _ fl3) (fun _ z => z) rfl hin rfl (n3 4 fl2) (rfl) (rfl) (Nat.le_of_ble_eq_true rfl) dX9_init_41 (fun H locs hP hD hS => ?_)
  have hP : va_P D vwCl [(h0, .inr (9, [.ref q7, .ref q14, .ref q23, .ref q31, .ref q39, .null, .null, .null, .null, .null, .null, .int 0, .null, .null, .int 0, .int 0, .int 0, .int 0, .long 0, .int 0, .null, .int 0, .null, .null, .long 0, .int 0, .int 0, .null, .null, .null, .null, .null, .int 0, .null, .int 0])), (q7, .inl (cI, 8, .inl (fun _ => 0))), (q14, .inl (cI, 5, .inl (fun _ => 0))), (q23, .inl (cI, 144, .inl (fun _ => 0))), (q31, .inl (cI, 16, .inl (fun _ => 0))), (q39, .inl (cI, 96, .inl (fun _ => 0)))] H := hP
  have hD : va_D A [(h0, .inr (9, [.ref q7, .ref q14, .ref q23, .ref q31, .ref q39, .null, .null, .null, .null, .null, .null, .int 0, .null, .null, .int 0, .int 0, .int 0, .int 0, .long 0, .int 0, .null, .int 0, .null, .null, .long 0, .int 0, .int 0, .null, .null, .null, .null, .null, .int 0, .null, .int 0])), (q7, .inl (cI, 8, .inl (fun _ => 0))), (q14, .inl (cI, 5, .inl (fun _ => 0))), (q23, .inl (cI, 144, .inl (fun _ => 0))), (q31, .inl (cI, 16, .inl (fun _ => 0))), (q39, .inl (cI, 96, .inl (fun _ => 0)))] := hD
  refine lv_aload_n hx hb dX9_init_44 rfl (lv_at hl 0 rfl) ?_
  refine lv_sipush hx hb (v := 270) dX9_init_45 (by decide) ?_
  refine va_newa (atype := .int) (a0 := (270, .inl (fun _ => 0))) hx hb (hts _ w_ar_int) (ty := .int) rfl hK hP hD hS hA (fun _ => rfl) (by decide) (by decide) (by decide) (by decide) (by decide) dX9_init_48 (fun q48 cA H hK3 hP hD hS => ?_)
  have ec : cI = cA := (ra_I (hK3.2 3 _ rfl).2 (hK.2 0 _ rfl).2).symm
  subst ec
  have hP : va_P D vwCl [(h0, .inr (9, [.ref q7, .ref q14, .ref q23, .ref q31, .ref q39, .null, .null, .null, .null, .null, .null, .int 0, .null, .null, .int 0, .int 0, .int 0, .int 0, .long 0, .int 0, .null, .int 0, .null, .null, .long 0, .int 0, .int 0, .null, .null, .null, .null, .null, .int 0, .null, .int 0])), (q7, .inl (cI, 8, .inl (fun _ => 0))), (q14, .inl (cI, 5, .inl (fun _ => 0))), (q23, .inl (cI, 144, .inl (fun _ => 0))), (q31, .inl (cI, 16, .inl (fun _ => 0))), (q39, .inl (cI, 96, .inl (fun _ => 0))), (q48, .inl (cI, 270, .inl (fun _ => 0)))] H := hP
  have hD : va_D A [(h0, .inr (9, [.ref q7, .ref q14, .ref q23, .ref q31, .ref q39, .null, .null, .null, .null, .null, .null, .int 0, .null, .null, .int 0, .int 0, .int 0, .int 0, .long 0, .int 0, .null, .int 0, .null, .null, .long 0, .int 0, .int 0, .null, .null, .null, .null, .null, .int 0, .null, .int 0])), (q7, .inl (cI, 8, .inl (fun _ => 0))), (q14, .inl (cI, 5, .inl (fun _ => 0))), (q23, .inl (cI, 144, .inl (fun _ => 0))), (q31, .inl (cI, 16, .inl (fun _ => 0))), (q39, .inl (cI, 96, .inl (fun _ => 0))), (q48, .inl (cI, 270, .inl (fun _ => 0)))] := hD
  obtain ⟨n1, n2, n3, n4⟩ := nC_of (c := 9) rfl
  obtain ⟨C0, T0, N0, fl1, fl2, fl3⟩ := fl_9_25
  cases fl1
  refine va_putF (ci := 9) (v := .ref q48) (ty := tyC 9 5) hx hb hts n2 (tyC 9) n3 n4 hown hK hP hD hS 0 rfl rfl 5 fl2 (hts _ fl3) (fun _ z => z) rfl hin rfl (n3 5 fl2) (rfl) (rfl) (Nat.le_of_ble_eq_true rfl) dX9_init_50 (fun H locs hP hD hS => ?_)
  have hP : va_P D vwCl [(h0, .inr (9, [.ref q7, .ref q14, .ref q23, .ref q31, .ref q39, .ref q48, .null, .null, .null, .null, .null, .int 0, .null, .null, .int 0, .int 0, .int 0, .int 0, .long 0, .int 0, .null, .int 0, .null, .null, .long 0, .int 0, .int 0, .null, .null, .null, .null, .null, .int 0, .null, .int 0])), (q7, .inl (cI, 8, .inl (fun _ => 0))), (q14, .inl (cI, 5, .inl (fun _ => 0))), (q23, .inl (cI, 144, .inl (fun _ => 0))), (q31, .inl (cI, 16, .inl (fun _ => 0))), (q39, .inl (cI, 96, .inl (fun _ => 0))), (q48, .inl (cI, 270, .inl (fun _ => 0)))] H := hP
  have hD : va_D A [(h0, .inr (9, [.ref q7, .ref q14, .ref q23, .ref q31, .ref q39, .ref q48, .null, .null, .null, .null, .null, .int 0, .null, .null, .int 0, .int 0, .int 0, .int 0, .long 0, .int 0, .null, .int 0, .null, .null, .long 0, .int 0, .int 0, .null, .null, .null, .null, .null, .int 0, .null, .int 0])), (q7, .inl (cI, 8, .inl (fun _ => 0))), (q14, .inl (cI, 5, .inl (fun _ => 0))), (q23, .inl (cI, 144, .inl (fun _ => 0))), (q31, .inl (cI, 16, .inl (fun _ => 0))), (q39, .inl (cI, 96, .inl (fun _ => 0))), (q48, .inl (cI, 270, .inl (fun _ => 0)))] := hD
  refine lv_aload_n hx hb dX9_init_53 rfl (lv_at hl 0 rfl) ?_
  refine lv_bipush hx hb (v := 16) dX9_init_54 (by decide) ?_
  refine va_newa (atype := .int) (a0 := (16, .inl (fun _ => 0))) hx hb (hts _ w_ar_int) (ty := .int) rfl hK hP hD hS hA (fun _ => rfl) (by decide) (by decide) (by decide) (by decide) (by decide) dX9_init_56 (fun q56 cA H hK3 hP hD hS => ?_)
  have ec : cI = cA := (ra_I (hK3.2 3 _ rfl).2 (hK.2 0 _ rfl).2).symm
  subst ec
  have hP : va_P D vwCl [(h0, .inr (9, [.ref q7, .ref q14, .ref q23, .ref q31, .ref q39, .ref q48, .null, .null, .null, .null, .null, .int 0, .null, .null, .int 0, .int 0, .int 0, .int 0, .long 0, .int 0, .null, .int 0, .null, .null, .long 0, .int 0, .int 0, .null, .null, .null, .null, .null, .int 0, .null, .int 0])), (q7, .inl (cI, 8, .inl (fun _ => 0))), (q14, .inl (cI, 5, .inl (fun _ => 0))), (q23, .inl (cI, 144, .inl (fun _ => 0))), (q31, .inl (cI, 16, .inl (fun _ => 0))), (q39, .inl (cI, 96, .inl (fun _ => 0))), (q48, .inl (cI, 270, .inl (fun _ => 0))), (q56, .inl (cI, 16, .inl (fun _ => 0)))] H := hP
  have hD : va_D A [(h0, .inr (9, [.ref q7, .ref q14, .ref q23, .ref q31, .ref q39, .ref q48, .null, .null, .null, .null, .null, .int 0, .null, .null, .int 0, .int 0, .int 0, .int 0, .long 0, .int 0, .null, .int 0, .null, .null, .long 0, .int 0, .int 0, .null, .null, .null, .null, .null, .int 0, .null, .int 0])), (q7, .inl (cI, 8, .inl (fun _ => 0))), (q14, .inl (cI, 5, .inl (fun _ => 0))), (q23, .inl (cI, 144, .inl (fun _ => 0))), (q31, .inl (cI, 16, .inl (fun _ => 0))), (q39, .inl (cI, 96, .inl (fun _ => 0))), (q48, .inl (cI, 270, .inl (fun _ => 0))), (q56, .inl (cI, 16, .inl (fun _ => 0)))] := hD
  obtain ⟨n1, n2, n3, n4⟩ := nC_of (c := 9) rfl
  obtain ⟨C0, T0, N0, fl1, fl2, fl3⟩ := fl_9_28
  cases fl1
  refine va_putF (ci := 9) (v := .ref q56) (ty := tyC 9 6) hx hb hts n2 (tyC 9) n3 n4 hown hK hP hD hS 0 rfl rfl 6 fl2 (hts _ fl3) (fun _ z => z) rfl hin rfl (n3 6 fl2) (rfl) (rfl) (Nat.le_of_ble_eq_true rfl) dX9_init_58 (fun H locs hP hD hS => ?_)
  have hP : va_P D vwCl [(h0, .inr (9, [.ref q7, .ref q14, .ref q23, .ref q31, .ref q39, .ref q48, .ref q56, .null, .null, .null, .null, .int 0, .null, .null, .int 0, .int 0, .int 0, .int 0, .long 0, .int 0, .null, .int 0, .null, .null, .long 0, .int 0, .int 0, .null, .null, .null, .null, .null, .int 0, .null, .int 0])), (q7, .inl (cI, 8, .inl (fun _ => 0))), (q14, .inl (cI, 5, .inl (fun _ => 0))), (q23, .inl (cI, 144, .inl (fun _ => 0))), (q31, .inl (cI, 16, .inl (fun _ => 0))), (q39, .inl (cI, 96, .inl (fun _ => 0))), (q48, .inl (cI, 270, .inl (fun _ => 0))), (q56, .inl (cI, 16, .inl (fun _ => 0)))] H := hP
  have hD : va_D A [(h0, .inr (9, [.ref q7, .ref q14, .ref q23, .ref q31, .ref q39, .ref q48, .ref q56, .null, .null, .null, .null, .int 0, .null, .null, .int 0, .int 0, .int 0, .int 0, .long 0, .int 0, .null, .int 0, .null, .null, .long 0, .int 0, .int 0, .null, .null, .null, .null, .null, .int 0, .null, .int 0])), (q7, .inl (cI, 8, .inl (fun _ => 0))), (q14, .inl (cI, 5, .inl (fun _ => 0))), (q23, .inl (cI, 144, .inl (fun _ => 0))), (q31, .inl (cI, 16, .inl (fun _ => 0))), (q39, .inl (cI, 96, .inl (fun _ => 0))), (q48, .inl (cI, 270, .inl (fun _ => 0))), (q56, .inl (cI, 16, .inl (fun _ => 0)))] := hD
  refine lv_aload_n hx hb dX9_init_61 rfl (lv_at hl 0 rfl) ?_
  refine lv_sipush hx hb (v := 192) dX9_init_62 (by decide) ?_
  refine va_newa (atype := .int) (a0 := (192, .inl (fun _ => 0))) hx hb (hts _ w_ar_int) (ty := .int) rfl hK hP hD hS hA (fun _ => rfl) (by decide) (by decide) (by decide) (by decide) (by decide) dX9_init_65 (fun q65 cA H hK3 hP hD hS => ?_)
  have ec : cI = cA := (ra_I (hK3.2 3 _ rfl).2 (hK.2 0 _ rfl).2).symm
  subst ec
  have hP : va_P D vwCl [(h0, .inr (9, [.ref q7, .ref q14, .ref q23, .ref q31, .ref q39, .ref q48, .ref q56, .null, .null, .null, .null, .int 0, .null, .null, .int 0, .int 0, .int 0, .int 0, .long 0, .int 0, .null, .int 0, .null, .null, .long 0, .int 0, .int 0, .null, .null, .null, .null, .null, .int 0, .null, .int 0])), (q7, .inl (cI, 8, .inl (fun _ => 0))), (q14, .inl (cI, 5, .inl (fun _ => 0))), (q23, .inl (cI, 144, .inl (fun _ => 0))), (q31, .inl (cI, 16, .inl (fun _ => 0))), (q39, .inl (cI, 96, .inl (fun _ => 0))), (q48, .inl (cI, 270, .inl (fun _ => 0))), (q56, .inl (cI, 16, .inl (fun _ => 0))), (q65, .inl (cI, 192, .inl (fun _ => 0)))] H := hP
  have hD : va_D A [(h0, .inr (9, [.ref q7, .ref q14, .ref q23, .ref q31, .ref q39, .ref q48, .ref q56, .null, .null, .null, .null, .int 0, .null, .null, .int 0, .int 0, .int 0, .int 0, .long 0, .int 0, .null, .int 0, .null, .null, .long 0, .int 0, .int 0, .null, .null, .null, .null, .null, .int 0, .null, .int 0])), (q7, .inl (cI, 8, .inl (fun _ => 0))), (q14, .inl (cI, 5, .inl (fun _ => 0))), (q23, .inl (cI, 144, .inl (fun _ => 0))), (q31, .inl (cI, 16, .inl (fun _ => 0))), (q39, .inl (cI, 96, .inl (fun _ => 0))), (q48, .inl (cI, 270, .inl (fun _ => 0))), (q56, .inl (cI, 16, .inl (fun _ => 0))), (q65, .inl (cI, 192, .inl (fun _ => 0)))] := hD
  obtain ⟨n1, n2, n3, n4⟩ := nC_of (c := 9) rfl
  obtain ⟨C0, T0, N0, fl1, fl2, fl3⟩ := fl_9_31
  cases fl1
  refine va_putF (ci := 9) (v := .ref q65) (ty := tyC 9 7) hx hb hts n2 (tyC 9) n3 n4 hown hK hP hD hS 0 rfl rfl 7 fl2 (hts _ fl3) (fun _ z => z) rfl hin rfl (n3 7 fl2) (rfl) (rfl) (Nat.le_of_ble_eq_true rfl) dX9_init_67 (fun H locs hP hD hS => ?_)
  have hP : va_P D vwCl [(h0, .inr (9, [.ref q7, .ref q14, .ref q23, .ref q31, .ref q39, .ref q48, .ref q56, .ref q65, .null, .null, .null, .int 0, .null, .null, .int 0, .int 0, .int 0, .int 0, .long 0, .int 0, .null, .int 0, .null, .null, .long 0, .int 0, .int 0, .null, .null, .null, .null, .null, .int 0, .null, .int 0])), (q7, .inl (cI, 8, .inl (fun _ => 0))), (q14, .inl (cI, 5, .inl (fun _ => 0))), (q23, .inl (cI, 144, .inl (fun _ => 0))), (q31, .inl (cI, 16, .inl (fun _ => 0))), (q39, .inl (cI, 96, .inl (fun _ => 0))), (q48, .inl (cI, 270, .inl (fun _ => 0))), (q56, .inl (cI, 16, .inl (fun _ => 0))), (q65, .inl (cI, 192, .inl (fun _ => 0)))] H := hP
  have hD : va_D A [(h0, .inr (9, [.ref q7, .ref q14, .ref q23, .ref q31, .ref q39, .ref q48, .ref q56, .ref q65, .null, .null, .null, .int 0, .null, .null, .int 0, .int 0, .int 0, .int 0, .long 0, .int 0, .null, .int 0, .null, .null, .long 0, .int 0, .int 0, .null, .null, .null, .null, .null, .int 0, .null, .int 0])), (q7, .inl (cI, 8, .inl (fun _ => 0))), (q14, .inl (cI, 5, .inl (fun _ => 0))), (q23, .inl (cI, 144, .inl (fun _ => 0))), (q31, .inl (cI, 16, .inl (fun _ => 0))), (q39, .inl (cI, 96, .inl (fun _ => 0))), (q48, .inl (cI, 270, .inl (fun _ => 0))), (q56, .inl (cI, 16, .inl (fun _ => 0))), (q65, .inl (cI, 192, .inl (fun _ => 0)))] := hD
  refine lv_aload_n hx hb dX9_init_70 rfl (lv_at hl 0 rfl) ?_
  refine lv_bipush hx hb (v := 60) dX9_init_71 (by decide) ?_
  refine va_newa (atype := .int) (a0 := (60, .inl (fun _ => 0))) hx hb (hts _ w_ar_int) (ty := .int) rfl hK hP hD hS hA (fun _ => rfl) (by decide) (by decide) (by decide) (by decide) (by decide) dX9_init_73 (fun q73 cA H hK3 hP hD hS => ?_)
  have ec : cI = cA := (ra_I (hK3.2 3 _ rfl).2 (hK.2 0 _ rfl).2).symm
  subst ec
  have hP : va_P D vwCl [(h0, .inr (9, [.ref q7, .ref q14, .ref q23, .ref q31, .ref q39, .ref q48, .ref q56, .ref q65, .null, .null, .null, .int 0, .null, .null, .int 0, .int 0, .int 0, .int 0, .long 0, .int 0, .null, .int 0, .null, .null, .long 0, .int 0, .int 0, .null, .null, .null, .null, .null, .int 0, .null, .int 0])), (q7, .inl (cI, 8, .inl (fun _ => 0))), (q14, .inl (cI, 5, .inl (fun _ => 0))), (q23, .inl (cI, 144, .inl (fun _ => 0))), (q31, .inl (cI, 16, .inl (fun _ => 0))), (q39, .inl (cI, 96, .inl (fun _ => 0))), (q48, .inl (cI, 270, .inl (fun _ => 0))), (q56, .inl (cI, 16, .inl (fun _ => 0))), (q65, .inl (cI, 192, .inl (fun _ => 0))), (q73, .inl (cI, 60, .inl (fun _ => 0)))] H := hP
  have hD : va_D A [(h0, .inr (9, [.ref q7, .ref q14, .ref q23, .ref q31, .ref q39, .ref q48, .ref q56, .ref q65, .null, .null, .null, .int 0, .null, .null, .int 0, .int 0, .int 0, .int 0, .long 0, .int 0, .null, .int 0, .null, .null, .long 0, .int 0, .int 0, .null, .null, .null, .null, .null, .int 0, .null, .int 0])), (q7, .inl (cI, 8, .inl (fun _ => 0))), (q14, .inl (cI, 5, .inl (fun _ => 0))), (q23, .inl (cI, 144, .inl (fun _ => 0))), (q31, .inl (cI, 16, .inl (fun _ => 0))), (q39, .inl (cI, 96, .inl (fun _ => 0))), (q48, .inl (cI, 270, .inl (fun _ => 0))), (q56, .inl (cI, 16, .inl (fun _ => 0))), (q65, .inl (cI, 192, .inl (fun _ => 0))), (q73, .inl (cI, 60, .inl (fun _ => 0)))] := hD
  obtain ⟨n1, n2, n3, n4⟩ := nC_of (c := 9) rfl
  obtain ⟨C0, T0, N0, fl1, fl2, fl3⟩ := fl_9_34
  cases fl1
  refine va_putF (ci := 9) (v := .ref q73) (ty := tyC 9 8) hx hb hts n2 (tyC 9) n3 n4 hown hK hP hD hS 0 rfl rfl 8 fl2 (hts _ fl3) (fun _ z => z) rfl hin rfl (n3 8 fl2) (rfl) (rfl) (Nat.le_of_ble_eq_true rfl) dX9_init_75 (fun H locs hP hD hS => ?_)
  have hP : va_P D vwCl [(h0, .inr (9, [.ref q7, .ref q14, .ref q23, .ref q31, .ref q39, .ref q48, .ref q56, .ref q65, .ref q73, .null, .null, .int 0, .null, .null, .int 0, .int 0, .int 0, .int 0, .long 0, .int 0, .null, .int 0, .null, .null, .long 0, .int 0, .int 0, .null, .null, .null, .null, .null, .int 0, .null, .int 0])), (q7, .inl (cI, 8, .inl (fun _ => 0))), (q14, .inl (cI, 5, .inl (fun _ => 0))), (q23, .inl (cI, 144, .inl (fun _ => 0))), (q31, .inl (cI, 16, .inl (fun _ => 0))), (q39, .inl (cI, 96, .inl (fun _ => 0))), (q48, .inl (cI, 270, .inl (fun _ => 0))), (q56, .inl (cI, 16, .inl (fun _ => 0))), (q65, .inl (cI, 192, .inl (fun _ => 0))), (q73, .inl (cI, 60, .inl (fun _ => 0)))] H := hP
  have hD : va_D A [(h0, .inr (9, [.ref q7, .ref q14, .ref q23, .ref q31, .ref q39, .ref q48, .ref q56, .ref q65, .ref q73, .null, .null, .int 0, .null, .null, .int 0, .int 0, .int 0, .int 0, .long 0, .int 0, .null, .int 0, .null, .null, .long 0, .int 0, .int 0, .null, .null, .null, .null, .null, .int 0, .null, .int 0])), (q7, .inl (cI, 8, .inl (fun _ => 0))), (q14, .inl (cI, 5, .inl (fun _ => 0))), (q23, .inl (cI, 144, .inl (fun _ => 0))), (q31, .inl (cI, 16, .inl (fun _ => 0))), (q39, .inl (cI, 96, .inl (fun _ => 0))), (q48, .inl (cI, 270, .inl (fun _ => 0))), (q56, .inl (cI, 16, .inl (fun _ => 0))), (q65, .inl (cI, 192, .inl (fun _ => 0))), (q73, .inl (cI, 60, .inl (fun _ => 0)))] := hD
  refine lv_aload_n hx hb dX9_init_78 rfl (lv_at hl 0 rfl) ?_
  refine lv_bipush hx hb (v := 30) dX9_init_79 (by decide) ?_
  refine va_newa (atype := .boolean) (a0 := (30, .inl (fun _ => 0))) hx hb (hts _ w_ar_boolean) (ty := .boolean) rfl hK hP hD hS hA (fun _ => rfl) (by decide) (by decide) (by decide) (by decide) (by decide) dX9_init_81 (fun q81 cA H hK3 hP hD hS => ?_)
  have ec : cZ = cA := (ra_Z (hK3.2 3 _ rfl).2 (hK.2 2 _ rfl).2).symm
  subst ec
  have hP : va_P D vwCl [(h0, .inr (9, [.ref q7, .ref q14, .ref q23, .ref q31, .ref q39, .ref q48, .ref q56, .ref q65, .ref q73, .null, .null, .int 0, .null, .null, .int 0, .int 0, .int 0, .int 0, .long 0, .int 0, .null, .int 0, .null, .null, .long 0, .int 0, .int 0, .null, .null, .null, .null, .null, .int 0, .null, .int 0])), (q7, .inl (cI, 8, .inl (fun _ => 0))), (q14, .inl (cI, 5, .inl (fun _ => 0))), (q23, .inl (cI, 144, .inl (fun _ => 0))), (q31, .inl (cI, 16, .inl (fun _ => 0))), (q39, .inl (cI, 96, .inl (fun _ => 0))), (q48, .inl (cI, 270, .inl (fun _ => 0))), (q56, .inl (cI, 16, .inl (fun _ => 0))), (q65, .inl (cI, 192, .inl (fun _ => 0))), (q73, .inl (cI, 60, .inl (fun _ => 0))), (q81, .inl (cZ, 30, .inl (fun _ => 0)))] H := hP
  have hD : va_D A [(h0, .inr (9, [.ref q7, .ref q14, .ref q23, .ref q31, .ref q39, .ref q48, .ref q56, .ref q65, .ref q73, .null, .null, .int 0, .null, .null, .int 0, .int 0, .int 0, .int 0, .long 0, .int 0, .null, .int 0, .null, .null, .long 0, .int 0, .int 0, .null, .null, .null, .null, .null, .int 0, .null, .int 0])), (q7, .inl (cI, 8, .inl (fun _ => 0))), (q14, .inl (cI, 5, .inl (fun _ => 0))), (q23, .inl (cI, 144, .inl (fun _ => 0))), (q31, .inl (cI, 16, .inl (fun _ => 0))), (q39, .inl (cI, 96, .inl (fun _ => 0))), (q48, .inl (cI, 270, .inl (fun _ => 0))), (q56, .inl (cI, 16, .inl (fun _ => 0))), (q65, .inl (cI, 192, .inl (fun _ => 0))), (q73, .inl (cI, 60, .inl (fun _ => 0))), (q81, .inl (cZ, 30, .inl (fun _ => 0)))] := hD
  obtain ⟨n1, n2, n3, n4⟩ := nC_of (c := 9) rfl
  obtain ⟨C0, T0, N0, fl1, fl2, fl3⟩ := fl_9_37
  cases fl1
  refine va_putF (ci := 9) (v := .ref q81) (ty := tyC 9 9) hx hb hts n2 (tyC 9) n3 n4 hown hK hP hD hS 0 rfl rfl 9 fl2 (hts _ fl3) (fun _ z => z) rfl hin rfl (n3 9 fl2) (rfl) (rfl) (Nat.le_of_ble_eq_true rfl) dX9_init_83 (fun H locs hP hD hS => ?_)
  have hP : va_P D vwCl [(h0, .inr (9, [.ref q7, .ref q14, .ref q23, .ref q31, .ref q39, .ref q48, .ref q56, .ref q65, .ref q73, .ref q81, .null, .int 0, .null, .null, .int 0, .int 0, .int 0, .int 0, .long 0, .int 0, .null, .int 0, .null, .null, .long 0, .int 0, .int 0, .null, .null, .null, .null, .null, .int 0, .null, .int 0])), (q7, .inl (cI, 8, .inl (fun _ => 0))), (q14, .inl (cI, 5, .inl (fun _ => 0))), (q23, .inl (cI, 144, .inl (fun _ => 0))), (q31, .inl (cI, 16, .inl (fun _ => 0))), (q39, .inl (cI, 96, .inl (fun _ => 0))), (q48, .inl (cI, 270, .inl (fun _ => 0))), (q56, .inl (cI, 16, .inl (fun _ => 0))), (q65, .inl (cI, 192, .inl (fun _ => 0))), (q73, .inl (cI, 60, .inl (fun _ => 0))), (q81, .inl (cZ, 30, .inl (fun _ => 0)))] H := hP
  have hD : va_D A [(h0, .inr (9, [.ref q7, .ref q14, .ref q23, .ref q31, .ref q39, .ref q48, .ref q56, .ref q65, .ref q73, .ref q81, .null, .int 0, .null, .null, .int 0, .int 0, .int 0, .int 0, .long 0, .int 0, .null, .int 0, .null, .null, .long 0, .int 0, .int 0, .null, .null, .null, .null, .null, .int 0, .null, .int 0])), (q7, .inl (cI, 8, .inl (fun _ => 0))), (q14, .inl (cI, 5, .inl (fun _ => 0))), (q23, .inl (cI, 144, .inl (fun _ => 0))), (q31, .inl (cI, 16, .inl (fun _ => 0))), (q39, .inl (cI, 96, .inl (fun _ => 0))), (q48, .inl (cI, 270, .inl (fun _ => 0))), (q56, .inl (cI, 16, .inl (fun _ => 0))), (q65, .inl (cI, 192, .inl (fun _ => 0))), (q73, .inl (cI, 60, .inl (fun _ => 0))), (q81, .inl (cZ, 30, .inl (fun _ => 0)))] := hD
  refine lv_aload_n hx hb dX9_init_86 rfl (lv_at hl 0 rfl) ?_
  refine lv_iconst hx hb (v := 4) dX9_init_87 (by decide) ?_
  refine va_newa (atype := .int) (a0 := (4, .inl (fun _ => 0))) hx hb (hts _ w_ar_int) (ty := .int) rfl hK hP hD hS hA (fun _ => rfl) (by decide) (by decide) (by decide) (by decide) (by decide) dX9_init_88 (fun q88 cA H hK3 hP hD hS => ?_)
  have ec : cI = cA := (ra_I (hK3.2 3 _ rfl).2 (hK.2 0 _ rfl).2).symm
  subst ec
  have hP : va_P D vwCl [(h0, .inr (9, [.ref q7, .ref q14, .ref q23, .ref q31, .ref q39, .ref q48, .ref q56, .ref q65, .ref q73, .ref q81, .null, .int 0, .null, .null, .int 0, .int 0, .int 0, .int 0, .long 0, .int 0, .null, .int 0, .null, .null, .long 0, .int 0, .int 0, .null, .null, .null, .null, .null, .int 0, .null, .int 0])), (q7, .inl (cI, 8, .inl (fun _ => 0))), (q14, .inl (cI, 5, .inl (fun _ => 0))), (q23, .inl (cI, 144, .inl (fun _ => 0))), (q31, .inl (cI, 16, .inl (fun _ => 0))), (q39, .inl (cI, 96, .inl (fun _ => 0))), (q48, .inl (cI, 270, .inl (fun _ => 0))), (q56, .inl (cI, 16, .inl (fun _ => 0))), (q65, .inl (cI, 192, .inl (fun _ => 0))), (q73, .inl (cI, 60, .inl (fun _ => 0))), (q81, .inl (cZ, 30, .inl (fun _ => 0))), (q88, .inl (cI, 4, .inl (fun _ => 0)))] H := hP
  have hD : va_D A [(h0, .inr (9, [.ref q7, .ref q14, .ref q23, .ref q31, .ref q39, .ref q48, .ref q56, .ref q65, .ref q73, .ref q81, .null, .int 0, .null, .null, .int 0, .int 0, .int 0, .int 0, .long 0, .int 0, .null, .int 0, .null, .null, .long 0, .int 0, .int 0, .null, .null, .null, .null, .null, .int 0, .null, .int 0])), (q7, .inl (cI, 8, .inl (fun _ => 0))), (q14, .inl (cI, 5, .inl (fun _ => 0))), (q23, .inl (cI, 144, .inl (fun _ => 0))), (q31, .inl (cI, 16, .inl (fun _ => 0))), (q39, .inl (cI, 96, .inl (fun _ => 0))), (q48, .inl (cI, 270, .inl (fun _ => 0))), (q56, .inl (cI, 16, .inl (fun _ => 0))), (q65, .inl (cI, 192, .inl (fun _ => 0))), (q73, .inl (cI, 60, .inl (fun _ => 0))), (q81, .inl (cZ, 30, .inl (fun _ => 0))), (q88, .inl (cI, 4, .inl (fun _ => 0)))] := hD
  obtain ⟨n1, n2, n3, n4⟩ := nC_of (c := 9) rfl
  obtain ⟨C0, T0, N0, fl1, fl2, fl3⟩ := fl_9_41
  cases fl1
  refine va_putF (ci := 9) (v := .ref q88) (ty := tyC 9 10) hx hb hts n2 (tyC 9) n3 n4 hown hK hP hD hS 0 rfl rfl 10 fl2 (hts _ fl3) (fun _ z => z) rfl hin rfl (n3 10 fl2) (rfl) (rfl) (Nat.le_of_ble_eq_true rfl) dX9_init_90 (fun H locs hP hD hS => ?_)
  have hP : va_P D vwCl [(h0, .inr (9, [.ref q7, .ref q14, .ref q23, .ref q31, .ref q39, .ref q48, .ref q56, .ref q65, .ref q73, .ref q81, .ref q88, .int 0, .null, .null, .int 0, .int 0, .int 0, .int 0, .long 0, .int 0, .null, .int 0, .null, .null, .long 0, .int 0, .int 0, .null, .null, .null, .null, .null, .int 0, .null, .int 0])), (q7, .inl (cI, 8, .inl (fun _ => 0))), (q14, .inl (cI, 5, .inl (fun _ => 0))), (q23, .inl (cI, 144, .inl (fun _ => 0))), (q31, .inl (cI, 16, .inl (fun _ => 0))), (q39, .inl (cI, 96, .inl (fun _ => 0))), (q48, .inl (cI, 270, .inl (fun _ => 0))), (q56, .inl (cI, 16, .inl (fun _ => 0))), (q65, .inl (cI, 192, .inl (fun _ => 0))), (q73, .inl (cI, 60, .inl (fun _ => 0))), (q81, .inl (cZ, 30, .inl (fun _ => 0))), (q88, .inl (cI, 4, .inl (fun _ => 0)))] H := hP
  have hD : va_D A [(h0, .inr (9, [.ref q7, .ref q14, .ref q23, .ref q31, .ref q39, .ref q48, .ref q56, .ref q65, .ref q73, .ref q81, .ref q88, .int 0, .null, .null, .int 0, .int 0, .int 0, .int 0, .long 0, .int 0, .null, .int 0, .null, .null, .long 0, .int 0, .int 0, .null, .null, .null, .null, .null, .int 0, .null, .int 0])), (q7, .inl (cI, 8, .inl (fun _ => 0))), (q14, .inl (cI, 5, .inl (fun _ => 0))), (q23, .inl (cI, 144, .inl (fun _ => 0))), (q31, .inl (cI, 16, .inl (fun _ => 0))), (q39, .inl (cI, 96, .inl (fun _ => 0))), (q48, .inl (cI, 270, .inl (fun _ => 0))), (q56, .inl (cI, 16, .inl (fun _ => 0))), (q65, .inl (cI, 192, .inl (fun _ => 0))), (q73, .inl (cI, 60, .inl (fun _ => 0))), (q81, .inl (cZ, 30, .inl (fun _ => 0))), (q88, .inl (cI, 4, .inl (fun _ => 0)))] := hD
  refine lv_aload_n hx hb dX9_init_93 rfl (lv_at hl 0 rfl) ?_
  refine lv_iconst hx hb (v := 4) dX9_init_94 (by decide) ?_
  refine va_newa (atype := .int) (a0 := (4, .inl (fun _ => 0))) hx hb (hts _ w_ar_int) (ty := .int) rfl hK hP hD hS hA (fun _ => rfl) (by decide) (by decide) (by decide) (by decide) (by decide) dX9_init_95 (fun q95 cA H hK3 hP hD hS => ?_)
  have ec : cI = cA := (ra_I (hK3.2 3 _ rfl).2 (hK.2 0 _ rfl).2).symm
  subst ec
  have hP : va_P D vwCl [(h0, .inr (9, [.ref q7, .ref q14, .ref q23, .ref q31, .ref q39, .ref q48, .ref q56, .ref q65, .ref q73, .ref q81, .ref q88, .int 0, .null, .null, .int 0, .int 0, .int 0, .int 0, .long 0, .int 0, .null, .int 0, .null, .null, .long 0, .int 0, .int 0, .null, .null, .null, .null, .null, .int 0, .null, .int 0])), (q7, .inl (cI, 8, .inl (fun _ => 0))), (q14, .inl (cI, 5, .inl (fun _ => 0))), (q23, .inl (cI, 144, .inl (fun _ => 0))), (q31, .inl (cI, 16, .inl (fun _ => 0))), (q39, .inl (cI, 96, .inl (fun _ => 0))), (q48, .inl (cI, 270, .inl (fun _ => 0))), (q56, .inl (cI, 16, .inl (fun _ => 0))), (q65, .inl (cI, 192, .inl (fun _ => 0))), (q73, .inl (cI, 60, .inl (fun _ => 0))), (q81, .inl (cZ, 30, .inl (fun _ => 0))), (q88, .inl (cI, 4, .inl (fun _ => 0))), (q95, .inl (cI, 4, .inl (fun _ => 0)))] H := hP
  have hD : va_D A [(h0, .inr (9, [.ref q7, .ref q14, .ref q23, .ref q31, .ref q39, .ref q48, .ref q56, .ref q65, .ref q73, .ref q81, .ref q88, .int 0, .null, .null, .int 0, .int 0, .int 0, .int 0, .long 0, .int 0, .null, .int 0, .null, .null, .long 0, .int 0, .int 0, .null, .null, .null, .null, .null, .int 0, .null, .int 0])), (q7, .inl (cI, 8, .inl (fun _ => 0))), (q14, .inl (cI, 5, .inl (fun _ => 0))), (q23, .inl (cI, 144, .inl (fun _ => 0))), (q31, .inl (cI, 16, .inl (fun _ => 0))), (q39, .inl (cI, 96, .inl (fun _ => 0))), (q48, .inl (cI, 270, .inl (fun _ => 0))), (q56, .inl (cI, 16, .inl (fun _ => 0))), (q65, .inl (cI, 192, .inl (fun _ => 0))), (q73, .inl (cI, 60, .inl (fun _ => 0))), (q81, .inl (cZ, 30, .inl (fun _ => 0))), (q88, .inl (cI, 4, .inl (fun _ => 0))), (q95, .inl (cI, 4, .inl (fun _ => 0)))] := hD
  obtain ⟨n1, n2, n3, n4⟩ := nC_of (c := 9) rfl
  obtain ⟨C0, T0, N0, fl1, fl2, fl3⟩ := fl_9_44
  cases fl1
  refine va_putF (ci := 9) (v := .ref q95) (ty := tyC 9 12) hx hb hts n2 (tyC 9) n3 n4 hown hK hP hD hS 0 rfl rfl 12 fl2 (hts _ fl3) (fun _ z => z) rfl hin rfl (n3 12 fl2) (rfl) (rfl) (Nat.le_of_ble_eq_true rfl) dX9_init_97 (fun H locs hP hD hS => ?_)
  have hP : va_P D vwCl [(h0, .inr (9, [.ref q7, .ref q14, .ref q23, .ref q31, .ref q39, .ref q48, .ref q56, .ref q65, .ref q73, .ref q81, .ref q88, .int 0, .ref q95, .null, .int 0, .int 0, .int 0, .int 0, .long 0, .int 0, .null, .int 0, .null, .null, .long 0, .int 0, .int 0, .null, .null, .null, .null, .null, .int 0, .null, .int 0])), (q7, .inl (cI, 8, .inl (fun _ => 0))), (q14, .inl (cI, 5, .inl (fun _ => 0))), (q23, .inl (cI, 144, .inl (fun _ => 0))), (q31, .inl (cI, 16, .inl (fun _ => 0))), (q39, .inl (cI, 96, .inl (fun _ => 0))), (q48, .inl (cI, 270, .inl (fun _ => 0))), (q56, .inl (cI, 16, .inl (fun _ => 0))), (q65, .inl (cI, 192, .inl (fun _ => 0))), (q73, .inl (cI, 60, .inl (fun _ => 0))), (q81, .inl (cZ, 30, .inl (fun _ => 0))), (q88, .inl (cI, 4, .inl (fun _ => 0))), (q95, .inl (cI, 4, .inl (fun _ => 0)))] H := hP
  have hD : va_D A [(h0, .inr (9, [.ref q7, .ref q14, .ref q23, .ref q31, .ref q39, .ref q48, .ref q56, .ref q65, .ref q73, .ref q81, .ref q88, .int 0, .ref q95, .null, .int 0, .int 0, .int 0, .int 0, .long 0, .int 0, .null, .int 0, .null, .null, .long 0, .int 0, .int 0, .null, .null, .null, .null, .null, .int 0, .null, .int 0])), (q7, .inl (cI, 8, .inl (fun _ => 0))), (q14, .inl (cI, 5, .inl (fun _ => 0))), (q23, .inl (cI, 144, .inl (fun _ => 0))), (q31, .inl (cI, 16, .inl (fun _ => 0))), (q39, .inl (cI, 96, .inl (fun _ => 0))), (q48, .inl (cI, 270, .inl (fun _ => 0))), (q56, .inl (cI, 16, .inl (fun _ => 0))), (q65, .inl (cI, 192, .inl (fun _ => 0))), (q73, .inl (cI, 60, .inl (fun _ => 0))), (q81, .inl (cZ, 30, .inl (fun _ => 0))), (q88, .inl (cI, 4, .inl (fun _ => 0))), (q95, .inl (cI, 4, .inl (fun _ => 0)))] := hD
  refine lv_aload_n hx hb dX9_init_100 rfl (lv_at hl 0 rfl) ?_
  refine lv_bipush hx hb (v := 120) dX9_init_101 (by decide) ?_
  refine va_newa (atype := .int) (a0 := (120, .inl (fun _ => 0))) hx hb (hts _ w_ar_int) (ty := .int) rfl hK hP hD hS hA (fun _ => rfl) (by decide) (by decide) (by decide) (by decide) (by decide) dX9_init_103 (fun q103 cA H hK3 hP hD hS => ?_)
  have ec : cI = cA := (ra_I (hK3.2 3 _ rfl).2 (hK.2 0 _ rfl).2).symm
  subst ec
  have hP : va_P D vwCl [(h0, .inr (9, [.ref q7, .ref q14, .ref q23, .ref q31, .ref q39, .ref q48, .ref q56, .ref q65, .ref q73, .ref q81, .ref q88, .int 0, .ref q95, .null, .int 0, .int 0, .int 0, .int 0, .long 0, .int 0, .null, .int 0, .null, .null, .long 0, .int 0, .int 0, .null, .null, .null, .null, .null, .int 0, .null, .int 0])), (q7, .inl (cI, 8, .inl (fun _ => 0))), (q14, .inl (cI, 5, .inl (fun _ => 0))), (q23, .inl (cI, 144, .inl (fun _ => 0))), (q31, .inl (cI, 16, .inl (fun _ => 0))), (q39, .inl (cI, 96, .inl (fun _ => 0))), (q48, .inl (cI, 270, .inl (fun _ => 0))), (q56, .inl (cI, 16, .inl (fun _ => 0))), (q65, .inl (cI, 192, .inl (fun _ => 0))), (q73, .inl (cI, 60, .inl (fun _ => 0))), (q81, .inl (cZ, 30, .inl (fun _ => 0))), (q88, .inl (cI, 4, .inl (fun _ => 0))), (q95, .inl (cI, 4, .inl (fun _ => 0))), (q103, .inl (cI, 120, .inl (fun _ => 0)))] H := hP
  have hD : va_D A [(h0, .inr (9, [.ref q7, .ref q14, .ref q23, .ref q31, .ref q39, .ref q48, .ref q56, .ref q65, .ref q73, .ref q81, .ref q88, .int 0, .ref q95, .null, .int 0, .int 0, .int 0, .int 0, .long 0, .int 0, .null, .int 0, .null, .null, .long 0, .int 0, .int 0, .null, .null, .null, .null, .null, .int 0, .null, .int 0])), (q7, .inl (cI, 8, .inl (fun _ => 0))), (q14, .inl (cI, 5, .inl (fun _ => 0))), (q23, .inl (cI, 144, .inl (fun _ => 0))), (q31, .inl (cI, 16, .inl (fun _ => 0))), (q39, .inl (cI, 96, .inl (fun _ => 0))), (q48, .inl (cI, 270, .inl (fun _ => 0))), (q56, .inl (cI, 16, .inl (fun _ => 0))), (q65, .inl (cI, 192, .inl (fun _ => 0))), (q73, .inl (cI, 60, .inl (fun _ => 0))), (q81, .inl (cZ, 30, .inl (fun _ => 0))), (q88, .inl (cI, 4, .inl (fun _ => 0))), (q95, .inl (cI, 4, .inl (fun _ => 0))), (q103, .inl (cI, 120, .inl (fun _ => 0)))] := hD
  obtain ⟨n1, n2, n3, n4⟩ := nC_of (c := 9) rfl
  obtain ⟨C0, T0, N0, fl1, fl2, fl3⟩ := fl_9_47
  cases fl1
  refine va_putF (ci := 9) (v := .ref q103) (ty := tyC 9 13) hx hb hts n2 (tyC 9) n3 n4 hown hK hP hD hS 0 rfl rfl 13 fl2 (hts _ fl3) (fun _ z => z) rfl hin rfl (n3 13 fl2) (rfl) (rfl) (Nat.le_of_ble_eq_true rfl) dX9_init_105 (fun H locs hP hD hS => ?_)
  have hP : va_P D vwCl [(h0, .inr (9, [.ref q7, .ref q14, .ref q23, .ref q31, .ref q39, .ref q48, .ref q56, .ref q65, .ref q73, .ref q81, .ref q88, .int 0, .ref q95, .ref q103, .int 0, .int 0, .int 0, .int 0, .long 0, .int 0, .null, .int 0, .null, .null, .long 0, .int 0, .int 0, .null, .null, .null, .null, .null, .int 0, .null, .int 0])), (q7, .inl (cI, 8, .inl (fun _ => 0))), (q14, .inl (cI, 5, .inl (fun _ => 0))), (q23, .inl (cI, 144, .inl (fun _ => 0))), (q31, .inl (cI, 16, .inl (fun _ => 0))), (q39, .inl (cI, 96, .inl (fun _ => 0))), (q48, .inl (cI, 270, .inl (fun _ => 0))), (q56, .inl (cI, 16, .inl (fun _ => 0))), (q65, .inl (cI, 192, .inl (fun _ => 0))), (q73, .inl (cI, 60, .inl (fun _ => 0))), (q81, .inl (cZ, 30, .inl (fun _ => 0))), (q88, .inl (cI, 4, .inl (fun _ => 0))), (q95, .inl (cI, 4, .inl (fun _ => 0))), (q103, .inl (cI, 120, .inl (fun _ => 0)))] H := hP
  have hD : va_D A [(h0, .inr (9, [.ref q7, .ref q14, .ref q23, .ref q31, .ref q39, .ref q48, .ref q56, .ref q65, .ref q73, .ref q81, .ref q88, .int 0, .ref q95, .ref q103, .int 0, .int 0, .int 0, .int 0, .long 0, .int 0, .null, .int 0, .null, .null, .long 0, .int 0, .int 0, .null, .null, .null, .null, .null, .int 0, .null, .int 0])), (q7, .inl (cI, 8, .inl (fun _ => 0))), (q14, .inl (cI, 5, .inl (fun _ => 0))), (q23, .inl (cI, 144, .inl (fun _ => 0))), (q31, .inl (cI, 16, .inl (fun _ => 0))), (q39, .inl (cI, 96, .inl (fun _ => 0))), (q48, .inl (cI, 270, .inl (fun _ => 0))), (q56, .inl (cI, 16, .inl (fun _ => 0))), (q65, .inl (cI, 192, .inl (fun _ => 0))), (q73, .inl (cI, 60, .inl (fun _ => 0))), (q81, .inl (cZ, 30, .inl (fun _ => 0))), (q88, .inl (cI, 4, .inl (fun _ => 0))), (q95, .inl (cI, 4, .inl (fun _ => 0))), (q103, .inl (cI, 120, .inl (fun _ => 0)))] := hD
  refine lv_aload_n hx hb dX9_init_108 rfl (lv_at hl 0 rfl) ?_
  refine lv_bipush hx hb (v := 16) dX9_init_109 (by decide) ?_
  refine va_newa (atype := .int) (a0 := (16, .inl (fun _ => 0))) hx hb (hts _ w_ar_int) (ty := .int) rfl hK hP hD hS hA (fun _ => rfl) (by decide) (by decide) (by decide) (by decide) (by decide) dX9_init_111 (fun q111 cA H hK3 hP hD hS => ?_)
  have ec : cI = cA := (ra_I (hK3.2 3 _ rfl).2 (hK.2 0 _ rfl).2).symm
  subst ec
  have hP : va_P D vwCl [(h0, .inr (9, [.ref q7, .ref q14, .ref q23, .ref q31, .ref q39, .ref q48, .ref q56, .ref q65, .ref q73, .ref q81, .ref q88, .int 0, .ref q95, .ref q103, .int 0, .int 0, .int 0, .int 0, .long 0, .int 0, .null, .int 0, .null, .null, .long 0, .int 0, .int 0, .null, .null, .null, .null, .null, .int 0, .null, .int 0])), (q7, .inl (cI, 8, .inl (fun _ => 0))), (q14, .inl (cI, 5, .inl (fun _ => 0))), (q23, .inl (cI, 144, .inl (fun _ => 0))), (q31, .inl (cI, 16, .inl (fun _ => 0))), (q39, .inl (cI, 96, .inl (fun _ => 0))), (q48, .inl (cI, 270, .inl (fun _ => 0))), (q56, .inl (cI, 16, .inl (fun _ => 0))), (q65, .inl (cI, 192, .inl (fun _ => 0))), (q73, .inl (cI, 60, .inl (fun _ => 0))), (q81, .inl (cZ, 30, .inl (fun _ => 0))), (q88, .inl (cI, 4, .inl (fun _ => 0))), (q95, .inl (cI, 4, .inl (fun _ => 0))), (q103, .inl (cI, 120, .inl (fun _ => 0))), (q111, .inl (cI, 16, .inl (fun _ => 0)))] H := hP
  have hD : va_D A [(h0, .inr (9, [.ref q7, .ref q14, .ref q23, .ref q31, .ref q39, .ref q48, .ref q56, .ref q65, .ref q73, .ref q81, .ref q88, .int 0, .ref q95, .ref q103, .int 0, .int 0, .int 0, .int 0, .long 0, .int 0, .null, .int 0, .null, .null, .long 0, .int 0, .int 0, .null, .null, .null, .null, .null, .int 0, .null, .int 0])), (q7, .inl (cI, 8, .inl (fun _ => 0))), (q14, .inl (cI, 5, .inl (fun _ => 0))), (q23, .inl (cI, 144, .inl (fun _ => 0))), (q31, .inl (cI, 16, .inl (fun _ => 0))), (q39, .inl (cI, 96, .inl (fun _ => 0))), (q48, .inl (cI, 270, .inl (fun _ => 0))), (q56, .inl (cI, 16, .inl (fun _ => 0))), (q65, .inl (cI, 192, .inl (fun _ => 0))), (q73, .inl (cI, 60, .inl (fun _ => 0))), (q81, .inl (cZ, 30, .inl (fun _ => 0))), (q88, .inl (cI, 4, .inl (fun _ => 0))), (q95, .inl (cI, 4, .inl (fun _ => 0))), (q103, .inl (cI, 120, .inl (fun _ => 0))), (q111, .inl (cI, 16, .inl (fun _ => 0)))] := hD
  obtain ⟨n1, n2, n3, n4⟩ := nC_of (c := 9) rfl
  obtain ⟨C0, T0, N0, fl1, fl2, fl3⟩ := fl_9_50
  cases fl1
  refine va_putF (ci := 9) (v := .ref q111) (ty := tyC 9 20) hx hb hts n2 (tyC 9) n3 n4 hown hK hP hD hS 0 rfl rfl 20 fl2 (hts _ fl3) (fun _ z => z) rfl hin rfl (n3 20 fl2) (rfl) (rfl) (Nat.le_of_ble_eq_true rfl) dX9_init_113 (fun H locs hP hD hS => ?_)
  have hP : va_P D vwCl [(h0, .inr (9, [.ref q7, .ref q14, .ref q23, .ref q31, .ref q39, .ref q48, .ref q56, .ref q65, .ref q73, .ref q81, .ref q88, .int 0, .ref q95, .ref q103, .int 0, .int 0, .int 0, .int 0, .long 0, .int 0, .ref q111, .int 0, .null, .null, .long 0, .int 0, .int 0, .null, .null, .null, .null, .null, .int 0, .null, .int 0])), (q7, .inl (cI, 8, .inl (fun _ => 0))), (q14, .inl (cI, 5, .inl (fun _ => 0))), (q23, .inl (cI, 144, .inl (fun _ => 0))), (q31, .inl (cI, 16, .inl (fun _ => 0))), (q39, .inl (cI, 96, .inl (fun _ => 0))), (q48, .inl (cI, 270, .inl (fun _ => 0))), (q56, .inl (cI, 16, .inl (fun _ => 0))), (q65, .inl (cI, 192, .inl (fun _ => 0))), (q73, .inl (cI, 60, .inl (fun _ => 0))), (q81, .inl (cZ, 30, .inl (fun _ => 0))), (q88, .inl (cI, 4, .inl (fun _ => 0))), (q95, .inl (cI, 4, .inl (fun _ => 0))), (q103, .inl (cI, 120, .inl (fun _ => 0))), (q111, .inl (cI, 16, .inl (fun _ => 0)))] H := hP
  have hD : va_D A [(h0, .inr (9, [.ref q7, .ref q14, .ref q23, .ref q31, .ref q39, .ref q48, .ref q56, .ref q65, .ref q73, .ref q81, .ref q88, .int 0, .ref q95, .ref q103, .int 0, .int 0, .int 0, .int 0, .long 0, .int 0, .ref q111, .int 0, .null, .null, .long 0, .int 0, .int 0, .null, .null, .null, .null, .null, .int 0, .null, .int 0])), (q7, .inl (cI, 8, .inl (fun _ => 0))), (q14, .inl (cI, 5, .inl (fun _ => 0))), (q23, .inl (cI, 144, .inl (fun _ => 0))), (q31, .inl (cI, 16, .inl (fun _ => 0))), (q39, .inl (cI, 96, .inl (fun _ => 0))), (q48, .inl (cI, 270, .inl (fun _ => 0))), (q56, .inl (cI, 16, .inl (fun _ => 0))), (q65, .inl (cI, 192, .inl (fun _ => 0))), (q73, .inl (cI, 60, .inl (fun _ => 0))), (q81, .inl (cZ, 30, .inl (fun _ => 0))), (q88, .inl (cI, 4, .inl (fun _ => 0))), (q95, .inl (cI, 4, .inl (fun _ => 0))), (q103, .inl (cI, 120, .inl (fun _ => 0))), (q111, .inl (cI, 16, .inl (fun _ => 0)))] := hD
  refine lv_aload_n hx hb dX9_init_116 rfl (lv_at hl 0 rfl) ?_
  refine lv_iconst hx hb (v := 3) dX9_init_117 (by decide) ?_
  refine va_newa (atype := .int) (a0 := (3, .inl (fun _ => 0))) hx hb (hts _ w_ar_int) (ty := .int) rfl hK hP hD hS hA (fun _ => rfl) (by decide) (by decide) (by decide) (by decide) (by decide) dX9_init_118 (fun q118 cA H hK3 hP hD hS => ?_)
  have ec : cI = cA := (ra_I (hK3.2 3 _ rfl).2 (hK.2 0 _ rfl).2).symm
  subst ec
  have hP : va_P D vwCl [(h0, .inr (9, [.ref q7, .ref q14, .ref q23, .ref q31, .ref q39, .ref q48, .ref q56, .ref q65, .ref q73, .ref q81, .ref q88, .int 0, .ref q95, .ref q103, .int 0, .int 0, .int 0, .int 0, .long 0, .int 0, .ref q111, .int 0, .null, .null, .long 0, .int 0, .int 0, .null, .null, .null, .null, .null, .int 0, .null, .int 0])), (q7, .inl (cI, 8, .inl (fun _ => 0))), (q14, .inl (cI, 5, .inl (fun _ => 0))), (q23, .inl (cI, 144, .inl (fun _ => 0))), (q31, .inl (cI, 16, .inl (fun _ => 0))), (q39, .inl (cI, 96, .inl (fun _ => 0))), (q48, .inl (cI, 270, .inl (fun _ => 0))), (q56, .inl (cI, 16, .inl (fun _ => 0))), (q65, .inl (cI, 192, .inl (fun _ => 0))), (q73, .inl (cI, 60, .inl (fun _ => 0))), (q81, .inl (cZ, 30, .inl (fun _ => 0))), (q88, .inl (cI, 4, .inl (fun _ => 0))), (q95, .inl (cI, 4, .inl (fun _ => 0))), (q103, .inl (cI, 120, .inl (fun _ => 0))), (q111, .inl (cI, 16, .inl (fun _ => 0))), (q118, .inl (cI, 3, .inl (fun _ => 0)))] H := hP
  have hD : va_D A [(h0, .inr (9, [.ref q7, .ref q14, .ref q23, .ref q31, .ref q39, .ref q48, .ref q56, .ref q65, .ref q73, .ref q81, .ref q88, .int 0, .ref q95, .ref q103, .int 0, .int 0, .int 0, .int 0, .long 0, .int 0, .ref q111, .int 0, .null, .null, .long 0, .int 0, .int 0, .null, .null, .null, .null, .null, .int 0, .null, .int 0])), (q7, .inl (cI, 8, .inl (fun _ => 0))), (q14, .inl (cI, 5, .inl (fun _ => 0))), (q23, .inl (cI, 144, .inl (fun _ => 0))), (q31, .inl (cI, 16, .inl (fun _ => 0))), (q39, .inl (cI, 96, .inl (fun _ => 0))), (q48, .inl (cI, 270, .inl (fun _ => 0))), (q56, .inl (cI, 16, .inl (fun _ => 0))), (q65, .inl (cI, 192, .inl (fun _ => 0))), (q73, .inl (cI, 60, .inl (fun _ => 0))), (q81, .inl (cZ, 30, .inl (fun _ => 0))), (q88, .inl (cI, 4, .inl (fun _ => 0))), (q95, .inl (cI, 4, .inl (fun _ => 0))), (q103, .inl (cI, 120, .inl (fun _ => 0))), (q111, .inl (cI, 16, .inl (fun _ => 0))), (q118, .inl (cI, 3, .inl (fun _ => 0)))] := hD
  obtain ⟨n1, n2, n3, n4⟩ := nC_of (c := 9) rfl
  obtain ⟨C0, T0, N0, fl1, fl2, fl3⟩ := fl_9_53
  cases fl1
  refine va_putF (ci := 9) (v := .ref q118) (ty := tyC 9 22) hx hb hts n2 (tyC 9) n3 n4 hown hK hP hD hS 0 rfl rfl 22 fl2 (hts _ fl3) (fun _ z => z) rfl hin rfl (n3 22 fl2) (rfl) (rfl) (Nat.le_of_ble_eq_true rfl) dX9_init_120 (fun H locs hP hD hS => ?_)
  have hP : va_P D vwCl [(h0, .inr (9, [.ref q7, .ref q14, .ref q23, .ref q31, .ref q39, .ref q48, .ref q56, .ref q65, .ref q73, .ref q81, .ref q88, .int 0, .ref q95, .ref q103, .int 0, .int 0, .int 0, .int 0, .long 0, .int 0, .ref q111, .int 0, .ref q118, .null, .long 0, .int 0, .int 0, .null, .null, .null, .null, .null, .int 0, .null, .int 0])), (q7, .inl (cI, 8, .inl (fun _ => 0))), (q14, .inl (cI, 5, .inl (fun _ => 0))), (q23, .inl (cI, 144, .inl (fun _ => 0))), (q31, .inl (cI, 16, .inl (fun _ => 0))), (q39, .inl (cI, 96, .inl (fun _ => 0))), (q48, .inl (cI, 270, .inl (fun _ => 0))), (q56, .inl (cI, 16, .inl (fun _ => 0))), (q65, .inl (cI, 192, .inl (fun _ => 0))), (q73, .inl (cI, 60, .inl (fun _ => 0))), (q81, .inl (cZ, 30, .inl (fun _ => 0))), (q88, .inl (cI, 4, .inl (fun _ => 0))), (q95, .inl (cI, 4, .inl (fun _ => 0))), (q103, .inl (cI, 120, .inl (fun _ => 0))), (q111, .inl (cI, 16, .inl (fun _ => 0))), (q118, .inl (cI, 3, .inl (fun _ => 0)))] H := hP
  have hD : va_D A [(h0, .inr (9, [.ref q7, .ref q14, .ref q23, .ref q31, .ref q39, .ref q48, .ref q56, .ref q65, .ref q73, .ref q81, .ref q88, .int 0, .ref q95, .ref q103, .int 0, .int 0, .int 0, .int 0, .long 0, .int 0, .ref q111, .int 0, .ref q118, .null, .long 0, .int 0, .int 0, .null, .null, .null, .null, .null, .int 0, .null, .int 0])), (q7, .inl (cI, 8, .inl (fun _ => 0))), (q14, .inl (cI, 5, .inl (fun _ => 0))), (q23, .inl (cI, 144, .inl (fun _ => 0))), (q31, .inl (cI, 16, .inl (fun _ => 0))), (q39, .inl (cI, 96, .inl (fun _ => 0))), (q48, .inl (cI, 270, .inl (fun _ => 0))), (q56, .inl (cI, 16, .inl (fun _ => 0))), (q65, .inl (cI, 192, .inl (fun _ => 0))), (q73, .inl (cI, 60, .inl (fun _ => 0))), (q81, .inl (cZ, 30, .inl (fun _ => 0))), (q88, .inl (cI, 4, .inl (fun _ => 0))), (q95, .inl (cI, 4, .inl (fun _ => 0))), (q103, .inl (cI, 120, .inl (fun _ => 0))), (q111, .inl (cI, 16, .inl (fun _ => 0))), (q118, .inl (cI, 3, .inl (fun _ => 0)))] := hD
  refine lv_aload_n hx hb dX9_init_123 rfl (lv_at hl 0 rfl) ?_
  refine lv_sipush hx hb (v := 144) dX9_init_124 (by decide) ?_
  refine va_newa (atype := .long) (a0 := (144, .inr (.inl (fun _ => 0)))) hx hb (hts _ w_ar_long) (ty := .long) rfl hK hP hD hS hA (fun _ => rfl) (by decide) (by decide) (by decide) (by decide) (by decide) dX9_init_127 (fun q127 cA H hK3 hP hD hS => ?_)
  have ec : cJ = cA := (ra_J (hK3.2 3 _ rfl).2 (hK.2 1 _ rfl).2).symm
  subst ec
  have hP : va_P D vwCl [(h0, .inr (9, [.ref q7, .ref q14, .ref q23, .ref q31, .ref q39, .ref q48, .ref q56, .ref q65, .ref q73, .ref q81, .ref q88, .int 0, .ref q95, .ref q103, .int 0, .int 0, .int 0, .int 0, .long 0, .int 0, .ref q111, .int 0, .ref q118, .null, .long 0, .int 0, .int 0, .null, .null, .null, .null, .null, .int 0, .null, .int 0])), (q7, .inl (cI, 8, .inl (fun _ => 0))), (q14, .inl (cI, 5, .inl (fun _ => 0))), (q23, .inl (cI, 144, .inl (fun _ => 0))), (q31, .inl (cI, 16, .inl (fun _ => 0))), (q39, .inl (cI, 96, .inl (fun _ => 0))), (q48, .inl (cI, 270, .inl (fun _ => 0))), (q56, .inl (cI, 16, .inl (fun _ => 0))), (q65, .inl (cI, 192, .inl (fun _ => 0))), (q73, .inl (cI, 60, .inl (fun _ => 0))), (q81, .inl (cZ, 30, .inl (fun _ => 0))), (q88, .inl (cI, 4, .inl (fun _ => 0))), (q95, .inl (cI, 4, .inl (fun _ => 0))), (q103, .inl (cI, 120, .inl (fun _ => 0))), (q111, .inl (cI, 16, .inl (fun _ => 0))), (q118, .inl (cI, 3, .inl (fun _ => 0))), (q127, .inl (cJ, 144, .inr (.inl (fun _ => 0))))] H := hP
  have hD : va_D A [(h0, .inr (9, [.ref q7, .ref q14, .ref q23, .ref q31, .ref q39, .ref q48, .ref q56, .ref q65, .ref q73, .ref q81, .ref q88, .int 0, .ref q95, .ref q103, .int 0, .int 0, .int 0, .int 0, .long 0, .int 0, .ref q111, .int 0, .ref q118, .null, .long 0, .int 0, .int 0, .null, .null, .null, .null, .null, .int 0, .null, .int 0])), (q7, .inl (cI, 8, .inl (fun _ => 0))), (q14, .inl (cI, 5, .inl (fun _ => 0))), (q23, .inl (cI, 144, .inl (fun _ => 0))), (q31, .inl (cI, 16, .inl (fun _ => 0))), (q39, .inl (cI, 96, .inl (fun _ => 0))), (q48, .inl (cI, 270, .inl (fun _ => 0))), (q56, .inl (cI, 16, .inl (fun _ => 0))), (q65, .inl (cI, 192, .inl (fun _ => 0))), (q73, .inl (cI, 60, .inl (fun _ => 0))), (q81, .inl (cZ, 30, .inl (fun _ => 0))), (q88, .inl (cI, 4, .inl (fun _ => 0))), (q95, .inl (cI, 4, .inl (fun _ => 0))), (q103, .inl (cI, 120, .inl (fun _ => 0))), (q111, .inl (cI, 16, .inl (fun _ => 0))), (q118, .inl (cI, 3, .inl (fun _ => 0))), (q127, .inl (cJ, 144, .inr (.inl (fun _ => 0))))] := hD
  obtain ⟨n1, n2, n3, n4⟩ := nC_of (c := 9) rfl
  obtain ⟨C0, T0, N0, fl1, fl2, fl3⟩ := fl_9_56
  cases fl1
  refine va_putF (ci := 9) (v := .ref q127) (ty := tyC 9 23) hx hb hts n2 (tyC 9) n3 n4 hown hK hP hD hS 0 rfl rfl 23 fl2 (hts _ fl3) (fun _ z => z) rfl hin rfl (n3 23 fl2) (rfl) (rfl) (Nat.le_of_ble_eq_true rfl) dX9_init_129 (fun H locs hP hD hS => ?_)
  have hP : va_P D vwCl [(h0, .inr (9, [.ref q7, .ref q14, .ref q23, .ref q31, .ref q39, .ref q48, .ref q56, .ref q65, .ref q73, .ref q81, .ref q88, .int 0, .ref q95, .ref q103, .int 0, .int 0, .int 0, .int 0, .long 0, .int 0, .ref q111, .int 0, .ref q118, .ref q127, .long 0, .int 0, .int 0, .null, .null, .null, .null, .null, .int 0, .null, .int 0])), (q7, .inl (cI, 8, .inl (fun _ => 0))), (q14, .inl (cI, 5, .inl (fun _ => 0))), (q23, .inl (cI, 144, .inl (fun _ => 0))), (q31, .inl (cI, 16, .inl (fun _ => 0))), (q39, .inl (cI, 96, .inl (fun _ => 0))), (q48, .inl (cI, 270, .inl (fun _ => 0))), (q56, .inl (cI, 16, .inl (fun _ => 0))), (q65, .inl (cI, 192, .inl (fun _ => 0))), (q73, .inl (cI, 60, .inl (fun _ => 0))), (q81, .inl (cZ, 30, .inl (fun _ => 0))), (q88, .inl (cI, 4, .inl (fun _ => 0))), (q95, .inl (cI, 4, .inl (fun _ => 0))), (q103, .inl (cI, 120, .inl (fun _ => 0))), (q111, .inl (cI, 16, .inl (fun _ => 0))), (q118, .inl (cI, 3, .inl (fun _ => 0))), (q127, .inl (cJ, 144, .inr (.inl (fun _ => 0))))] H := hP
  have hD : va_D A [(h0, .inr (9, [.ref q7, .ref q14, .ref q23, .ref q31, .ref q39, .ref q48, .ref q56, .ref q65, .ref q73, .ref q81, .ref q88, .int 0, .ref q95, .ref q103, .int 0, .int 0, .int 0, .int 0, .long 0, .int 0, .ref q111, .int 0, .ref q118, .ref q127, .long 0, .int 0, .int 0, .null, .null, .null, .null, .null, .int 0, .null, .int 0])), (q7, .inl (cI, 8, .inl (fun _ => 0))), (q14, .inl (cI, 5, .inl (fun _ => 0))), (q23, .inl (cI, 144, .inl (fun _ => 0))), (q31, .inl (cI, 16, .inl (fun _ => 0))), (q39, .inl (cI, 96, .inl (fun _ => 0))), (q48, .inl (cI, 270, .inl (fun _ => 0))), (q56, .inl (cI, 16, .inl (fun _ => 0))), (q65, .inl (cI, 192, .inl (fun _ => 0))), (q73, .inl (cI, 60, .inl (fun _ => 0))), (q81, .inl (cZ, 30, .inl (fun _ => 0))), (q88, .inl (cI, 4, .inl (fun _ => 0))), (q95, .inl (cI, 4, .inl (fun _ => 0))), (q103, .inl (cI, 120, .inl (fun _ => 0))), (q111, .inl (cI, 16, .inl (fun _ => 0))), (q118, .inl (cI, 3, .inl (fun _ => 0))), (q127, .inl (cJ, 144, .inr (.inl (fun _ => 0))))] := hD
  refine lv_aload_n hx hb dX9_init_132 rfl (lv_at hl 0 rfl) ?_
  refine lv_sipush hx hb (v := 192) dX9_init_133 (by decide) ?_
  refine va_newa (atype := .int) (a0 := (192, .inl (fun _ => 0))) hx hb (hts _ w_ar_int) (ty := .int) rfl hK hP hD hS hA (fun _ => rfl) (by decide) (by decide) (by decide) (by decide) (by decide) dX9_init_136 (fun q136 cA H hK3 hP hD hS => ?_)
  have ec : cI = cA := (ra_I (hK3.2 3 _ rfl).2 (hK.2 0 _ rfl).2).symm
  subst ec
  have hP : va_P D vwCl [(h0, .inr (9, [.ref q7, .ref q14, .ref q23, .ref q31, .ref q39, .ref q48, .ref q56, .ref q65, .ref q73, .ref q81, .ref q88, .int 0, .ref q95, .ref q103, .int 0, .int 0, .int 0, .int 0, .long 0, .int 0, .ref q111, .int 0, .ref q118, .ref q127, .long 0, .int 0, .int 0, .null, .null, .null, .null, .null, .int 0, .null, .int 0])), (q7, .inl (cI, 8, .inl (fun _ => 0))), (q14, .inl (cI, 5, .inl (fun _ => 0))), (q23, .inl (cI, 144, .inl (fun _ => 0))), (q31, .inl (cI, 16, .inl (fun _ => 0))), (q39, .inl (cI, 96, .inl (fun _ => 0))), (q48, .inl (cI, 270, .inl (fun _ => 0))), (q56, .inl (cI, 16, .inl (fun _ => 0))), (q65, .inl (cI, 192, .inl (fun _ => 0))), (q73, .inl (cI, 60, .inl (fun _ => 0))), (q81, .inl (cZ, 30, .inl (fun _ => 0))), (q88, .inl (cI, 4, .inl (fun _ => 0))), (q95, .inl (cI, 4, .inl (fun _ => 0))), (q103, .inl (cI, 120, .inl (fun _ => 0))), (q111, .inl (cI, 16, .inl (fun _ => 0))), (q118, .inl (cI, 3, .inl (fun _ => 0))), (q127, .inl (cJ, 144, .inr (.inl (fun _ => 0)))), (q136, .inl (cI, 192, .inl (fun _ => 0)))] H := hP
  have hD : va_D A [(h0, .inr (9, [.ref q7, .ref q14, .ref q23, .ref q31, .ref q39, .ref q48, .ref q56, .ref q65, .ref q73, .ref q81, .ref q88, .int 0, .ref q95, .ref q103, .int 0, .int 0, .int 0, .int 0, .long 0, .int 0, .ref q111, .int 0, .ref q118, .ref q127, .long 0, .int 0, .int 0, .null, .null, .null, .null, .null, .int 0, .null, .int 0])), (q7, .inl (cI, 8, .inl (fun _ => 0))), (q14, .inl (cI, 5, .inl (fun _ => 0))), (q23, .inl (cI, 144, .inl (fun _ => 0))), (q31, .inl (cI, 16, .inl (fun _ => 0))), (q39, .inl (cI, 96, .inl (fun _ => 0))), (q48, .inl (cI, 270, .inl (fun _ => 0))), (q56, .inl (cI, 16, .inl (fun _ => 0))), (q65, .inl (cI, 192, .inl (fun _ => 0))), (q73, .inl (cI, 60, .inl (fun _ => 0))), (q81, .inl (cZ, 30, .inl (fun _ => 0))), (q88, .inl (cI, 4, .inl (fun _ => 0))), (q95, .inl (cI, 4, .inl (fun _ => 0))), (q103, .inl (cI, 120, .inl (fun _ => 0))), (q111, .inl (cI, 16, .inl (fun _ => 0))), (q118, .inl (cI, 3, .inl (fun _ => 0))), (q127, .inl (cJ, 144, .inr (.inl (fun _ => 0)))), (q136, .inl (cI, 192, .inl (fun _ => 0)))] := hD
  obtain ⟨n1, n2, n3, n4⟩ := nC_of (c := 9) rfl
  obtain ⟨C0, T0, N0, fl1, fl2, fl3⟩ := fl_9_60
  cases fl1
  refine va_putF (ci := 9) (v := .ref q136) (ty := tyC 9 27) hx hb hts n2 (tyC 9) n3 n4 hown hK hP hD hS 0 rfl rfl 27 fl2 (hts _ fl3) (fun _ z => z) rfl hin rfl (n3 27 fl2) (rfl) (rfl) (Nat.le_of_ble_eq_true rfl) dX9_init_138 (fun H locs hP hD hS => ?_)
  have hP : va_P D vwCl [(h0, .inr (9, [.ref q7, .ref q14, .ref q23, .ref q31, .ref q39, .ref q48, .ref q56, .ref q65, .ref q73, .ref q81, .ref q88, .int 0, .ref q95, .ref q103, .int 0, .int 0, .int 0, .int 0, .long 0, .int 0, .ref q111, .int 0, .ref q118, .ref q127, .long 0, .int 0, .int 0, .ref q136, .null, .null, .null, .null, .int 0, .null, .int 0])), (q7, .inl (cI, 8, .inl (fun _ => 0))), (q14, .inl (cI, 5, .inl (fun _ => 0))), (q23, .inl (cI, 144, .inl (fun _ => 0))), (q31, .inl (cI, 16, .inl (fun _ => 0))), (q39, .inl (cI, 96, .inl (fun _ => 0))), (q48, .inl (cI, 270, .inl (fun _ => 0))), (q56, .inl (cI, 16, .inl (fun _ => 0))), (q65, .inl (cI, 192, .inl (fun _ => 0))), (q73, .inl (cI, 60, .inl (fun _ => 0))), (q81, .inl (cZ, 30, .inl (fun _ => 0))), (q88, .inl (cI, 4, .inl (fun _ => 0))), (q95, .inl (cI, 4, .inl (fun _ => 0))), (q103, .inl (cI, 120, .inl (fun _ => 0))), (q111, .inl (cI, 16, .inl (fun _ => 0))), (q118, .inl (cI, 3, .inl (fun _ => 0))), (q127, .inl (cJ, 144, .inr (.inl (fun _ => 0)))), (q136, .inl (cI, 192, .inl (fun _ => 0)))] H := hP
  have hD : va_D A [(h0, .inr (9, [.ref q7, .ref q14, .ref q23, .ref q31, .ref q39, .ref q48, .ref q56, .ref q65, .ref q73, .ref q81, .ref q88, .int 0, .ref q95, .ref q103, .int 0, .int 0, .int 0, .int 0, .long 0, .int 0, .ref q111, .int 0, .ref q118, .ref q127, .long 0, .int 0, .int 0, .ref q136, .null, .null, .null, .null, .int 0, .null, .int 0])), (q7, .inl (cI, 8, .inl (fun _ => 0))), (q14, .inl (cI, 5, .inl (fun _ => 0))), (q23, .inl (cI, 144, .inl (fun _ => 0))), (q31, .inl (cI, 16, .inl (fun _ => 0))), (q39, .inl (cI, 96, .inl (fun _ => 0))), (q48, .inl (cI, 270, .inl (fun _ => 0))), (q56, .inl (cI, 16, .inl (fun _ => 0))), (q65, .inl (cI, 192, .inl (fun _ => 0))), (q73, .inl (cI, 60, .inl (fun _ => 0))), (q81, .inl (cZ, 30, .inl (fun _ => 0))), (q88, .inl (cI, 4, .inl (fun _ => 0))), (q95, .inl (cI, 4, .inl (fun _ => 0))), (q103, .inl (cI, 120, .inl (fun _ => 0))), (q111, .inl (cI, 16, .inl (fun _ => 0))), (q118, .inl (cI, 3, .inl (fun _ => 0))), (q127, .inl (cJ, 144, .inr (.inl (fun _ => 0)))), (q136, .inl (cI, 192, .inl (fun _ => 0)))] := hD
  refine lv_aload_n hx hb dX9_init_141 rfl (lv_at hl 0 rfl) ?_
  refine lv_iconst hx hb (v := 4) dX9_init_142 (by decide) ?_
  refine va_newa (atype := .int) (a0 := (4, .inl (fun _ => 0))) hx hb (hts _ w_ar_int) (ty := .int) rfl hK hP hD hS hA (fun _ => rfl) (by decide) (by decide) (by decide) (by decide) (by decide) dX9_init_143 (fun q143 cA H hK3 hP hD hS => ?_)
  have ec : cI = cA := (ra_I (hK3.2 3 _ rfl).2 (hK.2 0 _ rfl).2).symm
  subst ec
  have hP : va_P D vwCl [(h0, .inr (9, [.ref q7, .ref q14, .ref q23, .ref q31, .ref q39, .ref q48, .ref q56, .ref q65, .ref q73, .ref q81, .ref q88, .int 0, .ref q95, .ref q103, .int 0, .int 0, .int 0, .int 0, .long 0, .int 0, .ref q111, .int 0, .ref q118, .ref q127, .long 0, .int 0, .int 0, .ref q136, .null, .null, .null, .null, .int 0, .null, .int 0])), (q7, .inl (cI, 8, .inl (fun _ => 0))), (q14, .inl (cI, 5, .inl (fun _ => 0))), (q23, .inl (cI, 144, .inl (fun _ => 0))), (q31, .inl (cI, 16, .inl (fun _ => 0))), (q39, .inl (cI, 96, .inl (fun _ => 0))), (q48, .inl (cI, 270, .inl (fun _ => 0))), (q56, .inl (cI, 16, .inl (fun _ => 0))), (q65, .inl (cI, 192, .inl (fun _ => 0))), (q73, .inl (cI, 60, .inl (fun _ => 0))), (q81, .inl (cZ, 30, .inl (fun _ => 0))), (q88, .inl (cI, 4, .inl (fun _ => 0))), (q95, .inl (cI, 4, .inl (fun _ => 0))), (q103, .inl (cI, 120, .inl (fun _ => 0))), (q111, .inl (cI, 16, .inl (fun _ => 0))), (q118, .inl (cI, 3, .inl (fun _ => 0))), (q127, .inl (cJ, 144, .inr (.inl (fun _ => 0)))), (q136, .inl (cI, 192, .inl (fun _ => 0))), (q143, .inl (cI, 4, .inl (fun _ => 0)))] H := hP
  have hD : va_D A [(h0, .inr (9, [.ref q7, .ref q14, .ref q23, .ref q31, .ref q39, .ref q48, .ref q56, .ref q65, .ref q73, .ref q81, .ref q88, .int 0, .ref q95, .ref q103, .int 0, .int 0, .int 0, .int 0, .long 0, .int 0, .ref q111, .int 0, .ref q118, .ref q127, .long 0, .int 0, .int 0, .ref q136, .null, .null, .null, .null, .int 0, .null, .int 0])), (q7, .inl (cI, 8, .inl (fun _ => 0))), (q14, .inl (cI, 5, .inl (fun _ => 0))), (q23, .inl (cI, 144, .inl (fun _ => 0))), (q31, .inl (cI, 16, .inl (fun _ => 0))), (q39, .inl (cI, 96, .inl (fun _ => 0))), (q48, .inl (cI, 270, .inl (fun _ => 0))), (q56, .inl (cI, 16, .inl (fun _ => 0))), (q65, .inl (cI, 192, .inl (fun _ => 0))), (q73, .inl (cI, 60, .inl (fun _ => 0))), (q81, .inl (cZ, 30, .inl (fun _ => 0))), (q88, .inl (cI, 4, .inl (fun _ => 0))), (q95, .inl (cI, 4, .inl (fun _ => 0))), (q103, .inl (cI, 120, .inl (fun _ => 0))), (q111, .inl (cI, 16, .inl (fun _ => 0))), (q118, .inl (cI, 3, .inl (fun _ => 0))), (q127, .inl (cJ, 144, .inr (.inl (fun _ => 0)))), (q136, .inl (cI, 192, .inl (fun _ => 0))), (q143, .inl (cI, 4, .inl (fun _ => 0)))] := hD
  obtain ⟨n1, n2, n3, n4⟩ := nC_of (c := 9) rfl
  obtain ⟨C0, T0, N0, fl1, fl2, fl3⟩ := fl_9_63
  cases fl1
  refine va_putF (ci := 9) (v := .ref q143) (ty := tyC 9 28) hx hb hts n2 (tyC 9) n3 n4 hown hK hP hD hS 0 rfl rfl 28 fl2 (hts _ fl3) (fun _ z => z) rfl hin rfl (n3 28 fl2) (rfl) (rfl) (Nat.le_of_ble_eq_true rfl) dX9_init_145 (fun H locs hP hD hS => ?_)
  have hP : va_P D vwCl [(h0, .inr (9, [.ref q7, .ref q14, .ref q23, .ref q31, .ref q39, .ref q48, .ref q56, .ref q65, .ref q73, .ref q81, .ref q88, .int 0, .ref q95, .ref q103, .int 0, .int 0, .int 0, .int 0, .long 0, .int 0, .ref q111, .int 0, .ref q118, .ref q127, .long 0, .int 0, .int 0, .ref q136, .ref q143, .null, .null, .null, .int 0, .null, .int 0])), (q7, .inl (cI, 8, .inl (fun _ => 0))), (q14, .inl (cI, 5, .inl (fun _ => 0))), (q23, .inl (cI, 144, .inl (fun _ => 0))), (q31, .inl (cI, 16, .inl (fun _ => 0))), (q39, .inl (cI, 96, .inl (fun _ => 0))), (q48, .inl (cI, 270, .inl (fun _ => 0))), (q56, .inl (cI, 16, .inl (fun _ => 0))), (q65, .inl (cI, 192, .inl (fun _ => 0))), (q73, .inl (cI, 60, .inl (fun _ => 0))), (q81, .inl (cZ, 30, .inl (fun _ => 0))), (q88, .inl (cI, 4, .inl (fun _ => 0))), (q95, .inl (cI, 4, .inl (fun _ => 0))), (q103, .inl (cI, 120, .inl (fun _ => 0))), (q111, .inl (cI, 16, .inl (fun _ => 0))), (q118, .inl (cI, 3, .inl (fun _ => 0))), (q127, .inl (cJ, 144, .inr (.inl (fun _ => 0)))), (q136, .inl (cI, 192, .inl (fun _ => 0))), (q143, .inl (cI, 4, .inl (fun _ => 0)))] H := hP
  have hD : va_D A [(h0, .inr (9, [.ref q7, .ref q14, .ref q23, .ref q31, .ref q39, .ref q48, .ref q56, .ref q65, .ref q73, .ref q81, .ref q88, .int 0, .ref q95, .ref q103, .int 0, .int 0, .int 0, .int 0, .long 0, .int 0, .ref q111, .int 0, .ref q118, .ref q127, .long 0, .int 0, .int 0, .ref q136, .ref q143, .null, .null, .null, .int 0, .null, .int 0])), (q7, .inl (cI, 8, .inl (fun _ => 0))), (q14, .inl (cI, 5, .inl (fun _ => 0))), (q23, .inl (cI, 144, .inl (fun _ => 0))), (q31, .inl (cI, 16, .inl (fun _ => 0))), (q39, .inl (cI, 96, .inl (fun _ => 0))), (q48, .inl (cI, 270, .inl (fun _ => 0))), (q56, .inl (cI, 16, .inl (fun _ => 0))), (q65, .inl (cI, 192, .inl (fun _ => 0))), (q73, .inl (cI, 60, .inl (fun _ => 0))), (q81, .inl (cZ, 30, .inl (fun _ => 0))), (q88, .inl (cI, 4, .inl (fun _ => 0))), (q95, .inl (cI, 4, .inl (fun _ => 0))), (q103, .inl (cI, 120, .inl (fun _ => 0))), (q111, .inl (cI, 16, .inl (fun _ => 0))), (q118, .inl (cI, 3, .inl (fun _ => 0))), (q127, .inl (cJ, 144, .inr (.inl (fun _ => 0)))), (q136, .inl (cI, 192, .inl (fun _ => 0))), (q143, .inl (cI, 4, .inl (fun _ => 0)))] := hD
  refine lv_aload_n hx hb dX9_init_148 rfl (lv_at hl 0 rfl) ?_
  refine lv_iconst hx hb (v := 4) dX9_init_149 (by decide) ?_
  refine va_newa (atype := .int) (a0 := (4, .inl (fun _ => 0))) hx hb (hts _ w_ar_int) (ty := .int) rfl hK hP hD hS hA (fun _ => rfl) (by decide) (by decide) (by decide) (by decide) (by decide) dX9_init_150 (fun q150 cA H hK3 hP hD hS => ?_)
  have ec : cI = cA := (ra_I (hK3.2 3 _ rfl).2 (hK.2 0 _ rfl).2).symm
  subst ec
  have hP : va_P D vwCl [(h0, .inr (9, [.ref q7, .ref q14, .ref q23, .ref q31, .ref q39, .ref q48, .ref q56, .ref q65, .ref q73, .ref q81, .ref q88, .int 0, .ref q95, .ref q103, .int 0, .int 0, .int 0, .int 0, .long 0, .int 0, .ref q111, .int 0, .ref q118, .ref q127, .long 0, .int 0, .int 0, .ref q136, .ref q143, .null, .null, .null, .int 0, .null, .int 0])), (q7, .inl (cI, 8, .inl (fun _ => 0))), (q14, .inl (cI, 5, .inl (fun _ => 0))), (q23, .inl (cI, 144, .inl (fun _ => 0))), (q31, .inl (cI, 16, .inl (fun _ => 0))), (q39, .inl (cI, 96, .inl (fun _ => 0))), (q48, .inl (cI, 270, .inl (fun _ => 0))), (q56, .inl (cI, 16, .inl (fun _ => 0))), (q65, .inl (cI, 192, .inl (fun _ => 0))), (q73, .inl (cI, 60, .inl (fun _ => 0))), (q81, .inl (cZ, 30, .inl (fun _ => 0))), (q88, .inl (cI, 4, .inl (fun _ => 0))), (q95, .inl (cI, 4, .inl (fun _ => 0))), (q103, .inl (cI, 120, .inl (fun _ => 0))), (q111, .inl (cI, 16, .inl (fun _ => 0))), (q118, .inl (cI, 3, .inl (fun _ => 0))), (q127, .inl (cJ, 144, .inr (.inl (fun _ => 0)))), (q136, .inl (cI, 192, .inl (fun _ => 0))), (q143, .inl (cI, 4, .inl (fun _ => 0))), (q150, .inl (cI, 4, .inl (fun _ => 0)))] H := hP
  have hD : va_D A [(h0, .inr (9, [.ref q7, .ref q14, .ref q23, .ref q31, .ref q39, .ref q48, .ref q56, .ref q65, .ref q73, .ref q81, .ref q88, .int 0, .ref q95, .ref q103, .int 0, .int 0, .int 0, .int 0, .long 0, .int 0, .ref q111, .int 0, .ref q118, .ref q127, .long 0, .int 0, .int 0, .ref q136, .ref q143, .null, .null, .null, .int 0, .null, .int 0])), (q7, .inl (cI, 8, .inl (fun _ => 0))), (q14, .inl (cI, 5, .inl (fun _ => 0))), (q23, .inl (cI, 144, .inl (fun _ => 0))), (q31, .inl (cI, 16, .inl (fun _ => 0))), (q39, .inl (cI, 96, .inl (fun _ => 0))), (q48, .inl (cI, 270, .inl (fun _ => 0))), (q56, .inl (cI, 16, .inl (fun _ => 0))), (q65, .inl (cI, 192, .inl (fun _ => 0))), (q73, .inl (cI, 60, .inl (fun _ => 0))), (q81, .inl (cZ, 30, .inl (fun _ => 0))), (q88, .inl (cI, 4, .inl (fun _ => 0))), (q95, .inl (cI, 4, .inl (fun _ => 0))), (q103, .inl (cI, 120, .inl (fun _ => 0))), (q111, .inl (cI, 16, .inl (fun _ => 0))), (q118, .inl (cI, 3, .inl (fun _ => 0))), (q127, .inl (cJ, 144, .inr (.inl (fun _ => 0)))), (q136, .inl (cI, 192, .inl (fun _ => 0))), (q143, .inl (cI, 4, .inl (fun _ => 0))), (q150, .inl (cI, 4, .inl (fun _ => 0)))] := hD
  obtain ⟨n1, n2, n3, n4⟩ := nC_of (c := 9) rfl
  obtain ⟨C0, T0, N0, fl1, fl2, fl3⟩ := fl_9_66
  cases fl1
  refine va_putF (ci := 9) (v := .ref q150) (ty := tyC 9 29) hx hb hts n2 (tyC 9) n3 n4 hown hK hP hD hS 0 rfl rfl 29 fl2 (hts _ fl3) (fun _ z => z) rfl hin rfl (n3 29 fl2) (rfl) (rfl) (Nat.le_of_ble_eq_true rfl) dX9_init_152 (fun H locs hP hD hS => ?_)
  have hP : va_P D vwCl [(h0, .inr (9, [.ref q7, .ref q14, .ref q23, .ref q31, .ref q39, .ref q48, .ref q56, .ref q65, .ref q73, .ref q81, .ref q88, .int 0, .ref q95, .ref q103, .int 0, .int 0, .int 0, .int 0, .long 0, .int 0, .ref q111, .int 0, .ref q118, .ref q127, .long 0, .int 0, .int 0, .ref q136, .ref q143, .ref q150, .null, .null, .int 0, .null, .int 0])), (q7, .inl (cI, 8, .inl (fun _ => 0))), (q14, .inl (cI, 5, .inl (fun _ => 0))), (q23, .inl (cI, 144, .inl (fun _ => 0))), (q31, .inl (cI, 16, .inl (fun _ => 0))), (q39, .inl (cI, 96, .inl (fun _ => 0))), (q48, .inl (cI, 270, .inl (fun _ => 0))), (q56, .inl (cI, 16, .inl (fun _ => 0))), (q65, .inl (cI, 192, .inl (fun _ => 0))), (q73, .inl (cI, 60, .inl (fun _ => 0))), (q81, .inl (cZ, 30, .inl (fun _ => 0))), (q88, .inl (cI, 4, .inl (fun _ => 0))), (q95, .inl (cI, 4, .inl (fun _ => 0))), (q103, .inl (cI, 120, .inl (fun _ => 0))), (q111, .inl (cI, 16, .inl (fun _ => 0))), (q118, .inl (cI, 3, .inl (fun _ => 0))), (q127, .inl (cJ, 144, .inr (.inl (fun _ => 0)))), (q136, .inl (cI, 192, .inl (fun _ => 0))), (q143, .inl (cI, 4, .inl (fun _ => 0))), (q150, .inl (cI, 4, .inl (fun _ => 0)))] H := hP
  have hD : va_D A [(h0, .inr (9, [.ref q7, .ref q14, .ref q23, .ref q31, .ref q39, .ref q48, .ref q56, .ref q65, .ref q73, .ref q81, .ref q88, .int 0, .ref q95, .ref q103, .int 0, .int 0, .int 0, .int 0, .long 0, .int 0, .ref q111, .int 0, .ref q118, .ref q127, .long 0, .int 0, .int 0, .ref q136, .ref q143, .ref q150, .null, .null, .int 0, .null, .int 0])), (q7, .inl (cI, 8, .inl (fun _ => 0))), (q14, .inl (cI, 5, .inl (fun _ => 0))), (q23, .inl (cI, 144, .inl (fun _ => 0))), (q31, .inl (cI, 16, .inl (fun _ => 0))), (q39, .inl (cI, 96, .inl (fun _ => 0))), (q48, .inl (cI, 270, .inl (fun _ => 0))), (q56, .inl (cI, 16, .inl (fun _ => 0))), (q65, .inl (cI, 192, .inl (fun _ => 0))), (q73, .inl (cI, 60, .inl (fun _ => 0))), (q81, .inl (cZ, 30, .inl (fun _ => 0))), (q88, .inl (cI, 4, .inl (fun _ => 0))), (q95, .inl (cI, 4, .inl (fun _ => 0))), (q103, .inl (cI, 120, .inl (fun _ => 0))), (q111, .inl (cI, 16, .inl (fun _ => 0))), (q118, .inl (cI, 3, .inl (fun _ => 0))), (q127, .inl (cJ, 144, .inr (.inl (fun _ => 0)))), (q136, .inl (cI, 192, .inl (fun _ => 0))), (q143, .inl (cI, 4, .inl (fun _ => 0))), (q150, .inl (cI, 4, .inl (fun _ => 0)))] := hD
  refine lv_aload_n hx hb dX9_init_155 rfl (lv_at hl 0 rfl) ?_
  refine lv_sipush hx hb (v := 160) dX9_init_156 (by decide) ?_
  refine va_newa (atype := .long) (a0 := (160, .inr (.inl (fun _ => 0)))) hx hb (hts _ w_ar_long) (ty := .long) rfl hK hP hD hS hA (fun _ => rfl) (by decide) (by decide) (by decide) (by decide) (by decide) dX9_init_159 (fun q159 cA H hK3 hP hD hS => ?_)
  have ec : cJ = cA := (ra_J (hK3.2 3 _ rfl).2 (hK.2 1 _ rfl).2).symm
  subst ec
  have hP : va_P D vwCl [(h0, .inr (9, [.ref q7, .ref q14, .ref q23, .ref q31, .ref q39, .ref q48, .ref q56, .ref q65, .ref q73, .ref q81, .ref q88, .int 0, .ref q95, .ref q103, .int 0, .int 0, .int 0, .int 0, .long 0, .int 0, .ref q111, .int 0, .ref q118, .ref q127, .long 0, .int 0, .int 0, .ref q136, .ref q143, .ref q150, .null, .null, .int 0, .null, .int 0])), (q7, .inl (cI, 8, .inl (fun _ => 0))), (q14, .inl (cI, 5, .inl (fun _ => 0))), (q23, .inl (cI, 144, .inl (fun _ => 0))), (q31, .inl (cI, 16, .inl (fun _ => 0))), (q39, .inl (cI, 96, .inl (fun _ => 0))), (q48, .inl (cI, 270, .inl (fun _ => 0))), (q56, .inl (cI, 16, .inl (fun _ => 0))), (q65, .inl (cI, 192, .inl (fun _ => 0))), (q73, .inl (cI, 60, .inl (fun _ => 0))), (q81, .inl (cZ, 30, .inl (fun _ => 0))), (q88, .inl (cI, 4, .inl (fun _ => 0))), (q95, .inl (cI, 4, .inl (fun _ => 0))), (q103, .inl (cI, 120, .inl (fun _ => 0))), (q111, .inl (cI, 16, .inl (fun _ => 0))), (q118, .inl (cI, 3, .inl (fun _ => 0))), (q127, .inl (cJ, 144, .inr (.inl (fun _ => 0)))), (q136, .inl (cI, 192, .inl (fun _ => 0))), (q143, .inl (cI, 4, .inl (fun _ => 0))), (q150, .inl (cI, 4, .inl (fun _ => 0))), (q159, .inl (cJ, 160, .inr (.inl (fun _ => 0))))] H := hP
  have hD : va_D A [(h0, .inr (9, [.ref q7, .ref q14, .ref q23, .ref q31, .ref q39, .ref q48, .ref q56, .ref q65, .ref q73, .ref q81, .ref q88, .int 0, .ref q95, .ref q103, .int 0, .int 0, .int 0, .int 0, .long 0, .int 0, .ref q111, .int 0, .ref q118, .ref q127, .long 0, .int 0, .int 0, .ref q136, .ref q143, .ref q150, .null, .null, .int 0, .null, .int 0])), (q7, .inl (cI, 8, .inl (fun _ => 0))), (q14, .inl (cI, 5, .inl (fun _ => 0))), (q23, .inl (cI, 144, .inl (fun _ => 0))), (q31, .inl (cI, 16, .inl (fun _ => 0))), (q39, .inl (cI, 96, .inl (fun _ => 0))), (q48, .inl (cI, 270, .inl (fun _ => 0))), (q56, .inl (cI, 16, .inl (fun _ => 0))), (q65, .inl (cI, 192, .inl (fun _ => 0))), (q73, .inl (cI, 60, .inl (fun _ => 0))), (q81, .inl (cZ, 30, .inl (fun _ => 0))), (q88, .inl (cI, 4, .inl (fun _ => 0))), (q95, .inl (cI, 4, .inl (fun _ => 0))), (q103, .inl (cI, 120, .inl (fun _ => 0))), (q111, .inl (cI, 16, .inl (fun _ => 0))), (q118, .inl (cI, 3, .inl (fun _ => 0))), (q127, .inl (cJ, 144, .inr (.inl (fun _ => 0)))), (q136, .inl (cI, 192, .inl (fun _ => 0))), (q143, .inl (cI, 4, .inl (fun _ => 0))), (q150, .inl (cI, 4, .inl (fun _ => 0))), (q159, .inl (cJ, 160, .inr (.inl (fun _ => 0))))] := hD
  obtain ⟨n1, n2, n3, n4⟩ := nC_of (c := 9) rfl
  obtain ⟨C0, T0, N0, fl1, fl2, fl3⟩ := fl_9_69
  cases fl1
  refine va_putF (ci := 9) (v := .ref q159) (ty := tyC 9 30) hx hb hts n2 (tyC 9) n3 n4 hown hK hP hD hS 0 rfl rfl 30 fl2 (hts _ fl3) (fun _ z => z) rfl hin rfl (n3 30 fl2) (rfl) (rfl) (Nat.le_of_ble_eq_true rfl) dX9_init_161 (fun H locs hP hD hS => ?_)
  have hP : va_P D vwCl [(h0, .inr (9, [.ref q7, .ref q14, .ref q23, .ref q31, .ref q39, .ref q48, .ref q56, .ref q65, .ref q73, .ref q81, .ref q88, .int 0, .ref q95, .ref q103, .int 0, .int 0, .int 0, .int 0, .long 0, .int 0, .ref q111, .int 0, .ref q118, .ref q127, .long 0, .int 0, .int 0, .ref q136, .ref q143, .ref q150, .ref q159, .null, .int 0, .null, .int 0])), (q7, .inl (cI, 8, .inl (fun _ => 0))), (q14, .inl (cI, 5, .inl (fun _ => 0))), (q23, .inl (cI, 144, .inl (fun _ => 0))), (q31, .inl (cI, 16, .inl (fun _ => 0))), (q39, .inl (cI, 96, .inl (fun _ => 0))), (q48, .inl (cI, 270, .inl (fun _ => 0))), (q56, .inl (cI, 16, .inl (fun _ => 0))), (q65, .inl (cI, 192, .inl (fun _ => 0))), (q73, .inl (cI, 60, .inl (fun _ => 0))), (q81, .inl (cZ, 30, .inl (fun _ => 0))), (q88, .inl (cI, 4, .inl (fun _ => 0))), (q95, .inl (cI, 4, .inl (fun _ => 0))), (q103, .inl (cI, 120, .inl (fun _ => 0))), (q111, .inl (cI, 16, .inl (fun _ => 0))), (q118, .inl (cI, 3, .inl (fun _ => 0))), (q127, .inl (cJ, 144, .inr (.inl (fun _ => 0)))), (q136, .inl (cI, 192, .inl (fun _ => 0))), (q143, .inl (cI, 4, .inl (fun _ => 0))), (q150, .inl (cI, 4, .inl (fun _ => 0))), (q159, .inl (cJ, 160, .inr (.inl (fun _ => 0))))] H := hP
  have hD : va_D A [(h0, .inr (9, [.ref q7, .ref q14, .ref q23, .ref q31, .ref q39, .ref q48, .ref q56, .ref q65, .ref q73, .ref q81, .ref q88, .int 0, .ref q95, .ref q103, .int 0, .int 0, .int 0, .int 0, .long 0, .int 0, .ref q111, .int 0, .ref q118, .ref q127, .long 0, .int 0, .int 0, .ref q136, .ref q143, .ref q150, .ref q159, .null, .int 0, .null, .int 0])), (q7, .inl (cI, 8, .inl (fun _ => 0))), (q14, .inl (cI, 5, .inl (fun _ => 0))), (q23, .inl (cI, 144, .inl (fun _ => 0))), (q31, .inl (cI, 16, .inl (fun _ => 0))), (q39, .inl (cI, 96, .inl (fun _ => 0))), (q48, .inl (cI, 270, .inl (fun _ => 0))), (q56, .inl (cI, 16, .inl (fun _ => 0))), (q65, .inl (cI, 192, .inl (fun _ => 0))), (q73, .inl (cI, 60, .inl (fun _ => 0))), (q81, .inl (cZ, 30, .inl (fun _ => 0))), (q88, .inl (cI, 4, .inl (fun _ => 0))), (q95, .inl (cI, 4, .inl (fun _ => 0))), (q103, .inl (cI, 120, .inl (fun _ => 0))), (q111, .inl (cI, 16, .inl (fun _ => 0))), (q118, .inl (cI, 3, .inl (fun _ => 0))), (q127, .inl (cJ, 144, .inr (.inl (fun _ => 0)))), (q136, .inl (cI, 192, .inl (fun _ => 0))), (q143, .inl (cI, 4, .inl (fun _ => 0))), (q150, .inl (cI, 4, .inl (fun _ => 0))), (q159, .inl (cJ, 160, .inr (.inl (fun _ => 0))))] := hD
  refine lv_aload_n hx hb dX9_init_164 rfl (lv_at hl 0 rfl) ?_
  refine lv_bipush hx hb (v := 40) dX9_init_165 (by decide) ?_
  refine va_newa (atype := .long) (a0 := (40, .inr (.inl (fun _ => 0)))) hx hb (hts _ w_ar_long) (ty := .long) rfl hK hP hD hS hA (fun _ => rfl) (by decide) (by decide) (by decide) (by decide) (by decide) dX9_init_167 (fun q167 cA H hK3 hP hD hS => ?_)
  have ec : cJ = cA := (ra_J (hK3.2 3 _ rfl).2 (hK.2 1 _ rfl).2).symm
  subst ec
  have hP : va_P D vwCl [(h0, .inr (9, [.ref q7, .ref q14, .ref q23, .ref q31, .ref q39, .ref q48, .ref q56, .ref q65, .ref q73, .ref q81, .ref q88, .int 0, .ref q95, .ref q103, .int 0, .int 0, .int 0, .int 0, .long 0, .int 0, .ref q111, .int 0, .ref q118, .ref q127, .long 0, .int 0, .int 0, .ref q136, .ref q143, .ref q150, .ref q159, .null, .int 0, .null, .int 0])), (q7, .inl (cI, 8, .inl (fun _ => 0))), (q14, .inl (cI, 5, .inl (fun _ => 0))), (q23, .inl (cI, 144, .inl (fun _ => 0))), (q31, .inl (cI, 16, .inl (fun _ => 0))), (q39, .inl (cI, 96, .inl (fun _ => 0))), (q48, .inl (cI, 270, .inl (fun _ => 0))), (q56, .inl (cI, 16, .inl (fun _ => 0))), (q65, .inl (cI, 192, .inl (fun _ => 0))), (q73, .inl (cI, 60, .inl (fun _ => 0))), (q81, .inl (cZ, 30, .inl (fun _ => 0))), (q88, .inl (cI, 4, .inl (fun _ => 0))), (q95, .inl (cI, 4, .inl (fun _ => 0))), (q103, .inl (cI, 120, .inl (fun _ => 0))), (q111, .inl (cI, 16, .inl (fun _ => 0))), (q118, .inl (cI, 3, .inl (fun _ => 0))), (q127, .inl (cJ, 144, .inr (.inl (fun _ => 0)))), (q136, .inl (cI, 192, .inl (fun _ => 0))), (q143, .inl (cI, 4, .inl (fun _ => 0))), (q150, .inl (cI, 4, .inl (fun _ => 0))), (q159, .inl (cJ, 160, .inr (.inl (fun _ => 0)))), (q167, .inl (cJ, 40, .inr (.inl (fun _ => 0))))] H := hP
  have hD : va_D A [(h0, .inr (9, [.ref q7, .ref q14, .ref q23, .ref q31, .ref q39, .ref q48, .ref q56, .ref q65, .ref q73, .ref q81, .ref q88, .int 0, .ref q95, .ref q103, .int 0, .int 0, .int 0, .int 0, .long 0, .int 0, .ref q111, .int 0, .ref q118, .ref q127, .long 0, .int 0, .int 0, .ref q136, .ref q143, .ref q150, .ref q159, .null, .int 0, .null, .int 0])), (q7, .inl (cI, 8, .inl (fun _ => 0))), (q14, .inl (cI, 5, .inl (fun _ => 0))), (q23, .inl (cI, 144, .inl (fun _ => 0))), (q31, .inl (cI, 16, .inl (fun _ => 0))), (q39, .inl (cI, 96, .inl (fun _ => 0))), (q48, .inl (cI, 270, .inl (fun _ => 0))), (q56, .inl (cI, 16, .inl (fun _ => 0))), (q65, .inl (cI, 192, .inl (fun _ => 0))), (q73, .inl (cI, 60, .inl (fun _ => 0))), (q81, .inl (cZ, 30, .inl (fun _ => 0))), (q88, .inl (cI, 4, .inl (fun _ => 0))), (q95, .inl (cI, 4, .inl (fun _ => 0))), (q103, .inl (cI, 120, .inl (fun _ => 0))), (q111, .inl (cI, 16, .inl (fun _ => 0))), (q118, .inl (cI, 3, .inl (fun _ => 0))), (q127, .inl (cJ, 144, .inr (.inl (fun _ => 0)))), (q136, .inl (cI, 192, .inl (fun _ => 0))), (q143, .inl (cI, 4, .inl (fun _ => 0))), (q150, .inl (cI, 4, .inl (fun _ => 0))), (q159, .inl (cJ, 160, .inr (.inl (fun _ => 0)))), (q167, .inl (cJ, 40, .inr (.inl (fun _ => 0))))] := hD
  obtain ⟨n1, n2, n3, n4⟩ := nC_of (c := 9) rfl
  obtain ⟨C0, T0, N0, fl1, fl2, fl3⟩ := fl_9_72
  cases fl1
  refine va_putF (ci := 9) (v := .ref q167) (ty := tyC 9 31) hx hb hts n2 (tyC 9) n3 n4 hown hK hP hD hS 0 rfl rfl 31 fl2 (hts _ fl3) (fun _ z => z) rfl hin rfl (n3 31 fl2) (rfl) (rfl) (Nat.le_of_ble_eq_true rfl) dX9_init_169 (fun H locs hP hD hS => ?_)
  have hP : va_P D vwCl [(h0, .inr (9, [.ref q7, .ref q14, .ref q23, .ref q31, .ref q39, .ref q48, .ref q56, .ref q65, .ref q73, .ref q81, .ref q88, .int 0, .ref q95, .ref q103, .int 0, .int 0, .int 0, .int 0, .long 0, .int 0, .ref q111, .int 0, .ref q118, .ref q127, .long 0, .int 0, .int 0, .ref q136, .ref q143, .ref q150, .ref q159, .ref q167, .int 0, .null, .int 0])), (q7, .inl (cI, 8, .inl (fun _ => 0))), (q14, .inl (cI, 5, .inl (fun _ => 0))), (q23, .inl (cI, 144, .inl (fun _ => 0))), (q31, .inl (cI, 16, .inl (fun _ => 0))), (q39, .inl (cI, 96, .inl (fun _ => 0))), (q48, .inl (cI, 270, .inl (fun _ => 0))), (q56, .inl (cI, 16, .inl (fun _ => 0))), (q65, .inl (cI, 192, .inl (fun _ => 0))), (q73, .inl (cI, 60, .inl (fun _ => 0))), (q81, .inl (cZ, 30, .inl (fun _ => 0))), (q88, .inl (cI, 4, .inl (fun _ => 0))), (q95, .inl (cI, 4, .inl (fun _ => 0))), (q103, .inl (cI, 120, .inl (fun _ => 0))), (q111, .inl (cI, 16, .inl (fun _ => 0))), (q118, .inl (cI, 3, .inl (fun _ => 0))), (q127, .inl (cJ, 144, .inr (.inl (fun _ => 0)))), (q136, .inl (cI, 192, .inl (fun _ => 0))), (q143, .inl (cI, 4, .inl (fun _ => 0))), (q150, .inl (cI, 4, .inl (fun _ => 0))), (q159, .inl (cJ, 160, .inr (.inl (fun _ => 0)))), (q167, .inl (cJ, 40, .inr (.inl (fun _ => 0))))] H := hP
  have hD : va_D A [(h0, .inr (9, [.ref q7, .ref q14, .ref q23, .ref q31, .ref q39, .ref q48, .ref q56, .ref q65, .ref q73, .ref q81, .ref q88, .int 0, .ref q95, .ref q103, .int 0, .int 0, .int 0, .int 0, .long 0, .int 0, .ref q111, .int 0, .ref q118, .ref q127, .long 0, .int 0, .int 0, .ref q136, .ref q143, .ref q150, .ref q159, .ref q167, .int 0, .null, .int 0])), (q7, .inl (cI, 8, .inl (fun _ => 0))), (q14, .inl (cI, 5, .inl (fun _ => 0))), (q23, .inl (cI, 144, .inl (fun _ => 0))), (q31, .inl (cI, 16, .inl (fun _ => 0))), (q39, .inl (cI, 96, .inl (fun _ => 0))), (q48, .inl (cI, 270, .inl (fun _ => 0))), (q56, .inl (cI, 16, .inl (fun _ => 0))), (q65, .inl (cI, 192, .inl (fun _ => 0))), (q73, .inl (cI, 60, .inl (fun _ => 0))), (q81, .inl (cZ, 30, .inl (fun _ => 0))), (q88, .inl (cI, 4, .inl (fun _ => 0))), (q95, .inl (cI, 4, .inl (fun _ => 0))), (q103, .inl (cI, 120, .inl (fun _ => 0))), (q111, .inl (cI, 16, .inl (fun _ => 0))), (q118, .inl (cI, 3, .inl (fun _ => 0))), (q127, .inl (cJ, 144, .inr (.inl (fun _ => 0)))), (q136, .inl (cI, 192, .inl (fun _ => 0))), (q143, .inl (cI, 4, .inl (fun _ => 0))), (q150, .inl (cI, 4, .inl (fun _ => 0))), (q159, .inl (cJ, 160, .inr (.inl (fun _ => 0)))), (q167, .inl (cJ, 40, .inr (.inl (fun _ => 0))))] := hD
  refine lv_aload_n hx hb dX9_init_172 rfl (lv_at hl 0 rfl) ?_
  refine lv_sipush hx hb (v := 900) dX9_init_173 (by decide) ?_
  refine va_newa (atype := .int) (a0 := (900, .inl (fun _ => 0))) hx hb (hts _ w_ar_int) (ty := .int) rfl hK hP hD hS hA (fun _ => rfl) (by decide) (by decide) (by decide) (by decide) (by decide) dX9_init_176 (fun q176 cA H hK3 hP hD hS => ?_)
  have ec : cI = cA := (ra_I (hK3.2 3 _ rfl).2 (hK.2 0 _ rfl).2).symm
  subst ec
  have hP : va_P D vwCl [(h0, .inr (9, [.ref q7, .ref q14, .ref q23, .ref q31, .ref q39, .ref q48, .ref q56, .ref q65, .ref q73, .ref q81, .ref q88, .int 0, .ref q95, .ref q103, .int 0, .int 0, .int 0, .int 0, .long 0, .int 0, .ref q111, .int 0, .ref q118, .ref q127, .long 0, .int 0, .int 0, .ref q136, .ref q143, .ref q150, .ref q159, .ref q167, .int 0, .null, .int 0])), (q7, .inl (cI, 8, .inl (fun _ => 0))), (q14, .inl (cI, 5, .inl (fun _ => 0))), (q23, .inl (cI, 144, .inl (fun _ => 0))), (q31, .inl (cI, 16, .inl (fun _ => 0))), (q39, .inl (cI, 96, .inl (fun _ => 0))), (q48, .inl (cI, 270, .inl (fun _ => 0))), (q56, .inl (cI, 16, .inl (fun _ => 0))), (q65, .inl (cI, 192, .inl (fun _ => 0))), (q73, .inl (cI, 60, .inl (fun _ => 0))), (q81, .inl (cZ, 30, .inl (fun _ => 0))), (q88, .inl (cI, 4, .inl (fun _ => 0))), (q95, .inl (cI, 4, .inl (fun _ => 0))), (q103, .inl (cI, 120, .inl (fun _ => 0))), (q111, .inl (cI, 16, .inl (fun _ => 0))), (q118, .inl (cI, 3, .inl (fun _ => 0))), (q127, .inl (cJ, 144, .inr (.inl (fun _ => 0)))), (q136, .inl (cI, 192, .inl (fun _ => 0))), (q143, .inl (cI, 4, .inl (fun _ => 0))), (q150, .inl (cI, 4, .inl (fun _ => 0))), (q159, .inl (cJ, 160, .inr (.inl (fun _ => 0)))), (q167, .inl (cJ, 40, .inr (.inl (fun _ => 0)))), (q176, .inl (cI, 900, .inl (fun _ => 0)))] H := hP
  have hD : va_D A [(h0, .inr (9, [.ref q7, .ref q14, .ref q23, .ref q31, .ref q39, .ref q48, .ref q56, .ref q65, .ref q73, .ref q81, .ref q88, .int 0, .ref q95, .ref q103, .int 0, .int 0, .int 0, .int 0, .long 0, .int 0, .ref q111, .int 0, .ref q118, .ref q127, .long 0, .int 0, .int 0, .ref q136, .ref q143, .ref q150, .ref q159, .ref q167, .int 0, .null, .int 0])), (q7, .inl (cI, 8, .inl (fun _ => 0))), (q14, .inl (cI, 5, .inl (fun _ => 0))), (q23, .inl (cI, 144, .inl (fun _ => 0))), (q31, .inl (cI, 16, .inl (fun _ => 0))), (q39, .inl (cI, 96, .inl (fun _ => 0))), (q48, .inl (cI, 270, .inl (fun _ => 0))), (q56, .inl (cI, 16, .inl (fun _ => 0))), (q65, .inl (cI, 192, .inl (fun _ => 0))), (q73, .inl (cI, 60, .inl (fun _ => 0))), (q81, .inl (cZ, 30, .inl (fun _ => 0))), (q88, .inl (cI, 4, .inl (fun _ => 0))), (q95, .inl (cI, 4, .inl (fun _ => 0))), (q103, .inl (cI, 120, .inl (fun _ => 0))), (q111, .inl (cI, 16, .inl (fun _ => 0))), (q118, .inl (cI, 3, .inl (fun _ => 0))), (q127, .inl (cJ, 144, .inr (.inl (fun _ => 0)))), (q136, .inl (cI, 192, .inl (fun _ => 0))), (q143, .inl (cI, 4, .inl (fun _ => 0))), (q150, .inl (cI, 4, .inl (fun _ => 0))), (q159, .inl (cJ, 160, .inr (.inl (fun _ => 0)))), (q167, .inl (cJ, 40, .inr (.inl (fun _ => 0)))), (q176, .inl (cI, 900, .inl (fun _ => 0)))] := hD
  obtain ⟨n1, n2, n3, n4⟩ := nC_of (c := 9) rfl
  obtain ⟨C0, T0, N0, fl1, fl2, fl3⟩ := fl_9_75
  cases fl1
  refine va_putF (ci := 9) (v := .ref q176) (ty := tyC 9 33) hx hb hts n2 (tyC 9) n3 n4 hown hK hP hD hS 0 rfl rfl 33 fl2 (hts _ fl3) (fun _ z => z) rfl hin rfl (n3 33 fl2) (rfl) (rfl) (Nat.le_of_ble_eq_true rfl) dX9_init_178 (fun H locs hP hD hS => ?_)
  have hP : va_P D vwCl [(h0, .inr (9, [.ref q7, .ref q14, .ref q23, .ref q31, .ref q39, .ref q48, .ref q56, .ref q65, .ref q73, .ref q81, .ref q88, .int 0, .ref q95, .ref q103, .int 0, .int 0, .int 0, .int 0, .long 0, .int 0, .ref q111, .int 0, .ref q118, .ref q127, .long 0, .int 0, .int 0, .ref q136, .ref q143, .ref q150, .ref q159, .ref q167, .int 0, .ref q176, .int 0])), (q7, .inl (cI, 8, .inl (fun _ => 0))), (q14, .inl (cI, 5, .inl (fun _ => 0))), (q23, .inl (cI, 144, .inl (fun _ => 0))), (q31, .inl (cI, 16, .inl (fun _ => 0))), (q39, .inl (cI, 96, .inl (fun _ => 0))), (q48, .inl (cI, 270, .inl (fun _ => 0))), (q56, .inl (cI, 16, .inl (fun _ => 0))), (q65, .inl (cI, 192, .inl (fun _ => 0))), (q73, .inl (cI, 60, .inl (fun _ => 0))), (q81, .inl (cZ, 30, .inl (fun _ => 0))), (q88, .inl (cI, 4, .inl (fun _ => 0))), (q95, .inl (cI, 4, .inl (fun _ => 0))), (q103, .inl (cI, 120, .inl (fun _ => 0))), (q111, .inl (cI, 16, .inl (fun _ => 0))), (q118, .inl (cI, 3, .inl (fun _ => 0))), (q127, .inl (cJ, 144, .inr (.inl (fun _ => 0)))), (q136, .inl (cI, 192, .inl (fun _ => 0))), (q143, .inl (cI, 4, .inl (fun _ => 0))), (q150, .inl (cI, 4, .inl (fun _ => 0))), (q159, .inl (cJ, 160, .inr (.inl (fun _ => 0)))), (q167, .inl (cJ, 40, .inr (.inl (fun _ => 0)))), (q176, .inl (cI, 900, .inl (fun _ => 0)))] H := hP
  have hD : va_D A [(h0, .inr (9, [.ref q7, .ref q14, .ref q23, .ref q31, .ref q39, .ref q48, .ref q56, .ref q65, .ref q73, .ref q81, .ref q88, .int 0, .ref q95, .ref q103, .int 0, .int 0, .int 0, .int 0, .long 0, .int 0, .ref q111, .int 0, .ref q118, .ref q127, .long 0, .int 0, .int 0, .ref q136, .ref q143, .ref q150, .ref q159, .ref q167, .int 0, .ref q176, .int 0])), (q7, .inl (cI, 8, .inl (fun _ => 0))), (q14, .inl (cI, 5, .inl (fun _ => 0))), (q23, .inl (cI, 144, .inl (fun _ => 0))), (q31, .inl (cI, 16, .inl (fun _ => 0))), (q39, .inl (cI, 96, .inl (fun _ => 0))), (q48, .inl (cI, 270, .inl (fun _ => 0))), (q56, .inl (cI, 16, .inl (fun _ => 0))), (q65, .inl (cI, 192, .inl (fun _ => 0))), (q73, .inl (cI, 60, .inl (fun _ => 0))), (q81, .inl (cZ, 30, .inl (fun _ => 0))), (q88, .inl (cI, 4, .inl (fun _ => 0))), (q95, .inl (cI, 4, .inl (fun _ => 0))), (q103, .inl (cI, 120, .inl (fun _ => 0))), (q111, .inl (cI, 16, .inl (fun _ => 0))), (q118, .inl (cI, 3, .inl (fun _ => 0))), (q127, .inl (cJ, 144, .inr (.inl (fun _ => 0)))), (q136, .inl (cI, 192, .inl (fun _ => 0))), (q143, .inl (cI, 4, .inl (fun _ => 0))), (q150, .inl (cI, 4, .inl (fun _ => 0))), (q159, .inl (cJ, 160, .inr (.inl (fun _ => 0)))), (q167, .inl (cJ, 40, .inr (.inl (fun _ => 0)))), (q176, .inl (cI, 900, .inl (fun _ => 0)))] := hD
  have hP9 := hP
  have hD9 := hD
  refine W.widen (k := 22) (n := 2428) (by decide) (by decide) ?_
  exact W.vret hx hb hr (fun t ht hW => ⟨⟨(fun j => ([q7, q14, q23, q31, q39, q48, q56, q65, q73, q81, q88, q95, q103, q111, q118, q127, q136, q143, q150, q159, q167, q176] : List Nat).getD j 0), rfl, trivial, by rw [ht]; exact hP9, hD9⟩, hS.F ht⟩) hS.2.2 dX9_init_181
