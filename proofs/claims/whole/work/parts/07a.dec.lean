theorem dX0_become_0 : decode cX0_become 0 = .ok (.aload_n 1, 1) := by decide +kernel
theorem dX0_become_1 : decode cX0_become 1 = .ok (.getfield 9, 3) := by decide +kernel
theorem dX0_become_4 : decode cX0_become 4 = .ok (.iconst 0, 1) := by decide +kernel
theorem dX0_become_5 : decode cX0_become 5 = .ok (.aload_n 0, 1) := by decide +kernel
theorem dX0_become_6 : decode cX0_become 6 = .ok (.getfield 9, 3) := by decide +kernel
theorem dX0_become_9 : decode cX0_become 9 = .ok (.iconst 0, 1) := by decide +kernel
theorem dX0_become_10 : decode cX0_become 10 = .ok (.sipush 144, 3) := by decide +kernel
theorem dX0_become_13 : decode cX0_become 13 = .ok (.invokestatic 28, 3) := by decide +kernel
theorem dX0_become_16 : decode cX0_become 16 = .ok (.aload_n 1, 1) := by decide +kernel
theorem dX0_become_17 : decode cX0_become 17 = .ok (.getfield 15, 3) := by decide +kernel
theorem dX0_become_20 : decode cX0_become 20 = .ok (.iconst 0, 1) := by decide +kernel
theorem dX0_become_21 : decode cX0_become 21 = .ok (.aload_n 0, 1) := by decide +kernel
theorem dX0_become_22 : decode cX0_become 22 = .ok (.getfield 15, 3) := by decide +kernel
theorem dX0_become_25 : decode cX0_become 25 = .ok (.iconst 0, 1) := by decide +kernel
theorem dX0_become_26 : decode cX0_become 26 = .ok (.bipush 16, 2) := by decide +kernel
theorem dX0_become_28 : decode cX0_become 28 = .ok (.invokestatic 28, 3) := by decide +kernel
theorem dX0_become_31 : decode cX0_become 31 = .ok (.aload_n 1, 1) := by decide +kernel
theorem dX0_become_32 : decode cX0_become 32 = .ok (.getfield 18, 3) := by decide +kernel
theorem dX0_become_35 : decode cX0_become 35 = .ok (.iconst 0, 1) := by decide +kernel
theorem dX0_become_36 : decode cX0_become 36 = .ok (.aload_n 0, 1) := by decide +kernel
theorem dX0_become_37 : decode cX0_become 37 = .ok (.getfield 18, 3) := by decide +kernel
theorem dX0_become_40 : decode cX0_become 40 = .ok (.iconst 0, 1) := by decide +kernel
theorem dX0_become_41 : decode cX0_become 41 = .ok (.aload_n 0, 1) := by decide +kernel
theorem dX0_become_42 : decode cX0_become 42 = .ok (.getfield 18, 3) := by decide +kernel
theorem dX0_become_45 : decode cX0_become 45 = .ok (.arraylength, 1) := by decide +kernel
theorem dX0_become_46 : decode cX0_become 46 = .ok (.invokestatic 28, 3) := by decide +kernel
theorem dX0_become_49 : decode cX0_become 49 = .ok (.aload_n 0, 1) := by decide +kernel
theorem dX0_become_50 : decode cX0_become 50 = .ok (.aload_n 1, 1) := by decide +kernel
theorem dX0_become_51 : decode cX0_become 51 = .ok (.getfield 21, 3) := by decide +kernel
theorem dX0_become_54 : decode cX0_become 54 = .ok (.putfield 21, 3) := by decide +kernel
theorem dX0_become_57 : decode cX0_become 57 = .ok (.aload_n 0, 1) := by decide +kernel
theorem dX0_become_58 : decode cX0_become 58 = .ok (.aload_n 1, 1) := by decide +kernel
theorem dX0_become_59 : decode cX0_become 59 = .ok (.getfield 25, 3) := by decide +kernel
theorem dX0_become_62 : decode cX0_become 62 = .ok (.putfield 25, 3) := by decide +kernel
theorem dX0_become_65 : decode cX0_become 65 = .ok (.return_, 1) := by decide +kernel
theorem dX0_addTown_0 : decode cX0_addTown 0 = .ok (.aload_n 0, 1) := by decide +kernel
theorem dX0_addTown_1 : decode cX0_addTown 1 = .ok (.getfield 21, 3) := by decide +kernel
theorem dX0_addTown_4 : decode cX0_addTown 4 = .ok (.istore_n 2, 1) := by decide +kernel
theorem dX0_addTown_5 : decode cX0_addTown 5 = .ok (.aload_n 0, 1) := by decide +kernel
theorem dX0_addTown_6 : decode cX0_addTown 6 = .ok (.getfield 15, 3) := by decide +kernel
theorem dX0_addTown_9 : decode cX0_addTown 9 = .ok (.iload_n 2, 1) := by decide +kernel
theorem dX0_addTown_10 : decode cX0_addTown 10 = .ok (.iload_n 1, 1) := by decide +kernel
theorem dX0_addTown_11 : decode cX0_addTown 11 = .ok (.iastore, 1) := by decide +kernel
theorem dX0_addTown_12 : decode cX0_addTown 12 = .ok (.aload_n 0, 1) := by decide +kernel
theorem dX0_addTown_13 : decode cX0_addTown 13 = .ok (.dup, 1) := by decide +kernel
theorem dX0_addTown_14 : decode cX0_addTown 14 = .ok (.getfield 21, 3) := by decide +kernel
theorem dX0_addTown_17 : decode cX0_addTown 17 = .ok (.iconst 1, 1) := by decide +kernel
theorem dX0_addTown_18 : decode cX0_addTown 18 = .ok (.iadd, 1) := by decide +kernel
theorem dX0_addTown_19 : decode cX0_addTown 19 = .ok (.putfield 21, 3) := by decide +kernel
theorem dX0_addTown_22 : decode cX0_addTown 22 = .ok (.iload_n 2, 1) := by decide +kernel
theorem dX0_addTown_23 : decode cX0_addTown 23 = .ok (.ireturn, 1) := by decide +kernel
theorem dX0_setHouses_0 : decode cX0_setHouses 0 = .ok (.iload_n 1, 1) := by decide +kernel
theorem dX0_setHouses_1 : decode cX0_setHouses 1 = .ok (.iconst 2, 1) := by decide +kernel
theorem dX0_setHouses_2 : decode cX0_setHouses 2 = .ok (.imul, 1) := by decide +kernel
theorem dX0_setHouses_3 : decode cX0_setHouses 3 = .ok (.iconst 3, 1) := by decide +kernel
theorem dX0_setHouses_4 : decode cX0_setHouses 4 = .ok (.imul, 1) := by decide +kernel
theorem dX0_setHouses_5 : decode cX0_setHouses 5 = .ok (.iload_n 2, 1) := by decide +kernel
theorem dX0_setHouses_6 : decode cX0_setHouses 6 = .ok (.iadd, 1) := by decide +kernel
theorem dX0_setHouses_7 : decode cX0_setHouses 7 = .ok (.istore 4, 2) := by decide +kernel
theorem dX0_setHouses_9 : decode cX0_setHouses 9 = .ok (.aload_n 0, 1) := by decide +kernel
theorem dX0_setHouses_10 : decode cX0_setHouses 10 = .ok (.getfield 18, 3) := by decide +kernel
theorem dX0_setHouses_13 : decode cX0_setHouses 13 = .ok (.iload 4, 2) := by decide +kernel
theorem dX0_setHouses_15 : decode cX0_setHouses 15 = .ok (.iaload, 1) := by decide +kernel
theorem dX0_setHouses_16 : decode cX0_setHouses 16 = .ok (.istore 5, 2) := by decide +kernel
theorem dX0_setHouses_18 : decode cX0_setHouses 18 = .ok (.aload_n 0, 1) := by decide +kernel
theorem dX0_setHouses_19 : decode cX0_setHouses 19 = .ok (.getfield 18, 3) := by decide +kernel
theorem dX0_setHouses_22 : decode cX0_setHouses 22 = .ok (.iload 4, 2) := by decide +kernel
theorem dX0_setHouses_24 : decode cX0_setHouses 24 = .ok (.iload_n 3, 1) := by decide +kernel
theorem dX0_setHouses_25 : decode cX0_setHouses 25 = .ok (.iastore, 1) := by decide +kernel
theorem dX0_setHouses_26 : decode cX0_setHouses 26 = .ok (.iload 5, 2) := by decide +kernel
theorem dX0_setHouses_28 : decode cX0_setHouses 28 = .ok (.ireturn, 1) := by decide +kernel
theorem dX0_allHouses_0 : decode cX0_allHouses 0 = .ok (.iconst 0, 1) := by decide +kernel
theorem dX0_allHouses_1 : decode cX0_allHouses 1 = .ok (.istore_n 3, 1) := by decide +kernel
theorem dX0_allHouses_2 : decode cX0_allHouses 2 = .ok (.iconst 0, 1) := by decide +kernel
theorem dX0_allHouses_3 : decode cX0_allHouses 3 = .ok (.istore 4, 2) := by decide +kernel
theorem dX0_allHouses_5 : decode cX0_allHouses 5 = .ok (.iload 4, 2) := by decide +kernel
theorem dX0_allHouses_7 : decode cX0_allHouses 7 = .ok (.iconst 3, 1) := by decide +kernel
theorem dX0_allHouses_8 : decode cX0_allHouses 8 = .ok (.if_icmp .ge 27, 3) := by decide +kernel
theorem dX0_allHouses_11 : decode cX0_allHouses 11 = .ok (.iload_n 3, 1) := by decide +kernel
theorem dX0_allHouses_12 : decode cX0_allHouses 12 = .ok (.aload_n 0, 1) := by decide +kernel
theorem dX0_allHouses_13 : decode cX0_allHouses 13 = .ok (.getfield 18, 3) := by decide +kernel
theorem dX0_allHouses_16 : decode cX0_allHouses 16 = .ok (.iload_n 1, 1) := by decide +kernel
theorem dX0_allHouses_17 : decode cX0_allHouses 17 = .ok (.iconst 2, 1) := by decide +kernel
theorem dX0_allHouses_18 : decode cX0_allHouses 18 = .ok (.imul, 1) := by decide +kernel
theorem dX0_allHouses_19 : decode cX0_allHouses 19 = .ok (.iconst 3, 1) := by decide +kernel
theorem dX0_allHouses_20 : decode cX0_allHouses 20 = .ok (.imul, 1) := by decide +kernel
theorem dX0_allHouses_21 : decode cX0_allHouses 21 = .ok (.iload_n 2, 1) := by decide +kernel
theorem dX0_allHouses_22 : decode cX0_allHouses 22 = .ok (.iadd, 1) := by decide +kernel
theorem dX0_allHouses_23 : decode cX0_allHouses 23 = .ok (.iload 4, 2) := by decide +kernel
theorem dX0_allHouses_25 : decode cX0_allHouses 25 = .ok (.iadd, 1) := by decide +kernel
theorem dX0_allHouses_26 : decode cX0_allHouses 26 = .ok (.iaload, 1) := by decide +kernel
theorem dX0_allHouses_27 : decode cX0_allHouses 27 = .ok (.iadd, 1) := by decide +kernel
theorem dX0_allHouses_28 : decode cX0_allHouses 28 = .ok (.istore_n 3, 1) := by decide +kernel
theorem dX0_allHouses_29 : decode cX0_allHouses 29 = .ok (.iinc 4 1, 3) := by decide +kernel
theorem dX0_allHouses_32 : decode cX0_allHouses 32 = .ok (.goto (-27), 3) := by decide +kernel
theorem dX0_allHouses_35 : decode cX0_allHouses 35 = .ok (.iload_n 3, 1) := by decide +kernel
theorem dX0_allHouses_36 : decode cX0_allHouses 36 = .ok (.ireturn, 1) := by decide +kernel
theorem dX0_fallen_0 : decode cX0_fallen 0 = .ok (.aload_n 0, 1) := by decide +kernel
theorem dX0_fallen_1 : decode cX0_fallen 1 = .ok (.getfield 18, 3) := by decide +kernel
theorem dX0_fallen_4 : decode cX0_fallen 4 = .ok (.iload_n 1, 1) := by decide +kernel
theorem dX0_fallen_5 : decode cX0_fallen 5 = .ok (.iconst 2, 1) := by decide +kernel
theorem dX0_fallen_6 : decode cX0_fallen 6 = .ok (.imul, 1) := by decide +kernel
theorem dX0_fallen_7 : decode cX0_fallen 7 = .ok (.iconst 3, 1) := by decide +kernel
theorem dX0_fallen_8 : decode cX0_fallen 8 = .ok (.imul, 1) := by decide +kernel
theorem dX0_fallen_9 : decode cX0_fallen 9 = .ok (.iconst 3, 1) := by decide +kernel
theorem dX0_fallen_10 : decode cX0_fallen 10 = .ok (.iadd, 1) := by decide +kernel
theorem dX0_fallen_11 : decode cX0_fallen 11 = .ok (.iload_n 2, 1) := by decide +kernel
theorem dX0_fallen_12 : decode cX0_fallen 12 = .ok (.iadd, 1) := by decide +kernel
theorem dX0_fallen_13 : decode cX0_fallen 13 = .ok (.iaload, 1) := by decide +kernel
theorem dX0_fallen_14 : decode cX0_fallen 14 = .ok (.istore 4, 2) := by decide +kernel
theorem dX0_fallen_16 : decode cX0_fallen 16 = .ok (.iload 4, 2) := by decide +kernel
theorem dX0_fallen_18 : decode cX0_fallen 18 = .ok (.iload_n 2, 1) := by decide +kernel
theorem dX0_fallen_19 : decode cX0_fallen 19 = .ok (.iload_n 3, 1) := by decide +kernel
theorem dX0_fallen_20 : decode cX0_fallen 20 = .ok (.invokestatic 34, 3) := by decide +kernel
theorem dX0_fallen_23 : decode cX0_fallen 23 = .ok (.imul, 1) := by decide +kernel
theorem dX0_fallen_24 : decode cX0_fallen 24 = .ok (.bipush 100, 2) := by decide +kernel
theorem dX0_fallen_26 : decode cX0_fallen 26 = .ok (.idiv, 1) := by decide +kernel
theorem dX0_fallen_27 : decode cX0_fallen 27 = .ok (.ireturn, 1) := by decide +kernel
theorem dX0_inTheHundred_0 : decode cX0_inTheHundred 0 = .ok (.iload_n 0, 1) := by decide +kernel
theorem dX0_inTheHundred_1 : decode cX0_inTheHundred 1 = .ok (.lookupswitch 49 #[(0, 27), (1, 38)], 27) := by decide +kernel
theorem dX0_inTheHundred_28 : decode cX0_inTheHundred 28 = .ok (.iconst 0, 1) := by decide +kernel
theorem dX0_inTheHundred_29 : decode cX0_inTheHundred 29 = .ok (.iload_n 1, 1) := by decide +kernel
theorem dX0_inTheHundred_30 : decode cX0_inTheHundred 30 = .ok (.iconst 5, 1) := by decide +kernel
theorem dX0_inTheHundred_31 : decode cX0_inTheHundred 31 = .ok (.isub, 1) := by decide +kernel
theorem dX0_inTheHundred_32 : decode cX0_inTheHundred 32 = .ok (.invokestatic 38, 3) := by decide +kernel
theorem dX0_inTheHundred_35 : decode cX0_inTheHundred 35 = .ok (.bipush 10, 2) := by decide +kernel
theorem dX0_inTheHundred_37 : decode cX0_inTheHundred 37 = .ok (.imul, 1) := by decide +kernel
theorem dX0_inTheHundred_38 : decode cX0_inTheHundred 38 = .ok (.ireturn, 1) := by decide +kernel
theorem dX0_inTheHundred_39 : decode cX0_inTheHundred 39 = .ok (.iconst 0, 1) := by decide +kernel
theorem dX0_inTheHundred_40 : decode cX0_inTheHundred 40 = .ok (.iload_n 1, 1) := by decide +kernel
theorem dX0_inTheHundred_41 : decode cX0_inTheHundred 41 = .ok (.iconst 3, 1) := by decide +kernel
theorem dX0_inTheHundred_42 : decode cX0_inTheHundred 42 = .ok (.isub, 1) := by decide +kernel
theorem dX0_inTheHundred_43 : decode cX0_inTheHundred 43 = .ok (.invokestatic 38, 3) := by decide +kernel
theorem dX0_inTheHundred_46 : decode cX0_inTheHundred 46 = .ok (.bipush 11, 2) := by decide +kernel
theorem dX0_inTheHundred_48 : decode cX0_inTheHundred 48 = .ok (.imul, 1) := by decide +kernel
theorem dX0_inTheHundred_49 : decode cX0_inTheHundred 49 = .ok (.ireturn, 1) := by decide +kernel
theorem dX0_inTheHundred_50 : decode cX0_inTheHundred 50 = .ok (.iconst 0, 1) := by decide +kernel
theorem dX0_inTheHundred_51 : decode cX0_inTheHundred 51 = .ok (.iload_n 1, 1) := by decide +kernel
theorem dX0_inTheHundred_52 : decode cX0_inTheHundred 52 = .ok (.bipush 7, 2) := by decide +kernel
theorem dX0_inTheHundred_54 : decode cX0_inTheHundred 54 = .ok (.isub, 1) := by decide +kernel
theorem dX0_inTheHundred_55 : decode cX0_inTheHundred 55 = .ok (.invokestatic 38, 3) := by decide +kernel
theorem dX0_inTheHundred_58 : decode cX0_inTheHundred 58 = .ok (.iconst 5, 1) := by decide +kernel
theorem dX0_inTheHundred_59 : decode cX0_inTheHundred 59 = .ok (.imul, 1) := by decide +kernel
theorem dX0_inTheHundred_60 : decode cX0_inTheHundred 60 = .ok (.ireturn, 1) := by decide +kernel
theorem dX1_become_0 : decode cX1_become 0 = .ok (.aload_n 1, 1) := by decide +kernel
theorem dX1_become_1 : decode cX1_become 1 = .ok (.getfield 9, 3) := by decide +kernel
theorem dX1_become_4 : decode cX1_become 4 = .ok (.iconst 0, 1) := by decide +kernel
theorem dX1_become_5 : decode cX1_become 5 = .ok (.aload_n 0, 1) := by decide +kernel
theorem dX1_become_6 : decode cX1_become 6 = .ok (.getfield 9, 3) := by decide +kernel
theorem dX1_become_9 : decode cX1_become 9 = .ok (.iconst 0, 1) := by decide +kernel
theorem dX1_become_10 : decode cX1_become 10 = .ok (.bipush 30, 2) := by decide +kernel
theorem dX1_become_12 : decode cX1_become 12 = .ok (.invokestatic 43, 3) := by decide +kernel
theorem dX1_become_15 : decode cX1_become 15 = .ok (.aload_n 1, 1) := by decide +kernel
theorem dX1_become_16 : decode cX1_become 16 = .ok (.getfield 15, 3) := by decide +kernel
theorem dX1_become_19 : decode cX1_become 19 = .ok (.iconst 0, 1) := by decide +kernel
theorem dX1_become_20 : decode cX1_become 20 = .ok (.aload_n 0, 1) := by decide +kernel
theorem dX1_become_21 : decode cX1_become 21 = .ok (.getfield 15, 3) := by decide +kernel
theorem dX1_become_24 : decode cX1_become 24 = .ok (.iconst 0, 1) := by decide +kernel
theorem dX1_become_25 : decode cX1_become 25 = .ok (.bipush 30, 2) := by decide +kernel
theorem dX1_become_27 : decode cX1_become 27 = .ok (.invokestatic 43, 3) := by decide +kernel
theorem dX1_become_30 : decode cX1_become 30 = .ok (.aload_n 1, 1) := by decide +kernel
theorem dX1_become_31 : decode cX1_become 31 = .ok (.getfield 18, 3) := by decide +kernel
theorem dX1_become_34 : decode cX1_become 34 = .ok (.iconst 0, 1) := by decide +kernel
theorem dX1_become_35 : decode cX1_become 35 = .ok (.aload_n 0, 1) := by decide +kernel
theorem dX1_become_36 : decode cX1_become 36 = .ok (.getfield 18, 3) := by decide +kernel
theorem dX1_become_39 : decode cX1_become 39 = .ok (.iconst 0, 1) := by decide +kernel
theorem dX1_become_40 : decode cX1_become 40 = .ok (.bipush 30, 2) := by decide +kernel
theorem dX1_become_42 : decode cX1_become 42 = .ok (.invokestatic 43, 3) := by decide +kernel
theorem dX1_become_45 : decode cX1_become 45 = .ok (.aload_n 1, 1) := by decide +kernel
theorem dX1_become_46 : decode cX1_become 46 = .ok (.getfield 21, 3) := by decide +kernel
theorem dX1_become_49 : decode cX1_become 49 = .ok (.iconst 0, 1) := by decide +kernel
theorem dX1_become_50 : decode cX1_become 50 = .ok (.aload_n 0, 1) := by decide +kernel
theorem dX1_become_51 : decode cX1_become 51 = .ok (.getfield 21, 3) := by decide +kernel
theorem dX1_become_54 : decode cX1_become 54 = .ok (.iconst 0, 1) := by decide +kernel
theorem dX1_become_55 : decode cX1_become 55 = .ok (.bipush 30, 2) := by decide +kernel
theorem dX1_become_57 : decode cX1_become 57 = .ok (.invokestatic 43, 3) := by decide +kernel
theorem dX1_become_60 : decode cX1_become 60 = .ok (.aload_n 1, 1) := by decide +kernel
theorem dX1_become_61 : decode cX1_become 61 = .ok (.getfield 24, 3) := by decide +kernel
theorem dX1_become_64 : decode cX1_become 64 = .ok (.iconst 0, 1) := by decide +kernel
theorem dX1_become_65 : decode cX1_become 65 = .ok (.aload_n 0, 1) := by decide +kernel
theorem dX1_become_66 : decode cX1_become 66 = .ok (.getfield 24, 3) := by decide +kernel
theorem dX1_become_69 : decode cX1_become 69 = .ok (.iconst 0, 1) := by decide +kernel
theorem dX1_become_70 : decode cX1_become 70 = .ok (.bipush 30, 2) := by decide +kernel
theorem dX1_become_72 : decode cX1_become 72 = .ok (.invokestatic 43, 3) := by decide +kernel
theorem dX1_become_75 : decode cX1_become 75 = .ok (.aload_n 1, 1) := by decide +kernel
theorem dX1_become_76 : decode cX1_become 76 = .ok (.getfield 27, 3) := by decide +kernel
theorem dX1_become_79 : decode cX1_become 79 = .ok (.iconst 0, 1) := by decide +kernel
theorem dX1_become_80 : decode cX1_become 80 = .ok (.aload_n 0, 1) := by decide +kernel
theorem dX1_become_81 : decode cX1_become 81 = .ok (.getfield 27, 3) := by decide +kernel
theorem dX1_become_84 : decode cX1_become 84 = .ok (.iconst 0, 1) := by decide +kernel
theorem dX1_become_85 : decode cX1_become 85 = .ok (.bipush 30, 2) := by decide +kernel
theorem dX1_become_87 : decode cX1_become 87 = .ok (.invokestatic 43, 3) := by decide +kernel
theorem dX1_become_90 : decode cX1_become 90 = .ok (.aload_n 1, 1) := by decide +kernel
theorem dX1_become_91 : decode cX1_become 91 = .ok (.getfield 30, 3) := by decide +kernel
theorem dX1_become_94 : decode cX1_become 94 = .ok (.iconst 0, 1) := by decide +kernel
theorem dX1_become_95 : decode cX1_become 95 = .ok (.aload_n 0, 1) := by decide +kernel
theorem dX1_become_96 : decode cX1_become 96 = .ok (.getfield 30, 3) := by decide +kernel
theorem dX1_become_99 : decode cX1_become 99 = .ok (.iconst 0, 1) := by decide +kernel
theorem dX1_become_100 : decode cX1_become 100 = .ok (.bipush 30, 2) := by decide +kernel
theorem dX1_become_102 : decode cX1_become 102 = .ok (.invokestatic 43, 3) := by decide +kernel
theorem dX1_become_105 : decode cX1_become 105 = .ok (.aload_n 1, 1) := by decide +kernel
theorem dX1_become_106 : decode cX1_become 106 = .ok (.getfield 33, 3) := by decide +kernel
theorem dX1_become_109 : decode cX1_become 109 = .ok (.iconst 0, 1) := by decide +kernel
theorem dX1_become_110 : decode cX1_become 110 = .ok (.aload_n 0, 1) := by decide +kernel
theorem dX1_become_111 : decode cX1_become 111 = .ok (.getfield 33, 3) := by decide +kernel
theorem dX1_become_114 : decode cX1_become 114 = .ok (.iconst 0, 1) := by decide +kernel
theorem dX1_become_115 : decode cX1_become 115 = .ok (.bipush 30, 2) := by decide +kernel
theorem dX1_become_117 : decode cX1_become 117 = .ok (.invokestatic 43, 3) := by decide +kernel
theorem dX1_become_120 : decode cX1_become 120 = .ok (.aload_n 0, 1) := by decide +kernel
theorem dX1_become_121 : decode cX1_become 121 = .ok (.aload_n 1, 1) := by decide +kernel
theorem dX1_become_122 : decode cX1_become 122 = .ok (.getfield 36, 3) := by decide +kernel
theorem dX1_become_125 : decode cX1_become 125 = .ok (.putfield 36, 3) := by decide +kernel
theorem dX1_become_128 : decode cX1_become 128 = .ok (.aload_n 0, 1) := by decide +kernel
theorem dX1_become_129 : decode cX1_become 129 = .ok (.aload_n 1, 1) := by decide +kernel
theorem dX1_become_130 : decode cX1_become 130 = .ok (.getfield 40, 3) := by decide +kernel
theorem dX1_become_133 : decode cX1_become 133 = .ok (.putfield 40, 3) := by decide +kernel
theorem dX1_become_136 : decode cX1_become 136 = .ok (.return_, 1) := by decide +kernel
theorem dX1_addLetter_0 : decode cX1_addLetter 0 = .ok (.aload_n 0, 1) := by decide +kernel
theorem dX1_addLetter_1 : decode cX1_addLetter 1 = .ok (.getfield 40, 3) := by decide +kernel
theorem dX1_addLetter_4 : decode cX1_addLetter 4 = .ok (.istore 7, 2) := by decide +kernel
theorem dX1_addLetter_6 : decode cX1_addLetter 6 = .ok (.aload_n 0, 1) := by decide +kernel
theorem dX1_addLetter_7 : decode cX1_addLetter 7 = .ok (.getfield 9, 3) := by decide +kernel
theorem dX1_addLetter_10 : decode cX1_addLetter 10 = .ok (.iload 7, 2) := by decide +kernel
theorem dX1_addLetter_12 : decode cX1_addLetter 12 = .ok (.iload_n 1, 1) := by decide +kernel
theorem dX1_addLetter_13 : decode cX1_addLetter 13 = .ok (.iastore, 1) := by decide +kernel
theorem dX1_addLetter_14 : decode cX1_addLetter 14 = .ok (.aload_n 0, 1) := by decide +kernel
theorem dX1_addLetter_15 : decode cX1_addLetter 15 = .ok (.getfield 15, 3) := by decide +kernel
theorem dX1_addLetter_18 : decode cX1_addLetter 18 = .ok (.iload 7, 2) := by decide +kernel
theorem dX1_addLetter_20 : decode cX1_addLetter 20 = .ok (.iload_n 2, 1) := by decide +kernel
theorem dX1_addLetter_21 : decode cX1_addLetter 21 = .ok (.bipush 100, 2) := by decide +kernel
theorem dX1_addLetter_23 : decode cX1_addLetter 23 = .ok (.idiv, 1) := by decide +kernel
theorem dX1_addLetter_24 : decode cX1_addLetter 24 = .ok (.iastore, 1) := by decide +kernel
theorem dX1_addLetter_25 : decode cX1_addLetter 25 = .ok (.aload_n 0, 1) := by decide +kernel
theorem dX1_addLetter_26 : decode cX1_addLetter 26 = .ok (.getfield 18, 3) := by decide +kernel
theorem dX1_addLetter_29 : decode cX1_addLetter 29 = .ok (.iload 7, 2) := by decide +kernel
theorem dX1_addLetter_31 : decode cX1_addLetter 31 = .ok (.iload_n 2, 1) := by decide +kernel
theorem dX1_addLetter_32 : decode cX1_addLetter 32 = .ok (.bipush 100, 2) := by decide +kernel
theorem dX1_addLetter_34 : decode cX1_addLetter 34 = .ok (.irem, 1) := by decide +kernel
theorem dX1_addLetter_35 : decode cX1_addLetter 35 = .ok (.iastore, 1) := by decide +kernel
theorem dX1_addLetter_36 : decode cX1_addLetter 36 = .ok (.aload_n 0, 1) := by decide +kernel
theorem dX1_addLetter_37 : decode cX1_addLetter 37 = .ok (.getfield 21, 3) := by decide +kernel
theorem dX1_addLetter_40 : decode cX1_addLetter 40 = .ok (.iload 7, 2) := by decide +kernel
theorem dX1_addLetter_42 : decode cX1_addLetter 42 = .ok (.iload_n 3, 1) := by decide +kernel
theorem dX1_addLetter_43 : decode cX1_addLetter 43 = .ok (.bipush 10, 2) := by decide +kernel
theorem dX1_addLetter_45 : decode cX1_addLetter 45 = .ok (.idiv, 1) := by decide +kernel
theorem dX1_addLetter_46 : decode cX1_addLetter 46 = .ok (.iastore, 1) := by decide +kernel
theorem dX1_addLetter_47 : decode cX1_addLetter 47 = .ok (.aload_n 0, 1) := by decide +kernel
theorem dX1_addLetter_48 : decode cX1_addLetter 48 = .ok (.getfield 24, 3) := by decide +kernel
theorem dX1_addLetter_51 : decode cX1_addLetter 51 = .ok (.iload 7, 2) := by decide +kernel
theorem dX1_addLetter_53 : decode cX1_addLetter 53 = .ok (.iload_n 3, 1) := by decide +kernel
theorem dX1_addLetter_54 : decode cX1_addLetter 54 = .ok (.bipush 10, 2) := by decide +kernel
theorem dX1_addLetter_56 : decode cX1_addLetter 56 = .ok (.irem, 1) := by decide +kernel
theorem dX1_addLetter_57 : decode cX1_addLetter 57 = .ok (.iastore, 1) := by decide +kernel
theorem dX1_addLetter_58 : decode cX1_addLetter 58 = .ok (.aload_n 0, 1) := by decide +kernel
theorem dX1_addLetter_59 : decode cX1_addLetter 59 = .ok (.getfield 27, 3) := by decide +kernel
theorem dX1_addLetter_62 : decode cX1_addLetter 62 = .ok (.iload 7, 2) := by decide +kernel
theorem dX1_addLetter_64 : decode cX1_addLetter 64 = .ok (.iload 6, 2) := by decide +kernel
theorem dX1_addLetter_66 : decode cX1_addLetter 66 = .ok (.iload 5, 2) := by decide +kernel
theorem dX1_addLetter_68 : decode cX1_addLetter 68 = .ok (.bipush 10, 2) := by decide +kernel
theorem dX1_addLetter_70 : decode cX1_addLetter 70 = .ok (.idiv, 1) := by decide +kernel
theorem dX1_addLetter_71 : decode cX1_addLetter 71 = .ok (.iadd, 1) := by decide +kernel
theorem dX1_addLetter_72 : decode cX1_addLetter 72 = .ok (.iastore, 1) := by decide +kernel
theorem dX1_addLetter_73 : decode cX1_addLetter 73 = .ok (.aload_n 0, 1) := by decide +kernel
theorem dX1_addLetter_74 : decode cX1_addLetter 74 = .ok (.getfield 30, 3) := by decide +kernel
theorem dX1_addLetter_77 : decode cX1_addLetter 77 = .ok (.iload 7, 2) := by decide +kernel
theorem dX1_addLetter_79 : decode cX1_addLetter 79 = .ok (.iload 4, 2) := by decide +kernel
theorem dX1_addLetter_81 : decode cX1_addLetter 81 = .ok (.iastore, 1) := by decide +kernel
theorem dX1_addLetter_82 : decode cX1_addLetter 82 = .ok (.aload_n 0, 1) := by decide +kernel
theorem dX1_addLetter_83 : decode cX1_addLetter 83 = .ok (.getfield 33, 3) := by decide +kernel
theorem dX1_addLetter_86 : decode cX1_addLetter 86 = .ok (.iload 7, 2) := by decide +kernel
theorem dX1_addLetter_88 : decode cX1_addLetter 88 = .ok (.iload 5, 2) := by decide +kernel
theorem dX1_addLetter_90 : decode cX1_addLetter 90 = .ok (.bipush 10, 2) := by decide +kernel
theorem dX1_addLetter_92 : decode cX1_addLetter 92 = .ok (.irem, 1) := by decide +kernel
theorem dX1_addLetter_93 : decode cX1_addLetter 93 = .ok (.iastore, 1) := by decide +kernel
theorem dX1_addLetter_94 : decode cX1_addLetter 94 = .ok (.aload_n 0, 1) := by decide +kernel
theorem dX1_addLetter_95 : decode cX1_addLetter 95 = .ok (.dup, 1) := by decide +kernel
theorem dX1_addLetter_96 : decode cX1_addLetter 96 = .ok (.getfield 40, 3) := by decide +kernel
theorem dX1_addLetter_99 : decode cX1_addLetter 99 = .ok (.iconst 1, 1) := by decide +kernel
theorem dX1_addLetter_100 : decode cX1_addLetter 100 = .ok (.iadd, 1) := by decide +kernel
theorem dX1_addLetter_101 : decode cX1_addLetter 101 = .ok (.putfield 40, 3) := by decide +kernel
theorem dX1_addLetter_104 : decode cX1_addLetter 104 = .ok (.iload 7, 2) := by decide +kernel
theorem dX1_addLetter_106 : decode cX1_addLetter 106 = .ok (.ireturn, 1) := by decide +kernel
theorem dX1_fieldOf_0 : decode cX1_fieldOf 0 = .ok (.iload_n 2, 1) := by decide +kernel
theorem dX1_fieldOf_1 : decode cX1_fieldOf 1 = .ok (.tableswitch 110 0 7 #[47, 54, 61, 68, 75, 82, 89, 103], 47) := by decide +kernel
theorem dX1_fieldOf_48 : decode cX1_fieldOf 48 = .ok (.aload_n 0, 1) := by decide +kernel
theorem dX1_fieldOf_49 : decode cX1_fieldOf 49 = .ok (.getfield 9, 3) := by decide +kernel
theorem dX1_fieldOf_52 : decode cX1_fieldOf 52 = .ok (.iload_n 1, 1) := by decide +kernel
theorem dX1_fieldOf_53 : decode cX1_fieldOf 53 = .ok (.iaload, 1) := by decide +kernel
theorem dX1_fieldOf_54 : decode cX1_fieldOf 54 = .ok (.ireturn, 1) := by decide +kernel
theorem dX1_fieldOf_55 : decode cX1_fieldOf 55 = .ok (.aload_n 0, 1) := by decide +kernel
theorem dX1_fieldOf_56 : decode cX1_fieldOf 56 = .ok (.getfield 15, 3) := by decide +kernel
theorem dX1_fieldOf_59 : decode cX1_fieldOf 59 = .ok (.iload_n 1, 1) := by decide +kernel
theorem dX1_fieldOf_60 : decode cX1_fieldOf 60 = .ok (.iaload, 1) := by decide +kernel
theorem dX1_fieldOf_61 : decode cX1_fieldOf 61 = .ok (.ireturn, 1) := by decide +kernel
theorem dX1_fieldOf_62 : decode cX1_fieldOf 62 = .ok (.aload_n 0, 1) := by decide +kernel
theorem dX1_fieldOf_63 : decode cX1_fieldOf 63 = .ok (.getfield 18, 3) := by decide +kernel
theorem dX1_fieldOf_66 : decode cX1_fieldOf 66 = .ok (.iload_n 1, 1) := by decide +kernel
theorem dX1_fieldOf_67 : decode cX1_fieldOf 67 = .ok (.iaload, 1) := by decide +kernel
theorem dX1_fieldOf_68 : decode cX1_fieldOf 68 = .ok (.ireturn, 1) := by decide +kernel
theorem dX1_fieldOf_69 : decode cX1_fieldOf 69 = .ok (.aload_n 0, 1) := by decide +kernel
theorem dX1_fieldOf_70 : decode cX1_fieldOf 70 = .ok (.getfield 21, 3) := by decide +kernel
theorem dX1_fieldOf_73 : decode cX1_fieldOf 73 = .ok (.iload_n 1, 1) := by decide +kernel
theorem dX1_fieldOf_74 : decode cX1_fieldOf 74 = .ok (.iaload, 1) := by decide +kernel
theorem dX1_fieldOf_75 : decode cX1_fieldOf 75 = .ok (.ireturn, 1) := by decide +kernel
theorem dX1_fieldOf_76 : decode cX1_fieldOf 76 = .ok (.aload_n 0, 1) := by decide +kernel
theorem dX1_fieldOf_77 : decode cX1_fieldOf 77 = .ok (.getfield 24, 3) := by decide +kernel
theorem dX1_fieldOf_80 : decode cX1_fieldOf 80 = .ok (.iload_n 1, 1) := by decide +kernel
theorem dX1_fieldOf_81 : decode cX1_fieldOf 81 = .ok (.iaload, 1) := by decide +kernel
theorem dX1_fieldOf_82 : decode cX1_fieldOf 82 = .ok (.ireturn, 1) := by decide +kernel
theorem dX1_fieldOf_83 : decode cX1_fieldOf 83 = .ok (.aload_n 0, 1) := by decide +kernel
theorem dX1_fieldOf_84 : decode cX1_fieldOf 84 = .ok (.getfield 27, 3) := by decide +kernel
theorem dX1_fieldOf_87 : decode cX1_fieldOf 87 = .ok (.iload_n 1, 1) := by decide +kernel
theorem dX1_fieldOf_88 : decode cX1_fieldOf 88 = .ok (.iaload, 1) := by decide +kernel
theorem dX1_fieldOf_89 : decode cX1_fieldOf 89 = .ok (.ireturn, 1) := by decide +kernel
theorem dX1_fieldOf_90 : decode cX1_fieldOf 90 = .ok (.aload_n 0, 1) := by decide +kernel
theorem dX1_fieldOf_91 : decode cX1_fieldOf 91 = .ok (.iload_n 1, 1) := by decide +kernel
theorem dX1_fieldOf_92 : decode cX1_fieldOf 92 = .ok (.invokevirtual 49, 3) := by decide +kernel
theorem dX1_fieldOf_95 : decode cX1_fieldOf 95 = .ok (.ifCond .eq 7, 3) := by decide +kernel
theorem dX1_fieldOf_98 : decode cX1_fieldOf 98 = .ok (.iconst 1, 1) := by decide +kernel
theorem dX1_fieldOf_99 : decode cX1_fieldOf 99 = .ok (.goto 4, 3) := by decide +kernel
theorem dX1_fieldOf_102 : decode cX1_fieldOf 102 = .ok (.iconst 0, 1) := by decide +kernel
theorem dX1_fieldOf_103 : decode cX1_fieldOf 103 = .ok (.ireturn, 1) := by decide +kernel
theorem dX1_fieldOf_104 : decode cX1_fieldOf 104 = .ok (.aload_n 0, 1) := by decide +kernel
theorem dX1_fieldOf_105 : decode cX1_fieldOf 105 = .ok (.getfield 30, 3) := by decide +kernel
theorem dX1_fieldOf_108 : decode cX1_fieldOf 108 = .ok (.iload_n 1, 1) := by decide +kernel
theorem dX1_fieldOf_109 : decode cX1_fieldOf 109 = .ok (.iaload, 1) := by decide +kernel
theorem dX1_fieldOf_110 : decode cX1_fieldOf 110 = .ok (.ireturn, 1) := by decide +kernel
theorem dX1_fieldOf_111 : decode cX1_fieldOf 111 = .ok (.aload_n 0, 1) := by decide +kernel
theorem dX1_fieldOf_112 : decode cX1_fieldOf 112 = .ok (.getfield 33, 3) := by decide +kernel
theorem dX1_fieldOf_115 : decode cX1_fieldOf 115 = .ok (.iload_n 1, 1) := by decide +kernel
theorem dX1_fieldOf_116 : decode cX1_fieldOf 116 = .ok (.iaload, 1) := by decide +kernel
theorem dX1_fieldOf_117 : decode cX1_fieldOf 117 = .ok (.ireturn, 1) := by decide +kernel
theorem dX1_isLost_0 : decode cX1_isLost 0 = .ok (.aload_n 0, 1) := by decide +kernel
theorem dX1_isLost_1 : decode cX1_isLost 1 = .ok (.getfield 36, 3) := by decide +kernel
theorem dX1_isLost_4 : decode cX1_isLost 4 = .ok (.iload_n 1, 1) := by decide +kernel
theorem dX1_isLost_5 : decode cX1_isLost 5 = .ok (.ishr, 1) := by decide +kernel
theorem dX1_isLost_6 : decode cX1_isLost 6 = .ok (.iconst 1, 1) := by decide +kernel
theorem dX1_isLost_7 : decode cX1_isLost 7 = .ok (.iand, 1) := by decide +kernel
theorem dX1_isLost_8 : decode cX1_isLost 8 = .ok (.iconst 1, 1) := by decide +kernel
theorem dX1_isLost_9 : decode cX1_isLost 9 = .ok (.if_icmp .ne 7, 3) := by decide +kernel
theorem dX1_isLost_12 : decode cX1_isLost 12 = .ok (.iconst 1, 1) := by decide +kernel
theorem dX1_isLost_13 : decode cX1_isLost 13 = .ok (.goto 4, 3) := by decide +kernel
theorem dX1_isLost_16 : decode cX1_isLost 16 = .ok (.iconst 0, 1) := by decide +kernel
theorem dX1_isLost_17 : decode cX1_isLost 17 = .ok (.ireturn, 1) := by decide +kernel
theorem dX1_isOfKind_0 : decode cX1_isOfKind 0 = .ok (.aload_n 0, 1) := by decide +kernel
theorem dX1_isOfKind_1 : decode cX1_isOfKind 1 = .ok (.getfield 9, 3) := by decide +kernel
theorem dX1_isOfKind_4 : decode cX1_isOfKind 4 = .ok (.iload_n 1, 1) := by decide +kernel
theorem dX1_isOfKind_5 : decode cX1_isOfKind 5 = .ok (.iaload, 1) := by decide +kernel
theorem dX1_isOfKind_6 : decode cX1_isOfKind 6 = .ok (.istore_n 3, 1) := by decide +kernel
theorem dX1_isOfKind_7 : decode cX1_isOfKind 7 = .ok (.iconst 0, 1) := by decide +kernel
theorem dX1_isOfKind_8 : decode cX1_isOfKind 8 = .ok (.istore 4, 2) := by decide +kernel
theorem dX1_isOfKind_10 : decode cX1_isOfKind 10 = .ok (.iload 4, 2) := by decide +kernel
theorem dX1_isOfKind_12 : decode cX1_isOfKind 12 = .ok (.bipush 6, 2) := by decide +kernel
theorem dX1_isOfKind_14 : decode cX1_isOfKind 14 = .ok (.if_icmp .ge 26, 3) := by decide +kernel
theorem dX1_isOfKind_17 : decode cX1_isOfKind 17 = .ok (.iload_n 3, 1) := by decide +kernel
theorem dX1_isOfKind_18 : decode cX1_isOfKind 18 = .ok (.ifCond .lt 22, 3) := by decide +kernel
theorem dX1_isOfKind_21 : decode cX1_isOfKind 21 = .ok (.iload_n 3, 1) := by decide +kernel
theorem dX1_isOfKind_22 : decode cX1_isOfKind 22 = .ok (.iload_n 2, 1) := by decide +kernel
theorem dX1_isOfKind_23 : decode cX1_isOfKind 23 = .ok (.if_icmp .ne 5, 3) := by decide +kernel
theorem dX1_isOfKind_26 : decode cX1_isOfKind 26 = .ok (.iconst 1, 1) := by decide +kernel
theorem dX1_isOfKind_27 : decode cX1_isOfKind 27 = .ok (.ireturn, 1) := by decide +kernel
theorem dX1_isOfKind_28 : decode cX1_isOfKind 28 = .ok (.getstatic 53, 3) := by decide +kernel
theorem dX1_isOfKind_31 : decode cX1_isOfKind 31 = .ok (.iload_n 3, 1) := by decide +kernel
theorem dX1_isOfKind_32 : decode cX1_isOfKind 32 = .ok (.iaload, 1) := by decide +kernel
theorem dX1_isOfKind_33 : decode cX1_isOfKind 33 = .ok (.istore_n 3, 1) := by decide +kernel
theorem dX1_isOfKind_34 : decode cX1_isOfKind 34 = .ok (.iinc 4 1, 3) := by decide +kernel
theorem dX1_isOfKind_37 : decode cX1_isOfKind 37 = .ok (.goto (-27), 3) := by decide +kernel
theorem dX1_isOfKind_40 : decode cX1_isOfKind 40 = .ok (.iconst 0, 1) := by decide +kernel
theorem dX1_isOfKind_41 : decode cX1_isOfKind 41 = .ok (.ireturn, 1) := by decide +kernel
theorem dX1_everyOne_0 : decode cX1_everyOne 0 = .ok (.iconst 1, 1) := by decide +kernel
theorem dX1_everyOne_1 : decode cX1_everyOne 1 = .ok (.aload_n 0, 1) := by decide +kernel
theorem dX1_everyOne_2 : decode cX1_everyOne 2 = .ok (.getfield 40, 3) := by decide +kernel
theorem dX1_everyOne_5 : decode cX1_everyOne 5 = .ok (.ishl, 1) := by decide +kernel
theorem dX1_everyOne_6 : decode cX1_everyOne 6 = .ok (.iconst 1, 1) := by decide +kernel
theorem dX1_everyOne_7 : decode cX1_everyOne 7 = .ok (.isub, 1) := by decide +kernel
theorem dX1_everyOne_8 : decode cX1_everyOne 8 = .ok (.ireturn, 1) := by decide +kernel
theorem dX1_countOf_0 : decode cX1_countOf 0 = .ok (.iconst 0, 1) := by decide +kernel
theorem dX1_countOf_1 : decode cX1_countOf 1 = .ok (.istore_n 3, 1) := by decide +kernel
theorem dX1_countOf_2 : decode cX1_countOf 2 = .ok (.iconst 0, 1) := by decide +kernel
theorem dX1_countOf_3 : decode cX1_countOf 3 = .ok (.istore 4, 2) := by decide +kernel
theorem dX1_countOf_5 : decode cX1_countOf 5 = .ok (.iload 4, 2) := by decide +kernel
theorem dX1_countOf_7 : decode cX1_countOf 7 = .ok (.aload_n 0, 1) := by decide +kernel
theorem dX1_countOf_8 : decode cX1_countOf 8 = .ok (.getfield 40, 3) := by decide +kernel
theorem dX1_countOf_11 : decode cX1_countOf 11 = .ok (.if_icmp .ge 33, 3) := by decide +kernel
theorem dX1_countOf_14 : decode cX1_countOf 14 = .ok (.iload_n 2, 1) := by decide +kernel
theorem dX1_countOf_15 : decode cX1_countOf 15 = .ok (.iload 4, 2) := by decide +kernel
theorem dX1_countOf_17 : decode cX1_countOf 17 = .ok (.ishr, 1) := by decide +kernel
theorem dX1_countOf_18 : decode cX1_countOf 18 = .ok (.iconst 1, 1) := by decide +kernel
theorem dX1_countOf_19 : decode cX1_countOf 19 = .ok (.iand, 1) := by decide +kernel
theorem dX1_countOf_20 : decode cX1_countOf 20 = .ok (.iconst 1, 1) := by decide +kernel
theorem dX1_countOf_21 : decode cX1_countOf 21 = .ok (.if_icmp .ne 17, 3) := by decide +kernel
theorem dX1_countOf_24 : decode cX1_countOf 24 = .ok (.aload_n 0, 1) := by decide +kernel
theorem dX1_countOf_25 : decode cX1_countOf 25 = .ok (.getfield 15, 3) := by decide +kernel
theorem dX1_countOf_28 : decode cX1_countOf 28 = .ok (.iload 4, 2) := by decide +kernel
theorem dX1_countOf_30 : decode cX1_countOf 30 = .ok (.iaload, 1) := by decide +kernel
theorem dX1_countOf_31 : decode cX1_countOf 31 = .ok (.iload_n 1, 1) := by decide +kernel
theorem dX1_countOf_32 : decode cX1_countOf 32 = .ok (.if_icmp .ne 6, 3) := by decide +kernel
theorem dX1_countOf_35 : decode cX1_countOf 35 = .ok (.iinc 3 1, 3) := by decide +kernel
theorem dX1_countOf_38 : decode cX1_countOf 38 = .ok (.iinc 4 1, 3) := by decide +kernel
theorem dX1_countOf_41 : decode cX1_countOf 41 = .ok (.goto (-36), 3) := by decide +kernel
theorem dX1_countOf_44 : decode cX1_countOf 44 = .ok (.iload_n 3, 1) := by decide +kernel
theorem dX1_countOf_45 : decode cX1_countOf 45 = .ok (.ireturn, 1) := by decide +kernel
theorem dX1_rootOf_0 : decode cX1_rootOf 0 = .ok (.iload_n 1, 1) := by decide +kernel
theorem dX1_rootOf_1 : decode cX1_rootOf 1 = .ok (.istore_n 2, 1) := by decide +kernel
theorem dX1_rootOf_2 : decode cX1_rootOf 2 = .ok (.iconst 0, 1) := by decide +kernel
theorem dX1_rootOf_3 : decode cX1_rootOf 3 = .ok (.istore_n 3, 1) := by decide +kernel
theorem dX1_rootOf_4 : decode cX1_rootOf 4 = .ok (.iload_n 3, 1) := by decide +kernel
theorem dX1_rootOf_5 : decode cX1_rootOf 5 = .ok (.bipush 30, 2) := by decide +kernel
theorem dX1_rootOf_7 : decode cX1_rootOf 7 = .ok (.if_icmp .ge 25, 3) := by decide +kernel
theorem dX1_rootOf_10 : decode cX1_rootOf 10 = .ok (.aload_n 0, 1) := by decide +kernel
theorem dX1_rootOf_11 : decode cX1_rootOf 11 = .ok (.getfield 30, 3) := by decide +kernel
theorem dX1_rootOf_14 : decode cX1_rootOf 14 = .ok (.iload_n 2, 1) := by decide +kernel
theorem dX1_rootOf_15 : decode cX1_rootOf 15 = .ok (.iaload, 1) := by decide +kernel
theorem dX1_rootOf_16 : decode cX1_rootOf 16 = .ok (.ifCond .lt 16, 3) := by decide +kernel
theorem dX1_rootOf_19 : decode cX1_rootOf 19 = .ok (.aload_n 0, 1) := by decide +kernel
theorem dX1_rootOf_20 : decode cX1_rootOf 20 = .ok (.getfield 30, 3) := by decide +kernel
theorem dX1_rootOf_23 : decode cX1_rootOf 23 = .ok (.iload_n 2, 1) := by decide +kernel
theorem dX1_rootOf_24 : decode cX1_rootOf 24 = .ok (.iaload, 1) := by decide +kernel
theorem dX1_rootOf_25 : decode cX1_rootOf 25 = .ok (.istore_n 2, 1) := by decide +kernel
theorem dX1_rootOf_26 : decode cX1_rootOf 26 = .ok (.iinc 3 1, 3) := by decide +kernel
theorem dX1_rootOf_29 : decode cX1_rootOf 29 = .ok (.goto (-25), 3) := by decide +kernel
theorem dX1_rootOf_32 : decode cX1_rootOf 32 = .ok (.iload_n 2, 1) := by decide +kernel
theorem dX1_rootOf_33 : decode cX1_rootOf 33 = .ok (.ireturn, 1) := by decide +kernel
theorem dX1_treeOf_0 : decode cX1_treeOf 0 = .ok (.aload_n 0, 1) := by decide +kernel
theorem dX1_treeOf_1 : decode cX1_treeOf 1 = .ok (.iload_n 1, 1) := by decide +kernel
theorem dX1_treeOf_2 : decode cX1_treeOf 2 = .ok (.invokevirtual 56, 3) := by decide +kernel
theorem dX1_treeOf_5 : decode cX1_treeOf 5 = .ok (.istore_n 2, 1) := by decide +kernel
theorem dX1_treeOf_6 : decode cX1_treeOf 6 = .ok (.iconst 0, 1) := by decide +kernel
theorem dX1_treeOf_7 : decode cX1_treeOf 7 = .ok (.istore_n 3, 1) := by decide +kernel
theorem dX1_treeOf_8 : decode cX1_treeOf 8 = .ok (.iconst 0, 1) := by decide +kernel
theorem dX1_treeOf_9 : decode cX1_treeOf 9 = .ok (.istore 4, 2) := by decide +kernel
theorem dX1_treeOf_11 : decode cX1_treeOf 11 = .ok (.iload 4, 2) := by decide +kernel
theorem dX1_treeOf_13 : decode cX1_treeOf 13 = .ok (.aload_n 0, 1) := by decide +kernel
theorem dX1_treeOf_14 : decode cX1_treeOf 14 = .ok (.getfield 40, 3) := by decide +kernel
theorem dX1_treeOf_17 : decode cX1_treeOf 17 = .ok (.if_icmp .ge 26, 3) := by decide +kernel
theorem dX1_treeOf_20 : decode cX1_treeOf 20 = .ok (.aload_n 0, 1) := by decide +kernel
theorem dX1_treeOf_21 : decode cX1_treeOf 21 = .ok (.iload 4, 2) := by decide +kernel
theorem dX1_treeOf_23 : decode cX1_treeOf 23 = .ok (.invokevirtual 56, 3) := by decide +kernel
theorem dX1_treeOf_26 : decode cX1_treeOf 26 = .ok (.iload_n 2, 1) := by decide +kernel
theorem dX1_treeOf_27 : decode cX1_treeOf 27 = .ok (.if_icmp .ne 10, 3) := by decide +kernel
theorem dX1_treeOf_30 : decode cX1_treeOf 30 = .ok (.iload_n 3, 1) := by decide +kernel
theorem dX1_treeOf_31 : decode cX1_treeOf 31 = .ok (.iconst 1, 1) := by decide +kernel
theorem dX1_treeOf_32 : decode cX1_treeOf 32 = .ok (.iload 4, 2) := by decide +kernel
theorem dX1_treeOf_34 : decode cX1_treeOf 34 = .ok (.ishl, 1) := by decide +kernel
theorem dX1_treeOf_35 : decode cX1_treeOf 35 = .ok (.ior, 1) := by decide +kernel
theorem dX1_treeOf_36 : decode cX1_treeOf 36 = .ok (.istore_n 3, 1) := by decide +kernel
theorem dX1_treeOf_37 : decode cX1_treeOf 37 = .ok (.iinc 4 1, 3) := by decide +kernel
theorem dX1_treeOf_40 : decode cX1_treeOf 40 = .ok (.goto (-29), 3) := by decide +kernel
theorem dX1_treeOf_43 : decode cX1_treeOf 43 = .ok (.iload_n 3, 1) := by decide +kernel
theorem dX1_treeOf_44 : decode cX1_treeOf 44 = .ok (.ireturn, 1) := by decide +kernel
theorem dX1_countingSet_0 : decode cX1_countingSet 0 = .ok (.iconst 0, 1) := by decide +kernel
theorem dX1_countingSet_1 : decode cX1_countingSet 1 = .ok (.istore_n 3, 1) := by decide +kernel
theorem dX1_countingSet_2 : decode cX1_countingSet 2 = .ok (.iconst 0, 1) := by decide +kernel
theorem dX1_countingSet_3 : decode cX1_countingSet 3 = .ok (.istore 4, 2) := by decide +kernel
theorem dX1_countingSet_5 : decode cX1_countingSet 5 = .ok (.iconst 0, 1) := by decide +kernel
theorem dX1_countingSet_6 : decode cX1_countingSet 6 = .ok (.istore 5, 2) := by decide +kernel
theorem dX1_countingSet_8 : decode cX1_countingSet 8 = .ok (.iload 5, 2) := by decide +kernel
theorem dX1_countingSet_10 : decode cX1_countingSet 10 = .ok (.aload_n 0, 1) := by decide +kernel
theorem dX1_countingSet_11 : decode cX1_countingSet 11 = .ok (.getfield 40, 3) := by decide +kernel
theorem dX1_countingSet_14 : decode cX1_countingSet 14 = .ok (.if_icmp .ge 98, 3) := by decide +kernel
theorem dX1_countingSet_17 : decode cX1_countingSet 17 = .ok (.iload 5, 2) := by decide +kernel
theorem dX1_countingSet_19 : decode cX1_countingSet 19 = .ok (.iload_n 2, 1) := by decide +kernel
theorem dX1_countingSet_20 : decode cX1_countingSet 20 = .ok (.if_icmp .eq 86, 3) := by decide +kernel
theorem dX1_countingSet_23 : decode cX1_countingSet 23 = .ok (.aload_n 0, 1) := by decide +kernel
theorem dX1_countingSet_24 : decode cX1_countingSet 24 = .ok (.iload 5, 2) := by decide +kernel
theorem dX1_countingSet_26 : decode cX1_countingSet 26 = .ok (.invokevirtual 49, 3) := by decide +kernel
theorem dX1_countingSet_29 : decode cX1_countingSet 29 = .ok (.ifCond .ne 77, 3) := by decide +kernel
theorem dX1_countingSet_32 : decode cX1_countingSet 32 = .ok (.aload_n 0, 1) := by decide +kernel
theorem dX1_countingSet_33 : decode cX1_countingSet 33 = .ok (.getfield 27, 3) := by decide +kernel
theorem dX1_countingSet_36 : decode cX1_countingSet 36 = .ok (.iload 5, 2) := by decide +kernel
theorem dX1_countingSet_38 : decode cX1_countingSet 38 = .ok (.iaload, 1) := by decide +kernel
theorem dX1_countingSet_39 : decode cX1_countingSet 39 = .ok (.iload_n 1, 1) := by decide +kernel
theorem dX1_countingSet_40 : decode cX1_countingSet 40 = .ok (.if_icmp .gt 66, 3) := by decide +kernel
theorem dX1_countingSet_43 : decode cX1_countingSet 43 = .ok (.aload_n 0, 1) := by decide +kernel
theorem dX1_countingSet_44 : decode cX1_countingSet 44 = .ok (.getfield 9, 3) := by decide +kernel
theorem dX1_countingSet_47 : decode cX1_countingSet 47 = .ok (.iload 5, 2) := by decide +kernel
theorem dX1_countingSet_49 : decode cX1_countingSet 49 = .ok (.iaload, 1) := by decide +kernel
theorem dX1_countingSet_50 : decode cX1_countingSet 50 = .ok (.iconst 5, 1) := by decide +kernel
theorem dX1_countingSet_51 : decode cX1_countingSet 51 = .ok (.if_icmp .ne 6, 3) := by decide +kernel
theorem dX1_countingSet_54 : decode cX1_countingSet 54 = .ok (.goto 52, 3) := by decide +kernel
theorem dX1_countingSet_57 : decode cX1_countingSet 57 = .ok (.aload_n 0, 1) := by decide +kernel
theorem dX1_countingSet_58 : decode cX1_countingSet 58 = .ok (.getfield 9, 3) := by decide +kernel
theorem dX1_countingSet_61 : decode cX1_countingSet 61 = .ok (.iload 5, 2) := by decide +kernel
theorem dX1_countingSet_63 : decode cX1_countingSet 63 = .ok (.iaload, 1) := by decide +kernel
theorem dX1_countingSet_64 : decode cX1_countingSet 64 = .ok (.iconst 3, 1) := by decide +kernel
theorem dX1_countingSet_65 : decode cX1_countingSet 65 = .ok (.if_icmp .ne 34, 3) := by decide +kernel
theorem dX1_countingSet_68 : decode cX1_countingSet 68 = .ok (.iconst 1, 1) := by decide +kernel
theorem dX1_countingSet_69 : decode cX1_countingSet 69 = .ok (.aload_n 0, 1) := by decide +kernel
theorem dX1_countingSet_70 : decode cX1_countingSet 70 = .ok (.getfield 30, 3) := by decide +kernel
theorem dX1_countingSet_73 : decode cX1_countingSet 73 = .ok (.iload 5, 2) := by decide +kernel
theorem dX1_countingSet_75 : decode cX1_countingSet 75 = .ok (.iaload, 1) := by decide +kernel
theorem dX1_countingSet_76 : decode cX1_countingSet 76 = .ok (.ishl, 1) := by decide +kernel
theorem dX1_countingSet_77 : decode cX1_countingSet 77 = .ok (.istore 6, 2) := by decide +kernel
theorem dX1_countingSet_79 : decode cX1_countingSet 79 = .ok (.iload_n 3, 1) := by decide +kernel
theorem dX1_countingSet_80 : decode cX1_countingSet 80 = .ok (.iload 4, 2) := by decide +kernel
theorem dX1_countingSet_82 : decode cX1_countingSet 82 = .ok (.ior, 1) := by decide +kernel
theorem dX1_countingSet_83 : decode cX1_countingSet 83 = .ok (.iload 6, 2) := by decide +kernel
theorem dX1_countingSet_85 : decode cX1_countingSet 85 = .ok (.iand, 1) := by decide +kernel
theorem dX1_countingSet_86 : decode cX1_countingSet 86 = .ok (.ifCond .eq 6, 3) := by decide +kernel
theorem dX1_countingSet_89 : decode cX1_countingSet 89 = .ok (.goto 17, 3) := by decide +kernel
theorem dX1_countingSet_92 : decode cX1_countingSet 92 = .ok (.iload 4, 2) := by decide +kernel
theorem dX1_countingSet_94 : decode cX1_countingSet 94 = .ok (.iload 6, 2) := by decide +kernel
theorem dX1_countingSet_96 : decode cX1_countingSet 96 = .ok (.ior, 1) := by decide +kernel
theorem dX1_countingSet_97 : decode cX1_countingSet 97 = .ok (.istore 4, 2) := by decide +kernel
theorem dX1_countingSet_99 : decode cX1_countingSet 99 = .ok (.iload_n 3, 1) := by decide +kernel
theorem dX1_countingSet_100 : decode cX1_countingSet 100 = .ok (.iconst 1, 1) := by decide +kernel
theorem dX1_countingSet_101 : decode cX1_countingSet 101 = .ok (.iload 5, 2) := by decide +kernel
theorem dX1_countingSet_103 : decode cX1_countingSet 103 = .ok (.ishl, 1) := by decide +kernel
theorem dX1_countingSet_104 : decode cX1_countingSet 104 = .ok (.ior, 1) := by decide +kernel
theorem dX1_countingSet_105 : decode cX1_countingSet 105 = .ok (.istore_n 3, 1) := by decide +kernel
theorem dX1_countingSet_106 : decode cX1_countingSet 106 = .ok (.iinc 5 1, 3) := by decide +kernel
theorem dX1_countingSet_109 : decode cX1_countingSet 109 = .ok (.goto (-101), 3) := by decide +kernel
theorem dX1_countingSet_112 : decode cX1_countingSet 112 = .ok (.iload_n 3, 1) := by decide +kernel
theorem dX1_countingSet_113 : decode cX1_countingSet 113 = .ok (.ireturn, 1) := by decide +kernel
theorem dX2_become_0 : decode cX2_become 0 = .ok (.aload_n 1, 1) := by decide +kernel
theorem dX2_become_1 : decode cX2_become 1 = .ok (.getfield 9, 3) := by decide +kernel
theorem dX2_become_4 : decode cX2_become 4 = .ok (.iconst 0, 1) := by decide +kernel
theorem dX2_become_5 : decode cX2_become 5 = .ok (.aload_n 0, 1) := by decide +kernel
theorem dX2_become_6 : decode cX2_become 6 = .ok (.getfield 9, 3) := by decide +kernel
theorem dX2_become_9 : decode cX2_become 9 = .ok (.iconst 0, 1) := by decide +kernel
theorem dX2_become_10 : decode cX2_become 10 = .ok (.bipush 20, 2) := by decide +kernel
theorem dX2_become_12 : decode cX2_become 12 = .ok (.invokestatic 25, 3) := by decide +kernel
theorem dX2_become_15 : decode cX2_become 15 = .ok (.aload_n 1, 1) := by decide +kernel
theorem dX2_become_16 : decode cX2_become 16 = .ok (.getfield 15, 3) := by decide +kernel
theorem dX2_become_19 : decode cX2_become 19 = .ok (.iconst 0, 1) := by decide +kernel
theorem dX2_become_20 : decode cX2_become 20 = .ok (.aload_n 0, 1) := by decide +kernel
theorem dX2_become_21 : decode cX2_become 21 = .ok (.getfield 15, 3) := by decide +kernel
theorem dX2_become_24 : decode cX2_become 24 = .ok (.iconst 0, 1) := by decide +kernel
theorem dX2_become_25 : decode cX2_become 25 = .ok (.bipush 20, 2) := by decide +kernel
theorem dX2_become_27 : decode cX2_become 27 = .ok (.invokestatic 25, 3) := by decide +kernel
theorem dX2_become_30 : decode cX2_become 30 = .ok (.aload_n 1, 1) := by decide +kernel
theorem dX2_become_31 : decode cX2_become 31 = .ok (.getfield 18, 3) := by decide +kernel
theorem dX2_become_34 : decode cX2_become 34 = .ok (.iconst 0, 1) := by decide +kernel
theorem dX2_become_35 : decode cX2_become 35 = .ok (.aload_n 0, 1) := by decide +kernel
theorem dX2_become_36 : decode cX2_become 36 = .ok (.getfield 18, 3) := by decide +kernel
theorem dX2_become_39 : decode cX2_become 39 = .ok (.iconst 0, 1) := by decide +kernel
theorem dX2_become_40 : decode cX2_become 40 = .ok (.bipush 20, 2) := by decide +kernel
theorem dX2_become_42 : decode cX2_become 42 = .ok (.invokestatic 25, 3) := by decide +kernel
theorem dX2_become_45 : decode cX2_become 45 = .ok (.aload_n 0, 1) := by decide +kernel
theorem dX2_become_46 : decode cX2_become 46 = .ok (.aload_n 1, 1) := by decide +kernel
theorem dX2_become_47 : decode cX2_become 47 = .ok (.getfield 21, 3) := by decide +kernel
theorem dX2_become_50 : decode cX2_become 50 = .ok (.putfield 21, 3) := by decide +kernel
theorem dX2_become_53 : decode cX2_become 53 = .ok (.return_, 1) := by decide +kernel
theorem dX2_addNote_0 : decode cX2_addNote 0 = .ok (.aload_n 0, 1) := by decide +kernel
theorem dX2_addNote_1 : decode cX2_addNote 1 = .ok (.getfield 21, 3) := by decide +kernel
theorem dX2_addNote_4 : decode cX2_addNote 4 = .ok (.istore 4, 2) := by decide +kernel
theorem dX2_addNote_6 : decode cX2_addNote 6 = .ok (.aload_n 0, 1) := by decide +kernel
theorem dX2_addNote_7 : decode cX2_addNote 7 = .ok (.getfield 9, 3) := by decide +kernel
theorem dX2_addNote_10 : decode cX2_addNote 10 = .ok (.iload 4, 2) := by decide +kernel
theorem dX2_addNote_12 : decode cX2_addNote 12 = .ok (.iload_n 1, 1) := by decide +kernel
theorem dX2_addNote_13 : decode cX2_addNote 13 = .ok (.iastore, 1) := by decide +kernel
theorem dX2_addNote_14 : decode cX2_addNote 14 = .ok (.aload_n 0, 1) := by decide +kernel
theorem dX2_addNote_15 : decode cX2_addNote 15 = .ok (.getfield 15, 3) := by decide +kernel
theorem dX2_addNote_18 : decode cX2_addNote 18 = .ok (.iload 4, 2) := by decide +kernel
theorem dX2_addNote_20 : decode cX2_addNote 20 = .ok (.iload_n 2, 1) := by decide +kernel
theorem dX2_addNote_21 : decode cX2_addNote 21 = .ok (.iastore, 1) := by decide +kernel
theorem dX2_addNote_22 : decode cX2_addNote 22 = .ok (.aload_n 0, 1) := by decide +kernel
theorem dX2_addNote_23 : decode cX2_addNote 23 = .ok (.getfield 18, 3) := by decide +kernel
theorem dX2_addNote_26 : decode cX2_addNote 26 = .ok (.iload 4, 2) := by decide +kernel
theorem dX2_addNote_28 : decode cX2_addNote 28 = .ok (.iload_n 3, 1) := by decide +kernel
theorem dX2_addNote_29 : decode cX2_addNote 29 = .ok (.iastore, 1) := by decide +kernel
theorem dX2_addNote_30 : decode cX2_addNote 30 = .ok (.aload_n 0, 1) := by decide +kernel
theorem dX2_addNote_31 : decode cX2_addNote 31 = .ok (.dup, 1) := by decide +kernel
theorem dX2_addNote_32 : decode cX2_addNote 32 = .ok (.getfield 21, 3) := by decide +kernel
theorem dX2_addNote_35 : decode cX2_addNote 35 = .ok (.iconst 1, 1) := by decide +kernel
theorem dX2_addNote_36 : decode cX2_addNote 36 = .ok (.iadd, 1) := by decide +kernel
theorem dX2_addNote_37 : decode cX2_addNote 37 = .ok (.putfield 21, 3) := by decide +kernel
theorem dX2_addNote_40 : decode cX2_addNote 40 = .ok (.iload 4, 2) := by decide +kernel
theorem dX2_addNote_42 : decode cX2_addNote 42 = .ok (.ireturn, 1) := by decide +kernel
theorem dX3_isMissing_0 : decode cX3_isMissing 0 = .ok (.aload_n 0, 1) := by decide +kernel
theorem dX3_isMissing_1 : decode cX3_isMissing 1 = .ok (.getfield 15, 3) := by decide +kernel
theorem dX3_isMissing_4 : decode cX3_isMissing 4 = .ok (.iload_n 1, 1) := by decide +kernel
theorem dX3_isMissing_5 : decode cX3_isMissing 5 = .ok (.iaload, 1) := by decide +kernel
theorem dX3_isMissing_6 : decode cX3_isMissing 6 = .ok (.ifCond .ne 7, 3) := by decide +kernel
theorem dX3_isMissing_9 : decode cX3_isMissing 9 = .ok (.iconst 1, 1) := by decide +kernel
theorem dX3_isMissing_10 : decode cX3_isMissing 10 = .ok (.goto 4, 3) := by decide +kernel
theorem dX3_isMissing_13 : decode cX3_isMissing 13 = .ok (.iconst 0, 1) := by decide +kernel
theorem dX3_isMissing_14 : decode cX3_isMissing 14 = .ok (.ireturn, 1) := by decide +kernel
theorem dX3_at_0 : decode cX3_at 0 = .ok (.aload_n 0, 1) := by decide +kernel
theorem dX3_at_1 : decode cX3_at 1 = .ok (.getfield 9, 3) := by decide +kernel
theorem dX3_at_4 : decode cX3_at 4 = .ok (.iload_n 1, 1) := by decide +kernel
theorem dX3_at_5 : decode cX3_at 5 = .ok (.bipush 40, 2) := by decide +kernel
theorem dX3_at_7 : decode cX3_at 7 = .ok (.imul, 1) := by decide +kernel
theorem dX3_at_8 : decode cX3_at 8 = .ok (.iload_n 2, 1) := by decide +kernel
theorem dX3_at_9 : decode cX3_at 9 = .ok (.iadd, 1) := by decide +kernel
theorem dX3_at_10 : decode cX3_at 10 = .ok (.laload, 1) := by decide +kernel
theorem dX3_at_11 : decode cX3_at 11 = .ok (.lreturn, 1) := by decide +kernel
theorem dX3_layAnew_0 : decode cX3_layAnew 0 = .ok (.aload_n 0, 1) := by decide +kernel
theorem dX3_layAnew_1 : decode cX3_layAnew 1 = .ok (.getfield 15, 3) := by decide +kernel
theorem dX3_layAnew_4 : decode cX3_layAnew 4 = .ok (.iload_n 1, 1) := by decide +kernel
theorem dX3_layAnew_5 : decode cX3_layAnew 5 = .ok (.iload_n 2, 1) := by decide +kernel
theorem dX3_layAnew_6 : decode cX3_layAnew 6 = .ok (.iastore, 1) := by decide +kernel
theorem dX3_layAnew_7 : decode cX3_layAnew 7 = .ok (.aload_n 0, 1) := by decide +kernel
theorem dX3_layAnew_8 : decode cX3_layAnew 8 = .ok (.getfield 19, 3) := by decide +kernel
theorem dX3_layAnew_11 : decode cX3_layAnew 11 = .ok (.iload_n 1, 1) := by decide +kernel
theorem dX3_layAnew_12 : decode cX3_layAnew 12 = .ok (.iload_n 2, 1) := by decide +kernel
theorem dX3_layAnew_13 : decode cX3_layAnew 13 = .ok (.ifCond .ne 7, 3) := by decide +kernel
theorem dX3_layAnew_16 : decode cX3_layAnew 16 = .ok (.iconst 0, 1) := by decide +kernel
theorem dX3_layAnew_17 : decode cX3_layAnew 17 = .ok (.goto 4, 3) := by decide +kernel
theorem dX3_layAnew_20 : decode cX3_layAnew 20 = .ok (.iload_n 3, 1) := by decide +kernel
theorem dX3_layAnew_21 : decode cX3_layAnew 21 = .ok (.iastore, 1) := by decide +kernel
theorem dX3_layAnew_22 : decode cX3_layAnew 22 = .ok (.aload_n 0, 1) := by decide +kernel
theorem dX3_layAnew_23 : decode cX3_layAnew 23 = .ok (.getfield 9, 3) := by decide +kernel
theorem dX3_layAnew_26 : decode cX3_layAnew 26 = .ok (.iload_n 1, 1) := by decide +kernel
theorem dX3_layAnew_27 : decode cX3_layAnew 27 = .ok (.bipush 40, 2) := by decide +kernel
theorem dX3_layAnew_29 : decode cX3_layAnew 29 = .ok (.imul, 1) := by decide +kernel
theorem dX3_layAnew_30 : decode cX3_layAnew 30 = .ok (.iload_n 1, 1) := by decide +kernel
theorem dX3_layAnew_31 : decode cX3_layAnew 31 = .ok (.iconst 1, 1) := by decide +kernel
theorem dX3_layAnew_32 : decode cX3_layAnew 32 = .ok (.iadd, 1) := by decide +kernel
theorem dX3_layAnew_33 : decode cX3_layAnew 33 = .ok (.bipush 40, 2) := by decide +kernel
theorem dX3_layAnew_35 : decode cX3_layAnew 35 = .ok (.imul, 1) := by decide +kernel
theorem dX3_layAnew_36 : decode cX3_layAnew 36 = .ok (.lconst 0, 1) := by decide +kernel
theorem dX3_layAnew_37 : decode cX3_layAnew 37 = .ok (.invokestatic 22, 3) := by decide +kernel
theorem dX3_layAnew_40 : decode cX3_layAnew 40 = .ok (.aload_n 0, 1) := by decide +kernel
theorem dX3_layAnew_41 : decode cX3_layAnew 41 = .ok (.getfield 19, 3) := by decide +kernel
theorem dX3_layAnew_44 : decode cX3_layAnew 44 = .ok (.iload_n 1, 1) := by decide +kernel
theorem dX3_layAnew_45 : decode cX3_layAnew 45 = .ok (.iaload, 1) := by decide +kernel
theorem dX3_layAnew_46 : decode cX3_layAnew 46 = .ok (.ireturn, 1) := by decide +kernel
theorem dX3_put_0 : decode cX3_put 0 = .ok (.aload_n 0, 1) := by decide +kernel
theorem dX3_put_1 : decode cX3_put 1 = .ok (.iload_n 1, 1) := by decide +kernel
theorem dX3_put_2 : decode cX3_put 2 = .ok (.iload_n 2, 1) := by decide +kernel
theorem dX3_put_3 : decode cX3_put 3 = .ok (.invokevirtual 28, 3) := by decide +kernel
theorem dX3_put_6 : decode cX3_put 6 = .ok (.lstore 5, 2) := by decide +kernel
theorem dX3_put_8 : decode cX3_put 8 = .ok (.aload_n 0, 1) := by decide +kernel
theorem dX3_put_9 : decode cX3_put 9 = .ok (.getfield 9, 3) := by decide +kernel
theorem dX3_put_12 : decode cX3_put 12 = .ok (.iload_n 1, 1) := by decide +kernel
theorem dX3_put_13 : decode cX3_put 13 = .ok (.bipush 40, 2) := by decide +kernel
theorem dX3_put_15 : decode cX3_put 15 = .ok (.imul, 1) := by decide +kernel
theorem dX3_put_16 : decode cX3_put 16 = .ok (.iload_n 2, 1) := by decide +kernel
theorem dX3_put_17 : decode cX3_put 17 = .ok (.iadd, 1) := by decide +kernel
theorem dX3_put_18 : decode cX3_put 18 = .ok (.lload_n 3, 1) := by decide +kernel
theorem dX3_put_19 : decode cX3_put 19 = .ok (.aload_n 0, 1) := by decide +kernel
theorem dX3_put_20 : decode cX3_put 20 = .ok (.getfield 15, 3) := by decide +kernel
theorem dX3_put_23 : decode cX3_put 23 = .ok (.iload_n 1, 1) := by decide +kernel
theorem dX3_put_24 : decode cX3_put 24 = .ok (.iaload, 1) := by decide +kernel
theorem dX3_put_25 : decode cX3_put 25 = .ok (.invokestatic 32, 3) := by decide +kernel
theorem dX3_put_28 : decode cX3_put 28 = .ok (.lastore, 1) := by decide +kernel
theorem dX3_put_29 : decode cX3_put 29 = .ok (.lload 5, 2) := by decide +kernel
theorem dX3_put_31 : decode cX3_put 31 = .ok (.lreturn, 1) := by decide +kernel
theorem dX3_lowestBits_0 : decode cX3_lowestBits 0 = .ok (.iload_n 2, 1) := by decide +kernel
theorem dX3_lowestBits_1 : decode cX3_lowestBits 1 = .ok (.lookupswitch 37 #[(8, 27), (16, 32)], 27) := by decide +kernel
theorem dX3_lowestBits_28 : decode cX3_lowestBits 28 = .ok (.lload_n 0, 1) := by decide +kernel
theorem dX3_lowestBits_29 : decode cX3_lowestBits 29 = .ok (.l2i, 1) := by decide +kernel
theorem dX3_lowestBits_30 : decode cX3_lowestBits 30 = .ok (.i2b, 1) := by decide +kernel
theorem dX3_lowestBits_31 : decode cX3_lowestBits 31 = .ok (.i2l, 1) := by decide +kernel
theorem dX3_lowestBits_32 : decode cX3_lowestBits 32 = .ok (.lreturn, 1) := by decide +kernel
theorem dX3_lowestBits_33 : decode cX3_lowestBits 33 = .ok (.lload_n 0, 1) := by decide +kernel
theorem dX3_lowestBits_34 : decode cX3_lowestBits 34 = .ok (.l2i, 1) := by decide +kernel
theorem dX3_lowestBits_35 : decode cX3_lowestBits 35 = .ok (.i2s, 1) := by decide +kernel
theorem dX3_lowestBits_36 : decode cX3_lowestBits 36 = .ok (.i2l, 1) := by decide +kernel
theorem dX3_lowestBits_37 : decode cX3_lowestBits 37 = .ok (.lreturn, 1) := by decide +kernel
theorem dX3_lowestBits_38 : decode cX3_lowestBits 38 = .ok (.lload_n 0, 1) := by decide +kernel
theorem dX3_lowestBits_39 : decode cX3_lowestBits 39 = .ok (.lreturn, 1) := by decide +kernel
theorem dX3_allBelow_0 : decode cX3_allBelow 0 = .ok (.iconst 0, 1) := by decide +kernel
theorem dX3_allBelow_1 : decode cX3_allBelow 1 = .ok (.istore_n 3, 1) := by decide +kernel
theorem dX3_allBelow_2 : decode cX3_allBelow 2 = .ok (.iload_n 3, 1) := by decide +kernel
theorem dX3_allBelow_3 : decode cX3_allBelow 3 = .ok (.aload_n 0, 1) := by decide +kernel
theorem dX3_allBelow_4 : decode cX3_allBelow 4 = .ok (.getfield 19, 3) := by decide +kernel
theorem dX3_allBelow_7 : decode cX3_allBelow 7 = .ok (.iload_n 1, 1) := by decide +kernel
theorem dX3_allBelow_8 : decode cX3_allBelow 8 = .ok (.iaload, 1) := by decide +kernel
theorem dX3_allBelow_9 : decode cX3_allBelow 9 = .ok (.if_icmp .ge 34, 3) := by decide +kernel
theorem dX3_allBelow_12 : decode cX3_allBelow 12 = .ok (.aload_n 0, 1) := by decide +kernel
theorem dX3_allBelow_13 : decode cX3_allBelow 13 = .ok (.iload_n 1, 1) := by decide +kernel
theorem dX3_allBelow_14 : decode cX3_allBelow 14 = .ok (.iload_n 3, 1) := by decide +kernel
theorem dX3_allBelow_15 : decode cX3_allBelow 15 = .ok (.invokevirtual 28, 3) := by decide +kernel
theorem dX3_allBelow_18 : decode cX3_allBelow 18 = .ok (.lconst 0, 1) := by decide +kernel
theorem dX3_allBelow_19 : decode cX3_allBelow 19 = .ok (.lcmp, 1) := by decide +kernel
theorem dX3_allBelow_20 : decode cX3_allBelow 20 = .ok (.ifCond .lt 15, 3) := by decide +kernel
theorem dX3_allBelow_23 : decode cX3_allBelow 23 = .ok (.aload_n 0, 1) := by decide +kernel
theorem dX3_allBelow_24 : decode cX3_allBelow 24 = .ok (.iload_n 1, 1) := by decide +kernel
theorem dX3_allBelow_25 : decode cX3_allBelow 25 = .ok (.iload_n 3, 1) := by decide +kernel
theorem dX3_allBelow_26 : decode cX3_allBelow 26 = .ok (.invokevirtual 28, 3) := by decide +kernel
theorem dX3_allBelow_29 : decode cX3_allBelow 29 = .ok (.iload_n 2, 1) := by decide +kernel
theorem dX3_allBelow_30 : decode cX3_allBelow 30 = .ok (.i2l, 1) := by decide +kernel
theorem dX3_allBelow_31 : decode cX3_allBelow 31 = .ok (.lcmp, 1) := by decide +kernel
theorem dX3_allBelow_32 : decode cX3_allBelow 32 = .ok (.ifCond .lt 5, 3) := by decide +kernel
theorem dX3_allBelow_35 : decode cX3_allBelow 35 = .ok (.iconst 0, 1) := by decide +kernel
theorem dX3_allBelow_36 : decode cX3_allBelow 36 = .ok (.ireturn, 1) := by decide +kernel
theorem dX3_allBelow_37 : decode cX3_allBelow 37 = .ok (.iinc 3 1, 3) := by decide +kernel
theorem dX3_allBelow_40 : decode cX3_allBelow 40 = .ok (.goto (-38), 3) := by decide +kernel
theorem dX3_allBelow_43 : decode cX3_allBelow 43 = .ok (.iconst 1, 1) := by decide +kernel
theorem dX3_allBelow_44 : decode cX3_allBelow 44 = .ok (.ireturn, 1) := by decide +kernel
theorem dX3_hasRange_0 : decode cX3_hasRange 0 = .ok (.iload_n 2, 1) := by decide +kernel
theorem dX3_hasRange_1 : decode cX3_hasRange 1 = .ok (.ifCond .lt 23, 3) := by decide +kernel
theorem dX3_hasRange_4 : decode cX3_hasRange 4 = .ok (.iload_n 3, 1) := by decide +kernel
theorem dX3_hasRange_5 : decode cX3_hasRange 5 = .ok (.ifCond .lt 19, 3) := by decide +kernel
theorem dX3_hasRange_8 : decode cX3_hasRange 8 = .ok (.iload_n 3, 1) := by decide +kernel
theorem dX3_hasRange_9 : decode cX3_hasRange 9 = .ok (.aload_n 0, 1) := by decide +kernel
theorem dX3_hasRange_10 : decode cX3_hasRange 10 = .ok (.getfield 19, 3) := by decide +kernel
theorem dX3_hasRange_13 : decode cX3_hasRange 13 = .ok (.iload_n 1, 1) := by decide +kernel
theorem dX3_hasRange_14 : decode cX3_hasRange 14 = .ok (.iaload, 1) := by decide +kernel
theorem dX3_hasRange_15 : decode cX3_hasRange 15 = .ok (.iload_n 2, 1) := by decide +kernel
theorem dX3_hasRange_16 : decode cX3_hasRange 16 = .ok (.isub, 1) := by decide +kernel
theorem dX3_hasRange_17 : decode cX3_hasRange 17 = .ok (.if_icmp .gt 7, 3) := by decide +kernel
theorem dX3_hasRange_20 : decode cX3_hasRange 20 = .ok (.iconst 1, 1) := by decide +kernel
theorem dX3_hasRange_21 : decode cX3_hasRange 21 = .ok (.goto 4, 3) := by decide +kernel
theorem dX3_hasRange_24 : decode cX3_hasRange 24 = .ok (.iconst 0, 1) := by decide +kernel
theorem dX3_hasRange_25 : decode cX3_hasRange 25 = .ok (.ireturn, 1) := by decide +kernel
theorem dX3_move_0 : decode cX3_move 0 = .ok (.aload_n 0, 1) := by decide +kernel
theorem dX3_move_1 : decode cX3_move 1 = .ok (.getfield 9, 3) := by decide +kernel
theorem dX3_move_4 : decode cX3_move 4 = .ok (.iload_n 1, 1) := by decide +kernel
theorem dX3_move_5 : decode cX3_move 5 = .ok (.bipush 40, 2) := by decide +kernel
theorem dX3_move_7 : decode cX3_move 7 = .ok (.imul, 1) := by decide +kernel
theorem dX3_move_8 : decode cX3_move 8 = .ok (.iload_n 2, 1) := by decide +kernel
theorem dX3_move_9 : decode cX3_move 9 = .ok (.iadd, 1) := by decide +kernel
theorem dX3_move_10 : decode cX3_move 10 = .ok (.aload_n 0, 1) := by decide +kernel
theorem dX3_move_11 : decode cX3_move 11 = .ok (.getfield 9, 3) := by decide +kernel
theorem dX3_move_14 : decode cX3_move 14 = .ok (.iload_n 3, 1) := by decide +kernel
theorem dX3_move_15 : decode cX3_move 15 = .ok (.bipush 40, 2) := by decide +kernel
theorem dX3_move_17 : decode cX3_move 17 = .ok (.imul, 1) := by decide +kernel
theorem dX3_move_18 : decode cX3_move 18 = .ok (.iload 4, 2) := by decide +kernel
theorem dX3_move_20 : decode cX3_move 20 = .ok (.iadd, 1) := by decide +kernel
theorem dX3_move_21 : decode cX3_move 21 = .ok (.iload 5, 2) := by decide +kernel
theorem dX3_move_23 : decode cX3_move 23 = .ok (.invokestatic 36, 3) := by decide +kernel
theorem dX3_move_26 : decode cX3_move 26 = .ok (.return_, 1) := by decide +kernel
theorem dX4_take_0 : decode cX4_take 0 = .ok (.aload_n 0, 1) := by decide +kernel
theorem dX4_take_1 : decode cX4_take 1 = .ok (.aload_n 1, 1) := by decide +kernel
theorem dX4_take_2 : decode cX4_take 2 = .ok (.getfield 50, 3) := by decide +kernel
theorem dX4_take_5 : decode cX4_take 5 = .ok (.getfield 56, 3) := by decide +kernel
theorem dX4_take_8 : decode cX4_take 8 = .ok (.putfield 43, 3) := by decide +kernel
theorem dX4_take_11 : decode cX4_take 11 = .ok (.aload_n 0, 1) := by decide +kernel
theorem dX4_take_12 : decode cX4_take 12 = .ok (.iconst 1, 1) := by decide +kernel
theorem dX4_take_13 : decode cX4_take 13 = .ok (.aload_n 1, 1) := by decide +kernel
theorem dX4_take_14 : decode cX4_take 14 = .ok (.iconst 4, 1) := by decide +kernel
theorem dX4_take_15 : decode cX4_take 15 = .ok (.invokevirtual 59, 3) := by decide +kernel
theorem dX4_take_18 : decode cX4_take 18 = .ok (.invokestatic 63, 3) := by decide +kernel
theorem dX4_take_21 : decode cX4_take 21 = .ok (.putfield 47, 3) := by decide +kernel
theorem dX4_take_24 : decode cX4_take 24 = .ok (.aload_n 0, 1) := by decide +kernel
theorem dX4_take_25 : decode cX4_take 25 = .ok (.aload_n 1, 1) := by decide +kernel
theorem dX4_take_26 : decode cX4_take 26 = .ok (.iload_n 2, 1) := by decide +kernel
theorem dX4_take_27 : decode cX4_take 27 = .ok (.invokevirtual 69, 3) := by decide +kernel
theorem dX4_take_30 : decode cX4_take 30 = .ok (.iconst 0, 1) := by decide +kernel
theorem dX4_take_31 : decode cX4_take 31 = .ok (.istore_n 3, 1) := by decide +kernel
theorem dX4_take_32 : decode cX4_take 32 = .ok (.iload_n 3, 1) := by decide +kernel
theorem dX4_take_33 : decode cX4_take 33 = .ok (.aload_n 0, 1) := by decide +kernel
theorem dX4_take_34 : decode cX4_take 34 = .ok (.getfield 43, 3) := by decide +kernel
theorem dX4_take_37 : decode cX4_take 37 = .ok (.if_icmp .ge 103, 3) := by decide +kernel
theorem dX4_take_40 : decode cX4_take 40 = .ok (.aload_n 1, 1) := by decide +kernel
theorem dX4_take_41 : decode cX4_take 41 = .ok (.getfield 50, 3) := by decide +kernel
theorem dX4_take_44 : decode cX4_take 44 = .ok (.getfield 73, 3) := by decide +kernel
theorem dX4_take_47 : decode cX4_take 47 = .ok (.iload_n 3, 1) := by decide +kernel
theorem dX4_take_48 : decode cX4_take 48 = .ok (.iaload, 1) := by decide +kernel
theorem dX4_take_49 : decode cX4_take 49 = .ok (.istore 4, 2) := by decide +kernel
theorem dX4_take_51 : decode cX4_take 51 = .ok (.aload_n 0, 1) := by decide +kernel
theorem dX4_take_52 : decode cX4_take 52 = .ok (.getfield 15, 3) := by decide +kernel
theorem dX4_take_55 : decode cX4_take 55 = .ok (.iload_n 3, 1) := by decide +kernel
theorem dX4_take_56 : decode cX4_take 56 = .ok (.iload 4, 2) := by decide +kernel
theorem dX4_take_58 : decode cX4_take 58 = .ok (.bipush 12, 2) := by decide +kernel
theorem dX4_take_60 : decode cX4_take 60 = .ok (.irem, 1) := by decide +kernel
theorem dX4_take_61 : decode cX4_take 61 = .ok (.iastore, 1) := by decide +kernel
theorem dX4_take_62 : decode cX4_take 62 = .ok (.aload_n 0, 1) := by decide +kernel
theorem dX4_take_63 : decode cX4_take 63 = .ok (.getfield 18, 3) := by decide +kernel
theorem dX4_take_66 : decode cX4_take 66 = .ok (.iload_n 3, 1) := by decide +kernel
theorem dX4_take_67 : decode cX4_take 67 = .ok (.iload 4, 2) := by decide +kernel
theorem dX4_take_69 : decode cX4_take 69 = .ok (.bipush 12, 2) := by decide +kernel
theorem dX4_take_71 : decode cX4_take 71 = .ok (.idiv, 1) := by decide +kernel
theorem dX4_take_72 : decode cX4_take 72 = .ok (.iastore, 1) := by decide +kernel
theorem dX4_take_73 : decode cX4_take 73 = .ok (.aload_n 0, 1) := by decide +kernel
theorem dX4_take_74 : decode cX4_take 74 = .ok (.getfield 21, 3) := by decide +kernel
theorem dX4_take_77 : decode cX4_take 77 = .ok (.iload_n 3, 1) := by decide +kernel
theorem dX4_take_78 : decode cX4_take 78 = .ok (.aload_n 1, 1) := by decide +kernel
theorem dX4_take_79 : decode cX4_take 79 = .ok (.iconst 5, 1) := by decide +kernel
theorem dX4_take_80 : decode cX4_take 80 = .ok (.aload_n 1, 1) := by decide +kernel
theorem dX4_take_81 : decode cX4_take 81 = .ok (.getfield 50, 3) := by decide +kernel
theorem dX4_take_84 : decode cX4_take 84 = .ok (.getfield 76, 3) := by decide +kernel
theorem dX4_take_87 : decode cX4_take 87 = .ok (.iload 4, 2) := by decide +kernel
theorem dX4_take_89 : decode cX4_take 89 = .ok (.iaload, 1) := by decide +kernel
theorem dX4_take_90 : decode cX4_take 90 = .ok (.iadd, 1) := by decide +kernel
theorem dX4_take_91 : decode cX4_take 91 = .ok (.invokevirtual 59, 3) := by decide +kernel
theorem dX4_take_94 : decode cX4_take 94 = .ok (.iastore, 1) := by decide +kernel
theorem dX4_take_95 : decode cX4_take 95 = .ok (.iconst 0, 1) := by decide +kernel
theorem dX4_take_96 : decode cX4_take 96 = .ok (.istore 5, 2) := by decide +kernel
theorem dX4_take_98 : decode cX4_take 98 = .ok (.iload 5, 2) := by decide +kernel
theorem dX4_take_100 : decode cX4_take 100 = .ok (.bipush 12, 2) := by decide +kernel
theorem dX4_take_102 : decode cX4_take 102 = .ok (.if_icmp .ge 32, 3) := by decide +kernel
theorem dX4_take_105 : decode cX4_take 105 = .ok (.aload_n 0, 1) := by decide +kernel
theorem dX4_take_106 : decode cX4_take 106 = .ok (.getfield 24, 3) := by decide +kernel
theorem dX4_take_109 : decode cX4_take 109 = .ok (.iload_n 3, 1) := by decide +kernel
theorem dX4_take_110 : decode cX4_take 110 = .ok (.bipush 12, 2) := by decide +kernel
theorem dX4_take_112 : decode cX4_take 112 = .ok (.imul, 1) := by decide +kernel
theorem dX4_take_113 : decode cX4_take 113 = .ok (.iload 5, 2) := by decide +kernel
theorem dX4_take_115 : decode cX4_take 115 = .ok (.iadd, 1) := by decide +kernel
theorem dX4_take_116 : decode cX4_take 116 = .ok (.aload_n 0, 1) := by decide +kernel
theorem dX4_take_117 : decode cX4_take 117 = .ok (.getfield 9, 3) := by decide +kernel
theorem dX4_take_120 : decode cX4_take 120 = .ok (.iload_n 3, 1) := by decide +kernel
theorem dX4_take_121 : decode cX4_take 121 = .ok (.iaload, 1) := by decide +kernel
theorem dX4_take_122 : decode cX4_take 122 = .ok (.iload 5, 2) := by decide +kernel
theorem dX4_take_124 : decode cX4_take 124 = .ok (.invokestatic 79, 3) := by decide +kernel
theorem dX4_take_127 : decode cX4_take 127 = .ok (.iastore, 1) := by decide +kernel
theorem dX4_take_128 : decode cX4_take 128 = .ok (.iinc 5 1, 3) := by decide +kernel
theorem dX4_take_131 : decode cX4_take 131 = .ok (.goto (-33), 3) := by decide +kernel
theorem dX4_take_134 : decode cX4_take 134 = .ok (.iinc 3 1, 3) := by decide +kernel
theorem dX4_take_137 : decode cX4_take 137 = .ok (.goto (-105), 3) := by decide +kernel
theorem dX4_take_140 : decode cX4_take 140 = .ok (.return_, 1) := by decide +kernel
theorem dX4_takeSpans_0 : decode cX4_takeSpans 0 = .ok (.aload_n 0, 1) := by decide +kernel
theorem dX4_takeSpans_1 : decode cX4_takeSpans 1 = .ok (.getfield 9, 3) := by decide +kernel
theorem dX4_takeSpans_4 : decode cX4_takeSpans 4 = .ok (.sipush 4095, 3) := by decide +kernel
theorem dX4_takeSpans_7 : decode cX4_takeSpans 7 = .ok (.invokestatic 82, 3) := by decide +kernel
theorem dX4_takeSpans_10 : decode cX4_takeSpans 10 = .ok (.aload_n 1, 1) := by decide +kernel
theorem dX4_takeSpans_11 : decode cX4_takeSpans 11 = .ok (.iload_n 2, 1) := by decide +kernel
theorem dX4_takeSpans_12 : decode cX4_takeSpans 12 = .ok (.invokevirtual 88, 3) := by decide +kernel
theorem dX4_takeSpans_15 : decode cX4_takeSpans 15 = .ok (.istore_n 3, 1) := by decide +kernel
theorem dX4_takeSpans_16 : decode cX4_takeSpans 16 = .ok (.iconst 0, 1) := by decide +kernel
theorem dX4_takeSpans_17 : decode cX4_takeSpans 17 = .ok (.istore 4, 2) := by decide +kernel
theorem dX4_takeSpans_19 : decode cX4_takeSpans 19 = .ok (.iload 4, 2) := by decide +kernel
theorem dX4_takeSpans_21 : decode cX4_takeSpans 21 = .ok (.aload_n 1, 1) := by decide +kernel
theorem dX4_takeSpans_22 : decode cX4_takeSpans 22 = .ok (.getfield 91, 3) := by decide +kernel
theorem dX4_takeSpans_25 : decode cX4_takeSpans 25 = .ok (.getfield 95, 3) := by decide +kernel
theorem dX4_takeSpans_28 : decode cX4_takeSpans 28 = .ok (.if_icmp .ge 43, 3) := by decide +kernel
theorem dX4_takeSpans_31 : decode cX4_takeSpans 31 = .ok (.iload_n 3, 1) := by decide +kernel
theorem dX4_takeSpans_32 : decode cX4_takeSpans 32 = .ok (.iload 4, 2) := by decide +kernel
theorem dX4_takeSpans_34 : decode cX4_takeSpans 34 = .ok (.ishr, 1) := by decide +kernel
theorem dX4_takeSpans_35 : decode cX4_takeSpans 35 = .ok (.iconst 1, 1) := by decide +kernel
theorem dX4_takeSpans_36 : decode cX4_takeSpans 36 = .ok (.iand, 1) := by decide +kernel
theorem dX4_takeSpans_37 : decode cX4_takeSpans 37 = .ok (.iconst 1, 1) := by decide +kernel
theorem dX4_takeSpans_38 : decode cX4_takeSpans 38 = .ok (.if_icmp .ne 27, 3) := by decide +kernel
theorem dX4_takeSpans_41 : decode cX4_takeSpans 41 = .ok (.aload_n 0, 1) := by decide +kernel
theorem dX4_takeSpans_42 : decode cX4_takeSpans 42 = .ok (.getfield 9, 3) := by decide +kernel
theorem dX4_takeSpans_45 : decode cX4_takeSpans 45 = .ok (.aload_n 1, 1) := by decide +kernel
theorem dX4_takeSpans_46 : decode cX4_takeSpans 46 = .ok (.getfield 91, 3) := by decide +kernel
theorem dX4_takeSpans_49 : decode cX4_takeSpans 49 = .ok (.getfield 100, 3) := by decide +kernel
theorem dX4_takeSpans_52 : decode cX4_takeSpans 52 = .ok (.iload 4, 2) := by decide +kernel
theorem dX4_takeSpans_54 : decode cX4_takeSpans 54 = .ok (.iaload, 1) := by decide +kernel
theorem dX4_takeSpans_55 : decode cX4_takeSpans 55 = .ok (.dup2, 1) := by decide +kernel
theorem dX4_takeSpans_56 : decode cX4_takeSpans 56 = .ok (.iaload, 1) := by decide +kernel
theorem dX4_takeSpans_57 : decode cX4_takeSpans 57 = .ok (.aload_n 1, 1) := by decide +kernel
theorem dX4_takeSpans_58 : decode cX4_takeSpans 58 = .ok (.iload 4, 2) := by decide +kernel
theorem dX4_takeSpans_60 : decode cX4_takeSpans 60 = .ok (.invokevirtual 103, 3) := by decide +kernel
theorem dX4_takeSpans_63 : decode cX4_takeSpans 63 = .ok (.iand, 1) := by decide +kernel
theorem dX4_takeSpans_64 : decode cX4_takeSpans 64 = .ok (.iastore, 1) := by decide +kernel
theorem dX4_takeSpans_65 : decode cX4_takeSpans 65 = .ok (.iinc 4 1, 3) := by decide +kernel
theorem dX4_takeSpans_68 : decode cX4_takeSpans 68 = .ok (.goto (-49), 3) := by decide +kernel
theorem dX4_takeSpans_71 : decode cX4_takeSpans 71 = .ok (.return_, 1) := by decide +kernel
theorem dX4_distance_0 : decode cX4_distance 0 = .ok (.iconst 0, 1) := by decide +kernel
theorem dX4_distance_1 : decode cX4_distance 1 = .ok (.istore_n 2, 1) := by decide +kernel
theorem dX4_distance_2 : decode cX4_distance 2 = .ok (.iload_n 2, 1) := by decide +kernel
theorem dX4_distance_3 : decode cX4_distance 3 = .ok (.bipush 12, 2) := by decide +kernel
theorem dX4_distance_5 : decode cX4_distance 5 = .ok (.if_icmp .ge 60, 3) := by decide +kernel
theorem dX4_distance_8 : decode cX4_distance 8 = .ok (.iload_n 0, 1) := by decide +kernel
theorem dX4_distance_9 : decode cX4_distance 9 = .ok (.iload_n 1, 1) := by decide +kernel
theorem dX4_distance_10 : decode cX4_distance 10 = .ok (.iload_n 2, 1) := by decide +kernel
theorem dX4_distance_11 : decode cX4_distance 11 = .ok (.iadd, 1) := by decide +kernel
theorem dX4_distance_12 : decode cX4_distance 12 = .ok (.ishr, 1) := by decide +kernel
theorem dX4_distance_13 : decode cX4_distance 13 = .ok (.iconst 1, 1) := by decide +kernel
theorem dX4_distance_14 : decode cX4_distance 14 = .ok (.iand, 1) := by decide +kernel
theorem dX4_distance_15 : decode cX4_distance 15 = .ok (.iconst 1, 1) := by decide +kernel
theorem dX4_distance_16 : decode cX4_distance 16 = .ok (.if_icmp .ne 7, 3) := by decide +kernel
theorem dX4_distance_19 : decode cX4_distance 19 = .ok (.iconst 1, 1) := by decide +kernel
theorem dX4_distance_20 : decode cX4_distance 20 = .ok (.goto 4, 3) := by decide +kernel
theorem dX4_distance_23 : decode cX4_distance 23 = .ok (.iconst 0, 1) := by decide +kernel
theorem dX4_distance_24 : decode cX4_distance 24 = .ok (.istore_n 3, 1) := by decide +kernel
theorem dX4_distance_25 : decode cX4_distance 25 = .ok (.iload_n 2, 1) := by decide +kernel
theorem dX4_distance_26 : decode cX4_distance 26 = .ok (.iload_n 1, 1) := by decide +kernel
theorem dX4_distance_27 : decode cX4_distance 27 = .ok (.if_icmp .gt 18, 3) := by decide +kernel
theorem dX4_distance_30 : decode cX4_distance 30 = .ok (.iload_n 0, 1) := by decide +kernel
theorem dX4_distance_31 : decode cX4_distance 31 = .ok (.iload_n 1, 1) := by decide +kernel
theorem dX4_distance_32 : decode cX4_distance 32 = .ok (.iload_n 2, 1) := by decide +kernel
theorem dX4_distance_33 : decode cX4_distance 33 = .ok (.isub, 1) := by decide +kernel
theorem dX4_distance_34 : decode cX4_distance 34 = .ok (.ishr, 1) := by decide +kernel
theorem dX4_distance_35 : decode cX4_distance 35 = .ok (.iconst 1, 1) := by decide +kernel
theorem dX4_distance_36 : decode cX4_distance 36 = .ok (.iand, 1) := by decide +kernel
theorem dX4_distance_37 : decode cX4_distance 37 = .ok (.iconst 1, 1) := by decide +kernel
theorem dX4_distance_38 : decode cX4_distance 38 = .ok (.if_icmp .ne 7, 3) := by decide +kernel
theorem dX4_distance_41 : decode cX4_distance 41 = .ok (.iconst 1, 1) := by decide +kernel
theorem dX4_distance_42 : decode cX4_distance 42 = .ok (.goto 4, 3) := by decide +kernel
theorem dX4_distance_45 : decode cX4_distance 45 = .ok (.iconst 0, 1) := by decide +kernel
theorem dX4_distance_46 : decode cX4_distance 46 = .ok (.istore 4, 2) := by decide +kernel
theorem dX4_distance_48 : decode cX4_distance 48 = .ok (.iload_n 3, 1) := by decide +kernel
theorem dX4_distance_49 : decode cX4_distance 49 = .ok (.ifCond .ne 8, 3) := by decide +kernel
theorem dX4_distance_52 : decode cX4_distance 52 = .ok (.iload 4, 2) := by decide +kernel
theorem dX4_distance_54 : decode cX4_distance 54 = .ok (.ifCond .eq 5, 3) := by decide +kernel
theorem dX4_distance_57 : decode cX4_distance 57 = .ok (.iload_n 2, 1) := by decide +kernel
theorem dX4_distance_58 : decode cX4_distance 58 = .ok (.ireturn, 1) := by decide +kernel
theorem dX4_distance_59 : decode cX4_distance 59 = .ok (.iinc 2 1, 3) := by decide +kernel
theorem dX4_distance_62 : decode cX4_distance 62 = .ok (.goto (-60), 3) := by decide +kernel
theorem dX4_distance_65 : decode cX4_distance 65 = .ok (.bipush 12, 2) := by decide +kernel
theorem dX4_distance_67 : decode cX4_distance 67 = .ok (.ireturn, 1) := by decide +kernel
theorem dX4_lift_0 : decode cX4_lift 0 = .ok (.iload_n 2, 1) := by decide +kernel
theorem dX4_lift_1 : decode cX4_lift 1 = .ok (.bipush 12, 2) := by decide +kernel
theorem dX4_lift_3 : decode cX4_lift 3 = .ok (.irem, 1) := by decide +kernel
theorem dX4_lift_4 : decode cX4_lift 4 = .ok (.aload_n 0, 1) := by decide +kernel
theorem dX4_lift_5 : decode cX4_lift 5 = .ok (.getfield 15, 3) := by decide +kernel
theorem dX4_lift_8 : decode cX4_lift 8 = .ok (.iload_n 1, 1) := by decide +kernel
theorem dX4_lift_9 : decode cX4_lift 9 = .ok (.iaload, 1) := by decide +kernel
theorem dX4_lift_10 : decode cX4_lift 10 = .ok (.isub, 1) := by decide +kernel
theorem dX4_lift_11 : decode cX4_lift 11 = .ok (.istore 4, 2) := by decide +kernel
theorem dX4_lift_13 : decode cX4_lift 13 = .ok (.iload_n 2, 1) := by decide +kernel
theorem dX4_lift_14 : decode cX4_lift 14 = .ok (.bipush 12, 2) := by decide +kernel
theorem dX4_lift_16 : decode cX4_lift 16 = .ok (.idiv, 1) := by decide +kernel
theorem dX4_lift_17 : decode cX4_lift 17 = .ok (.aload_n 0, 1) := by decide +kernel
theorem dX4_lift_18 : decode cX4_lift 18 = .ok (.getfield 18, 3) := by decide +kernel
theorem dX4_lift_21 : decode cX4_lift 21 = .ok (.iload_n 1, 1) := by decide +kernel
theorem dX4_lift_22 : decode cX4_lift 22 = .ok (.iaload, 1) := by decide +kernel
theorem dX4_lift_23 : decode cX4_lift 23 = .ok (.isub, 1) := by decide +kernel
theorem dX4_lift_24 : decode cX4_lift 24 = .ok (.istore 5, 2) := by decide +kernel
theorem dX4_lift_26 : decode cX4_lift 26 = .ok (.aload_n 0, 1) := by decide +kernel
theorem dX4_lift_27 : decode cX4_lift 27 = .ok (.getfield 21, 3) := by decide +kernel
theorem dX4_lift_30 : decode cX4_lift 30 = .ok (.iload_n 1, 1) := by decide +kernel
theorem dX4_lift_31 : decode cX4_lift 31 = .ok (.iaload, 1) := by decide +kernel
theorem dX4_lift_32 : decode cX4_lift 32 = .ok (.iload 4, 2) := by decide +kernel
theorem dX4_lift_34 : decode cX4_lift 34 = .ok (.iload 4, 2) := by decide +kernel
theorem dX4_lift_36 : decode cX4_lift 36 = .ok (.imul, 1) := by decide +kernel
theorem dX4_lift_37 : decode cX4_lift 37 = .ok (.iload 5, 2) := by decide +kernel
theorem dX4_lift_39 : decode cX4_lift 39 = .ok (.iload 5, 2) := by decide +kernel
theorem dX4_lift_41 : decode cX4_lift 41 = .ok (.imul, 1) := by decide +kernel
theorem dX4_lift_42 : decode cX4_lift 42 = .ok (.iadd, 1) := by decide +kernel
theorem dX4_lift_43 : decode cX4_lift 43 = .ok (.bipush 9, 2) := by decide +kernel
theorem dX4_lift_45 : decode cX4_lift 45 = .ok (.iload_n 3, 1) := by decide +kernel
theorem dX4_lift_46 : decode cX4_lift 46 = .ok (.imul, 1) := by decide +kernel
theorem dX4_lift_47 : decode cX4_lift 47 = .ok (.iadd, 1) := by decide +kernel
theorem dX4_lift_48 : decode cX4_lift 48 = .ok (.aload_n 0, 1) := by decide +kernel
theorem dX4_lift_49 : decode cX4_lift 49 = .ok (.getfield 47, 3) := by decide +kernel
theorem dX4_lift_52 : decode cX4_lift 52 = .ok (.idiv, 1) := by decide +kernel
theorem dX4_lift_53 : decode cX4_lift 53 = .ok (.isub, 1) := by decide +kernel
theorem dX4_lift_54 : decode cX4_lift 54 = .ok (.ireturn, 1) := by decide +kernel
theorem dX4_bounded_0 : decode cX4_bounded 0 = .ok (.iconst 0, 1) := by decide +kernel
theorem dX4_bounded_1 : decode cX4_bounded 1 = .ok (.bipush 11, 2) := by decide +kernel
theorem dX4_bounded_3 : decode cX4_bounded 3 = .ok (.iload_n 0, 1) := by decide +kernel
theorem dX4_bounded_4 : decode cX4_bounded 4 = .ok (.invokestatic 106, 3) := by decide +kernel
theorem dX4_bounded_7 : decode cX4_bounded 7 = .ok (.invokestatic 63, 3) := by decide +kernel
theorem dX4_bounded_10 : decode cX4_bounded 10 = .ok (.ireturn, 1) := by decide +kernel
theorem dX4_stepOf_0 : decode cX4_stepOf 0 = .ok (.iload_n 1, 1) := by decide +kernel
theorem dX4_stepOf_1 : decode cX4_stepOf 1 = .ok (.bipush 10, 2) := by decide +kernel
theorem dX4_stepOf_3 : decode cX4_stepOf 3 = .ok (.idiv, 1) := by decide +kernel
theorem dX4_stepOf_4 : decode cX4_stepOf 4 = .ok (.bipush 100, 2) := by decide +kernel
theorem dX4_stepOf_6 : decode cX4_stepOf 6 = .ok (.irem, 1) := by decide +kernel
theorem dX4_stepOf_7 : decode cX4_stepOf 7 = .ok (.aload_n 0, 1) := by decide +kernel
theorem dX4_stepOf_8 : decode cX4_stepOf 8 = .ok (.iload_n 2, 1) := by decide +kernel
theorem dX4_stepOf_9 : decode cX4_stepOf 9 = .ok (.iload_n 1, 1) := by decide +kernel
theorem dX4_stepOf_10 : decode cX4_stepOf 10 = .ok (.sipush 1000, 3) := by decide +kernel
theorem dX4_stepOf_13 : decode cX4_stepOf 13 = .ok (.idiv, 1) := by decide +kernel
theorem dX4_stepOf_14 : decode cX4_stepOf 14 = .ok (.iload_n 1, 1) := by decide +kernel
theorem dX4_stepOf_15 : decode cX4_stepOf 15 = .ok (.bipush 10, 2) := by decide +kernel
theorem dX4_stepOf_17 : decode cX4_stepOf 17 = .ok (.irem, 1) := by decide +kernel
theorem dX4_stepOf_18 : decode cX4_stepOf 18 = .ok (.invokevirtual 109, 3) := by decide +kernel
theorem dX4_stepOf_21 : decode cX4_stepOf 21 = .ok (.iadd, 1) := by decide +kernel
theorem dX4_stepOf_22 : decode cX4_stepOf 22 = .ok (.invokestatic 113, 3) := by decide +kernel
theorem dX4_stepOf_25 : decode cX4_stepOf 25 = .ok (.ireturn, 1) := by decide +kernel
theorem dX4_missIn_0 : decode cX4_missIn 0 = .ok (.aload_n 0, 1) := by decide +kernel
theorem dX4_missIn_1 : decode cX4_missIn 1 = .ok (.getfield 24, 3) := by decide +kernel
theorem dX4_missIn_4 : decode cX4_missIn 4 = .ok (.iload_n 2, 1) := by decide +kernel
theorem dX4_missIn_5 : decode cX4_missIn 5 = .ok (.bipush 12, 2) := by decide +kernel
theorem dX4_missIn_7 : decode cX4_missIn 7 = .ok (.imul, 1) := by decide +kernel
theorem dX4_missIn_8 : decode cX4_missIn 8 = .ok (.aload_n 0, 1) := by decide +kernel
theorem dX4_missIn_9 : decode cX4_missIn 9 = .ok (.iload_n 1, 1) := by decide +kernel
theorem dX4_missIn_10 : decode cX4_missIn 10 = .ok (.iload_n 2, 1) := by decide +kernel
theorem dX4_missIn_11 : decode cX4_missIn 11 = .ok (.invokevirtual 116, 3) := by decide +kernel
theorem dX4_missIn_14 : decode cX4_missIn 14 = .ok (.iadd, 1) := by decide +kernel
theorem dX4_missIn_15 : decode cX4_missIn 15 = .ok (.iaload, 1) := by decide +kernel
theorem dX4_missIn_16 : decode cX4_missIn 16 = .ok (.ireturn, 1) := by decide +kernel
theorem dX4_missOf_0 : decode cX4_missOf 0 = .ok (.iconst 0, 1) := by decide +kernel
theorem dX4_missOf_1 : decode cX4_missOf 1 = .ok (.istore_n 2, 1) := by decide +kernel
theorem dX4_missOf_2 : decode cX4_missOf 2 = .ok (.iconst 0, 1) := by decide +kernel
theorem dX4_missOf_3 : decode cX4_missOf 3 = .ok (.istore_n 3, 1) := by decide +kernel
theorem dX4_missOf_4 : decode cX4_missOf 4 = .ok (.iload_n 3, 1) := by decide +kernel
theorem dX4_missOf_5 : decode cX4_missOf 5 = .ok (.aload_n 0, 1) := by decide +kernel
theorem dX4_missOf_6 : decode cX4_missOf 6 = .ok (.getfield 43, 3) := by decide +kernel
theorem dX4_missOf_9 : decode cX4_missOf 9 = .ok (.if_icmp .ge 18, 3) := by decide +kernel
theorem dX4_missOf_12 : decode cX4_missOf 12 = .ok (.iload_n 2, 1) := by decide +kernel
theorem dX4_missOf_13 : decode cX4_missOf 13 = .ok (.aload_n 0, 1) := by decide +kernel
theorem dX4_missOf_14 : decode cX4_missOf 14 = .ok (.iload_n 1, 1) := by decide +kernel
theorem dX4_missOf_15 : decode cX4_missOf 15 = .ok (.iload_n 3, 1) := by decide +kernel
theorem dX4_missOf_16 : decode cX4_missOf 16 = .ok (.invokevirtual 119, 3) := by decide +kernel
theorem dX4_missOf_19 : decode cX4_missOf 19 = .ok (.iadd, 1) := by decide +kernel
theorem dX4_missOf_20 : decode cX4_missOf 20 = .ok (.istore_n 2, 1) := by decide +kernel
theorem dX4_missOf_21 : decode cX4_missOf 21 = .ok (.iinc 3 1, 3) := by decide +kernel
theorem dX4_missOf_24 : decode cX4_missOf 24 = .ok (.goto (-20), 3) := by decide +kernel
theorem dX4_missOf_27 : decode cX4_missOf 27 = .ok (.iload_n 2, 1) := by decide +kernel
theorem dX4_missOf_28 : decode cX4_missOf 28 = .ok (.ireturn, 1) := by decide +kernel
theorem dX4_layMisses_0 : decode cX4_layMisses 0 = .ok (.iconst 0, 1) := by decide +kernel
theorem dX4_layMisses_1 : decode cX4_layMisses 1 = .ok (.istore_n 3, 1) := by decide +kernel
theorem dX4_layMisses_2 : decode cX4_layMisses 2 = .ok (.iload_n 3, 1) := by decide +kernel
theorem dX4_layMisses_3 : decode cX4_layMisses 3 = .ok (.aload_n 0, 1) := by decide +kernel
theorem dX4_layMisses_4 : decode cX4_layMisses 4 = .ok (.getfield 43, 3) := by decide +kernel
theorem dX4_layMisses_7 : decode cX4_layMisses 7 = .ok (.if_icmp .ge 26, 3) := by decide +kernel
theorem dX4_layMisses_10 : decode cX4_layMisses 10 = .ok (.aload_n 0, 1) := by decide +kernel
theorem dX4_layMisses_11 : decode cX4_layMisses 11 = .ok (.getfield 27, 3) := by decide +kernel
theorem dX4_layMisses_14 : decode cX4_layMisses 14 = .ok (.iload_n 1, 1) := by decide +kernel
theorem dX4_layMisses_15 : decode cX4_layMisses 15 = .ok (.bipush 16, 2) := by decide +kernel
theorem dX4_layMisses_17 : decode cX4_layMisses 17 = .ok (.imul, 1) := by decide +kernel
theorem dX4_layMisses_18 : decode cX4_layMisses 18 = .ok (.iload_n 3, 1) := by decide +kernel
theorem dX4_layMisses_19 : decode cX4_layMisses 19 = .ok (.iadd, 1) := by decide +kernel
theorem dX4_layMisses_20 : decode cX4_layMisses 20 = .ok (.aload_n 0, 1) := by decide +kernel
theorem dX4_layMisses_21 : decode cX4_layMisses 21 = .ok (.iload_n 2, 1) := by decide +kernel
theorem dX4_layMisses_22 : decode cX4_layMisses 22 = .ok (.iload_n 3, 1) := by decide +kernel
theorem dX4_layMisses_23 : decode cX4_layMisses 23 = .ok (.invokevirtual 119, 3) := by decide +kernel
theorem dX4_layMisses_26 : decode cX4_layMisses 26 = .ok (.iastore, 1) := by decide +kernel
theorem dX4_layMisses_27 : decode cX4_layMisses 27 = .ok (.iinc 3 1, 3) := by decide +kernel
theorem dX4_layMisses_30 : decode cX4_layMisses 30 = .ok (.goto (-28), 3) := by decide +kernel
theorem dX4_layMisses_33 : decode cX4_layMisses 33 = .ok (.return_, 1) := by decide +kernel
theorem dX4_missOfTwo_0 : decode cX4_missOfTwo 0 = .ok (.iconst 0, 1) := by decide +kernel
theorem dX4_missOfTwo_1 : decode cX4_missOfTwo 1 = .ok (.istore_n 3, 1) := by decide +kernel
theorem dX4_missOfTwo_2 : decode cX4_missOfTwo 2 = .ok (.iconst 0, 1) := by decide +kernel
theorem dX4_missOfTwo_3 : decode cX4_missOfTwo 3 = .ok (.istore 4, 2) := by decide +kernel
theorem dX4_missOfTwo_5 : decode cX4_missOfTwo 5 = .ok (.iload 4, 2) := by decide +kernel
theorem dX4_missOfTwo_7 : decode cX4_missOfTwo 7 = .ok (.aload_n 0, 1) := by decide +kernel
theorem dX4_missOfTwo_8 : decode cX4_missOfTwo 8 = .ok (.getfield 43, 3) := by decide +kernel
theorem dX4_missOfTwo_11 : decode cX4_missOfTwo 11 = .ok (.if_icmp .ge 39, 3) := by decide +kernel
theorem dX4_missOfTwo_14 : decode cX4_missOfTwo 14 = .ok (.iload_n 3, 1) := by decide +kernel
theorem dX4_missOfTwo_15 : decode cX4_missOfTwo 15 = .ok (.aload_n 0, 1) := by decide +kernel
theorem dX4_missOfTwo_16 : decode cX4_missOfTwo 16 = .ok (.getfield 27, 3) := by decide +kernel
theorem dX4_missOfTwo_19 : decode cX4_missOfTwo 19 = .ok (.iload_n 1, 1) := by decide +kernel
theorem dX4_missOfTwo_20 : decode cX4_missOfTwo 20 = .ok (.bipush 16, 2) := by decide +kernel
theorem dX4_missOfTwo_22 : decode cX4_missOfTwo 22 = .ok (.imul, 1) := by decide +kernel
theorem dX4_missOfTwo_23 : decode cX4_missOfTwo 23 = .ok (.iload 4, 2) := by decide +kernel
theorem dX4_missOfTwo_25 : decode cX4_missOfTwo 25 = .ok (.iadd, 1) := by decide +kernel
theorem dX4_missOfTwo_26 : decode cX4_missOfTwo 26 = .ok (.iaload, 1) := by decide +kernel
theorem dX4_missOfTwo_27 : decode cX4_missOfTwo 27 = .ok (.aload_n 0, 1) := by decide +kernel
theorem dX4_missOfTwo_28 : decode cX4_missOfTwo 28 = .ok (.getfield 27, 3) := by decide +kernel
theorem dX4_missOfTwo_31 : decode cX4_missOfTwo 31 = .ok (.iload_n 2, 1) := by decide +kernel
theorem dX4_missOfTwo_32 : decode cX4_missOfTwo 32 = .ok (.bipush 16, 2) := by decide +kernel
theorem dX4_missOfTwo_34 : decode cX4_missOfTwo 34 = .ok (.imul, 1) := by decide +kernel
theorem dX4_missOfTwo_35 : decode cX4_missOfTwo 35 = .ok (.iload 4, 2) := by decide +kernel
theorem dX4_missOfTwo_37 : decode cX4_missOfTwo 37 = .ok (.iadd, 1) := by decide +kernel
theorem dX4_missOfTwo_38 : decode cX4_missOfTwo 38 = .ok (.iaload, 1) := by decide +kernel
theorem dX4_missOfTwo_39 : decode cX4_missOfTwo 39 = .ok (.invokestatic 106, 3) := by decide +kernel
theorem dX4_missOfTwo_42 : decode cX4_missOfTwo 42 = .ok (.iadd, 1) := by decide +kernel
theorem dX4_missOfTwo_43 : decode cX4_missOfTwo 43 = .ok (.istore_n 3, 1) := by decide +kernel
theorem dX4_missOfTwo_44 : decode cX4_missOfTwo 44 = .ok (.iinc 4 1, 3) := by decide +kernel
theorem dX4_missOfTwo_47 : decode cX4_missOfTwo 47 = .ok (.goto (-42), 3) := by decide +kernel
theorem dX4_missOfTwo_50 : decode cX4_missOfTwo 50 = .ok (.iload_n 3, 1) := by decide +kernel
theorem dX4_missOfTwo_51 : decode cX4_missOfTwo 51 = .ok (.ireturn, 1) := by decide +kernel
theorem dX4_bestPair_0 : decode cX4_bestPair 0 = .ok (.iconst 1, 1) := by decide +kernel
theorem dX4_bestPair_1 : decode cX4_bestPair 1 = .ok (.istore_n 2, 1) := by decide +kernel
theorem dX4_bestPair_2 : decode cX4_bestPair 2 = .ok (.ldc 122, 2) := by decide +kernel
theorem dX4_bestPair_4 : decode cX4_bestPair 4 = .ok (.istore_n 3, 1) := by decide +kernel
theorem dX4_bestPair_5 : decode cX4_bestPair 5 = .ok (.iconst 0, 1) := by decide +kernel
theorem dX4_bestPair_6 : decode cX4_bestPair 6 = .ok (.istore 4, 2) := by decide +kernel
theorem dX4_bestPair_8 : decode cX4_bestPair 8 = .ok (.iload 4, 2) := by decide +kernel
theorem dX4_bestPair_10 : decode cX4_bestPair 10 = .ok (.iload_n 1, 1) := by decide +kernel
theorem dX4_bestPair_11 : decode cX4_bestPair 11 = .ok (.if_icmp .ge 55, 3) := by decide +kernel
theorem dX4_bestPair_14 : decode cX4_bestPair 14 = .ok (.iload 4, 2) := by decide +kernel
theorem dX4_bestPair_16 : decode cX4_bestPair 16 = .ok (.iconst 1, 1) := by decide +kernel
theorem dX4_bestPair_17 : decode cX4_bestPair 17 = .ok (.iadd, 1) := by decide +kernel
theorem dX4_bestPair_18 : decode cX4_bestPair 18 = .ok (.istore 5, 2) := by decide +kernel
theorem dX4_bestPair_20 : decode cX4_bestPair 20 = .ok (.iload 5, 2) := by decide +kernel
theorem dX4_bestPair_22 : decode cX4_bestPair 22 = .ok (.iload_n 1, 1) := by decide +kernel
theorem dX4_bestPair_23 : decode cX4_bestPair 23 = .ok (.if_icmp .ge 37, 3) := by decide +kernel
theorem dX4_bestPair_26 : decode cX4_bestPair 26 = .ok (.aload_n 0, 1) := by decide +kernel
theorem dX4_bestPair_27 : decode cX4_bestPair 27 = .ok (.iload 4, 2) := by decide +kernel
theorem dX4_bestPair_29 : decode cX4_bestPair 29 = .ok (.iload 5, 2) := by decide +kernel
theorem dX4_bestPair_31 : decode cX4_bestPair 31 = .ok (.invokevirtual 123, 3) := by decide +kernel
theorem dX4_bestPair_34 : decode cX4_bestPair 34 = .ok (.istore 6, 2) := by decide +kernel
theorem dX4_bestPair_36 : decode cX4_bestPair 36 = .ok (.iload 6, 2) := by decide +kernel
theorem dX4_bestPair_38 : decode cX4_bestPair 38 = .ok (.iload_n 3, 1) := by decide +kernel
theorem dX4_bestPair_39 : decode cX4_bestPair 39 = .ok (.if_icmp .ge 15, 3) := by decide +kernel
theorem dX4_bestPair_42 : decode cX4_bestPair 42 = .ok (.iload 6, 2) := by decide +kernel
theorem dX4_bestPair_44 : decode cX4_bestPair 44 = .ok (.istore_n 3, 1) := by decide +kernel
theorem dX4_bestPair_45 : decode cX4_bestPair 45 = .ok (.bipush 100, 2) := by decide +kernel
theorem dX4_bestPair_47 : decode cX4_bestPair 47 = .ok (.iload 4, 2) := by decide +kernel
theorem dX4_bestPair_49 : decode cX4_bestPair 49 = .ok (.imul, 1) := by decide +kernel
theorem dX4_bestPair_50 : decode cX4_bestPair 50 = .ok (.iload 5, 2) := by decide +kernel
theorem dX4_bestPair_52 : decode cX4_bestPair 52 = .ok (.iadd, 1) := by decide +kernel
theorem dX4_bestPair_53 : decode cX4_bestPair 53 = .ok (.istore_n 2, 1) := by decide +kernel
theorem dX4_bestPair_54 : decode cX4_bestPair 54 = .ok (.iinc 5 1, 3) := by decide +kernel
theorem dX4_bestPair_57 : decode cX4_bestPair 57 = .ok (.goto (-37), 3) := by decide +kernel
theorem dX4_bestPair_60 : decode cX4_bestPair 60 = .ok (.iinc 4 1, 3) := by decide +kernel
theorem dX4_bestPair_63 : decode cX4_bestPair 63 = .ok (.goto (-55), 3) := by decide +kernel
theorem dX4_bestPair_66 : decode cX4_bestPair 66 = .ok (.iload_n 2, 1) := by decide +kernel
theorem dX4_bestPair_67 : decode cX4_bestPair 67 = .ok (.ireturn, 1) := by decide +kernel
theorem dX4_leastAlone_0 : decode cX4_leastAlone 0 = .ok (.aload_n 0, 1) := by decide +kernel
theorem dX4_leastAlone_1 : decode cX4_leastAlone 1 = .ok (.iconst 0, 1) := by decide +kernel
theorem dX4_leastAlone_2 : decode cX4_leastAlone 2 = .ok (.iconst 0, 1) := by decide +kernel
theorem dX4_leastAlone_3 : decode cX4_leastAlone 3 = .ok (.invokevirtual 123, 3) := by decide +kernel
theorem dX4_leastAlone_6 : decode cX4_leastAlone 6 = .ok (.istore_n 2, 1) := by decide +kernel
theorem dX4_leastAlone_7 : decode cX4_leastAlone 7 = .ok (.iconst 1, 1) := by decide +kernel
theorem dX4_leastAlone_8 : decode cX4_leastAlone 8 = .ok (.istore_n 3, 1) := by decide +kernel
theorem dX4_leastAlone_9 : decode cX4_leastAlone 9 = .ok (.iload_n 3, 1) := by decide +kernel
theorem dX4_leastAlone_10 : decode cX4_leastAlone 10 = .ok (.iload_n 1, 1) := by decide +kernel
theorem dX4_leastAlone_11 : decode cX4_leastAlone 11 = .ok (.if_icmp .ge 20, 3) := by decide +kernel
theorem dX4_leastAlone_14 : decode cX4_leastAlone 14 = .ok (.iload_n 2, 1) := by decide +kernel
theorem dX4_leastAlone_15 : decode cX4_leastAlone 15 = .ok (.aload_n 0, 1) := by decide +kernel
theorem dX4_leastAlone_16 : decode cX4_leastAlone 16 = .ok (.iload_n 3, 1) := by decide +kernel
theorem dX4_leastAlone_17 : decode cX4_leastAlone 17 = .ok (.iload_n 3, 1) := by decide +kernel
theorem dX4_leastAlone_18 : decode cX4_leastAlone 18 = .ok (.invokevirtual 123, 3) := by decide +kernel
theorem dX4_leastAlone_21 : decode cX4_leastAlone 21 = .ok (.invokestatic 106, 3) := by decide +kernel
theorem dX4_leastAlone_24 : decode cX4_leastAlone 24 = .ok (.istore_n 2, 1) := by decide +kernel
theorem dX4_leastAlone_25 : decode cX4_leastAlone 25 = .ok (.iinc 3 1, 3) := by decide +kernel
theorem dX4_leastAlone_28 : decode cX4_leastAlone 28 = .ok (.goto (-19), 3) := by decide +kernel
theorem dX4_leastAlone_31 : decode cX4_leastAlone 31 = .ok (.iload_n 2, 1) := by decide +kernel
theorem dX4_leastAlone_32 : decode cX4_leastAlone 32 = .ok (.ireturn, 1) := by decide +kernel
theorem dX4_fillRow_0 : decode cX4_fillRow 0 = .ok (.aload_n 0, 1) := by decide +kernel
theorem dX4_fillRow_1 : decode cX4_fillRow 1 = .ok (.getfield 33, 3) := by decide +kernel
theorem dX4_fillRow_4 : decode cX4_fillRow 4 = .ok (.iconst 0, 1) := by decide +kernel
theorem dX4_fillRow_5 : decode cX4_fillRow 5 = .ok (.invokestatic 82, 3) := by decide +kernel
theorem dX4_fillRow_8 : decode cX4_fillRow 8 = .ok (.iconst 0, 1) := by decide +kernel
theorem dX4_fillRow_9 : decode cX4_fillRow 9 = .ok (.istore_n 3, 1) := by decide +kernel
theorem dX4_fillRow_10 : decode cX4_fillRow 10 = .ok (.iload_n 3, 1) := by decide +kernel
theorem dX4_fillRow_11 : decode cX4_fillRow 11 = .ok (.aload_n 0, 1) := by decide +kernel
theorem dX4_fillRow_12 : decode cX4_fillRow 12 = .ok (.getfield 43, 3) := by decide +kernel
theorem dX4_fillRow_15 : decode cX4_fillRow 15 = .ok (.if_icmp .ge 27, 3) := by decide +kernel
theorem dX4_fillRow_18 : decode cX4_fillRow 18 = .ok (.aload_n 0, 1) := by decide +kernel
theorem dX4_fillRow_19 : decode cX4_fillRow 19 = .ok (.getfield 30, 3) := by decide +kernel
theorem dX4_fillRow_22 : decode cX4_fillRow 22 = .ok (.iload_n 3, 1) := by decide +kernel
theorem dX4_fillRow_23 : decode cX4_fillRow 23 = .ok (.aload_n 0, 1) := by decide +kernel
theorem dX4_fillRow_24 : decode cX4_fillRow 24 = .ok (.iload_n 3, 1) := by decide +kernel
theorem dX4_fillRow_25 : decode cX4_fillRow 25 = .ok (.iload_n 1, 1) := by decide +kernel
theorem dX4_fillRow_26 : decode cX4_fillRow 26 = .ok (.iload_n 2, 1) := by decide +kernel
theorem dX4_fillRow_27 : decode cX4_fillRow 27 = .ok (.invokevirtual 109, 3) := by decide +kernel
theorem dX4_fillRow_30 : decode cX4_fillRow 30 = .ok (.iastore, 1) := by decide +kernel
theorem dX4_fillRow_31 : decode cX4_fillRow 31 = .ok (.aload_n 0, 1) := by decide +kernel
theorem dX4_fillRow_32 : decode cX4_fillRow 32 = .ok (.iload_n 3, 1) := by decide +kernel
theorem dX4_fillRow_33 : decode cX4_fillRow 33 = .ok (.invokevirtual 126, 3) := by decide +kernel
theorem dX4_fillRow_36 : decode cX4_fillRow 36 = .ok (.iinc 3 1, 3) := by decide +kernel
theorem dX4_fillRow_39 : decode cX4_fillRow 39 = .ok (.goto (-29), 3) := by decide +kernel
theorem dX4_fillRow_42 : decode cX4_fillRow 42 = .ok (.iconst 1, 1) := by decide +kernel
theorem dX4_fillRow_43 : decode cX4_fillRow 43 = .ok (.istore_n 3, 1) := by decide +kernel
theorem dX4_fillRow_44 : decode cX4_fillRow 44 = .ok (.iload_n 3, 1) := by decide +kernel
theorem dX4_fillRow_45 : decode cX4_fillRow 45 = .ok (.bipush 40, 2) := by decide +kernel
theorem dX4_fillRow_47 : decode cX4_fillRow 47 = .ok (.if_icmp .ge 26, 3) := by decide +kernel
theorem dX4_fillRow_50 : decode cX4_fillRow 50 = .ok (.aload_n 0, 1) := by decide +kernel
theorem dX4_fillRow_51 : decode cX4_fillRow 51 = .ok (.getfield 33, 3) := by decide +kernel
theorem dX4_fillRow_54 : decode cX4_fillRow 54 = .ok (.iload_n 3, 1) := by decide +kernel
theorem dX4_fillRow_55 : decode cX4_fillRow 55 = .ok (.dup2, 1) := by decide +kernel
theorem dX4_fillRow_56 : decode cX4_fillRow 56 = .ok (.iaload, 1) := by decide +kernel
theorem dX4_fillRow_57 : decode cX4_fillRow 57 = .ok (.aload_n 0, 1) := by decide +kernel
theorem dX4_fillRow_58 : decode cX4_fillRow 58 = .ok (.getfield 33, 3) := by decide +kernel
theorem dX4_fillRow_61 : decode cX4_fillRow 61 = .ok (.iload_n 3, 1) := by decide +kernel
theorem dX4_fillRow_62 : decode cX4_fillRow 62 = .ok (.iconst 1, 1) := by decide +kernel
theorem dX4_fillRow_63 : decode cX4_fillRow 63 = .ok (.isub, 1) := by decide +kernel
theorem dX4_fillRow_64 : decode cX4_fillRow 64 = .ok (.iaload, 1) := by decide +kernel
theorem dX4_fillRow_65 : decode cX4_fillRow 65 = .ok (.iadd, 1) := by decide +kernel
theorem dX4_fillRow_66 : decode cX4_fillRow 66 = .ok (.iastore, 1) := by decide +kernel
theorem dX4_fillRow_67 : decode cX4_fillRow 67 = .ok (.iinc 3 1, 3) := by decide +kernel
theorem dX4_fillRow_70 : decode cX4_fillRow 70 = .ok (.goto (-26), 3) := by decide +kernel
theorem dX4_fillRow_73 : decode cX4_fillRow 73 = .ok (.return_, 1) := by decide +kernel
theorem dX4_addChanges_0 : decode cX4_addChanges 0 = .ok (.iload_n 1, 1) := by decide +kernel
theorem dX4_addChanges_1 : decode cX4_addChanges 1 = .ok (.bipush 12, 2) := by decide +kernel
theorem dX4_addChanges_3 : decode cX4_addChanges 3 = .ok (.imul, 1) := by decide +kernel
theorem dX4_addChanges_4 : decode cX4_addChanges 4 = .ok (.istore_n 2, 1) := by decide +kernel
theorem dX4_addChanges_5 : decode cX4_addChanges 5 = .ok (.aload_n 0, 1) := by decide +kernel
theorem dX4_addChanges_6 : decode cX4_addChanges 6 = .ok (.getfield 30, 3) := by decide +kernel
theorem dX4_addChanges_9 : decode cX4_addChanges 9 = .ok (.iload_n 1, 1) := by decide +kernel
theorem dX4_addChanges_10 : decode cX4_addChanges 10 = .ok (.iaload, 1) := by decide +kernel
theorem dX4_addChanges_11 : decode cX4_addChanges 11 = .ok (.invokestatic 113, 3) := by decide +kernel
theorem dX4_addChanges_14 : decode cX4_addChanges 14 = .ok (.istore_n 3, 1) := by decide +kernel
theorem dX4_addChanges_15 : decode cX4_addChanges 15 = .ok (.aload_n 0, 1) := by decide +kernel
theorem dX4_addChanges_16 : decode cX4_addChanges 16 = .ok (.getfield 33, 3) := by decide +kernel
theorem dX4_addChanges_19 : decode cX4_addChanges 19 = .ok (.iconst 0, 1) := by decide +kernel
theorem dX4_addChanges_20 : decode cX4_addChanges 20 = .ok (.dup2, 1) := by decide +kernel
theorem dX4_addChanges_21 : decode cX4_addChanges 21 = .ok (.iaload, 1) := by decide +kernel
theorem dX4_addChanges_22 : decode cX4_addChanges 22 = .ok (.aload_n 0, 1) := by decide +kernel
theorem dX4_addChanges_23 : decode cX4_addChanges 23 = .ok (.getfield 24, 3) := by decide +kernel
theorem dX4_addChanges_26 : decode cX4_addChanges 26 = .ok (.iload_n 2, 1) := by decide +kernel
theorem dX4_addChanges_27 : decode cX4_addChanges 27 = .ok (.iload_n 3, 1) := by decide +kernel
theorem dX4_addChanges_28 : decode cX4_addChanges 28 = .ok (.iadd, 1) := by decide +kernel
theorem dX4_addChanges_29 : decode cX4_addChanges 29 = .ok (.iaload, 1) := by decide +kernel
theorem dX4_addChanges_30 : decode cX4_addChanges 30 = .ok (.iadd, 1) := by decide +kernel
theorem dX4_addChanges_31 : decode cX4_addChanges 31 = .ok (.iastore, 1) := by decide +kernel
theorem dX4_addChanges_32 : decode cX4_addChanges 32 = .ok (.iload_n 3, 1) := by decide +kernel
theorem dX4_addChanges_33 : decode cX4_addChanges 33 = .ok (.iconst 1, 1) := by decide +kernel
theorem dX4_addChanges_34 : decode cX4_addChanges 34 = .ok (.iadd, 1) := by decide +kernel
theorem dX4_addChanges_35 : decode cX4_addChanges 35 = .ok (.istore 4, 2) := by decide +kernel
theorem dX4_addChanges_37 : decode cX4_addChanges 37 = .ok (.iload 4, 2) := by decide +kernel
theorem dX4_addChanges_39 : decode cX4_addChanges 39 = .ok (.bipush 12, 2) := by decide +kernel
theorem dX4_addChanges_41 : decode cX4_addChanges 41 = .ok (.if_icmp .ge 59, 3) := by decide +kernel
theorem dX4_addChanges_44 : decode cX4_addChanges 44 = .ok (.iload 4, 2) := by decide +kernel
theorem dX4_addChanges_46 : decode cX4_addChanges 46 = .ok (.aload_n 0, 1) := by decide +kernel
theorem dX4_addChanges_47 : decode cX4_addChanges 47 = .ok (.getfield 30, 3) := by decide +kernel
theorem dX4_addChanges_50 : decode cX4_addChanges 50 = .ok (.iload_n 1, 1) := by decide +kernel
theorem dX4_addChanges_51 : decode cX4_addChanges 51 = .ok (.iaload, 1) := by decide +kernel
theorem dX4_addChanges_52 : decode cX4_addChanges 52 = .ok (.isub, 1) := by decide +kernel
theorem dX4_addChanges_53 : decode cX4_addChanges 53 = .ok (.istore 5, 2) := by decide +kernel
theorem dX4_addChanges_55 : decode cX4_addChanges 55 = .ok (.iload 5, 2) := by decide +kernel
theorem dX4_addChanges_57 : decode cX4_addChanges 57 = .ok (.bipush 40, 2) := by decide +kernel
theorem dX4_addChanges_59 : decode cX4_addChanges 59 = .ok (.if_icmp .lt 4, 3) := by decide +kernel
theorem dX4_addChanges_62 : decode cX4_addChanges 62 = .ok (.return_, 1) := by decide +kernel
theorem dX4_addChanges_63 : decode cX4_addChanges 63 = .ok (.aload_n 0, 1) := by decide +kernel
theorem dX4_addChanges_64 : decode cX4_addChanges 64 = .ok (.getfield 33, 3) := by decide +kernel
theorem dX4_addChanges_67 : decode cX4_addChanges 67 = .ok (.iload 5, 2) := by decide +kernel
theorem dX4_addChanges_69 : decode cX4_addChanges 69 = .ok (.dup2, 1) := by decide +kernel
theorem dX4_addChanges_70 : decode cX4_addChanges 70 = .ok (.iaload, 1) := by decide +kernel
theorem dX4_addChanges_71 : decode cX4_addChanges 71 = .ok (.aload_n 0, 1) := by decide +kernel
theorem dX4_addChanges_72 : decode cX4_addChanges 72 = .ok (.getfield 24, 3) := by decide +kernel
theorem dX4_addChanges_75 : decode cX4_addChanges 75 = .ok (.iload_n 2, 1) := by decide +kernel
theorem dX4_addChanges_76 : decode cX4_addChanges 76 = .ok (.iload 4, 2) := by decide +kernel
theorem dX4_addChanges_78 : decode cX4_addChanges 78 = .ok (.iadd, 1) := by decide +kernel
theorem dX4_addChanges_79 : decode cX4_addChanges 79 = .ok (.iaload, 1) := by decide +kernel
theorem dX4_addChanges_80 : decode cX4_addChanges 80 = .ok (.aload_n 0, 1) := by decide +kernel
theorem dX4_addChanges_81 : decode cX4_addChanges 81 = .ok (.getfield 24, 3) := by decide +kernel
theorem dX4_addChanges_84 : decode cX4_addChanges 84 = .ok (.iload_n 2, 1) := by decide +kernel
theorem dX4_addChanges_85 : decode cX4_addChanges 85 = .ok (.iload 4, 2) := by decide +kernel
theorem dX4_addChanges_87 : decode cX4_addChanges 87 = .ok (.iadd, 1) := by decide +kernel
theorem dX4_addChanges_88 : decode cX4_addChanges 88 = .ok (.iconst 1, 1) := by decide +kernel
theorem dX4_addChanges_89 : decode cX4_addChanges 89 = .ok (.isub, 1) := by decide +kernel
theorem dX4_addChanges_90 : decode cX4_addChanges 90 = .ok (.iaload, 1) := by decide +kernel
theorem dX4_addChanges_91 : decode cX4_addChanges 91 = .ok (.isub, 1) := by decide +kernel
theorem dX4_addChanges_92 : decode cX4_addChanges 92 = .ok (.iadd, 1) := by decide +kernel
theorem dX4_addChanges_93 : decode cX4_addChanges 93 = .ok (.iastore, 1) := by decide +kernel
theorem dX4_addChanges_94 : decode cX4_addChanges 94 = .ok (.iinc 4 1, 3) := by decide +kernel
theorem dX4_addChanges_97 : decode cX4_addChanges 97 = .ok (.goto (-60), 3) := by decide +kernel
theorem dX4_addChanges_100 : decode cX4_addChanges 100 = .ok (.return_, 1) := by decide +kernel
theorem dX4_weighCell_0 : decode cX4_weighCell 0 = .ok (.aload_n 0, 1) := by decide +kernel
theorem dX4_weighCell_1 : decode cX4_weighCell 1 = .ok (.iload_n 1, 1) := by decide +kernel
theorem dX4_weighCell_2 : decode cX4_weighCell 2 = .ok (.iload_n 2, 1) := by decide +kernel
theorem dX4_weighCell_3 : decode cX4_weighCell 3 = .ok (.invokevirtual 130, 3) := by decide +kernel
theorem dX4_weighCell_6 : decode cX4_weighCell 6 = .ok (.lconst 0, 1) := by decide +kernel
theorem dX4_weighCell_7 : decode cX4_weighCell 7 = .ok (.lstore_n 3, 1) := by decide +kernel
theorem dX4_weighCell_8 : decode cX4_weighCell 8 = .ok (.iconst 0, 1) := by decide +kernel
theorem dX4_weighCell_9 : decode cX4_weighCell 9 = .ok (.istore 5, 2) := by decide +kernel
theorem dX4_weighCell_11 : decode cX4_weighCell 11 = .ok (.iload 5, 2) := by decide +kernel
theorem dX4_weighCell_13 : decode cX4_weighCell 13 = .ok (.bipush 40, 2) := by decide +kernel
theorem dX4_weighCell_15 : decode cX4_weighCell 15 = .ok (.if_icmp .ge 23, 3) := by decide +kernel
theorem dX4_weighCell_18 : decode cX4_weighCell 18 = .ok (.lload_n 3, 1) := by decide +kernel
theorem dX4_weighCell_19 : decode cX4_weighCell 19 = .ok (.aload_n 0, 1) := by decide +kernel
theorem dX4_weighCell_20 : decode cX4_weighCell 20 = .ok (.getfield 33, 3) := by decide +kernel
theorem dX4_weighCell_23 : decode cX4_weighCell 23 = .ok (.iload 5, 2) := by decide +kernel
theorem dX4_weighCell_25 : decode cX4_weighCell 25 = .ok (.iaload, 1) := by decide +kernel
theorem dX4_weighCell_26 : decode cX4_weighCell 26 = .ok (.invokestatic 134, 3) := by decide +kernel
theorem dX4_weighCell_29 : decode cX4_weighCell 29 = .ok (.i2l, 1) := by decide +kernel
theorem dX4_weighCell_30 : decode cX4_weighCell 30 = .ok (.ladd, 1) := by decide +kernel
theorem dX4_weighCell_31 : decode cX4_weighCell 31 = .ok (.lstore_n 3, 1) := by decide +kernel
theorem dX4_weighCell_32 : decode cX4_weighCell 32 = .ok (.iinc 5 1, 3) := by decide +kernel
theorem dX4_weighCell_35 : decode cX4_weighCell 35 = .ok (.goto (-24), 3) := by decide +kernel
theorem dX4_weighCell_38 : decode cX4_weighCell 38 = .ok (.lload_n 3, 1) := by decide +kernel
theorem dX4_weighCell_39 : decode cX4_weighCell 39 = .ok (.lreturn, 1) := by decide +kernel
theorem dX4_weighGrid_0 : decode cX4_weighGrid 0 = .ok (.lconst 0, 1) := by decide +kernel
theorem dX4_weighGrid_1 : decode cX4_weighGrid 1 = .ok (.lstore_n 2, 1) := by decide +kernel
theorem dX4_weighGrid_2 : decode cX4_weighGrid 2 = .ok (.iconst 0, 1) := by decide +kernel
theorem dX4_weighGrid_3 : decode cX4_weighGrid 3 = .ok (.istore 4, 2) := by decide +kernel
theorem dX4_weighGrid_5 : decode cX4_weighGrid 5 = .ok (.iload 4, 2) := by decide +kernel
theorem dX4_weighGrid_7 : decode cX4_weighGrid 7 = .ok (.sipush 144, 3) := by decide +kernel
theorem dX4_weighGrid_10 : decode cX4_weighGrid 10 = .ok (.if_icmp .ge 33, 3) := by decide +kernel
theorem dX4_weighGrid_13 : decode cX4_weighGrid 13 = .ok (.aload_n 0, 1) := by decide +kernel
theorem dX4_weighGrid_14 : decode cX4_weighGrid 14 = .ok (.getfield 36, 3) := by decide +kernel
theorem dX4_weighGrid_17 : decode cX4_weighGrid 17 = .ok (.iload 4, 2) := by decide +kernel
theorem dX4_weighGrid_19 : decode cX4_weighGrid 19 = .ok (.aload_n 0, 1) := by decide +kernel
theorem dX4_weighGrid_20 : decode cX4_weighGrid 20 = .ok (.iload 4, 2) := by decide +kernel
theorem dX4_weighGrid_22 : decode cX4_weighGrid 22 = .ok (.iload_n 1, 1) := by decide +kernel
theorem dX4_weighGrid_23 : decode cX4_weighGrid 23 = .ok (.invokevirtual 137, 3) := by decide +kernel
theorem dX4_weighGrid_26 : decode cX4_weighGrid 26 = .ok (.lastore, 1) := by decide +kernel
theorem dX4_weighGrid_27 : decode cX4_weighGrid 27 = .ok (.lload_n 2, 1) := by decide +kernel
theorem dX4_weighGrid_28 : decode cX4_weighGrid 28 = .ok (.aload_n 0, 1) := by decide +kernel
theorem dX4_weighGrid_29 : decode cX4_weighGrid 29 = .ok (.getfield 36, 3) := by decide +kernel
theorem dX4_weighGrid_32 : decode cX4_weighGrid 32 = .ok (.iload 4, 2) := by decide +kernel
theorem dX4_weighGrid_34 : decode cX4_weighGrid 34 = .ok (.laload, 1) := by decide +kernel
theorem dX4_weighGrid_35 : decode cX4_weighGrid 35 = .ok (.ladd, 1) := by decide +kernel
theorem dX4_weighGrid_36 : decode cX4_weighGrid 36 = .ok (.lstore_n 2, 1) := by decide +kernel
theorem dX4_weighGrid_37 : decode cX4_weighGrid 37 = .ok (.iinc 4 1, 3) := by decide +kernel
theorem dX4_weighGrid_40 : decode cX4_weighGrid 40 = .ok (.goto (-35), 3) := by decide +kernel
theorem dX4_weighGrid_43 : decode cX4_weighGrid 43 = .ok (.lload_n 2, 1) := by decide +kernel
theorem dX4_weighGrid_44 : decode cX4_weighGrid 44 = .ok (.lreturn, 1) := by decide +kernel
theorem dX4_heaviestCell_0 : decode cX4_heaviestCell 0 = .ok (.iconst 0, 1) := by decide +kernel
theorem dX4_heaviestCell_1 : decode cX4_heaviestCell 1 = .ok (.istore_n 1, 1) := by decide +kernel
theorem dX4_heaviestCell_2 : decode cX4_heaviestCell 2 = .ok (.iconst 1, 1) := by decide +kernel
theorem dX4_heaviestCell_3 : decode cX4_heaviestCell 3 = .ok (.istore_n 2, 1) := by decide +kernel
theorem dX4_heaviestCell_4 : decode cX4_heaviestCell 4 = .ok (.iload_n 2, 1) := by decide +kernel
theorem dX4_heaviestCell_5 : decode cX4_heaviestCell 5 = .ok (.sipush 144, 3) := by decide +kernel
theorem dX4_heaviestCell_8 : decode cX4_heaviestCell 8 = .ok (.if_icmp .ge 27, 3) := by decide +kernel
theorem dX4_heaviestCell_11 : decode cX4_heaviestCell 11 = .ok (.aload_n 0, 1) := by decide +kernel
theorem dX4_heaviestCell_12 : decode cX4_heaviestCell 12 = .ok (.getfield 36, 3) := by decide +kernel
theorem dX4_heaviestCell_15 : decode cX4_heaviestCell 15 = .ok (.iload_n 2, 1) := by decide +kernel
theorem dX4_heaviestCell_16 : decode cX4_heaviestCell 16 = .ok (.laload, 1) := by decide +kernel
theorem dX4_heaviestCell_17 : decode cX4_heaviestCell 17 = .ok (.aload_n 0, 1) := by decide +kernel
theorem dX4_heaviestCell_18 : decode cX4_heaviestCell 18 = .ok (.getfield 36, 3) := by decide +kernel
theorem dX4_heaviestCell_21 : decode cX4_heaviestCell 21 = .ok (.iload_n 1, 1) := by decide +kernel
theorem dX4_heaviestCell_22 : decode cX4_heaviestCell 22 = .ok (.laload, 1) := by decide +kernel
theorem dX4_heaviestCell_23 : decode cX4_heaviestCell 23 = .ok (.lcmp, 1) := by decide +kernel
theorem dX4_heaviestCell_24 : decode cX4_heaviestCell 24 = .ok (.ifCond .le 5, 3) := by decide +kernel
theorem dX4_heaviestCell_27 : decode cX4_heaviestCell 27 = .ok (.iload_n 2, 1) := by decide +kernel
theorem dX4_heaviestCell_28 : decode cX4_heaviestCell 28 = .ok (.istore_n 1, 1) := by decide +kernel
theorem dX4_heaviestCell_29 : decode cX4_heaviestCell 29 = .ok (.iinc 2 1, 3) := by decide +kernel
theorem dX4_heaviestCell_32 : decode cX4_heaviestCell 32 = .ok (.goto (-28), 3) := by decide +kernel
theorem dX4_heaviestCell_35 : decode cX4_heaviestCell 35 = .ok (.iload_n 1, 1) := by decide +kernel
theorem dX4_heaviestCell_36 : decode cX4_heaviestCell 36 = .ok (.ireturn, 1) := by decide +kernel
theorem dX4_takeWeight_0 : decode cX4_takeWeight 0 = .ok (.aload_n 0, 1) := by decide +kernel
theorem dX4_takeWeight_1 : decode cX4_takeWeight 1 = .ok (.getfield 36, 3) := by decide +kernel
theorem dX4_takeWeight_4 : decode cX4_takeWeight 4 = .ok (.iload_n 1, 1) := by decide +kernel
theorem dX4_takeWeight_5 : decode cX4_takeWeight 5 = .ok (.laload, 1) := by decide +kernel
theorem dX4_takeWeight_6 : decode cX4_takeWeight 6 = .ok (.lstore_n 2, 1) := by decide +kernel
theorem dX4_takeWeight_7 : decode cX4_takeWeight 7 = .ok (.aload_n 0, 1) := by decide +kernel
theorem dX4_takeWeight_8 : decode cX4_takeWeight 8 = .ok (.getfield 36, 3) := by decide +kernel
theorem dX4_takeWeight_11 : decode cX4_takeWeight 11 = .ok (.iload_n 1, 1) := by decide +kernel
theorem dX4_takeWeight_12 : decode cX4_takeWeight 12 = .ok (.lconst 0, 1) := by decide +kernel
theorem dX4_takeWeight_13 : decode cX4_takeWeight 13 = .ok (.lastore, 1) := by decide +kernel
theorem dX4_takeWeight_14 : decode cX4_takeWeight 14 = .ok (.lload_n 2, 1) := by decide +kernel
theorem dX4_takeWeight_15 : decode cX4_takeWeight 15 = .ok (.lreturn, 1) := by decide +kernel
theorem dX4_bestShake_0 : decode cX4_bestShake 0 = .ok (.iload_n 1, 1) := by decide +kernel
theorem dX4_bestShake_1 : decode cX4_bestShake 1 = .ok (.istore_n 2, 1) := by decide +kernel
theorem dX4_bestShake_2 : decode cX4_bestShake 2 = .ok (.ldc 122, 2) := by decide +kernel
theorem dX4_bestShake_4 : decode cX4_bestShake 4 = .ok (.istore_n 3, 1) := by decide +kernel
theorem dX4_bestShake_5 : decode cX4_bestShake 5 = .ok (.iconst 0, 1) := by decide +kernel
theorem dX4_bestShake_6 : decode cX4_bestShake 6 = .ok (.istore 4, 2) := by decide +kernel
theorem dX4_bestShake_8 : decode cX4_bestShake 8 = .ok (.iload 4, 2) := by decide +kernel
theorem dX4_bestShake_10 : decode cX4_bestShake 10 = .ok (.sipush 144, 3) := by decide +kernel
theorem dX4_bestShake_13 : decode cX4_bestShake 13 = .ok (.if_icmp .ge 66, 3) := by decide +kernel
theorem dX4_bestShake_16 : decode cX4_bestShake 16 = .ok (.aload_n 0, 1) := by decide +kernel
theorem dX4_bestShake_17 : decode cX4_bestShake 17 = .ok (.iload 4, 2) := by decide +kernel
theorem dX4_bestShake_19 : decode cX4_bestShake 19 = .ok (.iload_n 1, 1) := by decide +kernel
theorem dX4_bestShake_20 : decode cX4_bestShake 20 = .ok (.invokevirtual 130, 3) := by decide +kernel
theorem dX4_bestShake_23 : decode cX4_bestShake 23 = .ok (.iconst 0, 1) := by decide +kernel
theorem dX4_bestShake_24 : decode cX4_bestShake 24 = .ok (.istore 5, 2) := by decide +kernel
theorem dX4_bestShake_26 : decode cX4_bestShake 26 = .ok (.iload 5, 2) := by decide +kernel
theorem dX4_bestShake_28 : decode cX4_bestShake 28 = .ok (.bipush 40, 2) := by decide +kernel
theorem dX4_bestShake_30 : decode cX4_bestShake 30 = .ok (.if_icmp .ge 43, 3) := by decide +kernel
theorem dX4_bestShake_33 : decode cX4_bestShake 33 = .ok (.aload_n 0, 1) := by decide +kernel
theorem dX4_bestShake_34 : decode cX4_bestShake 34 = .ok (.getfield 33, 3) := by decide +kernel
theorem dX4_bestShake_37 : decode cX4_bestShake 37 = .ok (.iload 5, 2) := by decide +kernel
theorem dX4_bestShake_39 : decode cX4_bestShake 39 = .ok (.iaload, 1) := by decide +kernel
theorem dX4_bestShake_40 : decode cX4_bestShake 40 = .ok (.iload_n 3, 1) := by decide +kernel
theorem dX4_bestShake_41 : decode cX4_bestShake 41 = .ok (.if_icmp .ge 26, 3) := by decide +kernel
theorem dX4_bestShake_44 : decode cX4_bestShake 44 = .ok (.aload_n 0, 1) := by decide +kernel
theorem dX4_bestShake_45 : decode cX4_bestShake 45 = .ok (.getfield 33, 3) := by decide +kernel
theorem dX4_bestShake_48 : decode cX4_bestShake 48 = .ok (.iload 5, 2) := by decide +kernel
theorem dX4_bestShake_50 : decode cX4_bestShake 50 = .ok (.iaload, 1) := by decide +kernel
theorem dX4_bestShake_51 : decode cX4_bestShake 51 = .ok (.istore_n 3, 1) := by decide +kernel
theorem dX4_bestShake_52 : decode cX4_bestShake 52 = .ok (.sipush 1000, 3) := by decide +kernel
theorem dX4_bestShake_55 : decode cX4_bestShake 55 = .ok (.iload 4, 2) := by decide +kernel
theorem dX4_bestShake_57 : decode cX4_bestShake 57 = .ok (.imul, 1) := by decide +kernel
theorem dX4_bestShake_58 : decode cX4_bestShake 58 = .ok (.bipush 10, 2) := by decide +kernel
theorem dX4_bestShake_60 : decode cX4_bestShake 60 = .ok (.iload 5, 2) := by decide +kernel
theorem dX4_bestShake_62 : decode cX4_bestShake 62 = .ok (.imul, 1) := by decide +kernel
theorem dX4_bestShake_63 : decode cX4_bestShake 63 = .ok (.iadd, 1) := by decide +kernel
theorem dX4_bestShake_64 : decode cX4_bestShake 64 = .ok (.iload_n 1, 1) := by decide +kernel
theorem dX4_bestShake_65 : decode cX4_bestShake 65 = .ok (.iadd, 1) := by decide +kernel
theorem dX4_bestShake_66 : decode cX4_bestShake 66 = .ok (.istore_n 2, 1) := by decide +kernel
theorem dX4_bestShake_67 : decode cX4_bestShake 67 = .ok (.iinc 5 1, 3) := by decide +kernel
theorem dX4_bestShake_70 : decode cX4_bestShake 70 = .ok (.goto (-44), 3) := by decide +kernel
theorem dX4_bestShake_73 : decode cX4_bestShake 73 = .ok (.iinc 4 1, 3) := by decide +kernel
theorem dX4_bestShake_76 : decode cX4_bestShake 76 = .ok (.goto (-68), 3) := by decide +kernel
theorem dX4_bestShake_79 : decode cX4_bestShake 79 = .ok (.iload_n 2, 1) := by decide +kernel
theorem dX4_bestShake_80 : decode cX4_bestShake 80 = .ok (.ireturn, 1) := by decide +kernel
theorem dX4_townToAsk_0 : decode cX4_townToAsk 0 = .ok (.aload_n 0, 1) := by decide +kernel
theorem dX4_townToAsk_1 : decode cX4_townToAsk 1 = .ok (.iload_n 1, 1) := by decide +kernel
theorem dX4_townToAsk_2 : decode cX4_townToAsk 2 = .ok (.aload_n 0, 1) := by decide +kernel
theorem dX4_townToAsk_3 : decode cX4_townToAsk 3 = .ok (.aload_n 0, 1) := by decide +kernel
theorem dX4_townToAsk_4 : decode cX4_townToAsk 4 = .ok (.iload_n 1, 1) := by decide +kernel
theorem dX4_townToAsk_5 : decode cX4_townToAsk 5 = .ok (.invokevirtual 141, 3) := by decide +kernel
theorem dX4_townToAsk_8 : decode cX4_townToAsk 8 = .ok (.invokevirtual 144, 3) := by decide +kernel
theorem dX4_townToAsk_11 : decode cX4_townToAsk 11 = .ok (.invokevirtual 147, 3) := by decide +kernel
theorem dX4_townToAsk_14 : decode cX4_townToAsk 14 = .ok (.iconst (-1), 1) := by decide +kernel
theorem dX4_townToAsk_15 : decode cX4_townToAsk 15 = .ok (.istore_n 2, 1) := by decide +kernel
theorem dX4_townToAsk_16 : decode cX4_townToAsk 16 = .ok (.ldc 122, 2) := by decide +kernel
theorem dX4_townToAsk_18 : decode cX4_townToAsk 18 = .ok (.istore_n 3, 1) := by decide +kernel
theorem dX4_townToAsk_19 : decode cX4_townToAsk 19 = .ok (.iconst 0, 1) := by decide +kernel
theorem dX4_townToAsk_20 : decode cX4_townToAsk 20 = .ok (.istore 4, 2) := by decide +kernel
theorem dX4_townToAsk_22 : decode cX4_townToAsk 22 = .ok (.iload 4, 2) := by decide +kernel
theorem dX4_townToAsk_24 : decode cX4_townToAsk 24 = .ok (.aload_n 0, 1) := by decide +kernel
theorem dX4_townToAsk_25 : decode cX4_townToAsk 25 = .ok (.getfield 43, 3) := by decide +kernel
theorem dX4_townToAsk_28 : decode cX4_townToAsk 28 = .ok (.if_icmp .ge 38, 3) := by decide +kernel
theorem dX4_townToAsk_31 : decode cX4_townToAsk 31 = .ok (.aload_n 0, 1) := by decide +kernel
theorem dX4_townToAsk_32 : decode cX4_townToAsk 32 = .ok (.iload 4, 2) := by decide +kernel
theorem dX4_townToAsk_34 : decode cX4_townToAsk 34 = .ok (.invokevirtual 150, 3) := by decide +kernel
theorem dX4_townToAsk_37 : decode cX4_townToAsk 37 = .ok (.istore 5, 2) := by decide +kernel
theorem dX4_townToAsk_39 : decode cX4_townToAsk 39 = .ok (.aload_n 0, 1) := by decide +kernel
theorem dX4_townToAsk_40 : decode cX4_townToAsk 40 = .ok (.iload 4, 2) := by decide +kernel
theorem dX4_townToAsk_42 : decode cX4_townToAsk 42 = .ok (.invokevirtual 153, 3) := by decide +kernel
theorem dX4_townToAsk_45 : decode cX4_townToAsk 45 = .ok (.ifCond .eq 15, 3) := by decide +kernel
theorem dX4_townToAsk_48 : decode cX4_townToAsk 48 = .ok (.iload 5, 2) := by decide +kernel
theorem dX4_townToAsk_50 : decode cX4_townToAsk 50 = .ok (.iload_n 3, 1) := by decide +kernel
theorem dX4_townToAsk_51 : decode cX4_townToAsk 51 = .ok (.if_icmp .ge 9, 3) := by decide +kernel
theorem dX4_townToAsk_54 : decode cX4_townToAsk 54 = .ok (.iload 5, 2) := by decide +kernel
theorem dX4_townToAsk_56 : decode cX4_townToAsk 56 = .ok (.istore_n 3, 1) := by decide +kernel
theorem dX4_townToAsk_57 : decode cX4_townToAsk 57 = .ok (.iload 4, 2) := by decide +kernel
theorem dX4_townToAsk_59 : decode cX4_townToAsk 59 = .ok (.istore_n 2, 1) := by decide +kernel
theorem dX4_townToAsk_60 : decode cX4_townToAsk 60 = .ok (.iinc 4 1, 3) := by decide +kernel
theorem dX4_townToAsk_63 : decode cX4_townToAsk 63 = .ok (.goto (-41), 3) := by decide +kernel
theorem dX4_townToAsk_66 : decode cX4_townToAsk 66 = .ok (.iload_n 2, 1) := by decide +kernel
theorem dX4_townToAsk_67 : decode cX4_townToAsk 67 = .ok (.ireturn, 1) := by decide +kernel
theorem dX4_isWide_0 : decode cX4_isWide 0 = .ok (.aload_n 0, 1) := by decide +kernel
theorem dX4_isWide_1 : decode cX4_isWide 1 = .ok (.getfield 9, 3) := by decide +kernel
theorem dX4_isWide_4 : decode cX4_isWide 4 = .ok (.iload_n 1, 1) := by decide +kernel
theorem dX4_isWide_5 : decode cX4_isWide 5 = .ok (.iaload, 1) := by decide +kernel
theorem dX4_isWide_6 : decode cX4_isWide 6 = .ok (.invokestatic 157, 3) := by decide +kernel
theorem dX4_isWide_9 : decode cX4_isWide 9 = .ok (.iconst 1, 1) := by decide +kernel
theorem dX4_isWide_10 : decode cX4_isWide 10 = .ok (.if_icmp .le 7, 3) := by decide +kernel
theorem dX4_isWide_13 : decode cX4_isWide 13 = .ok (.iconst 1, 1) := by decide +kernel
theorem dX4_isWide_14 : decode cX4_isWide 14 = .ok (.goto 4, 3) := by decide +kernel
theorem dX4_isWide_17 : decode cX4_isWide 17 = .ok (.iconst 0, 1) := by decide +kernel
theorem dX4_isWide_18 : decode cX4_isWide 18 = .ok (.ireturn, 1) := by decide +kernel
theorem dX4_countSteps_0 : decode cX4_countSteps 0 = .ok (.aload_n 0, 1) := by decide +kernel
theorem dX4_countSteps_1 : decode cX4_countSteps 1 = .ok (.getfield 40, 3) := by decide +kernel
theorem dX4_countSteps_4 : decode cX4_countSteps 4 = .ok (.iconst 0, 1) := by decide +kernel
theorem dX4_countSteps_5 : decode cX4_countSteps 5 = .ok (.invokestatic 82, 3) := by decide +kernel
theorem dX4_countSteps_8 : decode cX4_countSteps 8 = .ok (.iconst 0, 1) := by decide +kernel
theorem dX4_countSteps_9 : decode cX4_countSteps 9 = .ok (.istore_n 3, 1) := by decide +kernel
theorem dX4_countSteps_10 : decode cX4_countSteps 10 = .ok (.iload_n 3, 1) := by decide +kernel
theorem dX4_countSteps_11 : decode cX4_countSteps 11 = .ok (.sipush 144, 3) := by decide +kernel
theorem dX4_countSteps_14 : decode cX4_countSteps 14 = .ok (.if_icmp .ge 48, 3) := by decide +kernel
theorem dX4_countSteps_17 : decode cX4_countSteps 17 = .ok (.aload_n 0, 1) := by decide +kernel
theorem dX4_countSteps_18 : decode cX4_countSteps 18 = .ok (.iload_n 3, 1) := by decide +kernel
theorem dX4_countSteps_19 : decode cX4_countSteps 19 = .ok (.iload_n 1, 1) := by decide +kernel
theorem dX4_countSteps_20 : decode cX4_countSteps 20 = .ok (.invokevirtual 130, 3) := by decide +kernel
theorem dX4_countSteps_23 : decode cX4_countSteps 23 = .ok (.iconst 0, 1) := by decide +kernel
theorem dX4_countSteps_24 : decode cX4_countSteps 24 = .ok (.istore 4, 2) := by decide +kernel
theorem dX4_countSteps_26 : decode cX4_countSteps 26 = .ok (.iload 4, 2) := by decide +kernel
theorem dX4_countSteps_28 : decode cX4_countSteps 28 = .ok (.bipush 40, 2) := by decide +kernel
theorem dX4_countSteps_30 : decode cX4_countSteps 30 = .ok (.if_icmp .ge 26, 3) := by decide +kernel
theorem dX4_countSteps_33 : decode cX4_countSteps 33 = .ok (.aload_n 0, 1) := by decide +kernel
theorem dX4_countSteps_34 : decode cX4_countSteps 34 = .ok (.getfield 33, 3) := by decide +kernel
theorem dX4_countSteps_37 : decode cX4_countSteps 37 = .ok (.iload 4, 2) := by decide +kernel
theorem dX4_countSteps_39 : decode cX4_countSteps 39 = .ok (.iaload, 1) := by decide +kernel
theorem dX4_countSteps_40 : decode cX4_countSteps 40 = .ok (.iload_n 2, 1) := by decide +kernel
theorem dX4_countSteps_41 : decode cX4_countSteps 41 = .ok (.if_icmp .ne 9, 3) := by decide +kernel
theorem dX4_countSteps_44 : decode cX4_countSteps 44 = .ok (.aload_n 0, 1) := by decide +kernel
theorem dX4_countSteps_45 : decode cX4_countSteps 45 = .ok (.iload 4, 2) := by decide +kernel
theorem dX4_countSteps_47 : decode cX4_countSteps 47 = .ok (.invokevirtual 162, 3) := by decide +kernel
theorem dX4_countSteps_50 : decode cX4_countSteps 50 = .ok (.iinc 4 1, 3) := by decide +kernel
theorem dX4_countSteps_53 : decode cX4_countSteps 53 = .ok (.goto (-27), 3) := by decide +kernel
theorem dX4_countSteps_56 : decode cX4_countSteps 56 = .ok (.iinc 3 1, 3) := by decide +kernel
theorem dX4_countSteps_59 : decode cX4_countSteps 59 = .ok (.goto (-49), 3) := by decide +kernel
theorem dX4_countSteps_62 : decode cX4_countSteps 62 = .ok (.return_, 1) := by decide +kernel
theorem dX4_countStepsOf_0 : decode cX4_countStepsOf 0 = .ok (.iconst 0, 1) := by decide +kernel
theorem dX4_countStepsOf_1 : decode cX4_countStepsOf 1 = .ok (.istore_n 2, 1) := by decide +kernel
theorem dX4_countStepsOf_2 : decode cX4_countStepsOf 2 = .ok (.iload_n 2, 1) := by decide +kernel
theorem dX4_countStepsOf_3 : decode cX4_countStepsOf 3 = .ok (.aload_n 0, 1) := by decide +kernel
theorem dX4_countStepsOf_4 : decode cX4_countStepsOf 4 = .ok (.getfield 43, 3) := by decide +kernel
theorem dX4_countStepsOf_7 : decode cX4_countStepsOf 7 = .ok (.if_icmp .ge 42, 3) := by decide +kernel
theorem dX4_countStepsOf_10 : decode cX4_countStepsOf 10 = .ok (.aload_n 0, 1) := by decide +kernel
theorem dX4_countStepsOf_11 : decode cX4_countStepsOf 11 = .ok (.iload_n 2, 1) := by decide +kernel
theorem dX4_countStepsOf_12 : decode cX4_countStepsOf 12 = .ok (.invokevirtual 153, 3) := by decide +kernel
theorem dX4_countStepsOf_15 : decode cX4_countStepsOf 15 = .ok (.ifCond .eq 28, 3) := by decide +kernel
theorem dX4_countStepsOf_18 : decode cX4_countStepsOf 18 = .ok (.aload_n 0, 1) := by decide +kernel
theorem dX4_countStepsOf_19 : decode cX4_countStepsOf 19 = .ok (.getfield 40, 3) := by decide +kernel
theorem dX4_countStepsOf_22 : decode cX4_countStepsOf 22 = .ok (.iload_n 2, 1) := by decide +kernel
theorem dX4_countStepsOf_23 : decode cX4_countStepsOf 23 = .ok (.bipush 12, 2) := by decide +kernel
theorem dX4_countStepsOf_25 : decode cX4_countStepsOf 25 = .ok (.imul, 1) := by decide +kernel
theorem dX4_countStepsOf_26 : decode cX4_countStepsOf 26 = .ok (.iload_n 1, 1) := by decide +kernel
theorem dX4_countStepsOf_27 : decode cX4_countStepsOf 27 = .ok (.aload_n 0, 1) := by decide +kernel
theorem dX4_countStepsOf_28 : decode cX4_countStepsOf 28 = .ok (.getfield 30, 3) := by decide +kernel
theorem dX4_countStepsOf_31 : decode cX4_countStepsOf 31 = .ok (.iload_n 2, 1) := by decide +kernel
theorem dX4_countStepsOf_32 : decode cX4_countStepsOf 32 = .ok (.iaload, 1) := by decide +kernel
theorem dX4_countStepsOf_33 : decode cX4_countStepsOf 33 = .ok (.iadd, 1) := by decide +kernel
theorem dX4_countStepsOf_34 : decode cX4_countStepsOf 34 = .ok (.invokestatic 113, 3) := by decide +kernel
theorem dX4_countStepsOf_37 : decode cX4_countStepsOf 37 = .ok (.iadd, 1) := by decide +kernel
theorem dX4_countStepsOf_38 : decode cX4_countStepsOf 38 = .ok (.dup2, 1) := by decide +kernel
theorem dX4_countStepsOf_39 : decode cX4_countStepsOf 39 = .ok (.iaload, 1) := by decide +kernel
theorem dX4_countStepsOf_40 : decode cX4_countStepsOf 40 = .ok (.iconst 1, 1) := by decide +kernel
theorem dX4_countStepsOf_41 : decode cX4_countStepsOf 41 = .ok (.iadd, 1) := by decide +kernel
theorem dX4_countStepsOf_42 : decode cX4_countStepsOf 42 = .ok (.iastore, 1) := by decide +kernel
theorem dX4_countStepsOf_43 : decode cX4_countStepsOf 43 = .ok (.iinc 2 1, 3) := by decide +kernel
theorem dX4_countStepsOf_46 : decode cX4_countStepsOf 46 = .ok (.goto (-44), 3) := by decide +kernel
theorem dX4_countStepsOf_49 : decode cX4_countStepsOf 49 = .ok (.return_, 1) := by decide +kernel
theorem dX4_mostOfOneStep_0 : decode cX4_mostOfOneStep 0 = .ok (.iconst 0, 1) := by decide +kernel
theorem dX4_mostOfOneStep_1 : decode cX4_mostOfOneStep 1 = .ok (.istore_n 2, 1) := by decide +kernel
theorem dX4_mostOfOneStep_2 : decode cX4_mostOfOneStep 2 = .ok (.iconst 0, 1) := by decide +kernel
theorem dX4_mostOfOneStep_3 : decode cX4_mostOfOneStep 3 = .ok (.istore_n 3, 1) := by decide +kernel
theorem dX4_mostOfOneStep_4 : decode cX4_mostOfOneStep 4 = .ok (.iload_n 3, 1) := by decide +kernel
theorem dX4_mostOfOneStep_5 : decode cX4_mostOfOneStep 5 = .ok (.bipush 12, 2) := by decide +kernel
theorem dX4_mostOfOneStep_7 : decode cX4_mostOfOneStep 7 = .ok (.if_icmp .ge 25, 3) := by decide +kernel
theorem dX4_mostOfOneStep_10 : decode cX4_mostOfOneStep 10 = .ok (.iload_n 2, 1) := by decide +kernel
theorem dX4_mostOfOneStep_11 : decode cX4_mostOfOneStep 11 = .ok (.aload_n 0, 1) := by decide +kernel
theorem dX4_mostOfOneStep_12 : decode cX4_mostOfOneStep 12 = .ok (.getfield 40, 3) := by decide +kernel
theorem dX4_mostOfOneStep_15 : decode cX4_mostOfOneStep 15 = .ok (.iload_n 1, 1) := by decide +kernel
theorem dX4_mostOfOneStep_16 : decode cX4_mostOfOneStep 16 = .ok (.bipush 12, 2) := by decide +kernel
theorem dX4_mostOfOneStep_18 : decode cX4_mostOfOneStep 18 = .ok (.imul, 1) := by decide +kernel
theorem dX4_mostOfOneStep_19 : decode cX4_mostOfOneStep 19 = .ok (.iload_n 3, 1) := by decide +kernel
theorem dX4_mostOfOneStep_20 : decode cX4_mostOfOneStep 20 = .ok (.iadd, 1) := by decide +kernel
theorem dX4_mostOfOneStep_21 : decode cX4_mostOfOneStep 21 = .ok (.iaload, 1) := by decide +kernel
theorem dX4_mostOfOneStep_22 : decode cX4_mostOfOneStep 22 = .ok (.invokestatic 63, 3) := by decide +kernel
theorem dX4_mostOfOneStep_25 : decode cX4_mostOfOneStep 25 = .ok (.istore_n 2, 1) := by decide +kernel
theorem dX4_mostOfOneStep_26 : decode cX4_mostOfOneStep 26 = .ok (.iinc 3 1, 3) := by decide +kernel
theorem dX4_mostOfOneStep_29 : decode cX4_mostOfOneStep 29 = .ok (.goto (-25), 3) := by decide +kernel
theorem dX4_mostOfOneStep_32 : decode cX4_mostOfOneStep 32 = .ok (.iload_n 2, 1) := by decide +kernel
theorem dX4_mostOfOneStep_33 : decode cX4_mostOfOneStep 33 = .ok (.ireturn, 1) := by decide +kernel
theorem dX5_append_0 : decode cX5_append 0 = .ok (.iload_n 2, 1) := by decide +kernel
theorem dX5_append_1 : decode cX5_append 1 = .ok (.iconst 1, 1) := by decide +kernel
theorem dX5_append_2 : decode cX5_append 2 = .ok (.isub, 1) := by decide +kernel
theorem dX5_append_3 : decode cX5_append 3 = .ok (.istore_n 3, 1) := by decide +kernel
theorem dX5_append_4 : decode cX5_append 4 = .ok (.iload_n 3, 1) := by decide +kernel
theorem dX5_append_5 : decode cX5_append 5 = .ok (.ifCond .lt 38, 3) := by decide +kernel
theorem dX5_append_8 : decode cX5_append 8 = .ok (.aload_n 0, 1) := by decide +kernel
theorem dX5_append_9 : decode cX5_append 9 = .ok (.getfield 9, 3) := by decide +kernel
theorem dX5_append_12 : decode cX5_append 12 = .ok (.aload_n 0, 1) := by decide +kernel
theorem dX5_append_13 : decode cX5_append 13 = .ok (.getfield 15, 3) := by decide +kernel
theorem dX5_append_16 : decode cX5_append 16 = .ok (.iload_n 1, 1) := by decide +kernel
theorem dX5_append_17 : decode cX5_append 17 = .ok (.bipush 8, 2) := by decide +kernel
theorem dX5_append_19 : decode cX5_append 19 = .ok (.iload_n 3, 1) := by decide +kernel
theorem dX5_append_20 : decode cX5_append 20 = .ok (.imul, 1) := by decide +kernel
theorem dX5_append_21 : decode cX5_append 21 = .ok (.ishr, 1) := by decide +kernel
theorem dX5_append_22 : decode cX5_append 22 = .ok (.sipush 255, 3) := by decide +kernel
theorem dX5_append_25 : decode cX5_append 25 = .ok (.iand, 1) := by decide +kernel
theorem dX5_append_26 : decode cX5_append 26 = .ok (.iastore, 1) := by decide +kernel
theorem dX5_append_27 : decode cX5_append 27 = .ok (.aload_n 0, 1) := by decide +kernel
theorem dX5_append_28 : decode cX5_append 28 = .ok (.dup, 1) := by decide +kernel
theorem dX5_append_29 : decode cX5_append 29 = .ok (.getfield 15, 3) := by decide +kernel
theorem dX5_append_32 : decode cX5_append 32 = .ok (.iconst 1, 1) := by decide +kernel
theorem dX5_append_33 : decode cX5_append 33 = .ok (.iadd, 1) := by decide +kernel
theorem dX5_append_34 : decode cX5_append 34 = .ok (.putfield 15, 3) := by decide +kernel
theorem dX5_append_37 : decode cX5_append 37 = .ok (.iinc 3 (-1), 3) := by decide +kernel
theorem dX5_append_40 : decode cX5_append 40 = .ok (.goto (-36), 3) := by decide +kernel
theorem dX5_append_43 : decode cX5_append 43 = .ok (.return_, 1) := by decide +kernel
theorem dX5_readText_0 : decode cX5_readText 0 = .ok (.aload_n 0, 1) := by decide +kernel
theorem dX5_readText_1 : decode cX5_readText 1 = .ok (.iconst 0, 1) := by decide +kernel
theorem dX5_readText_2 : decode cX5_readText 2 = .ok (.putfield 28, 3) := by decide +kernel
theorem dX5_readText_5 : decode cX5_readText 5 = .ok (.aload_n 0, 1) := by decide +kernel
theorem dX5_readText_6 : decode cX5_readText 6 = .ok (.iconst 0, 1) := by decide +kernel
theorem dX5_readText_7 : decode cX5_readText 7 = .ok (.putfield 31, 3) := by decide +kernel
theorem dX5_readText_10 : decode cX5_readText 10 = .ok (.iconst 0, 1) := by decide +kernel
theorem dX5_readText_11 : decode cX5_readText 11 = .ok (.istore_n 1, 1) := by decide +kernel
theorem dX5_readText_12 : decode cX5_readText 12 = .ok (.iload_n 1, 1) := by decide +kernel
theorem dX5_readText_13 : decode cX5_readText 13 = .ok (.bipush 6, 2) := by decide +kernel
theorem dX5_readText_15 : decode cX5_readText 15 = .ok (.if_icmp .ge 61, 3) := by decide +kernel
theorem dX5_readText_18 : decode cX5_readText 18 = .ok (.aload_n 0, 1) := by decide +kernel
theorem dX5_readText_19 : decode cX5_readText 19 = .ok (.invokevirtual 34, 3) := by decide +kernel
theorem dX5_readText_22 : decode cX5_readText 22 = .ok (.aload_n 0, 1) := by decide +kernel
theorem dX5_readText_23 : decode cX5_readText 23 = .ok (.iload_n 1, 1) := by decide +kernel
theorem dX5_readText_24 : decode cX5_readText 24 = .ok (.invokevirtual 37, 3) := by decide +kernel
theorem dX5_readText_27 : decode cX5_readText 27 = .ok (.ifCond .ne 8, 3) := by decide +kernel
theorem dX5_readText_30 : decode cX5_readText 30 = .ok (.aload_n 0, 1) := by decide +kernel
