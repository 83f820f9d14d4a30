theorem dX5_readText_31 : decode cX5_readText 31 = .ok (.getfield 41, 3) := by decide +kernel
theorem dX5_readText_34 : decode cX5_readText 34 = .ok (.ireturn, 1) := by decide +kernel
theorem dX5_readText_35 : decode cX5_readText 35 = .ok (.aload_n 0, 1) := by decide +kernel
theorem dX5_readText_36 : decode cX5_readText 36 = .ok (.dup, 1) := by decide +kernel
theorem dX5_readText_37 : decode cX5_readText 37 = .ok (.getfield 28, 3) := by decide +kernel
theorem dX5_readText_40 : decode cX5_readText 40 = .ok (.iconst 1, 1) := by decide +kernel
theorem dX5_readText_41 : decode cX5_readText 41 = .ok (.iadd, 1) := by decide +kernel
theorem dX5_readText_42 : decode cX5_readText 42 = .ok (.putfield 28, 3) := by decide +kernel
theorem dX5_readText_45 : decode cX5_readText 45 = .ok (.aload_n 0, 1) := by decide +kernel
theorem dX5_readText_46 : decode cX5_readText 46 = .ok (.bipush 59, 2) := by decide +kernel
theorem dX5_readText_48 : decode cX5_readText 48 = .ok (.invokevirtual 44, 3) := by decide +kernel
theorem dX5_readText_51 : decode cX5_readText 51 = .ok (.ifCond .ne 19, 3) := by decide +kernel
theorem dX5_readText_54 : decode cX5_readText 54 = .ok (.aload_n 0, 1) := by decide +kernel
theorem dX5_readText_55 : decode cX5_readText 55 = .ok (.getfield 48, 3) := by decide +kernel
theorem dX5_readText_58 : decode cX5_readText 58 = .ok (.ifCond .ne 7, 3) := by decide +kernel
theorem dX5_readText_61 : decode cX5_readText 61 = .ok (.iconst (-1), 1) := by decide +kernel
theorem dX5_readText_62 : decode cX5_readText 62 = .ok (.goto 7, 3) := by decide +kernel
theorem dX5_readText_65 : decode cX5_readText 65 = .ok (.aload_n 0, 1) := by decide +kernel
theorem dX5_readText_66 : decode cX5_readText 66 = .ok (.getfield 41, 3) := by decide +kernel
theorem dX5_readText_69 : decode cX5_readText 69 = .ok (.ireturn, 1) := by decide +kernel
theorem dX5_readText_70 : decode cX5_readText 70 = .ok (.iinc 1 1, 3) := by decide +kernel
theorem dX5_readText_73 : decode cX5_readText 73 = .ok (.goto (-61), 3) := by decide +kernel
theorem dX5_readText_76 : decode cX5_readText 76 = .ok (.aload_n 0, 1) := by decide +kernel
theorem dX5_readText_77 : decode cX5_readText 77 = .ok (.invokevirtual 34, 3) := by decide +kernel
theorem dX5_readText_80 : decode cX5_readText 80 = .ok (.aload_n 0, 1) := by decide +kernel
theorem dX5_readText_81 : decode cX5_readText 81 = .ok (.getfield 41, 3) := by decide +kernel
theorem dX5_readText_84 : decode cX5_readText 84 = .ok (.ireturn, 1) := by decide +kernel
theorem dX5_readRule_0 : decode cX5_readRule 0 = .ok (.aload_n 0, 1) := by decide +kernel
theorem dX5_readRule_1 : decode cX5_readRule 1 = .ok (.ldc 51, 2) := by decide +kernel
theorem dX5_readRule_3 : decode cX5_readRule 3 = .ok (.invokevirtual 53, 3) := by decide +kernel
theorem dX5_readRule_6 : decode cX5_readRule 6 = .ok (.ifCond .eq 38, 3) := by decide +kernel
theorem dX5_readRule_9 : decode cX5_readRule 9 = .ok (.aload_n 0, 1) := by decide +kernel
theorem dX5_readRule_10 : decode cX5_readRule 10 = .ok (.iload_n 1, 1) := by decide +kernel
theorem dX5_readRule_11 : decode cX5_readRule 11 = .ok (.bipush 8, 2) := by decide +kernel
theorem dX5_readRule_13 : decode cX5_readRule 13 = .ok (.bipush 15, 2) := by decide +kernel
theorem dX5_readRule_15 : decode cX5_readRule 15 = .ok (.invokevirtual 57, 3) := by decide +kernel
theorem dX5_readRule_18 : decode cX5_readRule 18 = .ok (.ifCond .eq 24, 3) := by decide +kernel
theorem dX5_readRule_21 : decode cX5_readRule 21 = .ok (.aload_n 0, 1) := by decide +kernel
theorem dX5_readRule_22 : decode cX5_readRule 22 = .ok (.ldc 61, 2) := by decide +kernel
theorem dX5_readRule_24 : decode cX5_readRule 24 = .ok (.invokevirtual 53, 3) := by decide +kernel
theorem dX5_readRule_27 : decode cX5_readRule 27 = .ok (.ifCond .eq 15, 3) := by decide +kernel
theorem dX5_readRule_30 : decode cX5_readRule 30 = .ok (.aload_n 0, 1) := by decide +kernel
theorem dX5_readRule_31 : decode cX5_readRule 31 = .ok (.iload_n 1, 1) := by decide +kernel
theorem dX5_readRule_32 : decode cX5_readRule 32 = .ok (.invokevirtual 63, 3) := by decide +kernel
theorem dX5_readRule_35 : decode cX5_readRule 35 = .ok (.ifCond .eq 7, 3) := by decide +kernel
theorem dX5_readRule_38 : decode cX5_readRule 38 = .ok (.iconst 1, 1) := by decide +kernel
theorem dX5_readRule_39 : decode cX5_readRule 39 = .ok (.goto 4, 3) := by decide +kernel
theorem dX5_readRule_42 : decode cX5_readRule 42 = .ok (.iconst 0, 1) := by decide +kernel
theorem dX5_readRule_43 : decode cX5_readRule 43 = .ok (.ireturn, 1) := by decide +kernel
theorem dX5_readRule_44 : decode cX5_readRule 44 = .ok (.aload_n 0, 1) := by decide +kernel
theorem dX5_readRule_45 : decode cX5_readRule 45 = .ok (.ldc 66, 2) := by decide +kernel
theorem dX5_readRule_47 : decode cX5_readRule 47 = .ok (.invokevirtual 53, 3) := by decide +kernel
theorem dX5_readRule_50 : decode cX5_readRule 50 = .ok (.ifCond .eq 39, 3) := by decide +kernel
theorem dX5_readRule_53 : decode cX5_readRule 53 = .ok (.aload_n 0, 1) := by decide +kernel
theorem dX5_readRule_54 : decode cX5_readRule 54 = .ok (.iload_n 1, 1) := by decide +kernel
theorem dX5_readRule_55 : decode cX5_readRule 55 = .ok (.iconst 0, 1) := by decide +kernel
theorem dX5_readRule_56 : decode cX5_readRule 56 = .ok (.iconst 3, 1) := by decide +kernel
theorem dX5_readRule_57 : decode cX5_readRule 57 = .ok (.invokevirtual 57, 3) := by decide +kernel
theorem dX5_readRule_60 : decode cX5_readRule 60 = .ok (.ifCond .eq 27, 3) := by decide +kernel
theorem dX5_readRule_63 : decode cX5_readRule 63 = .ok (.aload_n 0, 1) := by decide +kernel
theorem dX5_readRule_64 : decode cX5_readRule 64 = .ok (.ldc 68, 2) := by decide +kernel
theorem dX5_readRule_66 : decode cX5_readRule 66 = .ok (.invokevirtual 53, 3) := by decide +kernel
theorem dX5_readRule_69 : decode cX5_readRule 69 = .ok (.ifCond .eq 18, 3) := by decide +kernel
theorem dX5_readRule_72 : decode cX5_readRule 72 = .ok (.aload_n 0, 1) := by decide +kernel
theorem dX5_readRule_73 : decode cX5_readRule 73 = .ok (.iload_n 1, 1) := by decide +kernel
theorem dX5_readRule_74 : decode cX5_readRule 74 = .ok (.iconst 0, 1) := by decide +kernel
theorem dX5_readRule_75 : decode cX5_readRule 75 = .ok (.bipush 99, 2) := by decide +kernel
theorem dX5_readRule_77 : decode cX5_readRule 77 = .ok (.invokevirtual 70, 3) := by decide +kernel
theorem dX5_readRule_80 : decode cX5_readRule 80 = .ok (.ifCond .eq 7, 3) := by decide +kernel
theorem dX5_readRule_83 : decode cX5_readRule 83 = .ok (.iconst 1, 1) := by decide +kernel
theorem dX5_readRule_84 : decode cX5_readRule 84 = .ok (.goto 4, 3) := by decide +kernel
theorem dX5_readRule_87 : decode cX5_readRule 87 = .ok (.iconst 0, 1) := by decide +kernel
theorem dX5_readRule_88 : decode cX5_readRule 88 = .ok (.ireturn, 1) := by decide +kernel
theorem dX5_readRule_89 : decode cX5_readRule 89 = .ok (.aload_n 0, 1) := by decide +kernel
theorem dX5_readRule_90 : decode cX5_readRule 90 = .ok (.ldc 73, 2) := by decide +kernel
theorem dX5_readRule_92 : decode cX5_readRule 92 = .ok (.invokevirtual 53, 3) := by decide +kernel
theorem dX5_readRule_95 : decode cX5_readRule 95 = .ok (.ifCond .eq 19, 3) := by decide +kernel
theorem dX5_readRule_98 : decode cX5_readRule 98 = .ok (.aload_n 0, 1) := by decide +kernel
theorem dX5_readRule_99 : decode cX5_readRule 99 = .ok (.getfield 19, 3) := by decide +kernel
theorem dX5_readRule_102 : decode cX5_readRule 102 = .ok (.iload_n 1, 1) := by decide +kernel
theorem dX5_readRule_103 : decode cX5_readRule 103 = .ok (.iconst 4, 1) := by decide +kernel
theorem dX5_readRule_104 : decode cX5_readRule 104 = .ok (.iastore, 1) := by decide +kernel
theorem dX5_readRule_105 : decode cX5_readRule 105 = .ok (.aload_n 0, 1) := by decide +kernel
theorem dX5_readRule_106 : decode cX5_readRule 106 = .ok (.iload_n 1, 1) := by decide +kernel
theorem dX5_readRule_107 : decode cX5_readRule 107 = .ok (.iconst 1, 1) := by decide +kernel
theorem dX5_readRule_108 : decode cX5_readRule 108 = .ok (.bipush 20, 2) := by decide +kernel
theorem dX5_readRule_110 : decode cX5_readRule 110 = .ok (.invokevirtual 70, 3) := by decide +kernel
theorem dX5_readRule_113 : decode cX5_readRule 113 = .ok (.ireturn, 1) := by decide +kernel
theorem dX5_readRule_114 : decode cX5_readRule 114 = .ok (.aload_n 0, 1) := by decide +kernel
theorem dX5_readRule_115 : decode cX5_readRule 115 = .ok (.ldc 75, 2) := by decide +kernel
theorem dX5_readRule_117 : decode cX5_readRule 117 = .ok (.invokevirtual 53, 3) := by decide +kernel
theorem dX5_readRule_120 : decode cX5_readRule 120 = .ok (.ifCond .eq 39, 3) := by decide +kernel
theorem dX5_readRule_123 : decode cX5_readRule 123 = .ok (.aload_n 0, 1) := by decide +kernel
theorem dX5_readRule_124 : decode cX5_readRule 124 = .ok (.iload_n 1, 1) := by decide +kernel
theorem dX5_readRule_125 : decode cX5_readRule 125 = .ok (.iconst 5, 1) := by decide +kernel
theorem dX5_readRule_126 : decode cX5_readRule 126 = .ok (.iconst 2, 1) := by decide +kernel
theorem dX5_readRule_127 : decode cX5_readRule 127 = .ok (.invokevirtual 57, 3) := by decide +kernel
theorem dX5_readRule_130 : decode cX5_readRule 130 = .ok (.ifCond .eq 27, 3) := by decide +kernel
theorem dX5_readRule_133 : decode cX5_readRule 133 = .ok (.aload_n 0, 1) := by decide +kernel
theorem dX5_readRule_134 : decode cX5_readRule 134 = .ok (.ldc 68, 2) := by decide +kernel
theorem dX5_readRule_136 : decode cX5_readRule 136 = .ok (.invokevirtual 53, 3) := by decide +kernel
theorem dX5_readRule_139 : decode cX5_readRule 139 = .ok (.ifCond .eq 18, 3) := by decide +kernel
theorem dX5_readRule_142 : decode cX5_readRule 142 = .ok (.aload_n 0, 1) := by decide +kernel
theorem dX5_readRule_143 : decode cX5_readRule 143 = .ok (.iload_n 1, 1) := by decide +kernel
theorem dX5_readRule_144 : decode cX5_readRule 144 = .ok (.iconst 0, 1) := by decide +kernel
theorem dX5_readRule_145 : decode cX5_readRule 145 = .ok (.bipush 9, 2) := by decide +kernel
theorem dX5_readRule_147 : decode cX5_readRule 147 = .ok (.invokevirtual 70, 3) := by decide +kernel
theorem dX5_readRule_150 : decode cX5_readRule 150 = .ok (.ifCond .eq 7, 3) := by decide +kernel
theorem dX5_readRule_153 : decode cX5_readRule 153 = .ok (.iconst 1, 1) := by decide +kernel
theorem dX5_readRule_154 : decode cX5_readRule 154 = .ok (.goto 4, 3) := by decide +kernel
theorem dX5_readRule_157 : decode cX5_readRule 157 = .ok (.iconst 0, 1) := by decide +kernel
theorem dX5_readRule_158 : decode cX5_readRule 158 = .ok (.ireturn, 1) := by decide +kernel
theorem dX5_readRule_159 : decode cX5_readRule 159 = .ok (.iconst 0, 1) := by decide +kernel
theorem dX5_readRule_160 : decode cX5_readRule 160 = .ok (.ireturn, 1) := by decide +kernel
theorem dX5_takeAbout_0 : decode cX5_takeAbout 0 = .ok (.aload_n 0, 1) := by decide +kernel
theorem dX5_takeAbout_1 : decode cX5_takeAbout 1 = .ok (.getfield 19, 3) := by decide +kernel
theorem dX5_takeAbout_4 : decode cX5_takeAbout 4 = .ok (.iload_n 1, 1) := by decide +kernel
theorem dX5_takeAbout_5 : decode cX5_takeAbout 5 = .ok (.iload_n 2, 1) := by decide +kernel
theorem dX5_takeAbout_6 : decode cX5_takeAbout 6 = .ok (.aload_n 0, 1) := by decide +kernel
theorem dX5_takeAbout_7 : decode cX5_takeAbout 7 = .ok (.getfield 77, 3) := by decide +kernel
theorem dX5_takeAbout_10 : decode cX5_takeAbout 10 = .ok (.iadd, 1) := by decide +kernel
theorem dX5_takeAbout_11 : decode cX5_takeAbout 11 = .ok (.iastore, 1) := by decide +kernel
theorem dX5_takeAbout_12 : decode cX5_takeAbout 12 = .ok (.aload_n 0, 1) := by decide +kernel
theorem dX5_takeAbout_13 : decode cX5_takeAbout 13 = .ok (.iconst 0, 1) := by decide +kernel
theorem dX5_takeAbout_14 : decode cX5_takeAbout 14 = .ok (.iload_n 3, 1) := by decide +kernel
theorem dX5_takeAbout_15 : decode cX5_takeAbout 15 = .ok (.invokevirtual 80, 3) := by decide +kernel
theorem dX5_takeAbout_18 : decode cX5_takeAbout 18 = .ok (.ireturn, 1) := by decide +kernel
theorem dX5_takeValue_0 : decode cX5_takeValue 0 = .ok (.aload_n 0, 1) := by decide +kernel
theorem dX5_takeValue_1 : decode cX5_takeValue 1 = .ok (.getfield 22, 3) := by decide +kernel
theorem dX5_takeValue_4 : decode cX5_takeValue 4 = .ok (.iload_n 1, 1) := by decide +kernel
theorem dX5_takeValue_5 : decode cX5_takeValue 5 = .ok (.aload_n 0, 1) := by decide +kernel
theorem dX5_takeValue_6 : decode cX5_takeValue 6 = .ok (.getfield 77, 3) := by decide +kernel
theorem dX5_takeValue_9 : decode cX5_takeValue 9 = .ok (.iastore, 1) := by decide +kernel
theorem dX5_takeValue_10 : decode cX5_takeValue 10 = .ok (.aload_n 0, 1) := by decide +kernel
theorem dX5_takeValue_11 : decode cX5_takeValue 11 = .ok (.getfield 25, 3) := by decide +kernel
theorem dX5_takeValue_14 : decode cX5_takeValue 14 = .ok (.iload_n 1, 1) := by decide +kernel
theorem dX5_takeValue_15 : decode cX5_takeValue 15 = .ok (.aload_n 0, 1) := by decide +kernel
theorem dX5_takeValue_16 : decode cX5_takeValue 16 = .ok (.getfield 77, 3) := by decide +kernel
theorem dX5_takeValue_19 : decode cX5_takeValue 19 = .ok (.iastore, 1) := by decide +kernel
theorem dX5_takeValue_20 : decode cX5_takeValue 20 = .ok (.aload_n 0, 1) := by decide +kernel
theorem dX5_takeValue_21 : decode cX5_takeValue 21 = .ok (.iload_n 2, 1) := by decide +kernel
theorem dX5_takeValue_22 : decode cX5_takeValue 22 = .ok (.iload_n 3, 1) := by decide +kernel
theorem dX5_takeValue_23 : decode cX5_takeValue 23 = .ok (.invokevirtual 80, 3) := by decide +kernel
theorem dX5_takeValue_26 : decode cX5_takeValue 26 = .ok (.ireturn, 1) := by decide +kernel
theorem dX5_takeSteps_0 : decode cX5_takeSteps 0 = .ok (.aload_n 0, 1) := by decide +kernel
theorem dX5_takeSteps_1 : decode cX5_takeSteps 1 = .ok (.getfield 22, 3) := by decide +kernel
theorem dX5_takeSteps_4 : decode cX5_takeSteps 4 = .ok (.iload_n 1, 1) := by decide +kernel
theorem dX5_takeSteps_5 : decode cX5_takeSteps 5 = .ok (.aload_n 0, 1) := by decide +kernel
theorem dX5_takeSteps_6 : decode cX5_takeSteps 6 = .ok (.getfield 77, 3) := by decide +kernel
theorem dX5_takeSteps_9 : decode cX5_takeSteps 9 = .ok (.iastore, 1) := by decide +kernel
theorem dX5_takeSteps_10 : decode cX5_takeSteps 10 = .ok (.aload_n 0, 1) := by decide +kernel
theorem dX5_takeSteps_11 : decode cX5_takeSteps 11 = .ok (.getfield 25, 3) := by decide +kernel
theorem dX5_takeSteps_14 : decode cX5_takeSteps 14 = .ok (.iload_n 1, 1) := by decide +kernel
theorem dX5_takeSteps_15 : decode cX5_takeSteps 15 = .ok (.aload_n 0, 1) := by decide +kernel
theorem dX5_takeSteps_16 : decode cX5_takeSteps 16 = .ok (.getfield 77, 3) := by decide +kernel
theorem dX5_takeSteps_19 : decode cX5_takeSteps 19 = .ok (.iastore, 1) := by decide +kernel
theorem dX5_takeSteps_20 : decode cX5_takeSteps 20 = .ok (.aload_n 0, 1) := by decide +kernel
theorem dX5_takeSteps_21 : decode cX5_takeSteps 21 = .ok (.iconst 0, 1) := by decide +kernel
theorem dX5_takeSteps_22 : decode cX5_takeSteps 22 = .ok (.bipush 11, 2) := by decide +kernel
theorem dX5_takeSteps_24 : decode cX5_takeSteps 24 = .ok (.invokevirtual 80, 3) := by decide +kernel
theorem dX5_takeSteps_27 : decode cX5_takeSteps 27 = .ok (.ifCond .ne 5, 3) := by decide +kernel
theorem dX5_takeSteps_30 : decode cX5_takeSteps 30 = .ok (.iconst 0, 1) := by decide +kernel
theorem dX5_takeSteps_31 : decode cX5_takeSteps 31 = .ok (.ireturn, 1) := by decide +kernel
theorem dX5_takeSteps_32 : decode cX5_takeSteps 32 = .ok (.aload_n 0, 1) := by decide +kernel
theorem dX5_takeSteps_33 : decode cX5_takeSteps 33 = .ok (.bipush 45, 2) := by decide +kernel
theorem dX5_takeSteps_35 : decode cX5_takeSteps 35 = .ok (.invokevirtual 44, 3) := by decide +kernel
theorem dX5_takeSteps_38 : decode cX5_takeSteps 38 = .ok (.ifCond .ne 5, 3) := by decide +kernel
theorem dX5_takeSteps_41 : decode cX5_takeSteps 41 = .ok (.iconst 1, 1) := by decide +kernel
theorem dX5_takeSteps_42 : decode cX5_takeSteps 42 = .ok (.ireturn, 1) := by decide +kernel
theorem dX5_takeSteps_43 : decode cX5_takeSteps 43 = .ok (.aload_n 0, 1) := by decide +kernel
theorem dX5_takeSteps_44 : decode cX5_takeSteps 44 = .ok (.invokevirtual 34, 3) := by decide +kernel
theorem dX5_takeSteps_47 : decode cX5_takeSteps 47 = .ok (.aload_n 0, 1) := by decide +kernel
theorem dX5_takeSteps_48 : decode cX5_takeSteps 48 = .ok (.getfield 25, 3) := by decide +kernel
theorem dX5_takeSteps_51 : decode cX5_takeSteps 51 = .ok (.iload_n 1, 1) := by decide +kernel
theorem dX5_takeSteps_52 : decode cX5_takeSteps 52 = .ok (.aload_n 0, 1) := by decide +kernel
theorem dX5_takeSteps_53 : decode cX5_takeSteps 53 = .ok (.getfield 77, 3) := by decide +kernel
theorem dX5_takeSteps_56 : decode cX5_takeSteps 56 = .ok (.iastore, 1) := by decide +kernel
theorem dX5_takeSteps_57 : decode cX5_takeSteps 57 = .ok (.aload_n 0, 1) := by decide +kernel
theorem dX5_takeSteps_58 : decode cX5_takeSteps 58 = .ok (.aload_n 0, 1) := by decide +kernel
theorem dX5_takeSteps_59 : decode cX5_takeSteps 59 = .ok (.getfield 22, 3) := by decide +kernel
theorem dX5_takeSteps_62 : decode cX5_takeSteps 62 = .ok (.iload_n 1, 1) := by decide +kernel
theorem dX5_takeSteps_63 : decode cX5_takeSteps 63 = .ok (.iaload, 1) := by decide +kernel
theorem dX5_takeSteps_64 : decode cX5_takeSteps 64 = .ok (.bipush 11, 2) := by decide +kernel
theorem dX5_takeSteps_66 : decode cX5_takeSteps 66 = .ok (.invokevirtual 80, 3) := by decide +kernel
theorem dX5_takeSteps_69 : decode cX5_takeSteps 69 = .ok (.ireturn, 1) := by decide +kernel
theorem dX5_takeNumber_0 : decode cX5_takeNumber 0 = .ok (.aload_n 0, 1) := by decide +kernel
theorem dX5_takeNumber_1 : decode cX5_takeNumber 1 = .ok (.getfield 48, 3) := by decide +kernel
theorem dX5_takeNumber_4 : decode cX5_takeNumber 4 = .ok (.iconst 2, 1) := by decide +kernel
theorem dX5_takeNumber_5 : decode cX5_takeNumber 5 = .ok (.if_icmp .ne 19, 3) := by decide +kernel
theorem dX5_takeNumber_8 : decode cX5_takeNumber 8 = .ok (.aload_n 0, 1) := by decide +kernel
theorem dX5_takeNumber_9 : decode cX5_takeNumber 9 = .ok (.getfield 77, 3) := by decide +kernel
theorem dX5_takeNumber_12 : decode cX5_takeNumber 12 = .ok (.iload_n 1, 1) := by decide +kernel
theorem dX5_takeNumber_13 : decode cX5_takeNumber 13 = .ok (.if_icmp .lt 11, 3) := by decide +kernel
theorem dX5_takeNumber_16 : decode cX5_takeNumber 16 = .ok (.aload_n 0, 1) := by decide +kernel
theorem dX5_takeNumber_17 : decode cX5_takeNumber 17 = .ok (.getfield 77, 3) := by decide +kernel
theorem dX5_takeNumber_20 : decode cX5_takeNumber 20 = .ok (.iload_n 2, 1) := by decide +kernel
theorem dX5_takeNumber_21 : decode cX5_takeNumber 21 = .ok (.if_icmp .le 5, 3) := by decide +kernel
theorem dX5_takeNumber_24 : decode cX5_takeNumber 24 = .ok (.iconst 0, 1) := by decide +kernel
theorem dX5_takeNumber_25 : decode cX5_takeNumber 25 = .ok (.ireturn, 1) := by decide +kernel
theorem dX5_takeNumber_26 : decode cX5_takeNumber 26 = .ok (.aload_n 0, 1) := by decide +kernel
theorem dX5_takeNumber_27 : decode cX5_takeNumber 27 = .ok (.invokevirtual 34, 3) := by decide +kernel
theorem dX5_takeNumber_30 : decode cX5_takeNumber 30 = .ok (.iconst 1, 1) := by decide +kernel
theorem dX5_takeNumber_31 : decode cX5_takeNumber 31 = .ok (.ireturn, 1) := by decide +kernel
theorem dX5_takeName_0 : decode cX5_takeName 0 = .ok (.aload_n 0, 1) := by decide +kernel
theorem dX5_takeName_1 : decode cX5_takeName 1 = .ok (.getfield 48, 3) := by decide +kernel
theorem dX5_takeName_4 : decode cX5_takeName 4 = .ok (.iconst 1, 1) := by decide +kernel
theorem dX5_takeName_5 : decode cX5_takeName 5 = .ok (.if_icmp .ne 19, 3) := by decide +kernel
theorem dX5_takeName_8 : decode cX5_takeName 8 = .ok (.aload_n 0, 1) := by decide +kernel
theorem dX5_takeName_9 : decode cX5_takeName 9 = .ok (.getfield 31, 3) := by decide +kernel
theorem dX5_takeName_12 : decode cX5_takeName 12 = .ok (.aload_n 0, 1) := by decide +kernel
theorem dX5_takeName_13 : decode cX5_takeName 13 = .ok (.getfield 41, 3) := by decide +kernel
theorem dX5_takeName_16 : decode cX5_takeName 16 = .ok (.isub, 1) := by decide +kernel
theorem dX5_takeName_17 : decode cX5_takeName 17 = .ok (.aload_n 1, 1) := by decide +kernel
theorem dX5_takeName_18 : decode cX5_takeName 18 = .ok (.invokevirtual 84, 3) := by decide +kernel
theorem dX5_takeName_21 : decode cX5_takeName 21 = .ok (.if_icmp .eq 5, 3) := by decide +kernel
theorem dX5_takeName_24 : decode cX5_takeName 24 = .ok (.iconst 0, 1) := by decide +kernel
theorem dX5_takeName_25 : decode cX5_takeName 25 = .ok (.ireturn, 1) := by decide +kernel
theorem dX5_takeName_26 : decode cX5_takeName 26 = .ok (.iconst 0, 1) := by decide +kernel
theorem dX5_takeName_27 : decode cX5_takeName 27 = .ok (.istore_n 2, 1) := by decide +kernel
theorem dX5_takeName_28 : decode cX5_takeName 28 = .ok (.iload_n 2, 1) := by decide +kernel
theorem dX5_takeName_29 : decode cX5_takeName 29 = .ok (.aload_n 1, 1) := by decide +kernel
theorem dX5_takeName_30 : decode cX5_takeName 30 = .ok (.invokevirtual 84, 3) := by decide +kernel
theorem dX5_takeName_33 : decode cX5_takeName 33 = .ok (.if_icmp .ge 30, 3) := by decide +kernel
theorem dX5_takeName_36 : decode cX5_takeName 36 = .ok (.aload_n 0, 1) := by decide +kernel
theorem dX5_takeName_37 : decode cX5_takeName 37 = .ok (.getfield 9, 3) := by decide +kernel
theorem dX5_takeName_40 : decode cX5_takeName 40 = .ok (.aload_n 0, 1) := by decide +kernel
theorem dX5_takeName_41 : decode cX5_takeName 41 = .ok (.getfield 41, 3) := by decide +kernel
theorem dX5_takeName_44 : decode cX5_takeName 44 = .ok (.iload_n 2, 1) := by decide +kernel
theorem dX5_takeName_45 : decode cX5_takeName 45 = .ok (.iadd, 1) := by decide +kernel
theorem dX5_takeName_46 : decode cX5_takeName 46 = .ok (.iaload, 1) := by decide +kernel
theorem dX5_takeName_47 : decode cX5_takeName 47 = .ok (.aload_n 1, 1) := by decide +kernel
theorem dX5_takeName_48 : decode cX5_takeName 48 = .ok (.iload_n 2, 1) := by decide +kernel
theorem dX5_takeName_49 : decode cX5_takeName 49 = .ok (.invokevirtual 89, 3) := by decide +kernel
theorem dX5_takeName_52 : decode cX5_takeName 52 = .ok (.if_icmp .eq 5, 3) := by decide +kernel
theorem dX5_takeName_55 : decode cX5_takeName 55 = .ok (.iconst 0, 1) := by decide +kernel
theorem dX5_takeName_56 : decode cX5_takeName 56 = .ok (.ireturn, 1) := by decide +kernel
theorem dX5_takeName_57 : decode cX5_takeName 57 = .ok (.iinc 2 1, 3) := by decide +kernel
theorem dX5_takeName_60 : decode cX5_takeName 60 = .ok (.goto (-32), 3) := by decide +kernel
theorem dX5_takeName_63 : decode cX5_takeName 63 = .ok (.aload_n 0, 1) := by decide +kernel
theorem dX5_takeName_64 : decode cX5_takeName 64 = .ok (.invokevirtual 34, 3) := by decide +kernel
theorem dX5_takeName_67 : decode cX5_takeName 67 = .ok (.iconst 1, 1) := by decide +kernel
theorem dX5_takeName_68 : decode cX5_takeName 68 = .ok (.ireturn, 1) := by decide +kernel
theorem dX5_isSign_0 : decode cX5_isSign 0 = .ok (.aload_n 0, 1) := by decide +kernel
theorem dX5_isSign_1 : decode cX5_isSign 1 = .ok (.getfield 48, 3) := by decide +kernel
theorem dX5_isSign_4 : decode cX5_isSign 4 = .ok (.iconst 3, 1) := by decide +kernel
theorem dX5_isSign_5 : decode cX5_isSign 5 = .ok (.if_icmp .ne 15, 3) := by decide +kernel
theorem dX5_isSign_8 : decode cX5_isSign 8 = .ok (.aload_n 0, 1) := by decide +kernel
theorem dX5_isSign_9 : decode cX5_isSign 9 = .ok (.getfield 77, 3) := by decide +kernel
theorem dX5_isSign_12 : decode cX5_isSign 12 = .ok (.iload_n 1, 1) := by decide +kernel
theorem dX5_isSign_13 : decode cX5_isSign 13 = .ok (.if_icmp .ne 7, 3) := by decide +kernel
theorem dX5_isSign_16 : decode cX5_isSign 16 = .ok (.iconst 1, 1) := by decide +kernel
theorem dX5_isSign_17 : decode cX5_isSign 17 = .ok (.goto 4, 3) := by decide +kernel
theorem dX5_isSign_20 : decode cX5_isSign 20 = .ok (.iconst 0, 1) := by decide +kernel
theorem dX5_isSign_21 : decode cX5_isSign 21 = .ok (.ireturn, 1) := by decide +kernel
theorem dX5_advance_0 : decode cX5_advance 0 = .ok (.aload_n 0, 1) := by decide +kernel
theorem dX5_advance_1 : decode cX5_advance 1 = .ok (.aload_n 0, 1) := by decide +kernel
theorem dX5_advance_2 : decode cX5_advance 2 = .ok (.getfield 31, 3) := by decide +kernel
theorem dX5_advance_5 : decode cX5_advance 5 = .ok (.putfield 41, 3) := by decide +kernel
theorem dX5_advance_8 : decode cX5_advance 8 = .ok (.aload_n 0, 1) := by decide +kernel
theorem dX5_advance_9 : decode cX5_advance 9 = .ok (.getfield 41, 3) := by decide +kernel
theorem dX5_advance_12 : decode cX5_advance 12 = .ok (.aload_n 0, 1) := by decide +kernel
theorem dX5_advance_13 : decode cX5_advance 13 = .ok (.getfield 15, 3) := by decide +kernel
theorem dX5_advance_16 : decode cX5_advance 16 = .ok (.if_icmp .ge 30, 3) := by decide +kernel
theorem dX5_advance_19 : decode cX5_advance 19 = .ok (.aload_n 0, 1) := by decide +kernel
theorem dX5_advance_20 : decode cX5_advance 20 = .ok (.getfield 9, 3) := by decide +kernel
theorem dX5_advance_23 : decode cX5_advance 23 = .ok (.aload_n 0, 1) := by decide +kernel
theorem dX5_advance_24 : decode cX5_advance 24 = .ok (.getfield 41, 3) := by decide +kernel
theorem dX5_advance_27 : decode cX5_advance 27 = .ok (.iaload, 1) := by decide +kernel
theorem dX5_advance_28 : decode cX5_advance 28 = .ok (.bipush 32, 2) := by decide +kernel
theorem dX5_advance_30 : decode cX5_advance 30 = .ok (.if_icmp .ne 16, 3) := by decide +kernel
theorem dX5_advance_33 : decode cX5_advance 33 = .ok (.aload_n 0, 1) := by decide +kernel
theorem dX5_advance_34 : decode cX5_advance 34 = .ok (.dup, 1) := by decide +kernel
theorem dX5_advance_35 : decode cX5_advance 35 = .ok (.getfield 41, 3) := by decide +kernel
theorem dX5_advance_38 : decode cX5_advance 38 = .ok (.iconst 1, 1) := by decide +kernel
theorem dX5_advance_39 : decode cX5_advance 39 = .ok (.iadd, 1) := by decide +kernel
theorem dX5_advance_40 : decode cX5_advance 40 = .ok (.putfield 41, 3) := by decide +kernel
theorem dX5_advance_43 : decode cX5_advance 43 = .ok (.goto (-35), 3) := by decide +kernel
theorem dX5_advance_46 : decode cX5_advance 46 = .ok (.aload_n 0, 1) := by decide +kernel
theorem dX5_advance_47 : decode cX5_advance 47 = .ok (.aload_n 0, 1) := by decide +kernel
theorem dX5_advance_48 : decode cX5_advance 48 = .ok (.getfield 41, 3) := by decide +kernel
theorem dX5_advance_51 : decode cX5_advance 51 = .ok (.aload_n 0, 1) := by decide +kernel
theorem dX5_advance_52 : decode cX5_advance 52 = .ok (.getfield 15, 3) := by decide +kernel
theorem dX5_advance_55 : decode cX5_advance 55 = .ok (.if_icmp .ge 18, 3) := by decide +kernel
theorem dX5_advance_58 : decode cX5_advance 58 = .ok (.aload_n 0, 1) := by decide +kernel
theorem dX5_advance_59 : decode cX5_advance 59 = .ok (.getfield 9, 3) := by decide +kernel
theorem dX5_advance_62 : decode cX5_advance 62 = .ok (.aload_n 0, 1) := by decide +kernel
theorem dX5_advance_63 : decode cX5_advance 63 = .ok (.getfield 41, 3) := by decide +kernel
theorem dX5_advance_66 : decode cX5_advance 66 = .ok (.iaload, 1) := by decide +kernel
theorem dX5_advance_67 : decode cX5_advance 67 = .ok (.invokestatic 93, 3) := by decide +kernel
theorem dX5_advance_70 : decode cX5_advance 70 = .ok (.goto 4, 3) := by decide +kernel
theorem dX5_advance_73 : decode cX5_advance 73 = .ok (.iconst 0, 1) := by decide +kernel
theorem dX5_advance_74 : decode cX5_advance 74 = .ok (.putfield 48, 3) := by decide +kernel
theorem dX5_advance_77 : decode cX5_advance 77 = .ok (.aload_n 0, 1) := by decide +kernel
theorem dX5_advance_78 : decode cX5_advance 78 = .ok (.aload_n 0, 1) := by decide +kernel
theorem dX5_advance_79 : decode cX5_advance 79 = .ok (.getfield 48, 3) := by decide +kernel
theorem dX5_advance_82 : decode cX5_advance 82 = .ok (.iconst 3, 1) := by decide +kernel
theorem dX5_advance_83 : decode cX5_advance 83 = .ok (.if_icmp .ne 15, 3) := by decide +kernel
theorem dX5_advance_86 : decode cX5_advance 86 = .ok (.aload_n 0, 1) := by decide +kernel
theorem dX5_advance_87 : decode cX5_advance 87 = .ok (.getfield 9, 3) := by decide +kernel
theorem dX5_advance_90 : decode cX5_advance 90 = .ok (.aload_n 0, 1) := by decide +kernel
theorem dX5_advance_91 : decode cX5_advance 91 = .ok (.getfield 41, 3) := by decide +kernel
theorem dX5_advance_94 : decode cX5_advance 94 = .ok (.iaload, 1) := by decide +kernel
theorem dX5_advance_95 : decode cX5_advance 95 = .ok (.goto 4, 3) := by decide +kernel
theorem dX5_advance_98 : decode cX5_advance 98 = .ok (.iconst 0, 1) := by decide +kernel
theorem dX5_advance_99 : decode cX5_advance 99 = .ok (.putfield 77, 3) := by decide +kernel
theorem dX5_advance_102 : decode cX5_advance 102 = .ok (.aload_n 0, 1) := by decide +kernel
theorem dX5_advance_103 : decode cX5_advance 103 = .ok (.aload_n 0, 1) := by decide +kernel
theorem dX5_advance_104 : decode cX5_advance 104 = .ok (.getfield 15, 3) := by decide +kernel
theorem dX5_advance_107 : decode cX5_advance 107 = .ok (.aload_n 0, 1) := by decide +kernel
theorem dX5_advance_108 : decode cX5_advance 108 = .ok (.getfield 41, 3) := by decide +kernel
theorem dX5_advance_111 : decode cX5_advance 111 = .ok (.iconst 1, 1) := by decide +kernel
theorem dX5_advance_112 : decode cX5_advance 112 = .ok (.iadd, 1) := by decide +kernel
theorem dX5_advance_113 : decode cX5_advance 113 = .ok (.invokestatic 97, 3) := by decide +kernel
theorem dX5_advance_116 : decode cX5_advance 116 = .ok (.putfield 31, 3) := by decide +kernel
theorem dX5_advance_119 : decode cX5_advance 119 = .ok (.aload_n 0, 1) := by decide +kernel
theorem dX5_advance_120 : decode cX5_advance 120 = .ok (.getfield 48, 3) := by decide +kernel
theorem dX5_advance_123 : decode cX5_advance 123 = .ok (.iconst 1, 1) := by decide +kernel
theorem dX5_advance_124 : decode cX5_advance 124 = .ok (.if_icmp .eq 11, 3) := by decide +kernel
theorem dX5_advance_127 : decode cX5_advance 127 = .ok (.aload_n 0, 1) := by decide +kernel
theorem dX5_advance_128 : decode cX5_advance 128 = .ok (.getfield 48, 3) := by decide +kernel
theorem dX5_advance_131 : decode cX5_advance 131 = .ok (.iconst 2, 1) := by decide +kernel
theorem dX5_advance_132 : decode cX5_advance 132 = .ok (.if_icmp .ne 7, 3) := by decide +kernel
theorem dX5_advance_135 : decode cX5_advance 135 = .ok (.iconst 1, 1) := by decide +kernel
theorem dX5_advance_136 : decode cX5_advance 136 = .ok (.goto 4, 3) := by decide +kernel
theorem dX5_advance_139 : decode cX5_advance 139 = .ok (.iconst 0, 1) := by decide +kernel
theorem dX5_advance_140 : decode cX5_advance 140 = .ok (.istore_n 1, 1) := by decide +kernel
theorem dX5_advance_141 : decode cX5_advance 141 = .ok (.iload_n 1, 1) := by decide +kernel
theorem dX5_advance_142 : decode cX5_advance 142 = .ok (.ifCond .eq 46, 3) := by decide +kernel
theorem dX5_advance_145 : decode cX5_advance 145 = .ok (.aload_n 0, 1) := by decide +kernel
theorem dX5_advance_146 : decode cX5_advance 146 = .ok (.getfield 31, 3) := by decide +kernel
theorem dX5_advance_149 : decode cX5_advance 149 = .ok (.aload_n 0, 1) := by decide +kernel
theorem dX5_advance_150 : decode cX5_advance 150 = .ok (.getfield 15, 3) := by decide +kernel
theorem dX5_advance_153 : decode cX5_advance 153 = .ok (.if_icmp .ge 35, 3) := by decide +kernel
theorem dX5_advance_156 : decode cX5_advance 156 = .ok (.aload_n 0, 1) := by decide +kernel
theorem dX5_advance_157 : decode cX5_advance 157 = .ok (.getfield 9, 3) := by decide +kernel
theorem dX5_advance_160 : decode cX5_advance 160 = .ok (.aload_n 0, 1) := by decide +kernel
theorem dX5_advance_161 : decode cX5_advance 161 = .ok (.getfield 31, 3) := by decide +kernel
theorem dX5_advance_164 : decode cX5_advance 164 = .ok (.iaload, 1) := by decide +kernel
theorem dX5_advance_165 : decode cX5_advance 165 = .ok (.invokestatic 93, 3) := by decide +kernel
theorem dX5_advance_168 : decode cX5_advance 168 = .ok (.aload_n 0, 1) := by decide +kernel
theorem dX5_advance_169 : decode cX5_advance 169 = .ok (.getfield 48, 3) := by decide +kernel
theorem dX5_advance_172 : decode cX5_advance 172 = .ok (.if_icmp .ne 16, 3) := by decide +kernel
theorem dX5_advance_175 : decode cX5_advance 175 = .ok (.aload_n 0, 1) := by decide +kernel
theorem dX5_advance_176 : decode cX5_advance 176 = .ok (.dup, 1) := by decide +kernel
theorem dX5_advance_177 : decode cX5_advance 177 = .ok (.getfield 31, 3) := by decide +kernel
theorem dX5_advance_180 : decode cX5_advance 180 = .ok (.iconst 1, 1) := by decide +kernel
theorem dX5_advance_181 : decode cX5_advance 181 = .ok (.iadd, 1) := by decide +kernel
theorem dX5_advance_182 : decode cX5_advance 182 = .ok (.putfield 31, 3) := by decide +kernel
theorem dX5_advance_185 : decode cX5_advance 185 = .ok (.goto (-44), 3) := by decide +kernel
theorem dX5_advance_188 : decode cX5_advance 188 = .ok (.aload_n 0, 1) := by decide +kernel
theorem dX5_advance_189 : decode cX5_advance 189 = .ok (.getfield 41, 3) := by decide +kernel
theorem dX5_advance_192 : decode cX5_advance 192 = .ok (.istore_n 2, 1) := by decide +kernel
theorem dX5_advance_193 : decode cX5_advance 193 = .ok (.iload_n 2, 1) := by decide +kernel
theorem dX5_advance_194 : decode cX5_advance 194 = .ok (.aload_n 0, 1) := by decide +kernel
theorem dX5_advance_195 : decode cX5_advance 195 = .ok (.getfield 31, 3) := by decide +kernel
theorem dX5_advance_198 : decode cX5_advance 198 = .ok (.if_icmp .ge 43, 3) := by decide +kernel
theorem dX5_advance_201 : decode cX5_advance 201 = .ok (.aload_n 0, 1) := by decide +kernel
theorem dX5_advance_202 : decode cX5_advance 202 = .ok (.getfield 48, 3) := by decide +kernel
theorem dX5_advance_205 : decode cX5_advance 205 = .ok (.iconst 2, 1) := by decide +kernel
theorem dX5_advance_206 : decode cX5_advance 206 = .ok (.if_icmp .ne 35, 3) := by decide +kernel
theorem dX5_advance_209 : decode cX5_advance 209 = .ok (.aload_n 0, 1) := by decide +kernel
theorem dX5_advance_210 : decode cX5_advance 210 = .ok (.ldc 103, 2) := by decide +kernel
theorem dX5_advance_212 : decode cX5_advance 212 = .ok (.bipush 10, 2) := by decide +kernel
theorem dX5_advance_214 : decode cX5_advance 214 = .ok (.aload_n 0, 1) := by decide +kernel
theorem dX5_advance_215 : decode cX5_advance 215 = .ok (.getfield 77, 3) := by decide +kernel
theorem dX5_advance_218 : decode cX5_advance 218 = .ok (.imul, 1) := by decide +kernel
theorem dX5_advance_219 : decode cX5_advance 219 = .ok (.aload_n 0, 1) := by decide +kernel
theorem dX5_advance_220 : decode cX5_advance 220 = .ok (.getfield 9, 3) := by decide +kernel
theorem dX5_advance_223 : decode cX5_advance 223 = .ok (.iload_n 2, 1) := by decide +kernel
theorem dX5_advance_224 : decode cX5_advance 224 = .ok (.iaload, 1) := by decide +kernel
theorem dX5_advance_225 : decode cX5_advance 225 = .ok (.iadd, 1) := by decide +kernel
theorem dX5_advance_226 : decode cX5_advance 226 = .ok (.bipush 48, 2) := by decide +kernel
theorem dX5_advance_228 : decode cX5_advance 228 = .ok (.isub, 1) := by decide +kernel
theorem dX5_advance_229 : decode cX5_advance 229 = .ok (.invokestatic 97, 3) := by decide +kernel
theorem dX5_advance_232 : decode cX5_advance 232 = .ok (.putfield 77, 3) := by decide +kernel
theorem dX5_advance_235 : decode cX5_advance 235 = .ok (.iinc 2 1, 3) := by decide +kernel
theorem dX5_advance_238 : decode cX5_advance 238 = .ok (.goto (-45), 3) := by decide +kernel
theorem dX5_advance_241 : decode cX5_advance 241 = .ok (.return_, 1) := by decide +kernel
theorem dX5_sortOf_0 : decode cX5_sortOf 0 = .ok (.iload_n 0, 1) := by decide +kernel
theorem dX5_sortOf_1 : decode cX5_sortOf 1 = .ok (.bipush 97, 2) := by decide +kernel
theorem dX5_sortOf_3 : decode cX5_sortOf 3 = .ok (.if_icmp .lt 11, 3) := by decide +kernel
theorem dX5_sortOf_6 : decode cX5_sortOf 6 = .ok (.iload_n 0, 1) := by decide +kernel
theorem dX5_sortOf_7 : decode cX5_sortOf 7 = .ok (.bipush 122, 2) := by decide +kernel
theorem dX5_sortOf_9 : decode cX5_sortOf 9 = .ok (.if_icmp .gt 5, 3) := by decide +kernel
theorem dX5_sortOf_12 : decode cX5_sortOf 12 = .ok (.iconst 1, 1) := by decide +kernel
theorem dX5_sortOf_13 : decode cX5_sortOf 13 = .ok (.ireturn, 1) := by decide +kernel
theorem dX5_sortOf_14 : decode cX5_sortOf 14 = .ok (.iload_n 0, 1) := by decide +kernel
theorem dX5_sortOf_15 : decode cX5_sortOf 15 = .ok (.bipush 48, 2) := by decide +kernel
theorem dX5_sortOf_17 : decode cX5_sortOf 17 = .ok (.if_icmp .lt 11, 3) := by decide +kernel
theorem dX5_sortOf_20 : decode cX5_sortOf 20 = .ok (.iload_n 0, 1) := by decide +kernel
theorem dX5_sortOf_21 : decode cX5_sortOf 21 = .ok (.bipush 57, 2) := by decide +kernel
theorem dX5_sortOf_23 : decode cX5_sortOf 23 = .ok (.if_icmp .gt 5, 3) := by decide +kernel
theorem dX5_sortOf_26 : decode cX5_sortOf 26 = .ok (.iconst 2, 1) := by decide +kernel
theorem dX5_sortOf_27 : decode cX5_sortOf 27 = .ok (.ireturn, 1) := by decide +kernel
theorem dX5_sortOf_28 : decode cX5_sortOf 28 = .ok (.iload_n 0, 1) := by decide +kernel
theorem dX5_sortOf_29 : decode cX5_sortOf 29 = .ok (.bipush 59, 2) := by decide +kernel
theorem dX5_sortOf_31 : decode cX5_sortOf 31 = .ok (.if_icmp .eq 9, 3) := by decide +kernel
theorem dX5_sortOf_34 : decode cX5_sortOf 34 = .ok (.iload_n 0, 1) := by decide +kernel
theorem dX5_sortOf_35 : decode cX5_sortOf 35 = .ok (.bipush 45, 2) := by decide +kernel
theorem dX5_sortOf_37 : decode cX5_sortOf 37 = .ok (.if_icmp .ne 7, 3) := by decide +kernel
theorem dX5_sortOf_40 : decode cX5_sortOf 40 = .ok (.iconst 3, 1) := by decide +kernel
theorem dX5_sortOf_41 : decode cX5_sortOf 41 = .ok (.goto 4, 3) := by decide +kernel
theorem dX5_sortOf_44 : decode cX5_sortOf 44 = .ok (.iconst 4, 1) := by decide +kernel
theorem dX5_sortOf_45 : decode cX5_sortOf 45 = .ok (.ireturn, 1) := by decide +kernel
theorem dX6_become_0 : decode cX6_become 0 = .ok (.aload_n 1, 1) := by decide +kernel
theorem dX6_become_1 : decode cX6_become 1 = .ok (.getfield 9, 3) := by decide +kernel
theorem dX6_become_4 : decode cX6_become 4 = .ok (.iconst 0, 1) := by decide +kernel
theorem dX6_become_5 : decode cX6_become 5 = .ok (.aload_n 0, 1) := by decide +kernel
theorem dX6_become_6 : decode cX6_become 6 = .ok (.getfield 9, 3) := by decide +kernel
theorem dX6_become_9 : decode cX6_become 9 = .ok (.iconst 0, 1) := by decide +kernel
theorem dX6_become_10 : decode cX6_become 10 = .ok (.bipush 8, 2) := by decide +kernel
theorem dX6_become_12 : decode cX6_become 12 = .ok (.invokestatic 31, 3) := by decide +kernel
theorem dX6_become_15 : decode cX6_become 15 = .ok (.aload_n 1, 1) := by decide +kernel
theorem dX6_become_16 : decode cX6_become 16 = .ok (.getfield 15, 3) := by decide +kernel
theorem dX6_become_19 : decode cX6_become 19 = .ok (.iconst 0, 1) := by decide +kernel
theorem dX6_become_20 : decode cX6_become 20 = .ok (.aload_n 0, 1) := by decide +kernel
theorem dX6_become_21 : decode cX6_become 21 = .ok (.getfield 15, 3) := by decide +kernel
theorem dX6_become_24 : decode cX6_become 24 = .ok (.iconst 0, 1) := by decide +kernel
theorem dX6_become_25 : decode cX6_become 25 = .ok (.bipush 8, 2) := by decide +kernel
theorem dX6_become_27 : decode cX6_become 27 = .ok (.invokestatic 31, 3) := by decide +kernel
theorem dX6_become_30 : decode cX6_become 30 = .ok (.aload_n 1, 1) := by decide +kernel
theorem dX6_become_31 : decode cX6_become 31 = .ok (.getfield 18, 3) := by decide +kernel
theorem dX6_become_34 : decode cX6_become 34 = .ok (.iconst 0, 1) := by decide +kernel
theorem dX6_become_35 : decode cX6_become 35 = .ok (.aload_n 0, 1) := by decide +kernel
theorem dX6_become_36 : decode cX6_become 36 = .ok (.getfield 18, 3) := by decide +kernel
theorem dX6_become_39 : decode cX6_become 39 = .ok (.iconst 0, 1) := by decide +kernel
theorem dX6_become_40 : decode cX6_become 40 = .ok (.aload_n 0, 1) := by decide +kernel
theorem dX6_become_41 : decode cX6_become 41 = .ok (.getfield 18, 3) := by decide +kernel
theorem dX6_become_44 : decode cX6_become 44 = .ok (.arraylength, 1) := by decide +kernel
theorem dX6_become_45 : decode cX6_become 45 = .ok (.invokestatic 31, 3) := by decide +kernel
theorem dX6_become_48 : decode cX6_become 48 = .ok (.aload_n 1, 1) := by decide +kernel
theorem dX6_become_49 : decode cX6_become 49 = .ok (.getfield 21, 3) := by decide +kernel
theorem dX6_become_52 : decode cX6_become 52 = .ok (.iconst 0, 1) := by decide +kernel
theorem dX6_become_53 : decode cX6_become 53 = .ok (.aload_n 0, 1) := by decide +kernel
theorem dX6_become_54 : decode cX6_become 54 = .ok (.getfield 21, 3) := by decide +kernel
theorem dX6_become_57 : decode cX6_become 57 = .ok (.iconst 0, 1) := by decide +kernel
theorem dX6_become_58 : decode cX6_become 58 = .ok (.aload_n 0, 1) := by decide +kernel
theorem dX6_become_59 : decode cX6_become 59 = .ok (.getfield 21, 3) := by decide +kernel
theorem dX6_become_62 : decode cX6_become 62 = .ok (.arraylength, 1) := by decide +kernel
theorem dX6_become_63 : decode cX6_become 63 = .ok (.invokestatic 31, 3) := by decide +kernel
theorem dX6_become_66 : decode cX6_become 66 = .ok (.aload_n 1, 1) := by decide +kernel
theorem dX6_become_67 : decode cX6_become 67 = .ok (.getfield 24, 3) := by decide +kernel
theorem dX6_become_70 : decode cX6_become 70 = .ok (.iconst 0, 1) := by decide +kernel
theorem dX6_become_71 : decode cX6_become 71 = .ok (.aload_n 0, 1) := by decide +kernel
theorem dX6_become_72 : decode cX6_become 72 = .ok (.getfield 24, 3) := by decide +kernel
theorem dX6_become_75 : decode cX6_become 75 = .ok (.iconst 0, 1) := by decide +kernel
theorem dX6_become_76 : decode cX6_become 76 = .ok (.aload_n 0, 1) := by decide +kernel
theorem dX6_become_77 : decode cX6_become 77 = .ok (.getfield 24, 3) := by decide +kernel
theorem dX6_become_80 : decode cX6_become 80 = .ok (.arraylength, 1) := by decide +kernel
theorem dX6_become_81 : decode cX6_become 81 = .ok (.invokestatic 31, 3) := by decide +kernel
theorem dX6_become_84 : decode cX6_become 84 = .ok (.aload_n 0, 1) := by decide +kernel
theorem dX6_become_85 : decode cX6_become 85 = .ok (.aload_n 1, 1) := by decide +kernel
theorem dX6_become_86 : decode cX6_become 86 = .ok (.getfield 27, 3) := by decide +kernel
theorem dX6_become_89 : decode cX6_become 89 = .ok (.putfield 27, 3) := by decide +kernel
theorem dX6_become_92 : decode cX6_become 92 = .ok (.return_, 1) := by decide +kernel
theorem dX6_addText_0 : decode cX6_addText 0 = .ok (.aload_n 0, 1) := by decide +kernel
theorem dX6_addText_1 : decode cX6_addText 1 = .ok (.getfield 27, 3) := by decide +kernel
theorem dX6_addText_4 : decode cX6_addText 4 = .ok (.istore_n 3, 1) := by decide +kernel
theorem dX6_addText_5 : decode cX6_addText 5 = .ok (.aload_n 0, 1) := by decide +kernel
theorem dX6_addText_6 : decode cX6_addText 6 = .ok (.getfield 9, 3) := by decide +kernel
theorem dX6_addText_9 : decode cX6_addText 9 = .ok (.iload_n 3, 1) := by decide +kernel
theorem dX6_addText_10 : decode cX6_addText 10 = .ok (.iload_n 1, 1) := by decide +kernel
theorem dX6_addText_11 : decode cX6_addText 11 = .ok (.iastore, 1) := by decide +kernel
theorem dX6_addText_12 : decode cX6_addText 12 = .ok (.aload_n 0, 1) := by decide +kernel
theorem dX6_addText_13 : decode cX6_addText 13 = .ok (.getfield 15, 3) := by decide +kernel
theorem dX6_addText_16 : decode cX6_addText 16 = .ok (.iload_n 3, 1) := by decide +kernel
theorem dX6_addText_17 : decode cX6_addText 17 = .ok (.aload_n 2, 1) := by decide +kernel
theorem dX6_addText_18 : decode cX6_addText 18 = .ok (.getfield 37, 3) := by decide +kernel
theorem dX6_addText_21 : decode cX6_addText 21 = .ok (.iastore, 1) := by decide +kernel
theorem dX6_addText_22 : decode cX6_addText 22 = .ok (.aload_n 2, 1) := by decide +kernel
theorem dX6_addText_23 : decode cX6_addText 23 = .ok (.getfield 42, 3) := by decide +kernel
theorem dX6_addText_26 : decode cX6_addText 26 = .ok (.iconst 0, 1) := by decide +kernel
theorem dX6_addText_27 : decode cX6_addText 27 = .ok (.aload_n 0, 1) := by decide +kernel
theorem dX6_addText_28 : decode cX6_addText 28 = .ok (.getfield 18, 3) := by decide +kernel
theorem dX6_addText_31 : decode cX6_addText 31 = .ok (.iload_n 3, 1) := by decide +kernel
theorem dX6_addText_32 : decode cX6_addText 32 = .ok (.bipush 6, 2) := by decide +kernel
theorem dX6_addText_34 : decode cX6_addText 34 = .ok (.imul, 1) := by decide +kernel
theorem dX6_addText_35 : decode cX6_addText 35 = .ok (.bipush 6, 2) := by decide +kernel
theorem dX6_addText_37 : decode cX6_addText 37 = .ok (.invokestatic 31, 3) := by decide +kernel
theorem dX6_addText_40 : decode cX6_addText 40 = .ok (.aload_n 2, 1) := by decide +kernel
theorem dX6_addText_41 : decode cX6_addText 41 = .ok (.getfield 43, 3) := by decide +kernel
theorem dX6_addText_44 : decode cX6_addText 44 = .ok (.iconst 0, 1) := by decide +kernel
theorem dX6_addText_45 : decode cX6_addText 45 = .ok (.aload_n 0, 1) := by decide +kernel
theorem dX6_addText_46 : decode cX6_addText 46 = .ok (.getfield 21, 3) := by decide +kernel
theorem dX6_addText_49 : decode cX6_addText 49 = .ok (.iload_n 3, 1) := by decide +kernel
theorem dX6_addText_50 : decode cX6_addText 50 = .ok (.bipush 6, 2) := by decide +kernel
theorem dX6_addText_52 : decode cX6_addText 52 = .ok (.imul, 1) := by decide +kernel
theorem dX6_addText_53 : decode cX6_addText 53 = .ok (.bipush 6, 2) := by decide +kernel
theorem dX6_addText_55 : decode cX6_addText 55 = .ok (.invokestatic 31, 3) := by decide +kernel
theorem dX6_addText_58 : decode cX6_addText 58 = .ok (.aload_n 2, 1) := by decide +kernel
theorem dX6_addText_59 : decode cX6_addText 59 = .ok (.getfield 44, 3) := by decide +kernel
theorem dX6_addText_62 : decode cX6_addText 62 = .ok (.iconst 0, 1) := by decide +kernel
theorem dX6_addText_63 : decode cX6_addText 63 = .ok (.aload_n 0, 1) := by decide +kernel
theorem dX6_addText_64 : decode cX6_addText 64 = .ok (.getfield 24, 3) := by decide +kernel
theorem dX6_addText_67 : decode cX6_addText 67 = .ok (.iload_n 3, 1) := by decide +kernel
theorem dX6_addText_68 : decode cX6_addText 68 = .ok (.bipush 6, 2) := by decide +kernel
theorem dX6_addText_70 : decode cX6_addText 70 = .ok (.imul, 1) := by decide +kernel
theorem dX6_addText_71 : decode cX6_addText 71 = .ok (.bipush 6, 2) := by decide +kernel
theorem dX6_addText_73 : decode cX6_addText 73 = .ok (.invokestatic 31, 3) := by decide +kernel
theorem dX6_addText_76 : decode cX6_addText 76 = .ok (.aload_n 0, 1) := by decide +kernel
theorem dX6_addText_77 : decode cX6_addText 77 = .ok (.dup, 1) := by decide +kernel
theorem dX6_addText_78 : decode cX6_addText 78 = .ok (.getfield 27, 3) := by decide +kernel
theorem dX6_addText_81 : decode cX6_addText 81 = .ok (.iconst 1, 1) := by decide +kernel
theorem dX6_addText_82 : decode cX6_addText 82 = .ok (.iadd, 1) := by decide +kernel
theorem dX6_addText_83 : decode cX6_addText 83 = .ok (.putfield 27, 3) := by decide +kernel
theorem dX6_addText_86 : decode cX6_addText 86 = .ok (.iload_n 3, 1) := by decide +kernel
theorem dX6_addText_87 : decode cX6_addText 87 = .ok (.ireturn, 1) := by decide +kernel
theorem dX6_ruleFor_0 : decode cX6_ruleFor 0 = .ok (.aload_n 0, 1) := by decide +kernel
theorem dX6_ruleFor_1 : decode cX6_ruleFor 1 = .ok (.getfield 27, 3) := by decide +kernel
theorem dX6_ruleFor_4 : decode cX6_ruleFor 4 = .ok (.iconst 1, 1) := by decide +kernel
theorem dX6_ruleFor_5 : decode cX6_ruleFor 5 = .ok (.isub, 1) := by decide +kernel
theorem dX6_ruleFor_6 : decode cX6_ruleFor 6 = .ok (.istore_n 3, 1) := by decide +kernel
theorem dX6_ruleFor_7 : decode cX6_ruleFor 7 = .ok (.iload_n 3, 1) := by decide +kernel
theorem dX6_ruleFor_8 : decode cX6_ruleFor 8 = .ok (.ifCond .lt 66, 3) := by decide +kernel
theorem dX6_ruleFor_11 : decode cX6_ruleFor 11 = .ok (.aload_n 0, 1) := by decide +kernel
theorem dX6_ruleFor_12 : decode cX6_ruleFor 12 = .ok (.getfield 9, 3) := by decide +kernel
theorem dX6_ruleFor_15 : decode cX6_ruleFor 15 = .ok (.iload_n 3, 1) := by decide +kernel
theorem dX6_ruleFor_16 : decode cX6_ruleFor 16 = .ok (.iaload, 1) := by decide +kernel
theorem dX6_ruleFor_17 : decode cX6_ruleFor 17 = .ok (.iload_n 2, 1) := by decide +kernel
theorem dX6_ruleFor_18 : decode cX6_ruleFor 18 = .ok (.if_icmp .le 6, 3) := by decide +kernel
theorem dX6_ruleFor_21 : decode cX6_ruleFor 21 = .ok (.goto 47, 3) := by decide +kernel
theorem dX6_ruleFor_24 : decode cX6_ruleFor 24 = .ok (.iconst 0, 1) := by decide +kernel
theorem dX6_ruleFor_25 : decode cX6_ruleFor 25 = .ok (.istore 4, 2) := by decide +kernel
theorem dX6_ruleFor_27 : decode cX6_ruleFor 27 = .ok (.iload 4, 2) := by decide +kernel
theorem dX6_ruleFor_29 : decode cX6_ruleFor 29 = .ok (.aload_n 0, 1) := by decide +kernel
theorem dX6_ruleFor_30 : decode cX6_ruleFor 30 = .ok (.getfield 15, 3) := by decide +kernel
theorem dX6_ruleFor_33 : decode cX6_ruleFor 33 = .ok (.iload_n 3, 1) := by decide +kernel
theorem dX6_ruleFor_34 : decode cX6_ruleFor 34 = .ok (.iaload, 1) := by decide +kernel
theorem dX6_ruleFor_35 : decode cX6_ruleFor 35 = .ok (.if_icmp .ge 33, 3) := by decide +kernel
theorem dX6_ruleFor_38 : decode cX6_ruleFor 38 = .ok (.aload_n 0, 1) := by decide +kernel
theorem dX6_ruleFor_39 : decode cX6_ruleFor 39 = .ok (.getfield 18, 3) := by decide +kernel
theorem dX6_ruleFor_42 : decode cX6_ruleFor 42 = .ok (.iload_n 3, 1) := by decide +kernel
theorem dX6_ruleFor_43 : decode cX6_ruleFor 43 = .ok (.bipush 6, 2) := by decide +kernel
theorem dX6_ruleFor_45 : decode cX6_ruleFor 45 = .ok (.imul, 1) := by decide +kernel
theorem dX6_ruleFor_46 : decode cX6_ruleFor 46 = .ok (.iload 4, 2) := by decide +kernel
theorem dX6_ruleFor_48 : decode cX6_ruleFor 48 = .ok (.iadd, 1) := by decide +kernel
theorem dX6_ruleFor_49 : decode cX6_ruleFor 49 = .ok (.iaload, 1) := by decide +kernel
theorem dX6_ruleFor_50 : decode cX6_ruleFor 50 = .ok (.iload_n 1, 1) := by decide +kernel
theorem dX6_ruleFor_51 : decode cX6_ruleFor 51 = .ok (.if_icmp .ne 11, 3) := by decide +kernel
theorem dX6_ruleFor_54 : decode cX6_ruleFor 54 = .ok (.iload_n 3, 1) := by decide +kernel
theorem dX6_ruleFor_55 : decode cX6_ruleFor 55 = .ok (.bipush 6, 2) := by decide +kernel
theorem dX6_ruleFor_57 : decode cX6_ruleFor 57 = .ok (.imul, 1) := by decide +kernel
theorem dX6_ruleFor_58 : decode cX6_ruleFor 58 = .ok (.iload 4, 2) := by decide +kernel
theorem dX6_ruleFor_60 : decode cX6_ruleFor 60 = .ok (.iadd, 1) := by decide +kernel
theorem dX6_ruleFor_61 : decode cX6_ruleFor 61 = .ok (.ireturn, 1) := by decide +kernel
theorem dX6_ruleFor_62 : decode cX6_ruleFor 62 = .ok (.iinc 4 1, 3) := by decide +kernel
theorem dX6_ruleFor_65 : decode cX6_ruleFor 65 = .ok (.goto (-38), 3) := by decide +kernel
theorem dX6_ruleFor_68 : decode cX6_ruleFor 68 = .ok (.iinc 3 (-1), 3) := by decide +kernel
theorem dX6_ruleFor_71 : decode cX6_ruleFor 71 = .ok (.goto (-64), 3) := by decide +kernel
theorem dX6_ruleFor_74 : decode cX6_ruleFor 74 = .ok (.iconst (-1), 1) := by decide +kernel
theorem dX6_ruleFor_75 : decode cX6_ruleFor 75 = .ok (.ireturn, 1) := by decide +kernel
theorem dX7_become_0 : decode cX7_become 0 = .ok (.aload_n 0, 1) := by decide +kernel
theorem dX7_become_1 : decode cX7_become 1 = .ok (.getfield 12, 3) := by decide +kernel
theorem dX7_become_4 : decode cX7_become 4 = .ok (.aload_n 1, 1) := by decide +kernel
theorem dX7_become_5 : decode cX7_become 5 = .ok (.getfield 12, 3) := by decide +kernel
theorem dX7_become_8 : decode cX7_become 8 = .ok (.invokevirtual 43, 3) := by decide +kernel
theorem dX7_become_11 : decode cX7_become 11 = .ok (.aload_n 0, 1) := by decide +kernel
theorem dX7_become_12 : decode cX7_become 12 = .ok (.getfield 21, 3) := by decide +kernel
theorem dX7_become_15 : decode cX7_become 15 = .ok (.aload_n 1, 1) := by decide +kernel
theorem dX7_become_16 : decode cX7_become 16 = .ok (.getfield 21, 3) := by decide +kernel
theorem dX7_become_19 : decode cX7_become 19 = .ok (.invokevirtual 47, 3) := by decide +kernel
theorem dX7_become_22 : decode cX7_become 22 = .ok (.aload_n 0, 1) := by decide +kernel
theorem dX7_become_23 : decode cX7_become 23 = .ok (.getfield 28, 3) := by decide +kernel
theorem dX7_become_26 : decode cX7_become 26 = .ok (.aload_n 1, 1) := by decide +kernel
theorem dX7_become_27 : decode cX7_become 27 = .ok (.getfield 28, 3) := by decide +kernel
theorem dX7_become_30 : decode cX7_become 30 = .ok (.invokevirtual 50, 3) := by decide +kernel
theorem dX7_become_33 : decode cX7_become 33 = .ok (.aload_n 0, 1) := by decide +kernel
theorem dX7_become_34 : decode cX7_become 34 = .ok (.getfield 35, 3) := by decide +kernel
theorem dX7_become_37 : decode cX7_become 37 = .ok (.aload_n 1, 1) := by decide +kernel
theorem dX7_become_38 : decode cX7_become 38 = .ok (.getfield 35, 3) := by decide +kernel
theorem dX7_become_41 : decode cX7_become 41 = .ok (.invokevirtual 53, 3) := by decide +kernel
theorem dX7_become_44 : decode cX7_become 44 = .ok (.return_, 1) := by decide +kernel
theorem dX7_countingSet_0 : decode cX7_countingSet 0 = .ok (.aload_n 0, 1) := by decide +kernel
theorem dX7_countingSet_1 : decode cX7_countingSet 1 = .ok (.getfield 21, 3) := by decide +kernel
theorem dX7_countingSet_4 : decode cX7_countingSet 4 = .ok (.aload_n 0, 1) := by decide +kernel
theorem dX7_countingSet_5 : decode cX7_countingSet 5 = .ok (.getfield 12, 3) := by decide +kernel
theorem dX7_countingSet_8 : decode cX7_countingSet 8 = .ok (.getfield 56, 3) := by decide +kernel
theorem dX7_countingSet_11 : decode cX7_countingSet 11 = .ok (.iload_n 1, 1) := by decide +kernel
theorem dX7_countingSet_12 : decode cX7_countingSet 12 = .ok (.invokevirtual 60, 3) := by decide +kernel
theorem dX7_countingSet_15 : decode cX7_countingSet 15 = .ok (.ireturn, 1) := by decide +kernel
theorem dX7_lawOf_0 : decode cX7_lawOf 0 = .ok (.aload_n 0, 1) := by decide +kernel
theorem dX7_lawOf_1 : decode cX7_lawOf 1 = .ok (.getfield 28, 3) := by decide +kernel
theorem dX7_lawOf_4 : decode cX7_lawOf 4 = .ok (.iload_n 1, 1) := by decide +kernel
theorem dX7_lawOf_5 : decode cX7_lawOf 5 = .ok (.aload_n 0, 1) := by decide +kernel
theorem dX7_lawOf_6 : decode cX7_lawOf 6 = .ok (.getfield 12, 3) := by decide +kernel
theorem dX7_lawOf_9 : decode cX7_lawOf 9 = .ok (.getfield 56, 3) := by decide +kernel
theorem dX7_lawOf_12 : decode cX7_lawOf 12 = .ok (.invokevirtual 64, 3) := by decide +kernel
theorem dX7_lawOf_15 : decode cX7_lawOf 15 = .ok (.istore_n 2, 1) := by decide +kernel
theorem dX7_lawOf_16 : decode cX7_lawOf 16 = .ok (.iload_n 2, 1) := by decide +kernel
theorem dX7_lawOf_17 : decode cX7_lawOf 17 = .ok (.ifCond .ge 11, 3) := by decide +kernel
theorem dX7_lawOf_20 : decode cX7_lawOf 20 = .ok (.getstatic 67, 3) := by decide +kernel
theorem dX7_lawOf_23 : decode cX7_lawOf 23 = .ok (.iload_n 1, 1) := by decide +kernel
theorem dX7_lawOf_24 : decode cX7_lawOf 24 = .ok (.iaload, 1) := by decide +kernel
theorem dX7_lawOf_25 : decode cX7_lawOf 25 = .ok (.goto 12, 3) := by decide +kernel
theorem dX7_lawOf_28 : decode cX7_lawOf 28 = .ok (.aload_n 0, 1) := by decide +kernel
theorem dX7_lawOf_29 : decode cX7_lawOf 29 = .ok (.getfield 28, 3) := by decide +kernel
theorem dX7_lawOf_32 : decode cX7_lawOf 32 = .ok (.getfield 70, 3) := by decide +kernel
theorem dX7_lawOf_35 : decode cX7_lawOf 35 = .ok (.iload_n 2, 1) := by decide +kernel
theorem dX7_lawOf_36 : decode cX7_lawOf 36 = .ok (.iaload, 1) := by decide +kernel
theorem dX7_lawOf_37 : decode cX7_lawOf 37 = .ok (.ireturn, 1) := by decide +kernel
theorem dX7_meaningSet_0 : decode cX7_meaningSet 0 = .ok (.aload_n 0, 1) := by decide +kernel
theorem dX7_meaningSet_1 : decode cX7_meaningSet 1 = .ok (.getfield 28, 3) := by decide +kernel
theorem dX7_meaningSet_4 : decode cX7_meaningSet 4 = .ok (.bipush 8, 2) := by decide +kernel
theorem dX7_meaningSet_6 : decode cX7_meaningSet 6 = .ok (.iload_n 1, 1) := by decide +kernel
theorem dX7_meaningSet_7 : decode cX7_meaningSet 7 = .ok (.iadd, 1) := by decide +kernel
theorem dX7_meaningSet_8 : decode cX7_meaningSet 8 = .ok (.aload_n 0, 1) := by decide +kernel
theorem dX7_meaningSet_9 : decode cX7_meaningSet 9 = .ok (.getfield 12, 3) := by decide +kernel
theorem dX7_meaningSet_12 : decode cX7_meaningSet 12 = .ok (.getfield 56, 3) := by decide +kernel
theorem dX7_meaningSet_15 : decode cX7_meaningSet 15 = .ok (.invokevirtual 64, 3) := by decide +kernel
theorem dX7_meaningSet_18 : decode cX7_meaningSet 18 = .ok (.istore_n 2, 1) := by decide +kernel
theorem dX7_meaningSet_19 : decode cX7_meaningSet 19 = .ok (.iload_n 2, 1) := by decide +kernel
theorem dX7_meaningSet_20 : decode cX7_meaningSet 20 = .ok (.ifCond .ge 9, 3) := by decide +kernel
theorem dX7_meaningSet_23 : decode cX7_meaningSet 23 = .ok (.sipush 4095, 3) := by decide +kernel
theorem dX7_meaningSet_26 : decode cX7_meaningSet 26 = .ok (.goto 24, 3) := by decide +kernel
theorem dX7_meaningSet_29 : decode cX7_meaningSet 29 = .ok (.aload_n 0, 1) := by decide +kernel
theorem dX7_meaningSet_30 : decode cX7_meaningSet 30 = .ok (.getfield 28, 3) := by decide +kernel
theorem dX7_meaningSet_33 : decode cX7_meaningSet 33 = .ok (.getfield 70, 3) := by decide +kernel
theorem dX7_meaningSet_36 : decode cX7_meaningSet 36 = .ok (.iload_n 2, 1) := by decide +kernel
theorem dX7_meaningSet_37 : decode cX7_meaningSet 37 = .ok (.iaload, 1) := by decide +kernel
theorem dX7_meaningSet_38 : decode cX7_meaningSet 38 = .ok (.aload_n 0, 1) := by decide +kernel
theorem dX7_meaningSet_39 : decode cX7_meaningSet 39 = .ok (.getfield 28, 3) := by decide +kernel
theorem dX7_meaningSet_42 : decode cX7_meaningSet 42 = .ok (.getfield 73, 3) := by decide +kernel
theorem dX7_meaningSet_45 : decode cX7_meaningSet 45 = .ok (.iload_n 2, 1) := by decide +kernel
theorem dX7_meaningSet_46 : decode cX7_meaningSet 46 = .ok (.iaload, 1) := by decide +kernel
theorem dX7_meaningSet_47 : decode cX7_meaningSet 47 = .ok (.invokestatic 76, 3) := by decide +kernel
theorem dX7_meaningSet_50 : decode cX7_meaningSet 50 = .ok (.ireturn, 1) := by decide +kernel
theorem dX7_letSet_0 : decode cX7_letSet 0 = .ok (.aload_n 0, 1) := by decide +kernel
theorem dX7_letSet_1 : decode cX7_letSet 1 = .ok (.aload_n 0, 1) := by decide +kernel
theorem dX7_letSet_2 : decode cX7_letSet 2 = .ok (.getfield 21, 3) := by decide +kernel
theorem dX7_letSet_5 : decode cX7_letSet 5 = .ok (.getfield 79, 3) := by decide +kernel
theorem dX7_letSet_8 : decode cX7_letSet 8 = .ok (.iload_n 1, 1) := by decide +kernel
theorem dX7_letSet_9 : decode cX7_letSet 9 = .ok (.iaload, 1) := by decide +kernel
theorem dX7_letSet_10 : decode cX7_letSet 10 = .ok (.invokevirtual 82, 3) := by decide +kernel
theorem dX7_letSet_13 : decode cX7_letSet 13 = .ok (.istore_n 2, 1) := by decide +kernel
theorem dX7_letSet_14 : decode cX7_letSet 14 = .ok (.aload_n 0, 1) := by decide +kernel
theorem dX7_letSet_15 : decode cX7_letSet 15 = .ok (.getfield 21, 3) := by decide +kernel
theorem dX7_letSet_18 : decode cX7_letSet 18 = .ok (.getfield 86, 3) := by decide +kernel
theorem dX7_letSet_21 : decode cX7_letSet 21 = .ok (.iload_n 1, 1) := by decide +kernel
theorem dX7_letSet_22 : decode cX7_letSet 22 = .ok (.iaload, 1) := by decide +kernel
theorem dX7_letSet_23 : decode cX7_letSet 23 = .ok (.iconst 4, 1) := by decide +kernel
theorem dX7_letSet_24 : decode cX7_letSet 24 = .ok (.if_icmp .ne 30, 3) := by decide +kernel
theorem dX7_letSet_27 : decode cX7_letSet 27 = .ok (.iconst 0, 1) := by decide +kernel
theorem dX7_letSet_28 : decode cX7_letSet 28 = .ok (.istore_n 3, 1) := by decide +kernel
theorem dX7_letSet_29 : decode cX7_letSet 29 = .ok (.iload_n 3, 1) := by decide +kernel
theorem dX7_letSet_30 : decode cX7_letSet 30 = .ok (.aload_n 0, 1) := by decide +kernel
theorem dX7_letSet_31 : decode cX7_letSet 31 = .ok (.getfield 21, 3) := by decide +kernel
theorem dX7_letSet_34 : decode cX7_letSet 34 = .ok (.getfield 89, 3) := by decide +kernel
theorem dX7_letSet_37 : decode cX7_letSet 37 = .ok (.iload_n 1, 1) := by decide +kernel
theorem dX7_letSet_38 : decode cX7_letSet 38 = .ok (.iaload, 1) := by decide +kernel
theorem dX7_letSet_39 : decode cX7_letSet 39 = .ok (.if_icmp .ge 15, 3) := by decide +kernel
theorem dX7_letSet_42 : decode cX7_letSet 42 = .ok (.iload_n 2, 1) := by decide +kernel
theorem dX7_letSet_43 : decode cX7_letSet 43 = .ok (.iload_n 2, 1) := by decide +kernel
theorem dX7_letSet_44 : decode cX7_letSet 44 = .ok (.iconst 1, 1) := by decide +kernel
theorem dX7_letSet_45 : decode cX7_letSet 45 = .ok (.ishr, 1) := by decide +kernel
theorem dX7_letSet_46 : decode cX7_letSet 46 = .ok (.ior, 1) := by decide +kernel
theorem dX7_letSet_47 : decode cX7_letSet 47 = .ok (.istore_n 2, 1) := by decide +kernel
theorem dX7_letSet_48 : decode cX7_letSet 48 = .ok (.iinc 3 1, 3) := by decide +kernel
theorem dX7_letSet_51 : decode cX7_letSet 51 = .ok (.goto (-22), 3) := by decide +kernel
theorem dX7_letSet_54 : decode cX7_letSet 54 = .ok (.aload_n 0, 1) := by decide +kernel
theorem dX7_letSet_55 : decode cX7_letSet 55 = .ok (.getfield 21, 3) := by decide +kernel
theorem dX7_letSet_58 : decode cX7_letSet 58 = .ok (.iload_n 1, 1) := by decide +kernel
theorem dX7_letSet_59 : decode cX7_letSet 59 = .ok (.iconst 2, 1) := by decide +kernel
theorem dX7_letSet_60 : decode cX7_letSet 60 = .ok (.invokevirtual 92, 3) := by decide +kernel
theorem dX7_letSet_63 : decode cX7_letSet 63 = .ok (.ifCond .eq 13, 3) := by decide +kernel
theorem dX7_letSet_66 : decode cX7_letSet 66 = .ok (.iload_n 2, 1) := by decide +kernel
theorem dX7_letSet_67 : decode cX7_letSet 67 = .ok (.iload_n 2, 1) := by decide +kernel
theorem dX7_letSet_68 : decode cX7_letSet 68 = .ok (.iconst 1, 1) := by decide +kernel
theorem dX7_letSet_69 : decode cX7_letSet 69 = .ok (.ishr, 1) := by decide +kernel
theorem dX7_letSet_70 : decode cX7_letSet 70 = .ok (.iload_n 2, 1) := by decide +kernel
theorem dX7_letSet_71 : decode cX7_letSet 71 = .ok (.iconst 1, 1) := by decide +kernel
theorem dX7_letSet_72 : decode cX7_letSet 72 = .ok (.ishl, 1) := by decide +kernel
theorem dX7_letSet_73 : decode cX7_letSet 73 = .ok (.ior, 1) := by decide +kernel
theorem dX7_letSet_74 : decode cX7_letSet 74 = .ok (.ior, 1) := by decide +kernel
theorem dX7_letSet_75 : decode cX7_letSet 75 = .ok (.istore_n 2, 1) := by decide +kernel
theorem dX7_letSet_76 : decode cX7_letSet 76 = .ok (.iload_n 2, 1) := by decide +kernel
theorem dX7_letSet_77 : decode cX7_letSet 77 = .ok (.sipush 4095, 3) := by decide +kernel
theorem dX7_letSet_80 : decode cX7_letSet 80 = .ok (.iand, 1) := by decide +kernel
theorem dX7_letSet_81 : decode cX7_letSet 81 = .ok (.ireturn, 1) := by decide +kernel
theorem dX7_fillDays_0 : decode cX7_fillDays 0 = .ok (.iconst 0, 1) := by decide +kernel
theorem dX7_fillDays_1 : decode cX7_fillDays 1 = .ok (.istore_n 2, 1) := by decide +kernel
theorem dX7_fillDays_2 : decode cX7_fillDays 2 = .ok (.iconst 0, 1) := by decide +kernel
theorem dX7_fillDays_3 : decode cX7_fillDays 3 = .ok (.istore_n 3, 1) := by decide +kernel
theorem dX7_fillDays_4 : decode cX7_fillDays 4 = .ok (.iload_n 3, 1) := by decide +kernel
theorem dX7_fillDays_5 : decode cX7_fillDays 5 = .ok (.iconst 4, 1) := by decide +kernel
theorem dX7_fillDays_6 : decode cX7_fillDays 6 = .ok (.if_icmp .ge 39, 3) := by decide +kernel
theorem dX7_fillDays_9 : decode cX7_fillDays 9 = .ok (.aload_n 0, 1) := by decide +kernel
theorem dX7_fillDays_10 : decode cX7_fillDays 10 = .ok (.iload_n 1, 1) := by decide +kernel
theorem dX7_fillDays_11 : decode cX7_fillDays 11 = .ok (.iload_n 3, 1) := by decide +kernel
theorem dX7_fillDays_12 : decode cX7_fillDays 12 = .ok (.invokevirtual 96, 3) := by decide +kernel
theorem dX7_fillDays_15 : decode cX7_fillDays 15 = .ok (.ifCond .eq 24, 3) := by decide +kernel
theorem dX7_fillDays_18 : decode cX7_fillDays 18 = .ok (.aload_n 0, 1) := by decide +kernel
theorem dX7_fillDays_19 : decode cX7_fillDays 19 = .ok (.iload_n 2, 1) := by decide +kernel
theorem dX7_fillDays_20 : decode cX7_fillDays 20 = .ok (.aload_n 0, 1) := by decide +kernel
theorem dX7_fillDays_21 : decode cX7_fillDays 21 = .ok (.getfield 21, 3) := by decide +kernel
theorem dX7_fillDays_24 : decode cX7_fillDays 24 = .ok (.getfield 99, 3) := by decide +kernel
theorem dX7_fillDays_27 : decode cX7_fillDays 27 = .ok (.iload_n 1, 1) := by decide +kernel
theorem dX7_fillDays_28 : decode cX7_fillDays 28 = .ok (.iaload, 1) := by decide +kernel
theorem dX7_fillDays_29 : decode cX7_fillDays 29 = .ok (.aload_n 0, 1) := by decide +kernel
theorem dX7_fillDays_30 : decode cX7_fillDays 30 = .ok (.iload_n 3, 1) := by decide +kernel
theorem dX7_fillDays_31 : decode cX7_fillDays 31 = .ok (.invokevirtual 102, 3) := by decide +kernel
theorem dX7_fillDays_34 : decode cX7_fillDays 34 = .ok (.iadd, 1) := by decide +kernel
theorem dX7_fillDays_35 : decode cX7_fillDays 35 = .ok (.invokevirtual 105, 3) := by decide +kernel
theorem dX7_fillDays_38 : decode cX7_fillDays 38 = .ok (.istore_n 2, 1) := by decide +kernel
theorem dX7_fillDays_39 : decode cX7_fillDays 39 = .ok (.iinc 3 1, 3) := by decide +kernel
theorem dX7_fillDays_42 : decode cX7_fillDays 42 = .ok (.goto (-38), 3) := by decide +kernel
theorem dX7_fillDays_45 : decode cX7_fillDays 45 = .ok (.iload_n 2, 1) := by decide +kernel
theorem dX7_fillDays_46 : decode cX7_fillDays 46 = .ok (.ireturn, 1) := by decide +kernel
theorem dX7_canBeBy_0 : decode cX7_canBeBy 0 = .ok (.aload_n 0, 1) := by decide +kernel
theorem dX7_canBeBy_1 : decode cX7_canBeBy 1 = .ok (.getfield 21, 3) := by decide +kernel
theorem dX7_canBeBy_4 : decode cX7_canBeBy 4 = .ok (.getfield 108, 3) := by decide +kernel
theorem dX7_canBeBy_7 : decode cX7_canBeBy 7 = .ok (.iload_n 1, 1) := by decide +kernel
theorem dX7_canBeBy_8 : decode cX7_canBeBy 8 = .ok (.iaload, 1) := by decide +kernel
theorem dX7_canBeBy_9 : decode cX7_canBeBy 9 = .ok (.istore_n 3, 1) := by decide +kernel
theorem dX7_canBeBy_10 : decode cX7_canBeBy 10 = .ok (.iload_n 3, 1) := by decide +kernel
theorem dX7_canBeBy_11 : decode cX7_canBeBy 11 = .ok (.iconst 4, 1) := by decide +kernel
theorem dX7_canBeBy_12 : decode cX7_canBeBy 12 = .ok (.if_icmp .eq 8, 3) := by decide +kernel
theorem dX7_canBeBy_15 : decode cX7_canBeBy 15 = .ok (.iload_n 3, 1) := by decide +kernel
theorem dX7_canBeBy_16 : decode cX7_canBeBy 16 = .ok (.iload_n 2, 1) := by decide +kernel
theorem dX7_canBeBy_17 : decode cX7_canBeBy 17 = .ok (.if_icmp .ne 7, 3) := by decide +kernel
theorem dX7_canBeBy_20 : decode cX7_canBeBy 20 = .ok (.iconst 1, 1) := by decide +kernel
theorem dX7_canBeBy_21 : decode cX7_canBeBy 21 = .ok (.goto 4, 3) := by decide +kernel
theorem dX7_canBeBy_24 : decode cX7_canBeBy 24 = .ok (.iconst 0, 1) := by decide +kernel
theorem dX7_canBeBy_25 : decode cX7_canBeBy 25 = .ok (.ireturn, 1) := by decide +kernel
theorem dX7_putDay_0 : decode cX7_putDay 0 = .ok (.iconst 0, 1) := by decide +kernel
theorem dX7_putDay_1 : decode cX7_putDay 1 = .ok (.istore_n 3, 1) := by decide +kernel
theorem dX7_putDay_2 : decode cX7_putDay 2 = .ok (.iload_n 3, 1) := by decide +kernel
theorem dX7_putDay_3 : decode cX7_putDay 3 = .ok (.iload_n 1, 1) := by decide +kernel
theorem dX7_putDay_4 : decode cX7_putDay 4 = .ok (.if_icmp .ge 19, 3) := by decide +kernel
theorem dX7_putDay_7 : decode cX7_putDay 7 = .ok (.aload_n 0, 1) := by decide +kernel
theorem dX7_putDay_8 : decode cX7_putDay 8 = .ok (.getfield 39, 3) := by decide +kernel
theorem dX7_putDay_11 : decode cX7_putDay 11 = .ok (.iload_n 3, 1) := by decide +kernel
theorem dX7_putDay_12 : decode cX7_putDay 12 = .ok (.iaload, 1) := by decide +kernel
theorem dX7_putDay_13 : decode cX7_putDay 13 = .ok (.iload_n 2, 1) := by decide +kernel
theorem dX7_putDay_14 : decode cX7_putDay 14 = .ok (.if_icmp .ge 9, 3) := by decide +kernel
theorem dX7_putDay_17 : decode cX7_putDay 17 = .ok (.iinc 3 1, 3) := by decide +kernel
theorem dX7_putDay_20 : decode cX7_putDay 20 = .ok (.goto (-18), 3) := by decide +kernel
theorem dX7_putDay_23 : decode cX7_putDay 23 = .ok (.iload_n 3, 1) := by decide +kernel
theorem dX7_putDay_24 : decode cX7_putDay 24 = .ok (.iload_n 1, 1) := by decide +kernel
theorem dX7_putDay_25 : decode cX7_putDay 25 = .ok (.if_icmp .ge 15, 3) := by decide +kernel
theorem dX7_putDay_28 : decode cX7_putDay 28 = .ok (.aload_n 0, 1) := by decide +kernel
theorem dX7_putDay_29 : decode cX7_putDay 29 = .ok (.getfield 39, 3) := by decide +kernel
theorem dX7_putDay_32 : decode cX7_putDay 32 = .ok (.iload_n 3, 1) := by decide +kernel
theorem dX7_putDay_33 : decode cX7_putDay 33 = .ok (.iaload, 1) := by decide +kernel
theorem dX7_putDay_34 : decode cX7_putDay 34 = .ok (.iload_n 2, 1) := by decide +kernel
theorem dX7_putDay_35 : decode cX7_putDay 35 = .ok (.if_icmp .ne 5, 3) := by decide +kernel
theorem dX7_putDay_38 : decode cX7_putDay 38 = .ok (.iload_n 1, 1) := by decide +kernel
theorem dX7_putDay_39 : decode cX7_putDay 39 = .ok (.ireturn, 1) := by decide +kernel
theorem dX7_putDay_40 : decode cX7_putDay 40 = .ok (.iload_n 1, 1) := by decide +kernel
theorem dX7_putDay_41 : decode cX7_putDay 41 = .ok (.istore 4, 2) := by decide +kernel
theorem dX7_putDay_43 : decode cX7_putDay 43 = .ok (.iload 4, 2) := by decide +kernel
theorem dX7_putDay_45 : decode cX7_putDay 45 = .ok (.iload_n 3, 1) := by decide +kernel
theorem dX7_putDay_46 : decode cX7_putDay 46 = .ok (.if_icmp .le 25, 3) := by decide +kernel
theorem dX7_putDay_49 : decode cX7_putDay 49 = .ok (.aload_n 0, 1) := by decide +kernel
theorem dX7_putDay_50 : decode cX7_putDay 50 = .ok (.getfield 39, 3) := by decide +kernel
theorem dX7_putDay_53 : decode cX7_putDay 53 = .ok (.iload 4, 2) := by decide +kernel
theorem dX7_putDay_55 : decode cX7_putDay 55 = .ok (.aload_n 0, 1) := by decide +kernel
theorem dX7_putDay_56 : decode cX7_putDay 56 = .ok (.getfield 39, 3) := by decide +kernel
theorem dX7_putDay_59 : decode cX7_putDay 59 = .ok (.iload 4, 2) := by decide +kernel
theorem dX7_putDay_61 : decode cX7_putDay 61 = .ok (.iconst 1, 1) := by decide +kernel
theorem dX7_putDay_62 : decode cX7_putDay 62 = .ok (.isub, 1) := by decide +kernel
theorem dX7_putDay_63 : decode cX7_putDay 63 = .ok (.iaload, 1) := by decide +kernel
theorem dX7_putDay_64 : decode cX7_putDay 64 = .ok (.iastore, 1) := by decide +kernel
theorem dX7_putDay_65 : decode cX7_putDay 65 = .ok (.iinc 4 (-1), 3) := by decide +kernel
theorem dX7_putDay_68 : decode cX7_putDay 68 = .ok (.goto (-25), 3) := by decide +kernel
theorem dX7_putDay_71 : decode cX7_putDay 71 = .ok (.aload_n 0, 1) := by decide +kernel
theorem dX7_putDay_72 : decode cX7_putDay 72 = .ok (.getfield 39, 3) := by decide +kernel
theorem dX7_putDay_75 : decode cX7_putDay 75 = .ok (.iload_n 3, 1) := by decide +kernel
theorem dX7_putDay_76 : decode cX7_putDay 76 = .ok (.iload_n 2, 1) := by decide +kernel
theorem dX7_putDay_77 : decode cX7_putDay 77 = .ok (.iastore, 1) := by decide +kernel
theorem dX7_putDay_78 : decode cX7_putDay 78 = .ok (.iload_n 1, 1) := by decide +kernel
theorem dX7_putDay_79 : decode cX7_putDay 79 = .ok (.iconst 1, 1) := by decide +kernel
theorem dX7_putDay_80 : decode cX7_putDay 80 = .ok (.iadd, 1) := by decide +kernel
theorem dX7_putDay_81 : decode cX7_putDay 81 = .ok (.ireturn, 1) := by decide +kernel
theorem dX7_sameDaySet_0 : decode cX7_sameDaySet 0 = .ok (.aload_n 0, 1) := by decide +kernel
theorem dX7_sameDaySet_1 : decode cX7_sameDaySet 1 = .ok (.iconst (-1), 1) := by decide +kernel
theorem dX7_sameDaySet_2 : decode cX7_sameDaySet 2 = .ok (.invokevirtual 111, 3) := by decide +kernel
theorem dX7_sameDaySet_5 : decode cX7_sameDaySet 5 = .ok (.istore_n 2, 1) := by decide +kernel
theorem dX7_sameDaySet_6 : decode cX7_sameDaySet 6 = .ok (.aload_n 0, 1) := by decide +kernel
theorem dX7_sameDaySet_7 : decode cX7_sameDaySet 7 = .ok (.iload_n 1, 1) := by decide +kernel
theorem dX7_sameDaySet_8 : decode cX7_sameDaySet 8 = .ok (.invokevirtual 113, 3) := by decide +kernel
theorem dX7_sameDaySet_11 : decode cX7_sameDaySet 11 = .ok (.istore_n 3, 1) := by decide +kernel
theorem dX7_sameDaySet_12 : decode cX7_sameDaySet 12 = .ok (.iconst 0, 1) := by decide +kernel
theorem dX7_sameDaySet_13 : decode cX7_sameDaySet 13 = .ok (.istore 4, 2) := by decide +kernel
theorem dX7_sameDaySet_15 : decode cX7_sameDaySet 15 = .ok (.iconst 0, 1) := by decide +kernel
theorem dX7_sameDaySet_16 : decode cX7_sameDaySet 16 = .ok (.istore 5, 2) := by decide +kernel
theorem dX7_sameDaySet_18 : decode cX7_sameDaySet 18 = .ok (.iload 5, 2) := by decide +kernel
theorem dX7_sameDaySet_20 : decode cX7_sameDaySet 20 = .ok (.iconst 4, 1) := by decide +kernel
theorem dX7_sameDaySet_21 : decode cX7_sameDaySet 21 = .ok (.if_icmp .ge 79, 3) := by decide +kernel
theorem dX7_sameDaySet_24 : decode cX7_sameDaySet 24 = .ok (.aload_n 0, 1) := by decide +kernel
theorem dX7_sameDaySet_25 : decode cX7_sameDaySet 25 = .ok (.iload 5, 2) := by decide +kernel
theorem dX7_sameDaySet_27 : decode cX7_sameDaySet 27 = .ok (.invokevirtual 102, 3) := by decide +kernel
theorem dX7_sameDaySet_30 : decode cX7_sameDaySet 30 = .ok (.istore 6, 2) := by decide +kernel
theorem dX7_sameDaySet_32 : decode cX7_sameDaySet 32 = .ok (.iconst 0, 1) := by decide +kernel
theorem dX7_sameDaySet_33 : decode cX7_sameDaySet 33 = .ok (.istore 7, 2) := by decide +kernel
theorem dX7_sameDaySet_35 : decode cX7_sameDaySet 35 = .ok (.iload 7, 2) := by decide +kernel
theorem dX7_sameDaySet_37 : decode cX7_sameDaySet 37 = .ok (.aload_n 0, 1) := by decide +kernel
theorem dX7_sameDaySet_38 : decode cX7_sameDaySet 38 = .ok (.getfield 21, 3) := by decide +kernel
theorem dX7_sameDaySet_41 : decode cX7_sameDaySet 41 = .ok (.getfield 116, 3) := by decide +kernel
theorem dX7_sameDaySet_44 : decode cX7_sameDaySet 44 = .ok (.if_icmp .ge 50, 3) := by decide +kernel
theorem dX7_sameDaySet_47 : decode cX7_sameDaySet 47 = .ok (.aload_n 0, 1) := by decide +kernel
theorem dX7_sameDaySet_48 : decode cX7_sameDaySet 48 = .ok (.iload 7, 2) := by decide +kernel
theorem dX7_sameDaySet_50 : decode cX7_sameDaySet 50 = .ok (.iload 5, 2) := by decide +kernel
theorem dX7_sameDaySet_52 : decode cX7_sameDaySet 52 = .ok (.invokevirtual 96, 3) := by decide +kernel
theorem dX7_sameDaySet_55 : decode cX7_sameDaySet 55 = .ok (.ifCond .eq 33, 3) := by decide +kernel
theorem dX7_sameDaySet_58 : decode cX7_sameDaySet 58 = .ok (.aload_n 0, 1) := by decide +kernel
theorem dX7_sameDaySet_59 : decode cX7_sameDaySet 59 = .ok (.iload_n 3, 1) := by decide +kernel
theorem dX7_sameDaySet_60 : decode cX7_sameDaySet 60 = .ok (.aload_n 0, 1) := by decide +kernel
theorem dX7_sameDaySet_61 : decode cX7_sameDaySet 61 = .ok (.getfield 21, 3) := by decide +kernel
theorem dX7_sameDaySet_64 : decode cX7_sameDaySet 64 = .ok (.getfield 99, 3) := by decide +kernel
theorem dX7_sameDaySet_67 : decode cX7_sameDaySet 67 = .ok (.iload 7, 2) := by decide +kernel
theorem dX7_sameDaySet_69 : decode cX7_sameDaySet 69 = .ok (.iaload, 1) := by decide +kernel
theorem dX7_sameDaySet_70 : decode cX7_sameDaySet 70 = .ok (.iload 6, 2) := by decide +kernel
theorem dX7_sameDaySet_72 : decode cX7_sameDaySet 72 = .ok (.iadd, 1) := by decide +kernel
theorem dX7_sameDaySet_73 : decode cX7_sameDaySet 73 = .ok (.invokevirtual 119, 3) := by decide +kernel
theorem dX7_sameDaySet_76 : decode cX7_sameDaySet 76 = .ok (.ifCond .eq 12, 3) := by decide +kernel
theorem dX7_sameDaySet_79 : decode cX7_sameDaySet 79 = .ok (.iload 4, 2) := by decide +kernel
theorem dX7_sameDaySet_81 : decode cX7_sameDaySet 81 = .ok (.iconst 1, 1) := by decide +kernel
theorem dX7_sameDaySet_82 : decode cX7_sameDaySet 82 = .ok (.iload 7, 2) := by decide +kernel
theorem dX7_sameDaySet_84 : decode cX7_sameDaySet 84 = .ok (.ishl, 1) := by decide +kernel
theorem dX7_sameDaySet_85 : decode cX7_sameDaySet 85 = .ok (.ior, 1) := by decide +kernel
theorem dX7_sameDaySet_86 : decode cX7_sameDaySet 86 = .ok (.istore 4, 2) := by decide +kernel
theorem dX7_sameDaySet_88 : decode cX7_sameDaySet 88 = .ok (.iinc 7 1, 3) := by decide +kernel
theorem dX7_sameDaySet_91 : decode cX7_sameDaySet 91 = .ok (.goto (-56), 3) := by decide +kernel
theorem dX7_sameDaySet_94 : decode cX7_sameDaySet 94 = .ok (.iinc 5 1, 3) := by decide +kernel
theorem dX7_sameDaySet_97 : decode cX7_sameDaySet 97 = .ok (.goto (-79), 3) := by decide +kernel
theorem dX7_sameDaySet_100 : decode cX7_sameDaySet 100 = .ok (.iload 4, 2) := by decide +kernel
theorem dX7_sameDaySet_102 : decode cX7_sameDaySet 102 = .ok (.iload_n 2, 1) := by decide +kernel
theorem dX7_sameDaySet_103 : decode cX7_sameDaySet 103 = .ok (.iand, 1) := by decide +kernel
theorem dX7_sameDaySet_104 : decode cX7_sameDaySet 104 = .ok (.ireturn, 1) := by decide +kernel
theorem dX7_hasDay_0 : decode cX7_hasDay 0 = .ok (.iconst 0, 1) := by decide +kernel
theorem dX7_hasDay_1 : decode cX7_hasDay 1 = .ok (.istore_n 3, 1) := by decide +kernel
theorem dX7_hasDay_2 : decode cX7_hasDay 2 = .ok (.iload_n 3, 1) := by decide +kernel
theorem dX7_hasDay_3 : decode cX7_hasDay 3 = .ok (.iload_n 1, 1) := by decide +kernel
theorem dX7_hasDay_4 : decode cX7_hasDay 4 = .ok (.if_icmp .ge 21, 3) := by decide +kernel
theorem dX7_hasDay_7 : decode cX7_hasDay 7 = .ok (.aload_n 0, 1) := by decide +kernel
theorem dX7_hasDay_8 : decode cX7_hasDay 8 = .ok (.getfield 39, 3) := by decide +kernel
theorem dX7_hasDay_11 : decode cX7_hasDay 11 = .ok (.iload_n 3, 1) := by decide +kernel
theorem dX7_hasDay_12 : decode cX7_hasDay 12 = .ok (.iaload, 1) := by decide +kernel
theorem dX7_hasDay_13 : decode cX7_hasDay 13 = .ok (.iload_n 2, 1) := by decide +kernel
theorem dX7_hasDay_14 : decode cX7_hasDay 14 = .ok (.if_icmp .ne 5, 3) := by decide +kernel
theorem dX7_hasDay_17 : decode cX7_hasDay 17 = .ok (.iconst 1, 1) := by decide +kernel
theorem dX7_hasDay_18 : decode cX7_hasDay 18 = .ok (.ireturn, 1) := by decide +kernel
theorem dX7_hasDay_19 : decode cX7_hasDay 19 = .ok (.iinc 3 1, 3) := by decide +kernel
theorem dX7_hasDay_22 : decode cX7_hasDay 22 = .ok (.goto (-20), 3) := by decide +kernel
theorem dX7_hasDay_25 : decode cX7_hasDay 25 = .ok (.iconst 0, 1) := by decide +kernel
theorem dX7_hasDay_26 : decode cX7_hasDay 26 = .ok (.ireturn, 1) := by decide +kernel
theorem dX8_ground_0 : decode cX8_ground 0 = .ok (.iload_n 1, 1) := by decide +kernel
theorem dX8_ground_1 : decode cX8_ground 1 = .ok (.sipush 144, 3) := by decide +kernel
theorem dX8_ground_4 : decode cX8_ground 4 = .ok (.invokestatic 48, 3) := by decide +kernel
theorem dX8_ground_7 : decode cX8_ground 7 = .ok (.ifCond .eq 11, 3) := by decide +kernel
theorem dX8_ground_10 : decode cX8_ground 10 = .ok (.iload_n 2, 1) := by decide +kernel
theorem dX8_ground_11 : decode cX8_ground 11 = .ok (.iconst 3, 1) := by decide +kernel
theorem dX8_ground_12 : decode cX8_ground 12 = .ok (.invokestatic 48, 3) := by decide +kernel
theorem dX8_ground_15 : decode cX8_ground 15 = .ok (.ifCond .ne 10, 3) := by decide +kernel
theorem dX8_ground_18 : decode cX8_ground 18 = .ok (.aload_n 0, 1) := by decide +kernel
theorem dX8_ground_19 : decode cX8_ground 19 = .ok (.ldc 52, 2) := by decide +kernel
theorem dX8_ground_21 : decode cX8_ground 21 = .ok (.invokevirtual 53, 3) := by decide +kernel
theorem dX8_ground_24 : decode cX8_ground 24 = .ok (.ireturn, 1) := by decide +kernel
theorem dX8_ground_25 : decode cX8_ground 25 = .ok (.aload_n 0, 1) := by decide +kernel
theorem dX8_ground_26 : decode cX8_ground 26 = .ok (.getfield 12, 3) := by decide +kernel
theorem dX8_ground_29 : decode cX8_ground 29 = .ok (.getfield 57, 3) := by decide +kernel
theorem dX8_ground_32 : decode cX8_ground 32 = .ok (.getfield 61, 3) := by decide +kernel
theorem dX8_ground_35 : decode cX8_ground 35 = .ok (.iload_n 1, 1) := by decide +kernel
theorem dX8_ground_36 : decode cX8_ground 36 = .ok (.iaload, 1) := by decide +kernel
theorem dX8_ground_37 : decode cX8_ground 37 = .ok (.istore_n 3, 1) := by decide +kernel
theorem dX8_ground_38 : decode cX8_ground 38 = .ok (.aload_n 0, 1) := by decide +kernel
theorem dX8_ground_39 : decode cX8_ground 39 = .ok (.getfield 12, 3) := by decide +kernel
theorem dX8_ground_42 : decode cX8_ground 42 = .ok (.getfield 57, 3) := by decide +kernel
theorem dX8_ground_45 : decode cX8_ground 45 = .ok (.getfield 61, 3) := by decide +kernel
theorem dX8_ground_48 : decode cX8_ground 48 = .ok (.iload_n 1, 1) := by decide +kernel
theorem dX8_ground_49 : decode cX8_ground 49 = .ok (.iload_n 2, 1) := by decide +kernel
theorem dX8_ground_50 : decode cX8_ground 50 = .ok (.iastore, 1) := by decide +kernel
theorem dX8_ground_51 : decode cX8_ground 51 = .ok (.iload_n 3, 1) := by decide +kernel
theorem dX8_ground_52 : decode cX8_ground 52 = .ok (.ireturn, 1) := by decide +kernel
theorem dX8_town_0 : decode cX8_town 0 = .ok (.iload_n 1, 1) := by decide +kernel
theorem dX8_town_1 : decode cX8_town 1 = .ok (.sipush 144, 3) := by decide +kernel
theorem dX8_town_4 : decode cX8_town 4 = .ok (.invokestatic 48, 3) := by decide +kernel
theorem dX8_town_7 : decode cX8_town 7 = .ok (.ifCond .ne 10, 3) := by decide +kernel
theorem dX8_town_10 : decode cX8_town 10 = .ok (.aload_n 0, 1) := by decide +kernel
theorem dX8_town_11 : decode cX8_town 11 = .ok (.ldc 52, 2) := by decide +kernel
theorem dX8_town_13 : decode cX8_town 13 = .ok (.invokevirtual 53, 3) := by decide +kernel
theorem dX8_town_16 : decode cX8_town 16 = .ok (.ireturn, 1) := by decide +kernel
theorem dX8_town_17 : decode cX8_town 17 = .ok (.aload_n 0, 1) := by decide +kernel
theorem dX8_town_18 : decode cX8_town 18 = .ok (.getfield 12, 3) := by decide +kernel
theorem dX8_town_21 : decode cX8_town 21 = .ok (.getfield 57, 3) := by decide +kernel
theorem dX8_town_24 : decode cX8_town 24 = .ok (.getfield 66, 3) := by decide +kernel
theorem dX8_town_27 : decode cX8_town 27 = .ok (.bipush 16, 2) := by decide +kernel
theorem dX8_town_29 : decode cX8_town 29 = .ok (.if_icmp .lt 10, 3) := by decide +kernel
theorem dX8_town_32 : decode cX8_town 32 = .ok (.aload_n 0, 1) := by decide +kernel
theorem dX8_town_33 : decode cX8_town 33 = .ok (.ldc 70, 2) := by decide +kernel
theorem dX8_town_35 : decode cX8_town 35 = .ok (.invokevirtual 53, 3) := by decide +kernel
theorem dX8_town_38 : decode cX8_town 38 = .ok (.ireturn, 1) := by decide +kernel
theorem dX8_town_39 : decode cX8_town 39 = .ok (.aload_n 0, 1) := by decide +kernel
theorem dX8_town_40 : decode cX8_town 40 = .ok (.getfield 12, 3) := by decide +kernel
theorem dX8_town_43 : decode cX8_town 43 = .ok (.getfield 57, 3) := by decide +kernel
theorem dX8_town_46 : decode cX8_town 46 = .ok (.iload_n 1, 1) := by decide +kernel
theorem dX8_town_47 : decode cX8_town 47 = .ok (.invokevirtual 71, 3) := by decide +kernel
theorem dX8_town_50 : decode cX8_town 50 = .ok (.ireturn, 1) := by decide +kernel
theorem dX8_houses_0 : decode cX8_houses 0 = .ok (.aload_n 0, 1) := by decide +kernel
theorem dX8_houses_1 : decode cX8_houses 1 = .ok (.iload_n 1, 1) := by decide +kernel
theorem dX8_houses_2 : decode cX8_houses 2 = .ok (.invokevirtual 74, 3) := by decide +kernel
theorem dX8_houses_5 : decode cX8_houses 5 = .ok (.ifCond .eq 22, 3) := by decide +kernel
theorem dX8_houses_8 : decode cX8_houses 8 = .ok (.iload_n 2, 1) := by decide +kernel
theorem dX8_houses_9 : decode cX8_houses 9 = .ok (.bipush 6, 2) := by decide +kernel
theorem dX8_houses_11 : decode cX8_houses 11 = .ok (.invokestatic 48, 3) := by decide +kernel
theorem dX8_houses_14 : decode cX8_houses 14 = .ok (.ifCond .eq 13, 3) := by decide +kernel
theorem dX8_houses_17 : decode cX8_houses 17 = .ok (.iload_n 3, 1) := by decide +kernel
theorem dX8_houses_18 : decode cX8_houses 18 = .ok (.sipush 10000, 3) := by decide +kernel
theorem dX8_houses_21 : decode cX8_houses 21 = .ok (.invokestatic 48, 3) := by decide +kernel
theorem dX8_houses_24 : decode cX8_houses 24 = .ok (.ifCond .ne 10, 3) := by decide +kernel
theorem dX8_houses_27 : decode cX8_houses 27 = .ok (.aload_n 0, 1) := by decide +kernel
theorem dX8_houses_28 : decode cX8_houses 28 = .ok (.ldc 52, 2) := by decide +kernel
theorem dX8_houses_30 : decode cX8_houses 30 = .ok (.invokevirtual 53, 3) := by decide +kernel
theorem dX8_houses_33 : decode cX8_houses 33 = .ok (.ireturn, 1) := by decide +kernel
theorem dX8_houses_34 : decode cX8_houses 34 = .ok (.aload_n 0, 1) := by decide +kernel
theorem dX8_houses_35 : decode cX8_houses 35 = .ok (.getfield 12, 3) := by decide +kernel
theorem dX8_houses_38 : decode cX8_houses 38 = .ok (.getfield 57, 3) := by decide +kernel
theorem dX8_houses_41 : decode cX8_houses 41 = .ok (.iload_n 1, 1) := by decide +kernel
theorem dX8_houses_42 : decode cX8_houses 42 = .ok (.iload_n 2, 1) := by decide +kernel
theorem dX8_houses_43 : decode cX8_houses 43 = .ok (.iload_n 3, 1) := by decide +kernel
theorem dX8_houses_44 : decode cX8_houses 44 = .ok (.invokevirtual 78, 3) := by decide +kernel
theorem dX8_houses_47 : decode cX8_houses 47 = .ok (.ireturn, 1) := by decide +kernel
theorem dX8_built_0 : decode cX8_built 0 = .ok (.aload_n 0, 1) := by decide +kernel
theorem dX8_built_1 : decode cX8_built 1 = .ok (.iload_n 1, 1) := by decide +kernel
theorem dX8_built_2 : decode cX8_built 2 = .ok (.invokevirtual 74, 3) := by decide +kernel
theorem dX8_built_5 : decode cX8_built 5 = .ok (.ifCond .eq 11, 3) := by decide +kernel
theorem dX8_built_8 : decode cX8_built 8 = .ok (.iload_n 2, 1) := by decide +kernel
theorem dX8_built_9 : decode cX8_built 9 = .ok (.iconst 4, 1) := by decide +kernel
theorem dX8_built_10 : decode cX8_built 10 = .ok (.invokestatic 48, 3) := by decide +kernel
theorem dX8_built_13 : decode cX8_built 13 = .ok (.ifCond .ne 10, 3) := by decide +kernel
theorem dX8_built_16 : decode cX8_built 16 = .ok (.aload_n 0, 1) := by decide +kernel
theorem dX8_built_17 : decode cX8_built 17 = .ok (.ldc 52, 2) := by decide +kernel
theorem dX8_built_19 : decode cX8_built 19 = .ok (.invokevirtual 53, 3) := by decide +kernel
theorem dX8_built_22 : decode cX8_built 22 = .ok (.ireturn, 1) := by decide +kernel
theorem dX8_built_23 : decode cX8_built 23 = .ok (.aload_n 0, 1) := by decide +kernel
theorem dX8_built_24 : decode cX8_built 24 = .ok (.getfield 33, 3) := by decide +kernel
theorem dX8_built_27 : decode cX8_built 27 = .ok (.iload_n 2, 1) := by decide +kernel
theorem dX8_built_28 : decode cX8_built 28 = .ok (.invokevirtual 82, 3) := by decide +kernel
theorem dX8_built_31 : decode cX8_built 31 = .ok (.ifCond .eq 10, 3) := by decide +kernel
theorem dX8_built_34 : decode cX8_built 34 = .ok (.aload_n 0, 1) := by decide +kernel
theorem dX8_built_35 : decode cX8_built 35 = .ok (.ldc 85, 2) := by decide +kernel
theorem dX8_built_37 : decode cX8_built 37 = .ok (.invokevirtual 53, 3) := by decide +kernel
theorem dX8_built_40 : decode cX8_built 40 = .ok (.ireturn, 1) := by decide +kernel
theorem dX8_built_41 : decode cX8_built 41 = .ok (.aload_n 0, 1) := by decide +kernel
theorem dX8_built_42 : decode cX8_built 42 = .ok (.getfield 33, 3) := by decide +kernel
theorem dX8_built_45 : decode cX8_built 45 = .ok (.getfield 86, 3) := by decide +kernel
theorem dX8_built_48 : decode cX8_built 48 = .ok (.iload_n 2, 1) := by decide +kernel
theorem dX8_built_49 : decode cX8_built 49 = .ok (.iaload, 1) := by decide +kernel
theorem dX8_built_50 : decode cX8_built 50 = .ok (.iconst 3, 1) := by decide +kernel
theorem dX8_built_51 : decode cX8_built 51 = .ok (.if_icmp .eq 10, 3) := by decide +kernel
theorem dX8_built_54 : decode cX8_built 54 = .ok (.aload_n 0, 1) := by decide +kernel
theorem dX8_built_55 : decode cX8_built 55 = .ok (.ldc 89, 2) := by decide +kernel
theorem dX8_built_57 : decode cX8_built 57 = .ok (.invokevirtual 53, 3) := by decide +kernel
theorem dX8_built_60 : decode cX8_built 60 = .ok (.ireturn, 1) := by decide +kernel
theorem dX8_built_61 : decode cX8_built 61 = .ok (.aload_n 0, 1) := by decide +kernel
theorem dX8_built_62 : decode cX8_built 62 = .ok (.getfield 33, 3) := by decide +kernel
theorem dX8_built_65 : decode cX8_built 65 = .ok (.iload_n 2, 1) := by decide +kernel
theorem dX8_built_66 : decode cX8_built 66 = .ok (.sipush 10000, 3) := by decide +kernel
theorem dX8_built_69 : decode cX8_built 69 = .ok (.invokevirtual 90, 3) := by decide +kernel
theorem dX8_built_72 : decode cX8_built 72 = .ok (.ifCond .ne 10, 3) := by decide +kernel
theorem dX8_built_75 : decode cX8_built 75 = .ok (.aload_n 0, 1) := by decide +kernel
theorem dX8_built_76 : decode cX8_built 76 = .ok (.ldc 52, 2) := by decide +kernel
theorem dX8_built_78 : decode cX8_built 78 = .ok (.invokevirtual 53, 3) := by decide +kernel
theorem dX8_built_81 : decode cX8_built 81 = .ok (.ireturn, 1) := by decide +kernel
theorem dX8_built_82 : decode cX8_built 82 = .ok (.iconst 0, 1) := by decide +kernel
theorem dX8_built_83 : decode cX8_built 83 = .ok (.istore_n 3, 1) := by decide +kernel
theorem dX8_built_84 : decode cX8_built 84 = .ok (.iconst 0, 1) := by decide +kernel
theorem dX8_built_85 : decode cX8_built 85 = .ok (.istore 4, 2) := by decide +kernel
theorem dX8_built_87 : decode cX8_built 87 = .ok (.iload 4, 2) := by decide +kernel
theorem dX8_built_89 : decode cX8_built 89 = .ok (.iconst 3, 1) := by decide +kernel
theorem dX8_built_90 : decode cX8_built 90 = .ok (.if_icmp .ge 47, 3) := by decide +kernel
theorem dX8_built_93 : decode cX8_built 93 = .ok (.aload_n 0, 1) := by decide +kernel
theorem dX8_built_94 : decode cX8_built 94 = .ok (.getfield 33, 3) := by decide +kernel
theorem dX8_built_97 : decode cX8_built 97 = .ok (.iload_n 2, 1) := by decide +kernel
theorem dX8_built_98 : decode cX8_built 98 = .ok (.iload 4, 2) := by decide +kernel
theorem dX8_built_100 : decode cX8_built 100 = .ok (.invokevirtual 93, 3) := by decide +kernel
theorem dX8_built_103 : decode cX8_built 103 = .ok (.l2i, 1) := by decide +kernel
theorem dX8_built_104 : decode cX8_built 104 = .ok (.istore 5, 2) := by decide +kernel
theorem dX8_built_106 : decode cX8_built 106 = .ok (.aload_n 0, 1) := by decide +kernel
theorem dX8_built_107 : decode cX8_built 107 = .ok (.getfield 12, 3) := by decide +kernel
theorem dX8_built_110 : decode cX8_built 110 = .ok (.getfield 57, 3) := by decide +kernel
theorem dX8_built_113 : decode cX8_built 113 = .ok (.iload_n 1, 1) := by decide +kernel
theorem dX8_built_114 : decode cX8_built 114 = .ok (.iconst 3, 1) := by decide +kernel
theorem dX8_built_115 : decode cX8_built 115 = .ok (.iload 4, 2) := by decide +kernel
theorem dX8_built_117 : decode cX8_built 117 = .ok (.iadd, 1) := by decide +kernel
theorem dX8_built_118 : decode cX8_built 118 = .ok (.iload 5, 2) := by decide +kernel
theorem dX8_built_120 : decode cX8_built 120 = .ok (.invokevirtual 78, 3) := by decide +kernel
theorem dX8_built_123 : decode cX8_built 123 = .ok (.iload 5, 2) := by decide +kernel
theorem dX8_built_125 : decode cX8_built 125 = .ok (.if_icmp .eq 6, 3) := by decide +kernel
theorem dX8_built_128 : decode cX8_built 128 = .ok (.iinc 3 1, 3) := by decide +kernel
theorem dX8_built_131 : decode cX8_built 131 = .ok (.iinc 4 1, 3) := by decide +kernel
theorem dX8_built_134 : decode cX8_built 134 = .ok (.goto (-47), 3) := by decide +kernel
theorem dX8_built_137 : decode cX8_built 137 = .ok (.iload_n 3, 1) := by decide +kernel
theorem dX8_built_138 : decode cX8_built 138 = .ok (.ireturn, 1) := by decide +kernel
theorem dX8_of_0 : decode cX8_of 0 = .ok (.aload_n 0, 1) := by decide +kernel
theorem dX8_of_1 : decode cX8_of 1 = .ok (.iload_n 1, 1) := by decide +kernel
theorem dX8_of_2 : decode cX8_of 2 = .ok (.invokevirtual 74, 3) := by decide +kernel
theorem dX8_of_5 : decode cX8_of 5 = .ok (.ifCond .ne 10, 3) := by decide +kernel
theorem dX8_of_8 : decode cX8_of 8 = .ok (.aload_n 0, 1) := by decide +kernel
theorem dX8_of_9 : decode cX8_of 9 = .ok (.ldc 52, 2) := by decide +kernel
theorem dX8_of_11 : decode cX8_of 11 = .ok (.invokevirtual 53, 3) := by decide +kernel
theorem dX8_of_14 : decode cX8_of 14 = .ok (.ireturn, 1) := by decide +kernel
theorem dX8_of_15 : decode cX8_of 15 = .ok (.iload_n 2, 1) := by decide +kernel
theorem dX8_of_16 : decode cX8_of 16 = .ok (.tableswitch 117 0 4 #[36, 49, 71, 91, 104], 36) := by decide +kernel
theorem dX8_of_52 : decode cX8_of 52 = .ok (.aload_n 0, 1) := by decide +kernel
theorem dX8_of_53 : decode cX8_of 53 = .ok (.getfield 12, 3) := by decide +kernel
theorem dX8_of_56 : decode cX8_of 56 = .ok (.getfield 57, 3) := by decide +kernel
theorem dX8_of_59 : decode cX8_of 59 = .ok (.getfield 97, 3) := by decide +kernel
theorem dX8_of_62 : decode cX8_of 62 = .ok (.iload_n 1, 1) := by decide +kernel
theorem dX8_of_63 : decode cX8_of 63 = .ok (.iaload, 1) := by decide +kernel
theorem dX8_of_64 : decode cX8_of 64 = .ok (.ireturn, 1) := by decide +kernel
theorem dX8_of_65 : decode cX8_of 65 = .ok (.aload_n 0, 1) := by decide +kernel
theorem dX8_of_66 : decode cX8_of 66 = .ok (.getfield 12, 3) := by decide +kernel
theorem dX8_of_69 : decode cX8_of 69 = .ok (.getfield 100, 3) := by decide +kernel
theorem dX8_of_72 : decode cX8_of 72 = .ok (.iload_n 1, 1) := by decide +kernel
theorem dX8_of_73 : decode cX8_of 73 = .ok (.aload_n 0, 1) := by decide +kernel
theorem dX8_of_74 : decode cX8_of 74 = .ok (.getfield 12, 3) := by decide +kernel
theorem dX8_of_77 : decode cX8_of 77 = .ok (.getfield 100, 3) := by decide +kernel
theorem dX8_of_80 : decode cX8_of 80 = .ok (.invokevirtual 104, 3) := by decide +kernel
theorem dX8_of_83 : decode cX8_of 83 = .ok (.invokevirtual 110, 3) := by decide +kernel
theorem dX8_of_86 : decode cX8_of 86 = .ok (.ireturn, 1) := by decide +kernel
theorem dX8_of_87 : decode cX8_of 87 = .ok (.aload_n 0, 1) := by decide +kernel
theorem dX8_of_88 : decode cX8_of 88 = .ok (.getfield 12, 3) := by decide +kernel
theorem dX8_of_91 : decode cX8_of 91 = .ok (.getfield 100, 3) := by decide +kernel
theorem dX8_of_94 : decode cX8_of 94 = .ok (.iload_n 1, 1) := by decide +kernel
theorem dX8_of_95 : decode cX8_of 95 = .ok (.aload_n 0, 1) := by decide +kernel
theorem dX8_of_96 : decode cX8_of 96 = .ok (.getfield 12, 3) := by decide +kernel
theorem dX8_of_99 : decode cX8_of 99 = .ok (.iconst (-1), 1) := by decide +kernel
theorem dX8_of_100 : decode cX8_of 100 = .ok (.invokevirtual 114, 3) := by decide +kernel
theorem dX8_of_103 : decode cX8_of 103 = .ok (.invokevirtual 110, 3) := by decide +kernel
theorem dX8_of_106 : decode cX8_of 106 = .ok (.ireturn, 1) := by decide +kernel
theorem dX8_of_107 : decode cX8_of 107 = .ok (.aload_n 0, 1) := by decide +kernel
theorem dX8_of_108 : decode cX8_of 108 = .ok (.getfield 12, 3) := by decide +kernel
theorem dX8_of_111 : decode cX8_of 111 = .ok (.getfield 57, 3) := by decide +kernel
theorem dX8_of_114 : decode cX8_of 114 = .ok (.iload_n 1, 1) := by decide +kernel
theorem dX8_of_115 : decode cX8_of 115 = .ok (.iconst 0, 1) := by decide +kernel
theorem dX8_of_116 : decode cX8_of 116 = .ok (.invokevirtual 117, 3) := by decide +kernel
theorem dX8_of_119 : decode cX8_of 119 = .ok (.ireturn, 1) := by decide +kernel
theorem dX8_of_120 : decode cX8_of 120 = .ok (.aload_n 0, 1) := by decide +kernel
theorem dX8_of_121 : decode cX8_of 121 = .ok (.getfield 12, 3) := by decide +kernel
theorem dX8_of_124 : decode cX8_of 124 = .ok (.getfield 57, 3) := by decide +kernel
theorem dX8_of_127 : decode cX8_of 127 = .ok (.iload_n 1, 1) := by decide +kernel
theorem dX8_of_128 : decode cX8_of 128 = .ok (.iconst 3, 1) := by decide +kernel
theorem dX8_of_129 : decode cX8_of 129 = .ok (.invokevirtual 117, 3) := by decide +kernel
theorem dX8_of_132 : decode cX8_of 132 = .ok (.ireturn, 1) := by decide +kernel
theorem dX8_of_133 : decode cX8_of 133 = .ok (.aload_n 0, 1) := by decide +kernel
theorem dX8_of_134 : decode cX8_of 134 = .ok (.ldc 52, 2) := by decide +kernel
theorem dX8_of_136 : decode cX8_of 136 = .ok (.invokevirtual 53, 3) := by decide +kernel
theorem dX8_of_139 : decode cX8_of 139 = .ok (.ireturn, 1) := by decide +kernel
theorem dX8_tick_0 : decode cX8_tick 0 = .ok (.iload_n 1, 1) := by decide +kernel
theorem dX8_tick_1 : decode cX8_tick 1 = .ok (.iconst 1, 1) := by decide +kernel
theorem dX8_tick_2 : decode cX8_tick 2 = .ok (.if_icmp .lt 10, 3) := by decide +kernel
theorem dX8_tick_5 : decode cX8_tick 5 = .ok (.iload_n 1, 1) := by decide +kernel
theorem dX8_tick_6 : decode cX8_tick 6 = .ok (.sipush 400, 3) := by decide +kernel
theorem dX8_tick_9 : decode cX8_tick 9 = .ok (.if_icmp .le 10, 3) := by decide +kernel
theorem dX8_tick_12 : decode cX8_tick 12 = .ok (.aload_n 0, 1) := by decide +kernel
theorem dX8_tick_13 : decode cX8_tick 13 = .ok (.ldc 52, 2) := by decide +kernel
theorem dX8_tick_15 : decode cX8_tick 15 = .ok (.invokevirtual 53, 3) := by decide +kernel
theorem dX8_tick_18 : decode cX8_tick 18 = .ok (.ireturn, 1) := by decide +kernel
theorem dX8_tick_19 : decode cX8_tick 19 = .ok (.aload_n 0, 1) := by decide +kernel
theorem dX8_tick_20 : decode cX8_tick 20 = .ok (.getfield 12, 3) := by decide +kernel
theorem dX8_tick_23 : decode cX8_tick 23 = .ok (.getfield 57, 3) := by decide +kernel
theorem dX8_tick_26 : decode cX8_tick 26 = .ok (.getfield 120, 3) := by decide +kernel
theorem dX8_tick_29 : decode cX8_tick 29 = .ok (.iload_n 1, 1) := by decide +kernel
theorem dX8_tick_30 : decode cX8_tick 30 = .ok (.iadd, 1) := by decide +kernel
theorem dX8_tick_31 : decode cX8_tick 31 = .ok (.sipush 9999, 3) := by decide +kernel
theorem dX8_tick_34 : decode cX8_tick 34 = .ok (.if_icmp .le 10, 3) := by decide +kernel
theorem dX8_tick_37 : decode cX8_tick 37 = .ok (.aload_n 0, 1) := by decide +kernel
theorem dX8_tick_38 : decode cX8_tick 38 = .ok (.ldc 70, 2) := by decide +kernel
theorem dX8_tick_40 : decode cX8_tick 40 = .ok (.invokevirtual 53, 3) := by decide +kernel
theorem dX8_tick_43 : decode cX8_tick 43 = .ok (.ireturn, 1) := by decide +kernel
theorem dX8_tick_44 : decode cX8_tick 44 = .ok (.aload_n 0, 1) := by decide +kernel
theorem dX8_tick_45 : decode cX8_tick 45 = .ok (.getfield 12, 3) := by decide +kernel
theorem dX8_tick_48 : decode cX8_tick 48 = .ok (.getfield 57, 3) := by decide +kernel
theorem dX8_tick_51 : decode cX8_tick 51 = .ok (.dup, 1) := by decide +kernel
theorem dX8_tick_52 : decode cX8_tick 52 = .ok (.getfield 120, 3) := by decide +kernel
theorem dX8_tick_55 : decode cX8_tick 55 = .ok (.iload_n 1, 1) := by decide +kernel
theorem dX8_tick_56 : decode cX8_tick 56 = .ok (.iadd, 1) := by decide +kernel
theorem dX8_tick_57 : decode cX8_tick 57 = .ok (.putfield 120, 3) := by decide +kernel
theorem dX8_tick_60 : decode cX8_tick 60 = .ok (.aload_n 0, 1) := by decide +kernel
theorem dX8_tick_61 : decode cX8_tick 61 = .ok (.getfield 12, 3) := by decide +kernel
theorem dX8_tick_64 : decode cX8_tick 64 = .ok (.getfield 57, 3) := by decide +kernel
theorem dX8_tick_67 : decode cX8_tick 67 = .ok (.getfield 120, 3) := by decide +kernel
theorem dX8_tick_70 : decode cX8_tick 70 = .ok (.ireturn, 1) := by decide +kernel
theorem dX8_letter_0 : decode cX8_letter 0 = .ok (.iload_n 1, 1) := by decide +kernel
theorem dX8_letter_1 : decode cX8_letter 1 = .ok (.bipush 6, 2) := by decide +kernel
theorem dX8_letter_3 : decode cX8_letter 3 = .ok (.invokestatic 48, 3) := by decide +kernel
theorem dX8_letter_6 : decode cX8_letter 6 = .ok (.ifCond .eq 37, 3) := by decide +kernel
theorem dX8_letter_9 : decode cX8_letter 9 = .ok (.aload_n 0, 1) := by decide +kernel
theorem dX8_letter_10 : decode cX8_letter 10 = .ok (.iload_n 2, 1) := by decide +kernel
theorem dX8_letter_11 : decode cX8_letter 11 = .ok (.invokevirtual 123, 3) := by decide +kernel
theorem dX8_letter_14 : decode cX8_letter 14 = .ok (.ifCond .eq 29, 3) := by decide +kernel
theorem dX8_letter_17 : decode cX8_letter 17 = .ok (.iload_n 3, 1) := by decide +kernel
theorem dX8_letter_18 : decode cX8_letter 18 = .ok (.invokestatic 126, 3) := by decide +kernel
theorem dX8_letter_21 : decode cX8_letter 21 = .ok (.ifCond .eq 22, 3) := by decide +kernel
theorem dX8_letter_24 : decode cX8_letter 24 = .ok (.aload_n 0, 1) := by decide +kernel
theorem dX8_letter_25 : decode cX8_letter 25 = .ok (.iload_n 1, 1) := by decide +kernel
theorem dX8_letter_26 : decode cX8_letter 26 = .ok (.iload 4, 2) := by decide +kernel
theorem dX8_letter_28 : decode cX8_letter 28 = .ok (.invokevirtual 129, 3) := by decide +kernel
theorem dX8_letter_31 : decode cX8_letter 31 = .ok (.ifCond .eq 12, 3) := by decide +kernel
theorem dX8_letter_34 : decode cX8_letter 34 = .ok (.iload_n 1, 1) := by decide +kernel
theorem dX8_letter_35 : decode cX8_letter 35 = .ok (.iload 5, 2) := by decide +kernel
theorem dX8_letter_37 : decode cX8_letter 37 = .ok (.invokestatic 132, 3) := by decide +kernel
theorem dX8_letter_40 : decode cX8_letter 40 = .ok (.ifCond .ne 10, 3) := by decide +kernel
theorem dX8_letter_43 : decode cX8_letter 43 = .ok (.aload_n 0, 1) := by decide +kernel
theorem dX8_letter_44 : decode cX8_letter 44 = .ok (.ldc 52, 2) := by decide +kernel
theorem dX8_letter_46 : decode cX8_letter 46 = .ok (.invokevirtual 53, 3) := by decide +kernel
theorem dX8_letter_49 : decode cX8_letter 49 = .ok (.ireturn, 1) := by decide +kernel
theorem dX8_letter_50 : decode cX8_letter 50 = .ok (.aload_n 0, 1) := by decide +kernel
theorem dX8_letter_51 : decode cX8_letter 51 = .ok (.getfield 12, 3) := by decide +kernel
theorem dX8_letter_54 : decode cX8_letter 54 = .ok (.getfield 100, 3) := by decide +kernel
theorem dX8_letter_57 : decode cX8_letter 57 = .ok (.getfield 135, 3) := by decide +kernel
theorem dX8_letter_60 : decode cX8_letter 60 = .ok (.bipush 30, 2) := by decide +kernel
theorem dX8_letter_62 : decode cX8_letter 62 = .ok (.if_icmp .lt 10, 3) := by decide +kernel
theorem dX8_letter_65 : decode cX8_letter 65 = .ok (.aload_n 0, 1) := by decide +kernel
theorem dX8_letter_66 : decode cX8_letter 66 = .ok (.ldc 70, 2) := by decide +kernel
theorem dX8_letter_68 : decode cX8_letter 68 = .ok (.invokevirtual 53, 3) := by decide +kernel
theorem dX8_letter_71 : decode cX8_letter 71 = .ok (.ireturn, 1) := by decide +kernel
theorem dX8_letter_72 : decode cX8_letter 72 = .ok (.aload_n 0, 1) := by decide +kernel
theorem dX8_letter_73 : decode cX8_letter 73 = .ok (.getfield 12, 3) := by decide +kernel
theorem dX8_letter_76 : decode cX8_letter 76 = .ok (.getfield 100, 3) := by decide +kernel
theorem dX8_letter_79 : decode cX8_letter 79 = .ok (.iload_n 1, 1) := by decide +kernel
theorem dX8_letter_80 : decode cX8_letter 80 = .ok (.iload_n 2, 1) := by decide +kernel
theorem dX8_letter_81 : decode cX8_letter 81 = .ok (.iload_n 3, 1) := by decide +kernel
theorem dX8_letter_82 : decode cX8_letter 82 = .ok (.iload 4, 2) := by decide +kernel
theorem dX8_letter_84 : decode cX8_letter 84 = .ok (.iload 5, 2) := by decide +kernel
theorem dX8_letter_86 : decode cX8_letter 86 = .ok (.aload_n 0, 1) := by decide +kernel
theorem dX8_letter_87 : decode cX8_letter 87 = .ok (.getfield 12, 3) := by decide +kernel
theorem dX8_letter_90 : decode cX8_letter 90 = .ok (.getfield 57, 3) := by decide +kernel
theorem dX8_letter_93 : decode cX8_letter 93 = .ok (.getfield 120, 3) := by decide +kernel
theorem dX8_letter_96 : decode cX8_letter 96 = .ok (.invokevirtual 138, 3) := by decide +kernel
theorem dX8_letter_99 : decode cX8_letter 99 = .ok (.ireturn, 1) := by decide +kernel
theorem dX8_as_0 : decode cX8_as 0 = .ok (.aload_n 0, 1) := by decide +kernel
theorem dX8_as_1 : decode cX8_as 1 = .ok (.iload_n 1, 1) := by decide +kernel
theorem dX8_as_2 : decode cX8_as 2 = .ok (.invokevirtual 142, 3) := by decide +kernel
theorem dX8_as_5 : decode cX8_as 5 = .ok (.ifCond .eq 12, 3) := by decide +kernel
theorem dX8_as_8 : decode cX8_as 8 = .ok (.iload_n 2, 1) := by decide +kernel
theorem dX8_as_9 : decode cX8_as 9 = .ok (.bipush 6, 2) := by decide +kernel
theorem dX8_as_11 : decode cX8_as 11 = .ok (.invokestatic 48, 3) := by decide +kernel
theorem dX8_as_14 : decode cX8_as 14 = .ok (.ifCond .ne 10, 3) := by decide +kernel
theorem dX8_as_17 : decode cX8_as 17 = .ok (.aload_n 0, 1) := by decide +kernel
theorem dX8_as_18 : decode cX8_as 18 = .ok (.ldc 52, 2) := by decide +kernel
theorem dX8_as_20 : decode cX8_as 20 = .ok (.invokevirtual 53, 3) := by decide +kernel
theorem dX8_as_23 : decode cX8_as 23 = .ok (.ireturn, 1) := by decide +kernel
theorem dX8_as_24 : decode cX8_as 24 = .ok (.aload_n 0, 1) := by decide +kernel
theorem dX8_as_25 : decode cX8_as 25 = .ok (.getfield 12, 3) := by decide +kernel
theorem dX8_as_28 : decode cX8_as 28 = .ok (.getfield 100, 3) := by decide +kernel
theorem dX8_as_31 : decode cX8_as 31 = .ok (.iload_n 1, 1) := by decide +kernel
theorem dX8_as_32 : decode cX8_as 32 = .ok (.iload_n 2, 1) := by decide +kernel
theorem dX8_as_33 : decode cX8_as 33 = .ok (.invokevirtual 145, 3) := by decide +kernel
theorem dX8_as_36 : decode cX8_as 36 = .ok (.ifCond .ne 10, 3) := by decide +kernel
theorem dX8_as_39 : decode cX8_as 39 = .ok (.aload_n 0, 1) := by decide +kernel
theorem dX8_as_40 : decode cX8_as 40 = .ok (.ldc 148, 2) := by decide +kernel
theorem dX8_as_42 : decode cX8_as 42 = .ok (.invokevirtual 53, 3) := by decide +kernel
theorem dX8_as_45 : decode cX8_as 45 = .ok (.ireturn, 1) := by decide +kernel
theorem dX8_as_46 : decode cX8_as 46 = .ok (.iload_n 1, 1) := by decide +kernel
theorem dX8_as_47 : decode cX8_as 47 = .ok (.ireturn, 1) := by decide +kernel
theorem dX8_told_0 : decode cX8_told 0 = .ok (.aload_n 0, 1) := by decide +kernel
theorem dX8_told_1 : decode cX8_told 1 = .ok (.iload_n 1, 1) := by decide +kernel
theorem dX8_told_2 : decode cX8_told 2 = .ok (.invokevirtual 142, 3) := by decide +kernel
theorem dX8_told_5 : decode cX8_told 5 = .ok (.ifCond .eq 12, 3) := by decide +kernel
theorem dX8_told_8 : decode cX8_told 8 = .ok (.iload_n 2, 1) := by decide +kernel
theorem dX8_told_9 : decode cX8_told 9 = .ok (.bipush 9, 2) := by decide +kernel
theorem dX8_told_11 : decode cX8_told 11 = .ok (.invokestatic 48, 3) := by decide +kernel
theorem dX8_told_14 : decode cX8_told 14 = .ok (.ifCond .ne 10, 3) := by decide +kernel
theorem dX8_told_17 : decode cX8_told 17 = .ok (.aload_n 0, 1) := by decide +kernel
theorem dX8_told_18 : decode cX8_told 18 = .ok (.ldc 52, 2) := by decide +kernel
theorem dX8_told_20 : decode cX8_told 20 = .ok (.invokevirtual 53, 3) := by decide +kernel
theorem dX8_told_23 : decode cX8_told 23 = .ok (.ireturn, 1) := by decide +kernel
theorem dX8_told_24 : decode cX8_told 24 = .ok (.iload_n 2, 1) := by decide +kernel
theorem dX8_told_25 : decode cX8_told 25 = .ok (.bipush 7, 2) := by decide +kernel
theorem dX8_told_27 : decode cX8_told 27 = .ok (.if_icmp .ne 25, 3) := by decide +kernel
theorem dX8_told_30 : decode cX8_told 30 = .ok (.aload_n 0, 1) := by decide +kernel
theorem dX8_told_31 : decode cX8_told 31 = .ok (.getfield 12, 3) := by decide +kernel
theorem dX8_told_34 : decode cX8_told 34 = .ok (.getfield 100, 3) := by decide +kernel
theorem dX8_told_37 : decode cX8_told 37 = .ok (.iload_n 1, 1) := by decide +kernel
theorem dX8_told_38 : decode cX8_told 38 = .ok (.iconst 2, 1) := by decide +kernel
theorem dX8_told_39 : decode cX8_told 39 = .ok (.invokevirtual 145, 3) := by decide +kernel
theorem dX8_told_42 : decode cX8_told 42 = .ok (.ifCond .ne 10, 3) := by decide +kernel
theorem dX8_told_45 : decode cX8_told 45 = .ok (.aload_n 0, 1) := by decide +kernel
theorem dX8_told_46 : decode cX8_told 46 = .ok (.ldc 148, 2) := by decide +kernel
theorem dX8_told_48 : decode cX8_told 48 = .ok (.invokevirtual 53, 3) := by decide +kernel
theorem dX8_told_51 : decode cX8_told 51 = .ok (.ireturn, 1) := by decide +kernel
theorem dX8_told_52 : decode cX8_told 52 = .ok (.iload_n 2, 1) := by decide +kernel
theorem dX8_told_53 : decode cX8_told 53 = .ok (.bipush 8, 2) := by decide +kernel
theorem dX8_told_55 : decode cX8_told 55 = .ok (.if_icmp .ne 25, 3) := by decide +kernel
theorem dX8_told_58 : decode cX8_told 58 = .ok (.aload_n 0, 1) := by decide +kernel
theorem dX8_told_59 : decode cX8_told 59 = .ok (.getfield 12, 3) := by decide +kernel
theorem dX8_told_62 : decode cX8_told 62 = .ok (.getfield 100, 3) := by decide +kernel
theorem dX8_told_65 : decode cX8_told 65 = .ok (.iload_n 1, 1) := by decide +kernel
theorem dX8_told_66 : decode cX8_told 66 = .ok (.iconst 4, 1) := by decide +kernel
theorem dX8_told_67 : decode cX8_told 67 = .ok (.invokevirtual 145, 3) := by decide +kernel
theorem dX8_told_70 : decode cX8_told 70 = .ok (.ifCond .ne 10, 3) := by decide +kernel
theorem dX8_told_73 : decode cX8_told 73 = .ok (.aload_n 0, 1) := by decide +kernel
theorem dX8_told_74 : decode cX8_told 74 = .ok (.ldc 148, 2) := by decide +kernel
theorem dX8_told_76 : decode cX8_told 76 = .ok (.invokevirtual 53, 3) := by decide +kernel
theorem dX8_told_79 : decode cX8_told 79 = .ok (.ireturn, 1) := by decide +kernel
theorem dX8_told_80 : decode cX8_told 80 = .ok (.aload_n 0, 1) := by decide +kernel
theorem dX8_told_81 : decode cX8_told 81 = .ok (.getfield 12, 3) := by decide +kernel
theorem dX8_told_84 : decode cX8_told 84 = .ok (.getfield 100, 3) := by decide +kernel
theorem dX8_told_87 : decode cX8_told 87 = .ok (.iload_n 1, 1) := by decide +kernel
theorem dX8_told_88 : decode cX8_told 88 = .ok (.iload_n 2, 1) := by decide +kernel
theorem dX8_told_89 : decode cX8_told 89 = .ok (.invokevirtual 149, 3) := by decide +kernel
theorem dX8_told_92 : decode cX8_told 92 = .ok (.ireturn, 1) := by decide +kernel
theorem dX8_lose_0 : decode cX8_lose 0 = .ok (.aload_n 0, 1) := by decide +kernel
theorem dX8_lose_1 : decode cX8_lose 1 = .ok (.iload_n 1, 1) := by decide +kernel
theorem dX8_lose_2 : decode cX8_lose 2 = .ok (.invokevirtual 142, 3) := by decide +kernel
theorem dX8_lose_5 : decode cX8_lose 5 = .ok (.ifCond .ne 10, 3) := by decide +kernel
theorem dX8_lose_8 : decode cX8_lose 8 = .ok (.aload_n 0, 1) := by decide +kernel
theorem dX8_lose_9 : decode cX8_lose 9 = .ok (.ldc 52, 2) := by decide +kernel
theorem dX8_lose_11 : decode cX8_lose 11 = .ok (.invokevirtual 53, 3) := by decide +kernel
theorem dX8_lose_14 : decode cX8_lose 14 = .ok (.ireturn, 1) := by decide +kernel
theorem dX8_lose_15 : decode cX8_lose 15 = .ok (.aload_n 0, 1) := by decide +kernel
theorem dX8_lose_16 : decode cX8_lose 16 = .ok (.getfield 12, 3) := by decide +kernel
theorem dX8_lose_19 : decode cX8_lose 19 = .ok (.getfield 100, 3) := by decide +kernel
theorem dX8_lose_22 : decode cX8_lose 22 = .ok (.iload_n 1, 1) := by decide +kernel
theorem dX8_lose_23 : decode cX8_lose 23 = .ok (.invokevirtual 152, 3) := by decide +kernel
theorem dX8_lose_26 : decode cX8_lose 26 = .ok (.iload_n 2, 1) := by decide +kernel
theorem dX8_lose_27 : decode cX8_lose 27 = .ok (.if_icmp .ne 5, 3) := by decide +kernel
theorem dX8_lose_30 : decode cX8_lose 30 = .ok (.iconst 0, 1) := by decide +kernel
theorem dX8_lose_31 : decode cX8_lose 31 = .ok (.ireturn, 1) := by decide +kernel
theorem dX8_lose_32 : decode cX8_lose 32 = .ok (.aload_n 0, 1) := by decide +kernel
theorem dX8_lose_33 : decode cX8_lose 33 = .ok (.getfield 12, 3) := by decide +kernel
theorem dX8_lose_36 : decode cX8_lose 36 = .ok (.getfield 100, 3) := by decide +kernel
theorem dX8_lose_39 : decode cX8_lose 39 = .ok (.dup, 1) := by decide +kernel
theorem dX8_lose_40 : decode cX8_lose 40 = .ok (.getfield 155, 3) := by decide +kernel
theorem dX8_lose_43 : decode cX8_lose 43 = .ok (.iconst 1, 1) := by decide +kernel
theorem dX8_lose_44 : decode cX8_lose 44 = .ok (.iload_n 1, 1) := by decide +kernel
theorem dX8_lose_45 : decode cX8_lose 45 = .ok (.ishl, 1) := by decide +kernel
theorem dX8_lose_46 : decode cX8_lose 46 = .ok (.ixor, 1) := by decide +kernel
theorem dX8_lose_47 : decode cX8_lose 47 = .ok (.putfield 155, 3) := by decide +kernel
theorem dX8_lose_50 : decode cX8_lose 50 = .ok (.iconst 1, 1) := by decide +kernel
theorem dX8_lose_51 : decode cX8_lose 51 = .ok (.ireturn, 1) := by decide +kernel
theorem dX8_reread_0 : decode cX8_reread 0 = .ok (.aload_n 0, 1) := by decide +kernel
theorem dX8_reread_1 : decode cX8_reread 1 = .ok (.iload_n 1, 1) := by decide +kernel
theorem dX8_reread_2 : decode cX8_reread 2 = .ok (.invokevirtual 142, 3) := by decide +kernel
theorem dX8_reread_5 : decode cX8_reread 5 = .ok (.ifCond .eq 12, 3) := by decide +kernel
theorem dX8_reread_8 : decode cX8_reread 8 = .ok (.iload_n 2, 1) := by decide +kernel
theorem dX8_reread_9 : decode cX8_reread 9 = .ok (.bipush 16, 2) := by decide +kernel
theorem dX8_reread_11 : decode cX8_reread 11 = .ok (.invokestatic 48, 3) := by decide +kernel
theorem dX8_reread_14 : decode cX8_reread 14 = .ok (.ifCond .ne 10, 3) := by decide +kernel
theorem dX8_reread_17 : decode cX8_reread 17 = .ok (.aload_n 0, 1) := by decide +kernel
theorem dX8_reread_18 : decode cX8_reread 18 = .ok (.ldc 52, 2) := by decide +kernel
theorem dX8_reread_20 : decode cX8_reread 20 = .ok (.invokevirtual 53, 3) := by decide +kernel
theorem dX8_reread_23 : decode cX8_reread 23 = .ok (.ireturn, 1) := by decide +kernel
theorem dX8_reread_24 : decode cX8_reread 24 = .ok (.aload_n 0, 1) := by decide +kernel
theorem dX8_reread_25 : decode cX8_reread 25 = .ok (.getfield 12, 3) := by decide +kernel
theorem dX8_reread_28 : decode cX8_reread 28 = .ok (.getfield 100, 3) := by decide +kernel
theorem dX8_reread_31 : decode cX8_reread 31 = .ok (.iload_n 1, 1) := by decide +kernel
theorem dX8_reread_32 : decode cX8_reread 32 = .ok (.invokevirtual 152, 3) := by decide +kernel
theorem dX8_reread_35 : decode cX8_reread 35 = .ok (.ifCond .eq 10, 3) := by decide +kernel
theorem dX8_reread_38 : decode cX8_reread 38 = .ok (.aload_n 0, 1) := by decide +kernel
theorem dX8_reread_39 : decode cX8_reread 39 = .ok (.ldc 158, 2) := by decide +kernel
theorem dX8_reread_41 : decode cX8_reread 41 = .ok (.invokevirtual 53, 3) := by decide +kernel
theorem dX8_reread_44 : decode cX8_reread 44 = .ok (.ireturn, 1) := by decide +kernel
theorem dX8_reread_45 : decode cX8_reread 45 = .ok (.aload_n 0, 1) := by decide +kernel
theorem dX8_reread_46 : decode cX8_reread 46 = .ok (.getfield 12, 3) := by decide +kernel
theorem dX8_reread_49 : decode cX8_reread 49 = .ok (.getfield 100, 3) := by decide +kernel
theorem dX8_reread_52 : decode cX8_reread 52 = .ok (.getfield 159, 3) := by decide +kernel
theorem dX8_reread_55 : decode cX8_reread 55 = .ok (.iload_n 1, 1) := by decide +kernel
theorem dX8_reread_56 : decode cX8_reread 56 = .ok (.iaload, 1) := by decide +kernel
theorem dX8_reread_57 : decode cX8_reread 57 = .ok (.istore_n 3, 1) := by decide +kernel
theorem dX8_reread_58 : decode cX8_reread 58 = .ok (.aload_n 0, 1) := by decide +kernel
theorem dX8_reread_59 : decode cX8_reread 59 = .ok (.getfield 12, 3) := by decide +kernel
theorem dX8_reread_62 : decode cX8_reread 62 = .ok (.getfield 100, 3) := by decide +kernel
theorem dX8_reread_65 : decode cX8_reread 65 = .ok (.getfield 159, 3) := by decide +kernel
theorem dX8_reread_68 : decode cX8_reread 68 = .ok (.iload_n 1, 1) := by decide +kernel
theorem dX8_reread_69 : decode cX8_reread 69 = .ok (.iload_n 2, 1) := by decide +kernel
theorem dX8_reread_70 : decode cX8_reread 70 = .ok (.iastore, 1) := by decide +kernel
theorem dX8_reread_71 : decode cX8_reread 71 = .ok (.iload_n 3, 1) := by decide +kernel
theorem dX8_reread_72 : decode cX8_reread 72 = .ok (.ireturn, 1) := by decide +kernel
theorem dX8_counts_0 : decode cX8_counts 0 = .ok (.aload_n 0, 1) := by decide +kernel
theorem dX8_counts_1 : decode cX8_counts 1 = .ok (.iload_n 1, 1) := by decide +kernel
theorem dX8_counts_2 : decode cX8_counts 2 = .ok (.invokevirtual 142, 3) := by decide +kernel
theorem dX8_counts_5 : decode cX8_counts 5 = .ok (.ifCond .ne 10, 3) := by decide +kernel
theorem dX8_counts_8 : decode cX8_counts 8 = .ok (.aload_n 0, 1) := by decide +kernel
theorem dX8_counts_9 : decode cX8_counts 9 = .ok (.ldc 52, 2) := by decide +kernel
theorem dX8_counts_11 : decode cX8_counts 11 = .ok (.invokevirtual 53, 3) := by decide +kernel
theorem dX8_counts_14 : decode cX8_counts 14 = .ok (.ireturn, 1) := by decide +kernel
theorem dX8_counts_15 : decode cX8_counts 15 = .ok (.aload_n 0, 1) := by decide +kernel
theorem dX8_counts_16 : decode cX8_counts 16 = .ok (.getfield 12, 3) := by decide +kernel
theorem dX8_counts_19 : decode cX8_counts 19 = .ok (.iconst (-1), 1) := by decide +kernel
theorem dX8_counts_20 : decode cX8_counts 20 = .ok (.invokevirtual 114, 3) := by decide +kernel
theorem dX8_counts_23 : decode cX8_counts 23 = .ok (.iload_n 1, 1) := by decide +kernel
theorem dX8_counts_24 : decode cX8_counts 24 = .ok (.ishr, 1) := by decide +kernel
theorem dX8_counts_25 : decode cX8_counts 25 = .ok (.iconst 1, 1) := by decide +kernel
theorem dX8_counts_26 : decode cX8_counts 26 = .ok (.iand, 1) := by decide +kernel
theorem dX8_counts_27 : decode cX8_counts 27 = .ok (.ireturn, 1) := by decide +kernel
theorem dX8_lets_0 : decode cX8_lets 0 = .ok (.aload_n 0, 1) := by decide +kernel
theorem dX8_lets_1 : decode cX8_lets 1 = .ok (.iload_n 1, 1) := by decide +kernel
theorem dX8_lets_2 : decode cX8_lets 2 = .ok (.invokevirtual 142, 3) := by decide +kernel
theorem dX8_lets_5 : decode cX8_lets 5 = .ok (.ifCond .ne 10, 3) := by decide +kernel
theorem dX8_lets_8 : decode cX8_lets 8 = .ok (.aload_n 0, 1) := by decide +kernel
theorem dX8_lets_9 : decode cX8_lets 9 = .ok (.ldc 52, 2) := by decide +kernel
theorem dX8_lets_11 : decode cX8_lets 11 = .ok (.invokevirtual 53, 3) := by decide +kernel
theorem dX8_lets_14 : decode cX8_lets 14 = .ok (.ireturn, 1) := by decide +kernel
theorem dX8_lets_15 : decode cX8_lets 15 = .ok (.aload_n 0, 1) := by decide +kernel
theorem dX8_lets_16 : decode cX8_lets 16 = .ok (.getfield 12, 3) := by decide +kernel
theorem dX8_lets_19 : decode cX8_lets 19 = .ok (.iload_n 1, 1) := by decide +kernel
theorem dX8_lets_20 : decode cX8_lets 20 = .ok (.invokevirtual 162, 3) := by decide +kernel
theorem dX8_lets_23 : decode cX8_lets 23 = .ok (.ireturn, 1) := by decide +kernel
theorem dX8_root_0 : decode cX8_root 0 = .ok (.aload_n 0, 1) := by decide +kernel
theorem dX8_root_1 : decode cX8_root 1 = .ok (.iload_n 1, 1) := by decide +kernel
theorem dX8_root_2 : decode cX8_root 2 = .ok (.invokevirtual 142, 3) := by decide +kernel
theorem dX8_root_5 : decode cX8_root 5 = .ok (.ifCond .ne 10, 3) := by decide +kernel
theorem dX8_root_8 : decode cX8_root 8 = .ok (.aload_n 0, 1) := by decide +kernel
theorem dX8_root_9 : decode cX8_root 9 = .ok (.ldc 52, 2) := by decide +kernel
theorem dX8_root_11 : decode cX8_root 11 = .ok (.invokevirtual 53, 3) := by decide +kernel
theorem dX8_root_14 : decode cX8_root 14 = .ok (.ireturn, 1) := by decide +kernel
theorem dX8_root_15 : decode cX8_root 15 = .ok (.aload_n 0, 1) := by decide +kernel
theorem dX8_root_16 : decode cX8_root 16 = .ok (.getfield 12, 3) := by decide +kernel
theorem dX8_root_19 : decode cX8_root 19 = .ok (.getfield 100, 3) := by decide +kernel
theorem dX8_root_22 : decode cX8_root 22 = .ok (.iload_n 1, 1) := by decide +kernel
theorem dX8_root_23 : decode cX8_root 23 = .ok (.invokevirtual 165, 3) := by decide +kernel
theorem dX8_root_26 : decode cX8_root 26 = .ok (.ireturn, 1) := by decide +kernel
theorem dX8_tree_0 : decode cX8_tree 0 = .ok (.aload_n 0, 1) := by decide +kernel
theorem dX8_tree_1 : decode cX8_tree 1 = .ok (.iload_n 1, 1) := by decide +kernel
theorem dX8_tree_2 : decode cX8_tree 2 = .ok (.invokevirtual 142, 3) := by decide +kernel
theorem dX8_tree_5 : decode cX8_tree 5 = .ok (.ifCond .ne 10, 3) := by decide +kernel
theorem dX8_tree_8 : decode cX8_tree 8 = .ok (.aload_n 0, 1) := by decide +kernel
theorem dX8_tree_9 : decode cX8_tree 9 = .ok (.ldc 52, 2) := by decide +kernel
theorem dX8_tree_11 : decode cX8_tree 11 = .ok (.invokevirtual 53, 3) := by decide +kernel
theorem dX8_tree_14 : decode cX8_tree 14 = .ok (.ireturn, 1) := by decide +kernel
theorem dX8_tree_15 : decode cX8_tree 15 = .ok (.aload_n 0, 1) := by decide +kernel
theorem dX8_tree_16 : decode cX8_tree 16 = .ok (.getfield 12, 3) := by decide +kernel
theorem dX8_tree_19 : decode cX8_tree 19 = .ok (.getfield 100, 3) := by decide +kernel
theorem dX8_tree_22 : decode cX8_tree 22 = .ok (.iload_n 1, 1) := by decide +kernel
theorem dX8_tree_23 : decode cX8_tree 23 = .ok (.invokevirtual 168, 3) := by decide +kernel
theorem dX8_tree_26 : decode cX8_tree 26 = .ok (.ireturn, 1) := by decide +kernel
theorem dX8_days_0 : decode cX8_days 0 = .ok (.aload_n 0, 1) := by decide +kernel
theorem dX8_days_1 : decode cX8_days 1 = .ok (.iload_n 1, 1) := by decide +kernel
theorem dX8_days_2 : decode cX8_days 2 = .ok (.invokevirtual 142, 3) := by decide +kernel
theorem dX8_days_5 : decode cX8_days 5 = .ok (.ifCond .ne 10, 3) := by decide +kernel
theorem dX8_days_8 : decode cX8_days 8 = .ok (.aload_n 0, 1) := by decide +kernel
theorem dX8_days_9 : decode cX8_days 9 = .ok (.ldc 52, 2) := by decide +kernel
theorem dX8_days_11 : decode cX8_days 11 = .ok (.invokevirtual 53, 3) := by decide +kernel
theorem dX8_days_14 : decode cX8_days 14 = .ok (.ireturn, 1) := by decide +kernel
theorem dX8_days_15 : decode cX8_days 15 = .ok (.aload_n 0, 1) := by decide +kernel
theorem dX8_days_16 : decode cX8_days 16 = .ok (.getfield 12, 3) := by decide +kernel
theorem dX8_days_19 : decode cX8_days 19 = .ok (.iload_n 1, 1) := by decide +kernel
theorem dX8_days_20 : decode cX8_days 20 = .ok (.invokevirtual 171, 3) := by decide +kernel
theorem dX8_days_23 : decode cX8_days 23 = .ok (.ireturn, 1) := by decide +kernel
theorem dX8_day_0 : decode cX8_day 0 = .ok (.aload_n 0, 1) := by decide +kernel
theorem dX8_day_1 : decode cX8_day 1 = .ok (.iload_n 1, 1) := by decide +kernel
theorem dX8_day_2 : decode cX8_day 2 = .ok (.invokevirtual 142, 3) := by decide +kernel
theorem dX8_day_5 : decode cX8_day 5 = .ok (.ifCond .eq 7, 3) := by decide +kernel
theorem dX8_day_8 : decode cX8_day 8 = .ok (.iload_n 2, 1) := by decide +kernel
theorem dX8_day_9 : decode cX8_day 9 = .ok (.ifCond .ge 10, 3) := by decide +kernel
theorem dX8_day_12 : decode cX8_day 12 = .ok (.aload_n 0, 1) := by decide +kernel
theorem dX8_day_13 : decode cX8_day 13 = .ok (.ldc 52, 2) := by decide +kernel
theorem dX8_day_15 : decode cX8_day 15 = .ok (.invokevirtual 53, 3) := by decide +kernel
theorem dX8_day_18 : decode cX8_day 18 = .ok (.ireturn, 1) := by decide +kernel
theorem dX8_day_19 : decode cX8_day 19 = .ok (.aload_n 0, 1) := by decide +kernel
theorem dX8_day_20 : decode cX8_day 20 = .ok (.getfield 12, 3) := by decide +kernel
theorem dX8_day_23 : decode cX8_day 23 = .ok (.iload_n 1, 1) := by decide +kernel
theorem dX8_day_24 : decode cX8_day 24 = .ok (.invokevirtual 171, 3) := by decide +kernel
theorem dX8_day_27 : decode cX8_day 27 = .ok (.istore_n 3, 1) := by decide +kernel
theorem dX8_day_28 : decode cX8_day 28 = .ok (.iload_n 2, 1) := by decide +kernel
theorem dX8_day_29 : decode cX8_day 29 = .ok (.iload_n 3, 1) := by decide +kernel
theorem dX8_day_30 : decode cX8_day 30 = .ok (.if_icmp .lt 10, 3) := by decide +kernel
theorem dX8_day_33 : decode cX8_day 33 = .ok (.aload_n 0, 1) := by decide +kernel
theorem dX8_day_34 : decode cX8_day 34 = .ok (.ldc 174, 2) := by decide +kernel
theorem dX8_day_36 : decode cX8_day 36 = .ok (.invokevirtual 53, 3) := by decide +kernel
theorem dX8_day_39 : decode cX8_day 39 = .ok (.ireturn, 1) := by decide +kernel
theorem dX8_day_40 : decode cX8_day 40 = .ok (.aload_n 0, 1) := by decide +kernel
theorem dX8_day_41 : decode cX8_day 41 = .ok (.getfield 12, 3) := by decide +kernel
theorem dX8_day_44 : decode cX8_day 44 = .ok (.getfield 175, 3) := by decide +kernel
theorem dX8_day_47 : decode cX8_day 47 = .ok (.iload_n 2, 1) := by decide +kernel
theorem dX8_day_48 : decode cX8_day 48 = .ok (.iaload, 1) := by decide +kernel
theorem dX8_day_49 : decode cX8_day 49 = .ok (.ireturn, 1) := by decide +kernel
theorem dX8_evening_0 : decode cX8_evening 0 = .ok (.aload_n 0, 1) := by decide +kernel
theorem dX8_evening_1 : decode cX8_evening 1 = .ok (.iload_n 1, 1) := by decide +kernel
theorem dX8_evening_2 : decode cX8_evening 2 = .ok (.invokevirtual 142, 3) := by decide +kernel
theorem dX8_evening_5 : decode cX8_evening 5 = .ok (.ifCond .ne 10, 3) := by decide +kernel
theorem dX8_evening_8 : decode cX8_evening 8 = .ok (.aload_n 0, 1) := by decide +kernel
theorem dX8_evening_9 : decode cX8_evening 9 = .ok (.ldc 52, 2) := by decide +kernel
theorem dX8_evening_11 : decode cX8_evening 11 = .ok (.invokevirtual 53, 3) := by decide +kernel
theorem dX8_evening_14 : decode cX8_evening 14 = .ok (.ireturn, 1) := by decide +kernel
theorem dX8_evening_15 : decode cX8_evening 15 = .ok (.aload_n 0, 1) := by decide +kernel
theorem dX8_evening_16 : decode cX8_evening 16 = .ok (.getfield 12, 3) := by decide +kernel
theorem dX8_evening_19 : decode cX8_evening 19 = .ok (.iload_n 1, 1) := by decide +kernel
theorem dX8_evening_20 : decode cX8_evening 20 = .ok (.invokevirtual 178, 3) := by decide +kernel
theorem dX8_evening_23 : decode cX8_evening 23 = .ok (.ireturn, 1) := by decide +kernel
theorem dX8_feed_0 : decode cX8_feed 0 = .ok (.iload_n 2, 1) := by decide +kernel
theorem dX8_feed_1 : decode cX8_feed 1 = .ok (.iconst 1, 1) := by decide +kernel
theorem dX8_feed_2 : decode cX8_feed 2 = .ok (.if_icmp .lt 8, 3) := by decide +kernel
theorem dX8_feed_5 : decode cX8_feed 5 = .ok (.iload_n 2, 1) := by decide +kernel
theorem dX8_feed_6 : decode cX8_feed 6 = .ok (.iconst 4, 1) := by decide +kernel
theorem dX8_feed_7 : decode cX8_feed 7 = .ok (.if_icmp .le 10, 3) := by decide +kernel
theorem dX8_feed_10 : decode cX8_feed 10 = .ok (.aload_n 0, 1) := by decide +kernel
theorem dX8_feed_11 : decode cX8_feed 11 = .ok (.ldc 52, 2) := by decide +kernel
theorem dX8_feed_13 : decode cX8_feed 13 = .ok (.invokevirtual 53, 3) := by decide +kernel
theorem dX8_feed_16 : decode cX8_feed 16 = .ok (.ireturn, 1) := by decide +kernel
theorem dX8_feed_17 : decode cX8_feed 17 = .ok (.aload_n 0, 1) := by decide +kernel
theorem dX8_feed_18 : decode cX8_feed 18 = .ok (.getfield 26, 3) := by decide +kernel
theorem dX8_feed_21 : decode cX8_feed 21 = .ok (.getfield 181, 3) := by decide +kernel
theorem dX8_feed_24 : decode cX8_feed 24 = .ok (.iload_n 2, 1) := by decide +kernel
theorem dX8_feed_25 : decode cX8_feed 25 = .ok (.iadd, 1) := by decide +kernel
theorem dX8_feed_26 : decode cX8_feed 26 = .ok (.bipush 120, 2) := by decide +kernel
theorem dX8_feed_28 : decode cX8_feed 28 = .ok (.if_icmp .le 10, 3) := by decide +kernel
theorem dX8_feed_31 : decode cX8_feed 31 = .ok (.aload_n 0, 1) := by decide +kernel
theorem dX8_feed_32 : decode cX8_feed 32 = .ok (.ldc 70, 2) := by decide +kernel
theorem dX8_feed_34 : decode cX8_feed 34 = .ok (.invokevirtual 53, 3) := by decide +kernel
theorem dX8_feed_37 : decode cX8_feed 37 = .ok (.ireturn, 1) := by decide +kernel
theorem dX8_feed_38 : decode cX8_feed 38 = .ok (.aload_n 0, 1) := by decide +kernel
theorem dX8_feed_39 : decode cX8_feed 39 = .ok (.getfield 26, 3) := by decide +kernel
theorem dX8_feed_42 : decode cX8_feed 42 = .ok (.iload_n 1, 1) := by decide +kernel
theorem dX8_feed_43 : decode cX8_feed 43 = .ok (.iload_n 2, 1) := by decide +kernel
theorem dX8_feed_44 : decode cX8_feed 44 = .ok (.invokevirtual 184, 3) := by decide +kernel
theorem dX8_feed_47 : decode cX8_feed 47 = .ok (.aload_n 0, 1) := by decide +kernel
theorem dX8_feed_48 : decode cX8_feed 48 = .ok (.getfield 26, 3) := by decide +kernel
theorem dX8_feed_51 : decode cX8_feed 51 = .ok (.getfield 181, 3) := by decide +kernel
theorem dX8_feed_54 : decode cX8_feed 54 = .ok (.ireturn, 1) := by decide +kernel
theorem dX8_wipe_0 : decode cX8_wipe 0 = .ok (.aload_n 0, 1) := by decide +kernel
theorem dX8_wipe_1 : decode cX8_wipe 1 = .ok (.getfield 26, 3) := by decide +kernel
theorem dX8_wipe_4 : decode cX8_wipe 4 = .ok (.getfield 181, 3) := by decide +kernel
theorem dX8_wipe_7 : decode cX8_wipe 7 = .ok (.istore_n 1, 1) := by decide +kernel
theorem dX8_wipe_8 : decode cX8_wipe 8 = .ok (.aload_n 0, 1) := by decide +kernel
theorem dX8_wipe_9 : decode cX8_wipe 9 = .ok (.getfield 26, 3) := by decide +kernel
theorem dX8_wipe_12 : decode cX8_wipe 12 = .ok (.iconst 0, 1) := by decide +kernel
theorem dX8_wipe_13 : decode cX8_wipe 13 = .ok (.putfield 181, 3) := by decide +kernel
theorem dX8_wipe_16 : decode cX8_wipe 16 = .ok (.iload_n 1, 1) := by decide +kernel
theorem dX8_wipe_17 : decode cX8_wipe 17 = .ok (.ireturn, 1) := by decide +kernel
theorem dX8_text_0 : decode cX8_text 0 = .ok (.iload_n 1, 1) := by decide +kernel
theorem dX8_text_1 : decode cX8_text 1 = .ok (.sipush 10000, 3) := by decide +kernel
theorem dX8_text_4 : decode cX8_text 4 = .ok (.invokestatic 48, 3) := by decide +kernel
theorem dX8_text_7 : decode cX8_text 7 = .ok (.ifCond .ne 10, 3) := by decide +kernel
theorem dX8_text_10 : decode cX8_text 10 = .ok (.aload_n 0, 1) := by decide +kernel
theorem dX8_text_11 : decode cX8_text 11 = .ok (.ldc 52, 2) := by decide +kernel
theorem dX8_text_13 : decode cX8_text 13 = .ok (.invokevirtual 53, 3) := by decide +kernel
theorem dX8_text_16 : decode cX8_text 16 = .ok (.ireturn, 1) := by decide +kernel
theorem dX8_text_17 : decode cX8_text 17 = .ok (.aload_n 0, 1) := by decide +kernel
theorem dX8_text_18 : decode cX8_text 18 = .ok (.getfield 12, 3) := by decide +kernel
theorem dX8_text_21 : decode cX8_text 21 = .ok (.getfield 188, 3) := by decide +kernel
theorem dX8_text_24 : decode cX8_text 24 = .ok (.getfield 192, 3) := by decide +kernel
theorem dX8_text_27 : decode cX8_text 27 = .ok (.bipush 8, 2) := by decide +kernel
theorem dX8_text_29 : decode cX8_text 29 = .ok (.if_icmp .lt 10, 3) := by decide +kernel
theorem dX8_text_32 : decode cX8_text 32 = .ok (.aload_n 0, 1) := by decide +kernel
theorem dX8_text_33 : decode cX8_text 33 = .ok (.ldc 70, 2) := by decide +kernel
theorem dX8_text_35 : decode cX8_text 35 = .ok (.invokevirtual 53, 3) := by decide +kernel
theorem dX8_text_38 : decode cX8_text 38 = .ok (.ireturn, 1) := by decide +kernel
theorem dX8_text_39 : decode cX8_text 39 = .ok (.aload_n 0, 1) := by decide +kernel
theorem dX8_text_40 : decode cX8_text 40 = .ok (.getfield 26, 3) := by decide +kernel
theorem dX8_text_43 : decode cX8_text 43 = .ok (.invokevirtual 195, 3) := by decide +kernel
theorem dX8_text_46 : decode cX8_text 46 = .ok (.istore_n 2, 1) := by decide +kernel
theorem dX8_text_47 : decode cX8_text 47 = .ok (.iload_n 2, 1) := by decide +kernel
theorem dX8_text_48 : decode cX8_text 48 = .ok (.ifCond .lt 7, 3) := by decide +kernel
theorem dX8_text_51 : decode cX8_text 51 = .ok (.iconst (-1), 1) := by decide +kernel
theorem dX8_text_52 : decode cX8_text 52 = .ok (.iload_n 2, 1) := by decide +kernel
theorem dX8_text_53 : decode cX8_text 53 = .ok (.isub, 1) := by decide +kernel
theorem dX8_text_54 : decode cX8_text 54 = .ok (.ireturn, 1) := by decide +kernel
theorem dX8_text_55 : decode cX8_text 55 = .ok (.aload_n 0, 1) := by decide +kernel
theorem dX8_text_56 : decode cX8_text 56 = .ok (.getfield 26, 3) := by decide +kernel
theorem dX8_text_59 : decode cX8_text 59 = .ok (.iconst 0, 1) := by decide +kernel
theorem dX8_text_60 : decode cX8_text 60 = .ok (.putfield 181, 3) := by decide +kernel
theorem dX8_text_63 : decode cX8_text 63 = .ok (.aload_n 0, 1) := by decide +kernel
theorem dX8_text_64 : decode cX8_text 64 = .ok (.getfield 12, 3) := by decide +kernel
theorem dX8_text_67 : decode cX8_text 67 = .ok (.getfield 188, 3) := by decide +kernel
theorem dX8_text_70 : decode cX8_text 70 = .ok (.iload_n 1, 1) := by decide +kernel
theorem dX8_text_71 : decode cX8_text 71 = .ok (.aload_n 0, 1) := by decide +kernel
theorem dX8_text_72 : decode cX8_text 72 = .ok (.getfield 26, 3) := by decide +kernel
theorem dX8_text_75 : decode cX8_text 75 = .ok (.invokevirtual 198, 3) := by decide +kernel
theorem dX8_text_78 : decode cX8_text 78 = .ok (.ireturn, 1) := by decide +kernel
theorem dX8_means_0 : decode cX8_means 0 = .ok (.iload_n 1, 1) := by decide +kernel
theorem dX8_means_1 : decode cX8_means 1 = .ok (.bipush 16, 2) := by decide +kernel
theorem dX8_means_3 : decode cX8_means 3 = .ok (.invokestatic 48, 3) := by decide +kernel
theorem dX8_means_6 : decode cX8_means 6 = .ok (.ifCond .ne 10, 3) := by decide +kernel
theorem dX8_means_9 : decode cX8_means 9 = .ok (.aload_n 0, 1) := by decide +kernel
theorem dX8_means_10 : decode cX8_means 10 = .ok (.ldc 52, 2) := by decide +kernel
theorem dX8_means_12 : decode cX8_means 12 = .ok (.invokevirtual 53, 3) := by decide +kernel
theorem dX8_means_15 : decode cX8_means 15 = .ok (.ireturn, 1) := by decide +kernel
theorem dX8_means_16 : decode cX8_means 16 = .ok (.aload_n 0, 1) := by decide +kernel
theorem dX8_means_17 : decode cX8_means 17 = .ok (.getfield 12, 3) := by decide +kernel
theorem dX8_means_20 : decode cX8_means 20 = .ok (.iload_n 1, 1) := by decide +kernel
theorem dX8_means_21 : decode cX8_means 21 = .ok (.invokevirtual 202, 3) := by decide +kernel
theorem dX8_means_24 : decode cX8_means 24 = .ok (.ireturn, 1) := by decide +kernel
theorem dX8_law_0 : decode cX8_law 0 = .ok (.iload_n 1, 1) := by decide +kernel
theorem dX8_law_1 : decode cX8_law 1 = .ok (.bipush 8, 2) := by decide +kernel
theorem dX8_law_3 : decode cX8_law 3 = .ok (.invokestatic 48, 3) := by decide +kernel
theorem dX8_law_6 : decode cX8_law 6 = .ok (.ifCond .ne 10, 3) := by decide +kernel
theorem dX8_law_9 : decode cX8_law 9 = .ok (.aload_n 0, 1) := by decide +kernel
theorem dX8_law_10 : decode cX8_law 10 = .ok (.ldc 52, 2) := by decide +kernel
theorem dX8_law_12 : decode cX8_law 12 = .ok (.invokevirtual 53, 3) := by decide +kernel
theorem dX8_law_15 : decode cX8_law 15 = .ok (.ireturn, 1) := by decide +kernel
theorem dX8_law_16 : decode cX8_law 16 = .ok (.aload_n 0, 1) := by decide +kernel
theorem dX8_law_17 : decode cX8_law 17 = .ok (.getfield 12, 3) := by decide +kernel
theorem dX8_law_20 : decode cX8_law 20 = .ok (.iload_n 1, 1) := by decide +kernel
theorem dX8_law_21 : decode cX8_law 21 = .ok (.invokevirtual 205, 3) := by decide +kernel
theorem dX8_law_24 : decode cX8_law 24 = .ok (.ireturn, 1) := by decide +kernel
theorem dX8_why_0 : decode cX8_why 0 = .ok (.iload_n 1, 1) := by decide +kernel
theorem dX8_why_1 : decode cX8_why 1 = .ok (.bipush 24, 2) := by decide +kernel
theorem dX8_why_3 : decode cX8_why 3 = .ok (.invokestatic 48, 3) := by decide +kernel
theorem dX8_why_6 : decode cX8_why 6 = .ok (.ifCond .ne 10, 3) := by decide +kernel
theorem dX8_why_9 : decode cX8_why 9 = .ok (.aload_n 0, 1) := by decide +kernel
theorem dX8_why_10 : decode cX8_why 10 = .ok (.ldc 52, 2) := by decide +kernel
theorem dX8_why_12 : decode cX8_why 12 = .ok (.invokevirtual 53, 3) := by decide +kernel
theorem dX8_why_15 : decode cX8_why 15 = .ok (.ireturn, 1) := by decide +kernel
theorem dX8_why_16 : decode cX8_why 16 = .ok (.aload_n 0, 1) := by decide +kernel
theorem dX8_why_17 : decode cX8_why 17 = .ok (.getfield 12, 3) := by decide +kernel
theorem dX8_why_20 : decode cX8_why 20 = .ok (.getfield 188, 3) := by decide +kernel
