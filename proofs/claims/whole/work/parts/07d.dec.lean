theorem dX9_town_52 : decode cX9_town 52 = .ok (.aload_n 0, 1) := by decide +kernel
theorem dX9_town_53 : decode cX9_town 53 = .ok (.getfield 22, 3) := by decide +kernel
theorem dX9_town_56 : decode cX9_town 56 = .ok (.bipush 6, 2) := by decide +kernel
theorem dX9_town_58 : decode cX9_town 58 = .ok (.iload_n 2, 1) := by decide +kernel
theorem dX9_town_59 : decode cX9_town 59 = .ok (.imul, 1) := by decide +kernel
theorem dX9_town_60 : decode cX9_town 60 = .ok (.iload_n 3, 1) := by decide +kernel
theorem dX9_town_61 : decode cX9_town 61 = .ok (.iadd, 1) := by decide +kernel
theorem dX9_town_62 : decode cX9_town 62 = .ok (.iconst 0, 1) := by decide +kernel
theorem dX9_town_63 : decode cX9_town 63 = .ok (.iastore, 1) := by decide +kernel
theorem dX9_town_64 : decode cX9_town 64 = .ok (.iinc 3 1, 3) := by decide +kernel
theorem dX9_town_67 : decode cX9_town 67 = .ok (.goto (-21), 3) := by decide +kernel
theorem dX9_town_70 : decode cX9_town 70 = .ok (.aload_n 0, 1) := by decide +kernel
theorem dX9_town_71 : decode cX9_town 71 = .ok (.getfield 13, 3) := by decide +kernel
theorem dX9_town_74 : decode cX9_town 74 = .ok (.iconst 0, 1) := by decide +kernel
theorem dX9_town_75 : decode cX9_town 75 = .ok (.dup2, 1) := by decide +kernel
theorem dX9_town_76 : decode cX9_town 76 = .ok (.iaload, 1) := by decide +kernel
theorem dX9_town_77 : decode cX9_town 77 = .ok (.iconst 1, 1) := by decide +kernel
theorem dX9_town_78 : decode cX9_town 78 = .ok (.iadd, 1) := by decide +kernel
theorem dX9_town_79 : decode cX9_town 79 = .ok (.iastore, 1) := by decide +kernel
theorem dX9_town_80 : decode cX9_town 80 = .ok (.iload_n 2, 1) := by decide +kernel
theorem dX9_town_81 : decode cX9_town 81 = .ok (.ireturn, 1) := by decide +kernel
theorem dX9_houses_0 : decode cX9_houses 0 = .ok (.aload_n 0, 1) := by decide +kernel
theorem dX9_houses_1 : decode cX9_houses 1 = .ok (.iload_n 1, 1) := by decide +kernel
theorem dX9_houses_2 : decode cX9_houses 2 = .ok (.invokevirtual 101, 3) := by decide +kernel
theorem dX9_houses_5 : decode cX9_houses 5 = .ok (.ifCond .eq 23, 3) := by decide +kernel
theorem dX9_houses_8 : decode cX9_houses 8 = .ok (.iload_n 2, 1) := by decide +kernel
theorem dX9_houses_9 : decode cX9_houses 9 = .ok (.iconst 0, 1) := by decide +kernel
theorem dX9_houses_10 : decode cX9_houses 10 = .ok (.iconst 5, 1) := by decide +kernel
theorem dX9_houses_11 : decode cX9_houses 11 = .ok (.invokestatic 79, 3) := by decide +kernel
theorem dX9_houses_14 : decode cX9_houses 14 = .ok (.ifCond .eq 14, 3) := by decide +kernel
theorem dX9_houses_17 : decode cX9_houses 17 = .ok (.iload_n 3, 1) := by decide +kernel
theorem dX9_houses_18 : decode cX9_houses 18 = .ok (.iconst 0, 1) := by decide +kernel
theorem dX9_houses_19 : decode cX9_houses 19 = .ok (.sipush 9999, 3) := by decide +kernel
theorem dX9_houses_22 : decode cX9_houses 22 = .ok (.invokestatic 79, 3) := by decide +kernel
theorem dX9_houses_25 : decode cX9_houses 25 = .ok (.ifCond .ne 9, 3) := by decide +kernel
theorem dX9_houses_28 : decode cX9_houses 28 = .ok (.aload_n 0, 1) := by decide +kernel
theorem dX9_houses_29 : decode cX9_houses 29 = .ok (.iconst 1, 1) := by decide +kernel
theorem dX9_houses_30 : decode cX9_houses 30 = .ok (.invokevirtual 97, 3) := by decide +kernel
theorem dX9_houses_33 : decode cX9_houses 33 = .ok (.ireturn, 1) := by decide +kernel
theorem dX9_houses_34 : decode cX9_houses 34 = .ok (.aload_n 0, 1) := by decide +kernel
theorem dX9_houses_35 : decode cX9_houses 35 = .ok (.getfield 22, 3) := by decide +kernel
theorem dX9_houses_38 : decode cX9_houses 38 = .ok (.bipush 6, 2) := by decide +kernel
theorem dX9_houses_40 : decode cX9_houses 40 = .ok (.iload_n 1, 1) := by decide +kernel
theorem dX9_houses_41 : decode cX9_houses 41 = .ok (.imul, 1) := by decide +kernel
theorem dX9_houses_42 : decode cX9_houses 42 = .ok (.iload_n 2, 1) := by decide +kernel
theorem dX9_houses_43 : decode cX9_houses 43 = .ok (.iadd, 1) := by decide +kernel
theorem dX9_houses_44 : decode cX9_houses 44 = .ok (.iaload, 1) := by decide +kernel
theorem dX9_houses_45 : decode cX9_houses 45 = .ok (.istore 4, 2) := by decide +kernel
theorem dX9_houses_47 : decode cX9_houses 47 = .ok (.aload_n 0, 1) := by decide +kernel
theorem dX9_houses_48 : decode cX9_houses 48 = .ok (.getfield 22, 3) := by decide +kernel
theorem dX9_houses_51 : decode cX9_houses 51 = .ok (.bipush 6, 2) := by decide +kernel
theorem dX9_houses_53 : decode cX9_houses 53 = .ok (.iload_n 1, 1) := by decide +kernel
theorem dX9_houses_54 : decode cX9_houses 54 = .ok (.imul, 1) := by decide +kernel
theorem dX9_houses_55 : decode cX9_houses 55 = .ok (.iload_n 2, 1) := by decide +kernel
theorem dX9_houses_56 : decode cX9_houses 56 = .ok (.iadd, 1) := by decide +kernel
theorem dX9_houses_57 : decode cX9_houses 57 = .ok (.iload_n 3, 1) := by decide +kernel
theorem dX9_houses_58 : decode cX9_houses 58 = .ok (.iastore, 1) := by decide +kernel
theorem dX9_houses_59 : decode cX9_houses 59 = .ok (.iload 4, 2) := by decide +kernel
theorem dX9_houses_61 : decode cX9_houses 61 = .ok (.ireturn, 1) := by decide +kernel
theorem dX9_built_0 : decode cX9_built 0 = .ok (.aload_n 0, 1) := by decide +kernel
theorem dX9_built_1 : decode cX9_built 1 = .ok (.iload_n 1, 1) := by decide +kernel
theorem dX9_built_2 : decode cX9_built 2 = .ok (.invokevirtual 101, 3) := by decide +kernel
theorem dX9_built_5 : decode cX9_built 5 = .ok (.ifCond .eq 10, 3) := by decide +kernel
theorem dX9_built_8 : decode cX9_built 8 = .ok (.iload_n 2, 1) := by decide +kernel
theorem dX9_built_9 : decode cX9_built 9 = .ok (.invokestatic 104, 3) := by decide +kernel
theorem dX9_built_12 : decode cX9_built 12 = .ok (.ifCond .ne 9, 3) := by decide +kernel
theorem dX9_built_15 : decode cX9_built 15 = .ok (.aload_n 0, 1) := by decide +kernel
theorem dX9_built_16 : decode cX9_built 16 = .ok (.iconst 1, 1) := by decide +kernel
theorem dX9_built_17 : decode cX9_built 17 = .ok (.invokevirtual 97, 3) := by decide +kernel
theorem dX9_built_20 : decode cX9_built 20 = .ok (.ireturn, 1) := by decide +kernel
theorem dX9_built_21 : decode cX9_built 21 = .ok (.aload_n 0, 1) := by decide +kernel
theorem dX9_built_22 : decode cX9_built 22 = .ok (.getfield 63, 3) := by decide +kernel
theorem dX9_built_25 : decode cX9_built 25 = .ok (.iload_n 2, 1) := by decide +kernel
theorem dX9_built_26 : decode cX9_built 26 = .ok (.iaload, 1) := by decide +kernel
theorem dX9_built_27 : decode cX9_built 27 = .ok (.ifCond .ne 10, 3) := by decide +kernel
theorem dX9_built_30 : decode cX9_built 30 = .ok (.aload_n 0, 1) := by decide +kernel
theorem dX9_built_31 : decode cX9_built 31 = .ok (.bipush 6, 2) := by decide +kernel
theorem dX9_built_33 : decode cX9_built 33 = .ok (.invokevirtual 97, 3) := by decide +kernel
theorem dX9_built_36 : decode cX9_built 36 = .ok (.ireturn, 1) := by decide +kernel
theorem dX9_built_37 : decode cX9_built 37 = .ok (.aload_n 0, 1) := by decide +kernel
theorem dX9_built_38 : decode cX9_built 38 = .ok (.getfield 66, 3) := by decide +kernel
theorem dX9_built_41 : decode cX9_built 41 = .ok (.iload_n 2, 1) := by decide +kernel
theorem dX9_built_42 : decode cX9_built 42 = .ok (.iaload, 1) := by decide +kernel
theorem dX9_built_43 : decode cX9_built 43 = .ok (.iconst 3, 1) := by decide +kernel
theorem dX9_built_44 : decode cX9_built 44 = .ok (.if_icmp .eq 10, 3) := by decide +kernel
theorem dX9_built_47 : decode cX9_built 47 = .ok (.aload_n 0, 1) := by decide +kernel
theorem dX9_built_48 : decode cX9_built 48 = .ok (.bipush 7, 2) := by decide +kernel
theorem dX9_built_50 : decode cX9_built 50 = .ok (.invokevirtual 97, 3) := by decide +kernel
theorem dX9_built_53 : decode cX9_built 53 = .ok (.ireturn, 1) := by decide +kernel
theorem dX9_built_54 : decode cX9_built 54 = .ok (.iconst 0, 1) := by decide +kernel
theorem dX9_built_55 : decode cX9_built 55 = .ok (.istore_n 3, 1) := by decide +kernel
theorem dX9_built_56 : decode cX9_built 56 = .ok (.iload_n 3, 1) := by decide +kernel
theorem dX9_built_57 : decode cX9_built 57 = .ok (.iconst 3, 1) := by decide +kernel
theorem dX9_built_58 : decode cX9_built 58 = .ok (.if_icmp .ge 44, 3) := by decide +kernel
theorem dX9_built_61 : decode cX9_built 61 = .ok (.aload_n 0, 1) := by decide +kernel
theorem dX9_built_62 : decode cX9_built 62 = .ok (.getfield 69, 3) := by decide +kernel
theorem dX9_built_65 : decode cX9_built 65 = .ok (.bipush 40, 2) := by decide +kernel
theorem dX9_built_67 : decode cX9_built 67 = .ok (.iload_n 2, 1) := by decide +kernel
theorem dX9_built_68 : decode cX9_built 68 = .ok (.imul, 1) := by decide +kernel
theorem dX9_built_69 : decode cX9_built 69 = .ok (.iload_n 3, 1) := by decide +kernel
theorem dX9_built_70 : decode cX9_built 70 = .ok (.iadd, 1) := by decide +kernel
theorem dX9_built_71 : decode cX9_built 71 = .ok (.laload, 1) := by decide +kernel
theorem dX9_built_72 : decode cX9_built 72 = .ok (.lstore 4, 2) := by decide +kernel
theorem dX9_built_74 : decode cX9_built 74 = .ok (.lload 4, 2) := by decide +kernel
theorem dX9_built_76 : decode cX9_built 76 = .ok (.lconst 0, 1) := by decide +kernel
theorem dX9_built_77 : decode cX9_built 77 = .ok (.lcmp, 1) := by decide +kernel
theorem dX9_built_78 : decode cX9_built 78 = .ok (.ifCond .lt 12, 3) := by decide +kernel
theorem dX9_built_81 : decode cX9_built 81 = .ok (.lload 4, 2) := by decide +kernel
theorem dX9_built_83 : decode cX9_built 83 = .ok (.ldc2_w 107, 3) := by decide +kernel
theorem dX9_built_86 : decode cX9_built 86 = .ok (.lcmp, 1) := by decide +kernel
theorem dX9_built_87 : decode cX9_built 87 = .ok (.ifCond .le 9, 3) := by decide +kernel
theorem dX9_built_90 : decode cX9_built 90 = .ok (.aload_n 0, 1) := by decide +kernel
theorem dX9_built_91 : decode cX9_built 91 = .ok (.iconst 1, 1) := by decide +kernel
theorem dX9_built_92 : decode cX9_built 92 = .ok (.invokevirtual 97, 3) := by decide +kernel
theorem dX9_built_95 : decode cX9_built 95 = .ok (.ireturn, 1) := by decide +kernel
theorem dX9_built_96 : decode cX9_built 96 = .ok (.iinc 3 1, 3) := by decide +kernel
theorem dX9_built_99 : decode cX9_built 99 = .ok (.goto (-43), 3) := by decide +kernel
theorem dX9_built_102 : decode cX9_built 102 = .ok (.iconst 0, 1) := by decide +kernel
theorem dX9_built_103 : decode cX9_built 103 = .ok (.istore_n 3, 1) := by decide +kernel
theorem dX9_built_104 : decode cX9_built 104 = .ok (.iconst 0, 1) := by decide +kernel
theorem dX9_built_105 : decode cX9_built 105 = .ok (.istore 4, 2) := by decide +kernel
theorem dX9_built_107 : decode cX9_built 107 = .ok (.iload 4, 2) := by decide +kernel
theorem dX9_built_109 : decode cX9_built 109 = .ok (.iconst 3, 1) := by decide +kernel
theorem dX9_built_110 : decode cX9_built 110 = .ok (.if_icmp .ge 71, 3) := by decide +kernel
theorem dX9_built_113 : decode cX9_built 113 = .ok (.bipush 6, 2) := by decide +kernel
theorem dX9_built_115 : decode cX9_built 115 = .ok (.iload_n 1, 1) := by decide +kernel
theorem dX9_built_116 : decode cX9_built 116 = .ok (.imul, 1) := by decide +kernel
theorem dX9_built_117 : decode cX9_built 117 = .ok (.iconst 3, 1) := by decide +kernel
theorem dX9_built_118 : decode cX9_built 118 = .ok (.iadd, 1) := by decide +kernel
theorem dX9_built_119 : decode cX9_built 119 = .ok (.iload 4, 2) := by decide +kernel
theorem dX9_built_121 : decode cX9_built 121 = .ok (.iadd, 1) := by decide +kernel
theorem dX9_built_122 : decode cX9_built 122 = .ok (.istore 5, 2) := by decide +kernel
theorem dX9_built_124 : decode cX9_built 124 = .ok (.iload_n 3, 1) := by decide +kernel
theorem dX9_built_125 : decode cX9_built 125 = .ok (.aload_n 0, 1) := by decide +kernel
theorem dX9_built_126 : decode cX9_built 126 = .ok (.getfield 22, 3) := by decide +kernel
theorem dX9_built_129 : decode cX9_built 129 = .ok (.iload 5, 2) := by decide +kernel
theorem dX9_built_131 : decode cX9_built 131 = .ok (.iaload, 1) := by decide +kernel
theorem dX9_built_132 : decode cX9_built 132 = .ok (.aload_n 0, 1) := by decide +kernel
theorem dX9_built_133 : decode cX9_built 133 = .ok (.getfield 69, 3) := by decide +kernel
theorem dX9_built_136 : decode cX9_built 136 = .ok (.bipush 40, 2) := by decide +kernel
theorem dX9_built_138 : decode cX9_built 138 = .ok (.iload_n 2, 1) := by decide +kernel
theorem dX9_built_139 : decode cX9_built 139 = .ok (.imul, 1) := by decide +kernel
theorem dX9_built_140 : decode cX9_built 140 = .ok (.iload 4, 2) := by decide +kernel
theorem dX9_built_142 : decode cX9_built 142 = .ok (.iadd, 1) := by decide +kernel
theorem dX9_built_143 : decode cX9_built 143 = .ok (.laload, 1) := by decide +kernel
theorem dX9_built_144 : decode cX9_built 144 = .ok (.l2i, 1) := by decide +kernel
theorem dX9_built_145 : decode cX9_built 145 = .ok (.if_icmp .eq 7, 3) := by decide +kernel
theorem dX9_built_148 : decode cX9_built 148 = .ok (.iconst 1, 1) := by decide +kernel
theorem dX9_built_149 : decode cX9_built 149 = .ok (.goto 4, 3) := by decide +kernel
theorem dX9_built_152 : decode cX9_built 152 = .ok (.iconst 0, 1) := by decide +kernel
theorem dX9_built_153 : decode cX9_built 153 = .ok (.iadd, 1) := by decide +kernel
theorem dX9_built_154 : decode cX9_built 154 = .ok (.istore_n 3, 1) := by decide +kernel
theorem dX9_built_155 : decode cX9_built 155 = .ok (.aload_n 0, 1) := by decide +kernel
theorem dX9_built_156 : decode cX9_built 156 = .ok (.getfield 22, 3) := by decide +kernel
theorem dX9_built_159 : decode cX9_built 159 = .ok (.iload 5, 2) := by decide +kernel
theorem dX9_built_161 : decode cX9_built 161 = .ok (.aload_n 0, 1) := by decide +kernel
theorem dX9_built_162 : decode cX9_built 162 = .ok (.getfield 69, 3) := by decide +kernel
theorem dX9_built_165 : decode cX9_built 165 = .ok (.bipush 40, 2) := by decide +kernel
theorem dX9_built_167 : decode cX9_built 167 = .ok (.iload_n 2, 1) := by decide +kernel
theorem dX9_built_168 : decode cX9_built 168 = .ok (.imul, 1) := by decide +kernel
theorem dX9_built_169 : decode cX9_built 169 = .ok (.iload 4, 2) := by decide +kernel
theorem dX9_built_171 : decode cX9_built 171 = .ok (.iadd, 1) := by decide +kernel
theorem dX9_built_172 : decode cX9_built 172 = .ok (.laload, 1) := by decide +kernel
theorem dX9_built_173 : decode cX9_built 173 = .ok (.l2i, 1) := by decide +kernel
theorem dX9_built_174 : decode cX9_built 174 = .ok (.iastore, 1) := by decide +kernel
theorem dX9_built_175 : decode cX9_built 175 = .ok (.iinc 4 1, 3) := by decide +kernel
theorem dX9_built_178 : decode cX9_built 178 = .ok (.goto (-71), 3) := by decide +kernel
theorem dX9_built_181 : decode cX9_built 181 = .ok (.iload_n 3, 1) := by decide +kernel
theorem dX9_built_182 : decode cX9_built 182 = .ok (.ireturn, 1) := by decide +kernel
theorem dX9_of_0 : decode cX9_of 0 = .ok (.aload_n 0, 1) := by decide +kernel
theorem dX9_of_1 : decode cX9_of 1 = .ok (.iload_n 1, 1) := by decide +kernel
theorem dX9_of_2 : decode cX9_of 2 = .ok (.invokevirtual 101, 3) := by decide +kernel
theorem dX9_of_5 : decode cX9_of 5 = .ok (.ifCond .eq 12, 3) := by decide +kernel
theorem dX9_of_8 : decode cX9_of 8 = .ok (.iload_n 2, 1) := by decide +kernel
theorem dX9_of_9 : decode cX9_of 9 = .ok (.iconst 0, 1) := by decide +kernel
theorem dX9_of_10 : decode cX9_of 10 = .ok (.iconst 4, 1) := by decide +kernel
theorem dX9_of_11 : decode cX9_of 11 = .ok (.invokestatic 79, 3) := by decide +kernel
theorem dX9_of_14 : decode cX9_of 14 = .ok (.ifCond .ne 9, 3) := by decide +kernel
theorem dX9_of_17 : decode cX9_of 17 = .ok (.aload_n 0, 1) := by decide +kernel
theorem dX9_of_18 : decode cX9_of 18 = .ok (.iconst 1, 1) := by decide +kernel
theorem dX9_of_19 : decode cX9_of 19 = .ok (.invokevirtual 97, 3) := by decide +kernel
theorem dX9_of_22 : decode cX9_of 22 = .ok (.ireturn, 1) := by decide +kernel
theorem dX9_of_23 : decode cX9_of 23 = .ok (.aload_n 0, 1) := by decide +kernel
theorem dX9_of_24 : decode cX9_of 24 = .ok (.iconst (-1), 1) := by decide +kernel
theorem dX9_of_25 : decode cX9_of 25 = .ok (.invokevirtual 109, 3) := by decide +kernel
theorem dX9_of_28 : decode cX9_of 28 = .ok (.iconst 0, 1) := by decide +kernel
theorem dX9_of_29 : decode cX9_of 29 = .ok (.istore_n 3, 1) := by decide +kernel
theorem dX9_of_30 : decode cX9_of 30 = .ok (.iload_n 2, 1) := by decide +kernel
theorem dX9_of_31 : decode cX9_of 31 = .ok (.ifCond .ne 10, 3) := by decide +kernel
theorem dX9_of_34 : decode cX9_of 34 = .ok (.aload_n 0, 1) := by decide +kernel
theorem dX9_of_35 : decode cX9_of 35 = .ok (.getfield 19, 3) := by decide +kernel
theorem dX9_of_38 : decode cX9_of 38 = .ok (.iload_n 1, 1) := by decide +kernel
theorem dX9_of_39 : decode cX9_of 39 = .ok (.iaload, 1) := by decide +kernel
theorem dX9_of_40 : decode cX9_of 40 = .ok (.ireturn, 1) := by decide +kernel
theorem dX9_of_41 : decode cX9_of 41 = .ok (.iconst 0, 1) := by decide +kernel
theorem dX9_of_42 : decode cX9_of 42 = .ok (.istore 4, 2) := by decide +kernel
theorem dX9_of_44 : decode cX9_of 44 = .ok (.iload 4, 2) := by decide +kernel
theorem dX9_of_46 : decode cX9_of 46 = .ok (.aload_n 0, 1) := by decide +kernel
theorem dX9_of_47 : decode cX9_of 47 = .ok (.getfield 13, 3) := by decide +kernel
theorem dX9_of_50 : decode cX9_of 50 = .ok (.iconst 1, 1) := by decide +kernel
theorem dX9_of_51 : decode cX9_of 51 = .ok (.iaload, 1) := by decide +kernel
theorem dX9_of_52 : decode cX9_of 52 = .ok (.if_icmp .ge 53, 3) := by decide +kernel
theorem dX9_of_55 : decode cX9_of 55 = .ok (.iload_n 2, 1) := by decide +kernel
theorem dX9_of_56 : decode cX9_of 56 = .ok (.iconst 3, 1) := by decide +kernel
theorem dX9_of_57 : decode cX9_of 57 = .ok (.if_icmp .ge 48, 3) := by decide +kernel
theorem dX9_of_60 : decode cX9_of 60 = .ok (.iload_n 3, 1) := by decide +kernel
theorem dX9_of_61 : decode cX9_of 61 = .ok (.aload_n 0, 1) := by decide +kernel
theorem dX9_of_62 : decode cX9_of 62 = .ok (.getfield 25, 3) := by decide +kernel
theorem dX9_of_65 : decode cX9_of 65 = .ok (.bipush 9, 2) := by decide +kernel
theorem dX9_of_67 : decode cX9_of 67 = .ok (.iload 4, 2) := by decide +kernel
theorem dX9_of_69 : decode cX9_of 69 = .ok (.imul, 1) := by decide +kernel
theorem dX9_of_70 : decode cX9_of 70 = .ok (.iconst 1, 1) := by decide +kernel
theorem dX9_of_71 : decode cX9_of 71 = .ok (.iadd, 1) := by decide +kernel
theorem dX9_of_72 : decode cX9_of 72 = .ok (.iaload, 1) := by decide +kernel
theorem dX9_of_73 : decode cX9_of 73 = .ok (.iload_n 1, 1) := by decide +kernel
theorem dX9_of_74 : decode cX9_of 74 = .ok (.if_icmp .ne 22, 3) := by decide +kernel
theorem dX9_of_77 : decode cX9_of 77 = .ok (.iload_n 2, 1) := by decide +kernel
theorem dX9_of_78 : decode cX9_of 78 = .ok (.iconst 1, 1) := by decide +kernel
theorem dX9_of_79 : decode cX9_of 79 = .ok (.if_icmp .eq 13, 3) := by decide +kernel
theorem dX9_of_82 : decode cX9_of 82 = .ok (.aload_n 0, 1) := by decide +kernel
theorem dX9_of_83 : decode cX9_of 83 = .ok (.getfield 37, 3) := by decide +kernel
theorem dX9_of_86 : decode cX9_of 86 = .ok (.iload 4, 2) := by decide +kernel
theorem dX9_of_88 : decode cX9_of 88 = .ok (.baload, 1) := by decide +kernel
theorem dX9_of_89 : decode cX9_of 89 = .ok (.ifCond .eq 7, 3) := by decide +kernel
theorem dX9_of_92 : decode cX9_of 92 = .ok (.iconst 1, 1) := by decide +kernel
theorem dX9_of_93 : decode cX9_of 93 = .ok (.goto 4, 3) := by decide +kernel
theorem dX9_of_96 : decode cX9_of 96 = .ok (.iconst 0, 1) := by decide +kernel
theorem dX9_of_97 : decode cX9_of 97 = .ok (.iadd, 1) := by decide +kernel
theorem dX9_of_98 : decode cX9_of 98 = .ok (.istore_n 3, 1) := by decide +kernel
theorem dX9_of_99 : decode cX9_of 99 = .ok (.iinc 4 1, 3) := by decide +kernel
theorem dX9_of_102 : decode cX9_of 102 = .ok (.goto (-58), 3) := by decide +kernel
theorem dX9_of_105 : decode cX9_of 105 = .ok (.iconst 0, 1) := by decide +kernel
theorem dX9_of_106 : decode cX9_of 106 = .ok (.istore 4, 2) := by decide +kernel
theorem dX9_of_108 : decode cX9_of 108 = .ok (.iload 4, 2) := by decide +kernel
theorem dX9_of_110 : decode cX9_of 110 = .ok (.iconst 3, 1) := by decide +kernel
theorem dX9_of_111 : decode cX9_of 111 = .ok (.if_icmp .ge 35, 3) := by decide +kernel
theorem dX9_of_114 : decode cX9_of 114 = .ok (.iload_n 2, 1) := by decide +kernel
theorem dX9_of_115 : decode cX9_of 115 = .ok (.iconst 2, 1) := by decide +kernel
theorem dX9_of_116 : decode cX9_of 116 = .ok (.if_icmp .le 30, 3) := by decide +kernel
theorem dX9_of_119 : decode cX9_of 119 = .ok (.iload_n 3, 1) := by decide +kernel
theorem dX9_of_120 : decode cX9_of 120 = .ok (.aload_n 0, 1) := by decide +kernel
theorem dX9_of_121 : decode cX9_of 121 = .ok (.getfield 22, 3) := by decide +kernel
theorem dX9_of_124 : decode cX9_of 124 = .ok (.bipush 6, 2) := by decide +kernel
theorem dX9_of_126 : decode cX9_of 126 = .ok (.iload_n 1, 1) := by decide +kernel
theorem dX9_of_127 : decode cX9_of 127 = .ok (.imul, 1) := by decide +kernel
theorem dX9_of_128 : decode cX9_of 128 = .ok (.iconst 3, 1) := by decide +kernel
theorem dX9_of_129 : decode cX9_of 129 = .ok (.iload_n 2, 1) := by decide +kernel
theorem dX9_of_130 : decode cX9_of 130 = .ok (.iconst 3, 1) := by decide +kernel
theorem dX9_of_131 : decode cX9_of 131 = .ok (.isub, 1) := by decide +kernel
theorem dX9_of_132 : decode cX9_of 132 = .ok (.imul, 1) := by decide +kernel
theorem dX9_of_133 : decode cX9_of 133 = .ok (.iadd, 1) := by decide +kernel
theorem dX9_of_134 : decode cX9_of 134 = .ok (.iload 4, 2) := by decide +kernel
theorem dX9_of_136 : decode cX9_of 136 = .ok (.iadd, 1) := by decide +kernel
theorem dX9_of_137 : decode cX9_of 137 = .ok (.iaload, 1) := by decide +kernel
theorem dX9_of_138 : decode cX9_of 138 = .ok (.iadd, 1) := by decide +kernel
theorem dX9_of_139 : decode cX9_of 139 = .ok (.istore_n 3, 1) := by decide +kernel
theorem dX9_of_140 : decode cX9_of 140 = .ok (.iinc 4 1, 3) := by decide +kernel
theorem dX9_of_143 : decode cX9_of 143 = .ok (.goto (-35), 3) := by decide +kernel
theorem dX9_of_146 : decode cX9_of 146 = .ok (.iload_n 3, 1) := by decide +kernel
theorem dX9_of_147 : decode cX9_of 147 = .ok (.ireturn, 1) := by decide +kernel
theorem dX9_tick_0 : decode cX9_tick 0 = .ok (.iload_n 1, 1) := by decide +kernel
theorem dX9_tick_1 : decode cX9_tick 1 = .ok (.iconst 1, 1) := by decide +kernel
theorem dX9_tick_2 : decode cX9_tick 2 = .ok (.sipush 400, 3) := by decide +kernel
theorem dX9_tick_5 : decode cX9_tick 5 = .ok (.invokestatic 79, 3) := by decide +kernel
theorem dX9_tick_8 : decode cX9_tick 8 = .ok (.ifCond .ne 9, 3) := by decide +kernel
theorem dX9_tick_11 : decode cX9_tick 11 = .ok (.aload_n 0, 1) := by decide +kernel
theorem dX9_tick_12 : decode cX9_tick 12 = .ok (.iconst 1, 1) := by decide +kernel
theorem dX9_tick_13 : decode cX9_tick 13 = .ok (.invokevirtual 97, 3) := by decide +kernel
theorem dX9_tick_16 : decode cX9_tick 16 = .ok (.ireturn, 1) := by decide +kernel
theorem dX9_tick_17 : decode cX9_tick 17 = .ok (.aload_n 0, 1) := by decide +kernel
theorem dX9_tick_18 : decode cX9_tick 18 = .ok (.getfield 13, 3) := by decide +kernel
theorem dX9_tick_21 : decode cX9_tick 21 = .ok (.iconst 4, 1) := by decide +kernel
theorem dX9_tick_22 : decode cX9_tick 22 = .ok (.iaload, 1) := by decide +kernel
theorem dX9_tick_23 : decode cX9_tick 23 = .ok (.iload_n 1, 1) := by decide +kernel
theorem dX9_tick_24 : decode cX9_tick 24 = .ok (.iadd, 1) := by decide +kernel
theorem dX9_tick_25 : decode cX9_tick 25 = .ok (.sipush 9999, 3) := by decide +kernel
theorem dX9_tick_28 : decode cX9_tick 28 = .ok (.if_icmp .le 9, 3) := by decide +kernel
theorem dX9_tick_31 : decode cX9_tick 31 = .ok (.aload_n 0, 1) := by decide +kernel
theorem dX9_tick_32 : decode cX9_tick 32 = .ok (.iconst 2, 1) := by decide +kernel
theorem dX9_tick_33 : decode cX9_tick 33 = .ok (.invokevirtual 97, 3) := by decide +kernel
theorem dX9_tick_36 : decode cX9_tick 36 = .ok (.ireturn, 1) := by decide +kernel
theorem dX9_tick_37 : decode cX9_tick 37 = .ok (.aload_n 0, 1) := by decide +kernel
theorem dX9_tick_38 : decode cX9_tick 38 = .ok (.getfield 13, 3) := by decide +kernel
theorem dX9_tick_41 : decode cX9_tick 41 = .ok (.iconst 4, 1) := by decide +kernel
theorem dX9_tick_42 : decode cX9_tick 42 = .ok (.dup2, 1) := by decide +kernel
theorem dX9_tick_43 : decode cX9_tick 43 = .ok (.iaload, 1) := by decide +kernel
theorem dX9_tick_44 : decode cX9_tick 44 = .ok (.iload_n 1, 1) := by decide +kernel
theorem dX9_tick_45 : decode cX9_tick 45 = .ok (.iadd, 1) := by decide +kernel
theorem dX9_tick_46 : decode cX9_tick 46 = .ok (.iastore, 1) := by decide +kernel
theorem dX9_tick_47 : decode cX9_tick 47 = .ok (.aload_n 0, 1) := by decide +kernel
theorem dX9_tick_48 : decode cX9_tick 48 = .ok (.getfield 13, 3) := by decide +kernel
theorem dX9_tick_51 : decode cX9_tick 51 = .ok (.iconst 4, 1) := by decide +kernel
theorem dX9_tick_52 : decode cX9_tick 52 = .ok (.iaload, 1) := by decide +kernel
theorem dX9_tick_53 : decode cX9_tick 53 = .ok (.ireturn, 1) := by decide +kernel
theorem dX9_isFrom_0 : decode cX9_isFrom 0 = .ok (.iload_n 1, 1) := by decide +kernel
theorem dX9_isFrom_1 : decode cX9_isFrom 1 = .ok (.iconst 3, 1) := by decide +kernel
theorem dX9_isFrom_2 : decode cX9_isFrom 2 = .ok (.if_icmp .ne 11, 3) := by decide +kernel
theorem dX9_isFrom_5 : decode cX9_isFrom 5 = .ok (.aload_n 0, 1) := by decide +kernel
theorem dX9_isFrom_6 : decode cX9_isFrom 6 = .ok (.iload_n 2, 1) := by decide +kernel
theorem dX9_isFrom_7 : decode cX9_isFrom 7 = .ok (.invokevirtual 113, 3) := by decide +kernel
theorem dX9_isFrom_10 : decode cX9_isFrom 10 = .ok (.goto 39, 3) := by decide +kernel
theorem dX9_isFrom_13 : decode cX9_isFrom 13 = .ok (.iload_n 1, 1) := by decide +kernel
theorem dX9_isFrom_14 : decode cX9_isFrom 14 = .ok (.iconst 2, 1) := by decide +kernel
theorem dX9_isFrom_15 : decode cX9_isFrom 15 = .ok (.if_icmp .ne 24, 3) := by decide +kernel
theorem dX9_isFrom_18 : decode cX9_isFrom 18 = .ok (.iload_n 2, 1) := by decide +kernel
theorem dX9_isFrom_19 : decode cX9_isFrom 19 = .ok (.iconst (-1), 1) := by decide +kernel
theorem dX9_isFrom_20 : decode cX9_isFrom 20 = .ok (.if_icmp .eq 11, 3) := by decide +kernel
theorem dX9_isFrom_23 : decode cX9_isFrom 23 = .ok (.aload_n 0, 1) := by decide +kernel
theorem dX9_isFrom_24 : decode cX9_isFrom 24 = .ok (.iload_n 2, 1) := by decide +kernel
theorem dX9_isFrom_25 : decode cX9_isFrom 25 = .ok (.invokevirtual 113, 3) := by decide +kernel
theorem dX9_isFrom_28 : decode cX9_isFrom 28 = .ok (.ifCond .eq 7, 3) := by decide +kernel
theorem dX9_isFrom_31 : decode cX9_isFrom 31 = .ok (.iconst 1, 1) := by decide +kernel
theorem dX9_isFrom_32 : decode cX9_isFrom 32 = .ok (.goto 17, 3) := by decide +kernel
theorem dX9_isFrom_35 : decode cX9_isFrom 35 = .ok (.iconst 0, 1) := by decide +kernel
theorem dX9_isFrom_36 : decode cX9_isFrom 36 = .ok (.goto 13, 3) := by decide +kernel
theorem dX9_isFrom_39 : decode cX9_isFrom 39 = .ok (.iload_n 2, 1) := by decide +kernel
theorem dX9_isFrom_40 : decode cX9_isFrom 40 = .ok (.iconst (-1), 1) := by decide +kernel
theorem dX9_isFrom_41 : decode cX9_isFrom 41 = .ok (.if_icmp .ne 7, 3) := by decide +kernel
theorem dX9_isFrom_44 : decode cX9_isFrom 44 = .ok (.iconst 1, 1) := by decide +kernel
theorem dX9_isFrom_45 : decode cX9_isFrom 45 = .ok (.goto 4, 3) := by decide +kernel
theorem dX9_isFrom_48 : decode cX9_isFrom 48 = .ok (.iconst 0, 1) := by decide +kernel
theorem dX9_isFrom_49 : decode cX9_isFrom 49 = .ok (.ireturn, 1) := by decide +kernel
theorem dX9_letter_0 : decode cX9_letter 0 = .ok (.iload_n 1, 1) := by decide +kernel
theorem dX9_letter_1 : decode cX9_letter 1 = .ok (.iconst 0, 1) := by decide +kernel
theorem dX9_letter_2 : decode cX9_letter 2 = .ok (.iconst 5, 1) := by decide +kernel
theorem dX9_letter_3 : decode cX9_letter 3 = .ok (.invokestatic 79, 3) := by decide +kernel
theorem dX9_letter_6 : decode cX9_letter 6 = .ok (.ifCond .eq 46, 3) := by decide +kernel
theorem dX9_letter_9 : decode cX9_letter 9 = .ok (.iload_n 2, 1) := by decide +kernel
theorem dX9_letter_10 : decode cX9_letter 10 = .ok (.ifCond .lt 42, 3) := by decide +kernel
theorem dX9_letter_13 : decode cX9_letter 13 = .ok (.aload_n 0, 1) := by decide +kernel
theorem dX9_letter_14 : decode cX9_letter 14 = .ok (.iload_n 2, 1) := by decide +kernel
theorem dX9_letter_15 : decode cX9_letter 15 = .ok (.bipush 100, 2) := by decide +kernel
theorem dX9_letter_17 : decode cX9_letter 17 = .ok (.idiv, 1) := by decide +kernel
theorem dX9_letter_18 : decode cX9_letter 18 = .ok (.invokevirtual 101, 3) := by decide +kernel
theorem dX9_letter_21 : decode cX9_letter 21 = .ok (.ifCond .eq 31, 3) := by decide +kernel
theorem dX9_letter_24 : decode cX9_letter 24 = .ok (.iload_n 2, 1) := by decide +kernel
theorem dX9_letter_25 : decode cX9_letter 25 = .ok (.bipush 100, 2) := by decide +kernel
theorem dX9_letter_27 : decode cX9_letter 27 = .ok (.irem, 1) := by decide +kernel
theorem dX9_letter_28 : decode cX9_letter 28 = .ok (.bipush 15, 2) := by decide +kernel
theorem dX9_letter_30 : decode cX9_letter 30 = .ok (.if_icmp .gt 22, 3) := by decide +kernel
theorem dX9_letter_33 : decode cX9_letter 33 = .ok (.iload_n 3, 1) := by decide +kernel
theorem dX9_letter_34 : decode cX9_letter 34 = .ok (.iconst 0, 1) := by decide +kernel
theorem dX9_letter_35 : decode cX9_letter 35 = .ok (.sipush 9994, 3) := by decide +kernel
theorem dX9_letter_38 : decode cX9_letter 38 = .ok (.invokestatic 79, 3) := by decide +kernel
theorem dX9_letter_41 : decode cX9_letter 41 = .ok (.ifCond .eq 11, 3) := by decide +kernel
theorem dX9_letter_44 : decode cX9_letter 44 = .ok (.iload_n 3, 1) := by decide +kernel
theorem dX9_letter_45 : decode cX9_letter 45 = .ok (.bipush 10, 2) := by decide +kernel
theorem dX9_letter_47 : decode cX9_letter 47 = .ok (.irem, 1) := by decide +kernel
theorem dX9_letter_48 : decode cX9_letter 48 = .ok (.iconst 4, 1) := by decide +kernel
theorem dX9_letter_49 : decode cX9_letter 49 = .ok (.if_icmp .le 9, 3) := by decide +kernel
theorem dX9_letter_52 : decode cX9_letter 52 = .ok (.aload_n 0, 1) := by decide +kernel
theorem dX9_letter_53 : decode cX9_letter 53 = .ok (.iconst 1, 1) := by decide +kernel
theorem dX9_letter_54 : decode cX9_letter 54 = .ok (.invokevirtual 97, 3) := by decide +kernel
theorem dX9_letter_57 : decode cX9_letter 57 = .ok (.ireturn, 1) := by decide +kernel
theorem dX9_letter_58 : decode cX9_letter 58 = .ok (.aload_n 0, 1) := by decide +kernel
theorem dX9_letter_59 : decode cX9_letter 59 = .ok (.iload_n 1, 1) := by decide +kernel
theorem dX9_letter_60 : decode cX9_letter 60 = .ok (.iload 4, 2) := by decide +kernel
theorem dX9_letter_62 : decode cX9_letter 62 = .ok (.invokevirtual 116, 3) := by decide +kernel
theorem dX9_letter_65 : decode cX9_letter 65 = .ok (.ifCond .eq 33, 3) := by decide +kernel
theorem dX9_letter_68 : decode cX9_letter 68 = .ok (.iload 5, 2) := by decide +kernel
theorem dX9_letter_70 : decode cX9_letter 70 = .ok (.iconst 0, 1) := by decide +kernel
theorem dX9_letter_71 : decode cX9_letter 71 = .ok (.sipush 995, 3) := by decide +kernel
theorem dX9_letter_74 : decode cX9_letter 74 = .ok (.invokestatic 79, 3) := by decide +kernel
theorem dX9_letter_77 : decode cX9_letter 77 = .ok (.ifCond .eq 21, 3) := by decide +kernel
theorem dX9_letter_80 : decode cX9_letter 80 = .ok (.iload 5, 2) := by decide +kernel
theorem dX9_letter_82 : decode cX9_letter 82 = .ok (.bipush 10, 2) := by decide +kernel
theorem dX9_letter_84 : decode cX9_letter 84 = .ok (.irem, 1) := by decide +kernel
theorem dX9_letter_85 : decode cX9_letter 85 = .ok (.iload_n 1, 1) := by decide +kernel
theorem dX9_letter_86 : decode cX9_letter 86 = .ok (.iconst 4, 1) := by decide +kernel
theorem dX9_letter_87 : decode cX9_letter 87 = .ok (.if_icmp .ne 7, 3) := by decide +kernel
theorem dX9_letter_90 : decode cX9_letter 90 = .ok (.iconst 5, 1) := by decide +kernel
theorem dX9_letter_91 : decode cX9_letter 91 = .ok (.goto 4, 3) := by decide +kernel
theorem dX9_letter_94 : decode cX9_letter 94 = .ok (.iconst 0, 1) := by decide +kernel
theorem dX9_letter_95 : decode cX9_letter 95 = .ok (.if_icmp .le 9, 3) := by decide +kernel
theorem dX9_letter_98 : decode cX9_letter 98 = .ok (.aload_n 0, 1) := by decide +kernel
theorem dX9_letter_99 : decode cX9_letter 99 = .ok (.iconst 1, 1) := by decide +kernel
theorem dX9_letter_100 : decode cX9_letter 100 = .ok (.invokevirtual 97, 3) := by decide +kernel
theorem dX9_letter_103 : decode cX9_letter 103 = .ok (.ireturn, 1) := by decide +kernel
theorem dX9_letter_104 : decode cX9_letter 104 = .ok (.aload_n 0, 1) := by decide +kernel
theorem dX9_letter_105 : decode cX9_letter 105 = .ok (.getfield 13, 3) := by decide +kernel
theorem dX9_letter_108 : decode cX9_letter 108 = .ok (.iconst 1, 1) := by decide +kernel
theorem dX9_letter_109 : decode cX9_letter 109 = .ok (.iaload, 1) := by decide +kernel
theorem dX9_letter_110 : decode cX9_letter 110 = .ok (.bipush 30, 2) := by decide +kernel
theorem dX9_letter_112 : decode cX9_letter 112 = .ok (.if_icmp .ne 9, 3) := by decide +kernel
theorem dX9_letter_115 : decode cX9_letter 115 = .ok (.aload_n 0, 1) := by decide +kernel
theorem dX9_letter_116 : decode cX9_letter 116 = .ok (.iconst 2, 1) := by decide +kernel
theorem dX9_letter_117 : decode cX9_letter 117 = .ok (.invokevirtual 97, 3) := by decide +kernel
theorem dX9_letter_120 : decode cX9_letter 120 = .ok (.ireturn, 1) := by decide +kernel
theorem dX9_letter_121 : decode cX9_letter 121 = .ok (.bipush 9, 2) := by decide +kernel
theorem dX9_letter_123 : decode cX9_letter 123 = .ok (.aload_n 0, 1) := by decide +kernel
theorem dX9_letter_124 : decode cX9_letter 124 = .ok (.getfield 13, 3) := by decide +kernel
theorem dX9_letter_127 : decode cX9_letter 127 = .ok (.iconst 1, 1) := by decide +kernel
theorem dX9_letter_128 : decode cX9_letter 128 = .ok (.iaload, 1) := by decide +kernel
theorem dX9_letter_129 : decode cX9_letter 129 = .ok (.imul, 1) := by decide +kernel
theorem dX9_letter_130 : decode cX9_letter 130 = .ok (.istore 6, 2) := by decide +kernel
theorem dX9_letter_132 : decode cX9_letter 132 = .ok (.aload_n 0, 1) := by decide +kernel
theorem dX9_letter_133 : decode cX9_letter 133 = .ok (.getfield 25, 3) := by decide +kernel
theorem dX9_letter_136 : decode cX9_letter 136 = .ok (.iload 6, 2) := by decide +kernel
theorem dX9_letter_138 : decode cX9_letter 138 = .ok (.iconst 0, 1) := by decide +kernel
theorem dX9_letter_139 : decode cX9_letter 139 = .ok (.iadd, 1) := by decide +kernel
theorem dX9_letter_140 : decode cX9_letter 140 = .ok (.iload_n 1, 1) := by decide +kernel
theorem dX9_letter_141 : decode cX9_letter 141 = .ok (.iastore, 1) := by decide +kernel
theorem dX9_letter_142 : decode cX9_letter 142 = .ok (.aload_n 0, 1) := by decide +kernel
theorem dX9_letter_143 : decode cX9_letter 143 = .ok (.getfield 25, 3) := by decide +kernel
theorem dX9_letter_146 : decode cX9_letter 146 = .ok (.iload 6, 2) := by decide +kernel
theorem dX9_letter_148 : decode cX9_letter 148 = .ok (.iconst 1, 1) := by decide +kernel
theorem dX9_letter_149 : decode cX9_letter 149 = .ok (.iadd, 1) := by decide +kernel
theorem dX9_letter_150 : decode cX9_letter 150 = .ok (.iload_n 2, 1) := by decide +kernel
theorem dX9_letter_151 : decode cX9_letter 151 = .ok (.bipush 100, 2) := by decide +kernel
theorem dX9_letter_153 : decode cX9_letter 153 = .ok (.idiv, 1) := by decide +kernel
theorem dX9_letter_154 : decode cX9_letter 154 = .ok (.iastore, 1) := by decide +kernel
theorem dX9_letter_155 : decode cX9_letter 155 = .ok (.aload_n 0, 1) := by decide +kernel
theorem dX9_letter_156 : decode cX9_letter 156 = .ok (.getfield 25, 3) := by decide +kernel
theorem dX9_letter_159 : decode cX9_letter 159 = .ok (.iload 6, 2) := by decide +kernel
theorem dX9_letter_161 : decode cX9_letter 161 = .ok (.iconst 2, 1) := by decide +kernel
theorem dX9_letter_162 : decode cX9_letter 162 = .ok (.iadd, 1) := by decide +kernel
theorem dX9_letter_163 : decode cX9_letter 163 = .ok (.iload_n 2, 1) := by decide +kernel
theorem dX9_letter_164 : decode cX9_letter 164 = .ok (.bipush 100, 2) := by decide +kernel
theorem dX9_letter_166 : decode cX9_letter 166 = .ok (.irem, 1) := by decide +kernel
theorem dX9_letter_167 : decode cX9_letter 167 = .ok (.iastore, 1) := by decide +kernel
theorem dX9_letter_168 : decode cX9_letter 168 = .ok (.aload_n 0, 1) := by decide +kernel
theorem dX9_letter_169 : decode cX9_letter 169 = .ok (.getfield 25, 3) := by decide +kernel
theorem dX9_letter_172 : decode cX9_letter 172 = .ok (.iload 6, 2) := by decide +kernel
theorem dX9_letter_174 : decode cX9_letter 174 = .ok (.iconst 3, 1) := by decide +kernel
theorem dX9_letter_175 : decode cX9_letter 175 = .ok (.iadd, 1) := by decide +kernel
theorem dX9_letter_176 : decode cX9_letter 176 = .ok (.iload_n 3, 1) := by decide +kernel
theorem dX9_letter_177 : decode cX9_letter 177 = .ok (.bipush 10, 2) := by decide +kernel
theorem dX9_letter_179 : decode cX9_letter 179 = .ok (.idiv, 1) := by decide +kernel
theorem dX9_letter_180 : decode cX9_letter 180 = .ok (.iastore, 1) := by decide +kernel
theorem dX9_letter_181 : decode cX9_letter 181 = .ok (.aload_n 0, 1) := by decide +kernel
theorem dX9_letter_182 : decode cX9_letter 182 = .ok (.getfield 25, 3) := by decide +kernel
theorem dX9_letter_185 : decode cX9_letter 185 = .ok (.iload 6, 2) := by decide +kernel
theorem dX9_letter_187 : decode cX9_letter 187 = .ok (.iconst 4, 1) := by decide +kernel
theorem dX9_letter_188 : decode cX9_letter 188 = .ok (.iadd, 1) := by decide +kernel
theorem dX9_letter_189 : decode cX9_letter 189 = .ok (.iload_n 3, 1) := by decide +kernel
theorem dX9_letter_190 : decode cX9_letter 190 = .ok (.bipush 10, 2) := by decide +kernel
theorem dX9_letter_192 : decode cX9_letter 192 = .ok (.irem, 1) := by decide +kernel
theorem dX9_letter_193 : decode cX9_letter 193 = .ok (.iastore, 1) := by decide +kernel
theorem dX9_letter_194 : decode cX9_letter 194 = .ok (.aload_n 0, 1) := by decide +kernel
theorem dX9_letter_195 : decode cX9_letter 195 = .ok (.getfield 25, 3) := by decide +kernel
theorem dX9_letter_198 : decode cX9_letter 198 = .ok (.iload 6, 2) := by decide +kernel
theorem dX9_letter_200 : decode cX9_letter 200 = .ok (.iconst 5, 1) := by decide +kernel
theorem dX9_letter_201 : decode cX9_letter 201 = .ok (.iadd, 1) := by decide +kernel
theorem dX9_letter_202 : decode cX9_letter 202 = .ok (.aload_n 0, 1) := by decide +kernel
theorem dX9_letter_203 : decode cX9_letter 203 = .ok (.getfield 13, 3) := by decide +kernel
theorem dX9_letter_206 : decode cX9_letter 206 = .ok (.iconst 4, 1) := by decide +kernel
theorem dX9_letter_207 : decode cX9_letter 207 = .ok (.iaload, 1) := by decide +kernel
theorem dX9_letter_208 : decode cX9_letter 208 = .ok (.iload 5, 2) := by decide +kernel
theorem dX9_letter_210 : decode cX9_letter 210 = .ok (.bipush 10, 2) := by decide +kernel
theorem dX9_letter_212 : decode cX9_letter 212 = .ok (.idiv, 1) := by decide +kernel
theorem dX9_letter_213 : decode cX9_letter 213 = .ok (.iadd, 1) := by decide +kernel
theorem dX9_letter_214 : decode cX9_letter 214 = .ok (.iastore, 1) := by decide +kernel
theorem dX9_letter_215 : decode cX9_letter 215 = .ok (.aload_n 0, 1) := by decide +kernel
theorem dX9_letter_216 : decode cX9_letter 216 = .ok (.getfield 25, 3) := by decide +kernel
theorem dX9_letter_219 : decode cX9_letter 219 = .ok (.iload 6, 2) := by decide +kernel
theorem dX9_letter_221 : decode cX9_letter 221 = .ok (.bipush 6, 2) := by decide +kernel
theorem dX9_letter_223 : decode cX9_letter 223 = .ok (.iadd, 1) := by decide +kernel
theorem dX9_letter_224 : decode cX9_letter 224 = .ok (.iconst 0, 1) := by decide +kernel
theorem dX9_letter_225 : decode cX9_letter 225 = .ok (.iastore, 1) := by decide +kernel
theorem dX9_letter_226 : decode cX9_letter 226 = .ok (.aload_n 0, 1) := by decide +kernel
theorem dX9_letter_227 : decode cX9_letter 227 = .ok (.getfield 25, 3) := by decide +kernel
theorem dX9_letter_230 : decode cX9_letter 230 = .ok (.iload 6, 2) := by decide +kernel
theorem dX9_letter_232 : decode cX9_letter 232 = .ok (.bipush 7, 2) := by decide +kernel
theorem dX9_letter_234 : decode cX9_letter 234 = .ok (.iadd, 1) := by decide +kernel
theorem dX9_letter_235 : decode cX9_letter 235 = .ok (.iload 4, 2) := by decide +kernel
theorem dX9_letter_237 : decode cX9_letter 237 = .ok (.iastore, 1) := by decide +kernel
theorem dX9_letter_238 : decode cX9_letter 238 = .ok (.aload_n 0, 1) := by decide +kernel
theorem dX9_letter_239 : decode cX9_letter 239 = .ok (.getfield 25, 3) := by decide +kernel
theorem dX9_letter_242 : decode cX9_letter 242 = .ok (.iload 6, 2) := by decide +kernel
theorem dX9_letter_244 : decode cX9_letter 244 = .ok (.bipush 8, 2) := by decide +kernel
theorem dX9_letter_246 : decode cX9_letter 246 = .ok (.iadd, 1) := by decide +kernel
theorem dX9_letter_247 : decode cX9_letter 247 = .ok (.iload 5, 2) := by decide +kernel
theorem dX9_letter_249 : decode cX9_letter 249 = .ok (.bipush 10, 2) := by decide +kernel
theorem dX9_letter_251 : decode cX9_letter 251 = .ok (.irem, 1) := by decide +kernel
theorem dX9_letter_252 : decode cX9_letter 252 = .ok (.iastore, 1) := by decide +kernel
theorem dX9_letter_253 : decode cX9_letter 253 = .ok (.aload_n 0, 1) := by decide +kernel
theorem dX9_letter_254 : decode cX9_letter 254 = .ok (.getfield 13, 3) := by decide +kernel
theorem dX9_letter_257 : decode cX9_letter 257 = .ok (.iconst 1, 1) := by decide +kernel
theorem dX9_letter_258 : decode cX9_letter 258 = .ok (.dup2, 1) := by decide +kernel
theorem dX9_letter_259 : decode cX9_letter 259 = .ok (.iaload, 1) := by decide +kernel
theorem dX9_letter_260 : decode cX9_letter 260 = .ok (.iconst 1, 1) := by decide +kernel
theorem dX9_letter_261 : decode cX9_letter 261 = .ok (.iadd, 1) := by decide +kernel
theorem dX9_letter_262 : decode cX9_letter 262 = .ok (.iastore, 1) := by decide +kernel
theorem dX9_letter_263 : decode cX9_letter 263 = .ok (.aload_n 0, 1) := by decide +kernel
theorem dX9_letter_264 : decode cX9_letter 264 = .ok (.getfield 13, 3) := by decide +kernel
theorem dX9_letter_267 : decode cX9_letter 267 = .ok (.iconst 1, 1) := by decide +kernel
theorem dX9_letter_268 : decode cX9_letter 268 = .ok (.iaload, 1) := by decide +kernel
theorem dX9_letter_269 : decode cX9_letter 269 = .ok (.iconst 1, 1) := by decide +kernel
theorem dX9_letter_270 : decode cX9_letter 270 = .ok (.isub, 1) := by decide +kernel
theorem dX9_letter_271 : decode cX9_letter 271 = .ok (.ireturn, 1) := by decide +kernel
theorem dX9_its_0 : decode cX9_its 0 = .ok (.aload_n 0, 1) := by decide +kernel
theorem dX9_its_1 : decode cX9_its 1 = .ok (.getfield 25, 3) := by decide +kernel
theorem dX9_its_4 : decode cX9_its 4 = .ok (.bipush 9, 2) := by decide +kernel
theorem dX9_its_6 : decode cX9_its 6 = .ok (.iload_n 1, 1) := by decide +kernel
theorem dX9_its_7 : decode cX9_its 7 = .ok (.imul, 1) := by decide +kernel
theorem dX9_its_8 : decode cX9_its 8 = .ok (.iload_n 2, 1) := by decide +kernel
theorem dX9_its_9 : decode cX9_its 9 = .ok (.iadd, 1) := by decide +kernel
theorem dX9_its_10 : decode cX9_its 10 = .ok (.iaload, 1) := by decide +kernel
theorem dX9_its_11 : decode cX9_its 11 = .ok (.ireturn, 1) := by decide +kernel
theorem dX9_isOf_0 : decode cX9_isOf 0 = .ok (.aload_n 0, 1) := by decide +kernel
theorem dX9_isOf_1 : decode cX9_isOf 1 = .ok (.iload_n 1, 1) := by decide +kernel
theorem dX9_isOf_2 : decode cX9_isOf 2 = .ok (.iconst 0, 1) := by decide +kernel
theorem dX9_isOf_3 : decode cX9_isOf 3 = .ok (.invokevirtual 120, 3) := by decide +kernel
theorem dX9_isOf_6 : decode cX9_isOf 6 = .ok (.istore_n 3, 1) := by decide +kernel
theorem dX9_isOf_7 : decode cX9_isOf 7 = .ok (.iload_n 2, 1) := by decide +kernel
theorem dX9_isOf_8 : decode cX9_isOf 8 = .ok (.ifCond .eq 18, 3) := by decide +kernel
theorem dX9_isOf_11 : decode cX9_isOf 11 = .ok (.iload_n 3, 1) := by decide +kernel
theorem dX9_isOf_12 : decode cX9_isOf 12 = .ok (.iload_n 2, 1) := by decide +kernel
theorem dX9_isOf_13 : decode cX9_isOf 13 = .ok (.if_icmp .eq 13, 3) := by decide +kernel
theorem dX9_isOf_16 : decode cX9_isOf 16 = .ok (.iload_n 2, 1) := by decide +kernel
theorem dX9_isOf_17 : decode cX9_isOf 17 = .ok (.iconst 2, 1) := by decide +kernel
theorem dX9_isOf_18 : decode cX9_isOf 18 = .ok (.if_icmp .ne 12, 3) := by decide +kernel
theorem dX9_isOf_21 : decode cX9_isOf 21 = .ok (.iload_n 3, 1) := by decide +kernel
theorem dX9_isOf_22 : decode cX9_isOf 22 = .ok (.iconst 3, 1) := by decide +kernel
theorem dX9_isOf_23 : decode cX9_isOf 23 = .ok (.if_icmp .ne 7, 3) := by decide +kernel
theorem dX9_isOf_26 : decode cX9_isOf 26 = .ok (.iconst 1, 1) := by decide +kernel
theorem dX9_isOf_27 : decode cX9_isOf 27 = .ok (.goto 4, 3) := by decide +kernel
theorem dX9_isOf_30 : decode cX9_isOf 30 = .ok (.iconst 0, 1) := by decide +kernel
theorem dX9_isOf_31 : decode cX9_isOf 31 = .ok (.ireturn, 1) := by decide +kernel
theorem dX9_as_0 : decode cX9_as 0 = .ok (.aload_n 0, 1) := by decide +kernel
theorem dX9_as_1 : decode cX9_as 1 = .ok (.iload_n 1, 1) := by decide +kernel
theorem dX9_as_2 : decode cX9_as 2 = .ok (.invokevirtual 113, 3) := by decide +kernel
theorem dX9_as_5 : decode cX9_as 5 = .ok (.ifCond .eq 12, 3) := by decide +kernel
theorem dX9_as_8 : decode cX9_as 8 = .ok (.iload_n 2, 1) := by decide +kernel
theorem dX9_as_9 : decode cX9_as 9 = .ok (.iconst 0, 1) := by decide +kernel
theorem dX9_as_10 : decode cX9_as 10 = .ok (.iconst 5, 1) := by decide +kernel
theorem dX9_as_11 : decode cX9_as 11 = .ok (.invokestatic 79, 3) := by decide +kernel
theorem dX9_as_14 : decode cX9_as 14 = .ok (.ifCond .ne 9, 3) := by decide +kernel
theorem dX9_as_17 : decode cX9_as 17 = .ok (.aload_n 0, 1) := by decide +kernel
theorem dX9_as_18 : decode cX9_as 18 = .ok (.iconst 1, 1) := by decide +kernel
theorem dX9_as_19 : decode cX9_as 19 = .ok (.invokevirtual 97, 3) := by decide +kernel
theorem dX9_as_22 : decode cX9_as 22 = .ok (.ireturn, 1) := by decide +kernel
theorem dX9_as_23 : decode cX9_as 23 = .ok (.aload_n 0, 1) := by decide +kernel
theorem dX9_as_24 : decode cX9_as 24 = .ok (.iload_n 1, 1) := by decide +kernel
theorem dX9_as_25 : decode cX9_as 25 = .ok (.iload_n 2, 1) := by decide +kernel
theorem dX9_as_26 : decode cX9_as 26 = .ok (.invokevirtual 124, 3) := by decide +kernel
theorem dX9_as_29 : decode cX9_as 29 = .ok (.ifCond .eq 7, 3) := by decide +kernel
theorem dX9_as_32 : decode cX9_as 32 = .ok (.iload_n 1, 1) := by decide +kernel
theorem dX9_as_33 : decode cX9_as 33 = .ok (.goto 8, 3) := by decide +kernel
theorem dX9_as_36 : decode cX9_as 36 = .ok (.aload_n 0, 1) := by decide +kernel
theorem dX9_as_37 : decode cX9_as 37 = .ok (.iconst 3, 1) := by decide +kernel
theorem dX9_as_38 : decode cX9_as 38 = .ok (.invokevirtual 97, 3) := by decide +kernel
theorem dX9_as_41 : decode cX9_as 41 = .ok (.ireturn, 1) := by decide +kernel
theorem dX9_told_0 : decode cX9_told 0 = .ok (.aload_n 0, 1) := by decide +kernel
theorem dX9_told_1 : decode cX9_told 1 = .ok (.iload_n 1, 1) := by decide +kernel
theorem dX9_told_2 : decode cX9_told 2 = .ok (.invokevirtual 113, 3) := by decide +kernel
theorem dX9_told_5 : decode cX9_told 5 = .ok (.ifCond .eq 13, 3) := by decide +kernel
theorem dX9_told_8 : decode cX9_told 8 = .ok (.iload_n 2, 1) := by decide +kernel
theorem dX9_told_9 : decode cX9_told 9 = .ok (.iconst 0, 1) := by decide +kernel
theorem dX9_told_10 : decode cX9_told 10 = .ok (.bipush 8, 2) := by decide +kernel
theorem dX9_told_12 : decode cX9_told 12 = .ok (.invokestatic 79, 3) := by decide +kernel
theorem dX9_told_15 : decode cX9_told 15 = .ok (.ifCond .ne 9, 3) := by decide +kernel
theorem dX9_told_18 : decode cX9_told 18 = .ok (.aload_n 0, 1) := by decide +kernel
theorem dX9_told_19 : decode cX9_told 19 = .ok (.iconst 1, 1) := by decide +kernel
theorem dX9_told_20 : decode cX9_told 20 = .ok (.invokevirtual 97, 3) := by decide +kernel
theorem dX9_told_23 : decode cX9_told 23 = .ok (.ireturn, 1) := by decide +kernel
theorem dX9_told_24 : decode cX9_told 24 = .ok (.iload_n 2, 1) := by decide +kernel
theorem dX9_told_25 : decode cX9_told 25 = .ok (.bipush 7, 2) := by decide +kernel
theorem dX9_told_27 : decode cX9_told 27 = .ok (.if_icmp .ne 12, 3) := by decide +kernel
theorem dX9_told_30 : decode cX9_told 30 = .ok (.aload_n 0, 1) := by decide +kernel
theorem dX9_told_31 : decode cX9_told 31 = .ok (.iload_n 1, 1) := by decide +kernel
theorem dX9_told_32 : decode cX9_told 32 = .ok (.iconst 2, 1) := by decide +kernel
theorem dX9_told_33 : decode cX9_told 33 = .ok (.invokevirtual 124, 3) := by decide +kernel
theorem dX9_told_36 : decode cX9_told 36 = .ok (.ifCond .eq 18, 3) := by decide +kernel
theorem dX9_told_39 : decode cX9_told 39 = .ok (.iload_n 2, 1) := by decide +kernel
theorem dX9_told_40 : decode cX9_told 40 = .ok (.bipush 8, 2) := by decide +kernel
theorem dX9_told_42 : decode cX9_told 42 = .ok (.if_icmp .ne 18, 3) := by decide +kernel
theorem dX9_told_45 : decode cX9_told 45 = .ok (.aload_n 0, 1) := by decide +kernel
theorem dX9_told_46 : decode cX9_told 46 = .ok (.iload_n 1, 1) := by decide +kernel
theorem dX9_told_47 : decode cX9_told 47 = .ok (.iconst 4, 1) := by decide +kernel
theorem dX9_told_48 : decode cX9_told 48 = .ok (.invokevirtual 124, 3) := by decide +kernel
theorem dX9_told_51 : decode cX9_told 51 = .ok (.ifCond .ne 9, 3) := by decide +kernel
theorem dX9_told_54 : decode cX9_told 54 = .ok (.aload_n 0, 1) := by decide +kernel
theorem dX9_told_55 : decode cX9_told 55 = .ok (.iconst 3, 1) := by decide +kernel
theorem dX9_told_56 : decode cX9_told 56 = .ok (.invokevirtual 97, 3) := by decide +kernel
theorem dX9_told_59 : decode cX9_told 59 = .ok (.ireturn, 1) := by decide +kernel
theorem dX9_told_60 : decode cX9_told 60 = .ok (.aload_n 0, 1) := by decide +kernel
theorem dX9_told_61 : decode cX9_told 61 = .ok (.iload_n 1, 1) := by decide +kernel
theorem dX9_told_62 : decode cX9_told 62 = .ok (.iload_n 2, 1) := by decide +kernel
theorem dX9_told_63 : decode cX9_told 63 = .ok (.invokevirtual 120, 3) := by decide +kernel
theorem dX9_told_66 : decode cX9_told 66 = .ok (.ireturn, 1) := by decide +kernel
theorem dX9_lose_0 : decode cX9_lose 0 = .ok (.aload_n 0, 1) := by decide +kernel
theorem dX9_lose_1 : decode cX9_lose 1 = .ok (.iload_n 1, 1) := by decide +kernel
theorem dX9_lose_2 : decode cX9_lose 2 = .ok (.invokevirtual 113, 3) := by decide +kernel
theorem dX9_lose_5 : decode cX9_lose 5 = .ok (.ifCond .ne 9, 3) := by decide +kernel
theorem dX9_lose_8 : decode cX9_lose 8 = .ok (.aload_n 0, 1) := by decide +kernel
theorem dX9_lose_9 : decode cX9_lose 9 = .ok (.iconst 1, 1) := by decide +kernel
theorem dX9_lose_10 : decode cX9_lose 10 = .ok (.invokevirtual 97, 3) := by decide +kernel
theorem dX9_lose_13 : decode cX9_lose 13 = .ok (.ireturn, 1) := by decide +kernel
theorem dX9_lose_14 : decode cX9_lose 14 = .ok (.iload_n 2, 1) := by decide +kernel
theorem dX9_lose_15 : decode cX9_lose 15 = .ok (.ifCond .eq 7, 3) := by decide +kernel
theorem dX9_lose_18 : decode cX9_lose 18 = .ok (.iconst 1, 1) := by decide +kernel
theorem dX9_lose_19 : decode cX9_lose 19 = .ok (.goto 4, 3) := by decide +kernel
theorem dX9_lose_22 : decode cX9_lose 22 = .ok (.iconst 0, 1) := by decide +kernel
theorem dX9_lose_23 : decode cX9_lose 23 = .ok (.istore_n 3, 1) := by decide +kernel
theorem dX9_lose_24 : decode cX9_lose 24 = .ok (.aload_n 0, 1) := by decide +kernel
theorem dX9_lose_25 : decode cX9_lose 25 = .ok (.iload_n 1, 1) := by decide +kernel
theorem dX9_lose_26 : decode cX9_lose 26 = .ok (.bipush 6, 2) := by decide +kernel
theorem dX9_lose_28 : decode cX9_lose 28 = .ok (.invokevirtual 120, 3) := by decide +kernel
theorem dX9_lose_31 : decode cX9_lose 31 = .ok (.iload_n 3, 1) := by decide +kernel
theorem dX9_lose_32 : decode cX9_lose 32 = .ok (.if_icmp .eq 7, 3) := by decide +kernel
theorem dX9_lose_35 : decode cX9_lose 35 = .ok (.iconst 1, 1) := by decide +kernel
theorem dX9_lose_36 : decode cX9_lose 36 = .ok (.goto 4, 3) := by decide +kernel
theorem dX9_lose_39 : decode cX9_lose 39 = .ok (.iconst 0, 1) := by decide +kernel
theorem dX9_lose_40 : decode cX9_lose 40 = .ok (.istore 4, 2) := by decide +kernel
theorem dX9_lose_42 : decode cX9_lose 42 = .ok (.aload_n 0, 1) := by decide +kernel
theorem dX9_lose_43 : decode cX9_lose 43 = .ok (.getfield 25, 3) := by decide +kernel
theorem dX9_lose_46 : decode cX9_lose 46 = .ok (.bipush 9, 2) := by decide +kernel
theorem dX9_lose_48 : decode cX9_lose 48 = .ok (.iload_n 1, 1) := by decide +kernel
theorem dX9_lose_49 : decode cX9_lose 49 = .ok (.imul, 1) := by decide +kernel
theorem dX9_lose_50 : decode cX9_lose 50 = .ok (.bipush 6, 2) := by decide +kernel
theorem dX9_lose_52 : decode cX9_lose 52 = .ok (.iadd, 1) := by decide +kernel
theorem dX9_lose_53 : decode cX9_lose 53 = .ok (.iload_n 3, 1) := by decide +kernel
theorem dX9_lose_54 : decode cX9_lose 54 = .ok (.iastore, 1) := by decide +kernel
theorem dX9_lose_55 : decode cX9_lose 55 = .ok (.iload 4, 2) := by decide +kernel
theorem dX9_lose_57 : decode cX9_lose 57 = .ok (.ireturn, 1) := by decide +kernel
theorem dX9_reread_0 : decode cX9_reread 0 = .ok (.aload_n 0, 1) := by decide +kernel
theorem dX9_reread_1 : decode cX9_reread 1 = .ok (.iload_n 1, 1) := by decide +kernel
theorem dX9_reread_2 : decode cX9_reread 2 = .ok (.invokevirtual 113, 3) := by decide +kernel
theorem dX9_reread_5 : decode cX9_reread 5 = .ok (.ifCond .eq 13, 3) := by decide +kernel
theorem dX9_reread_8 : decode cX9_reread 8 = .ok (.iload_n 2, 1) := by decide +kernel
theorem dX9_reread_9 : decode cX9_reread 9 = .ok (.iconst 0, 1) := by decide +kernel
theorem dX9_reread_10 : decode cX9_reread 10 = .ok (.bipush 15, 2) := by decide +kernel
theorem dX9_reread_12 : decode cX9_reread 12 = .ok (.invokestatic 79, 3) := by decide +kernel
theorem dX9_reread_15 : decode cX9_reread 15 = .ok (.ifCond .ne 9, 3) := by decide +kernel
theorem dX9_reread_18 : decode cX9_reread 18 = .ok (.aload_n 0, 1) := by decide +kernel
theorem dX9_reread_19 : decode cX9_reread 19 = .ok (.iconst 1, 1) := by decide +kernel
theorem dX9_reread_20 : decode cX9_reread 20 = .ok (.invokevirtual 97, 3) := by decide +kernel
theorem dX9_reread_23 : decode cX9_reread 23 = .ok (.ireturn, 1) := by decide +kernel
theorem dX9_reread_24 : decode cX9_reread 24 = .ok (.aload_n 0, 1) := by decide +kernel
theorem dX9_reread_25 : decode cX9_reread 25 = .ok (.iload_n 1, 1) := by decide +kernel
theorem dX9_reread_26 : decode cX9_reread 26 = .ok (.bipush 6, 2) := by decide +kernel
theorem dX9_reread_28 : decode cX9_reread 28 = .ok (.invokevirtual 120, 3) := by decide +kernel
theorem dX9_reread_31 : decode cX9_reread 31 = .ok (.iconst 1, 1) := by decide +kernel
theorem dX9_reread_32 : decode cX9_reread 32 = .ok (.if_icmp .ne 9, 3) := by decide +kernel
theorem dX9_reread_35 : decode cX9_reread 35 = .ok (.aload_n 0, 1) := by decide +kernel
theorem dX9_reread_36 : decode cX9_reread 36 = .ok (.iconst 5, 1) := by decide +kernel
theorem dX9_reread_37 : decode cX9_reread 37 = .ok (.invokevirtual 97, 3) := by decide +kernel
theorem dX9_reread_40 : decode cX9_reread 40 = .ok (.ireturn, 1) := by decide +kernel
theorem dX9_reread_41 : decode cX9_reread 41 = .ok (.aload_n 0, 1) := by decide +kernel
theorem dX9_reread_42 : decode cX9_reread 42 = .ok (.iload_n 1, 1) := by decide +kernel
theorem dX9_reread_43 : decode cX9_reread 43 = .ok (.iconst 2, 1) := by decide +kernel
theorem dX9_reread_44 : decode cX9_reread 44 = .ok (.invokevirtual 120, 3) := by decide +kernel
theorem dX9_reread_47 : decode cX9_reread 47 = .ok (.istore_n 3, 1) := by decide +kernel
theorem dX9_reread_48 : decode cX9_reread 48 = .ok (.aload_n 0, 1) := by decide +kernel
theorem dX9_reread_49 : decode cX9_reread 49 = .ok (.getfield 25, 3) := by decide +kernel
theorem dX9_reread_52 : decode cX9_reread 52 = .ok (.bipush 9, 2) := by decide +kernel
theorem dX9_reread_54 : decode cX9_reread 54 = .ok (.iload_n 1, 1) := by decide +kernel
theorem dX9_reread_55 : decode cX9_reread 55 = .ok (.imul, 1) := by decide +kernel
theorem dX9_reread_56 : decode cX9_reread 56 = .ok (.iconst 2, 1) := by decide +kernel
theorem dX9_reread_57 : decode cX9_reread 57 = .ok (.iadd, 1) := by decide +kernel
theorem dX9_reread_58 : decode cX9_reread 58 = .ok (.iload_n 2, 1) := by decide +kernel
theorem dX9_reread_59 : decode cX9_reread 59 = .ok (.iastore, 1) := by decide +kernel
theorem dX9_reread_60 : decode cX9_reread 60 = .ok (.iload_n 3, 1) := by decide +kernel
theorem dX9_reread_61 : decode cX9_reread 61 = .ok (.ireturn, 1) := by decide +kernel
theorem dX9_count_0 : decode cX9_count 0 = .ok (.iconst 0, 1) := by decide +kernel
theorem dX9_count_1 : decode cX9_count 1 = .ok (.istore_n 2, 1) := by decide +kernel
theorem dX9_count_2 : decode cX9_count 2 = .ok (.iload_n 2, 1) := by decide +kernel
theorem dX9_count_3 : decode cX9_count 3 = .ok (.aload_n 0, 1) := by decide +kernel
theorem dX9_count_4 : decode cX9_count 4 = .ok (.getfield 13, 3) := by decide +kernel
theorem dX9_count_7 : decode cX9_count 7 = .ok (.iconst 1, 1) := by decide +kernel
theorem dX9_count_8 : decode cX9_count 8 = .ok (.iaload, 1) := by decide +kernel
theorem dX9_count_9 : decode cX9_count 9 = .ok (.if_icmp .ge 161, 3) := by decide +kernel
theorem dX9_count_12 : decode cX9_count 12 = .ok (.aload_n 0, 1) := by decide +kernel
theorem dX9_count_13 : decode cX9_count 13 = .ok (.iload_n 2, 1) := by decide +kernel
theorem dX9_count_14 : decode cX9_count 14 = .ok (.iconst 5, 1) := by decide +kernel
theorem dX9_count_15 : decode cX9_count 15 = .ok (.invokevirtual 120, 3) := by decide +kernel
theorem dX9_count_18 : decode cX9_count 18 = .ok (.aload_n 0, 1) := by decide +kernel
theorem dX9_count_19 : decode cX9_count 19 = .ok (.getfield 13, 3) := by decide +kernel
theorem dX9_count_22 : decode cX9_count 22 = .ok (.iconst 4, 1) := by decide +kernel
theorem dX9_count_23 : decode cX9_count 23 = .ok (.iaload, 1) := by decide +kernel
theorem dX9_count_24 : decode cX9_count 24 = .ok (.if_icmp .gt 32, 3) := by decide +kernel
theorem dX9_count_27 : decode cX9_count 27 = .ok (.aload_n 0, 1) := by decide +kernel
theorem dX9_count_28 : decode cX9_count 28 = .ok (.iload_n 2, 1) := by decide +kernel
theorem dX9_count_29 : decode cX9_count 29 = .ok (.bipush 6, 2) := by decide +kernel
theorem dX9_count_31 : decode cX9_count 31 = .ok (.invokevirtual 120, 3) := by decide +kernel
theorem dX9_count_34 : decode cX9_count 34 = .ok (.ifCond .ne 22, 3) := by decide +kernel
theorem dX9_count_37 : decode cX9_count 37 = .ok (.aload_n 0, 1) := by decide +kernel
theorem dX9_count_38 : decode cX9_count 38 = .ok (.iload_n 2, 1) := by decide +kernel
theorem dX9_count_39 : decode cX9_count 39 = .ok (.iconst 0, 1) := by decide +kernel
theorem dX9_count_40 : decode cX9_count 40 = .ok (.invokevirtual 120, 3) := by decide +kernel
theorem dX9_count_43 : decode cX9_count 43 = .ok (.iconst 5, 1) := by decide +kernel
theorem dX9_count_44 : decode cX9_count 44 = .ok (.if_icmp .eq 12, 3) := by decide +kernel
theorem dX9_count_47 : decode cX9_count 47 = .ok (.iload_n 2, 1) := by decide +kernel
theorem dX9_count_48 : decode cX9_count 48 = .ok (.iload_n 1, 1) := by decide +kernel
theorem dX9_count_49 : decode cX9_count 49 = .ok (.if_icmp .eq 7, 3) := by decide +kernel
theorem dX9_count_52 : decode cX9_count 52 = .ok (.iconst 1, 1) := by decide +kernel
theorem dX9_count_53 : decode cX9_count 53 = .ok (.goto 4, 3) := by decide +kernel
theorem dX9_count_56 : decode cX9_count 56 = .ok (.iconst 0, 1) := by decide +kernel
theorem dX9_count_57 : decode cX9_count 57 = .ok (.istore_n 3, 1) := by decide +kernel
theorem dX9_count_58 : decode cX9_count 58 = .ok (.iload_n 3, 1) := by decide +kernel
theorem dX9_count_59 : decode cX9_count 59 = .ok (.ifCond .eq 98, 3) := by decide +kernel
theorem dX9_count_62 : decode cX9_count 62 = .ok (.aload_n 0, 1) := by decide +kernel
theorem dX9_count_63 : decode cX9_count 63 = .ok (.iload_n 2, 1) := by decide +kernel
theorem dX9_count_64 : decode cX9_count 64 = .ok (.iconst 0, 1) := by decide +kernel
theorem dX9_count_65 : decode cX9_count 65 = .ok (.invokevirtual 120, 3) := by decide +kernel
theorem dX9_count_68 : decode cX9_count 68 = .ok (.iconst 3, 1) := by decide +kernel
theorem dX9_count_69 : decode cX9_count 69 = .ok (.if_icmp .ne 88, 3) := by decide +kernel
theorem dX9_count_72 : decode cX9_count 72 = .ok (.aload_n 0, 1) := by decide +kernel
theorem dX9_count_73 : decode cX9_count 73 = .ok (.getfield 37, 3) := by decide +kernel
theorem dX9_count_76 : decode cX9_count 76 = .ok (.aload_n 0, 1) := by decide +kernel
theorem dX9_count_77 : decode cX9_count 77 = .ok (.iload_n 2, 1) := by decide +kernel
theorem dX9_count_78 : decode cX9_count 78 = .ok (.bipush 7, 2) := by decide +kernel
theorem dX9_count_80 : decode cX9_count 80 = .ok (.invokevirtual 120, 3) := by decide +kernel
theorem dX9_count_83 : decode cX9_count 83 = .ok (.baload, 1) := by decide +kernel
theorem dX9_count_84 : decode cX9_count 84 = .ok (.ifCond .ne 7, 3) := by decide +kernel
theorem dX9_count_87 : decode cX9_count 87 = .ok (.iconst 1, 1) := by decide +kernel
theorem dX9_count_88 : decode cX9_count 88 = .ok (.goto 4, 3) := by decide +kernel
theorem dX9_count_91 : decode cX9_count 91 = .ok (.iconst 0, 1) := by decide +kernel
theorem dX9_count_92 : decode cX9_count 92 = .ok (.istore_n 3, 1) := by decide +kernel
theorem dX9_count_93 : decode cX9_count 93 = .ok (.iconst 0, 1) := by decide +kernel
theorem dX9_count_94 : decode cX9_count 94 = .ok (.istore 4, 2) := by decide +kernel
theorem dX9_count_96 : decode cX9_count 96 = .ok (.iload 4, 2) := by decide +kernel
theorem dX9_count_98 : decode cX9_count 98 = .ok (.iload_n 2, 1) := by decide +kernel
theorem dX9_count_99 : decode cX9_count 99 = .ok (.if_icmp .ge 58, 3) := by decide +kernel
theorem dX9_count_102 : decode cX9_count 102 = .ok (.iload_n 3, 1) := by decide +kernel
theorem dX9_count_103 : decode cX9_count 103 = .ok (.ifCond .eq 46, 3) := by decide +kernel
theorem dX9_count_106 : decode cX9_count 106 = .ok (.aload_n 0, 1) := by decide +kernel
theorem dX9_count_107 : decode cX9_count 107 = .ok (.getfield 37, 3) := by decide +kernel
theorem dX9_count_110 : decode cX9_count 110 = .ok (.iload 4, 2) := by decide +kernel
theorem dX9_count_112 : decode cX9_count 112 = .ok (.baload, 1) := by decide +kernel
theorem dX9_count_113 : decode cX9_count 113 = .ok (.ifCond .eq 32, 3) := by decide +kernel
theorem dX9_count_116 : decode cX9_count 116 = .ok (.aload_n 0, 1) := by decide +kernel
theorem dX9_count_117 : decode cX9_count 117 = .ok (.iload 4, 2) := by decide +kernel
theorem dX9_count_119 : decode cX9_count 119 = .ok (.iconst 0, 1) := by decide +kernel
theorem dX9_count_120 : decode cX9_count 120 = .ok (.invokevirtual 120, 3) := by decide +kernel
theorem dX9_count_123 : decode cX9_count 123 = .ok (.iconst 3, 1) := by decide +kernel
theorem dX9_count_124 : decode cX9_count 124 = .ok (.if_icmp .ne 21, 3) := by decide +kernel
theorem dX9_count_127 : decode cX9_count 127 = .ok (.aload_n 0, 1) := by decide +kernel
theorem dX9_count_128 : decode cX9_count 128 = .ok (.iload 4, 2) := by decide +kernel
theorem dX9_count_130 : decode cX9_count 130 = .ok (.bipush 7, 2) := by decide +kernel
theorem dX9_count_132 : decode cX9_count 132 = .ok (.invokevirtual 120, 3) := by decide +kernel
theorem dX9_count_135 : decode cX9_count 135 = .ok (.aload_n 0, 1) := by decide +kernel
theorem dX9_count_136 : decode cX9_count 136 = .ok (.iload_n 2, 1) := by decide +kernel
theorem dX9_count_137 : decode cX9_count 137 = .ok (.bipush 7, 2) := by decide +kernel
theorem dX9_count_139 : decode cX9_count 139 = .ok (.invokevirtual 120, 3) := by decide +kernel
theorem dX9_count_142 : decode cX9_count 142 = .ok (.if_icmp .eq 7, 3) := by decide +kernel
theorem dX9_count_145 : decode cX9_count 145 = .ok (.iconst 1, 1) := by decide +kernel
theorem dX9_count_146 : decode cX9_count 146 = .ok (.goto 4, 3) := by decide +kernel
theorem dX9_count_149 : decode cX9_count 149 = .ok (.iconst 0, 1) := by decide +kernel
theorem dX9_count_150 : decode cX9_count 150 = .ok (.istore_n 3, 1) := by decide +kernel
theorem dX9_count_151 : decode cX9_count 151 = .ok (.iinc 4 1, 3) := by decide +kernel
theorem dX9_count_154 : decode cX9_count 154 = .ok (.goto (-58), 3) := by decide +kernel
theorem dX9_count_157 : decode cX9_count 157 = .ok (.aload_n 0, 1) := by decide +kernel
theorem dX9_count_158 : decode cX9_count 158 = .ok (.getfield 37, 3) := by decide +kernel
theorem dX9_count_161 : decode cX9_count 161 = .ok (.iload_n 2, 1) := by decide +kernel
theorem dX9_count_162 : decode cX9_count 162 = .ok (.iload_n 3, 1) := by decide +kernel
theorem dX9_count_163 : decode cX9_count 163 = .ok (.bastore, 1) := by decide +kernel
theorem dX9_count_164 : decode cX9_count 164 = .ok (.iinc 2 1, 3) := by decide +kernel
theorem dX9_count_167 : decode cX9_count 167 = .ok (.goto (-165), 3) := by decide +kernel
theorem dX9_count_170 : decode cX9_count 170 = .ok (.return_, 1) := by decide +kernel
theorem dX9_counts_0 : decode cX9_counts 0 = .ok (.aload_n 0, 1) := by decide +kernel
theorem dX9_counts_1 : decode cX9_counts 1 = .ok (.iload_n 1, 1) := by decide +kernel
theorem dX9_counts_2 : decode cX9_counts 2 = .ok (.invokevirtual 113, 3) := by decide +kernel
theorem dX9_counts_5 : decode cX9_counts 5 = .ok (.ifCond .ne 9, 3) := by decide +kernel
theorem dX9_counts_8 : decode cX9_counts 8 = .ok (.aload_n 0, 1) := by decide +kernel
theorem dX9_counts_9 : decode cX9_counts 9 = .ok (.iconst 1, 1) := by decide +kernel
theorem dX9_counts_10 : decode cX9_counts 10 = .ok (.invokevirtual 97, 3) := by decide +kernel
theorem dX9_counts_13 : decode cX9_counts 13 = .ok (.ireturn, 1) := by decide +kernel
theorem dX9_counts_14 : decode cX9_counts 14 = .ok (.aload_n 0, 1) := by decide +kernel
theorem dX9_counts_15 : decode cX9_counts 15 = .ok (.iconst (-1), 1) := by decide +kernel
theorem dX9_counts_16 : decode cX9_counts 16 = .ok (.invokevirtual 109, 3) := by decide +kernel
theorem dX9_counts_19 : decode cX9_counts 19 = .ok (.aload_n 0, 1) := by decide +kernel
theorem dX9_counts_20 : decode cX9_counts 20 = .ok (.getfield 37, 3) := by decide +kernel
theorem dX9_counts_23 : decode cX9_counts 23 = .ok (.iload_n 1, 1) := by decide +kernel
theorem dX9_counts_24 : decode cX9_counts 24 = .ok (.baload, 1) := by decide +kernel
theorem dX9_counts_25 : decode cX9_counts 25 = .ok (.ifCond .eq 7, 3) := by decide +kernel
theorem dX9_counts_28 : decode cX9_counts 28 = .ok (.iconst 1, 1) := by decide +kernel
theorem dX9_counts_29 : decode cX9_counts 29 = .ok (.goto 4, 3) := by decide +kernel
theorem dX9_counts_32 : decode cX9_counts 32 = .ok (.iconst 0, 1) := by decide +kernel
theorem dX9_counts_33 : decode cX9_counts 33 = .ok (.ireturn, 1) := by decide +kernel
theorem dX9_range_0 : decode cX9_range 0 = .ok (.iconst 0, 1) := by decide +kernel
theorem dX9_range_1 : decode cX9_range 1 = .ok (.istore_n 2, 1) := by decide +kernel
theorem dX9_range_2 : decode cX9_range 2 = .ok (.iload_n 0, 1) := by decide +kernel
theorem dX9_range_3 : decode cX9_range 3 = .ok (.istore_n 3, 1) := by decide +kernel
theorem dX9_range_4 : decode cX9_range 4 = .ok (.iload_n 3, 1) := by decide +kernel
theorem dX9_range_5 : decode cX9_range 5 = .ok (.iload_n 1, 1) := by decide +kernel
theorem dX9_range_6 : decode cX9_range 6 = .ok (.if_icmp .gt 29, 3) := by decide +kernel
theorem dX9_range_9 : decode cX9_range 9 = .ok (.iload_n 2, 1) := by decide +kernel
theorem dX9_range_10 : decode cX9_range 10 = .ok (.iload_n 3, 1) := by decide +kernel
theorem dX9_range_11 : decode cX9_range 11 = .ok (.iconst 0, 1) := by decide +kernel
theorem dX9_range_12 : decode cX9_range 12 = .ok (.bipush 11, 2) := by decide +kernel
theorem dX9_range_14 : decode cX9_range 14 = .ok (.invokestatic 79, 3) := by decide +kernel
theorem dX9_range_17 : decode cX9_range 17 = .ok (.ifCond .eq 9, 3) := by decide +kernel
theorem dX9_range_20 : decode cX9_range 20 = .ok (.iconst 1, 1) := by decide +kernel
theorem dX9_range_21 : decode cX9_range 21 = .ok (.iload_n 3, 1) := by decide +kernel
theorem dX9_range_22 : decode cX9_range 22 = .ok (.ishl, 1) := by decide +kernel
theorem dX9_range_23 : decode cX9_range 23 = .ok (.goto 4, 3) := by decide +kernel
theorem dX9_range_26 : decode cX9_range 26 = .ok (.iconst 0, 1) := by decide +kernel
theorem dX9_range_27 : decode cX9_range 27 = .ok (.ior, 1) := by decide +kernel
theorem dX9_range_28 : decode cX9_range 28 = .ok (.istore_n 2, 1) := by decide +kernel
theorem dX9_range_29 : decode cX9_range 29 = .ok (.iinc 3 1, 3) := by decide +kernel
theorem dX9_range_32 : decode cX9_range 32 = .ok (.goto (-28), 3) := by decide +kernel
theorem dX9_range_35 : decode cX9_range 35 = .ok (.iload_n 2, 1) := by decide +kernel
theorem dX9_range_36 : decode cX9_range 36 = .ok (.ireturn, 1) := by decide +kernel
theorem dX9_letsOf_0 : decode cX9_letsOf 0 = .ok (.aload_n 0, 1) := by decide +kernel
theorem dX9_letsOf_1 : decode cX9_letsOf 1 = .ok (.iconst 0, 1) := by decide +kernel
theorem dX9_letsOf_2 : decode cX9_letsOf 2 = .ok (.aload_n 0, 1) := by decide +kernel
theorem dX9_letsOf_3 : decode cX9_letsOf 3 = .ok (.iload_n 1, 1) := by decide +kernel
theorem dX9_letsOf_4 : decode cX9_letsOf 4 = .ok (.iconst 2, 1) := by decide +kernel
theorem dX9_letsOf_5 : decode cX9_letsOf 5 = .ok (.invokevirtual 120, 3) := by decide +kernel
theorem dX9_letsOf_8 : decode cX9_letsOf 8 = .ok (.invokevirtual 127, 3) := by decide +kernel
theorem dX9_letsOf_11 : decode cX9_letsOf 11 = .ok (.istore_n 2, 1) := by decide +kernel
theorem dX9_letsOf_12 : decode cX9_letsOf 12 = .ok (.iload_n 2, 1) := by decide +kernel
theorem dX9_letsOf_13 : decode cX9_letsOf 13 = .ok (.ifCond .ge 7, 3) := by decide +kernel
theorem dX9_letsOf_16 : decode cX9_letsOf 16 = .ok (.iconst 0, 1) := by decide +kernel
theorem dX9_letsOf_17 : decode cX9_letsOf 17 = .ok (.goto 13, 3) := by decide +kernel
theorem dX9_letsOf_20 : decode cX9_letsOf 20 = .ok (.aload_n 0, 1) := by decide +kernel
theorem dX9_letsOf_21 : decode cX9_letsOf 21 = .ok (.getfield 31, 3) := by decide +kernel
theorem dX9_letsOf_24 : decode cX9_letsOf 24 = .ok (.iconst 4, 1) := by decide +kernel
theorem dX9_letsOf_25 : decode cX9_letsOf 25 = .ok (.iload_n 2, 1) := by decide +kernel
theorem dX9_letsOf_26 : decode cX9_letsOf 26 = .ok (.imul, 1) := by decide +kernel
theorem dX9_letsOf_27 : decode cX9_letsOf 27 = .ok (.iconst 2, 1) := by decide +kernel
theorem dX9_letsOf_28 : decode cX9_letsOf 28 = .ok (.iadd, 1) := by decide +kernel
theorem dX9_letsOf_29 : decode cX9_letsOf 29 = .ok (.iaload, 1) := by decide +kernel
theorem dX9_letsOf_30 : decode cX9_letsOf 30 = .ok (.istore_n 3, 1) := by decide +kernel
theorem dX9_letsOf_31 : decode cX9_letsOf 31 = .ok (.iload_n 2, 1) := by decide +kernel
theorem dX9_letsOf_32 : decode cX9_letsOf 32 = .ok (.ifCond .ge 8, 3) := by decide +kernel
theorem dX9_letsOf_35 : decode cX9_letsOf 35 = .ok (.bipush 11, 2) := by decide +kernel
theorem dX9_letsOf_37 : decode cX9_letsOf 37 = .ok (.goto 13, 3) := by decide +kernel
theorem dX9_letsOf_40 : decode cX9_letsOf 40 = .ok (.aload_n 0, 1) := by decide +kernel
theorem dX9_letsOf_41 : decode cX9_letsOf 41 = .ok (.getfield 31, 3) := by decide +kernel
theorem dX9_letsOf_44 : decode cX9_letsOf 44 = .ok (.iconst 4, 1) := by decide +kernel
theorem dX9_letsOf_45 : decode cX9_letsOf 45 = .ok (.iload_n 2, 1) := by decide +kernel
theorem dX9_letsOf_46 : decode cX9_letsOf 46 = .ok (.imul, 1) := by decide +kernel
theorem dX9_letsOf_47 : decode cX9_letsOf 47 = .ok (.iconst 3, 1) := by decide +kernel
theorem dX9_letsOf_48 : decode cX9_letsOf 48 = .ok (.iadd, 1) := by decide +kernel
theorem dX9_letsOf_49 : decode cX9_letsOf 49 = .ok (.iaload, 1) := by decide +kernel
theorem dX9_letsOf_50 : decode cX9_letsOf 50 = .ok (.istore 4, 2) := by decide +kernel
theorem dX9_letsOf_52 : decode cX9_letsOf 52 = .ok (.aload_n 0, 1) := by decide +kernel
theorem dX9_letsOf_53 : decode cX9_letsOf 53 = .ok (.iload_n 1, 1) := by decide +kernel
theorem dX9_letsOf_54 : decode cX9_letsOf 54 = .ok (.iconst 0, 1) := by decide +kernel
theorem dX9_letsOf_55 : decode cX9_letsOf 55 = .ok (.invokevirtual 120, 3) := by decide +kernel
theorem dX9_letsOf_58 : decode cX9_letsOf 58 = .ok (.istore 5, 2) := by decide +kernel
theorem dX9_letsOf_60 : decode cX9_letsOf 60 = .ok (.iload 5, 2) := by decide +kernel
theorem dX9_letsOf_62 : decode cX9_letsOf 62 = .ok (.iconst 4, 1) := by decide +kernel
theorem dX9_letsOf_63 : decode cX9_letsOf 63 = .ok (.if_icmp .ne 20, 3) := by decide +kernel
theorem dX9_letsOf_66 : decode cX9_letsOf 66 = .ok (.iload_n 3, 1) := by decide +kernel
theorem dX9_letsOf_67 : decode cX9_letsOf 67 = .ok (.aload_n 0, 1) := by decide +kernel
theorem dX9_letsOf_68 : decode cX9_letsOf 68 = .ok (.iload_n 1, 1) := by decide +kernel
theorem dX9_letsOf_69 : decode cX9_letsOf 69 = .ok (.bipush 8, 2) := by decide +kernel
theorem dX9_letsOf_71 : decode cX9_letsOf 71 = .ok (.invokevirtual 120, 3) := by decide +kernel
theorem dX9_letsOf_74 : decode cX9_letsOf 74 = .ok (.isub, 1) := by decide +kernel
theorem dX9_letsOf_75 : decode cX9_letsOf 75 = .ok (.iload 4, 2) := by decide +kernel
theorem dX9_letsOf_77 : decode cX9_letsOf 77 = .ok (.invokestatic 130, 3) := by decide +kernel
theorem dX9_letsOf_80 : decode cX9_letsOf 80 = .ok (.goto 34, 3) := by decide +kernel
theorem dX9_letsOf_83 : decode cX9_letsOf 83 = .ok (.iload 5, 2) := by decide +kernel
theorem dX9_letsOf_85 : decode cX9_letsOf 85 = .ok (.iconst 2, 1) := by decide +kernel
theorem dX9_letsOf_86 : decode cX9_letsOf 86 = .ok (.if_icmp .eq 9, 3) := by decide +kernel
theorem dX9_letsOf_89 : decode cX9_letsOf 89 = .ok (.iload 5, 2) := by decide +kernel
theorem dX9_letsOf_91 : decode cX9_letsOf 91 = .ok (.iconst 3, 1) := by decide +kernel
theorem dX9_letsOf_92 : decode cX9_letsOf 92 = .ok (.if_icmp .ne 16, 3) := by decide +kernel
theorem dX9_letsOf_95 : decode cX9_letsOf 95 = .ok (.iload_n 3, 1) := by decide +kernel
theorem dX9_letsOf_96 : decode cX9_letsOf 96 = .ok (.iconst 1, 1) := by decide +kernel
theorem dX9_letsOf_97 : decode cX9_letsOf 97 = .ok (.isub, 1) := by decide +kernel
theorem dX9_letsOf_98 : decode cX9_letsOf 98 = .ok (.iload 4, 2) := by decide +kernel
theorem dX9_letsOf_100 : decode cX9_letsOf 100 = .ok (.iconst 1, 1) := by decide +kernel
theorem dX9_letsOf_101 : decode cX9_letsOf 101 = .ok (.iadd, 1) := by decide +kernel
theorem dX9_letsOf_102 : decode cX9_letsOf 102 = .ok (.invokestatic 130, 3) := by decide +kernel
theorem dX9_letsOf_105 : decode cX9_letsOf 105 = .ok (.goto 9, 3) := by decide +kernel
theorem dX9_letsOf_108 : decode cX9_letsOf 108 = .ok (.iload_n 3, 1) := by decide +kernel
theorem dX9_letsOf_109 : decode cX9_letsOf 109 = .ok (.iload 4, 2) := by decide +kernel
theorem dX9_letsOf_111 : decode cX9_letsOf 111 = .ok (.invokestatic 130, 3) := by decide +kernel
theorem dX9_letsOf_114 : decode cX9_letsOf 114 = .ok (.ireturn, 1) := by decide +kernel
theorem dX9_lets_0 : decode cX9_lets 0 = .ok (.aload_n 0, 1) := by decide +kernel
theorem dX9_lets_1 : decode cX9_lets 1 = .ok (.iload_n 1, 1) := by decide +kernel
theorem dX9_lets_2 : decode cX9_lets 2 = .ok (.invokevirtual 113, 3) := by decide +kernel
theorem dX9_lets_5 : decode cX9_lets 5 = .ok (.ifCond .eq 11, 3) := by decide +kernel
theorem dX9_lets_8 : decode cX9_lets 8 = .ok (.aload_n 0, 1) := by decide +kernel
theorem dX9_lets_9 : decode cX9_lets 9 = .ok (.iload_n 1, 1) := by decide +kernel
theorem dX9_lets_10 : decode cX9_lets 10 = .ok (.invokevirtual 133, 3) := by decide +kernel
theorem dX9_lets_13 : decode cX9_lets 13 = .ok (.goto 8, 3) := by decide +kernel
theorem dX9_lets_16 : decode cX9_lets 16 = .ok (.aload_n 0, 1) := by decide +kernel
theorem dX9_lets_17 : decode cX9_lets 17 = .ok (.iconst 1, 1) := by decide +kernel
theorem dX9_lets_18 : decode cX9_lets 18 = .ok (.invokevirtual 97, 3) := by decide +kernel
theorem dX9_lets_21 : decode cX9_lets 21 = .ok (.ireturn, 1) := by decide +kernel
theorem dX9_rootOf_0 : decode cX9_rootOf 0 = .ok (.iload_n 1, 1) := by decide +kernel
theorem dX9_rootOf_1 : decode cX9_rootOf 1 = .ok (.istore_n 2, 1) := by decide +kernel
theorem dX9_rootOf_2 : decode cX9_rootOf 2 = .ok (.aload_n 0, 1) := by decide +kernel
theorem dX9_rootOf_3 : decode cX9_rootOf 3 = .ok (.iload_n 2, 1) := by decide +kernel
theorem dX9_rootOf_4 : decode cX9_rootOf 4 = .ok (.bipush 7, 2) := by decide +kernel
theorem dX9_rootOf_6 : decode cX9_rootOf 6 = .ok (.invokevirtual 120, 3) := by decide +kernel
theorem dX9_rootOf_9 : decode cX9_rootOf 9 = .ok (.ifCond .lt 14, 3) := by decide +kernel
theorem dX9_rootOf_12 : decode cX9_rootOf 12 = .ok (.aload_n 0, 1) := by decide +kernel
theorem dX9_rootOf_13 : decode cX9_rootOf 13 = .ok (.iload_n 2, 1) := by decide +kernel
theorem dX9_rootOf_14 : decode cX9_rootOf 14 = .ok (.bipush 7, 2) := by decide +kernel
theorem dX9_rootOf_16 : decode cX9_rootOf 16 = .ok (.invokevirtual 120, 3) := by decide +kernel
theorem dX9_rootOf_19 : decode cX9_rootOf 19 = .ok (.istore_n 2, 1) := by decide +kernel
theorem dX9_rootOf_20 : decode cX9_rootOf 20 = .ok (.goto (-18), 3) := by decide +kernel
theorem dX9_rootOf_23 : decode cX9_rootOf 23 = .ok (.iload_n 2, 1) := by decide +kernel
theorem dX9_rootOf_24 : decode cX9_rootOf 24 = .ok (.ireturn, 1) := by decide +kernel
theorem dX9_root_0 : decode cX9_root 0 = .ok (.aload_n 0, 1) := by decide +kernel
theorem dX9_root_1 : decode cX9_root 1 = .ok (.iload_n 1, 1) := by decide +kernel
theorem dX9_root_2 : decode cX9_root 2 = .ok (.invokevirtual 113, 3) := by decide +kernel
theorem dX9_root_5 : decode cX9_root 5 = .ok (.ifCond .eq 11, 3) := by decide +kernel
theorem dX9_root_8 : decode cX9_root 8 = .ok (.aload_n 0, 1) := by decide +kernel
theorem dX9_root_9 : decode cX9_root 9 = .ok (.iload_n 1, 1) := by decide +kernel
theorem dX9_root_10 : decode cX9_root 10 = .ok (.invokevirtual 136, 3) := by decide +kernel
theorem dX9_root_13 : decode cX9_root 13 = .ok (.goto 8, 3) := by decide +kernel
theorem dX9_root_16 : decode cX9_root 16 = .ok (.aload_n 0, 1) := by decide +kernel
theorem dX9_root_17 : decode cX9_root 17 = .ok (.iconst 1, 1) := by decide +kernel
theorem dX9_root_18 : decode cX9_root 18 = .ok (.invokevirtual 97, 3) := by decide +kernel
theorem dX9_root_21 : decode cX9_root 21 = .ok (.ireturn, 1) := by decide +kernel
theorem dX9_tree_0 : decode cX9_tree 0 = .ok (.aload_n 0, 1) := by decide +kernel
theorem dX9_tree_1 : decode cX9_tree 1 = .ok (.iload_n 1, 1) := by decide +kernel
theorem dX9_tree_2 : decode cX9_tree 2 = .ok (.invokevirtual 113, 3) := by decide +kernel
theorem dX9_tree_5 : decode cX9_tree 5 = .ok (.ifCond .ne 9, 3) := by decide +kernel
theorem dX9_tree_8 : decode cX9_tree 8 = .ok (.aload_n 0, 1) := by decide +kernel
theorem dX9_tree_9 : decode cX9_tree 9 = .ok (.iconst 1, 1) := by decide +kernel
theorem dX9_tree_10 : decode cX9_tree 10 = .ok (.invokevirtual 97, 3) := by decide +kernel
theorem dX9_tree_13 : decode cX9_tree 13 = .ok (.ireturn, 1) := by decide +kernel
theorem dX9_tree_14 : decode cX9_tree 14 = .ok (.iconst 0, 1) := by decide +kernel
theorem dX9_tree_15 : decode cX9_tree 15 = .ok (.istore_n 2, 1) := by decide +kernel
theorem dX9_tree_16 : decode cX9_tree 16 = .ok (.iconst 0, 1) := by decide +kernel
theorem dX9_tree_17 : decode cX9_tree 17 = .ok (.istore_n 3, 1) := by decide +kernel
theorem dX9_tree_18 : decode cX9_tree 18 = .ok (.iload_n 3, 1) := by decide +kernel
theorem dX9_tree_19 : decode cX9_tree 19 = .ok (.aload_n 0, 1) := by decide +kernel
theorem dX9_tree_20 : decode cX9_tree 20 = .ok (.getfield 13, 3) := by decide +kernel
theorem dX9_tree_23 : decode cX9_tree 23 = .ok (.iconst 1, 1) := by decide +kernel
theorem dX9_tree_24 : decode cX9_tree 24 = .ok (.iaload, 1) := by decide +kernel
theorem dX9_tree_25 : decode cX9_tree 25 = .ok (.if_icmp .ge 32, 3) := by decide +kernel
theorem dX9_tree_28 : decode cX9_tree 28 = .ok (.iload_n 2, 1) := by decide +kernel
theorem dX9_tree_29 : decode cX9_tree 29 = .ok (.aload_n 0, 1) := by decide +kernel
theorem dX9_tree_30 : decode cX9_tree 30 = .ok (.iload_n 3, 1) := by decide +kernel
theorem dX9_tree_31 : decode cX9_tree 31 = .ok (.invokevirtual 136, 3) := by decide +kernel
theorem dX9_tree_34 : decode cX9_tree 34 = .ok (.aload_n 0, 1) := by decide +kernel
theorem dX9_tree_35 : decode cX9_tree 35 = .ok (.iload_n 1, 1) := by decide +kernel
theorem dX9_tree_36 : decode cX9_tree 36 = .ok (.invokevirtual 136, 3) := by decide +kernel
theorem dX9_tree_39 : decode cX9_tree 39 = .ok (.if_icmp .ne 9, 3) := by decide +kernel
theorem dX9_tree_42 : decode cX9_tree 42 = .ok (.iconst 1, 1) := by decide +kernel
theorem dX9_tree_43 : decode cX9_tree 43 = .ok (.iload_n 3, 1) := by decide +kernel
theorem dX9_tree_44 : decode cX9_tree 44 = .ok (.ishl, 1) := by decide +kernel
theorem dX9_tree_45 : decode cX9_tree 45 = .ok (.goto 4, 3) := by decide +kernel
theorem dX9_tree_48 : decode cX9_tree 48 = .ok (.iconst 0, 1) := by decide +kernel
theorem dX9_tree_49 : decode cX9_tree 49 = .ok (.ior, 1) := by decide +kernel
theorem dX9_tree_50 : decode cX9_tree 50 = .ok (.istore_n 2, 1) := by decide +kernel
theorem dX9_tree_51 : decode cX9_tree 51 = .ok (.iinc 3 1, 3) := by decide +kernel
theorem dX9_tree_54 : decode cX9_tree 54 = .ok (.goto (-36), 3) := by decide +kernel
theorem dX9_tree_57 : decode cX9_tree 57 = .ok (.iload_n 2, 1) := by decide +kernel
theorem dX9_tree_58 : decode cX9_tree 58 = .ok (.ireturn, 1) := by decide +kernel
theorem dX9_findDays_0 : decode cX9_findDays 0 = .ok (.aload_n 0, 1) := by decide +kernel
theorem dX9_findDays_1 : decode cX9_findDays 1 = .ok (.iconst 0, 1) := by decide +kernel
theorem dX9_findDays_2 : decode cX9_findDays 2 = .ok (.putfield 139, 3) := by decide +kernel
theorem dX9_findDays_5 : decode cX9_findDays 5 = .ok (.aload_n 0, 1) := by decide +kernel
theorem dX9_findDays_6 : decode cX9_findDays 6 = .ok (.iload_n 1, 1) := by decide +kernel
theorem dX9_findDays_7 : decode cX9_findDays 7 = .ok (.iconst 4, 1) := by decide +kernel
theorem dX9_findDays_8 : decode cX9_findDays 8 = .ok (.invokevirtual 120, 3) := by decide +kernel
theorem dX9_findDays_11 : decode cX9_findDays 11 = .ok (.istore_n 2, 1) := by decide +kernel
theorem dX9_findDays_12 : decode cX9_findDays 12 = .ok (.iconst 0, 1) := by decide +kernel
theorem dX9_findDays_13 : decode cX9_findDays 13 = .ok (.istore_n 3, 1) := by decide +kernel
theorem dX9_findDays_14 : decode cX9_findDays 14 = .ok (.iload_n 3, 1) := by decide +kernel
theorem dX9_findDays_15 : decode cX9_findDays 15 = .ok (.iconst 4, 1) := by decide +kernel
theorem dX9_findDays_16 : decode cX9_findDays 16 = .ok (.if_icmp .ge 153, 3) := by decide +kernel
theorem dX9_findDays_19 : decode cX9_findDays 19 = .ok (.aload_n 0, 1) := by decide +kernel
theorem dX9_findDays_20 : decode cX9_findDays 20 = .ok (.iload_n 1, 1) := by decide +kernel
theorem dX9_findDays_21 : decode cX9_findDays 21 = .ok (.iconst 3, 1) := by decide +kernel
theorem dX9_findDays_22 : decode cX9_findDays 22 = .ok (.invokevirtual 120, 3) := by decide +kernel
theorem dX9_findDays_25 : decode cX9_findDays 25 = .ok (.aload_n 0, 1) := by decide +kernel
theorem dX9_findDays_26 : decode cX9_findDays 26 = .ok (.iload_n 3, 1) := by decide +kernel
theorem dX9_findDays_27 : decode cX9_findDays 27 = .ok (.invokevirtual 143, 3) := by decide +kernel
theorem dX9_findDays_30 : decode cX9_findDays 30 = .ok (.iadd, 1) := by decide +kernel
theorem dX9_findDays_31 : decode cX9_findDays 31 = .ok (.istore 4, 2) := by decide +kernel
theorem dX9_findDays_33 : decode cX9_findDays 33 = .ok (.iload_n 2, 1) := by decide +kernel
theorem dX9_findDays_34 : decode cX9_findDays 34 = .ok (.iconst 4, 1) := by decide +kernel
theorem dX9_findDays_35 : decode cX9_findDays 35 = .ok (.if_icmp .eq 8, 3) := by decide +kernel
theorem dX9_findDays_38 : decode cX9_findDays 38 = .ok (.iload_n 2, 1) := by decide +kernel
theorem dX9_findDays_39 : decode cX9_findDays 39 = .ok (.iload_n 3, 1) := by decide +kernel
theorem dX9_findDays_40 : decode cX9_findDays 40 = .ok (.if_icmp .ne 7, 3) := by decide +kernel
theorem dX9_findDays_43 : decode cX9_findDays 43 = .ok (.iconst 1, 1) := by decide +kernel
theorem dX9_findDays_44 : decode cX9_findDays 44 = .ok (.goto 4, 3) := by decide +kernel
theorem dX9_findDays_47 : decode cX9_findDays 47 = .ok (.iconst 0, 1) := by decide +kernel
theorem dX9_findDays_48 : decode cX9_findDays 48 = .ok (.istore 5, 2) := by decide +kernel
theorem dX9_findDays_50 : decode cX9_findDays 50 = .ok (.iconst 0, 1) := by decide +kernel
theorem dX9_findDays_51 : decode cX9_findDays 51 = .ok (.istore 6, 2) := by decide +kernel
theorem dX9_findDays_53 : decode cX9_findDays 53 = .ok (.iload 6, 2) := by decide +kernel
theorem dX9_findDays_55 : decode cX9_findDays 55 = .ok (.aload_n 0, 1) := by decide +kernel
theorem dX9_findDays_56 : decode cX9_findDays 56 = .ok (.getfield 139, 3) := by decide +kernel
theorem dX9_findDays_59 : decode cX9_findDays 59 = .ok (.if_icmp .ge 33, 3) := by decide +kernel
theorem dX9_findDays_62 : decode cX9_findDays 62 = .ok (.iload 5, 2) := by decide +kernel
theorem dX9_findDays_64 : decode cX9_findDays 64 = .ok (.ifCond .eq 19, 3) := by decide +kernel
theorem dX9_findDays_67 : decode cX9_findDays 67 = .ok (.aload_n 0, 1) := by decide +kernel
theorem dX9_findDays_68 : decode cX9_findDays 68 = .ok (.getfield 41, 3) := by decide +kernel
theorem dX9_findDays_71 : decode cX9_findDays 71 = .ok (.iload 6, 2) := by decide +kernel
theorem dX9_findDays_73 : decode cX9_findDays 73 = .ok (.iaload, 1) := by decide +kernel
theorem dX9_findDays_74 : decode cX9_findDays 74 = .ok (.iload 4, 2) := by decide +kernel
theorem dX9_findDays_76 : decode cX9_findDays 76 = .ok (.if_icmp .eq 7, 3) := by decide +kernel
theorem dX9_findDays_79 : decode cX9_findDays 79 = .ok (.iconst 1, 1) := by decide +kernel
theorem dX9_findDays_80 : decode cX9_findDays 80 = .ok (.goto 4, 3) := by decide +kernel
theorem dX9_findDays_83 : decode cX9_findDays 83 = .ok (.iconst 0, 1) := by decide +kernel
theorem dX9_findDays_84 : decode cX9_findDays 84 = .ok (.istore 5, 2) := by decide +kernel
theorem dX9_findDays_86 : decode cX9_findDays 86 = .ok (.iinc 6 1, 3) := by decide +kernel
theorem dX9_findDays_89 : decode cX9_findDays 89 = .ok (.goto (-36), 3) := by decide +kernel
theorem dX9_findDays_92 : decode cX9_findDays 92 = .ok (.iload 5, 2) := by decide +kernel
theorem dX9_findDays_94 : decode cX9_findDays 94 = .ok (.ifCond .eq 69, 3) := by decide +kernel
theorem dX9_findDays_97 : decode cX9_findDays 97 = .ok (.aload_n 0, 1) := by decide +kernel
theorem dX9_findDays_98 : decode cX9_findDays 98 = .ok (.getfield 139, 3) := by decide +kernel
theorem dX9_findDays_101 : decode cX9_findDays 101 = .ok (.istore 6, 2) := by decide +kernel
theorem dX9_findDays_103 : decode cX9_findDays 103 = .ok (.iload 6, 2) := by decide +kernel
theorem dX9_findDays_105 : decode cX9_findDays 105 = .ok (.ifCond .le 39, 3) := by decide +kernel
theorem dX9_findDays_108 : decode cX9_findDays 108 = .ok (.aload_n 0, 1) := by decide +kernel
theorem dX9_findDays_109 : decode cX9_findDays 109 = .ok (.getfield 41, 3) := by decide +kernel
theorem dX9_findDays_112 : decode cX9_findDays 112 = .ok (.iload 6, 2) := by decide +kernel
theorem dX9_findDays_114 : decode cX9_findDays 114 = .ok (.iconst 1, 1) := by decide +kernel
theorem dX9_findDays_115 : decode cX9_findDays 115 = .ok (.isub, 1) := by decide +kernel
theorem dX9_findDays_116 : decode cX9_findDays 116 = .ok (.iaload, 1) := by decide +kernel
theorem dX9_findDays_117 : decode cX9_findDays 117 = .ok (.iload 4, 2) := by decide +kernel
theorem dX9_findDays_119 : decode cX9_findDays 119 = .ok (.if_icmp .le 25, 3) := by decide +kernel
theorem dX9_findDays_122 : decode cX9_findDays 122 = .ok (.aload_n 0, 1) := by decide +kernel
theorem dX9_findDays_123 : decode cX9_findDays 123 = .ok (.getfield 41, 3) := by decide +kernel
theorem dX9_findDays_126 : decode cX9_findDays 126 = .ok (.iload 6, 2) := by decide +kernel
theorem dX9_findDays_128 : decode cX9_findDays 128 = .ok (.aload_n 0, 1) := by decide +kernel
theorem dX9_findDays_129 : decode cX9_findDays 129 = .ok (.getfield 41, 3) := by decide +kernel
theorem dX9_findDays_132 : decode cX9_findDays 132 = .ok (.iload 6, 2) := by decide +kernel
theorem dX9_findDays_134 : decode cX9_findDays 134 = .ok (.iconst 1, 1) := by decide +kernel
theorem dX9_findDays_135 : decode cX9_findDays 135 = .ok (.isub, 1) := by decide +kernel
theorem dX9_findDays_136 : decode cX9_findDays 136 = .ok (.iaload, 1) := by decide +kernel
theorem dX9_findDays_137 : decode cX9_findDays 137 = .ok (.iastore, 1) := by decide +kernel
theorem dX9_findDays_138 : decode cX9_findDays 138 = .ok (.iinc 6 (-1), 3) := by decide +kernel
theorem dX9_findDays_141 : decode cX9_findDays 141 = .ok (.goto (-38), 3) := by decide +kernel
theorem dX9_findDays_144 : decode cX9_findDays 144 = .ok (.aload_n 0, 1) := by decide +kernel
theorem dX9_findDays_145 : decode cX9_findDays 145 = .ok (.getfield 41, 3) := by decide +kernel
theorem dX9_findDays_148 : decode cX9_findDays 148 = .ok (.iload 6, 2) := by decide +kernel
theorem dX9_findDays_150 : decode cX9_findDays 150 = .ok (.iload 4, 2) := by decide +kernel
theorem dX9_findDays_152 : decode cX9_findDays 152 = .ok (.iastore, 1) := by decide +kernel
theorem dX9_findDays_153 : decode cX9_findDays 153 = .ok (.aload_n 0, 1) := by decide +kernel
theorem dX9_findDays_154 : decode cX9_findDays 154 = .ok (.dup, 1) := by decide +kernel
theorem dX9_findDays_155 : decode cX9_findDays 155 = .ok (.getfield 139, 3) := by decide +kernel
theorem dX9_findDays_158 : decode cX9_findDays 158 = .ok (.iconst 1, 1) := by decide +kernel
theorem dX9_findDays_159 : decode cX9_findDays 159 = .ok (.iadd, 1) := by decide +kernel
theorem dX9_findDays_160 : decode cX9_findDays 160 = .ok (.putfield 139, 3) := by decide +kernel
theorem dX9_findDays_163 : decode cX9_findDays 163 = .ok (.iinc 3 1, 3) := by decide +kernel
theorem dX9_findDays_166 : decode cX9_findDays 166 = .ok (.goto (-152), 3) := by decide +kernel
theorem dX9_findDays_169 : decode cX9_findDays 169 = .ok (.return_, 1) := by decide +kernel
theorem dX9_days_0 : decode cX9_days 0 = .ok (.aload_n 0, 1) := by decide +kernel
theorem dX9_days_1 : decode cX9_days 1 = .ok (.iload_n 1, 1) := by decide +kernel
theorem dX9_days_2 : decode cX9_days 2 = .ok (.invokevirtual 113, 3) := by decide +kernel
theorem dX9_days_5 : decode cX9_days 5 = .ok (.ifCond .ne 9, 3) := by decide +kernel
theorem dX9_days_8 : decode cX9_days 8 = .ok (.aload_n 0, 1) := by decide +kernel
theorem dX9_days_9 : decode cX9_days 9 = .ok (.iconst 1, 1) := by decide +kernel
theorem dX9_days_10 : decode cX9_days 10 = .ok (.invokevirtual 97, 3) := by decide +kernel
theorem dX9_days_13 : decode cX9_days 13 = .ok (.ireturn, 1) := by decide +kernel
theorem dX9_days_14 : decode cX9_days 14 = .ok (.aload_n 0, 1) := by decide +kernel
theorem dX9_days_15 : decode cX9_days 15 = .ok (.iload_n 1, 1) := by decide +kernel
theorem dX9_days_16 : decode cX9_days 16 = .ok (.invokevirtual 146, 3) := by decide +kernel
theorem dX9_days_19 : decode cX9_days 19 = .ok (.aload_n 0, 1) := by decide +kernel
theorem dX9_days_20 : decode cX9_days 20 = .ok (.getfield 139, 3) := by decide +kernel
theorem dX9_days_23 : decode cX9_days 23 = .ok (.ireturn, 1) := by decide +kernel
theorem dX9_day_0 : decode cX9_day 0 = .ok (.aload_n 0, 1) := by decide +kernel
theorem dX9_day_1 : decode cX9_day 1 = .ok (.iload_n 1, 1) := by decide +kernel
theorem dX9_day_2 : decode cX9_day 2 = .ok (.invokevirtual 113, 3) := by decide +kernel
theorem dX9_day_5 : decode cX9_day 5 = .ok (.ifCond .eq 7, 3) := by decide +kernel
theorem dX9_day_8 : decode cX9_day 8 = .ok (.iload_n 2, 1) := by decide +kernel
theorem dX9_day_9 : decode cX9_day 9 = .ok (.ifCond .ge 9, 3) := by decide +kernel
theorem dX9_day_12 : decode cX9_day 12 = .ok (.aload_n 0, 1) := by decide +kernel
theorem dX9_day_13 : decode cX9_day 13 = .ok (.iconst 1, 1) := by decide +kernel
theorem dX9_day_14 : decode cX9_day 14 = .ok (.invokevirtual 97, 3) := by decide +kernel
theorem dX9_day_17 : decode cX9_day 17 = .ok (.ireturn, 1) := by decide +kernel
theorem dX9_day_18 : decode cX9_day 18 = .ok (.aload_n 0, 1) := by decide +kernel
theorem dX9_day_19 : decode cX9_day 19 = .ok (.iload_n 1, 1) := by decide +kernel
theorem dX9_day_20 : decode cX9_day 20 = .ok (.invokevirtual 146, 3) := by decide +kernel
theorem dX9_day_23 : decode cX9_day 23 = .ok (.iload_n 2, 1) := by decide +kernel
theorem dX9_day_24 : decode cX9_day 24 = .ok (.aload_n 0, 1) := by decide +kernel
theorem dX9_day_25 : decode cX9_day 25 = .ok (.getfield 139, 3) := by decide +kernel
theorem dX9_day_28 : decode cX9_day 28 = .ok (.if_icmp .ge 12, 3) := by decide +kernel
theorem dX9_day_31 : decode cX9_day 31 = .ok (.aload_n 0, 1) := by decide +kernel
theorem dX9_day_32 : decode cX9_day 32 = .ok (.getfield 41, 3) := by decide +kernel
theorem dX9_day_35 : decode cX9_day 35 = .ok (.iload_n 2, 1) := by decide +kernel
theorem dX9_day_36 : decode cX9_day 36 = .ok (.iaload, 1) := by decide +kernel
theorem dX9_day_37 : decode cX9_day 37 = .ok (.goto 8, 3) := by decide +kernel
theorem dX9_day_40 : decode cX9_day 40 = .ok (.aload_n 0, 1) := by decide +kernel
theorem dX9_day_41 : decode cX9_day 41 = .ok (.iconst 4, 1) := by decide +kernel
theorem dX9_day_42 : decode cX9_day 42 = .ok (.invokevirtual 97, 3) := by decide +kernel
theorem dX9_day_45 : decode cX9_day 45 = .ok (.ireturn, 1) := by decide +kernel
theorem dX9_evening_0 : decode cX9_evening 0 = .ok (.aload_n 0, 1) := by decide +kernel
theorem dX9_evening_1 : decode cX9_evening 1 = .ok (.iload_n 1, 1) := by decide +kernel
theorem dX9_evening_2 : decode cX9_evening 2 = .ok (.invokevirtual 113, 3) := by decide +kernel
theorem dX9_evening_5 : decode cX9_evening 5 = .ok (.ifCond .ne 9, 3) := by decide +kernel
theorem dX9_evening_8 : decode cX9_evening 8 = .ok (.aload_n 0, 1) := by decide +kernel
theorem dX9_evening_9 : decode cX9_evening 9 = .ok (.iconst 1, 1) := by decide +kernel
theorem dX9_evening_10 : decode cX9_evening 10 = .ok (.invokevirtual 97, 3) := by decide +kernel
theorem dX9_evening_13 : decode cX9_evening 13 = .ok (.ireturn, 1) := by decide +kernel
theorem dX9_evening_14 : decode cX9_evening 14 = .ok (.aload_n 0, 1) := by decide +kernel
theorem dX9_evening_15 : decode cX9_evening 15 = .ok (.iconst (-1), 1) := by decide +kernel
theorem dX9_evening_16 : decode cX9_evening 16 = .ok (.invokevirtual 109, 3) := by decide +kernel
theorem dX9_evening_19 : decode cX9_evening 19 = .ok (.aload_n 0, 1) := by decide +kernel
theorem dX9_evening_20 : decode cX9_evening 20 = .ok (.iload_n 1, 1) := by decide +kernel
theorem dX9_evening_21 : decode cX9_evening 21 = .ok (.invokevirtual 146, 3) := by decide +kernel
theorem dX9_evening_24 : decode cX9_evening 24 = .ok (.aload_n 0, 1) := by decide +kernel
theorem dX9_evening_25 : decode cX9_evening 25 = .ok (.getfield 139, 3) := by decide +kernel
theorem dX9_evening_28 : decode cX9_evening 28 = .ok (.istore_n 2, 1) := by decide +kernel
theorem dX9_evening_29 : decode cX9_evening 29 = .ok (.iconst 0, 1) := by decide +kernel
theorem dX9_evening_30 : decode cX9_evening 30 = .ok (.istore_n 3, 1) := by decide +kernel
theorem dX9_evening_31 : decode cX9_evening 31 = .ok (.iload_n 3, 1) := by decide +kernel
theorem dX9_evening_32 : decode cX9_evening 32 = .ok (.iload_n 2, 1) := by decide +kernel
theorem dX9_evening_33 : decode cX9_evening 33 = .ok (.if_icmp .ge 21, 3) := by decide +kernel
theorem dX9_evening_36 : decode cX9_evening 36 = .ok (.aload_n 0, 1) := by decide +kernel
theorem dX9_evening_37 : decode cX9_evening 37 = .ok (.getfield 44, 3) := by decide +kernel
theorem dX9_evening_40 : decode cX9_evening 40 = .ok (.iload_n 3, 1) := by decide +kernel
theorem dX9_evening_41 : decode cX9_evening 41 = .ok (.aload_n 0, 1) := by decide +kernel
theorem dX9_evening_42 : decode cX9_evening 42 = .ok (.getfield 41, 3) := by decide +kernel
theorem dX9_evening_45 : decode cX9_evening 45 = .ok (.iload_n 3, 1) := by decide +kernel
theorem dX9_evening_46 : decode cX9_evening 46 = .ok (.iaload, 1) := by decide +kernel
theorem dX9_evening_47 : decode cX9_evening 47 = .ok (.iastore, 1) := by decide +kernel
theorem dX9_evening_48 : decode cX9_evening 48 = .ok (.iinc 3 1, 3) := by decide +kernel
theorem dX9_evening_51 : decode cX9_evening 51 = .ok (.goto (-20), 3) := by decide +kernel
theorem dX9_evening_54 : decode cX9_evening 54 = .ok (.iconst 0, 1) := by decide +kernel
theorem dX9_evening_55 : decode cX9_evening 55 = .ok (.istore_n 3, 1) := by decide +kernel
theorem dX9_evening_56 : decode cX9_evening 56 = .ok (.iconst 0, 1) := by decide +kernel
theorem dX9_evening_57 : decode cX9_evening 57 = .ok (.istore 4, 2) := by decide +kernel
theorem dX9_evening_59 : decode cX9_evening 59 = .ok (.iload 4, 2) := by decide +kernel
theorem dX9_evening_61 : decode cX9_evening 61 = .ok (.aload_n 0, 1) := by decide +kernel
theorem dX9_evening_62 : decode cX9_evening 62 = .ok (.getfield 13, 3) := by decide +kernel
theorem dX9_evening_65 : decode cX9_evening 65 = .ok (.iconst 1, 1) := by decide +kernel
theorem dX9_evening_66 : decode cX9_evening 66 = .ok (.iaload, 1) := by decide +kernel
theorem dX9_evening_67 : decode cX9_evening 67 = .ok (.if_icmp .ge 77, 3) := by decide +kernel
theorem dX9_evening_70 : decode cX9_evening 70 = .ok (.aload_n 0, 1) := by decide +kernel
theorem dX9_evening_71 : decode cX9_evening 71 = .ok (.iload 4, 2) := by decide +kernel
theorem dX9_evening_73 : decode cX9_evening 73 = .ok (.invokevirtual 146, 3) := by decide +kernel
theorem dX9_evening_76 : decode cX9_evening 76 = .ok (.iconst 0, 1) := by decide +kernel
theorem dX9_evening_77 : decode cX9_evening 77 = .ok (.istore 5, 2) := by decide +kernel
theorem dX9_evening_79 : decode cX9_evening 79 = .ok (.iload 5, 2) := by decide +kernel
theorem dX9_evening_81 : decode cX9_evening 81 = .ok (.iload_n 2, 1) := by decide +kernel
theorem dX9_evening_82 : decode cX9_evening 82 = .ok (.aload_n 0, 1) := by decide +kernel
theorem dX9_evening_83 : decode cX9_evening 83 = .ok (.getfield 139, 3) := by decide +kernel
theorem dX9_evening_86 : decode cX9_evening 86 = .ok (.imul, 1) := by decide +kernel
theorem dX9_evening_87 : decode cX9_evening 87 = .ok (.if_icmp .ge 51, 3) := by decide +kernel
theorem dX9_evening_90 : decode cX9_evening 90 = .ok (.iload_n 3, 1) := by decide +kernel
theorem dX9_evening_91 : decode cX9_evening 91 = .ok (.aload_n 0, 1) := by decide +kernel
theorem dX9_evening_92 : decode cX9_evening 92 = .ok (.getfield 37, 3) := by decide +kernel
theorem dX9_evening_95 : decode cX9_evening 95 = .ok (.iload 4, 2) := by decide +kernel
theorem dX9_evening_97 : decode cX9_evening 97 = .ok (.baload, 1) := by decide +kernel
theorem dX9_evening_98 : decode cX9_evening 98 = .ok (.ifCond .eq 31, 3) := by decide +kernel
theorem dX9_evening_101 : decode cX9_evening 101 = .ok (.aload_n 0, 1) := by decide +kernel
theorem dX9_evening_102 : decode cX9_evening 102 = .ok (.getfield 44, 3) := by decide +kernel
theorem dX9_evening_105 : decode cX9_evening 105 = .ok (.iload 5, 2) := by decide +kernel
theorem dX9_evening_107 : decode cX9_evening 107 = .ok (.iload_n 2, 1) := by decide +kernel
theorem dX9_evening_108 : decode cX9_evening 108 = .ok (.irem, 1) := by decide +kernel
theorem dX9_evening_109 : decode cX9_evening 109 = .ok (.iaload, 1) := by decide +kernel
theorem dX9_evening_110 : decode cX9_evening 110 = .ok (.aload_n 0, 1) := by decide +kernel
theorem dX9_evening_111 : decode cX9_evening 111 = .ok (.getfield 41, 3) := by decide +kernel
theorem dX9_evening_114 : decode cX9_evening 114 = .ok (.iload 5, 2) := by decide +kernel
theorem dX9_evening_116 : decode cX9_evening 116 = .ok (.iload_n 2, 1) := by decide +kernel
theorem dX9_evening_117 : decode cX9_evening 117 = .ok (.idiv, 1) := by decide +kernel
theorem dX9_evening_118 : decode cX9_evening 118 = .ok (.iaload, 1) := by decide +kernel
theorem dX9_evening_119 : decode cX9_evening 119 = .ok (.if_icmp .ne 10, 3) := by decide +kernel
theorem dX9_evening_122 : decode cX9_evening 122 = .ok (.iconst 1, 1) := by decide +kernel
theorem dX9_evening_123 : decode cX9_evening 123 = .ok (.iload 4, 2) := by decide +kernel
theorem dX9_evening_125 : decode cX9_evening 125 = .ok (.ishl, 1) := by decide +kernel
theorem dX9_evening_126 : decode cX9_evening 126 = .ok (.goto 4, 3) := by decide +kernel
theorem dX9_evening_129 : decode cX9_evening 129 = .ok (.iconst 0, 1) := by decide +kernel
theorem dX9_evening_130 : decode cX9_evening 130 = .ok (.ior, 1) := by decide +kernel
theorem dX9_evening_131 : decode cX9_evening 131 = .ok (.istore_n 3, 1) := by decide +kernel
theorem dX9_evening_132 : decode cX9_evening 132 = .ok (.iinc 5 1, 3) := by decide +kernel
theorem dX9_evening_135 : decode cX9_evening 135 = .ok (.goto (-56), 3) := by decide +kernel
theorem dX9_evening_138 : decode cX9_evening 138 = .ok (.iinc 4 1, 3) := by decide +kernel
theorem dX9_evening_141 : decode cX9_evening 141 = .ok (.goto (-82), 3) := by decide +kernel
theorem dX9_evening_144 : decode cX9_evening 144 = .ok (.iload_n 3, 1) := by decide +kernel
theorem dX9_evening_145 : decode cX9_evening 145 = .ok (.ireturn, 1) := by decide +kernel
theorem dX9_feed_0 : decode cX9_feed 0 = .ok (.iload_n 2, 1) := by decide +kernel
theorem dX9_feed_1 : decode cX9_feed 1 = .ok (.iconst 1, 1) := by decide +kernel
theorem dX9_feed_2 : decode cX9_feed 2 = .ok (.iconst 4, 1) := by decide +kernel
theorem dX9_feed_3 : decode cX9_feed 3 = .ok (.invokestatic 79, 3) := by decide +kernel
theorem dX9_feed_6 : decode cX9_feed 6 = .ok (.ifCond .ne 9, 3) := by decide +kernel
theorem dX9_feed_9 : decode cX9_feed 9 = .ok (.aload_n 0, 1) := by decide +kernel
theorem dX9_feed_10 : decode cX9_feed 10 = .ok (.iconst 1, 1) := by decide +kernel
theorem dX9_feed_11 : decode cX9_feed 11 = .ok (.invokevirtual 97, 3) := by decide +kernel
theorem dX9_feed_14 : decode cX9_feed 14 = .ok (.ireturn, 1) := by decide +kernel
theorem dX9_feed_15 : decode cX9_feed 15 = .ok (.aload_n 0, 1) := by decide +kernel
theorem dX9_feed_16 : decode cX9_feed 16 = .ok (.getfield 149, 3) := by decide +kernel
theorem dX9_feed_19 : decode cX9_feed 19 = .ok (.iload_n 2, 1) := by decide +kernel
theorem dX9_feed_20 : decode cX9_feed 20 = .ok (.iadd, 1) := by decide +kernel
theorem dX9_feed_21 : decode cX9_feed 21 = .ok (.bipush 120, 2) := by decide +kernel
theorem dX9_feed_23 : decode cX9_feed 23 = .ok (.if_icmp .le 9, 3) := by decide +kernel
theorem dX9_feed_26 : decode cX9_feed 26 = .ok (.aload_n 0, 1) := by decide +kernel
theorem dX9_feed_27 : decode cX9_feed 27 = .ok (.iconst 2, 1) := by decide +kernel
theorem dX9_feed_28 : decode cX9_feed 28 = .ok (.invokevirtual 97, 3) := by decide +kernel
theorem dX9_feed_31 : decode cX9_feed 31 = .ok (.ireturn, 1) := by decide +kernel
theorem dX9_feed_32 : decode cX9_feed 32 = .ok (.iload_n 2, 1) := by decide +kernel
theorem dX9_feed_33 : decode cX9_feed 33 = .ok (.iconst 1, 1) := by decide +kernel
theorem dX9_feed_34 : decode cX9_feed 34 = .ok (.isub, 1) := by decide +kernel
theorem dX9_feed_35 : decode cX9_feed 35 = .ok (.istore_n 3, 1) := by decide +kernel
theorem dX9_feed_36 : decode cX9_feed 36 = .ok (.iload_n 3, 1) := by decide +kernel
theorem dX9_feed_37 : decode cX9_feed 37 = .ok (.ifCond .lt 38, 3) := by decide +kernel
theorem dX9_feed_40 : decode cX9_feed 40 = .ok (.aload_n 0, 1) := by decide +kernel
theorem dX9_feed_41 : decode cX9_feed 41 = .ok (.getfield 47, 3) := by decide +kernel
theorem dX9_feed_44 : decode cX9_feed 44 = .ok (.aload_n 0, 1) := by decide +kernel
theorem dX9_feed_45 : decode cX9_feed 45 = .ok (.getfield 149, 3) := by decide +kernel
theorem dX9_feed_48 : decode cX9_feed 48 = .ok (.iload_n 1, 1) := by decide +kernel
theorem dX9_feed_49 : decode cX9_feed 49 = .ok (.bipush 8, 2) := by decide +kernel
theorem dX9_feed_51 : decode cX9_feed 51 = .ok (.iload_n 3, 1) := by decide +kernel
theorem dX9_feed_52 : decode cX9_feed 52 = .ok (.imul, 1) := by decide +kernel
theorem dX9_feed_53 : decode cX9_feed 53 = .ok (.ishr, 1) := by decide +kernel
theorem dX9_feed_54 : decode cX9_feed 54 = .ok (.sipush 255, 3) := by decide +kernel
theorem dX9_feed_57 : decode cX9_feed 57 = .ok (.iand, 1) := by decide +kernel
theorem dX9_feed_58 : decode cX9_feed 58 = .ok (.iastore, 1) := by decide +kernel
theorem dX9_feed_59 : decode cX9_feed 59 = .ok (.aload_n 0, 1) := by decide +kernel
theorem dX9_feed_60 : decode cX9_feed 60 = .ok (.dup, 1) := by decide +kernel
theorem dX9_feed_61 : decode cX9_feed 61 = .ok (.getfield 149, 3) := by decide +kernel
theorem dX9_feed_64 : decode cX9_feed 64 = .ok (.iconst 1, 1) := by decide +kernel
theorem dX9_feed_65 : decode cX9_feed 65 = .ok (.iadd, 1) := by decide +kernel
theorem dX9_feed_66 : decode cX9_feed 66 = .ok (.putfield 149, 3) := by decide +kernel
theorem dX9_feed_69 : decode cX9_feed 69 = .ok (.iinc 3 (-1), 3) := by decide +kernel
theorem dX9_feed_72 : decode cX9_feed 72 = .ok (.goto (-36), 3) := by decide +kernel
theorem dX9_feed_75 : decode cX9_feed 75 = .ok (.aload_n 0, 1) := by decide +kernel
theorem dX9_feed_76 : decode cX9_feed 76 = .ok (.getfield 149, 3) := by decide +kernel
theorem dX9_feed_79 : decode cX9_feed 79 = .ok (.ireturn, 1) := by decide +kernel
theorem dX9_wipe_0 : decode cX9_wipe 0 = .ok (.aload_n 0, 1) := by decide +kernel
theorem dX9_wipe_1 : decode cX9_wipe 1 = .ok (.getfield 149, 3) := by decide +kernel
theorem dX9_wipe_4 : decode cX9_wipe 4 = .ok (.istore_n 1, 1) := by decide +kernel
theorem dX9_wipe_5 : decode cX9_wipe 5 = .ok (.aload_n 0, 1) := by decide +kernel
theorem dX9_wipe_6 : decode cX9_wipe 6 = .ok (.iconst 0, 1) := by decide +kernel
theorem dX9_wipe_7 : decode cX9_wipe 7 = .ok (.putfield 149, 3) := by decide +kernel
theorem dX9_wipe_10 : decode cX9_wipe 10 = .ok (.iload_n 1, 1) := by decide +kernel
theorem dX9_wipe_11 : decode cX9_wipe 11 = .ok (.ireturn, 1) := by decide +kernel
theorem dX9_isSmall_0 : decode cX9_isSmall 0 = .ok (.iload_n 0, 1) := by decide +kernel
theorem dX9_isSmall_1 : decode cX9_isSmall 1 = .ok (.bipush 97, 2) := by decide +kernel
theorem dX9_isSmall_3 : decode cX9_isSmall 3 = .ok (.if_icmp .lt 13, 3) := by decide +kernel
theorem dX9_isSmall_6 : decode cX9_isSmall 6 = .ok (.iload_n 0, 1) := by decide +kernel
theorem dX9_isSmall_7 : decode cX9_isSmall 7 = .ok (.bipush 122, 2) := by decide +kernel
theorem dX9_isSmall_9 : decode cX9_isSmall 9 = .ok (.if_icmp .gt 7, 3) := by decide +kernel
theorem dX9_isSmall_12 : decode cX9_isSmall 12 = .ok (.iconst 1, 1) := by decide +kernel
theorem dX9_isSmall_13 : decode cX9_isSmall 13 = .ok (.goto 4, 3) := by decide +kernel
theorem dX9_isSmall_16 : decode cX9_isSmall 16 = .ok (.iconst 0, 1) := by decide +kernel
theorem dX9_isSmall_17 : decode cX9_isSmall 17 = .ok (.ireturn, 1) := by decide +kernel
theorem dX9_isDigit_0 : decode cX9_isDigit 0 = .ok (.iload_n 0, 1) := by decide +kernel
theorem dX9_isDigit_1 : decode cX9_isDigit 1 = .ok (.bipush 48, 2) := by decide +kernel
theorem dX9_isDigit_3 : decode cX9_isDigit 3 = .ok (.if_icmp .lt 13, 3) := by decide +kernel
theorem dX9_isDigit_6 : decode cX9_isDigit 6 = .ok (.iload_n 0, 1) := by decide +kernel
theorem dX9_isDigit_7 : decode cX9_isDigit 7 = .ok (.bipush 57, 2) := by decide +kernel
theorem dX9_isDigit_9 : decode cX9_isDigit 9 = .ok (.if_icmp .gt 7, 3) := by decide +kernel
theorem dX9_isDigit_12 : decode cX9_isDigit 12 = .ok (.iconst 1, 1) := by decide +kernel
theorem dX9_isDigit_13 : decode cX9_isDigit 13 = .ok (.goto 4, 3) := by decide +kernel
theorem dX9_isDigit_16 : decode cX9_isDigit 16 = .ok (.iconst 0, 1) := by decide +kernel
theorem dX9_isDigit_17 : decode cX9_isDigit 17 = .ok (.ireturn, 1) := by decide +kernel
theorem dX9_next_0 : decode cX9_next 0 = .ok (.aload_n 0, 1) := by decide +kernel
theorem dX9_next_1 : decode cX9_next 1 = .ok (.getfield 152, 3) := by decide +kernel
theorem dX9_next_4 : decode cX9_next 4 = .ok (.istore_n 1, 1) := by decide +kernel
theorem dX9_next_5 : decode cX9_next 5 = .ok (.iload_n 1, 1) := by decide +kernel
theorem dX9_next_6 : decode cX9_next 6 = .ok (.aload_n 0, 1) := by decide +kernel
theorem dX9_next_7 : decode cX9_next 7 = .ok (.getfield 149, 3) := by decide +kernel
theorem dX9_next_10 : decode cX9_next 10 = .ok (.if_icmp .ge 20, 3) := by decide +kernel
theorem dX9_next_13 : decode cX9_next 13 = .ok (.aload_n 0, 1) := by decide +kernel
theorem dX9_next_14 : decode cX9_next 14 = .ok (.getfield 47, 3) := by decide +kernel
theorem dX9_next_17 : decode cX9_next 17 = .ok (.iload_n 1, 1) := by decide +kernel
theorem dX9_next_18 : decode cX9_next 18 = .ok (.iaload, 1) := by decide +kernel
theorem dX9_next_19 : decode cX9_next 19 = .ok (.bipush 32, 2) := by decide +kernel
theorem dX9_next_21 : decode cX9_next 21 = .ok (.if_icmp .ne 9, 3) := by decide +kernel
theorem dX9_next_24 : decode cX9_next 24 = .ok (.iinc 1 1, 3) := by decide +kernel
theorem dX9_next_27 : decode cX9_next 27 = .ok (.goto (-22), 3) := by decide +kernel
theorem dX9_next_30 : decode cX9_next 30 = .ok (.aload_n 0, 1) := by decide +kernel
theorem dX9_next_31 : decode cX9_next 31 = .ok (.iload_n 1, 1) := by decide +kernel
theorem dX9_next_32 : decode cX9_next 32 = .ok (.putfield 155, 3) := by decide +kernel
theorem dX9_next_35 : decode cX9_next 35 = .ok (.aload_n 0, 1) := by decide +kernel
theorem dX9_next_36 : decode cX9_next 36 = .ok (.lconst 0, 1) := by decide +kernel
theorem dX9_next_37 : decode cX9_next 37 = .ok (.putfield 158, 3) := by decide +kernel
theorem dX9_next_40 : decode cX9_next 40 = .ok (.iload_n 1, 1) := by decide +kernel
theorem dX9_next_41 : decode cX9_next 41 = .ok (.aload_n 0, 1) := by decide +kernel
theorem dX9_next_42 : decode cX9_next 42 = .ok (.getfield 149, 3) := by decide +kernel
theorem dX9_next_45 : decode cX9_next 45 = .ok (.if_icmp .ne 11, 3) := by decide +kernel
theorem dX9_next_48 : decode cX9_next 48 = .ok (.aload_n 0, 1) := by decide +kernel
theorem dX9_next_49 : decode cX9_next 49 = .ok (.iconst 0, 1) := by decide +kernel
theorem dX9_next_50 : decode cX9_next 50 = .ok (.putfield 162, 3) := by decide +kernel
theorem dX9_next_53 : decode cX9_next 53 = .ok (.goto 186, 3) := by decide +kernel
theorem dX9_next_56 : decode cX9_next 56 = .ok (.aload_n 0, 1) := by decide +kernel
theorem dX9_next_57 : decode cX9_next 57 = .ok (.getfield 47, 3) := by decide +kernel
theorem dX9_next_60 : decode cX9_next 60 = .ok (.iload_n 1, 1) := by decide +kernel
theorem dX9_next_61 : decode cX9_next 61 = .ok (.iaload, 1) := by decide +kernel
theorem dX9_next_62 : decode cX9_next 62 = .ok (.invokestatic 165, 3) := by decide +kernel
theorem dX9_next_65 : decode cX9_next 65 = .ok (.ifCond .eq 70, 3) := by decide +kernel
theorem dX9_next_68 : decode cX9_next 68 = .ok (.aload_n 0, 1) := by decide +kernel
theorem dX9_next_69 : decode cX9_next 69 = .ok (.iconst 1, 1) := by decide +kernel
theorem dX9_next_70 : decode cX9_next 70 = .ok (.putfield 162, 3) := by decide +kernel
theorem dX9_next_73 : decode cX9_next 73 = .ok (.iload_n 1, 1) := by decide +kernel
theorem dX9_next_74 : decode cX9_next 74 = .ok (.aload_n 0, 1) := by decide +kernel
theorem dX9_next_75 : decode cX9_next 75 = .ok (.getfield 149, 3) := by decide +kernel
theorem dX9_next_78 : decode cX9_next 78 = .ok (.if_icmp .ge 161, 3) := by decide +kernel
theorem dX9_next_81 : decode cX9_next 81 = .ok (.aload_n 0, 1) := by decide +kernel
theorem dX9_next_82 : decode cX9_next 82 = .ok (.getfield 47, 3) := by decide +kernel
theorem dX9_next_85 : decode cX9_next 85 = .ok (.iload_n 1, 1) := by decide +kernel
theorem dX9_next_86 : decode cX9_next 86 = .ok (.iaload, 1) := by decide +kernel
theorem dX9_next_87 : decode cX9_next 87 = .ok (.invokestatic 165, 3) := by decide +kernel
theorem dX9_next_90 : decode cX9_next 90 = .ok (.ifCond .eq 149, 3) := by decide +kernel
theorem dX9_next_93 : decode cX9_next 93 = .ok (.aload_n 0, 1) := by decide +kernel
theorem dX9_next_94 : decode cX9_next 94 = .ok (.iload_n 1, 1) := by decide +kernel
theorem dX9_next_95 : decode cX9_next 95 = .ok (.aload_n 0, 1) := by decide +kernel
theorem dX9_next_96 : decode cX9_next 96 = .ok (.getfield 155, 3) := by decide +kernel
theorem dX9_next_99 : decode cX9_next 99 = .ok (.isub, 1) := by decide +kernel
theorem dX9_next_100 : decode cX9_next 100 = .ok (.bipush 7, 2) := by decide +kernel
theorem dX9_next_102 : decode cX9_next 102 = .ok (.if_icmp .ge 21, 3) := by decide +kernel
theorem dX9_next_105 : decode cX9_next 105 = .ok (.aload_n 0, 1) := by decide +kernel
theorem dX9_next_106 : decode cX9_next 106 = .ok (.getfield 158, 3) := by decide +kernel
theorem dX9_next_109 : decode cX9_next 109 = .ok (.bipush 8, 2) := by decide +kernel
theorem dX9_next_111 : decode cX9_next 111 = .ok (.lshl, 1) := by decide +kernel
theorem dX9_next_112 : decode cX9_next 112 = .ok (.aload_n 0, 1) := by decide +kernel
theorem dX9_next_113 : decode cX9_next 113 = .ok (.getfield 47, 3) := by decide +kernel
theorem dX9_next_116 : decode cX9_next 116 = .ok (.iload_n 1, 1) := by decide +kernel
theorem dX9_next_117 : decode cX9_next 117 = .ok (.iaload, 1) := by decide +kernel
theorem dX9_next_118 : decode cX9_next 118 = .ok (.i2l, 1) := by decide +kernel
theorem dX9_next_119 : decode cX9_next 119 = .ok (.lor, 1) := by decide +kernel
theorem dX9_next_120 : decode cX9_next 120 = .ok (.goto 6, 3) := by decide +kernel
theorem dX9_next_123 : decode cX9_next 123 = .ok (.ldc2_w 168, 3) := by decide +kernel
theorem dX9_next_126 : decode cX9_next 126 = .ok (.putfield 158, 3) := by decide +kernel
theorem dX9_next_129 : decode cX9_next 129 = .ok (.iinc 1 1, 3) := by decide +kernel
theorem dX9_next_132 : decode cX9_next 132 = .ok (.goto (-59), 3) := by decide +kernel
theorem dX9_next_135 : decode cX9_next 135 = .ok (.aload_n 0, 1) := by decide +kernel
theorem dX9_next_136 : decode cX9_next 136 = .ok (.getfield 47, 3) := by decide +kernel
theorem dX9_next_139 : decode cX9_next 139 = .ok (.iload_n 1, 1) := by decide +kernel
theorem dX9_next_140 : decode cX9_next 140 = .ok (.iaload, 1) := by decide +kernel
theorem dX9_next_141 : decode cX9_next 141 = .ok (.invokestatic 170, 3) := by decide +kernel
theorem dX9_next_144 : decode cX9_next 144 = .ok (.ifCond .eq 76, 3) := by decide +kernel
theorem dX9_next_147 : decode cX9_next 147 = .ok (.aload_n 0, 1) := by decide +kernel
theorem dX9_next_148 : decode cX9_next 148 = .ok (.iconst 2, 1) := by decide +kernel
theorem dX9_next_149 : decode cX9_next 149 = .ok (.putfield 162, 3) := by decide +kernel
theorem dX9_next_152 : decode cX9_next 152 = .ok (.iload_n 1, 1) := by decide +kernel
theorem dX9_next_153 : decode cX9_next 153 = .ok (.aload_n 0, 1) := by decide +kernel
theorem dX9_next_154 : decode cX9_next 154 = .ok (.getfield 149, 3) := by decide +kernel
theorem dX9_next_157 : decode cX9_next 157 = .ok (.if_icmp .ge 82, 3) := by decide +kernel
theorem dX9_next_160 : decode cX9_next 160 = .ok (.aload_n 0, 1) := by decide +kernel
theorem dX9_next_161 : decode cX9_next 161 = .ok (.getfield 47, 3) := by decide +kernel
theorem dX9_next_164 : decode cX9_next 164 = .ok (.iload_n 1, 1) := by decide +kernel
theorem dX9_next_165 : decode cX9_next 165 = .ok (.iaload, 1) := by decide +kernel
theorem dX9_next_166 : decode cX9_next 166 = .ok (.invokestatic 170, 3) := by decide +kernel
theorem dX9_next_169 : decode cX9_next 169 = .ok (.ifCond .eq 70, 3) := by decide +kernel
theorem dX9_next_172 : decode cX9_next 172 = .ok (.aload_n 0, 1) := by decide +kernel
theorem dX9_next_173 : decode cX9_next 173 = .ok (.aload_n 0, 1) := by decide +kernel
theorem dX9_next_174 : decode cX9_next 174 = .ok (.getfield 158, 3) := by decide +kernel
theorem dX9_next_177 : decode cX9_next 177 = .ok (.ldc2_w 107, 3) := by decide +kernel
theorem dX9_next_180 : decode cX9_next 180 = .ok (.lcmp, 1) := by decide +kernel
theorem dX9_next_181 : decode cX9_next 181 = .ok (.ifCond .le 10, 3) := by decide +kernel
theorem dX9_next_184 : decode cX9_next 184 = .ok (.aload_n 0, 1) := by decide +kernel
theorem dX9_next_185 : decode cX9_next 185 = .ok (.getfield 158, 3) := by decide +kernel
theorem dX9_next_188 : decode cX9_next 188 = .ok (.goto 23, 3) := by decide +kernel
theorem dX9_next_191 : decode cX9_next 191 = .ok (.ldc2_w 89, 3) := by decide +kernel
theorem dX9_next_194 : decode cX9_next 194 = .ok (.aload_n 0, 1) := by decide +kernel
theorem dX9_next_195 : decode cX9_next 195 = .ok (.getfield 158, 3) := by decide +kernel
theorem dX9_next_198 : decode cX9_next 198 = .ok (.lmul, 1) := by decide +kernel
theorem dX9_next_199 : decode cX9_next 199 = .ok (.aload_n 0, 1) := by decide +kernel
theorem dX9_next_200 : decode cX9_next 200 = .ok (.getfield 47, 3) := by decide +kernel
theorem dX9_next_203 : decode cX9_next 203 = .ok (.iload_n 1, 1) := by decide +kernel
theorem dX9_next_204 : decode cX9_next 204 = .ok (.iaload, 1) := by decide +kernel
theorem dX9_next_205 : decode cX9_next 205 = .ok (.i2l, 1) := by decide +kernel
theorem dX9_next_206 : decode cX9_next 206 = .ok (.ladd, 1) := by decide +kernel
theorem dX9_next_207 : decode cX9_next 207 = .ok (.ldc2_w 173, 3) := by decide +kernel
theorem dX9_next_210 : decode cX9_next 210 = .ok (.lsub, 1) := by decide +kernel
theorem dX9_next_211 : decode cX9_next 211 = .ok (.putfield 158, 3) := by decide +kernel
theorem dX9_next_214 : decode cX9_next 214 = .ok (.iinc 1 1, 3) := by decide +kernel
theorem dX9_next_217 : decode cX9_next 217 = .ok (.goto (-65), 3) := by decide +kernel
theorem dX9_next_220 : decode cX9_next 220 = .ok (.aload_n 0, 1) := by decide +kernel
theorem dX9_next_221 : decode cX9_next 221 = .ok (.iconst 3, 1) := by decide +kernel
theorem dX9_next_222 : decode cX9_next 222 = .ok (.putfield 162, 3) := by decide +kernel
theorem dX9_next_225 : decode cX9_next 225 = .ok (.aload_n 0, 1) := by decide +kernel
theorem dX9_next_226 : decode cX9_next 226 = .ok (.aload_n 0, 1) := by decide +kernel
theorem dX9_next_227 : decode cX9_next 227 = .ok (.getfield 47, 3) := by decide +kernel
theorem dX9_next_230 : decode cX9_next 230 = .ok (.iload_n 1, 1) := by decide +kernel
theorem dX9_next_231 : decode cX9_next 231 = .ok (.iaload, 1) := by decide +kernel
theorem dX9_next_232 : decode cX9_next 232 = .ok (.i2l, 1) := by decide +kernel
theorem dX9_next_233 : decode cX9_next 233 = .ok (.putfield 158, 3) := by decide +kernel
theorem dX9_next_236 : decode cX9_next 236 = .ok (.iinc 1 1, 3) := by decide +kernel
theorem dX9_next_239 : decode cX9_next 239 = .ok (.aload_n 0, 1) := by decide +kernel
theorem dX9_next_240 : decode cX9_next 240 = .ok (.iload_n 1, 1) := by decide +kernel
theorem dX9_next_241 : decode cX9_next 241 = .ok (.putfield 152, 3) := by decide +kernel
theorem dX9_next_244 : decode cX9_next 244 = .ok (.return_, 1) := by decide +kernel
theorem dX9_want_0 : decode cX9_want 0 = .ok (.aload_n 0, 1) := by decide +kernel
theorem dX9_want_1 : decode cX9_want 1 = .ok (.getfield 175, 3) := by decide +kernel
theorem dX9_want_4 : decode cX9_want 4 = .ok (.ifCond .ge 14, 3) := by decide +kernel
theorem dX9_want_7 : decode cX9_want 7 = .ok (.iload_n 1, 1) := by decide +kernel
theorem dX9_want_8 : decode cX9_want 8 = .ok (.ifCond .eq 10, 3) := by decide +kernel
theorem dX9_want_11 : decode cX9_want 11 = .ok (.aload_n 0, 1) := by decide +kernel
theorem dX9_want_12 : decode cX9_want 12 = .ok (.invokevirtual 178, 3) := by decide +kernel
theorem dX9_want_15 : decode cX9_want 15 = .ok (.goto 18, 3) := by decide +kernel
theorem dX9_want_18 : decode cX9_want 18 = .ok (.aload_n 0, 1) := by decide +kernel
theorem dX9_want_19 : decode cX9_want 19 = .ok (.getfield 175, 3) := by decide +kernel
theorem dX9_want_22 : decode cX9_want 22 = .ok (.ifCond .ge 11, 3) := by decide +kernel
theorem dX9_want_25 : decode cX9_want 25 = .ok (.aload_n 0, 1) := by decide +kernel
theorem dX9_want_26 : decode cX9_want 26 = .ok (.aload_n 0, 1) := by decide +kernel
theorem dX9_want_27 : decode cX9_want 27 = .ok (.getfield 155, 3) := by decide +kernel
theorem dX9_want_30 : decode cX9_want 30 = .ok (.putfield 175, 3) := by decide +kernel
theorem dX9_want_33 : decode cX9_want 33 = .ok (.return_, 1) := by decide +kernel
theorem dX9_isName_0 : decode cX9_isName 0 = .ok (.aload_n 0, 1) := by decide +kernel
theorem dX9_isName_1 : decode cX9_isName 1 = .ok (.getfield 162, 3) := by decide +kernel
theorem dX9_isName_4 : decode cX9_isName 4 = .ok (.iconst 1, 1) := by decide +kernel
theorem dX9_isName_5 : decode cX9_isName 5 = .ok (.if_icmp .ne 16, 3) := by decide +kernel
theorem dX9_isName_8 : decode cX9_isName 8 = .ok (.aload_n 0, 1) := by decide +kernel
theorem dX9_isName_9 : decode cX9_isName 9 = .ok (.getfield 158, 3) := by decide +kernel
theorem dX9_isName_12 : decode cX9_isName 12 = .ok (.lload_n 1, 1) := by decide +kernel
theorem dX9_isName_13 : decode cX9_isName 13 = .ok (.lcmp, 1) := by decide +kernel
theorem dX9_isName_14 : decode cX9_isName 14 = .ok (.ifCond .ne 7, 3) := by decide +kernel
theorem dX9_isName_17 : decode cX9_isName 17 = .ok (.iconst 1, 1) := by decide +kernel
theorem dX9_isName_18 : decode cX9_isName 18 = .ok (.goto 4, 3) := by decide +kernel
theorem dX9_isName_21 : decode cX9_isName 21 = .ok (.iconst 0, 1) := by decide +kernel
theorem dX9_isName_22 : decode cX9_isName 22 = .ok (.ireturn, 1) := by decide +kernel
theorem dX9_isSign_0 : decode cX9_isSign 0 = .ok (.aload_n 0, 1) := by decide +kernel
theorem dX9_isSign_1 : decode cX9_isSign 1 = .ok (.getfield 162, 3) := by decide +kernel
theorem dX9_isSign_4 : decode cX9_isSign 4 = .ok (.iconst 3, 1) := by decide +kernel
theorem dX9_isSign_5 : decode cX9_isSign 5 = .ok (.if_icmp .ne 17, 3) := by decide +kernel
theorem dX9_isSign_8 : decode cX9_isSign 8 = .ok (.aload_n 0, 1) := by decide +kernel
theorem dX9_isSign_9 : decode cX9_isSign 9 = .ok (.getfield 158, 3) := by decide +kernel
theorem dX9_isSign_12 : decode cX9_isSign 12 = .ok (.iload_n 1, 1) := by decide +kernel
theorem dX9_isSign_13 : decode cX9_isSign 13 = .ok (.i2l, 1) := by decide +kernel
theorem dX9_isSign_14 : decode cX9_isSign 14 = .ok (.lcmp, 1) := by decide +kernel
theorem dX9_isSign_15 : decode cX9_isSign 15 = .ok (.ifCond .ne 7, 3) := by decide +kernel
theorem dX9_isSign_18 : decode cX9_isSign 18 = .ok (.iconst 1, 1) := by decide +kernel
theorem dX9_isSign_19 : decode cX9_isSign 19 = .ok (.goto 4, 3) := by decide +kernel
theorem dX9_isSign_22 : decode cX9_isSign 22 = .ok (.iconst 0, 1) := by decide +kernel
theorem dX9_isSign_23 : decode cX9_isSign 23 = .ok (.ireturn, 1) := by decide +kernel
theorem dX9_wantNumber_0 : decode cX9_wantNumber 0 = .ok (.aload_n 0, 1) := by decide +kernel
theorem dX9_wantNumber_1 : decode cX9_wantNumber 1 = .ok (.getfield 158, 3) := by decide +kernel
theorem dX9_wantNumber_4 : decode cX9_wantNumber 4 = .ok (.l2i, 1) := by decide +kernel
theorem dX9_wantNumber_5 : decode cX9_wantNumber 5 = .ok (.istore_n 3, 1) := by decide +kernel
theorem dX9_wantNumber_6 : decode cX9_wantNumber 6 = .ok (.aload_n 0, 1) := by decide +kernel
theorem dX9_wantNumber_7 : decode cX9_wantNumber 7 = .ok (.aload_n 0, 1) := by decide +kernel
theorem dX9_wantNumber_8 : decode cX9_wantNumber 8 = .ok (.getfield 162, 3) := by decide +kernel
theorem dX9_wantNumber_11 : decode cX9_wantNumber 11 = .ok (.iconst 2, 1) := by decide +kernel
theorem dX9_wantNumber_12 : decode cX9_wantNumber 12 = .ok (.if_icmp .ne 16, 3) := by decide +kernel
theorem dX9_wantNumber_15 : decode cX9_wantNumber 15 = .ok (.iload_n 3, 1) := by decide +kernel
theorem dX9_wantNumber_16 : decode cX9_wantNumber 16 = .ok (.iload_n 1, 1) := by decide +kernel
theorem dX9_wantNumber_17 : decode cX9_wantNumber 17 = .ok (.iload_n 2, 1) := by decide +kernel
theorem dX9_wantNumber_18 : decode cX9_wantNumber 18 = .ok (.invokestatic 79, 3) := by decide +kernel
theorem dX9_wantNumber_21 : decode cX9_wantNumber 21 = .ok (.ifCond .eq 7, 3) := by decide +kernel
theorem dX9_wantNumber_24 : decode cX9_wantNumber 24 = .ok (.iconst 1, 1) := by decide +kernel
theorem dX9_wantNumber_25 : decode cX9_wantNumber 25 = .ok (.goto 4, 3) := by decide +kernel
theorem dX9_wantNumber_28 : decode cX9_wantNumber 28 = .ok (.iconst 0, 1) := by decide +kernel
theorem dX9_wantNumber_29 : decode cX9_wantNumber 29 = .ok (.invokevirtual 181, 3) := by decide +kernel
theorem dX9_wantNumber_32 : decode cX9_wantNumber 32 = .ok (.iload_n 3, 1) := by decide +kernel
theorem dX9_wantNumber_33 : decode cX9_wantNumber 33 = .ok (.ireturn, 1) := by decide +kernel
theorem dX9_wantRule_0 : decode cX9_wantRule 0 = .ok (.iconst 4, 1) := by decide +kernel
theorem dX9_wantRule_1 : decode cX9_wantRule 1 = .ok (.bipush 6, 2) := by decide +kernel
theorem dX9_wantRule_3 : decode cX9_wantRule 3 = .ok (.aload_n 0, 1) := by decide +kernel
theorem dX9_wantRule_4 : decode cX9_wantRule 4 = .ok (.getfield 13, 3) := by decide +kernel
theorem dX9_wantRule_7 : decode cX9_wantRule 7 = .ok (.iconst 2, 1) := by decide +kernel
theorem dX9_wantRule_8 : decode cX9_wantRule 8 = .ok (.iaload, 1) := by decide +kernel
theorem dX9_wantRule_9 : decode cX9_wantRule 9 = .ok (.imul, 1) := by decide +kernel
theorem dX9_wantRule_10 : decode cX9_wantRule 10 = .ok (.iload_n 1, 1) := by decide +kernel
theorem dX9_wantRule_11 : decode cX9_wantRule 11 = .ok (.iadd, 1) := by decide +kernel
theorem dX9_wantRule_12 : decode cX9_wantRule 12 = .ok (.imul, 1) := by decide +kernel
theorem dX9_wantRule_13 : decode cX9_wantRule 13 = .ok (.istore_n 2, 1) := by decide +kernel
theorem dX9_wantRule_14 : decode cX9_wantRule 14 = .ok (.aload_n 0, 1) := by decide +kernel
theorem dX9_wantRule_15 : decode cX9_wantRule 15 = .ok (.ldc2_w 185, 3) := by decide +kernel
theorem dX9_wantRule_18 : decode cX9_wantRule 18 = .ok (.invokevirtual 187, 3) := by decide +kernel
theorem dX9_wantRule_21 : decode cX9_wantRule 21 = .ok (.ifCond .eq 7, 3) := by decide +kernel
theorem dX9_wantRule_24 : decode cX9_wantRule 24 = .ok (.iconst 0, 1) := by decide +kernel
theorem dX9_wantRule_25 : decode cX9_wantRule 25 = .ok (.goto 46, 3) := by decide +kernel
theorem dX9_wantRule_28 : decode cX9_wantRule 28 = .ok (.aload_n 0, 1) := by decide +kernel
theorem dX9_wantRule_29 : decode cX9_wantRule 29 = .ok (.ldc2_w 191, 3) := by decide +kernel
theorem dX9_wantRule_32 : decode cX9_wantRule 32 = .ok (.invokevirtual 187, 3) := by decide +kernel
theorem dX9_wantRule_35 : decode cX9_wantRule 35 = .ok (.ifCond .eq 7, 3) := by decide +kernel
theorem dX9_wantRule_38 : decode cX9_wantRule 38 = .ok (.iconst 1, 1) := by decide +kernel
theorem dX9_wantRule_39 : decode cX9_wantRule 39 = .ok (.goto 32, 3) := by decide +kernel
theorem dX9_wantRule_42 : decode cX9_wantRule 42 = .ok (.aload_n 0, 1) := by decide +kernel
theorem dX9_wantRule_43 : decode cX9_wantRule 43 = .ok (.ldc2_w 193, 3) := by decide +kernel
theorem dX9_wantRule_46 : decode cX9_wantRule 46 = .ok (.invokevirtual 187, 3) := by decide +kernel
theorem dX9_wantRule_49 : decode cX9_wantRule 49 = .ok (.ifCond .eq 7, 3) := by decide +kernel
theorem dX9_wantRule_52 : decode cX9_wantRule 52 = .ok (.iconst 2, 1) := by decide +kernel
theorem dX9_wantRule_53 : decode cX9_wantRule 53 = .ok (.goto 18, 3) := by decide +kernel
theorem dX9_wantRule_56 : decode cX9_wantRule 56 = .ok (.aload_n 0, 1) := by decide +kernel
theorem dX9_wantRule_57 : decode cX9_wantRule 57 = .ok (.ldc2_w 195, 3) := by decide +kernel
theorem dX9_wantRule_60 : decode cX9_wantRule 60 = .ok (.invokevirtual 187, 3) := by decide +kernel
theorem dX9_wantRule_63 : decode cX9_wantRule 63 = .ok (.ifCond .eq 7, 3) := by decide +kernel
theorem dX9_wantRule_66 : decode cX9_wantRule 66 = .ok (.iconst 3, 1) := by decide +kernel
theorem dX9_wantRule_67 : decode cX9_wantRule 67 = .ok (.goto 4, 3) := by decide +kernel
theorem dX9_wantRule_70 : decode cX9_wantRule 70 = .ok (.iconst (-1), 1) := by decide +kernel
theorem dX9_wantRule_71 : decode cX9_wantRule 71 = .ok (.istore_n 3, 1) := by decide +kernel
theorem dX9_wantRule_72 : decode cX9_wantRule 72 = .ok (.aload_n 0, 1) := by decide +kernel
theorem dX9_wantRule_73 : decode cX9_wantRule 73 = .ok (.iload_n 3, 1) := by decide +kernel
theorem dX9_wantRule_74 : decode cX9_wantRule 74 = .ok (.ifCond .lt 13, 3) := by decide +kernel
theorem dX9_wantRule_77 : decode cX9_wantRule 77 = .ok (.iload_n 1, 1) := by decide +kernel
theorem dX9_wantRule_78 : decode cX9_wantRule 78 = .ok (.bipush 6, 2) := by decide +kernel
theorem dX9_wantRule_80 : decode cX9_wantRule 80 = .ok (.if_icmp .ge 7, 3) := by decide +kernel
theorem dX9_wantRule_83 : decode cX9_wantRule 83 = .ok (.iconst 1, 1) := by decide +kernel
theorem dX9_wantRule_84 : decode cX9_wantRule 84 = .ok (.goto 4, 3) := by decide +kernel
theorem dX9_wantRule_87 : decode cX9_wantRule 87 = .ok (.iconst 0, 1) := by decide +kernel
theorem dX9_wantRule_88 : decode cX9_wantRule 88 = .ok (.invokevirtual 181, 3) := by decide +kernel
theorem dX9_wantRule_91 : decode cX9_wantRule 91 = .ok (.aload_n 0, 1) := by decide +kernel
theorem dX9_wantRule_92 : decode cX9_wantRule 92 = .ok (.getfield 175, 3) := by decide +kernel
theorem dX9_wantRule_95 : decode cX9_wantRule 95 = .ok (.ifCond .lt 4, 3) := by decide +kernel
theorem dX9_wantRule_98 : decode cX9_wantRule 98 = .ok (.return_, 1) := by decide +kernel
theorem dX9_wantRule_99 : decode cX9_wantRule 99 = .ok (.iload_n 3, 1) := by decide +kernel
theorem dX9_wantRule_100 : decode cX9_wantRule 100 = .ok (.iconst 2, 1) := by decide +kernel
theorem dX9_wantRule_101 : decode cX9_wantRule 101 = .ok (.if_icmp .ne 7, 3) := by decide +kernel
theorem dX9_wantRule_104 : decode cX9_wantRule 104 = .ok (.iconst 0, 1) := by decide +kernel
theorem dX9_wantRule_105 : decode cX9_wantRule 105 = .ok (.goto 27, 3) := by decide +kernel
theorem dX9_wantRule_108 : decode cX9_wantRule 108 = .ok (.aload_n 0, 1) := by decide +kernel
theorem dX9_wantRule_109 : decode cX9_wantRule 109 = .ok (.iconst 0, 1) := by decide +kernel
theorem dX9_wantRule_110 : decode cX9_wantRule 110 = .ok (.iload_n 3, 1) := by decide +kernel
theorem dX9_wantRule_111 : decode cX9_wantRule 111 = .ok (.ifCond .ne 8, 3) := by decide +kernel
theorem dX9_wantRule_114 : decode cX9_wantRule 114 = .ok (.bipush 15, 2) := by decide +kernel
theorem dX9_wantRule_116 : decode cX9_wantRule 116 = .ok (.goto 13, 3) := by decide +kernel
theorem dX9_wantRule_119 : decode cX9_wantRule 119 = .ok (.iload_n 3, 1) := by decide +kernel
theorem dX9_wantRule_120 : decode cX9_wantRule 120 = .ok (.iconst 1, 1) := by decide +kernel
theorem dX9_wantRule_121 : decode cX9_wantRule 121 = .ok (.if_icmp .ne 7, 3) := by decide +kernel
theorem dX9_wantRule_124 : decode cX9_wantRule 124 = .ok (.iconst 3, 1) := by decide +kernel
theorem dX9_wantRule_125 : decode cX9_wantRule 125 = .ok (.goto 4, 3) := by decide +kernel
theorem dX9_wantRule_128 : decode cX9_wantRule 128 = .ok (.iconst 2, 1) := by decide +kernel
theorem dX9_wantRule_129 : decode cX9_wantRule 129 = .ok (.invokevirtual 197, 3) := by decide +kernel
theorem dX9_wantRule_132 : decode cX9_wantRule 132 = .ok (.istore 4, 2) := by decide +kernel
theorem dX9_wantRule_134 : decode cX9_wantRule 134 = .ok (.iload_n 3, 1) := by decide +kernel
theorem dX9_wantRule_135 : decode cX9_wantRule 135 = .ok (.iconst 2, 1) := by decide +kernel
theorem dX9_wantRule_136 : decode cX9_wantRule 136 = .ok (.if_icmp .eq 24, 3) := by decide +kernel
theorem dX9_wantRule_139 : decode cX9_wantRule 139 = .ok (.aload_n 0, 1) := by decide +kernel
theorem dX9_wantRule_140 : decode cX9_wantRule 140 = .ok (.aload_n 0, 1) := by decide +kernel
