theorem dX8_why_23 : decode cX8_why 23 = .ok (.iload_n 1, 1) := by decide +kernel
theorem dX8_why_24 : decode cX8_why 24 = .ok (.aload_n 0, 1) := by decide +kernel
theorem dX8_why_25 : decode cX8_why 25 = .ok (.getfield 12, 3) := by decide +kernel
theorem dX8_why_28 : decode cX8_why 28 = .ok (.getfield 57, 3) := by decide +kernel
theorem dX8_why_31 : decode cX8_why 31 = .ok (.getfield 120, 3) := by decide +kernel
theorem dX8_why_34 : decode cX8_why 34 = .ok (.invokevirtual 208, 3) := by decide +kernel
theorem dX8_why_37 : decode cX8_why 37 = .ok (.istore_n 2, 1) := by decide +kernel
theorem dX8_why_38 : decode cX8_why 38 = .ok (.iload_n 2, 1) := by decide +kernel
theorem dX8_why_39 : decode cX8_why 39 = .ok (.ifCond .ge 10, 3) := by decide +kernel
theorem dX8_why_42 : decode cX8_why 42 = .ok (.aload_n 0, 1) := by decide +kernel
theorem dX8_why_43 : decode cX8_why 43 = .ok (.ldc 174, 2) := by decide +kernel
theorem dX8_why_45 : decode cX8_why 45 = .ok (.invokevirtual 53, 3) := by decide +kernel
theorem dX8_why_48 : decode cX8_why 48 = .ok (.ireturn, 1) := by decide +kernel
theorem dX8_why_49 : decode cX8_why 49 = .ok (.bipush 10, 2) := by decide +kernel
theorem dX8_why_51 : decode cX8_why 51 = .ok (.iload_n 2, 1) := by decide +kernel
theorem dX8_why_52 : decode cX8_why 52 = .ok (.bipush 6, 2) := by decide +kernel
theorem dX8_why_54 : decode cX8_why 54 = .ok (.idiv, 1) := by decide +kernel
theorem dX8_why_55 : decode cX8_why 55 = .ok (.imul, 1) := by decide +kernel
theorem dX8_why_56 : decode cX8_why 56 = .ok (.iload_n 2, 1) := by decide +kernel
theorem dX8_why_57 : decode cX8_why 57 = .ok (.bipush 6, 2) := by decide +kernel
theorem dX8_why_59 : decode cX8_why 59 = .ok (.irem, 1) := by decide +kernel
theorem dX8_why_60 : decode cX8_why 60 = .ok (.iadd, 1) := by decide +kernel
theorem dX8_why_61 : decode cX8_why 61 = .ok (.ireturn, 1) := by decide +kernel
theorem dX8_span_0 : decode cX8_span 0 = .ok (.aload_n 0, 1) := by decide +kernel
theorem dX8_span_1 : decode cX8_span 1 = .ok (.iload_n 1, 1) := by decide +kernel
theorem dX8_span_2 : decode cX8_span 2 = .ok (.invokevirtual 74, 3) := by decide +kernel
theorem dX8_span_5 : decode cX8_span 5 = .ok (.ifCond .ne 10, 3) := by decide +kernel
theorem dX8_span_8 : decode cX8_span 8 = .ok (.aload_n 0, 1) := by decide +kernel
theorem dX8_span_9 : decode cX8_span 9 = .ok (.ldc 52, 2) := by decide +kernel
theorem dX8_span_11 : decode cX8_span 11 = .ok (.invokevirtual 53, 3) := by decide +kernel
theorem dX8_span_14 : decode cX8_span 14 = .ok (.ireturn, 1) := by decide +kernel
theorem dX8_span_15 : decode cX8_span 15 = .ok (.aload_n 0, 1) := by decide +kernel
theorem dX8_span_16 : decode cX8_span 16 = .ok (.getfield 40, 3) := by decide +kernel
theorem dX8_span_19 : decode cX8_span 19 = .ok (.aload_n 0, 1) := by decide +kernel
theorem dX8_span_20 : decode cX8_span 20 = .ok (.getfield 12, 3) := by decide +kernel
theorem dX8_span_23 : decode cX8_span 23 = .ok (.iconst (-1), 1) := by decide +kernel
theorem dX8_span_24 : decode cX8_span 24 = .ok (.invokevirtual 211, 3) := by decide +kernel
theorem dX8_span_27 : decode cX8_span 27 = .ok (.aload_n 0, 1) := by decide +kernel
theorem dX8_span_28 : decode cX8_span 28 = .ok (.getfield 40, 3) := by decide +kernel
theorem dX8_span_31 : decode cX8_span 31 = .ok (.getfield 215, 3) := by decide +kernel
theorem dX8_span_34 : decode cX8_span 34 = .ok (.iload_n 1, 1) := by decide +kernel
theorem dX8_span_35 : decode cX8_span 35 = .ok (.iaload, 1) := by decide +kernel
theorem dX8_span_36 : decode cX8_span 36 = .ok (.ireturn, 1) := by decide +kernel
theorem dX8_beside_0 : decode cX8_beside 0 = .ok (.aload_n 0, 1) := by decide +kernel
theorem dX8_beside_1 : decode cX8_beside 1 = .ok (.iload_n 1, 1) := by decide +kernel
theorem dX8_beside_2 : decode cX8_beside 2 = .ok (.invokevirtual 142, 3) := by decide +kernel
theorem dX8_beside_5 : decode cX8_beside 5 = .ok (.ifCond .ne 10, 3) := by decide +kernel
theorem dX8_beside_8 : decode cX8_beside 8 = .ok (.aload_n 0, 1) := by decide +kernel
theorem dX8_beside_9 : decode cX8_beside 9 = .ok (.ldc 52, 2) := by decide +kernel
theorem dX8_beside_11 : decode cX8_beside 11 = .ok (.invokevirtual 53, 3) := by decide +kernel
theorem dX8_beside_14 : decode cX8_beside 14 = .ok (.ireturn, 1) := by decide +kernel
theorem dX8_beside_15 : decode cX8_beside 15 = .ok (.aload_n 0, 1) := by decide +kernel
theorem dX8_beside_16 : decode cX8_beside 16 = .ok (.getfield 40, 3) := by decide +kernel
theorem dX8_beside_19 : decode cX8_beside 19 = .ok (.aload_n 0, 1) := by decide +kernel
theorem dX8_beside_20 : decode cX8_beside 20 = .ok (.getfield 12, 3) := by decide +kernel
theorem dX8_beside_23 : decode cX8_beside 23 = .ok (.iload_n 1, 1) := by decide +kernel
theorem dX8_beside_24 : decode cX8_beside 24 = .ok (.invokevirtual 211, 3) := by decide +kernel
theorem dX8_beside_27 : decode cX8_beside 27 = .ok (.aload_n 0, 1) := by decide +kernel
theorem dX8_beside_28 : decode cX8_beside 28 = .ok (.getfield 40, 3) := by decide +kernel
theorem dX8_beside_31 : decode cX8_beside 31 = .ok (.getfield 215, 3) := by decide +kernel
theorem dX8_beside_34 : decode cX8_beside 34 = .ok (.aload_n 0, 1) := by decide +kernel
theorem dX8_beside_35 : decode cX8_beside 35 = .ok (.getfield 12, 3) := by decide +kernel
theorem dX8_beside_38 : decode cX8_beside 38 = .ok (.getfield 100, 3) := by decide +kernel
theorem dX8_beside_41 : decode cX8_beside 41 = .ok (.getfield 218, 3) := by decide +kernel
theorem dX8_beside_44 : decode cX8_beside 44 = .ok (.iload_n 1, 1) := by decide +kernel
theorem dX8_beside_45 : decode cX8_beside 45 = .ok (.iaload, 1) := by decide +kernel
theorem dX8_beside_46 : decode cX8_beside 46 = .ok (.iaload, 1) := by decide +kernel
theorem dX8_beside_47 : decode cX8_beside 47 = .ok (.ireturn, 1) := by decide +kernel
theorem dX8_silent_0 : decode cX8_silent 0 = .ok (.aload_n 0, 1) := by decide +kernel
theorem dX8_silent_1 : decode cX8_silent 1 = .ok (.getfield 12, 3) := by decide +kernel
theorem dX8_silent_4 : decode cX8_silent 4 = .ok (.iconst (-1), 1) := by decide +kernel
theorem dX8_silent_5 : decode cX8_silent 5 = .ok (.invokevirtual 114, 3) := by decide +kernel
theorem dX8_silent_8 : decode cX8_silent 8 = .ok (.istore_n 1, 1) := by decide +kernel
theorem dX8_silent_9 : decode cX8_silent 9 = .ok (.iconst 0, 1) := by decide +kernel
theorem dX8_silent_10 : decode cX8_silent 10 = .ok (.istore_n 2, 1) := by decide +kernel
theorem dX8_silent_11 : decode cX8_silent 11 = .ok (.iconst 0, 1) := by decide +kernel
theorem dX8_silent_12 : decode cX8_silent 12 = .ok (.istore_n 3, 1) := by decide +kernel
theorem dX8_silent_13 : decode cX8_silent 13 = .ok (.iload_n 3, 1) := by decide +kernel
theorem dX8_silent_14 : decode cX8_silent 14 = .ok (.aload_n 0, 1) := by decide +kernel
theorem dX8_silent_15 : decode cX8_silent 15 = .ok (.getfield 12, 3) := by decide +kernel
theorem dX8_silent_18 : decode cX8_silent 18 = .ok (.getfield 57, 3) := by decide +kernel
theorem dX8_silent_21 : decode cX8_silent 21 = .ok (.getfield 66, 3) := by decide +kernel
theorem dX8_silent_24 : decode cX8_silent 24 = .ok (.if_icmp .ge 30, 3) := by decide +kernel
theorem dX8_silent_27 : decode cX8_silent 27 = .ok (.aload_n 0, 1) := by decide +kernel
theorem dX8_silent_28 : decode cX8_silent 28 = .ok (.getfield 12, 3) := by decide +kernel
theorem dX8_silent_31 : decode cX8_silent 31 = .ok (.getfield 100, 3) := by decide +kernel
theorem dX8_silent_34 : decode cX8_silent 34 = .ok (.iload_n 3, 1) := by decide +kernel
theorem dX8_silent_35 : decode cX8_silent 35 = .ok (.iload_n 1, 1) := by decide +kernel
theorem dX8_silent_36 : decode cX8_silent 36 = .ok (.invokevirtual 110, 3) := by decide +kernel
theorem dX8_silent_39 : decode cX8_silent 39 = .ok (.ifCond .ne 9, 3) := by decide +kernel
theorem dX8_silent_42 : decode cX8_silent 42 = .ok (.iload_n 2, 1) := by decide +kernel
theorem dX8_silent_43 : decode cX8_silent 43 = .ok (.iconst 1, 1) := by decide +kernel
theorem dX8_silent_44 : decode cX8_silent 44 = .ok (.iload_n 3, 1) := by decide +kernel
theorem dX8_silent_45 : decode cX8_silent 45 = .ok (.ishl, 1) := by decide +kernel
theorem dX8_silent_46 : decode cX8_silent 46 = .ok (.ior, 1) := by decide +kernel
theorem dX8_silent_47 : decode cX8_silent 47 = .ok (.istore_n 2, 1) := by decide +kernel
theorem dX8_silent_48 : decode cX8_silent 48 = .ok (.iinc 3 1, 3) := by decide +kernel
theorem dX8_silent_51 : decode cX8_silent 51 = .ok (.goto (-38), 3) := by decide +kernel
theorem dX8_silent_54 : decode cX8_silent 54 = .ok (.iload_n 2, 1) := by decide +kernel
theorem dX8_silent_55 : decode cX8_silent 55 = .ok (.ireturn, 1) := by decide +kernel
theorem dX8_step_0 : decode cX8_step 0 = .ok (.iload_n 1, 1) := by decide +kernel
theorem dX8_step_1 : decode cX8_step 1 = .ok (.i2l, 1) := by decide +kernel
theorem dX8_step_2 : decode cX8_step 2 = .ok (.invokestatic 221, 3) := by decide +kernel
theorem dX8_step_5 : decode cX8_step 5 = .ok (.ifCond .eq 11, 3) := by decide +kernel
theorem dX8_step_8 : decode cX8_step 8 = .ok (.aload_n 0, 1) := by decide +kernel
theorem dX8_step_9 : decode cX8_step 9 = .ok (.iload_n 2, 1) := by decide +kernel
theorem dX8_step_10 : decode cX8_step 10 = .ok (.invokevirtual 74, 3) := by decide +kernel
theorem dX8_step_13 : decode cX8_step 13 = .ok (.ifCond .ne 10, 3) := by decide +kernel
theorem dX8_step_16 : decode cX8_step 16 = .ok (.aload_n 0, 1) := by decide +kernel
theorem dX8_step_17 : decode cX8_step 17 = .ok (.ldc 52, 2) := by decide +kernel
theorem dX8_step_19 : decode cX8_step 19 = .ok (.invokevirtual 53, 3) := by decide +kernel
theorem dX8_step_22 : decode cX8_step 22 = .ok (.ireturn, 1) := by decide +kernel
theorem dX8_step_23 : decode cX8_step 23 = .ok (.aload_n 0, 1) := by decide +kernel
theorem dX8_step_24 : decode cX8_step 24 = .ok (.getfield 40, 3) := by decide +kernel
theorem dX8_step_27 : decode cX8_step 27 = .ok (.aload_n 0, 1) := by decide +kernel
theorem dX8_step_28 : decode cX8_step 28 = .ok (.getfield 12, 3) := by decide +kernel
theorem dX8_step_31 : decode cX8_step 31 = .ok (.iconst (-1), 1) := by decide +kernel
theorem dX8_step_32 : decode cX8_step 32 = .ok (.invokevirtual 211, 3) := by decide +kernel
theorem dX8_step_35 : decode cX8_step 35 = .ok (.aload_n 0, 1) := by decide +kernel
theorem dX8_step_36 : decode cX8_step 36 = .ok (.getfield 40, 3) := by decide +kernel
theorem dX8_step_39 : decode cX8_step 39 = .ok (.iload_n 1, 1) := by decide +kernel
theorem dX8_step_40 : decode cX8_step 40 = .ok (.iload_n 2, 1) := by decide +kernel
theorem dX8_step_41 : decode cX8_step 41 = .ok (.invokevirtual 225, 3) := by decide +kernel
theorem dX8_step_44 : decode cX8_step 44 = .ok (.ireturn, 1) := by decide +kernel
theorem dX8_miss_0 : decode cX8_miss 0 = .ok (.iload_n 1, 1) := by decide +kernel
theorem dX8_miss_1 : decode cX8_miss 1 = .ok (.i2l, 1) := by decide +kernel
theorem dX8_miss_2 : decode cX8_miss 2 = .ok (.invokestatic 221, 3) := by decide +kernel
theorem dX8_miss_5 : decode cX8_miss 5 = .ok (.ifCond .eq 16, 3) := by decide +kernel
theorem dX8_miss_8 : decode cX8_miss 8 = .ok (.iload_n 2, 1) := by decide +kernel
theorem dX8_miss_9 : decode cX8_miss 9 = .ok (.iconst (-1), 1) := by decide +kernel
theorem dX8_miss_10 : decode cX8_miss 10 = .ok (.if_icmp .eq 18, 3) := by decide +kernel
theorem dX8_miss_13 : decode cX8_miss 13 = .ok (.aload_n 0, 1) := by decide +kernel
theorem dX8_miss_14 : decode cX8_miss 14 = .ok (.iload_n 2, 1) := by decide +kernel
theorem dX8_miss_15 : decode cX8_miss 15 = .ok (.invokevirtual 74, 3) := by decide +kernel
theorem dX8_miss_18 : decode cX8_miss 18 = .ok (.ifCond .ne 10, 3) := by decide +kernel
theorem dX8_miss_21 : decode cX8_miss 21 = .ok (.aload_n 0, 1) := by decide +kernel
theorem dX8_miss_22 : decode cX8_miss 22 = .ok (.ldc 52, 2) := by decide +kernel
theorem dX8_miss_24 : decode cX8_miss 24 = .ok (.invokevirtual 53, 3) := by decide +kernel
theorem dX8_miss_27 : decode cX8_miss 27 = .ok (.ireturn, 1) := by decide +kernel
theorem dX8_miss_28 : decode cX8_miss 28 = .ok (.aload_n 0, 1) := by decide +kernel
theorem dX8_miss_29 : decode cX8_miss 29 = .ok (.getfield 40, 3) := by decide +kernel
theorem dX8_miss_32 : decode cX8_miss 32 = .ok (.aload_n 0, 1) := by decide +kernel
theorem dX8_miss_33 : decode cX8_miss 33 = .ok (.getfield 12, 3) := by decide +kernel
theorem dX8_miss_36 : decode cX8_miss 36 = .ok (.iconst (-1), 1) := by decide +kernel
theorem dX8_miss_37 : decode cX8_miss 37 = .ok (.invokevirtual 211, 3) := by decide +kernel
theorem dX8_miss_40 : decode cX8_miss 40 = .ok (.iload_n 2, 1) := by decide +kernel
theorem dX8_miss_41 : decode cX8_miss 41 = .ok (.iconst (-1), 1) := by decide +kernel
theorem dX8_miss_42 : decode cX8_miss 42 = .ok (.if_icmp .ne 14, 3) := by decide +kernel
theorem dX8_miss_45 : decode cX8_miss 45 = .ok (.aload_n 0, 1) := by decide +kernel
theorem dX8_miss_46 : decode cX8_miss 46 = .ok (.getfield 40, 3) := by decide +kernel
theorem dX8_miss_49 : decode cX8_miss 49 = .ok (.iload_n 1, 1) := by decide +kernel
theorem dX8_miss_50 : decode cX8_miss 50 = .ok (.invokevirtual 228, 3) := by decide +kernel
theorem dX8_miss_53 : decode cX8_miss 53 = .ok (.goto 12, 3) := by decide +kernel
theorem dX8_miss_56 : decode cX8_miss 56 = .ok (.aload_n 0, 1) := by decide +kernel
theorem dX8_miss_57 : decode cX8_miss 57 = .ok (.getfield 40, 3) := by decide +kernel
theorem dX8_miss_60 : decode cX8_miss 60 = .ok (.iload_n 1, 1) := by decide +kernel
theorem dX8_miss_61 : decode cX8_miss 61 = .ok (.iload_n 2, 1) := by decide +kernel
theorem dX8_miss_62 : decode cX8_miss 62 = .ok (.invokevirtual 231, 3) := by decide +kernel
theorem dX8_miss_65 : decode cX8_miss 65 = .ok (.ireturn, 1) := by decide +kernel
theorem dX8_two_0 : decode cX8_two 0 = .ok (.iload_n 1, 1) := by decide +kernel
theorem dX8_two_1 : decode cX8_two 1 = .ok (.i2l, 1) := by decide +kernel
theorem dX8_two_2 : decode cX8_two 2 = .ok (.invokestatic 221, 3) := by decide +kernel
theorem dX8_two_5 : decode cX8_two 5 = .ok (.ifCond .eq 11, 3) := by decide +kernel
theorem dX8_two_8 : decode cX8_two 8 = .ok (.iload_n 2, 1) := by decide +kernel
theorem dX8_two_9 : decode cX8_two 9 = .ok (.i2l, 1) := by decide +kernel
theorem dX8_two_10 : decode cX8_two 10 = .ok (.invokestatic 221, 3) := by decide +kernel
theorem dX8_two_13 : decode cX8_two 13 = .ok (.ifCond .ne 10, 3) := by decide +kernel
theorem dX8_two_16 : decode cX8_two 16 = .ok (.aload_n 0, 1) := by decide +kernel
theorem dX8_two_17 : decode cX8_two 17 = .ok (.ldc 52, 2) := by decide +kernel
theorem dX8_two_19 : decode cX8_two 19 = .ok (.invokevirtual 53, 3) := by decide +kernel
theorem dX8_two_22 : decode cX8_two 22 = .ok (.ireturn, 1) := by decide +kernel
theorem dX8_two_23 : decode cX8_two 23 = .ok (.aload_n 0, 1) := by decide +kernel
theorem dX8_two_24 : decode cX8_two 24 = .ok (.getfield 40, 3) := by decide +kernel
theorem dX8_two_27 : decode cX8_two 27 = .ok (.aload_n 0, 1) := by decide +kernel
theorem dX8_two_28 : decode cX8_two 28 = .ok (.getfield 12, 3) := by decide +kernel
theorem dX8_two_31 : decode cX8_two 31 = .ok (.iconst (-1), 1) := by decide +kernel
theorem dX8_two_32 : decode cX8_two 32 = .ok (.invokevirtual 211, 3) := by decide +kernel
theorem dX8_two_35 : decode cX8_two 35 = .ok (.aload_n 0, 1) := by decide +kernel
theorem dX8_two_36 : decode cX8_two 36 = .ok (.getfield 40, 3) := by decide +kernel
theorem dX8_two_39 : decode cX8_two 39 = .ok (.iconst 0, 1) := by decide +kernel
theorem dX8_two_40 : decode cX8_two 40 = .ok (.iload_n 1, 1) := by decide +kernel
theorem dX8_two_41 : decode cX8_two 41 = .ok (.invokevirtual 234, 3) := by decide +kernel
theorem dX8_two_44 : decode cX8_two 44 = .ok (.aload_n 0, 1) := by decide +kernel
theorem dX8_two_45 : decode cX8_two 45 = .ok (.getfield 40, 3) := by decide +kernel
theorem dX8_two_48 : decode cX8_two 48 = .ok (.iconst 1, 1) := by decide +kernel
theorem dX8_two_49 : decode cX8_two 49 = .ok (.iload_n 2, 1) := by decide +kernel
theorem dX8_two_50 : decode cX8_two 50 = .ok (.invokevirtual 234, 3) := by decide +kernel
theorem dX8_two_53 : decode cX8_two 53 = .ok (.aload_n 0, 1) := by decide +kernel
theorem dX8_two_54 : decode cX8_two 54 = .ok (.getfield 40, 3) := by decide +kernel
theorem dX8_two_57 : decode cX8_two 57 = .ok (.iconst 0, 1) := by decide +kernel
theorem dX8_two_58 : decode cX8_two 58 = .ok (.iconst 1, 1) := by decide +kernel
theorem dX8_two_59 : decode cX8_two 59 = .ok (.invokevirtual 237, 3) := by decide +kernel
theorem dX8_two_62 : decode cX8_two 62 = .ok (.ireturn, 1) := by decide +kernel
theorem dX8_split_0 : decode cX8_split 0 = .ok (.iload_n 1, 1) := by decide +kernel
theorem dX8_split_1 : decode cX8_split 1 = .ok (.i2l, 1) := by decide +kernel
theorem dX8_split_2 : decode cX8_split 2 = .ok (.invokestatic 221, 3) := by decide +kernel
theorem dX8_split_5 : decode cX8_split 5 = .ok (.ifCond .eq 11, 3) := by decide +kernel
theorem dX8_split_8 : decode cX8_split 8 = .ok (.iload_n 2, 1) := by decide +kernel
theorem dX8_split_9 : decode cX8_split 9 = .ok (.i2l, 1) := by decide +kernel
theorem dX8_split_10 : decode cX8_split 10 = .ok (.invokestatic 221, 3) := by decide +kernel
theorem dX8_split_13 : decode cX8_split 13 = .ok (.ifCond .ne 10, 3) := by decide +kernel
theorem dX8_split_16 : decode cX8_split 16 = .ok (.aload_n 0, 1) := by decide +kernel
theorem dX8_split_17 : decode cX8_split 17 = .ok (.ldc 52, 2) := by decide +kernel
theorem dX8_split_19 : decode cX8_split 19 = .ok (.invokevirtual 53, 3) := by decide +kernel
theorem dX8_split_22 : decode cX8_split 22 = .ok (.ireturn, 1) := by decide +kernel
theorem dX8_split_23 : decode cX8_split 23 = .ok (.aload_n 0, 1) := by decide +kernel
theorem dX8_split_24 : decode cX8_split 24 = .ok (.getfield 40, 3) := by decide +kernel
theorem dX8_split_27 : decode cX8_split 27 = .ok (.aload_n 0, 1) := by decide +kernel
theorem dX8_split_28 : decode cX8_split 28 = .ok (.getfield 12, 3) := by decide +kernel
theorem dX8_split_31 : decode cX8_split 31 = .ok (.iconst (-1), 1) := by decide +kernel
theorem dX8_split_32 : decode cX8_split 32 = .ok (.invokevirtual 211, 3) := by decide +kernel
theorem dX8_split_35 : decode cX8_split 35 = .ok (.iconst 0, 1) := by decide +kernel
theorem dX8_split_36 : decode cX8_split 36 = .ok (.istore_n 3, 1) := by decide +kernel
theorem dX8_split_37 : decode cX8_split 37 = .ok (.iconst 0, 1) := by decide +kernel
theorem dX8_split_38 : decode cX8_split 38 = .ok (.istore 4, 2) := by decide +kernel
theorem dX8_split_40 : decode cX8_split 40 = .ok (.iload 4, 2) := by decide +kernel
theorem dX8_split_42 : decode cX8_split 42 = .ok (.aload_n 0, 1) := by decide +kernel
theorem dX8_split_43 : decode cX8_split 43 = .ok (.getfield 12, 3) := by decide +kernel
theorem dX8_split_46 : decode cX8_split 46 = .ok (.getfield 57, 3) := by decide +kernel
theorem dX8_split_49 : decode cX8_split 49 = .ok (.getfield 66, 3) := by decide +kernel
theorem dX8_split_52 : decode cX8_split 52 = .ok (.if_icmp .ge 39, 3) := by decide +kernel
theorem dX8_split_55 : decode cX8_split 55 = .ok (.aload_n 0, 1) := by decide +kernel
theorem dX8_split_56 : decode cX8_split 56 = .ok (.getfield 40, 3) := by decide +kernel
theorem dX8_split_59 : decode cX8_split 59 = .ok (.iload_n 2, 1) := by decide +kernel
theorem dX8_split_60 : decode cX8_split 60 = .ok (.iload 4, 2) := by decide +kernel
theorem dX8_split_62 : decode cX8_split 62 = .ok (.invokevirtual 231, 3) := by decide +kernel
theorem dX8_split_65 : decode cX8_split 65 = .ok (.aload_n 0, 1) := by decide +kernel
theorem dX8_split_66 : decode cX8_split 66 = .ok (.getfield 40, 3) := by decide +kernel
theorem dX8_split_69 : decode cX8_split 69 = .ok (.iload_n 1, 1) := by decide +kernel
theorem dX8_split_70 : decode cX8_split 70 = .ok (.iload 4, 2) := by decide +kernel
theorem dX8_split_72 : decode cX8_split 72 = .ok (.invokevirtual 231, 3) := by decide +kernel
theorem dX8_split_75 : decode cX8_split 75 = .ok (.if_icmp .ge 10, 3) := by decide +kernel
theorem dX8_split_78 : decode cX8_split 78 = .ok (.iload_n 3, 1) := by decide +kernel
theorem dX8_split_79 : decode cX8_split 79 = .ok (.iconst 1, 1) := by decide +kernel
theorem dX8_split_80 : decode cX8_split 80 = .ok (.iload 4, 2) := by decide +kernel
theorem dX8_split_82 : decode cX8_split 82 = .ok (.ishl, 1) := by decide +kernel
theorem dX8_split_83 : decode cX8_split 83 = .ok (.ior, 1) := by decide +kernel
theorem dX8_split_84 : decode cX8_split 84 = .ok (.istore_n 3, 1) := by decide +kernel
theorem dX8_split_85 : decode cX8_split 85 = .ok (.iinc 4 1, 3) := by decide +kernel
theorem dX8_split_88 : decode cX8_split 88 = .ok (.goto (-48), 3) := by decide +kernel
theorem dX8_split_91 : decode cX8_split 91 = .ok (.iload_n 3, 1) := by decide +kernel
theorem dX8_split_92 : decode cX8_split 92 = .ok (.ireturn, 1) := by decide +kernel
theorem dX8_pair_0 : decode cX8_pair 0 = .ok (.aload_n 0, 1) := by decide +kernel
theorem dX8_pair_1 : decode cX8_pair 1 = .ok (.iload_n 1, 1) := by decide +kernel
theorem dX8_pair_2 : decode cX8_pair 2 = .ok (.invokevirtual 240, 3) := by decide +kernel
theorem dX8_pair_5 : decode cX8_pair 5 = .ok (.istore_n 2, 1) := by decide +kernel
theorem dX8_pair_6 : decode cX8_pair 6 = .ok (.iload_n 2, 1) := by decide +kernel
theorem dX8_pair_7 : decode cX8_pair 7 = .ok (.ifCond .eq 9, 3) := by decide +kernel
theorem dX8_pair_10 : decode cX8_pair 10 = .ok (.aload_n 0, 1) := by decide +kernel
theorem dX8_pair_11 : decode cX8_pair 11 = .ok (.iload_n 2, 1) := by decide +kernel
theorem dX8_pair_12 : decode cX8_pair 12 = .ok (.invokevirtual 53, 3) := by decide +kernel
theorem dX8_pair_15 : decode cX8_pair 15 = .ok (.ireturn, 1) := by decide +kernel
theorem dX8_pair_16 : decode cX8_pair 16 = .ok (.aload_n 0, 1) := by decide +kernel
theorem dX8_pair_17 : decode cX8_pair 17 = .ok (.iload_n 1, 1) := by decide +kernel
theorem dX8_pair_18 : decode cX8_pair 18 = .ok (.invokevirtual 243, 3) := by decide +kernel
theorem dX8_pair_21 : decode cX8_pair 21 = .ok (.aload_n 0, 1) := by decide +kernel
theorem dX8_pair_22 : decode cX8_pair 22 = .ok (.getfield 40, 3) := by decide +kernel
theorem dX8_pair_25 : decode cX8_pair 25 = .ok (.aload_n 0, 1) := by decide +kernel
theorem dX8_pair_26 : decode cX8_pair 26 = .ok (.getfield 33, 3) := by decide +kernel
theorem dX8_pair_29 : decode cX8_pair 29 = .ok (.getfield 86, 3) := by decide +kernel
theorem dX8_pair_32 : decode cX8_pair 32 = .ok (.iload_n 1, 1) := by decide +kernel
theorem dX8_pair_33 : decode cX8_pair 33 = .ok (.iaload, 1) := by decide +kernel
theorem dX8_pair_34 : decode cX8_pair 34 = .ok (.invokevirtual 247, 3) := by decide +kernel
theorem dX8_pair_37 : decode cX8_pair 37 = .ok (.ireturn, 1) := by decide +kernel
theorem dX8_night_0 : decode cX8_night 0 = .ok (.aload_n 0, 1) := by decide +kernel
theorem dX8_night_1 : decode cX8_night 1 = .ok (.iload_n 1, 1) := by decide +kernel
theorem dX8_night_2 : decode cX8_night 2 = .ok (.invokevirtual 240, 3) := by decide +kernel
theorem dX8_night_5 : decode cX8_night 5 = .ok (.istore_n 2, 1) := by decide +kernel
theorem dX8_night_6 : decode cX8_night 6 = .ok (.iload_n 2, 1) := by decide +kernel
theorem dX8_night_7 : decode cX8_night 7 = .ok (.ifCond .eq 9, 3) := by decide +kernel
theorem dX8_night_10 : decode cX8_night 10 = .ok (.aload_n 0, 1) := by decide +kernel
theorem dX8_night_11 : decode cX8_night 11 = .ok (.iload_n 2, 1) := by decide +kernel
theorem dX8_night_12 : decode cX8_night 12 = .ok (.invokevirtual 53, 3) := by decide +kernel
theorem dX8_night_15 : decode cX8_night 15 = .ok (.ireturn, 1) := by decide +kernel
theorem dX8_night_16 : decode cX8_night 16 = .ok (.aload_n 0, 1) := by decide +kernel
theorem dX8_night_17 : decode cX8_night 17 = .ok (.iload_n 1, 1) := by decide +kernel
theorem dX8_night_18 : decode cX8_night 18 = .ok (.invokevirtual 243, 3) := by decide +kernel
theorem dX8_night_21 : decode cX8_night 21 = .ok (.aload_n 0, 1) := by decide +kernel
theorem dX8_night_22 : decode cX8_night 22 = .ok (.getfield 40, 3) := by decide +kernel
theorem dX8_night_25 : decode cX8_night 25 = .ok (.aload_n 0, 1) := by decide +kernel
theorem dX8_night_26 : decode cX8_night 26 = .ok (.getfield 33, 3) := by decide +kernel
theorem dX8_night_29 : decode cX8_night 29 = .ok (.getfield 86, 3) := by decide +kernel
theorem dX8_night_32 : decode cX8_night 32 = .ok (.iload_n 1, 1) := by decide +kernel
theorem dX8_night_33 : decode cX8_night 33 = .ok (.iaload, 1) := by decide +kernel
theorem dX8_night_34 : decode cX8_night 34 = .ok (.invokevirtual 247, 3) := by decide +kernel
theorem dX8_night_37 : decode cX8_night 37 = .ok (.istore_n 3, 1) := by decide +kernel
theorem dX8_night_38 : decode cX8_night 38 = .ok (.aload_n 0, 1) := by decide +kernel
theorem dX8_night_39 : decode cX8_night 39 = .ok (.getfield 40, 3) := by decide +kernel
theorem dX8_night_42 : decode cX8_night 42 = .ok (.aload_n 0, 1) := by decide +kernel
theorem dX8_night_43 : decode cX8_night 43 = .ok (.getfield 33, 3) := by decide +kernel
theorem dX8_night_46 : decode cX8_night 46 = .ok (.getfield 86, 3) := by decide +kernel
theorem dX8_night_49 : decode cX8_night 49 = .ok (.iload_n 1, 1) := by decide +kernel
theorem dX8_night_50 : decode cX8_night 50 = .ok (.iaload, 1) := by decide +kernel
theorem dX8_night_51 : decode cX8_night 51 = .ok (.invokevirtual 250, 3) := by decide +kernel
theorem dX8_night_54 : decode cX8_night 54 = .ok (.istore 4, 2) := by decide +kernel
theorem dX8_night_56 : decode cX8_night 56 = .ok (.iload 4, 2) := by decide +kernel
theorem dX8_night_58 : decode cX8_night 58 = .ok (.aload_n 0, 1) := by decide +kernel
theorem dX8_night_59 : decode cX8_night 59 = .ok (.getfield 40, 3) := by decide +kernel
theorem dX8_night_62 : decode cX8_night 62 = .ok (.iload_n 3, 1) := by decide +kernel
theorem dX8_night_63 : decode cX8_night 63 = .ok (.bipush 100, 2) := by decide +kernel
theorem dX8_night_65 : decode cX8_night 65 = .ok (.idiv, 1) := by decide +kernel
theorem dX8_night_66 : decode cX8_night 66 = .ok (.iload_n 3, 1) := by decide +kernel
theorem dX8_night_67 : decode cX8_night 67 = .ok (.bipush 100, 2) := by decide +kernel
theorem dX8_night_69 : decode cX8_night 69 = .ok (.irem, 1) := by decide +kernel
theorem dX8_night_70 : decode cX8_night 70 = .ok (.invokevirtual 237, 3) := by decide +kernel
theorem dX8_night_73 : decode cX8_night 73 = .ok (.isub, 1) := by decide +kernel
theorem dX8_night_74 : decode cX8_night 74 = .ok (.ireturn, 1) := by decide +kernel
theorem dX8_fits_0 : decode cX8_fits 0 = .ok (.iload_n 1, 1) := by decide +kernel
theorem dX8_fits_1 : decode cX8_fits 1 = .ok (.i2l, 1) := by decide +kernel
theorem dX8_fits_2 : decode cX8_fits 2 = .ok (.invokestatic 221, 3) := by decide +kernel
theorem dX8_fits_5 : decode cX8_fits 5 = .ok (.ifCond .ne 10, 3) := by decide +kernel
theorem dX8_fits_8 : decode cX8_fits 8 = .ok (.aload_n 0, 1) := by decide +kernel
theorem dX8_fits_9 : decode cX8_fits 9 = .ok (.ldc 52, 2) := by decide +kernel
theorem dX8_fits_11 : decode cX8_fits 11 = .ok (.invokevirtual 53, 3) := by decide +kernel
theorem dX8_fits_14 : decode cX8_fits 14 = .ok (.ireturn, 1) := by decide +kernel
theorem dX8_fits_15 : decode cX8_fits 15 = .ok (.aload_n 0, 1) := by decide +kernel
theorem dX8_fits_16 : decode cX8_fits 16 = .ok (.getfield 40, 3) := by decide +kernel
theorem dX8_fits_19 : decode cX8_fits 19 = .ok (.aload_n 0, 1) := by decide +kernel
theorem dX8_fits_20 : decode cX8_fits 20 = .ok (.getfield 12, 3) := by decide +kernel
theorem dX8_fits_23 : decode cX8_fits 23 = .ok (.iconst (-1), 1) := by decide +kernel
theorem dX8_fits_24 : decode cX8_fits 24 = .ok (.invokevirtual 211, 3) := by decide +kernel
theorem dX8_fits_27 : decode cX8_fits 27 = .ok (.aload_n 0, 1) := by decide +kernel
theorem dX8_fits_28 : decode cX8_fits 28 = .ok (.getfield 12, 3) := by decide +kernel
theorem dX8_fits_31 : decode cX8_fits 31 = .ok (.iconst (-1), 1) := by decide +kernel
theorem dX8_fits_32 : decode cX8_fits 32 = .ok (.invokevirtual 114, 3) := by decide +kernel
theorem dX8_fits_35 : decode cX8_fits 35 = .ok (.istore_n 2, 1) := by decide +kernel
theorem dX8_fits_36 : decode cX8_fits 36 = .ok (.iconst 0, 1) := by decide +kernel
theorem dX8_fits_37 : decode cX8_fits 37 = .ok (.istore_n 3, 1) := by decide +kernel
theorem dX8_fits_38 : decode cX8_fits 38 = .ok (.iconst 0, 1) := by decide +kernel
theorem dX8_fits_39 : decode cX8_fits 39 = .ok (.istore 4, 2) := by decide +kernel
theorem dX8_fits_41 : decode cX8_fits 41 = .ok (.iload 4, 2) := by decide +kernel
theorem dX8_fits_43 : decode cX8_fits 43 = .ok (.aload_n 0, 1) := by decide +kernel
theorem dX8_fits_44 : decode cX8_fits 44 = .ok (.getfield 12, 3) := by decide +kernel
theorem dX8_fits_47 : decode cX8_fits 47 = .ok (.getfield 100, 3) := by decide +kernel
theorem dX8_fits_50 : decode cX8_fits 50 = .ok (.getfield 135, 3) := by decide +kernel
theorem dX8_fits_53 : decode cX8_fits 53 = .ok (.if_icmp .ge 76, 3) := by decide +kernel
theorem dX8_fits_56 : decode cX8_fits 56 = .ok (.iconst 1, 1) := by decide +kernel
theorem dX8_fits_57 : decode cX8_fits 57 = .ok (.aload_n 0, 1) := by decide +kernel
theorem dX8_fits_58 : decode cX8_fits 58 = .ok (.getfield 40, 3) := by decide +kernel
theorem dX8_fits_61 : decode cX8_fits 61 = .ok (.iload_n 1, 1) := by decide +kernel
theorem dX8_fits_62 : decode cX8_fits 62 = .ok (.aload_n 0, 1) := by decide +kernel
theorem dX8_fits_63 : decode cX8_fits 63 = .ok (.getfield 12, 3) := by decide +kernel
theorem dX8_fits_66 : decode cX8_fits 66 = .ok (.getfield 100, 3) := by decide +kernel
theorem dX8_fits_69 : decode cX8_fits 69 = .ok (.getfield 218, 3) := by decide +kernel
theorem dX8_fits_72 : decode cX8_fits 72 = .ok (.iload 4, 2) := by decide +kernel
theorem dX8_fits_74 : decode cX8_fits 74 = .ok (.iaload, 1) := by decide +kernel
theorem dX8_fits_75 : decode cX8_fits 75 = .ok (.invokevirtual 225, 3) := by decide +kernel
theorem dX8_fits_78 : decode cX8_fits 78 = .ok (.ishl, 1) := by decide +kernel
theorem dX8_fits_79 : decode cX8_fits 79 = .ok (.istore 5, 2) := by decide +kernel
theorem dX8_fits_81 : decode cX8_fits 81 = .ok (.iload_n 2, 1) := by decide +kernel
theorem dX8_fits_82 : decode cX8_fits 82 = .ok (.iload 4, 2) := by decide +kernel
theorem dX8_fits_84 : decode cX8_fits 84 = .ok (.ishr, 1) := by decide +kernel
theorem dX8_fits_85 : decode cX8_fits 85 = .ok (.iconst 1, 1) := by decide +kernel
theorem dX8_fits_86 : decode cX8_fits 86 = .ok (.iand, 1) := by decide +kernel
theorem dX8_fits_87 : decode cX8_fits 87 = .ok (.iconst 1, 1) := by decide +kernel
theorem dX8_fits_88 : decode cX8_fits 88 = .ok (.if_icmp .ne 35, 3) := by decide +kernel
theorem dX8_fits_91 : decode cX8_fits 91 = .ok (.aload_n 0, 1) := by decide +kernel
theorem dX8_fits_92 : decode cX8_fits 92 = .ok (.getfield 12, 3) := by decide +kernel
theorem dX8_fits_95 : decode cX8_fits 95 = .ok (.aload_n 0, 1) := by decide +kernel
theorem dX8_fits_96 : decode cX8_fits 96 = .ok (.getfield 12, 3) := by decide +kernel
theorem dX8_fits_99 : decode cX8_fits 99 = .ok (.getfield 100, 3) := by decide +kernel
theorem dX8_fits_102 : decode cX8_fits 102 = .ok (.getfield 159, 3) := by decide +kernel
theorem dX8_fits_105 : decode cX8_fits 105 = .ok (.iload 4, 2) := by decide +kernel
theorem dX8_fits_107 : decode cX8_fits 107 = .ok (.iaload, 1) := by decide +kernel
theorem dX8_fits_108 : decode cX8_fits 108 = .ok (.invokevirtual 202, 3) := by decide +kernel
theorem dX8_fits_111 : decode cX8_fits 111 = .ok (.iload 5, 2) := by decide +kernel
theorem dX8_fits_113 : decode cX8_fits 113 = .ok (.if_icmp .ne 10, 3) := by decide +kernel
theorem dX8_fits_116 : decode cX8_fits 116 = .ok (.iload_n 3, 1) := by decide +kernel
theorem dX8_fits_117 : decode cX8_fits 117 = .ok (.iconst 1, 1) := by decide +kernel
theorem dX8_fits_118 : decode cX8_fits 118 = .ok (.iload 4, 2) := by decide +kernel
theorem dX8_fits_120 : decode cX8_fits 120 = .ok (.ishl, 1) := by decide +kernel
theorem dX8_fits_121 : decode cX8_fits 121 = .ok (.ior, 1) := by decide +kernel
theorem dX8_fits_122 : decode cX8_fits 122 = .ok (.istore_n 3, 1) := by decide +kernel
theorem dX8_fits_123 : decode cX8_fits 123 = .ok (.iinc 4 1, 3) := by decide +kernel
theorem dX8_fits_126 : decode cX8_fits 126 = .ok (.goto (-85), 3) := by decide +kernel
theorem dX8_fits_129 : decode cX8_fits 129 = .ok (.iload_n 3, 1) := by decide +kernel
theorem dX8_fits_130 : decode cX8_fits 130 = .ok (.ireturn, 1) := by decide +kernel
theorem dX8_falls_0 : decode cX8_falls 0 = .ok (.iload_n 1, 1) := by decide +kernel
theorem dX8_falls_1 : decode cX8_falls 1 = .ok (.i2l, 1) := by decide +kernel
theorem dX8_falls_2 : decode cX8_falls 2 = .ok (.invokestatic 221, 3) := by decide +kernel
theorem dX8_falls_5 : decode cX8_falls 5 = .ok (.ifCond .eq 19, 3) := by decide +kernel
theorem dX8_falls_8 : decode cX8_falls 8 = .ok (.aload_n 0, 1) := by decide +kernel
theorem dX8_falls_9 : decode cX8_falls 9 = .ok (.iload_n 2, 1) := by decide +kernel
theorem dX8_falls_10 : decode cX8_falls 10 = .ok (.invokevirtual 74, 3) := by decide +kernel
theorem dX8_falls_13 : decode cX8_falls 13 = .ok (.ifCond .eq 11, 3) := by decide +kernel
theorem dX8_falls_16 : decode cX8_falls 16 = .ok (.iload_n 3, 1) := by decide +kernel
theorem dX8_falls_17 : decode cX8_falls 17 = .ok (.iconst 4, 1) := by decide +kernel
theorem dX8_falls_18 : decode cX8_falls 18 = .ok (.invokestatic 48, 3) := by decide +kernel
theorem dX8_falls_21 : decode cX8_falls 21 = .ok (.ifCond .ne 10, 3) := by decide +kernel
theorem dX8_falls_24 : decode cX8_falls 24 = .ok (.aload_n 0, 1) := by decide +kernel
theorem dX8_falls_25 : decode cX8_falls 25 = .ok (.ldc 52, 2) := by decide +kernel
theorem dX8_falls_27 : decode cX8_falls 27 = .ok (.invokevirtual 53, 3) := by decide +kernel
theorem dX8_falls_30 : decode cX8_falls 30 = .ok (.ireturn, 1) := by decide +kernel
theorem dX8_falls_31 : decode cX8_falls 31 = .ok (.aload_n 0, 1) := by decide +kernel
theorem dX8_falls_32 : decode cX8_falls 32 = .ok (.getfield 40, 3) := by decide +kernel
theorem dX8_falls_35 : decode cX8_falls 35 = .ok (.aload_n 0, 1) := by decide +kernel
theorem dX8_falls_36 : decode cX8_falls 36 = .ok (.getfield 12, 3) := by decide +kernel
theorem dX8_falls_39 : decode cX8_falls 39 = .ok (.iconst (-1), 1) := by decide +kernel
theorem dX8_falls_40 : decode cX8_falls 40 = .ok (.invokevirtual 211, 3) := by decide +kernel
theorem dX8_falls_43 : decode cX8_falls 43 = .ok (.aload_n 0, 1) := by decide +kernel
theorem dX8_falls_44 : decode cX8_falls 44 = .ok (.getfield 40, 3) := by decide +kernel
theorem dX8_falls_47 : decode cX8_falls 47 = .ok (.iload_n 1, 1) := by decide +kernel
theorem dX8_falls_48 : decode cX8_falls 48 = .ok (.iload_n 2, 1) := by decide +kernel
theorem dX8_falls_49 : decode cX8_falls 49 = .ok (.invokevirtual 225, 3) := by decide +kernel
theorem dX8_falls_52 : decode cX8_falls 52 = .ok (.istore 4, 2) := by decide +kernel
theorem dX8_falls_54 : decode cX8_falls 54 = .ok (.iload_n 3, 1) := by decide +kernel
theorem dX8_falls_55 : decode cX8_falls 55 = .ok (.iconst 3, 1) := by decide +kernel
theorem dX8_falls_56 : decode cX8_falls 56 = .ok (.if_icmp .ge 18, 3) := by decide +kernel
theorem dX8_falls_59 : decode cX8_falls 59 = .ok (.aload_n 0, 1) := by decide +kernel
theorem dX8_falls_60 : decode cX8_falls 60 = .ok (.getfield 12, 3) := by decide +kernel
theorem dX8_falls_63 : decode cX8_falls 63 = .ok (.getfield 57, 3) := by decide +kernel
theorem dX8_falls_66 : decode cX8_falls 66 = .ok (.iload_n 2, 1) := by decide +kernel
theorem dX8_falls_67 : decode cX8_falls 67 = .ok (.iload_n 3, 1) := by decide +kernel
theorem dX8_falls_68 : decode cX8_falls 68 = .ok (.iload 4, 2) := by decide +kernel
theorem dX8_falls_70 : decode cX8_falls 70 = .ok (.invokevirtual 253, 3) := by decide +kernel
theorem dX8_falls_73 : decode cX8_falls 73 = .ok (.ireturn, 1) := by decide +kernel
theorem dX8_falls_74 : decode cX8_falls 74 = .ok (.iconst 0, 1) := by decide +kernel
theorem dX8_falls_75 : decode cX8_falls 75 = .ok (.istore 5, 2) := by decide +kernel
theorem dX8_falls_77 : decode cX8_falls 77 = .ok (.iconst 0, 1) := by decide +kernel
theorem dX8_falls_78 : decode cX8_falls 78 = .ok (.istore 6, 2) := by decide +kernel
theorem dX8_falls_80 : decode cX8_falls 80 = .ok (.iload 6, 2) := by decide +kernel
theorem dX8_falls_82 : decode cX8_falls 82 = .ok (.iconst 3, 1) := by decide +kernel
theorem dX8_falls_83 : decode cX8_falls 83 = .ok (.if_icmp .ge 29, 3) := by decide +kernel
theorem dX8_falls_86 : decode cX8_falls 86 = .ok (.iload 5, 2) := by decide +kernel
theorem dX8_falls_88 : decode cX8_falls 88 = .ok (.aload_n 0, 1) := by decide +kernel
theorem dX8_falls_89 : decode cX8_falls 89 = .ok (.getfield 12, 3) := by decide +kernel
theorem dX8_falls_92 : decode cX8_falls 92 = .ok (.getfield 57, 3) := by decide +kernel
theorem dX8_falls_95 : decode cX8_falls 95 = .ok (.iload_n 2, 1) := by decide +kernel
theorem dX8_falls_96 : decode cX8_falls 96 = .ok (.iload 6, 2) := by decide +kernel
theorem dX8_falls_98 : decode cX8_falls 98 = .ok (.iload 4, 2) := by decide +kernel
theorem dX8_falls_100 : decode cX8_falls 100 = .ok (.invokevirtual 253, 3) := by decide +kernel
theorem dX8_falls_103 : decode cX8_falls 103 = .ok (.iadd, 1) := by decide +kernel
theorem dX8_falls_104 : decode cX8_falls 104 = .ok (.istore 5, 2) := by decide +kernel
theorem dX8_falls_106 : decode cX8_falls 106 = .ok (.iinc 6 1, 3) := by decide +kernel
theorem dX8_falls_109 : decode cX8_falls 109 = .ok (.goto (-29), 3) := by decide +kernel
theorem dX8_falls_112 : decode cX8_falls 112 = .ok (.iload 5, 2) := by decide +kernel
theorem dX8_falls_114 : decode cX8_falls 114 = .ok (.ireturn, 1) := by decide +kernel
theorem dX8_weight_0 : decode cX8_weight 0 = .ok (.iload_n 1, 1) := by decide +kernel
theorem dX8_weight_1 : decode cX8_weight 1 = .ok (.i2l, 1) := by decide +kernel
theorem dX8_weight_2 : decode cX8_weight 2 = .ok (.invokestatic 221, 3) := by decide +kernel
theorem dX8_weight_5 : decode cX8_weight 5 = .ok (.ifCond .ne 10, 3) := by decide +kernel
theorem dX8_weight_8 : decode cX8_weight 8 = .ok (.aload_n 0, 1) := by decide +kernel
theorem dX8_weight_9 : decode cX8_weight 9 = .ok (.ldc 52, 2) := by decide +kernel
theorem dX8_weight_11 : decode cX8_weight 11 = .ok (.invokevirtual 53, 3) := by decide +kernel
theorem dX8_weight_14 : decode cX8_weight 14 = .ok (.ireturn, 1) := by decide +kernel
theorem dX8_weight_15 : decode cX8_weight 15 = .ok (.aload_n 0, 1) := by decide +kernel
theorem dX8_weight_16 : decode cX8_weight 16 = .ok (.getfield 40, 3) := by decide +kernel
theorem dX8_weight_19 : decode cX8_weight 19 = .ok (.aload_n 0, 1) := by decide +kernel
theorem dX8_weight_20 : decode cX8_weight 20 = .ok (.getfield 12, 3) := by decide +kernel
theorem dX8_weight_23 : decode cX8_weight 23 = .ok (.iconst (-1), 1) := by decide +kernel
theorem dX8_weight_24 : decode cX8_weight 24 = .ok (.invokevirtual 211, 3) := by decide +kernel
theorem dX8_weight_27 : decode cX8_weight 27 = .ok (.aload_n 0, 1) := by decide +kernel
theorem dX8_weight_28 : decode cX8_weight 28 = .ok (.getfield 40, 3) := by decide +kernel
theorem dX8_weight_31 : decode cX8_weight 31 = .ok (.iload_n 1, 1) := by decide +kernel
theorem dX8_weight_32 : decode cX8_weight 32 = .ok (.invokevirtual 228, 3) := by decide +kernel
theorem dX8_weight_35 : decode cX8_weight 35 = .ok (.invokestatic 256, 3) := by decide +kernel
theorem dX8_weight_38 : decode cX8_weight 38 = .ok (.ireturn, 1) := by decide +kernel
theorem dX8_odds_0 : decode cX8_odds 0 = .ok (.iload_n 1, 1) := by decide +kernel
theorem dX8_odds_1 : decode cX8_odds 1 = .ok (.iconst 4, 1) := by decide +kernel
theorem dX8_odds_2 : decode cX8_odds 2 = .ok (.invokestatic 48, 3) := by decide +kernel
theorem dX8_odds_5 : decode cX8_odds 5 = .ok (.ifCond .eq 18, 3) := by decide +kernel
theorem dX8_odds_8 : decode cX8_odds 8 = .ok (.iload_n 2, 1) := by decide +kernel
theorem dX8_odds_9 : decode cX8_odds 9 = .ok (.iconst (-1), 1) := by decide +kernel
theorem dX8_odds_10 : decode cX8_odds 10 = .ok (.if_icmp .eq 21, 3) := by decide +kernel
theorem dX8_odds_13 : decode cX8_odds 13 = .ok (.iload_n 2, 1) := by decide +kernel
theorem dX8_odds_14 : decode cX8_odds 14 = .ok (.sipush 144, 3) := by decide +kernel
theorem dX8_odds_17 : decode cX8_odds 17 = .ok (.invokestatic 48, 3) := by decide +kernel
theorem dX8_odds_20 : decode cX8_odds 20 = .ok (.ifCond .ne 11, 3) := by decide +kernel
theorem dX8_odds_23 : decode cX8_odds 23 = .ok (.aload_n 0, 1) := by decide +kernel
theorem dX8_odds_24 : decode cX8_odds 24 = .ok (.ldc 52, 2) := by decide +kernel
theorem dX8_odds_26 : decode cX8_odds 26 = .ok (.invokevirtual 53, 3) := by decide +kernel
theorem dX8_odds_29 : decode cX8_odds 29 = .ok (.i2l, 1) := by decide +kernel
theorem dX8_odds_30 : decode cX8_odds 30 = .ok (.lreturn, 1) := by decide +kernel
theorem dX8_odds_31 : decode cX8_odds 31 = .ok (.aload_n 0, 1) := by decide +kernel
theorem dX8_odds_32 : decode cX8_odds 32 = .ok (.getfield 40, 3) := by decide +kernel
theorem dX8_odds_35 : decode cX8_odds 35 = .ok (.aload_n 0, 1) := by decide +kernel
theorem dX8_odds_36 : decode cX8_odds 36 = .ok (.getfield 12, 3) := by decide +kernel
theorem dX8_odds_39 : decode cX8_odds 39 = .ok (.iconst (-1), 1) := by decide +kernel
theorem dX8_odds_40 : decode cX8_odds 40 = .ok (.invokevirtual 211, 3) := by decide +kernel
theorem dX8_odds_43 : decode cX8_odds 43 = .ok (.iload_n 2, 1) := by decide +kernel
theorem dX8_odds_44 : decode cX8_odds 44 = .ok (.iconst (-1), 1) := by decide +kernel
theorem dX8_odds_45 : decode cX8_odds 45 = .ok (.if_icmp .ne 14, 3) := by decide +kernel
theorem dX8_odds_48 : decode cX8_odds 48 = .ok (.aload_n 0, 1) := by decide +kernel
theorem dX8_odds_49 : decode cX8_odds 49 = .ok (.getfield 40, 3) := by decide +kernel
theorem dX8_odds_52 : decode cX8_odds 52 = .ok (.iload_n 1, 1) := by decide +kernel
theorem dX8_odds_53 : decode cX8_odds 53 = .ok (.invokevirtual 259, 3) := by decide +kernel
theorem dX8_odds_56 : decode cX8_odds 56 = .ok (.goto 12, 3) := by decide +kernel
theorem dX8_odds_59 : decode cX8_odds 59 = .ok (.aload_n 0, 1) := by decide +kernel
theorem dX8_odds_60 : decode cX8_odds 60 = .ok (.getfield 40, 3) := by decide +kernel
theorem dX8_odds_63 : decode cX8_odds 63 = .ok (.iload_n 2, 1) := by decide +kernel
theorem dX8_odds_64 : decode cX8_odds 64 = .ok (.iload_n 1, 1) := by decide +kernel
theorem dX8_odds_65 : decode cX8_odds 65 = .ok (.invokevirtual 263, 3) := by decide +kernel
theorem dX8_odds_68 : decode cX8_odds 68 = .ok (.lreturn, 1) := by decide +kernel
theorem dX8_best_0 : decode cX8_best 0 = .ok (.iload_n 1, 1) := by decide +kernel
theorem dX8_best_1 : decode cX8_best 1 = .ok (.iconst 4, 1) := by decide +kernel
theorem dX8_best_2 : decode cX8_best 2 = .ok (.invokestatic 48, 3) := by decide +kernel
theorem dX8_best_5 : decode cX8_best 5 = .ok (.ifCond .ne 10, 3) := by decide +kernel
theorem dX8_best_8 : decode cX8_best 8 = .ok (.aload_n 0, 1) := by decide +kernel
theorem dX8_best_9 : decode cX8_best 9 = .ok (.ldc 52, 2) := by decide +kernel
theorem dX8_best_11 : decode cX8_best 11 = .ok (.invokevirtual 53, 3) := by decide +kernel
theorem dX8_best_14 : decode cX8_best 14 = .ok (.ireturn, 1) := by decide +kernel
theorem dX8_best_15 : decode cX8_best 15 = .ok (.aload_n 0, 1) := by decide +kernel
theorem dX8_best_16 : decode cX8_best 16 = .ok (.getfield 40, 3) := by decide +kernel
theorem dX8_best_19 : decode cX8_best 19 = .ok (.aload_n 0, 1) := by decide +kernel
theorem dX8_best_20 : decode cX8_best 20 = .ok (.getfield 12, 3) := by decide +kernel
theorem dX8_best_23 : decode cX8_best 23 = .ok (.iconst (-1), 1) := by decide +kernel
theorem dX8_best_24 : decode cX8_best 24 = .ok (.invokevirtual 211, 3) := by decide +kernel
theorem dX8_best_27 : decode cX8_best 27 = .ok (.aload_n 0, 1) := by decide +kernel
theorem dX8_best_28 : decode cX8_best 28 = .ok (.getfield 40, 3) := by decide +kernel
theorem dX8_best_31 : decode cX8_best 31 = .ok (.iload_n 1, 1) := by decide +kernel
theorem dX8_best_32 : decode cX8_best 32 = .ok (.invokevirtual 266, 3) := by decide +kernel
theorem dX8_best_35 : decode cX8_best 35 = .ok (.ireturn, 1) := by decide +kernel
theorem dX8_narrow_0 : decode cX8_narrow 0 = .ok (.iload_n 1, 1) := by decide +kernel
theorem dX8_narrow_1 : decode cX8_narrow 1 = .ok (.iconst 4, 1) := by decide +kernel
theorem dX8_narrow_2 : decode cX8_narrow 2 = .ok (.invokestatic 48, 3) := by decide +kernel
theorem dX8_narrow_5 : decode cX8_narrow 5 = .ok (.ifCond .eq 12, 3) := by decide +kernel
theorem dX8_narrow_8 : decode cX8_narrow 8 = .ok (.iload_n 2, 1) := by decide +kernel
theorem dX8_narrow_9 : decode cX8_narrow 9 = .ok (.bipush 101, 2) := by decide +kernel
theorem dX8_narrow_11 : decode cX8_narrow 11 = .ok (.invokestatic 48, 3) := by decide +kernel
theorem dX8_narrow_14 : decode cX8_narrow 14 = .ok (.ifCond .ne 10, 3) := by decide +kernel
theorem dX8_narrow_17 : decode cX8_narrow 17 = .ok (.aload_n 0, 1) := by decide +kernel
theorem dX8_narrow_18 : decode cX8_narrow 18 = .ok (.ldc 52, 2) := by decide +kernel
theorem dX8_narrow_20 : decode cX8_narrow 20 = .ok (.invokevirtual 53, 3) := by decide +kernel
theorem dX8_narrow_23 : decode cX8_narrow 23 = .ok (.ireturn, 1) := by decide +kernel
theorem dX8_narrow_24 : decode cX8_narrow 24 = .ok (.aload_n 0, 1) := by decide +kernel
theorem dX8_narrow_25 : decode cX8_narrow 25 = .ok (.getfield 40, 3) := by decide +kernel
theorem dX8_narrow_28 : decode cX8_narrow 28 = .ok (.aload_n 0, 1) := by decide +kernel
theorem dX8_narrow_29 : decode cX8_narrow 29 = .ok (.getfield 12, 3) := by decide +kernel
theorem dX8_narrow_32 : decode cX8_narrow 32 = .ok (.iconst (-1), 1) := by decide +kernel
theorem dX8_narrow_33 : decode cX8_narrow 33 = .ok (.invokevirtual 211, 3) := by decide +kernel
theorem dX8_narrow_36 : decode cX8_narrow 36 = .ok (.aload_n 0, 1) := by decide +kernel
theorem dX8_narrow_37 : decode cX8_narrow 37 = .ok (.getfield 40, 3) := by decide +kernel
theorem dX8_narrow_40 : decode cX8_narrow 40 = .ok (.iload_n 1, 1) := by decide +kernel
theorem dX8_narrow_41 : decode cX8_narrow 41 = .ok (.invokevirtual 259, 3) := by decide +kernel
theorem dX8_narrow_44 : decode cX8_narrow 44 = .ok (.lstore_n 3, 1) := by decide +kernel
theorem dX8_narrow_45 : decode cX8_narrow 45 = .ok (.lload_n 3, 1) := by decide +kernel
theorem dX8_narrow_46 : decode cX8_narrow 46 = .ok (.lconst 0, 1) := by decide +kernel
theorem dX8_narrow_47 : decode cX8_narrow 47 = .ok (.lcmp, 1) := by decide +kernel
theorem dX8_narrow_48 : decode cX8_narrow 48 = .ok (.ifCond .ne 10, 3) := by decide +kernel
theorem dX8_narrow_51 : decode cX8_narrow 51 = .ok (.aload_n 0, 1) := by decide +kernel
theorem dX8_narrow_52 : decode cX8_narrow 52 = .ok (.ldc 174, 2) := by decide +kernel
theorem dX8_narrow_54 : decode cX8_narrow 54 = .ok (.invokevirtual 53, 3) := by decide +kernel
theorem dX8_narrow_57 : decode cX8_narrow 57 = .ok (.ireturn, 1) := by decide +kernel
theorem dX8_narrow_58 : decode cX8_narrow 58 = .ok (.lconst 0, 1) := by decide +kernel
theorem dX8_narrow_59 : decode cX8_narrow 59 = .ok (.lstore 5, 2) := by decide +kernel
theorem dX8_narrow_61 : decode cX8_narrow 61 = .ok (.iconst 0, 1) := by decide +kernel
theorem dX8_narrow_62 : decode cX8_narrow 62 = .ok (.istore 7, 2) := by decide +kernel
theorem dX8_narrow_64 : decode cX8_narrow 64 = .ok (.iload 7, 2) := by decide +kernel
theorem dX8_narrow_66 : decode cX8_narrow 66 = .ok (.sipush 144, 3) := by decide +kernel
theorem dX8_narrow_69 : decode cX8_narrow 69 = .ok (.if_icmp .ge 45, 3) := by decide +kernel
theorem dX8_narrow_72 : decode cX8_narrow 72 = .ok (.lload 5, 2) := by decide +kernel
theorem dX8_narrow_74 : decode cX8_narrow 74 = .ok (.ldc2_w 269, 3) := by decide +kernel
theorem dX8_narrow_77 : decode cX8_narrow 77 = .ok (.lmul, 1) := by decide +kernel
theorem dX8_narrow_78 : decode cX8_narrow 78 = .ok (.lload_n 3, 1) := by decide +kernel
theorem dX8_narrow_79 : decode cX8_narrow 79 = .ok (.iload_n 2, 1) := by decide +kernel
theorem dX8_narrow_80 : decode cX8_narrow 80 = .ok (.i2l, 1) := by decide +kernel
theorem dX8_narrow_81 : decode cX8_narrow 81 = .ok (.lmul, 1) := by decide +kernel
theorem dX8_narrow_82 : decode cX8_narrow 82 = .ok (.lcmp, 1) := by decide +kernel
theorem dX8_narrow_83 : decode cX8_narrow 83 = .ok (.ifCond .lt 6, 3) := by decide +kernel
theorem dX8_narrow_86 : decode cX8_narrow 86 = .ok (.iload 7, 2) := by decide +kernel
theorem dX8_narrow_88 : decode cX8_narrow 88 = .ok (.ireturn, 1) := by decide +kernel
theorem dX8_narrow_89 : decode cX8_narrow 89 = .ok (.lload 5, 2) := by decide +kernel
theorem dX8_narrow_91 : decode cX8_narrow 91 = .ok (.aload_n 0, 1) := by decide +kernel
theorem dX8_narrow_92 : decode cX8_narrow 92 = .ok (.getfield 40, 3) := by decide +kernel
theorem dX8_narrow_95 : decode cX8_narrow 95 = .ok (.aload_n 0, 1) := by decide +kernel
theorem dX8_narrow_96 : decode cX8_narrow 96 = .ok (.getfield 40, 3) := by decide +kernel
theorem dX8_narrow_99 : decode cX8_narrow 99 = .ok (.invokevirtual 271, 3) := by decide +kernel
theorem dX8_narrow_102 : decode cX8_narrow 102 = .ok (.invokevirtual 274, 3) := by decide +kernel
theorem dX8_narrow_105 : decode cX8_narrow 105 = .ok (.ladd, 1) := by decide +kernel
theorem dX8_narrow_106 : decode cX8_narrow 106 = .ok (.lstore 5, 2) := by decide +kernel
theorem dX8_narrow_108 : decode cX8_narrow 108 = .ok (.iinc 7 1, 3) := by decide +kernel
theorem dX8_narrow_111 : decode cX8_narrow 111 = .ok (.goto (-47), 3) := by decide +kernel
theorem dX8_narrow_114 : decode cX8_narrow 114 = .ok (.sipush 144, 3) := by decide +kernel
theorem dX8_narrow_117 : decode cX8_narrow 117 = .ok (.ireturn, 1) := by decide +kernel
theorem dX8_judge_0 : decode cX8_judge 0 = .ok (.iload_n 1, 1) := by decide +kernel
theorem dX8_judge_1 : decode cX8_judge 1 = .ok (.iconst 4, 1) := by decide +kernel
theorem dX8_judge_2 : decode cX8_judge 2 = .ok (.invokestatic 48, 3) := by decide +kernel
theorem dX8_judge_5 : decode cX8_judge 5 = .ok (.ifCond .eq 11, 3) := by decide +kernel
theorem dX8_judge_8 : decode cX8_judge 8 = .ok (.iload_n 2, 1) := by decide +kernel
theorem dX8_judge_9 : decode cX8_judge 9 = .ok (.iconst 4, 1) := by decide +kernel
theorem dX8_judge_10 : decode cX8_judge 10 = .ok (.invokestatic 48, 3) := by decide +kernel
theorem dX8_judge_13 : decode cX8_judge 13 = .ok (.ifCond .ne 10, 3) := by decide +kernel
theorem dX8_judge_16 : decode cX8_judge 16 = .ok (.aload_n 0, 1) := by decide +kernel
theorem dX8_judge_17 : decode cX8_judge 17 = .ok (.ldc 52, 2) := by decide +kernel
theorem dX8_judge_19 : decode cX8_judge 19 = .ok (.invokevirtual 53, 3) := by decide +kernel
theorem dX8_judge_22 : decode cX8_judge 22 = .ok (.ireturn, 1) := by decide +kernel
theorem dX8_judge_23 : decode cX8_judge 23 = .ok (.aload_n 0, 1) := by decide +kernel
theorem dX8_judge_24 : decode cX8_judge 24 = .ok (.getfield 33, 3) := by decide +kernel
theorem dX8_judge_27 : decode cX8_judge 27 = .ok (.iload_n 2, 1) := by decide +kernel
theorem dX8_judge_28 : decode cX8_judge 28 = .ok (.invokevirtual 82, 3) := by decide +kernel
theorem dX8_judge_31 : decode cX8_judge 31 = .ok (.ifCond .eq 10, 3) := by decide +kernel
theorem dX8_judge_34 : decode cX8_judge 34 = .ok (.aload_n 0, 1) := by decide +kernel
theorem dX8_judge_35 : decode cX8_judge 35 = .ok (.ldc 85, 2) := by decide +kernel
theorem dX8_judge_37 : decode cX8_judge 37 = .ok (.invokevirtual 53, 3) := by decide +kernel
theorem dX8_judge_40 : decode cX8_judge 40 = .ok (.ireturn, 1) := by decide +kernel
theorem dX8_judge_41 : decode cX8_judge 41 = .ok (.aload_n 0, 1) := by decide +kernel
theorem dX8_judge_42 : decode cX8_judge 42 = .ok (.getfield 33, 3) := by decide +kernel
theorem dX8_judge_45 : decode cX8_judge 45 = .ok (.iload_n 2, 1) := by decide +kernel
theorem dX8_judge_46 : decode cX8_judge 46 = .ok (.sipush 144, 3) := by decide +kernel
theorem dX8_judge_49 : decode cX8_judge 49 = .ok (.invokevirtual 90, 3) := by decide +kernel
theorem dX8_judge_52 : decode cX8_judge 52 = .ok (.ifCond .ne 10, 3) := by decide +kernel
theorem dX8_judge_55 : decode cX8_judge 55 = .ok (.aload_n 0, 1) := by decide +kernel
theorem dX8_judge_56 : decode cX8_judge 56 = .ok (.ldc 52, 2) := by decide +kernel
theorem dX8_judge_58 : decode cX8_judge 58 = .ok (.invokevirtual 53, 3) := by decide +kernel
theorem dX8_judge_61 : decode cX8_judge 61 = .ok (.ireturn, 1) := by decide +kernel
theorem dX8_judge_62 : decode cX8_judge 62 = .ok (.aload_n 0, 1) := by decide +kernel
theorem dX8_judge_63 : decode cX8_judge 63 = .ok (.getfield 40, 3) := by decide +kernel
theorem dX8_judge_66 : decode cX8_judge 66 = .ok (.aload_n 0, 1) := by decide +kernel
theorem dX8_judge_67 : decode cX8_judge 67 = .ok (.getfield 12, 3) := by decide +kernel
theorem dX8_judge_70 : decode cX8_judge 70 = .ok (.iconst (-1), 1) := by decide +kernel
theorem dX8_judge_71 : decode cX8_judge 71 = .ok (.invokevirtual 211, 3) := by decide +kernel
theorem dX8_judge_74 : decode cX8_judge 74 = .ok (.aload_n 0, 1) := by decide +kernel
theorem dX8_judge_75 : decode cX8_judge 75 = .ok (.getfield 40, 3) := by decide +kernel
theorem dX8_judge_78 : decode cX8_judge 78 = .ok (.iload_n 1, 1) := by decide +kernel
theorem dX8_judge_79 : decode cX8_judge 79 = .ok (.invokevirtual 259, 3) := by decide +kernel
theorem dX8_judge_82 : decode cX8_judge 82 = .ok (.lstore_n 3, 1) := by decide +kernel
theorem dX8_judge_83 : decode cX8_judge 83 = .ok (.lload_n 3, 1) := by decide +kernel
theorem dX8_judge_84 : decode cX8_judge 84 = .ok (.lconst 0, 1) := by decide +kernel
theorem dX8_judge_85 : decode cX8_judge 85 = .ok (.lcmp, 1) := by decide +kernel
theorem dX8_judge_86 : decode cX8_judge 86 = .ok (.ifCond .ne 10, 3) := by decide +kernel
theorem dX8_judge_89 : decode cX8_judge 89 = .ok (.aload_n 0, 1) := by decide +kernel
theorem dX8_judge_90 : decode cX8_judge 90 = .ok (.ldc 174, 2) := by decide +kernel
theorem dX8_judge_92 : decode cX8_judge 92 = .ok (.invokevirtual 53, 3) := by decide +kernel
theorem dX8_judge_95 : decode cX8_judge 95 = .ok (.ireturn, 1) := by decide +kernel
theorem dX8_judge_96 : decode cX8_judge 96 = .ok (.lconst 0, 1) := by decide +kernel
theorem dX8_judge_97 : decode cX8_judge 97 = .ok (.lstore 5, 2) := by decide +kernel
theorem dX8_judge_99 : decode cX8_judge 99 = .ok (.iconst 0, 1) := by decide +kernel
theorem dX8_judge_100 : decode cX8_judge 100 = .ok (.istore 7, 2) := by decide +kernel
theorem dX8_judge_102 : decode cX8_judge 102 = .ok (.iload 7, 2) := by decide +kernel
theorem dX8_judge_104 : decode cX8_judge 104 = .ok (.aload_n 0, 1) := by decide +kernel
theorem dX8_judge_105 : decode cX8_judge 105 = .ok (.getfield 33, 3) := by decide +kernel
theorem dX8_judge_108 : decode cX8_judge 108 = .ok (.getfield 86, 3) := by decide +kernel
theorem dX8_judge_111 : decode cX8_judge 111 = .ok (.iload_n 2, 1) := by decide +kernel
theorem dX8_judge_112 : decode cX8_judge 112 = .ok (.iaload, 1) := by decide +kernel
theorem dX8_judge_113 : decode cX8_judge 113 = .ok (.if_icmp .ge 32, 3) := by decide +kernel
theorem dX8_judge_116 : decode cX8_judge 116 = .ok (.lload 5, 2) := by decide +kernel
theorem dX8_judge_118 : decode cX8_judge 118 = .ok (.aload_n 0, 1) := by decide +kernel
theorem dX8_judge_119 : decode cX8_judge 119 = .ok (.getfield 40, 3) := by decide +kernel
theorem dX8_judge_122 : decode cX8_judge 122 = .ok (.aload_n 0, 1) := by decide +kernel
theorem dX8_judge_123 : decode cX8_judge 123 = .ok (.getfield 33, 3) := by decide +kernel
theorem dX8_judge_126 : decode cX8_judge 126 = .ok (.iload_n 2, 1) := by decide +kernel
theorem dX8_judge_127 : decode cX8_judge 127 = .ok (.iload 7, 2) := by decide +kernel
theorem dX8_judge_129 : decode cX8_judge 129 = .ok (.invokevirtual 93, 3) := by decide +kernel
theorem dX8_judge_132 : decode cX8_judge 132 = .ok (.l2i, 1) := by decide +kernel
theorem dX8_judge_133 : decode cX8_judge 133 = .ok (.invokevirtual 274, 3) := by decide +kernel
theorem dX8_judge_136 : decode cX8_judge 136 = .ok (.ladd, 1) := by decide +kernel
theorem dX8_judge_137 : decode cX8_judge 137 = .ok (.lstore 5, 2) := by decide +kernel
theorem dX8_judge_139 : decode cX8_judge 139 = .ok (.iinc 7 1, 3) := by decide +kernel
theorem dX8_judge_142 : decode cX8_judge 142 = .ok (.goto (-40), 3) := by decide +kernel
theorem dX8_judge_145 : decode cX8_judge 145 = .ok (.lload 5, 2) := by decide +kernel
theorem dX8_judge_147 : decode cX8_judge 147 = .ok (.ldc2_w 269, 3) := by decide +kernel
theorem dX8_judge_150 : decode cX8_judge 150 = .ok (.lmul, 1) := by decide +kernel
theorem dX8_judge_151 : decode cX8_judge 151 = .ok (.lload_n 3, 1) := by decide +kernel
theorem dX8_judge_152 : decode cX8_judge 152 = .ok (.ldiv, 1) := by decide +kernel
theorem dX8_judge_153 : decode cX8_judge 153 = .ok (.l2i, 1) := by decide +kernel
theorem dX8_judge_154 : decode cX8_judge 154 = .ok (.ireturn, 1) := by decide +kernel
theorem dX8_next_0 : decode cX8_next 0 = .ok (.iload_n 1, 1) := by decide +kernel
theorem dX8_next_1 : decode cX8_next 1 = .ok (.iconst 4, 1) := by decide +kernel
theorem dX8_next_2 : decode cX8_next 2 = .ok (.invokestatic 48, 3) := by decide +kernel
theorem dX8_next_5 : decode cX8_next 5 = .ok (.ifCond .ne 10, 3) := by decide +kernel
theorem dX8_next_8 : decode cX8_next 8 = .ok (.aload_n 0, 1) := by decide +kernel
theorem dX8_next_9 : decode cX8_next 9 = .ok (.ldc 52, 2) := by decide +kernel
theorem dX8_next_11 : decode cX8_next 11 = .ok (.invokevirtual 53, 3) := by decide +kernel
theorem dX8_next_14 : decode cX8_next 14 = .ok (.ireturn, 1) := by decide +kernel
theorem dX8_next_15 : decode cX8_next 15 = .ok (.aload_n 0, 1) := by decide +kernel
theorem dX8_next_16 : decode cX8_next 16 = .ok (.getfield 40, 3) := by decide +kernel
theorem dX8_next_19 : decode cX8_next 19 = .ok (.aload_n 0, 1) := by decide +kernel
theorem dX8_next_20 : decode cX8_next 20 = .ok (.getfield 12, 3) := by decide +kernel
theorem dX8_next_23 : decode cX8_next 23 = .ok (.iconst (-1), 1) := by decide +kernel
theorem dX8_next_24 : decode cX8_next 24 = .ok (.invokevirtual 211, 3) := by decide +kernel
theorem dX8_next_27 : decode cX8_next 27 = .ok (.aload_n 0, 1) := by decide +kernel
theorem dX8_next_28 : decode cX8_next 28 = .ok (.getfield 40, 3) := by decide +kernel
theorem dX8_next_31 : decode cX8_next 31 = .ok (.iload_n 1, 1) := by decide +kernel
theorem dX8_next_32 : decode cX8_next 32 = .ok (.invokevirtual 277, 3) := by decide +kernel
theorem dX8_next_35 : decode cX8_next 35 = .ok (.istore_n 2, 1) := by decide +kernel
theorem dX8_next_36 : decode cX8_next 36 = .ok (.iload_n 2, 1) := by decide +kernel
theorem dX8_next_37 : decode cX8_next 37 = .ok (.ifCond .ge 12, 3) := by decide +kernel
theorem dX8_next_40 : decode cX8_next 40 = .ok (.aload_n 0, 1) := by decide +kernel
theorem dX8_next_41 : decode cX8_next 41 = .ok (.ldc 174, 2) := by decide +kernel
theorem dX8_next_43 : decode cX8_next 43 = .ok (.invokevirtual 53, 3) := by decide +kernel
theorem dX8_next_46 : decode cX8_next 46 = .ok (.goto 4, 3) := by decide +kernel
theorem dX8_next_49 : decode cX8_next 49 = .ok (.iload_n 2, 1) := by decide +kernel
theorem dX8_next_50 : decode cX8_next 50 = .ok (.ireturn, 1) := by decide +kernel
theorem dX8_without_0 : decode cX8_without 0 = .ok (.iload_n 1, 1) := by decide +kernel
theorem dX8_without_1 : decode cX8_without 1 = .ok (.iconst 4, 1) := by decide +kernel
theorem dX8_without_2 : decode cX8_without 2 = .ok (.invokestatic 48, 3) := by decide +kernel
theorem dX8_without_5 : decode cX8_without 5 = .ok (.ifCond .eq 11, 3) := by decide +kernel
theorem dX8_without_8 : decode cX8_without 8 = .ok (.aload_n 0, 1) := by decide +kernel
theorem dX8_without_9 : decode cX8_without 9 = .ok (.iload_n 2, 1) := by decide +kernel
theorem dX8_without_10 : decode cX8_without 10 = .ok (.invokevirtual 142, 3) := by decide +kernel
theorem dX8_without_13 : decode cX8_without 13 = .ok (.ifCond .ne 10, 3) := by decide +kernel
theorem dX8_without_16 : decode cX8_without 16 = .ok (.aload_n 0, 1) := by decide +kernel
theorem dX8_without_17 : decode cX8_without 17 = .ok (.ldc 52, 2) := by decide +kernel
theorem dX8_without_19 : decode cX8_without 19 = .ok (.invokevirtual 53, 3) := by decide +kernel
theorem dX8_without_22 : decode cX8_without 22 = .ok (.ireturn, 1) := by decide +kernel
theorem dX8_without_23 : decode cX8_without 23 = .ok (.aload_n 0, 1) := by decide +kernel
theorem dX8_without_24 : decode cX8_without 24 = .ok (.getfield 40, 3) := by decide +kernel
theorem dX8_without_27 : decode cX8_without 27 = .ok (.aload_n 0, 1) := by decide +kernel
theorem dX8_without_28 : decode cX8_without 28 = .ok (.getfield 12, 3) := by decide +kernel
theorem dX8_without_31 : decode cX8_without 31 = .ok (.iload_n 2, 1) := by decide +kernel
theorem dX8_without_32 : decode cX8_without 32 = .ok (.invokevirtual 211, 3) := by decide +kernel
theorem dX8_without_35 : decode cX8_without 35 = .ok (.aload_n 0, 1) := by decide +kernel
theorem dX8_without_36 : decode cX8_without 36 = .ok (.getfield 40, 3) := by decide +kernel
theorem dX8_without_39 : decode cX8_without 39 = .ok (.aload_n 0, 1) := by decide +kernel
theorem dX8_without_40 : decode cX8_without 40 = .ok (.getfield 40, 3) := by decide +kernel
theorem dX8_without_43 : decode cX8_without 43 = .ok (.iload_n 1, 1) := by decide +kernel
theorem dX8_without_44 : decode cX8_without 44 = .ok (.invokevirtual 266, 3) := by decide +kernel
theorem dX8_without_47 : decode cX8_without 47 = .ok (.invokevirtual 228, 3) := by decide +kernel
theorem dX8_without_50 : decode cX8_without 50 = .ok (.ireturn, 1) := by decide +kernel
theorem dX8_note_0 : decode cX8_note 0 = .ok (.iload_n 1, 1) := by decide +kernel
theorem dX8_note_1 : decode cX8_note 1 = .ok (.i2l, 1) := by decide +kernel
theorem dX8_note_2 : decode cX8_note 2 = .ok (.invokestatic 221, 3) := by decide +kernel
theorem dX8_note_5 : decode cX8_note 5 = .ok (.ifCond .ne 10, 3) := by decide +kernel
theorem dX8_note_8 : decode cX8_note 8 = .ok (.aload_n 0, 1) := by decide +kernel
theorem dX8_note_9 : decode cX8_note 9 = .ok (.ldc 52, 2) := by decide +kernel
theorem dX8_note_11 : decode cX8_note 11 = .ok (.invokevirtual 53, 3) := by decide +kernel
theorem dX8_note_14 : decode cX8_note 14 = .ok (.ireturn, 1) := by decide +kernel
theorem dX8_note_15 : decode cX8_note 15 = .ok (.aload_n 0, 1) := by decide +kernel
theorem dX8_note_16 : decode cX8_note 16 = .ok (.getfield 12, 3) := by decide +kernel
theorem dX8_note_19 : decode cX8_note 19 = .ok (.getfield 280, 3) := by decide +kernel
theorem dX8_note_22 : decode cX8_note 22 = .ok (.getfield 284, 3) := by decide +kernel
theorem dX8_note_25 : decode cX8_note 25 = .ok (.bipush 20, 2) := by decide +kernel
theorem dX8_note_27 : decode cX8_note 27 = .ok (.if_icmp .lt 10, 3) := by decide +kernel
theorem dX8_note_30 : decode cX8_note 30 = .ok (.aload_n 0, 1) := by decide +kernel
theorem dX8_note_31 : decode cX8_note 31 = .ok (.ldc 70, 2) := by decide +kernel
theorem dX8_note_33 : decode cX8_note 33 = .ok (.invokevirtual 53, 3) := by decide +kernel
theorem dX8_note_36 : decode cX8_note 36 = .ok (.ireturn, 1) := by decide +kernel
theorem dX8_note_37 : decode cX8_note 37 = .ok (.aload_n 0, 1) := by decide +kernel
theorem dX8_note_38 : decode cX8_note 38 = .ok (.getfield 40, 3) := by decide +kernel
theorem dX8_note_41 : decode cX8_note 41 = .ok (.aload_n 0, 1) := by decide +kernel
theorem dX8_note_42 : decode cX8_note 42 = .ok (.getfield 12, 3) := by decide +kernel
theorem dX8_note_45 : decode cX8_note 45 = .ok (.iconst (-1), 1) := by decide +kernel
theorem dX8_note_46 : decode cX8_note 46 = .ok (.invokevirtual 211, 3) := by decide +kernel
theorem dX8_note_49 : decode cX8_note 49 = .ok (.aload_n 0, 1) := by decide +kernel
theorem dX8_note_50 : decode cX8_note 50 = .ok (.getfield 12, 3) := by decide +kernel
theorem dX8_note_53 : decode cX8_note 53 = .ok (.getfield 280, 3) := by decide +kernel
theorem dX8_note_56 : decode cX8_note 56 = .ok (.iload_n 1, 1) := by decide +kernel
theorem dX8_note_57 : decode cX8_note 57 = .ok (.aload_n 0, 1) := by decide +kernel
theorem dX8_note_58 : decode cX8_note 58 = .ok (.getfield 40, 3) := by decide +kernel
theorem dX8_note_61 : decode cX8_note 61 = .ok (.iload_n 1, 1) := by decide +kernel
theorem dX8_note_62 : decode cX8_note 62 = .ok (.invokevirtual 228, 3) := by decide +kernel
theorem dX8_note_65 : decode cX8_note 65 = .ok (.aload_n 0, 1) := by decide +kernel
theorem dX8_note_66 : decode cX8_note 66 = .ok (.getfield 12, 3) := by decide +kernel
theorem dX8_note_69 : decode cX8_note 69 = .ok (.getfield 57, 3) := by decide +kernel
theorem dX8_note_72 : decode cX8_note 72 = .ok (.getfield 120, 3) := by decide +kernel
theorem dX8_note_75 : decode cX8_note 75 = .ok (.invokevirtual 287, 3) := by decide +kernel
theorem dX8_note_78 : decode cX8_note 78 = .ok (.ireturn, 1) := by decide +kernel
theorem dX8_noted_0 : decode cX8_noted 0 = .ok (.iload_n 1, 1) := by decide +kernel
theorem dX8_noted_1 : decode cX8_noted 1 = .ok (.aload_n 0, 1) := by decide +kernel
theorem dX8_noted_2 : decode cX8_noted 2 = .ok (.getfield 12, 3) := by decide +kernel
theorem dX8_noted_5 : decode cX8_noted 5 = .ok (.getfield 280, 3) := by decide +kernel
theorem dX8_noted_8 : decode cX8_noted 8 = .ok (.getfield 284, 3) := by decide +kernel
theorem dX8_noted_11 : decode cX8_noted 11 = .ok (.invokestatic 48, 3) := by decide +kernel
theorem dX8_noted_14 : decode cX8_noted 14 = .ok (.ifCond .ne 10, 3) := by decide +kernel
theorem dX8_noted_17 : decode cX8_noted 17 = .ok (.aload_n 0, 1) := by decide +kernel
theorem dX8_noted_18 : decode cX8_noted 18 = .ok (.ldc 52, 2) := by decide +kernel
theorem dX8_noted_20 : decode cX8_noted 20 = .ok (.invokevirtual 53, 3) := by decide +kernel
theorem dX8_noted_23 : decode cX8_noted 23 = .ok (.ireturn, 1) := by decide +kernel
theorem dX8_noted_24 : decode cX8_noted 24 = .ok (.iload_n 2, 1) := by decide +kernel
theorem dX8_noted_25 : decode cX8_noted 25 = .ok (.tableswitch 102 0 3 #[31, 44, 57, 70], 31) := by decide +kernel
theorem dX8_noted_56 : decode cX8_noted 56 = .ok (.aload_n 0, 1) := by decide +kernel
theorem dX8_noted_57 : decode cX8_noted 57 = .ok (.getfield 12, 3) := by decide +kernel
theorem dX8_noted_60 : decode cX8_noted 60 = .ok (.getfield 280, 3) := by decide +kernel
theorem dX8_noted_63 : decode cX8_noted 63 = .ok (.getfield 290, 3) := by decide +kernel
theorem dX8_noted_66 : decode cX8_noted 66 = .ok (.iload_n 1, 1) := by decide +kernel
theorem dX8_noted_67 : decode cX8_noted 67 = .ok (.iaload, 1) := by decide +kernel
theorem dX8_noted_68 : decode cX8_noted 68 = .ok (.ireturn, 1) := by decide +kernel
theorem dX8_noted_69 : decode cX8_noted 69 = .ok (.aload_n 0, 1) := by decide +kernel
theorem dX8_noted_70 : decode cX8_noted 70 = .ok (.getfield 12, 3) := by decide +kernel
theorem dX8_noted_73 : decode cX8_noted 73 = .ok (.getfield 280, 3) := by decide +kernel
theorem dX8_noted_76 : decode cX8_noted 76 = .ok (.getfield 293, 3) := by decide +kernel
theorem dX8_noted_79 : decode cX8_noted 79 = .ok (.iload_n 1, 1) := by decide +kernel
theorem dX8_noted_80 : decode cX8_noted 80 = .ok (.iaload, 1) := by decide +kernel
theorem dX8_noted_81 : decode cX8_noted 81 = .ok (.ireturn, 1) := by decide +kernel
theorem dX8_noted_82 : decode cX8_noted 82 = .ok (.aload_n 0, 1) := by decide +kernel
theorem dX8_noted_83 : decode cX8_noted 83 = .ok (.getfield 12, 3) := by decide +kernel
theorem dX8_noted_86 : decode cX8_noted 86 = .ok (.getfield 280, 3) := by decide +kernel
theorem dX8_noted_89 : decode cX8_noted 89 = .ok (.getfield 296, 3) := by decide +kernel
theorem dX8_noted_92 : decode cX8_noted 92 = .ok (.iload_n 1, 1) := by decide +kernel
theorem dX8_noted_93 : decode cX8_noted 93 = .ok (.iaload, 1) := by decide +kernel
theorem dX8_noted_94 : decode cX8_noted 94 = .ok (.ireturn, 1) := by decide +kernel
theorem dX8_noted_95 : decode cX8_noted 95 = .ok (.aload_n 0, 1) := by decide +kernel
theorem dX8_noted_96 : decode cX8_noted 96 = .ok (.getfield 40, 3) := by decide +kernel
theorem dX8_noted_99 : decode cX8_noted 99 = .ok (.aload_n 0, 1) := by decide +kernel
theorem dX8_noted_100 : decode cX8_noted 100 = .ok (.getfield 12, 3) := by decide +kernel
theorem dX8_noted_103 : decode cX8_noted 103 = .ok (.iconst (-1), 1) := by decide +kernel
theorem dX8_noted_104 : decode cX8_noted 104 = .ok (.invokevirtual 211, 3) := by decide +kernel
theorem dX8_noted_107 : decode cX8_noted 107 = .ok (.aload_n 0, 1) := by decide +kernel
theorem dX8_noted_108 : decode cX8_noted 108 = .ok (.getfield 40, 3) := by decide +kernel
theorem dX8_noted_111 : decode cX8_noted 111 = .ok (.aload_n 0, 1) := by decide +kernel
theorem dX8_noted_112 : decode cX8_noted 112 = .ok (.getfield 12, 3) := by decide +kernel
theorem dX8_noted_115 : decode cX8_noted 115 = .ok (.getfield 280, 3) := by decide +kernel
theorem dX8_noted_118 : decode cX8_noted 118 = .ok (.getfield 290, 3) := by decide +kernel
theorem dX8_noted_121 : decode cX8_noted 121 = .ok (.iload_n 1, 1) := by decide +kernel
theorem dX8_noted_122 : decode cX8_noted 122 = .ok (.iaload, 1) := by decide +kernel
theorem dX8_noted_123 : decode cX8_noted 123 = .ok (.invokevirtual 228, 3) := by decide +kernel
theorem dX8_noted_126 : decode cX8_noted 126 = .ok (.ireturn, 1) := by decide +kernel
theorem dX8_noted_127 : decode cX8_noted 127 = .ok (.aload_n 0, 1) := by decide +kernel
theorem dX8_noted_128 : decode cX8_noted 128 = .ok (.ldc 52, 2) := by decide +kernel
theorem dX8_noted_130 : decode cX8_noted 130 = .ok (.invokevirtual 53, 3) := by decide +kernel
theorem dX8_noted_133 : decode cX8_noted 133 = .ok (.ireturn, 1) := by decide +kernel
theorem dX8_news_0 : decode cX8_news 0 = .ok (.aload_n 0, 1) := by decide +kernel
theorem dX8_news_1 : decode cX8_news 1 = .ok (.getfield 40, 3) := by decide +kernel
theorem dX8_news_4 : decode cX8_news 4 = .ok (.aload_n 0, 1) := by decide +kernel
theorem dX8_news_5 : decode cX8_news 5 = .ok (.getfield 12, 3) := by decide +kernel
theorem dX8_news_8 : decode cX8_news 8 = .ok (.iconst (-1), 1) := by decide +kernel
theorem dX8_news_9 : decode cX8_news 9 = .ok (.invokevirtual 211, 3) := by decide +kernel
theorem dX8_news_12 : decode cX8_news 12 = .ok (.iconst 0, 1) := by decide +kernel
theorem dX8_news_13 : decode cX8_news 13 = .ok (.istore_n 1, 1) := by decide +kernel
theorem dX8_news_14 : decode cX8_news 14 = .ok (.iconst 0, 1) := by decide +kernel
theorem dX8_news_15 : decode cX8_news 15 = .ok (.istore_n 2, 1) := by decide +kernel
theorem dX8_news_16 : decode cX8_news 16 = .ok (.iload_n 2, 1) := by decide +kernel
theorem dX8_news_17 : decode cX8_news 17 = .ok (.aload_n 0, 1) := by decide +kernel
theorem dX8_news_18 : decode cX8_news 18 = .ok (.getfield 12, 3) := by decide +kernel
theorem dX8_news_21 : decode cX8_news 21 = .ok (.getfield 280, 3) := by decide +kernel
theorem dX8_news_24 : decode cX8_news 24 = .ok (.getfield 284, 3) := by decide +kernel
theorem dX8_news_27 : decode cX8_news 27 = .ok (.if_icmp .ge 49, 3) := by decide +kernel
theorem dX8_news_30 : decode cX8_news 30 = .ok (.aload_n 0, 1) := by decide +kernel
theorem dX8_news_31 : decode cX8_news 31 = .ok (.getfield 40, 3) := by decide +kernel
theorem dX8_news_34 : decode cX8_news 34 = .ok (.aload_n 0, 1) := by decide +kernel
theorem dX8_news_35 : decode cX8_news 35 = .ok (.getfield 12, 3) := by decide +kernel
theorem dX8_news_38 : decode cX8_news 38 = .ok (.getfield 280, 3) := by decide +kernel
theorem dX8_news_41 : decode cX8_news 41 = .ok (.getfield 290, 3) := by decide +kernel
theorem dX8_news_44 : decode cX8_news 44 = .ok (.iload_n 2, 1) := by decide +kernel
theorem dX8_news_45 : decode cX8_news 45 = .ok (.iaload, 1) := by decide +kernel
theorem dX8_news_46 : decode cX8_news 46 = .ok (.invokevirtual 228, 3) := by decide +kernel
theorem dX8_news_49 : decode cX8_news 49 = .ok (.aload_n 0, 1) := by decide +kernel
theorem dX8_news_50 : decode cX8_news 50 = .ok (.getfield 12, 3) := by decide +kernel
theorem dX8_news_53 : decode cX8_news 53 = .ok (.getfield 280, 3) := by decide +kernel
theorem dX8_news_56 : decode cX8_news 56 = .ok (.getfield 293, 3) := by decide +kernel
theorem dX8_news_59 : decode cX8_news 59 = .ok (.iload_n 2, 1) := by decide +kernel
theorem dX8_news_60 : decode cX8_news 60 = .ok (.iaload, 1) := by decide +kernel
theorem dX8_news_61 : decode cX8_news 61 = .ok (.if_icmp .eq 9, 3) := by decide +kernel
theorem dX8_news_64 : decode cX8_news 64 = .ok (.iload_n 1, 1) := by decide +kernel
theorem dX8_news_65 : decode cX8_news 65 = .ok (.iconst 1, 1) := by decide +kernel
theorem dX8_news_66 : decode cX8_news 66 = .ok (.iload_n 2, 1) := by decide +kernel
theorem dX8_news_67 : decode cX8_news 67 = .ok (.ishl, 1) := by decide +kernel
theorem dX8_news_68 : decode cX8_news 68 = .ok (.ior, 1) := by decide +kernel
theorem dX8_news_69 : decode cX8_news 69 = .ok (.istore_n 1, 1) := by decide +kernel
theorem dX8_news_70 : decode cX8_news 70 = .ok (.iinc 2 1, 3) := by decide +kernel
theorem dX8_news_73 : decode cX8_news 73 = .ok (.goto (-57), 3) := by decide +kernel
theorem dX8_news_76 : decode cX8_news 76 = .ok (.iload_n 1, 1) := by decide +kernel
theorem dX8_news_77 : decode cX8_news 77 = .ok (.ireturn, 1) := by decide +kernel
theorem dX8_sheet_0 : decode cX8_sheet 0 = .ok (.iload_n 1, 1) := by decide +kernel
theorem dX8_sheet_1 : decode cX8_sheet 1 = .ok (.iconst 4, 1) := by decide +kernel
theorem dX8_sheet_2 : decode cX8_sheet 2 = .ok (.invokestatic 48, 3) := by decide +kernel
theorem dX8_sheet_5 : decode cX8_sheet 5 = .ok (.ifCond .eq 25, 3) := by decide +kernel
theorem dX8_sheet_8 : decode cX8_sheet 8 = .ok (.iload_n 2, 1) := by decide +kernel
theorem dX8_sheet_9 : decode cX8_sheet 9 = .ok (.ifCond .eq 28, 3) := by decide +kernel
theorem dX8_sheet_12 : decode cX8_sheet 12 = .ok (.iload_n 2, 1) := by decide +kernel
theorem dX8_sheet_13 : decode cX8_sheet 13 = .ok (.bipush 8, 2) := by decide +kernel
theorem dX8_sheet_15 : decode cX8_sheet 15 = .ok (.if_icmp .eq 22, 3) := by decide +kernel
theorem dX8_sheet_18 : decode cX8_sheet 18 = .ok (.iload_n 2, 1) := by decide +kernel
theorem dX8_sheet_19 : decode cX8_sheet 19 = .ok (.bipush 16, 2) := by decide +kernel
theorem dX8_sheet_21 : decode cX8_sheet 21 = .ok (.if_icmp .eq 16, 3) := by decide +kernel
theorem dX8_sheet_24 : decode cX8_sheet 24 = .ok (.iload_n 2, 1) := by decide +kernel
theorem dX8_sheet_25 : decode cX8_sheet 25 = .ok (.bipush 64, 2) := by decide +kernel
theorem dX8_sheet_27 : decode cX8_sheet 27 = .ok (.if_icmp .eq 10, 3) := by decide +kernel
theorem dX8_sheet_30 : decode cX8_sheet 30 = .ok (.aload_n 0, 1) := by decide +kernel
theorem dX8_sheet_31 : decode cX8_sheet 31 = .ok (.ldc 52, 2) := by decide +kernel
theorem dX8_sheet_33 : decode cX8_sheet 33 = .ok (.invokevirtual 53, 3) := by decide +kernel
theorem dX8_sheet_36 : decode cX8_sheet 36 = .ok (.ireturn, 1) := by decide +kernel
theorem dX8_sheet_37 : decode cX8_sheet 37 = .ok (.iload_n 3, 1) := by decide +kernel
theorem dX8_sheet_38 : decode cX8_sheet 38 = .ok (.ifCond .ge 10, 3) := by decide +kernel
theorem dX8_sheet_41 : decode cX8_sheet 41 = .ok (.aload_n 0, 1) := by decide +kernel
theorem dX8_sheet_42 : decode cX8_sheet 42 = .ok (.ldc 89, 2) := by decide +kernel
theorem dX8_sheet_44 : decode cX8_sheet 44 = .ok (.invokevirtual 53, 3) := by decide +kernel
theorem dX8_sheet_47 : decode cX8_sheet 47 = .ok (.ireturn, 1) := by decide +kernel
theorem dX8_sheet_48 : decode cX8_sheet 48 = .ok (.iload_n 3, 1) := by decide +kernel
theorem dX8_sheet_49 : decode cX8_sheet 49 = .ok (.bipush 40, 2) := by decide +kernel
theorem dX8_sheet_51 : decode cX8_sheet 51 = .ok (.if_icmp .le 10, 3) := by decide +kernel
theorem dX8_sheet_54 : decode cX8_sheet 54 = .ok (.aload_n 0, 1) := by decide +kernel
theorem dX8_sheet_55 : decode cX8_sheet 55 = .ok (.ldc 52, 2) := by decide +kernel
theorem dX8_sheet_57 : decode cX8_sheet 57 = .ok (.invokevirtual 53, 3) := by decide +kernel
theorem dX8_sheet_60 : decode cX8_sheet 60 = .ok (.ireturn, 1) := by decide +kernel
theorem dX8_sheet_61 : decode cX8_sheet 61 = .ok (.aload_n 0, 1) := by decide +kernel
theorem dX8_sheet_62 : decode cX8_sheet 62 = .ok (.getfield 33, 3) := by decide +kernel
theorem dX8_sheet_65 : decode cX8_sheet 65 = .ok (.iload_n 1, 1) := by decide +kernel
theorem dX8_sheet_66 : decode cX8_sheet 66 = .ok (.iload_n 2, 1) := by decide +kernel
theorem dX8_sheet_67 : decode cX8_sheet 67 = .ok (.iload_n 3, 1) := by decide +kernel
theorem dX8_sheet_68 : decode cX8_sheet 68 = .ok (.invokevirtual 299, 3) := by decide +kernel
theorem dX8_sheet_71 : decode cX8_sheet 71 = .ok (.ireturn, 1) := by decide +kernel
theorem dX8_write_0 : decode cX8_write 0 = .ok (.iload_n 1, 1) := by decide +kernel
theorem dX8_write_1 : decode cX8_write 1 = .ok (.iconst 4, 1) := by decide +kernel
theorem dX8_write_2 : decode cX8_write 2 = .ok (.invokestatic 48, 3) := by decide +kernel
theorem dX8_write_5 : decode cX8_write 5 = .ok (.ifCond .ne 11, 3) := by decide +kernel
theorem dX8_write_8 : decode cX8_write 8 = .ok (.aload_n 0, 1) := by decide +kernel
theorem dX8_write_9 : decode cX8_write 9 = .ok (.ldc 52, 2) := by decide +kernel
theorem dX8_write_11 : decode cX8_write 11 = .ok (.invokevirtual 53, 3) := by decide +kernel
theorem dX8_write_14 : decode cX8_write 14 = .ok (.i2l, 1) := by decide +kernel
theorem dX8_write_15 : decode cX8_write 15 = .ok (.lreturn, 1) := by decide +kernel
theorem dX8_write_16 : decode cX8_write 16 = .ok (.aload_n 0, 1) := by decide +kernel
theorem dX8_write_17 : decode cX8_write 17 = .ok (.getfield 33, 3) := by decide +kernel
theorem dX8_write_20 : decode cX8_write 20 = .ok (.iload_n 1, 1) := by decide +kernel
theorem dX8_write_21 : decode cX8_write 21 = .ok (.invokevirtual 82, 3) := by decide +kernel
theorem dX8_write_24 : decode cX8_write 24 = .ok (.ifCond .eq 11, 3) := by decide +kernel
theorem dX8_write_27 : decode cX8_write 27 = .ok (.aload_n 0, 1) := by decide +kernel
theorem dX8_write_28 : decode cX8_write 28 = .ok (.ldc 85, 2) := by decide +kernel
theorem dX8_write_30 : decode cX8_write 30 = .ok (.invokevirtual 53, 3) := by decide +kernel
theorem dX8_write_33 : decode cX8_write 33 = .ok (.i2l, 1) := by decide +kernel
theorem dX8_write_34 : decode cX8_write 34 = .ok (.lreturn, 1) := by decide +kernel
theorem dX8_write_35 : decode cX8_write 35 = .ok (.iload_n 2, 1) := by decide +kernel
theorem dX8_write_36 : decode cX8_write 36 = .ok (.aload_n 0, 1) := by decide +kernel
theorem dX8_write_37 : decode cX8_write 37 = .ok (.getfield 33, 3) := by decide +kernel
theorem dX8_write_40 : decode cX8_write 40 = .ok (.getfield 86, 3) := by decide +kernel
theorem dX8_write_43 : decode cX8_write 43 = .ok (.iload_n 1, 1) := by decide +kernel
theorem dX8_write_44 : decode cX8_write 44 = .ok (.iaload, 1) := by decide +kernel
theorem dX8_write_45 : decode cX8_write 45 = .ok (.invokestatic 48, 3) := by decide +kernel
theorem dX8_write_48 : decode cX8_write 48 = .ok (.ifCond .ne 11, 3) := by decide +kernel
theorem dX8_write_51 : decode cX8_write 51 = .ok (.aload_n 0, 1) := by decide +kernel
theorem dX8_write_52 : decode cX8_write 52 = .ok (.ldc 52, 2) := by decide +kernel
theorem dX8_write_54 : decode cX8_write 54 = .ok (.invokevirtual 53, 3) := by decide +kernel
theorem dX8_write_57 : decode cX8_write 57 = .ok (.i2l, 1) := by decide +kernel
theorem dX8_write_58 : decode cX8_write 58 = .ok (.lreturn, 1) := by decide +kernel
theorem dX8_write_59 : decode cX8_write 59 = .ok (.aload_n 0, 1) := by decide +kernel
theorem dX8_write_60 : decode cX8_write 60 = .ok (.getfield 33, 3) := by decide +kernel
theorem dX8_write_63 : decode cX8_write 63 = .ok (.iload_n 1, 1) := by decide +kernel
theorem dX8_write_64 : decode cX8_write 64 = .ok (.iload_n 2, 1) := by decide +kernel
theorem dX8_write_65 : decode cX8_write 65 = .ok (.lload_n 3, 1) := by decide +kernel
theorem dX8_write_66 : decode cX8_write 66 = .ok (.invokevirtual 302, 3) := by decide +kernel
theorem dX8_write_69 : decode cX8_write 69 = .ok (.lreturn, 1) := by decide +kernel
theorem dX8_copy_0 : decode cX8_copy 0 = .ok (.iload_n 1, 1) := by decide +kernel
theorem dX8_copy_1 : decode cX8_copy 1 = .ok (.iconst 4, 1) := by decide +kernel
theorem dX8_copy_2 : decode cX8_copy 2 = .ok (.invokestatic 48, 3) := by decide +kernel
theorem dX8_copy_5 : decode cX8_copy 5 = .ok (.ifCond .eq 11, 3) := by decide +kernel
theorem dX8_copy_8 : decode cX8_copy 8 = .ok (.iload_n 3, 1) := by decide +kernel
theorem dX8_copy_9 : decode cX8_copy 9 = .ok (.iconst 4, 1) := by decide +kernel
theorem dX8_copy_10 : decode cX8_copy 10 = .ok (.invokestatic 48, 3) := by decide +kernel
theorem dX8_copy_13 : decode cX8_copy 13 = .ok (.ifCond .ne 10, 3) := by decide +kernel
theorem dX8_copy_16 : decode cX8_copy 16 = .ok (.aload_n 0, 1) := by decide +kernel
theorem dX8_copy_17 : decode cX8_copy 17 = .ok (.ldc 52, 2) := by decide +kernel
theorem dX8_copy_19 : decode cX8_copy 19 = .ok (.invokevirtual 53, 3) := by decide +kernel
theorem dX8_copy_22 : decode cX8_copy 22 = .ok (.ireturn, 1) := by decide +kernel
theorem dX8_copy_23 : decode cX8_copy 23 = .ok (.aload_n 0, 1) := by decide +kernel
theorem dX8_copy_24 : decode cX8_copy 24 = .ok (.getfield 33, 3) := by decide +kernel
theorem dX8_copy_27 : decode cX8_copy 27 = .ok (.iload_n 1, 1) := by decide +kernel
theorem dX8_copy_28 : decode cX8_copy 28 = .ok (.invokevirtual 82, 3) := by decide +kernel
theorem dX8_copy_31 : decode cX8_copy 31 = .ok (.ifCond .ne 14, 3) := by decide +kernel
theorem dX8_copy_34 : decode cX8_copy 34 = .ok (.aload_n 0, 1) := by decide +kernel
theorem dX8_copy_35 : decode cX8_copy 35 = .ok (.getfield 33, 3) := by decide +kernel
theorem dX8_copy_38 : decode cX8_copy 38 = .ok (.iload_n 3, 1) := by decide +kernel
theorem dX8_copy_39 : decode cX8_copy 39 = .ok (.invokevirtual 82, 3) := by decide +kernel
theorem dX8_copy_42 : decode cX8_copy 42 = .ok (.ifCond .eq 10, 3) := by decide +kernel
theorem dX8_copy_45 : decode cX8_copy 45 = .ok (.aload_n 0, 1) := by decide +kernel
theorem dX8_copy_46 : decode cX8_copy 46 = .ok (.ldc 85, 2) := by decide +kernel
theorem dX8_copy_48 : decode cX8_copy 48 = .ok (.invokevirtual 53, 3) := by decide +kernel
theorem dX8_copy_51 : decode cX8_copy 51 = .ok (.ireturn, 1) := by decide +kernel
theorem dX8_copy_52 : decode cX8_copy 52 = .ok (.aload_n 0, 1) := by decide +kernel
theorem dX8_copy_53 : decode cX8_copy 53 = .ok (.getfield 33, 3) := by decide +kernel
theorem dX8_copy_56 : decode cX8_copy 56 = .ok (.getfield 306, 3) := by decide +kernel
theorem dX8_copy_59 : decode cX8_copy 59 = .ok (.iload_n 1, 1) := by decide +kernel
theorem dX8_copy_60 : decode cX8_copy 60 = .ok (.iaload, 1) := by decide +kernel
theorem dX8_copy_61 : decode cX8_copy 61 = .ok (.aload_n 0, 1) := by decide +kernel
theorem dX8_copy_62 : decode cX8_copy 62 = .ok (.getfield 33, 3) := by decide +kernel
theorem dX8_copy_65 : decode cX8_copy 65 = .ok (.getfield 306, 3) := by decide +kernel
theorem dX8_copy_68 : decode cX8_copy 68 = .ok (.iload_n 3, 1) := by decide +kernel
theorem dX8_copy_69 : decode cX8_copy 69 = .ok (.iaload, 1) := by decide +kernel
theorem dX8_copy_70 : decode cX8_copy 70 = .ok (.if_icmp .eq 10, 3) := by decide +kernel
theorem dX8_copy_73 : decode cX8_copy 73 = .ok (.aload_n 0, 1) := by decide +kernel
theorem dX8_copy_74 : decode cX8_copy 74 = .ok (.ldc 148, 2) := by decide +kernel
theorem dX8_copy_76 : decode cX8_copy 76 = .ok (.invokevirtual 53, 3) := by decide +kernel
theorem dX8_copy_79 : decode cX8_copy 79 = .ok (.ireturn, 1) := by decide +kernel
theorem dX8_copy_80 : decode cX8_copy 80 = .ok (.aload_n 0, 1) := by decide +kernel
theorem dX8_copy_81 : decode cX8_copy 81 = .ok (.getfield 33, 3) := by decide +kernel
theorem dX8_copy_84 : decode cX8_copy 84 = .ok (.iload_n 1, 1) := by decide +kernel
theorem dX8_copy_85 : decode cX8_copy 85 = .ok (.iload_n 2, 1) := by decide +kernel
theorem dX8_copy_86 : decode cX8_copy 86 = .ok (.iload 5, 2) := by decide +kernel
theorem dX8_copy_88 : decode cX8_copy 88 = .ok (.invokevirtual 309, 3) := by decide +kernel
theorem dX8_copy_91 : decode cX8_copy 91 = .ok (.ifCond .eq 18, 3) := by decide +kernel
theorem dX8_copy_94 : decode cX8_copy 94 = .ok (.aload_n 0, 1) := by decide +kernel
theorem dX8_copy_95 : decode cX8_copy 95 = .ok (.getfield 33, 3) := by decide +kernel
theorem dX8_copy_98 : decode cX8_copy 98 = .ok (.iload_n 3, 1) := by decide +kernel
theorem dX8_copy_99 : decode cX8_copy 99 = .ok (.iload 4, 2) := by decide +kernel
theorem dX8_copy_101 : decode cX8_copy 101 = .ok (.iload 5, 2) := by decide +kernel
theorem dX8_copy_103 : decode cX8_copy 103 = .ok (.invokevirtual 309, 3) := by decide +kernel
theorem dX8_copy_106 : decode cX8_copy 106 = .ok (.ifCond .ne 10, 3) := by decide +kernel
theorem dX8_copy_109 : decode cX8_copy 109 = .ok (.aload_n 0, 1) := by decide +kernel
theorem dX8_copy_110 : decode cX8_copy 110 = .ok (.ldc 52, 2) := by decide +kernel
theorem dX8_copy_112 : decode cX8_copy 112 = .ok (.invokevirtual 53, 3) := by decide +kernel
theorem dX8_copy_115 : decode cX8_copy 115 = .ok (.ireturn, 1) := by decide +kernel
theorem dX8_copy_116 : decode cX8_copy 116 = .ok (.aload_n 0, 1) := by decide +kernel
theorem dX8_copy_117 : decode cX8_copy 117 = .ok (.getfield 33, 3) := by decide +kernel
theorem dX8_copy_120 : decode cX8_copy 120 = .ok (.iload_n 1, 1) := by decide +kernel
theorem dX8_copy_121 : decode cX8_copy 121 = .ok (.iload_n 2, 1) := by decide +kernel
theorem dX8_copy_122 : decode cX8_copy 122 = .ok (.iload_n 3, 1) := by decide +kernel
theorem dX8_copy_123 : decode cX8_copy 123 = .ok (.iload 4, 2) := by decide +kernel
theorem dX8_copy_125 : decode cX8_copy 125 = .ok (.iload 5, 2) := by decide +kernel
theorem dX8_copy_127 : decode cX8_copy 127 = .ok (.invokevirtual 313, 3) := by decide +kernel
theorem dX8_copy_130 : decode cX8_copy 130 = .ok (.iload 5, 2) := by decide +kernel
theorem dX8_copy_132 : decode cX8_copy 132 = .ok (.ireturn, 1) := by decide +kernel
theorem dX8_image_0 : decode cX8_image 0 = .ok (.aload_n 0, 1) := by decide +kernel
theorem dX8_image_1 : decode cX8_image 1 = .ok (.getfield 16, 3) := by decide +kernel
theorem dX8_image_4 : decode cX8_image 4 = .ok (.aload_n 0, 1) := by decide +kernel
theorem dX8_image_5 : decode cX8_image 5 = .ok (.getfield 12, 3) := by decide +kernel
theorem dX8_image_8 : decode cX8_image 8 = .ok (.invokevirtual 317, 3) := by decide +kernel
theorem dX8_image_11 : decode cX8_image 11 = .ok (.aload_n 0, 1) := by decide +kernel
theorem dX8_image_12 : decode cX8_image 12 = .ok (.iconst 1, 1) := by decide +kernel
theorem dX8_image_13 : decode cX8_image 13 = .ok (.putfield 19, 3) := by decide +kernel
theorem dX8_image_16 : decode cX8_image 16 = .ok (.iconst 1, 1) := by decide +kernel
theorem dX8_image_17 : decode cX8_image 17 = .ok (.ireturn, 1) := by decide +kernel
theorem dX8_undo_0 : decode cX8_undo 0 = .ok (.aload_n 0, 1) := by decide +kernel
theorem dX8_undo_1 : decode cX8_undo 1 = .ok (.getfield 19, 3) := by decide +kernel
theorem dX8_undo_4 : decode cX8_undo 4 = .ok (.ifCond .ne 10, 3) := by decide +kernel
theorem dX8_undo_7 : decode cX8_undo 7 = .ok (.aload_n 0, 1) := by decide +kernel
theorem dX8_undo_8 : decode cX8_undo 8 = .ok (.ldc 174, 2) := by decide +kernel
theorem dX8_undo_10 : decode cX8_undo 10 = .ok (.invokevirtual 53, 3) := by decide +kernel
theorem dX8_undo_13 : decode cX8_undo 13 = .ok (.ireturn, 1) := by decide +kernel
theorem dX8_undo_14 : decode cX8_undo 14 = .ok (.aload_n 0, 1) := by decide +kernel
theorem dX8_undo_15 : decode cX8_undo 15 = .ok (.getfield 12, 3) := by decide +kernel
theorem dX8_undo_18 : decode cX8_undo 18 = .ok (.aload_n 0, 1) := by decide +kernel
theorem dX8_undo_19 : decode cX8_undo 19 = .ok (.getfield 16, 3) := by decide +kernel
theorem dX8_undo_22 : decode cX8_undo 22 = .ok (.invokevirtual 317, 3) := by decide +kernel
theorem dX8_undo_25 : decode cX8_undo 25 = .ok (.aload_n 0, 1) := by decide +kernel
theorem dX8_undo_26 : decode cX8_undo 26 = .ok (.getfield 12, 3) := by decide +kernel
theorem dX8_undo_29 : decode cX8_undo 29 = .ok (.getfield 57, 3) := by decide +kernel
theorem dX8_undo_32 : decode cX8_undo 32 = .ok (.getfield 120, 3) := by decide +kernel
theorem dX8_undo_35 : decode cX8_undo 35 = .ok (.ireturn, 1) := by decide +kernel
theorem dX8_tear_0 : decode cX8_tear 0 = .ok (.aload_n 0, 1) := by decide +kernel
theorem dX8_tear_1 : decode cX8_tear 1 = .ok (.getfield 19, 3) := by decide +kernel
theorem dX8_tear_4 : decode cX8_tear 4 = .ok (.ifCond .eq 7, 3) := by decide +kernel
theorem dX8_tear_7 : decode cX8_tear 7 = .ok (.iconst 1, 1) := by decide +kernel
theorem dX8_tear_8 : decode cX8_tear 8 = .ok (.goto 4, 3) := by decide +kernel
theorem dX8_tear_11 : decode cX8_tear 11 = .ok (.iconst 0, 1) := by decide +kernel
theorem dX8_tear_12 : decode cX8_tear 12 = .ok (.istore_n 1, 1) := by decide +kernel
theorem dX8_tear_13 : decode cX8_tear 13 = .ok (.aload_n 0, 1) := by decide +kernel
theorem dX8_tear_14 : decode cX8_tear 14 = .ok (.iconst 0, 1) := by decide +kernel
theorem dX8_tear_15 : decode cX8_tear 15 = .ok (.putfield 19, 3) := by decide +kernel
theorem dX8_tear_18 : decode cX8_tear 18 = .ok (.iload_n 1, 1) := by decide +kernel
theorem dX8_tear_19 : decode cX8_tear 19 = .ok (.ireturn, 1) := by decide +kernel
theorem dX8_look_0 : decode cX8_look 0 = .ok (.iload_n 1, 1) := by decide +kernel
theorem dX8_look_1 : decode cX8_look 1 = .ok (.tableswitch 136 0 7 #[47, 58, 69, 81, 95, 106, 117, 128], 47) := by decide +kernel
theorem dX8_look_48 : decode cX8_look 48 = .ok (.aload_n 0, 1) := by decide +kernel
theorem dX8_look_49 : decode cX8_look 49 = .ok (.getfield 12, 3) := by decide +kernel
theorem dX8_look_52 : decode cX8_look 52 = .ok (.getfield 57, 3) := by decide +kernel
theorem dX8_look_55 : decode cX8_look 55 = .ok (.getfield 66, 3) := by decide +kernel
theorem dX8_look_58 : decode cX8_look 58 = .ok (.ireturn, 1) := by decide +kernel
theorem dX8_look_59 : decode cX8_look 59 = .ok (.aload_n 0, 1) := by decide +kernel
theorem dX8_look_60 : decode cX8_look 60 = .ok (.getfield 12, 3) := by decide +kernel
theorem dX8_look_63 : decode cX8_look 63 = .ok (.getfield 100, 3) := by decide +kernel
theorem dX8_look_66 : decode cX8_look 66 = .ok (.getfield 135, 3) := by decide +kernel
theorem dX8_look_69 : decode cX8_look 69 = .ok (.ireturn, 1) := by decide +kernel
theorem dX8_look_70 : decode cX8_look 70 = .ok (.aload_n 0, 1) := by decide +kernel
theorem dX8_look_71 : decode cX8_look 71 = .ok (.getfield 12, 3) := by decide +kernel
theorem dX8_look_74 : decode cX8_look 74 = .ok (.iconst (-1), 1) := by decide +kernel
theorem dX8_look_75 : decode cX8_look 75 = .ok (.invokevirtual 114, 3) := by decide +kernel
theorem dX8_look_78 : decode cX8_look 78 = .ok (.invokestatic 321, 3) := by decide +kernel
theorem dX8_look_81 : decode cX8_look 81 = .ok (.ireturn, 1) := by decide +kernel
theorem dX8_look_82 : decode cX8_look 82 = .ok (.aload_n 0, 1) := by decide +kernel
theorem dX8_look_83 : decode cX8_look 83 = .ok (.getfield 12, 3) := by decide +kernel
theorem dX8_look_86 : decode cX8_look 86 = .ok (.getfield 100, 3) := by decide +kernel
theorem dX8_look_89 : decode cX8_look 89 = .ok (.getfield 155, 3) := by decide +kernel
theorem dX8_look_92 : decode cX8_look 92 = .ok (.invokestatic 321, 3) := by decide +kernel
theorem dX8_look_95 : decode cX8_look 95 = .ok (.ireturn, 1) := by decide +kernel
theorem dX8_look_96 : decode cX8_look 96 = .ok (.aload_n 0, 1) := by decide +kernel
theorem dX8_look_97 : decode cX8_look 97 = .ok (.getfield 12, 3) := by decide +kernel
theorem dX8_look_100 : decode cX8_look 100 = .ok (.getfield 188, 3) := by decide +kernel
theorem dX8_look_103 : decode cX8_look 103 = .ok (.getfield 192, 3) := by decide +kernel
theorem dX8_look_106 : decode cX8_look 106 = .ok (.ireturn, 1) := by decide +kernel
theorem dX8_look_107 : decode cX8_look 107 = .ok (.aload_n 0, 1) := by decide +kernel
theorem dX8_look_108 : decode cX8_look 108 = .ok (.getfield 12, 3) := by decide +kernel
theorem dX8_look_111 : decode cX8_look 111 = .ok (.getfield 280, 3) := by decide +kernel
theorem dX8_look_114 : decode cX8_look 114 = .ok (.getfield 284, 3) := by decide +kernel
theorem dX8_look_117 : decode cX8_look 117 = .ok (.ireturn, 1) := by decide +kernel
theorem dX8_look_118 : decode cX8_look 118 = .ok (.aload_n 0, 1) := by decide +kernel
theorem dX8_look_119 : decode cX8_look 119 = .ok (.getfield 12, 3) := by decide +kernel
theorem dX8_look_122 : decode cX8_look 122 = .ok (.getfield 57, 3) := by decide +kernel
theorem dX8_look_125 : decode cX8_look 125 = .ok (.getfield 120, 3) := by decide +kernel
theorem dX8_look_128 : decode cX8_look 128 = .ok (.ireturn, 1) := by decide +kernel
theorem dX8_look_129 : decode cX8_look 129 = .ok (.aload_n 0, 1) := by decide +kernel
theorem dX8_look_130 : decode cX8_look 130 = .ok (.getfield 26, 3) := by decide +kernel
theorem dX8_look_133 : decode cX8_look 133 = .ok (.getfield 181, 3) := by decide +kernel
theorem dX8_look_136 : decode cX8_look 136 = .ok (.ireturn, 1) := by decide +kernel
theorem dX8_look_137 : decode cX8_look 137 = .ok (.aload_n 0, 1) := by decide +kernel
theorem dX8_look_138 : decode cX8_look 138 = .ok (.ldc 52, 2) := by decide +kernel
theorem dX8_look_140 : decode cX8_look 140 = .ok (.invokevirtual 53, 3) := by decide +kernel
theorem dX8_look_143 : decode cX8_look 143 = .ok (.ireturn, 1) := by decide +kernel
theorem dX8_status_0 : decode cX8_status 0 = .ok (.iload_n 1, 1) := by decide +kernel
theorem dX8_status_1 : decode cX8_status 1 = .ok (.iconst (-1), 1) := by decide +kernel
theorem dX8_status_2 : decode cX8_status 2 = .ok (.if_icmp .ne 30, 3) := by decide +kernel
theorem dX8_status_5 : decode cX8_status 5 = .ok (.iconst 0, 1) := by decide +kernel
theorem dX8_status_6 : decode cX8_status 6 = .ok (.istore_n 2, 1) := by decide +kernel
theorem dX8_status_7 : decode cX8_status 7 = .ok (.iconst 0, 1) := by decide +kernel
theorem dX8_status_8 : decode cX8_status 8 = .ok (.istore_n 3, 1) := by decide +kernel
theorem dX8_status_9 : decode cX8_status 9 = .ok (.iload_n 3, 1) := by decide +kernel
theorem dX8_status_10 : decode cX8_status 10 = .ok (.bipush 7, 2) := by decide +kernel
theorem dX8_status_12 : decode cX8_status 12 = .ok (.if_icmp .ge 18, 3) := by decide +kernel
theorem dX8_status_15 : decode cX8_status 15 = .ok (.iload_n 2, 1) := by decide +kernel
theorem dX8_status_16 : decode cX8_status 16 = .ok (.aload_n 0, 1) := by decide +kernel
theorem dX8_status_17 : decode cX8_status 17 = .ok (.getfield 44, 3) := by decide +kernel
theorem dX8_status_20 : decode cX8_status 20 = .ok (.iload_n 3, 1) := by decide +kernel
theorem dX8_status_21 : decode cX8_status 21 = .ok (.iaload, 1) := by decide +kernel
theorem dX8_status_22 : decode cX8_status 22 = .ok (.iadd, 1) := by decide +kernel
theorem dX8_status_23 : decode cX8_status 23 = .ok (.istore_n 2, 1) := by decide +kernel
theorem dX8_status_24 : decode cX8_status 24 = .ok (.iinc 3 1, 3) := by decide +kernel
theorem dX8_status_27 : decode cX8_status 27 = .ok (.goto (-18), 3) := by decide +kernel
theorem dX8_status_30 : decode cX8_status 30 = .ok (.iload_n 2, 1) := by decide +kernel
theorem dX8_status_31 : decode cX8_status 31 = .ok (.ireturn, 1) := by decide +kernel
theorem dX8_status_32 : decode cX8_status 32 = .ok (.iload_n 1, 1) := by decide +kernel
theorem dX8_status_33 : decode cX8_status 33 = .ok (.bipush 7, 2) := by decide +kernel
theorem dX8_status_35 : decode cX8_status 35 = .ok (.invokestatic 48, 3) := by decide +kernel
theorem dX8_status_38 : decode cX8_status 38 = .ok (.ifCond .eq 12, 3) := by decide +kernel
theorem dX8_status_41 : decode cX8_status 41 = .ok (.aload_n 0, 1) := by decide +kernel
theorem dX8_status_42 : decode cX8_status 42 = .ok (.getfield 44, 3) := by decide +kernel
theorem dX8_status_45 : decode cX8_status 45 = .ok (.iload_n 1, 1) := by decide +kernel
theorem dX8_status_46 : decode cX8_status 46 = .ok (.iaload, 1) := by decide +kernel
theorem dX8_status_47 : decode cX8_status 47 = .ok (.goto 9, 3) := by decide +kernel
theorem dX8_status_50 : decode cX8_status 50 = .ok (.aload_n 0, 1) := by decide +kernel
theorem dX8_status_51 : decode cX8_status 51 = .ok (.ldc 52, 2) := by decide +kernel
theorem dX8_status_53 : decode cX8_status 53 = .ok (.invokevirtual 53, 3) := by decide +kernel
theorem dX8_status_56 : decode cX8_status 56 = .ok (.ireturn, 1) := by decide +kernel
theorem dX8_finding_0 : decode cX8_finding 0 = .ok (.ldc 52, 2) := by decide +kernel
theorem dX8_finding_2 : decode cX8_finding 2 = .ok (.iload_n 1, 1) := by decide +kernel
theorem dX8_finding_3 : decode cX8_finding 3 = .ok (.isub, 1) := by decide +kernel
theorem dX8_finding_4 : decode cX8_finding 4 = .ok (.istore_n 2, 1) := by decide +kernel
theorem dX8_finding_5 : decode cX8_finding 5 = .ok (.iload_n 2, 1) := by decide +kernel
theorem dX8_finding_6 : decode cX8_finding 6 = .ok (.bipush 7, 2) := by decide +kernel
theorem dX8_finding_8 : decode cX8_finding 8 = .ok (.invokestatic 48, 3) := by decide +kernel
theorem dX8_finding_11 : decode cX8_finding 11 = .ok (.ifCond .eq 13, 3) := by decide +kernel
theorem dX8_finding_14 : decode cX8_finding 14 = .ok (.aload_n 0, 1) := by decide +kernel
theorem dX8_finding_15 : decode cX8_finding 15 = .ok (.getfield 44, 3) := by decide +kernel
theorem dX8_finding_18 : decode cX8_finding 18 = .ok (.iload_n 2, 1) := by decide +kernel
theorem dX8_finding_19 : decode cX8_finding 19 = .ok (.dup2, 1) := by decide +kernel
theorem dX8_finding_20 : decode cX8_finding 20 = .ok (.iaload, 1) := by decide +kernel
theorem dX8_finding_21 : decode cX8_finding 21 = .ok (.iconst 1, 1) := by decide +kernel
theorem dX8_finding_22 : decode cX8_finding 22 = .ok (.iadd, 1) := by decide +kernel
theorem dX8_finding_23 : decode cX8_finding 23 = .ok (.iastore, 1) := by decide +kernel
theorem dX8_finding_24 : decode cX8_finding 24 = .ok (.iload_n 1, 1) := by decide +kernel
theorem dX8_finding_25 : decode cX8_finding 25 = .ok (.ireturn, 1) := by decide +kernel
theorem dX8_isBelow_0 : decode cX8_isBelow 0 = .ok (.iload_n 0, 1) := by decide +kernel
theorem dX8_isBelow_1 : decode cX8_isBelow 1 = .ok (.ifCond .lt 12, 3) := by decide +kernel
theorem dX8_isBelow_4 : decode cX8_isBelow 4 = .ok (.iload_n 0, 1) := by decide +kernel
theorem dX8_isBelow_5 : decode cX8_isBelow 5 = .ok (.iload_n 1, 1) := by decide +kernel
theorem dX8_isBelow_6 : decode cX8_isBelow 6 = .ok (.if_icmp .ge 7, 3) := by decide +kernel
theorem dX8_isBelow_9 : decode cX8_isBelow 9 = .ok (.iconst 1, 1) := by decide +kernel
theorem dX8_isBelow_10 : decode cX8_isBelow 10 = .ok (.goto 4, 3) := by decide +kernel
theorem dX8_isBelow_13 : decode cX8_isBelow 13 = .ok (.iconst 0, 1) := by decide +kernel
theorem dX8_isBelow_14 : decode cX8_isBelow 14 = .ok (.ireturn, 1) := by decide +kernel
theorem dX8_isTown_0 : decode cX8_isTown 0 = .ok (.iload_n 1, 1) := by decide +kernel
theorem dX8_isTown_1 : decode cX8_isTown 1 = .ok (.aload_n 0, 1) := by decide +kernel
theorem dX8_isTown_2 : decode cX8_isTown 2 = .ok (.getfield 12, 3) := by decide +kernel
theorem dX8_isTown_5 : decode cX8_isTown 5 = .ok (.getfield 57, 3) := by decide +kernel
theorem dX8_isTown_8 : decode cX8_isTown 8 = .ok (.getfield 66, 3) := by decide +kernel
theorem dX8_isTown_11 : decode cX8_isTown 11 = .ok (.invokestatic 48, 3) := by decide +kernel
theorem dX8_isTown_14 : decode cX8_isTown 14 = .ok (.ireturn, 1) := by decide +kernel
theorem dX8_isLetter_0 : decode cX8_isLetter 0 = .ok (.iload_n 1, 1) := by decide +kernel
theorem dX8_isLetter_1 : decode cX8_isLetter 1 = .ok (.aload_n 0, 1) := by decide +kernel
theorem dX8_isLetter_2 : decode cX8_isLetter 2 = .ok (.getfield 12, 3) := by decide +kernel
theorem dX8_isLetter_5 : decode cX8_isLetter 5 = .ok (.getfield 100, 3) := by decide +kernel
theorem dX8_isLetter_8 : decode cX8_isLetter 8 = .ok (.getfield 135, 3) := by decide +kernel
theorem dX8_isLetter_11 : decode cX8_isLetter 11 = .ok (.invokestatic 48, 3) := by decide +kernel
theorem dX8_isLetter_14 : decode cX8_isLetter 14 = .ok (.ireturn, 1) := by decide +kernel
theorem dX8_isAbout_0 : decode cX8_isAbout 0 = .ok (.iload_n 1, 1) := by decide +kernel
theorem dX8_isAbout_1 : decode cX8_isAbout 1 = .ok (.ifCond .lt 27, 3) := by decide +kernel
theorem dX8_isAbout_4 : decode cX8_isAbout 4 = .ok (.aload_n 0, 1) := by decide +kernel
theorem dX8_isAbout_5 : decode cX8_isAbout 5 = .ok (.iload_n 1, 1) := by decide +kernel
theorem dX8_isAbout_6 : decode cX8_isAbout 6 = .ok (.bipush 100, 2) := by decide +kernel
theorem dX8_isAbout_8 : decode cX8_isAbout 8 = .ok (.idiv, 1) := by decide +kernel
theorem dX8_isAbout_9 : decode cX8_isAbout 9 = .ok (.invokevirtual 74, 3) := by decide +kernel
theorem dX8_isAbout_12 : decode cX8_isAbout 12 = .ok (.ifCond .eq 16, 3) := by decide +kernel
theorem dX8_isAbout_15 : decode cX8_isAbout 15 = .ok (.iload_n 1, 1) := by decide +kernel
theorem dX8_isAbout_16 : decode cX8_isAbout 16 = .ok (.bipush 100, 2) := by decide +kernel
theorem dX8_isAbout_18 : decode cX8_isAbout 18 = .ok (.irem, 1) := by decide +kernel
theorem dX8_isAbout_19 : decode cX8_isAbout 19 = .ok (.bipush 16, 2) := by decide +kernel
theorem dX8_isAbout_21 : decode cX8_isAbout 21 = .ok (.if_icmp .ge 7, 3) := by decide +kernel
theorem dX8_isAbout_24 : decode cX8_isAbout 24 = .ok (.iconst 1, 1) := by decide +kernel
theorem dX8_isAbout_25 : decode cX8_isAbout 25 = .ok (.goto 4, 3) := by decide +kernel
theorem dX8_isAbout_28 : decode cX8_isAbout 28 = .ok (.iconst 0, 1) := by decide +kernel
theorem dX8_isAbout_29 : decode cX8_isAbout 29 = .ok (.ireturn, 1) := by decide +kernel
theorem dX8_isWhen_0 : decode cX8_isWhen 0 = .ok (.iload_n 0, 1) := by decide +kernel
theorem dX8_isWhen_1 : decode cX8_isWhen 1 = .ok (.ifCond .lt 25, 3) := by decide +kernel
theorem dX8_isWhen_4 : decode cX8_isWhen 4 = .ok (.iload_n 0, 1) := by decide +kernel
theorem dX8_isWhen_5 : decode cX8_isWhen 5 = .ok (.bipush 10, 2) := by decide +kernel
theorem dX8_isWhen_7 : decode cX8_isWhen 7 = .ok (.idiv, 1) := by decide +kernel
theorem dX8_isWhen_8 : decode cX8_isWhen 8 = .ok (.sipush 999, 3) := by decide +kernel
theorem dX8_isWhen_11 : decode cX8_isWhen 11 = .ok (.if_icmp .gt 15, 3) := by decide +kernel
theorem dX8_isWhen_14 : decode cX8_isWhen 14 = .ok (.iload_n 0, 1) := by decide +kernel
theorem dX8_isWhen_15 : decode cX8_isWhen 15 = .ok (.bipush 10, 2) := by decide +kernel
theorem dX8_isWhen_17 : decode cX8_isWhen 17 = .ok (.irem, 1) := by decide +kernel
theorem dX8_isWhen_18 : decode cX8_isWhen 18 = .ok (.iconst 4, 1) := by decide +kernel
theorem dX8_isWhen_19 : decode cX8_isWhen 19 = .ok (.if_icmp .gt 7, 3) := by decide +kernel
theorem dX8_isWhen_22 : decode cX8_isWhen 22 = .ok (.iconst 1, 1) := by decide +kernel
theorem dX8_isWhen_23 : decode cX8_isWhen 23 = .ok (.goto 4, 3) := by decide +kernel
theorem dX8_isWhen_26 : decode cX8_isWhen 26 = .ok (.iconst 0, 1) := by decide +kernel
theorem dX8_isWhen_27 : decode cX8_isWhen 27 = .ok (.ireturn, 1) := by decide +kernel
theorem dX8_isFrom_0 : decode cX8_isFrom 0 = .ok (.iload_n 1, 1) := by decide +kernel
theorem dX8_isFrom_1 : decode cX8_isFrom 1 = .ok (.iconst 3, 1) := by decide +kernel
theorem dX8_isFrom_2 : decode cX8_isFrom 2 = .ok (.if_icmp .ne 9, 3) := by decide +kernel
theorem dX8_isFrom_5 : decode cX8_isFrom 5 = .ok (.aload_n 0, 1) := by decide +kernel
theorem dX8_isFrom_6 : decode cX8_isFrom 6 = .ok (.iload_n 2, 1) := by decide +kernel
theorem dX8_isFrom_7 : decode cX8_isFrom 7 = .ok (.invokevirtual 142, 3) := by decide +kernel
theorem dX8_isFrom_10 : decode cX8_isFrom 10 = .ok (.ireturn, 1) := by decide +kernel
theorem dX8_isFrom_11 : decode cX8_isFrom 11 = .ok (.iload_n 2, 1) := by decide +kernel
theorem dX8_isFrom_12 : decode cX8_isFrom 12 = .ok (.iconst (-1), 1) := by decide +kernel
theorem dX8_isFrom_13 : decode cX8_isFrom 13 = .ok (.if_icmp .eq 16, 3) := by decide +kernel
theorem dX8_isFrom_16 : decode cX8_isFrom 16 = .ok (.iload_n 1, 1) := by decide +kernel
theorem dX8_isFrom_17 : decode cX8_isFrom 17 = .ok (.iconst 2, 1) := by decide +kernel
theorem dX8_isFrom_18 : decode cX8_isFrom 18 = .ok (.if_icmp .ne 15, 3) := by decide +kernel
theorem dX8_isFrom_21 : decode cX8_isFrom 21 = .ok (.aload_n 0, 1) := by decide +kernel
theorem dX8_isFrom_22 : decode cX8_isFrom 22 = .ok (.iload_n 2, 1) := by decide +kernel
theorem dX8_isFrom_23 : decode cX8_isFrom 23 = .ok (.invokevirtual 142, 3) := by decide +kernel
theorem dX8_isFrom_26 : decode cX8_isFrom 26 = .ok (.ifCond .eq 7, 3) := by decide +kernel
theorem dX8_isFrom_29 : decode cX8_isFrom 29 = .ok (.iconst 1, 1) := by decide +kernel
theorem dX8_isFrom_30 : decode cX8_isFrom 30 = .ok (.goto 4, 3) := by decide +kernel
theorem dX8_isFrom_33 : decode cX8_isFrom 33 = .ok (.iconst 0, 1) := by decide +kernel
theorem dX8_isFrom_34 : decode cX8_isFrom 34 = .ok (.ireturn, 1) := by decide +kernel
theorem dX8_isLate_0 : decode cX8_isLate 0 = .ok (.iload_n 1, 1) := by decide +kernel
theorem dX8_isLate_1 : decode cX8_isLate 1 = .ok (.ifCond .lt 33, 3) := by decide +kernel
theorem dX8_isLate_4 : decode cX8_isLate 4 = .ok (.iload_n 1, 1) := by decide +kernel
theorem dX8_isLate_5 : decode cX8_isLate 5 = .ok (.bipush 10, 2) := by decide +kernel
theorem dX8_isLate_7 : decode cX8_isLate 7 = .ok (.idiv, 1) := by decide +kernel
theorem dX8_isLate_8 : decode cX8_isLate 8 = .ok (.bipush 99, 2) := by decide +kernel
theorem dX8_isLate_10 : decode cX8_isLate 10 = .ok (.if_icmp .gt 24, 3) := by decide +kernel
theorem dX8_isLate_13 : decode cX8_isLate 13 = .ok (.iload_n 1, 1) := by decide +kernel
theorem dX8_isLate_14 : decode cX8_isLate 14 = .ok (.bipush 10, 2) := by decide +kernel
theorem dX8_isLate_16 : decode cX8_isLate 16 = .ok (.irem, 1) := by decide +kernel
theorem dX8_isLate_17 : decode cX8_isLate 17 = .ok (.iload_n 0, 1) := by decide +kernel
theorem dX8_isLate_18 : decode cX8_isLate 18 = .ok (.iconst 4, 1) := by decide +kernel
theorem dX8_isLate_19 : decode cX8_isLate 19 = .ok (.if_icmp .ne 7, 3) := by decide +kernel
theorem dX8_isLate_22 : decode cX8_isLate 22 = .ok (.iconst 5, 1) := by decide +kernel
theorem dX8_isLate_23 : decode cX8_isLate 23 = .ok (.goto 4, 3) := by decide +kernel
theorem dX8_isLate_26 : decode cX8_isLate 26 = .ok (.iconst 0, 1) := by decide +kernel
theorem dX8_isLate_27 : decode cX8_isLate 27 = .ok (.if_icmp .gt 7, 3) := by decide +kernel
theorem dX8_isLate_30 : decode cX8_isLate 30 = .ok (.iconst 1, 1) := by decide +kernel
theorem dX8_isLate_31 : decode cX8_isLate 31 = .ok (.goto 4, 3) := by decide +kernel
theorem dX8_isLate_34 : decode cX8_isLate 34 = .ok (.iconst 0, 1) := by decide +kernel
theorem dX8_isLate_35 : decode cX8_isLate 35 = .ok (.ireturn, 1) := by decide +kernel
theorem dX8_isShake_0 : decode cX8_isShake 0 = .ok (.lload_n 0, 1) := by decide +kernel
theorem dX8_isShake_1 : decode cX8_isShake 1 = .ok (.lconst 0, 1) := by decide +kernel
theorem dX8_isShake_2 : decode cX8_isShake 2 = .ok (.lcmp, 1) := by decide +kernel
theorem dX8_isShake_3 : decode cX8_isShake 3 = .ok (.ifCond .lt 47, 3) := by decide +kernel
theorem dX8_isShake_6 : decode cX8_isShake 6 = .ok (.lload_n 0, 1) := by decide +kernel
theorem dX8_isShake_7 : decode cX8_isShake 7 = .ok (.ldc2_w 326, 3) := by decide +kernel
theorem dX8_isShake_10 : decode cX8_isShake 10 = .ok (.ldiv, 1) := by decide +kernel
theorem dX8_isShake_11 : decode cX8_isShake 11 = .ok (.ldc2_w 328, 3) := by decide +kernel
theorem dX8_isShake_14 : decode cX8_isShake 14 = .ok (.lcmp, 1) := by decide +kernel
theorem dX8_isShake_15 : decode cX8_isShake 15 = .ok (.ifCond .ge 35, 3) := by decide +kernel
theorem dX8_isShake_18 : decode cX8_isShake 18 = .ok (.lload_n 0, 1) := by decide +kernel
theorem dX8_isShake_19 : decode cX8_isShake 19 = .ok (.ldc2_w 330, 3) := by decide +kernel
theorem dX8_isShake_22 : decode cX8_isShake 22 = .ok (.ldiv, 1) := by decide +kernel
theorem dX8_isShake_23 : decode cX8_isShake 23 = .ok (.ldc2_w 269, 3) := by decide +kernel
theorem dX8_isShake_26 : decode cX8_isShake 26 = .ok (.lrem, 1) := by decide +kernel
theorem dX8_isShake_27 : decode cX8_isShake 27 = .ok (.ldc2_w 332, 3) := by decide +kernel
theorem dX8_isShake_30 : decode cX8_isShake 30 = .ok (.lcmp, 1) := by decide +kernel
theorem dX8_isShake_31 : decode cX8_isShake 31 = .ok (.ifCond .ge 19, 3) := by decide +kernel
theorem dX8_isShake_34 : decode cX8_isShake 34 = .ok (.lload_n 0, 1) := by decide +kernel
theorem dX8_isShake_35 : decode cX8_isShake 35 = .ok (.ldc2_w 330, 3) := by decide +kernel
theorem dX8_isShake_38 : decode cX8_isShake 38 = .ok (.lrem, 1) := by decide +kernel
theorem dX8_isShake_39 : decode cX8_isShake 39 = .ok (.ldc2_w 334, 3) := by decide +kernel
theorem dX8_isShake_42 : decode cX8_isShake 42 = .ok (.lcmp, 1) := by decide +kernel
theorem dX8_isShake_43 : decode cX8_isShake 43 = .ok (.ifCond .ge 7, 3) := by decide +kernel
theorem dX8_isShake_46 : decode cX8_isShake 46 = .ok (.iconst 1, 1) := by decide +kernel
theorem dX8_isShake_47 : decode cX8_isShake 47 = .ok (.goto 4, 3) := by decide +kernel
theorem dX8_isShake_50 : decode cX8_isShake 50 = .ok (.iconst 0, 1) := by decide +kernel
theorem dX8_isShake_51 : decode cX8_isShake 51 = .ok (.ireturn, 1) := by decide +kernel
theorem dX8_faultOfShakes_0 : decode cX8_faultOfShakes 0 = .ok (.iload_n 1, 1) := by decide +kernel
theorem dX8_faultOfShakes_1 : decode cX8_faultOfShakes 1 = .ok (.iconst 4, 1) := by decide +kernel
theorem dX8_faultOfShakes_2 : decode cX8_faultOfShakes 2 = .ok (.invokestatic 48, 3) := by decide +kernel
theorem dX8_faultOfShakes_5 : decode cX8_faultOfShakes 5 = .ok (.ifCond .ne 6, 3) := by decide +kernel
theorem dX8_faultOfShakes_8 : decode cX8_faultOfShakes 8 = .ok (.ldc 52, 2) := by decide +kernel
theorem dX8_faultOfShakes_10 : decode cX8_faultOfShakes 10 = .ok (.ireturn, 1) := by decide +kernel
theorem dX8_faultOfShakes_11 : decode cX8_faultOfShakes 11 = .ok (.aload_n 0, 1) := by decide +kernel
theorem dX8_faultOfShakes_12 : decode cX8_faultOfShakes 12 = .ok (.getfield 33, 3) := by decide +kernel
theorem dX8_faultOfShakes_15 : decode cX8_faultOfShakes 15 = .ok (.iload_n 1, 1) := by decide +kernel
theorem dX8_faultOfShakes_16 : decode cX8_faultOfShakes 16 = .ok (.invokevirtual 82, 3) := by decide +kernel
theorem dX8_faultOfShakes_19 : decode cX8_faultOfShakes 19 = .ok (.ifCond .eq 6, 3) := by decide +kernel
theorem dX8_faultOfShakes_22 : decode cX8_faultOfShakes 22 = .ok (.ldc 85, 2) := by decide +kernel
theorem dX8_faultOfShakes_24 : decode cX8_faultOfShakes 24 = .ok (.ireturn, 1) := by decide +kernel
theorem dX8_faultOfShakes_25 : decode cX8_faultOfShakes 25 = .ok (.aload_n 0, 1) := by decide +kernel
theorem dX8_faultOfShakes_26 : decode cX8_faultOfShakes 26 = .ok (.getfield 33, 3) := by decide +kernel
theorem dX8_faultOfShakes_29 : decode cX8_faultOfShakes 29 = .ok (.getfield 86, 3) := by decide +kernel
theorem dX8_faultOfShakes_32 : decode cX8_faultOfShakes 32 = .ok (.iload_n 1, 1) := by decide +kernel
theorem dX8_faultOfShakes_33 : decode cX8_faultOfShakes 33 = .ok (.iaload, 1) := by decide +kernel
theorem dX8_faultOfShakes_34 : decode cX8_faultOfShakes 34 = .ok (.iconst 2, 1) := by decide +kernel
theorem dX8_faultOfShakes_35 : decode cX8_faultOfShakes 35 = .ok (.if_icmp .lt 17, 3) := by decide +kernel
theorem dX8_faultOfShakes_38 : decode cX8_faultOfShakes 38 = .ok (.aload_n 0, 1) := by decide +kernel
theorem dX8_faultOfShakes_39 : decode cX8_faultOfShakes 39 = .ok (.getfield 33, 3) := by decide +kernel
theorem dX8_faultOfShakes_42 : decode cX8_faultOfShakes 42 = .ok (.getfield 86, 3) := by decide +kernel
theorem dX8_faultOfShakes_45 : decode cX8_faultOfShakes 45 = .ok (.iload_n 1, 1) := by decide +kernel
theorem dX8_faultOfShakes_46 : decode cX8_faultOfShakes 46 = .ok (.iaload, 1) := by decide +kernel
theorem dX8_faultOfShakes_47 : decode cX8_faultOfShakes 47 = .ok (.bipush 12, 2) := by decide +kernel
theorem dX8_faultOfShakes_49 : decode cX8_faultOfShakes 49 = .ok (.if_icmp .le 6, 3) := by decide +kernel
theorem dX8_faultOfShakes_52 : decode cX8_faultOfShakes 52 = .ok (.ldc 89, 2) := by decide +kernel
theorem dX8_faultOfShakes_54 : decode cX8_faultOfShakes 54 = .ok (.ireturn, 1) := by decide +kernel
theorem dX8_faultOfShakes_55 : decode cX8_faultOfShakes 55 = .ok (.iconst 0, 1) := by decide +kernel
theorem dX8_faultOfShakes_56 : decode cX8_faultOfShakes 56 = .ok (.istore_n 2, 1) := by decide +kernel
theorem dX8_faultOfShakes_57 : decode cX8_faultOfShakes 57 = .ok (.iload_n 2, 1) := by decide +kernel
theorem dX8_faultOfShakes_58 : decode cX8_faultOfShakes 58 = .ok (.aload_n 0, 1) := by decide +kernel
theorem dX8_faultOfShakes_59 : decode cX8_faultOfShakes 59 = .ok (.getfield 33, 3) := by decide +kernel
theorem dX8_faultOfShakes_62 : decode cX8_faultOfShakes 62 = .ok (.getfield 86, 3) := by decide +kernel
theorem dX8_faultOfShakes_65 : decode cX8_faultOfShakes 65 = .ok (.iload_n 1, 1) := by decide +kernel
theorem dX8_faultOfShakes_66 : decode cX8_faultOfShakes 66 = .ok (.iaload, 1) := by decide +kernel
theorem dX8_faultOfShakes_67 : decode cX8_faultOfShakes 67 = .ok (.if_icmp .ge 27, 3) := by decide +kernel
theorem dX8_faultOfShakes_70 : decode cX8_faultOfShakes 70 = .ok (.aload_n 0, 1) := by decide +kernel
theorem dX8_faultOfShakes_71 : decode cX8_faultOfShakes 71 = .ok (.getfield 33, 3) := by decide +kernel
theorem dX8_faultOfShakes_74 : decode cX8_faultOfShakes 74 = .ok (.iload_n 1, 1) := by decide +kernel
theorem dX8_faultOfShakes_75 : decode cX8_faultOfShakes 75 = .ok (.iload_n 2, 1) := by decide +kernel
theorem dX8_faultOfShakes_76 : decode cX8_faultOfShakes 76 = .ok (.invokevirtual 93, 3) := by decide +kernel
theorem dX8_faultOfShakes_79 : decode cX8_faultOfShakes 79 = .ok (.invokestatic 221, 3) := by decide +kernel
theorem dX8_faultOfShakes_82 : decode cX8_faultOfShakes 82 = .ok (.ifCond .ne 6, 3) := by decide +kernel
theorem dX8_faultOfShakes_85 : decode cX8_faultOfShakes 85 = .ok (.ldc 52, 2) := by decide +kernel
theorem dX8_faultOfShakes_87 : decode cX8_faultOfShakes 87 = .ok (.ireturn, 1) := by decide +kernel
theorem dX8_faultOfShakes_88 : decode cX8_faultOfShakes 88 = .ok (.iinc 2 1, 3) := by decide +kernel
theorem dX8_faultOfShakes_91 : decode cX8_faultOfShakes 91 = .ok (.goto (-34), 3) := by decide +kernel
theorem dX8_faultOfShakes_94 : decode cX8_faultOfShakes 94 = .ok (.iconst 0, 1) := by decide +kernel
theorem dX8_faultOfShakes_95 : decode cX8_faultOfShakes 95 = .ok (.ireturn, 1) := by decide +kernel
theorem dX8_layShakes_0 : decode cX8_layShakes 0 = .ok (.aload_n 0, 1) := by decide +kernel
theorem dX8_layShakes_1 : decode cX8_layShakes 1 = .ok (.getfield 40, 3) := by decide +kernel
theorem dX8_layShakes_4 : decode cX8_layShakes 4 = .ok (.aload_n 0, 1) := by decide +kernel
theorem dX8_layShakes_5 : decode cX8_layShakes 5 = .ok (.getfield 12, 3) := by decide +kernel
theorem dX8_layShakes_8 : decode cX8_layShakes 8 = .ok (.iconst (-1), 1) := by decide +kernel
theorem dX8_layShakes_9 : decode cX8_layShakes 9 = .ok (.invokevirtual 211, 3) := by decide +kernel
theorem dX8_layShakes_12 : decode cX8_layShakes 12 = .ok (.iconst 0, 1) := by decide +kernel
theorem dX8_layShakes_13 : decode cX8_layShakes 13 = .ok (.istore_n 2, 1) := by decide +kernel
theorem dX8_layShakes_14 : decode cX8_layShakes 14 = .ok (.iload_n 2, 1) := by decide +kernel
theorem dX8_layShakes_15 : decode cX8_layShakes 15 = .ok (.aload_n 0, 1) := by decide +kernel
theorem dX8_layShakes_16 : decode cX8_layShakes 16 = .ok (.getfield 33, 3) := by decide +kernel
theorem dX8_layShakes_19 : decode cX8_layShakes 19 = .ok (.getfield 86, 3) := by decide +kernel
theorem dX8_layShakes_22 : decode cX8_layShakes 22 = .ok (.iload_n 1, 1) := by decide +kernel
theorem dX8_layShakes_23 : decode cX8_layShakes 23 = .ok (.iaload, 1) := by decide +kernel
theorem dX8_layShakes_24 : decode cX8_layShakes 24 = .ok (.if_icmp .ge 27, 3) := by decide +kernel
theorem dX8_layShakes_27 : decode cX8_layShakes 27 = .ok (.aload_n 0, 1) := by decide +kernel
theorem dX8_layShakes_28 : decode cX8_layShakes 28 = .ok (.getfield 40, 3) := by decide +kernel
theorem dX8_layShakes_31 : decode cX8_layShakes 31 = .ok (.iload_n 2, 1) := by decide +kernel
theorem dX8_layShakes_32 : decode cX8_layShakes 32 = .ok (.aload_n 0, 1) := by decide +kernel
theorem dX8_layShakes_33 : decode cX8_layShakes 33 = .ok (.getfield 33, 3) := by decide +kernel
theorem dX8_layShakes_36 : decode cX8_layShakes 36 = .ok (.iload_n 1, 1) := by decide +kernel
theorem dX8_layShakes_37 : decode cX8_layShakes 37 = .ok (.iload_n 2, 1) := by decide +kernel
theorem dX8_layShakes_38 : decode cX8_layShakes 38 = .ok (.invokevirtual 93, 3) := by decide +kernel
theorem dX8_layShakes_41 : decode cX8_layShakes 41 = .ok (.l2i, 1) := by decide +kernel
theorem dX8_layShakes_42 : decode cX8_layShakes 42 = .ok (.invokevirtual 234, 3) := by decide +kernel
theorem dX8_layShakes_45 : decode cX8_layShakes 45 = .ok (.iinc 2 1, 3) := by decide +kernel
theorem dX8_layShakes_48 : decode cX8_layShakes 48 = .ok (.goto (-34), 3) := by decide +kernel
theorem dX8_layShakes_51 : decode cX8_layShakes 51 = .ok (.return_, 1) := by decide +kernel
theorem dX8_weightOfMiss_0 : decode cX8_weightOfMiss 0 = .ok (.iload_n 0, 1) := by decide +kernel
theorem dX8_weightOfMiss_1 : decode cX8_weightOfMiss 1 = .ok (.bipush 10, 2) := by decide +kernel
theorem dX8_weightOfMiss_3 : decode cX8_weightOfMiss 3 = .ok (.if_icmp .le 7, 3) := by decide +kernel
theorem dX8_weightOfMiss_6 : decode cX8_weightOfMiss 6 = .ok (.iconst 0, 1) := by decide +kernel
theorem dX8_weightOfMiss_7 : decode cX8_weightOfMiss 7 = .ok (.goto 11, 3) := by decide +kernel
theorem dX8_weightOfMiss_10 : decode cX8_weightOfMiss 10 = .ok (.iconst 1, 1) := by decide +kernel
theorem dX8_weightOfMiss_11 : decode cX8_weightOfMiss 11 = .ok (.iconst 2, 1) := by decide +kernel
theorem dX8_weightOfMiss_12 : decode cX8_weightOfMiss 12 = .ok (.bipush 10, 2) := by decide +kernel
theorem dX8_weightOfMiss_14 : decode cX8_weightOfMiss 14 = .ok (.iload_n 0, 1) := by decide +kernel
theorem dX8_weightOfMiss_15 : decode cX8_weightOfMiss 15 = .ok (.isub, 1) := by decide +kernel
theorem dX8_weightOfMiss_16 : decode cX8_weightOfMiss 16 = .ok (.imul, 1) := by decide +kernel
theorem dX8_weightOfMiss_17 : decode cX8_weightOfMiss 17 = .ok (.ishl, 1) := by decide +kernel
theorem dX8_weightOfMiss_18 : decode cX8_weightOfMiss 18 = .ok (.ireturn, 1) := by decide +kernel
theorem dX8_stepsBetween_0 : decode cX8_stepsBetween 0 = .ok (.iconst 2, 1) := by decide +kernel
theorem dX8_stepsBetween_1 : decode cX8_stepsBetween 1 = .ok (.iload_n 1, 1) := by decide +kernel
theorem dX8_stepsBetween_2 : decode cX8_stepsBetween 2 = .ok (.ishl, 1) := by decide +kernel
theorem dX8_stepsBetween_3 : decode cX8_stepsBetween 3 = .ok (.iconst 1, 1) := by decide +kernel
theorem dX8_stepsBetween_4 : decode cX8_stepsBetween 4 = .ok (.iload_n 0, 1) := by decide +kernel
theorem dX8_stepsBetween_5 : decode cX8_stepsBetween 5 = .ok (.ishl, 1) := by decide +kernel
theorem dX8_stepsBetween_6 : decode cX8_stepsBetween 6 = .ok (.isub, 1) := by decide +kernel
theorem dX8_stepsBetween_7 : decode cX8_stepsBetween 7 = .ok (.ireturn, 1) := by decide +kernel
theorem dX9_finds_0 : decode cX9_finds 0 = .ok (.aload_n 0, 1) := by decide +kernel
theorem dX9_finds_1 : decode cX9_finds 1 = .ok (.getfield 7, 3) := by decide +kernel
theorem dX9_finds_4 : decode cX9_finds 4 = .ok (.iload_n 1, 1) := by decide +kernel
theorem dX9_finds_5 : decode cX9_finds 5 = .ok (.dup2, 1) := by decide +kernel
theorem dX9_finds_6 : decode cX9_finds 6 = .ok (.iaload, 1) := by decide +kernel
theorem dX9_finds_7 : decode cX9_finds 7 = .ok (.iconst 1, 1) := by decide +kernel
theorem dX9_finds_8 : decode cX9_finds 8 = .ok (.iadd, 1) := by decide +kernel
theorem dX9_finds_9 : decode cX9_finds 9 = .ok (.iastore, 1) := by decide +kernel
theorem dX9_finds_10 : decode cX9_finds 10 = .ok (.ldc 78, 2) := by decide +kernel
theorem dX9_finds_12 : decode cX9_finds 12 = .ok (.iload_n 1, 1) := by decide +kernel
theorem dX9_finds_13 : decode cX9_finds 13 = .ok (.isub, 1) := by decide +kernel
theorem dX9_finds_14 : decode cX9_finds 14 = .ok (.ireturn, 1) := by decide +kernel
theorem dX9_in_0 : decode cX9_in 0 = .ok (.iload_n 0, 1) := by decide +kernel
theorem dX9_in_1 : decode cX9_in 1 = .ok (.iload_n 1, 1) := by decide +kernel
theorem dX9_in_2 : decode cX9_in 2 = .ok (.if_icmp .lt 12, 3) := by decide +kernel
theorem dX9_in_5 : decode cX9_in 5 = .ok (.iload_n 0, 1) := by decide +kernel
theorem dX9_in_6 : decode cX9_in 6 = .ok (.iload_n 2, 1) := by decide +kernel
theorem dX9_in_7 : decode cX9_in 7 = .ok (.if_icmp .gt 7, 3) := by decide +kernel
theorem dX9_in_10 : decode cX9_in 10 = .ok (.iconst 1, 1) := by decide +kernel
theorem dX9_in_11 : decode cX9_in 11 = .ok (.goto 4, 3) := by decide +kernel
theorem dX9_in_14 : decode cX9_in 14 = .ok (.iconst 0, 1) := by decide +kernel
theorem dX9_in_15 : decode cX9_in 15 = .ok (.ireturn, 1) := by decide +kernel
theorem dX9_isCell_0 : decode cX9_isCell 0 = .ok (.iload_n 0, 1) := by decide +kernel
theorem dX9_isCell_1 : decode cX9_isCell 1 = .ok (.iconst 0, 1) := by decide +kernel
theorem dX9_isCell_2 : decode cX9_isCell 2 = .ok (.sipush 143, 3) := by decide +kernel
theorem dX9_isCell_5 : decode cX9_isCell 5 = .ok (.invokestatic 79, 3) := by decide +kernel
theorem dX9_isCell_8 : decode cX9_isCell 8 = .ok (.ireturn, 1) := by decide +kernel
theorem dX9_isTown_0 : decode cX9_isTown 0 = .ok (.iload_n 1, 1) := by decide +kernel
theorem dX9_isTown_1 : decode cX9_isTown 1 = .ok (.iconst 0, 1) := by decide +kernel
theorem dX9_isTown_2 : decode cX9_isTown 2 = .ok (.aload_n 0, 1) := by decide +kernel
theorem dX9_isTown_3 : decode cX9_isTown 3 = .ok (.getfield 13, 3) := by decide +kernel
theorem dX9_isTown_6 : decode cX9_isTown 6 = .ok (.iconst 0, 1) := by decide +kernel
theorem dX9_isTown_7 : decode cX9_isTown 7 = .ok (.iaload, 1) := by decide +kernel
theorem dX9_isTown_8 : decode cX9_isTown 8 = .ok (.iconst 1, 1) := by decide +kernel
theorem dX9_isTown_9 : decode cX9_isTown 9 = .ok (.isub, 1) := by decide +kernel
theorem dX9_isTown_10 : decode cX9_isTown 10 = .ok (.invokestatic 79, 3) := by decide +kernel
theorem dX9_isTown_13 : decode cX9_isTown 13 = .ok (.ireturn, 1) := by decide +kernel
theorem dX9_isLetter_0 : decode cX9_isLetter 0 = .ok (.iload_n 1, 1) := by decide +kernel
theorem dX9_isLetter_1 : decode cX9_isLetter 1 = .ok (.iconst 0, 1) := by decide +kernel
theorem dX9_isLetter_2 : decode cX9_isLetter 2 = .ok (.aload_n 0, 1) := by decide +kernel
theorem dX9_isLetter_3 : decode cX9_isLetter 3 = .ok (.getfield 13, 3) := by decide +kernel
theorem dX9_isLetter_6 : decode cX9_isLetter 6 = .ok (.iconst 1, 1) := by decide +kernel
theorem dX9_isLetter_7 : decode cX9_isLetter 7 = .ok (.iaload, 1) := by decide +kernel
theorem dX9_isLetter_8 : decode cX9_isLetter 8 = .ok (.iconst 1, 1) := by decide +kernel
theorem dX9_isLetter_9 : decode cX9_isLetter 9 = .ok (.isub, 1) := by decide +kernel
theorem dX9_isLetter_10 : decode cX9_isLetter 10 = .ok (.invokestatic 79, 3) := by decide +kernel
theorem dX9_isLetter_13 : decode cX9_isLetter 13 = .ok (.ireturn, 1) := by decide +kernel
theorem dX9_isShake_0 : decode cX9_isShake 0 = .ok (.lload_n 0, 1) := by decide +kernel
theorem dX9_isShake_1 : decode cX9_isShake 1 = .ok (.lconst 0, 1) := by decide +kernel
theorem dX9_isShake_2 : decode cX9_isShake 2 = .ok (.lcmp, 1) := by decide +kernel
theorem dX9_isShake_3 : decode cX9_isShake 3 = .ok (.ifCond .lt 39, 3) := by decide +kernel
theorem dX9_isShake_6 : decode cX9_isShake 6 = .ok (.lload_n 0, 1) := by decide +kernel
theorem dX9_isShake_7 : decode cX9_isShake 7 = .ok (.ldc2_w 83, 3) := by decide +kernel
theorem dX9_isShake_10 : decode cX9_isShake 10 = .ok (.lcmp, 1) := by decide +kernel
theorem dX9_isShake_11 : decode cX9_isShake 11 = .ok (.ifCond .ge 31, 3) := by decide +kernel
theorem dX9_isShake_14 : decode cX9_isShake 14 = .ok (.lload_n 0, 1) := by decide +kernel
theorem dX9_isShake_15 : decode cX9_isShake 15 = .ok (.ldc2_w 85, 3) := by decide +kernel
theorem dX9_isShake_18 : decode cX9_isShake 18 = .ok (.lrem, 1) := by decide +kernel
theorem dX9_isShake_19 : decode cX9_isShake 19 = .ok (.ldc2_w 87, 3) := by decide +kernel
theorem dX9_isShake_22 : decode cX9_isShake 22 = .ok (.lcmp, 1) := by decide +kernel
theorem dX9_isShake_23 : decode cX9_isShake 23 = .ok (.ifCond .ge 19, 3) := by decide +kernel
theorem dX9_isShake_26 : decode cX9_isShake 26 = .ok (.lload_n 0, 1) := by decide +kernel
theorem dX9_isShake_27 : decode cX9_isShake 27 = .ok (.ldc2_w 89, 3) := by decide +kernel
theorem dX9_isShake_30 : decode cX9_isShake 30 = .ok (.lrem, 1) := by decide +kernel
theorem dX9_isShake_31 : decode cX9_isShake 31 = .ok (.ldc2_w 91, 3) := by decide +kernel
theorem dX9_isShake_34 : decode cX9_isShake 34 = .ok (.lcmp, 1) := by decide +kernel
theorem dX9_isShake_35 : decode cX9_isShake 35 = .ok (.ifCond .ge 7, 3) := by decide +kernel
theorem dX9_isShake_38 : decode cX9_isShake 38 = .ok (.iconst 1, 1) := by decide +kernel
theorem dX9_isShake_39 : decode cX9_isShake 39 = .ok (.goto 4, 3) := by decide +kernel
theorem dX9_isShake_42 : decode cX9_isShake 42 = .ok (.iconst 0, 1) := by decide +kernel
theorem dX9_isShake_43 : decode cX9_isShake 43 = .ok (.ireturn, 1) := by decide +kernel
theorem dX9_bits_0 : decode cX9_bits 0 = .ok (.iconst 0, 1) := by decide +kernel
theorem dX9_bits_1 : decode cX9_bits 1 = .ok (.istore_n 1, 1) := by decide +kernel
theorem dX9_bits_2 : decode cX9_bits 2 = .ok (.iconst 0, 1) := by decide +kernel
theorem dX9_bits_3 : decode cX9_bits 3 = .ok (.istore_n 2, 1) := by decide +kernel
theorem dX9_bits_4 : decode cX9_bits 4 = .ok (.iload_n 2, 1) := by decide +kernel
theorem dX9_bits_5 : decode cX9_bits 5 = .ok (.bipush 30, 2) := by decide +kernel
theorem dX9_bits_7 : decode cX9_bits 7 = .ok (.if_icmp .ge 17, 3) := by decide +kernel
theorem dX9_bits_10 : decode cX9_bits 10 = .ok (.iload_n 1, 1) := by decide +kernel
theorem dX9_bits_11 : decode cX9_bits 11 = .ok (.iload_n 0, 1) := by decide +kernel
theorem dX9_bits_12 : decode cX9_bits 12 = .ok (.iload_n 2, 1) := by decide +kernel
theorem dX9_bits_13 : decode cX9_bits 13 = .ok (.ishr, 1) := by decide +kernel
theorem dX9_bits_14 : decode cX9_bits 14 = .ok (.iconst 1, 1) := by decide +kernel
theorem dX9_bits_15 : decode cX9_bits 15 = .ok (.iand, 1) := by decide +kernel
theorem dX9_bits_16 : decode cX9_bits 16 = .ok (.iadd, 1) := by decide +kernel
theorem dX9_bits_17 : decode cX9_bits 17 = .ok (.istore_n 1, 1) := by decide +kernel
theorem dX9_bits_18 : decode cX9_bits 18 = .ok (.iinc 2 1, 3) := by decide +kernel
theorem dX9_bits_21 : decode cX9_bits 21 = .ok (.goto (-17), 3) := by decide +kernel
theorem dX9_bits_24 : decode cX9_bits 24 = .ok (.iload_n 1, 1) := by decide +kernel
theorem dX9_bits_25 : decode cX9_bits 25 = .ok (.ireturn, 1) := by decide +kernel
theorem dX9_ground_0 : decode cX9_ground 0 = .ok (.iload_n 1, 1) := by decide +kernel
theorem dX9_ground_1 : decode cX9_ground 1 = .ok (.invokestatic 93, 3) := by decide +kernel
theorem dX9_ground_4 : decode cX9_ground 4 = .ok (.ifCond .eq 12, 3) := by decide +kernel
theorem dX9_ground_7 : decode cX9_ground 7 = .ok (.iload_n 2, 1) := by decide +kernel
theorem dX9_ground_8 : decode cX9_ground 8 = .ok (.iconst 0, 1) := by decide +kernel
theorem dX9_ground_9 : decode cX9_ground 9 = .ok (.iconst 2, 1) := by decide +kernel
theorem dX9_ground_10 : decode cX9_ground 10 = .ok (.invokestatic 79, 3) := by decide +kernel
theorem dX9_ground_13 : decode cX9_ground 13 = .ok (.ifCond .ne 9, 3) := by decide +kernel
theorem dX9_ground_16 : decode cX9_ground 16 = .ok (.aload_n 0, 1) := by decide +kernel
theorem dX9_ground_17 : decode cX9_ground 17 = .ok (.iconst 1, 1) := by decide +kernel
theorem dX9_ground_18 : decode cX9_ground 18 = .ok (.invokevirtual 97, 3) := by decide +kernel
theorem dX9_ground_21 : decode cX9_ground 21 = .ok (.ireturn, 1) := by decide +kernel
theorem dX9_ground_22 : decode cX9_ground 22 = .ok (.aload_n 0, 1) := by decide +kernel
theorem dX9_ground_23 : decode cX9_ground 23 = .ok (.getfield 16, 3) := by decide +kernel
theorem dX9_ground_26 : decode cX9_ground 26 = .ok (.iload_n 1, 1) := by decide +kernel
theorem dX9_ground_27 : decode cX9_ground 27 = .ok (.iaload, 1) := by decide +kernel
theorem dX9_ground_28 : decode cX9_ground 28 = .ok (.istore_n 3, 1) := by decide +kernel
theorem dX9_ground_29 : decode cX9_ground 29 = .ok (.aload_n 0, 1) := by decide +kernel
theorem dX9_ground_30 : decode cX9_ground 30 = .ok (.getfield 16, 3) := by decide +kernel
theorem dX9_ground_33 : decode cX9_ground 33 = .ok (.iload_n 1, 1) := by decide +kernel
theorem dX9_ground_34 : decode cX9_ground 34 = .ok (.iload_n 2, 1) := by decide +kernel
theorem dX9_ground_35 : decode cX9_ground 35 = .ok (.iastore, 1) := by decide +kernel
theorem dX9_ground_36 : decode cX9_ground 36 = .ok (.iload_n 3, 1) := by decide +kernel
theorem dX9_ground_37 : decode cX9_ground 37 = .ok (.ireturn, 1) := by decide +kernel
theorem dX9_town_0 : decode cX9_town 0 = .ok (.iload_n 1, 1) := by decide +kernel
theorem dX9_town_1 : decode cX9_town 1 = .ok (.invokestatic 93, 3) := by decide +kernel
theorem dX9_town_4 : decode cX9_town 4 = .ok (.ifCond .ne 9, 3) := by decide +kernel
theorem dX9_town_7 : decode cX9_town 7 = .ok (.aload_n 0, 1) := by decide +kernel
theorem dX9_town_8 : decode cX9_town 8 = .ok (.iconst 1, 1) := by decide +kernel
theorem dX9_town_9 : decode cX9_town 9 = .ok (.invokevirtual 97, 3) := by decide +kernel
theorem dX9_town_12 : decode cX9_town 12 = .ok (.ireturn, 1) := by decide +kernel
theorem dX9_town_13 : decode cX9_town 13 = .ok (.aload_n 0, 1) := by decide +kernel
theorem dX9_town_14 : decode cX9_town 14 = .ok (.getfield 13, 3) := by decide +kernel
theorem dX9_town_17 : decode cX9_town 17 = .ok (.iconst 0, 1) := by decide +kernel
theorem dX9_town_18 : decode cX9_town 18 = .ok (.iaload, 1) := by decide +kernel
theorem dX9_town_19 : decode cX9_town 19 = .ok (.bipush 16, 2) := by decide +kernel
theorem dX9_town_21 : decode cX9_town 21 = .ok (.if_icmp .ne 9, 3) := by decide +kernel
theorem dX9_town_24 : decode cX9_town 24 = .ok (.aload_n 0, 1) := by decide +kernel
theorem dX9_town_25 : decode cX9_town 25 = .ok (.iconst 2, 1) := by decide +kernel
theorem dX9_town_26 : decode cX9_town 26 = .ok (.invokevirtual 97, 3) := by decide +kernel
theorem dX9_town_29 : decode cX9_town 29 = .ok (.ireturn, 1) := by decide +kernel
theorem dX9_town_30 : decode cX9_town 30 = .ok (.aload_n 0, 1) := by decide +kernel
theorem dX9_town_31 : decode cX9_town 31 = .ok (.getfield 13, 3) := by decide +kernel
theorem dX9_town_34 : decode cX9_town 34 = .ok (.iconst 0, 1) := by decide +kernel
theorem dX9_town_35 : decode cX9_town 35 = .ok (.iaload, 1) := by decide +kernel
theorem dX9_town_36 : decode cX9_town 36 = .ok (.istore_n 2, 1) := by decide +kernel
theorem dX9_town_37 : decode cX9_town 37 = .ok (.aload_n 0, 1) := by decide +kernel
theorem dX9_town_38 : decode cX9_town 38 = .ok (.getfield 19, 3) := by decide +kernel
theorem dX9_town_41 : decode cX9_town 41 = .ok (.iload_n 2, 1) := by decide +kernel
theorem dX9_town_42 : decode cX9_town 42 = .ok (.iload_n 1, 1) := by decide +kernel
theorem dX9_town_43 : decode cX9_town 43 = .ok (.iastore, 1) := by decide +kernel
theorem dX9_town_44 : decode cX9_town 44 = .ok (.iconst 0, 1) := by decide +kernel
theorem dX9_town_45 : decode cX9_town 45 = .ok (.istore_n 3, 1) := by decide +kernel
theorem dX9_town_46 : decode cX9_town 46 = .ok (.iload_n 3, 1) := by decide +kernel
theorem dX9_town_47 : decode cX9_town 47 = .ok (.bipush 6, 2) := by decide +kernel
theorem dX9_town_49 : decode cX9_town 49 = .ok (.if_icmp .ge 21, 3) := by decide +kernel
