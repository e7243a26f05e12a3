theorem dX0_init_0 : decode cX0_init 0 = .ok (.aload_n 0, 1) := by decide +kernel
theorem dX0_init_1 : decode cX0_init 1 = .ok (.aload_n 1, 1) := by decide +kernel
theorem dX0_init_2 : decode cX0_init 2 = .ok (.iload_n 2, 1) := by decide +kernel
theorem dX0_init_3 : decode cX0_init 3 = .ok (.iload_n 3, 1) := by decide +kernel
theorem dX0_init_4 : decode cX0_init 4 = .ok (.invokespecial 3, 3) := by decide +kernel
theorem dX0_init_7 : decode cX0_init 7 = .ok (.aload_n 0, 1) := by decide +kernel
theorem dX0_init_8 : decode cX0_init 8 = .ok (.aload 4, 2) := by decide +kernel
theorem dX0_init_10 : decode cX0_init 10 = .ok (.putfield 9, 3) := by decide +kernel
theorem dX0_init_13 : decode cX0_init 13 = .ok (.aload_n 0, 1) := by decide +kernel
theorem dX0_init_14 : decode cX0_init 14 = .ok (.aload 5, 2) := by decide +kernel
theorem dX0_init_16 : decode cX0_init 16 = .ok (.putfield 15, 3) := by decide +kernel
theorem dX0_init_19 : decode cX0_init 19 = .ok (.return_, 1) := by decide +kernel
theorem dX0_kind_0 : decode cX0_kind 0 = .ok (.iconst 1, 1) := by decide +kernel
theorem dX0_kind_1 : decode cX0_kind 1 = .ok (.ireturn, 1) := by decide +kernel
theorem dX0_origin_0 : decode cX0_origin 0 = .ok (.aload_n 0, 1) := by decide +kernel
theorem dX0_origin_1 : decode cX0_origin 1 = .ok (.getfield 9, 3) := by decide +kernel
theorem dX0_origin_4 : decode cX0_origin 4 = .ok (.areturn, 1) := by decide +kernel
theorem dX0_acts_0 : decode cX0_acts 0 = .ok (.aload_n 0, 1) := by decide +kernel
theorem dX0_acts_1 : decode cX0_acts 1 = .ok (.getfield 15, 3) := by decide +kernel
theorem dX0_acts_4 : decode cX0_acts 4 = .ok (.areturn, 1) := by decide +kernel
theorem dX0_telling_0 : decode cX0_telling 0 = .ok (.aload_n 1, 1) := by decide +kernel
theorem dX0_telling_1 : decode cX0_telling 1 = .ok (.iconst 2, 1) := by decide +kernel
theorem dX0_telling_2 : decode cX0_telling 2 = .ok (.invokevirtual 19, 3) := by decide +kernel
theorem dX0_telling_5 : decode cX0_telling 5 = .ok (.aload_n 0, 1) := by decide +kernel
theorem dX0_telling_6 : decode cX0_telling 6 = .ok (.aload_n 1, 1) := by decide +kernel
theorem dX0_telling_7 : decode cX0_telling 7 = .ok (.invokespecial 25, 3) := by decide +kernel
theorem dX0_telling_10 : decode cX0_telling 10 = .ok (.sipush 1000, 3) := by decide +kernel
theorem dX0_telling_13 : decode cX0_telling 13 = .ok (.iadd, 1) := by decide +kernel
theorem dX0_telling_14 : decode cX0_telling 14 = .ok (.ireturn, 1) := by decide +kernel
theorem dX1_init_0 : decode cX1_init 0 = .ok (.aload_n 0, 1) := by decide +kernel
theorem dX1_init_1 : decode cX1_init 1 = .ok (.invokespecial 3, 3) := by decide +kernel
theorem dX1_init_4 : decode cX1_init 4 = .ok (.aload_n 0, 1) := by decide +kernel
theorem dX1_init_5 : decode cX1_init 5 = .ok (.sipush 1000, 3) := by decide +kernel
theorem dX1_init_8 : decode cX1_init 8 = .ok (.putfield 9, 3) := by decide +kernel
theorem dX1_init_11 : decode cX1_init 11 = .ok (.aload_n 0, 1) := by decide +kernel
theorem dX1_init_12 : decode cX1_init 12 = .ok (.iload_n 1, 1) := by decide +kernel
theorem dX1_init_13 : decode cX1_init 13 = .ok (.putfield 15, 3) := by decide +kernel
theorem dX1_init_16 : decode cX1_init 16 = .ok (.aload_n 0, 1) := by decide +kernel
theorem dX1_init_17 : decode cX1_init 17 = .ok (.iload_n 2, 1) := by decide +kernel
theorem dX1_init_18 : decode cX1_init 18 = .ok (.putfield 18, 3) := by decide +kernel
theorem dX1_init_21 : decode cX1_init 21 = .ok (.return_, 1) := by decide +kernel
theorem dX2_init_0 : decode cX2_init 0 = .ok (.aload_n 0, 1) := by decide +kernel
theorem dX2_init_1 : decode cX2_init 1 = .ok (.invokespecial 1, 3) := by decide +kernel
theorem dX2_init_4 : decode cX2_init 4 = .ok (.aload_n 0, 1) := by decide +kernel
theorem dX2_init_5 : decode cX2_init 5 = .ok (.aload_n 1, 1) := by decide +kernel
theorem dX2_init_6 : decode cX2_init 6 = .ok (.putfield 7, 3) := by decide +kernel
theorem dX2_init_9 : decode cX2_init 9 = .ok (.aload_n 0, 1) := by decide +kernel
theorem dX2_init_10 : decode cX2_init 10 = .ok (.iload_n 2, 1) := by decide +kernel
theorem dX2_init_11 : decode cX2_init 11 = .ok (.putfield 13, 3) := by decide +kernel
theorem dX2_init_14 : decode cX2_init 14 = .ok (.aload_n 0, 1) := by decide +kernel
theorem dX2_init_15 : decode cX2_init 15 = .ok (.iload_n 3, 1) := by decide +kernel
theorem dX2_init_16 : decode cX2_init 16 = .ok (.putfield 17, 3) := by decide +kernel
theorem dX2_init_19 : decode cX2_init 19 = .ok (.return_, 1) := by decide +kernel
theorem dX3_init_0 : decode cX3_init 0 = .ok (.aload_n 0, 1) := by decide +kernel
theorem dX3_init_1 : decode cX3_init 1 = .ok (.invokespecial 3, 3) := by decide +kernel
theorem dX3_init_4 : decode cX3_init 4 = .ok (.aload_n 0, 1) := by decide +kernel
theorem dX3_init_5 : decode cX3_init 5 = .ok (.bipush 16, 2) := by decide +kernel
theorem dX3_init_7 : decode cX3_init 7 = .ok (.newarray .int, 2) := by decide +kernel
theorem dX3_init_9 : decode cX3_init 9 = .ok (.putfield 9, 3) := by decide +kernel
theorem dX3_init_12 : decode cX3_init 12 = .ok (.aload_n 0, 1) := by decide +kernel
theorem dX3_init_13 : decode cX3_init 13 = .ok (.iload_n 1, 1) := by decide +kernel
theorem dX3_init_14 : decode cX3_init 14 = .ok (.putfield 15, 3) := by decide +kernel
theorem dX3_init_17 : decode cX3_init 17 = .ok (.aload_n 0, 1) := by decide +kernel
theorem dX3_init_18 : decode cX3_init 18 = .ok (.getfield 9, 3) := by decide +kernel
theorem dX3_init_21 : decode cX3_init 21 = .ok (.iconst (-1), 1) := by decide +kernel
theorem dX3_init_22 : decode cX3_init 22 = .ok (.invokestatic 19, 3) := by decide +kernel
theorem dX3_init_25 : decode cX3_init 25 = .ok (.return_, 1) := by decide +kernel
theorem dX3_fill_0 : decode cX3_fill 0 = .ok (.aload_n 0, 1) := by decide +kernel
theorem dX3_fill_1 : decode cX3_fill 1 = .ok (.iload_n 1, 1) := by decide +kernel
theorem dX3_fill_2 : decode cX3_fill 2 = .ok (.putfield 25, 3) := by decide +kernel
theorem dX3_fill_5 : decode cX3_fill 5 = .ok (.aload_n 0, 1) := by decide +kernel
theorem dX3_fill_6 : decode cX3_fill 6 = .ok (.iload_n 2, 1) := by decide +kernel
theorem dX3_fill_7 : decode cX3_fill 7 = .ok (.putfield 28, 3) := by decide +kernel
theorem dX3_fill_10 : decode cX3_fill 10 = .ok (.iconst 0, 1) := by decide +kernel
theorem dX3_fill_11 : decode cX3_fill 11 = .ok (.istore 5, 2) := by decide +kernel
theorem dX3_fill_13 : decode cX3_fill 13 = .ok (.iload 5, 2) := by decide +kernel
theorem dX3_fill_15 : decode cX3_fill 15 = .ok (.aload_n 0, 1) := by decide +kernel
theorem dX3_fill_16 : decode cX3_fill 16 = .ok (.getfield 25, 3) := by decide +kernel
theorem dX3_fill_19 : decode cX3_fill 19 = .ok (.aload_n 0, 1) := by decide +kernel
theorem dX3_fill_20 : decode cX3_fill 20 = .ok (.getfield 28, 3) := by decide +kernel
theorem dX3_fill_23 : decode cX3_fill 23 = .ok (.imul, 1) := by decide +kernel
theorem dX3_fill_24 : decode cX3_fill 24 = .ok (.if_icmp .ge 40, 3) := by decide +kernel
theorem dX3_fill_27 : decode cX3_fill 27 = .ok (.aload_n 0, 1) := by decide +kernel
theorem dX3_fill_28 : decode cX3_fill 28 = .ok (.getfield 9, 3) := by decide +kernel
theorem dX3_fill_31 : decode cX3_fill 31 = .ok (.iload 5, 2) := by decide +kernel
theorem dX3_fill_33 : decode cX3_fill 33 = .ok (.aload_n 0, 1) := by decide +kernel
theorem dX3_fill_34 : decode cX3_fill 34 = .ok (.getfield 25, 3) := by decide +kernel
theorem dX3_fill_37 : decode cX3_fill 37 = .ok (.irem, 1) := by decide +kernel
theorem dX3_fill_38 : decode cX3_fill 38 = .ok (.iconst 4, 1) := by decide +kernel
theorem dX3_fill_39 : decode cX3_fill 39 = .ok (.iload 5, 2) := by decide +kernel
theorem dX3_fill_41 : decode cX3_fill 41 = .ok (.aload_n 0, 1) := by decide +kernel
theorem dX3_fill_42 : decode cX3_fill 42 = .ok (.getfield 25, 3) := by decide +kernel
theorem dX3_fill_45 : decode cX3_fill 45 = .ok (.idiv, 1) := by decide +kernel
theorem dX3_fill_46 : decode cX3_fill 46 = .ok (.imul, 1) := by decide +kernel
theorem dX3_fill_47 : decode cX3_fill 47 = .ok (.iadd, 1) := by decide +kernel
theorem dX3_fill_48 : decode cX3_fill 48 = .ok (.aload_n 3, 1) := by decide +kernel
theorem dX3_fill_49 : decode cX3_fill 49 = .ok (.iload 4, 2) := by decide +kernel
theorem dX3_fill_51 : decode cX3_fill 51 = .ok (.iload 5, 2) := by decide +kernel
theorem dX3_fill_53 : decode cX3_fill 53 = .ok (.iadd, 1) := by decide +kernel
theorem dX3_fill_54 : decode cX3_fill 54 = .ok (.invokevirtual 31, 3) := by decide +kernel
theorem dX3_fill_57 : decode cX3_fill 57 = .ok (.iastore, 1) := by decide +kernel
theorem dX3_fill_58 : decode cX3_fill 58 = .ok (.iinc 5 1, 3) := by decide +kernel
theorem dX3_fill_61 : decode cX3_fill 61 = .ok (.goto (-48), 3) := by decide +kernel
theorem dX3_fill_64 : decode cX3_fill 64 = .ok (.return_, 1) := by decide +kernel
theorem dX3_become_0 : decode cX3_become 0 = .ok (.aload_n 0, 1) := by decide +kernel
theorem dX3_become_1 : decode cX3_become 1 = .ok (.aload_n 1, 1) := by decide +kernel
theorem dX3_become_2 : decode cX3_become 2 = .ok (.getfield 25, 3) := by decide +kernel
theorem dX3_become_5 : decode cX3_become 5 = .ok (.aload_n 1, 1) := by decide +kernel
theorem dX3_become_6 : decode cX3_become 6 = .ok (.getfield 28, 3) := by decide +kernel
theorem dX3_become_9 : decode cX3_become 9 = .ok (.aload_n 1, 1) := by decide +kernel
theorem dX3_become_10 : decode cX3_become 10 = .ok (.getfield 9, 3) := by decide +kernel
theorem dX3_become_13 : decode cX3_become 13 = .ok (.invokevirtual 37, 3) := by decide +kernel
theorem dX3_become_16 : decode cX3_become 16 = .ok (.return_, 1) := by decide +kernel
theorem dX3_replace_0 : decode cX3_replace 0 = .ok (.aload_n 0, 1) := by decide +kernel
theorem dX3_replace_1 : decode cX3_replace 1 = .ok (.iload_n 1, 1) := by decide +kernel
theorem dX3_replace_2 : decode cX3_replace 2 = .ok (.putfield 25, 3) := by decide +kernel
theorem dX3_replace_5 : decode cX3_replace 5 = .ok (.aload_n 0, 1) := by decide +kernel
theorem dX3_replace_6 : decode cX3_replace 6 = .ok (.iload_n 2, 1) := by decide +kernel
theorem dX3_replace_7 : decode cX3_replace 7 = .ok (.putfield 28, 3) := by decide +kernel
theorem dX3_replace_10 : decode cX3_replace 10 = .ok (.aload_n 3, 1) := by decide +kernel
theorem dX3_replace_11 : decode cX3_replace 11 = .ok (.iconst 0, 1) := by decide +kernel
theorem dX3_replace_12 : decode cX3_replace 12 = .ok (.aload_n 0, 1) := by decide +kernel
theorem dX3_replace_13 : decode cX3_replace 13 = .ok (.getfield 9, 3) := by decide +kernel
theorem dX3_replace_16 : decode cX3_replace 16 = .ok (.iconst 0, 1) := by decide +kernel
theorem dX3_replace_17 : decode cX3_replace 17 = .ok (.bipush 16, 2) := by decide +kernel
theorem dX3_replace_19 : decode cX3_replace 19 = .ok (.invokestatic 41, 3) := by decide +kernel
theorem dX3_replace_22 : decode cX3_replace 22 = .ok (.return_, 1) := by decide +kernel
theorem dX3_has_0 : decode cX3_has 0 = .ok (.iload_n 1, 1) := by decide +kernel
theorem dX3_has_1 : decode cX3_has 1 = .ok (.invokestatic 47, 3) := by decide +kernel
theorem dX3_has_4 : decode cX3_has 4 = .ok (.ifCond .eq 17, 3) := by decide +kernel
theorem dX3_has_7 : decode cX3_has 7 = .ok (.aload_n 0, 1) := by decide +kernel
theorem dX3_has_8 : decode cX3_has 8 = .ok (.getfield 9, 3) := by decide +kernel
theorem dX3_has_11 : decode cX3_has 11 = .ok (.iload_n 1, 1) := by decide +kernel
theorem dX3_has_12 : decode cX3_has 12 = .ok (.iaload, 1) := by decide +kernel
theorem dX3_has_13 : decode cX3_has 13 = .ok (.iconst (-1), 1) := by decide +kernel
theorem dX3_has_14 : decode cX3_has 14 = .ok (.if_icmp .eq 7, 3) := by decide +kernel
theorem dX3_has_17 : decode cX3_has 17 = .ok (.iconst 1, 1) := by decide +kernel
theorem dX3_has_18 : decode cX3_has 18 = .ok (.goto 4, 3) := by decide +kernel
theorem dX3_has_21 : decode cX3_has 21 = .ok (.iconst 0, 1) := by decide +kernel
theorem dX3_has_22 : decode cX3_has 22 = .ok (.ireturn, 1) := by decide +kernel
theorem dX3_origin_0 : decode cX3_origin 0 = .ok (.aload_n 0, 1) := by decide +kernel
theorem dX3_origin_1 : decode cX3_origin 1 = .ok (.getfield 51, 3) := by decide +kernel
theorem dX3_origin_4 : decode cX3_origin 4 = .ok (.ifnonnull 7, 3) := by decide +kernel
theorem dX3_origin_7 : decode cX3_origin 7 = .ok (.aconst_null, 1) := by decide +kernel
theorem dX3_origin_8 : decode cX3_origin 8 = .ok (.goto 10, 3) := by decide +kernel
theorem dX3_origin_11 : decode cX3_origin 11 = .ok (.aload_n 0, 1) := by decide +kernel
theorem dX3_origin_12 : decode cX3_origin 12 = .ok (.getfield 51, 3) := by decide +kernel
theorem dX3_origin_15 : decode cX3_origin 15 = .ok (.invokevirtual 55, 3) := by decide +kernel
theorem dX3_origin_18 : decode cX3_origin 18 = .ok (.areturn, 1) := by decide +kernel
theorem dX3_sum_0 : decode cX3_sum 0 = .ok (.iconst 0, 1) := by decide +kernel
theorem dX3_sum_1 : decode cX3_sum 1 = .ok (.istore_n 1, 1) := by decide +kernel
theorem dX3_sum_2 : decode cX3_sum 2 = .ok (.iconst 0, 1) := by decide +kernel
theorem dX3_sum_3 : decode cX3_sum 3 = .ok (.istore_n 2, 1) := by decide +kernel
theorem dX3_sum_4 : decode cX3_sum 4 = .ok (.iload_n 2, 1) := by decide +kernel
theorem dX3_sum_5 : decode cX3_sum 5 = .ok (.bipush 16, 2) := by decide +kernel
theorem dX3_sum_7 : decode cX3_sum 7 = .ok (.if_icmp .ge 22, 3) := by decide +kernel
theorem dX3_sum_10 : decode cX3_sum 10 = .ok (.iload_n 1, 1) := by decide +kernel
theorem dX3_sum_11 : decode cX3_sum 11 = .ok (.aload_n 0, 1) := by decide +kernel
theorem dX3_sum_12 : decode cX3_sum 12 = .ok (.getfield 9, 3) := by decide +kernel
theorem dX3_sum_15 : decode cX3_sum 15 = .ok (.iload_n 2, 1) := by decide +kernel
theorem dX3_sum_16 : decode cX3_sum 16 = .ok (.iaload, 1) := by decide +kernel
theorem dX3_sum_17 : decode cX3_sum 17 = .ok (.iconst 0, 1) := by decide +kernel
theorem dX3_sum_18 : decode cX3_sum 18 = .ok (.invokestatic 61, 3) := by decide +kernel
theorem dX3_sum_21 : decode cX3_sum 21 = .ok (.iadd, 1) := by decide +kernel
theorem dX3_sum_22 : decode cX3_sum 22 = .ok (.istore_n 1, 1) := by decide +kernel
theorem dX3_sum_23 : decode cX3_sum 23 = .ok (.iinc 2 1, 3) := by decide +kernel
theorem dX3_sum_26 : decode cX3_sum 26 = .ok (.goto (-22), 3) := by decide +kernel
theorem dX3_sum_29 : decode cX3_sum 29 = .ok (.iload_n 1, 1) := by decide +kernel
theorem dX3_sum_30 : decode cX3_sum 30 = .ok (.ireturn, 1) := by decide +kernel
theorem dX3_mean_0 : decode cX3_mean 0 = .ok (.aload_n 0, 1) := by decide +kernel
theorem dX3_mean_1 : decode cX3_mean 1 = .ok (.getfield 25, 3) := by decide +kernel
theorem dX3_mean_4 : decode cX3_mean 4 = .ok (.aload_n 0, 1) := by decide +kernel
theorem dX3_mean_5 : decode cX3_mean 5 = .ok (.getfield 28, 3) := by decide +kernel
theorem dX3_mean_8 : decode cX3_mean 8 = .ok (.imul, 1) := by decide +kernel
theorem dX3_mean_9 : decode cX3_mean 9 = .ok (.istore_n 1, 1) := by decide +kernel
theorem dX3_mean_10 : decode cX3_mean 10 = .ok (.iload_n 1, 1) := by decide +kernel
theorem dX3_mean_11 : decode cX3_mean 11 = .ok (.ifCond .ne 7, 3) := by decide +kernel
theorem dX3_mean_14 : decode cX3_mean 14 = .ok (.iconst 0, 1) := by decide +kernel
theorem dX3_mean_15 : decode cX3_mean 15 = .ok (.goto 9, 3) := by decide +kernel
theorem dX3_mean_18 : decode cX3_mean 18 = .ok (.aload_n 0, 1) := by decide +kernel
theorem dX3_mean_19 : decode cX3_mean 19 = .ok (.invokevirtual 67, 3) := by decide +kernel
theorem dX3_mean_22 : decode cX3_mean 22 = .ok (.iload_n 1, 1) := by decide +kernel
theorem dX3_mean_23 : decode cX3_mean 23 = .ok (.idiv, 1) := by decide +kernel
theorem dX3_mean_24 : decode cX3_mean 24 = .ok (.ireturn, 1) := by decide +kernel
theorem dX3_least_0 : decode cX3_least 0 = .ok (.bipush 99, 2) := by decide +kernel
theorem dX3_least_2 : decode cX3_least 2 = .ok (.istore_n 1, 1) := by decide +kernel
theorem dX3_least_3 : decode cX3_least 3 = .ok (.iconst 0, 1) := by decide +kernel
theorem dX3_least_4 : decode cX3_least 4 = .ok (.istore_n 2, 1) := by decide +kernel
theorem dX3_least_5 : decode cX3_least 5 = .ok (.iload_n 2, 1) := by decide +kernel
theorem dX3_least_6 : decode cX3_least 6 = .ok (.bipush 16, 2) := by decide +kernel
theorem dX3_least_8 : decode cX3_least 8 = .ok (.if_icmp .ge 28, 3) := by decide +kernel
theorem dX3_least_11 : decode cX3_least 11 = .ok (.aload_n 0, 1) := by decide +kernel
theorem dX3_least_12 : decode cX3_least 12 = .ok (.iload_n 2, 1) := by decide +kernel
theorem dX3_least_13 : decode cX3_least 13 = .ok (.invokevirtual 71, 3) := by decide +kernel
theorem dX3_least_16 : decode cX3_least 16 = .ok (.ifCond .eq 14, 3) := by decide +kernel
theorem dX3_least_19 : decode cX3_least 19 = .ok (.iload_n 1, 1) := by decide +kernel
theorem dX3_least_20 : decode cX3_least 20 = .ok (.aload_n 0, 1) := by decide +kernel
theorem dX3_least_21 : decode cX3_least 21 = .ok (.getfield 9, 3) := by decide +kernel
theorem dX3_least_24 : decode cX3_least 24 = .ok (.iload_n 2, 1) := by decide +kernel
theorem dX3_least_25 : decode cX3_least 25 = .ok (.iaload, 1) := by decide +kernel
theorem dX3_least_26 : decode cX3_least 26 = .ok (.invokestatic 74, 3) := by decide +kernel
theorem dX3_least_29 : decode cX3_least 29 = .ok (.istore_n 1, 1) := by decide +kernel
theorem dX3_least_30 : decode cX3_least 30 = .ok (.iinc 2 1, 3) := by decide +kernel
theorem dX3_least_33 : decode cX3_least 33 = .ok (.goto (-28), 3) := by decide +kernel
theorem dX3_least_36 : decode cX3_least 36 = .ok (.iload_n 1, 1) := by decide +kernel
theorem dX3_least_37 : decode cX3_least 37 = .ok (.ireturn, 1) := by decide +kernel
theorem dX3_greatest_0 : decode cX3_greatest 0 = .ok (.iconst 0, 1) := by decide +kernel
theorem dX3_greatest_1 : decode cX3_greatest 1 = .ok (.istore_n 1, 1) := by decide +kernel
theorem dX3_greatest_2 : decode cX3_greatest 2 = .ok (.iconst 0, 1) := by decide +kernel
theorem dX3_greatest_3 : decode cX3_greatest 3 = .ok (.istore_n 2, 1) := by decide +kernel
theorem dX3_greatest_4 : decode cX3_greatest 4 = .ok (.iload_n 2, 1) := by decide +kernel
theorem dX3_greatest_5 : decode cX3_greatest 5 = .ok (.bipush 16, 2) := by decide +kernel
theorem dX3_greatest_7 : decode cX3_greatest 7 = .ok (.if_icmp .ge 20, 3) := by decide +kernel
theorem dX3_greatest_10 : decode cX3_greatest 10 = .ok (.iload_n 1, 1) := by decide +kernel
theorem dX3_greatest_11 : decode cX3_greatest 11 = .ok (.aload_n 0, 1) := by decide +kernel
theorem dX3_greatest_12 : decode cX3_greatest 12 = .ok (.getfield 9, 3) := by decide +kernel
theorem dX3_greatest_15 : decode cX3_greatest 15 = .ok (.iload_n 2, 1) := by decide +kernel
theorem dX3_greatest_16 : decode cX3_greatest 16 = .ok (.iaload, 1) := by decide +kernel
theorem dX3_greatest_17 : decode cX3_greatest 17 = .ok (.invokestatic 61, 3) := by decide +kernel
theorem dX3_greatest_20 : decode cX3_greatest 20 = .ok (.istore_n 1, 1) := by decide +kernel
theorem dX3_greatest_21 : decode cX3_greatest 21 = .ok (.iinc 2 1, 3) := by decide +kernel
theorem dX3_greatest_24 : decode cX3_greatest 24 = .ok (.goto (-20), 3) := by decide +kernel
theorem dX3_greatest_27 : decode cX3_greatest 27 = .ok (.iload_n 1, 1) := by decide +kernel
theorem dX3_greatest_28 : decode cX3_greatest 28 = .ok (.ireturn, 1) := by decide +kernel
theorem dX3_imprint_0 : decode cX3_imprint 0 = .ok (.iconst 0, 1) := by decide +kernel
theorem dX3_imprint_1 : decode cX3_imprint 1 = .ok (.istore_n 2, 1) := by decide +kernel
theorem dX3_imprint_2 : decode cX3_imprint 2 = .ok (.iconst 0, 1) := by decide +kernel
theorem dX3_imprint_3 : decode cX3_imprint 3 = .ok (.istore_n 3, 1) := by decide +kernel
theorem dX3_imprint_4 : decode cX3_imprint 4 = .ok (.iconst 0, 1) := by decide +kernel
theorem dX3_imprint_5 : decode cX3_imprint 5 = .ok (.istore 4, 2) := by decide +kernel
theorem dX3_imprint_7 : decode cX3_imprint 7 = .ok (.iload 4, 2) := by decide +kernel
theorem dX3_imprint_9 : decode cX3_imprint 9 = .ok (.bipush 16, 2) := by decide +kernel
theorem dX3_imprint_11 : decode cX3_imprint 11 = .ok (.if_icmp .ge 74, 3) := by decide +kernel
theorem dX3_imprint_14 : decode cX3_imprint 14 = .ok (.iload_n 3, 1) := by decide +kernel
theorem dX3_imprint_15 : decode cX3_imprint 15 = .ok (.bipush 8, 2) := by decide +kernel
theorem dX3_imprint_17 : decode cX3_imprint 17 = .ok (.if_icmp .ge 68, 3) := by decide +kernel
theorem dX3_imprint_20 : decode cX3_imprint 20 = .ok (.aload_n 0, 1) := by decide +kernel
theorem dX3_imprint_21 : decode cX3_imprint 21 = .ok (.iload 4, 2) := by decide +kernel
theorem dX3_imprint_23 : decode cX3_imprint 23 = .ok (.invokevirtual 71, 3) := by decide +kernel
theorem dX3_imprint_26 : decode cX3_imprint 26 = .ok (.ifCond .ne 6, 3) := by decide +kernel
theorem dX3_imprint_29 : decode cX3_imprint 29 = .ok (.goto 50, 3) := by decide +kernel
theorem dX3_imprint_32 : decode cX3_imprint 32 = .ok (.aload_n 0, 1) := by decide +kernel
theorem dX3_imprint_33 : decode cX3_imprint 33 = .ok (.iload 4, 2) := by decide +kernel
theorem dX3_imprint_35 : decode cX3_imprint 35 = .ok (.iload_n 1, 1) := by decide +kernel
theorem dX3_imprint_36 : decode cX3_imprint 36 = .ok (.iload_n 3, 1) := by decide +kernel
theorem dX3_imprint_37 : decode cX3_imprint 37 = .ok (.invokevirtual 77, 3) := by decide +kernel
theorem dX3_imprint_40 : decode cX3_imprint 40 = .ok (.ifCond .ne 36, 3) := by decide +kernel
theorem dX3_imprint_43 : decode cX3_imprint 43 = .ok (.aload_n 0, 1) := by decide +kernel
theorem dX3_imprint_44 : decode cX3_imprint 44 = .ok (.getfield 9, 3) := by decide +kernel
theorem dX3_imprint_47 : decode cX3_imprint 47 = .ok (.iload 4, 2) := by decide +kernel
theorem dX3_imprint_49 : decode cX3_imprint 49 = .ok (.aload_n 0, 1) := by decide +kernel
theorem dX3_imprint_50 : decode cX3_imprint 50 = .ok (.getfield 9, 3) := by decide +kernel
theorem dX3_imprint_53 : decode cX3_imprint 53 = .ok (.iload 4, 2) := by decide +kernel
theorem dX3_imprint_55 : decode cX3_imprint 55 = .ok (.iaload, 1) := by decide +kernel
theorem dX3_imprint_56 : decode cX3_imprint 56 = .ok (.ifCond .ne 7, 3) := by decide +kernel
theorem dX3_imprint_59 : decode cX3_imprint 59 = .ok (.iconst 1, 1) := by decide +kernel
theorem dX3_imprint_60 : decode cX3_imprint 60 = .ok (.goto 12, 3) := by decide +kernel
theorem dX3_imprint_63 : decode cX3_imprint 63 = .ok (.aload_n 0, 1) := by decide +kernel
theorem dX3_imprint_64 : decode cX3_imprint 64 = .ok (.getfield 9, 3) := by decide +kernel
theorem dX3_imprint_67 : decode cX3_imprint 67 = .ok (.iload 4, 2) := by decide +kernel
theorem dX3_imprint_69 : decode cX3_imprint 69 = .ok (.iaload, 1) := by decide +kernel
theorem dX3_imprint_70 : decode cX3_imprint 70 = .ok (.iconst 1, 1) := by decide +kernel
theorem dX3_imprint_71 : decode cX3_imprint 71 = .ok (.isub, 1) := by decide +kernel
theorem dX3_imprint_72 : decode cX3_imprint 72 = .ok (.iastore, 1) := by decide +kernel
theorem dX3_imprint_73 : decode cX3_imprint 73 = .ok (.iinc 2 1, 3) := by decide +kernel
theorem dX3_imprint_76 : decode cX3_imprint 76 = .ok (.iinc 3 1, 3) := by decide +kernel
theorem dX3_imprint_79 : decode cX3_imprint 79 = .ok (.iinc 4 1, 3) := by decide +kernel
theorem dX3_imprint_82 : decode cX3_imprint 82 = .ok (.goto (-75), 3) := by decide +kernel
theorem dX3_imprint_85 : decode cX3_imprint 85 = .ok (.iload_n 2, 1) := by decide +kernel
theorem dX3_imprint_86 : decode cX3_imprint 86 = .ok (.ireturn, 1) := by decide +kernel
theorem dX3_agreement_0 : decode cX3_agreement 0 = .ok (.iconst 0, 1) := by decide +kernel
theorem dX3_agreement_1 : decode cX3_agreement 1 = .ok (.istore_n 2, 1) := by decide +kernel
theorem dX3_agreement_2 : decode cX3_agreement 2 = .ok (.iconst 0, 1) := by decide +kernel
theorem dX3_agreement_3 : decode cX3_agreement 3 = .ok (.istore_n 3, 1) := by decide +kernel
theorem dX3_agreement_4 : decode cX3_agreement 4 = .ok (.iconst 0, 1) := by decide +kernel
theorem dX3_agreement_5 : decode cX3_agreement 5 = .ok (.istore 4, 2) := by decide +kernel
theorem dX3_agreement_7 : decode cX3_agreement 7 = .ok (.iload 4, 2) := by decide +kernel
theorem dX3_agreement_9 : decode cX3_agreement 9 = .ok (.bipush 16, 2) := by decide +kernel
theorem dX3_agreement_11 : decode cX3_agreement 11 = .ok (.if_icmp .ge 44, 3) := by decide +kernel
theorem dX3_agreement_14 : decode cX3_agreement 14 = .ok (.iload_n 3, 1) := by decide +kernel
theorem dX3_agreement_15 : decode cX3_agreement 15 = .ok (.bipush 8, 2) := by decide +kernel
theorem dX3_agreement_17 : decode cX3_agreement 17 = .ok (.if_icmp .ge 38, 3) := by decide +kernel
theorem dX3_agreement_20 : decode cX3_agreement 20 = .ok (.aload_n 0, 1) := by decide +kernel
theorem dX3_agreement_21 : decode cX3_agreement 21 = .ok (.iload 4, 2) := by decide +kernel
theorem dX3_agreement_23 : decode cX3_agreement 23 = .ok (.invokevirtual 71, 3) := by decide +kernel
theorem dX3_agreement_26 : decode cX3_agreement 26 = .ok (.ifCond .ne 6, 3) := by decide +kernel
theorem dX3_agreement_29 : decode cX3_agreement 29 = .ok (.goto 20, 3) := by decide +kernel
theorem dX3_agreement_32 : decode cX3_agreement 32 = .ok (.aload_n 0, 1) := by decide +kernel
theorem dX3_agreement_33 : decode cX3_agreement 33 = .ok (.iload 4, 2) := by decide +kernel
theorem dX3_agreement_35 : decode cX3_agreement 35 = .ok (.iload_n 1, 1) := by decide +kernel
theorem dX3_agreement_36 : decode cX3_agreement 36 = .ok (.iload_n 3, 1) := by decide +kernel
theorem dX3_agreement_37 : decode cX3_agreement 37 = .ok (.invokevirtual 77, 3) := by decide +kernel
theorem dX3_agreement_40 : decode cX3_agreement 40 = .ok (.ifCond .eq 6, 3) := by decide +kernel
theorem dX3_agreement_43 : decode cX3_agreement 43 = .ok (.iinc 2 1, 3) := by decide +kernel
theorem dX3_agreement_46 : decode cX3_agreement 46 = .ok (.iinc 3 1, 3) := by decide +kernel
theorem dX3_agreement_49 : decode cX3_agreement 49 = .ok (.iinc 4 1, 3) := by decide +kernel
theorem dX3_agreement_52 : decode cX3_agreement 52 = .ok (.goto (-45), 3) := by decide +kernel
theorem dX3_agreement_55 : decode cX3_agreement 55 = .ok (.iload_n 2, 1) := by decide +kernel
theorem dX3_agreement_56 : decode cX3_agreement 56 = .ok (.ireturn, 1) := by decide +kernel
theorem dX3_tellsBit_0 : decode cX3_tellsBit 0 = .ok (.aload_n 0, 1) := by decide +kernel
theorem dX3_tellsBit_1 : decode cX3_tellsBit 1 = .ok (.getfield 9, 3) := by decide +kernel
theorem dX3_tellsBit_4 : decode cX3_tellsBit 4 = .ok (.iload_n 1, 1) := by decide +kernel
theorem dX3_tellsBit_5 : decode cX3_tellsBit 5 = .ok (.iaload, 1) := by decide +kernel
theorem dX3_tellsBit_6 : decode cX3_tellsBit 6 = .ok (.iconst 1, 1) := by decide +kernel
theorem dX3_tellsBit_7 : decode cX3_tellsBit 7 = .ok (.iand, 1) := by decide +kernel
theorem dX3_tellsBit_8 : decode cX3_tellsBit 8 = .ok (.iload_n 2, 1) := by decide +kernel
theorem dX3_tellsBit_9 : decode cX3_tellsBit 9 = .ok (.iload_n 3, 1) := by decide +kernel
theorem dX3_tellsBit_10 : decode cX3_tellsBit 10 = .ok (.ishr, 1) := by decide +kernel
theorem dX3_tellsBit_11 : decode cX3_tellsBit 11 = .ok (.iconst 1, 1) := by decide +kernel
theorem dX3_tellsBit_12 : decode cX3_tellsBit 12 = .ok (.iand, 1) := by decide +kernel
theorem dX3_tellsBit_13 : decode cX3_tellsBit 13 = .ok (.if_icmp .ne 7, 3) := by decide +kernel
theorem dX3_tellsBit_16 : decode cX3_tellsBit 16 = .ok (.iconst 1, 1) := by decide +kernel
theorem dX3_tellsBit_17 : decode cX3_tellsBit 17 = .ok (.goto 4, 3) := by decide +kernel
theorem dX3_tellsBit_20 : decode cX3_tellsBit 20 = .ok (.iconst 0, 1) := by decide +kernel
theorem dX3_tellsBit_21 : decode cX3_tellsBit 21 = .ok (.ireturn, 1) := by decide +kernel
theorem dX4_init_0 : decode cX4_init 0 = .ok (.aload_n 0, 1) := by decide +kernel
theorem dX4_init_1 : decode cX4_init 1 = .ok (.invokespecial 3, 3) := by decide +kernel
theorem dX4_init_4 : decode cX4_init 4 = .ok (.aload_n 0, 1) := by decide +kernel
theorem dX4_init_5 : decode cX4_init 5 = .ok (.iconst 5, 1) := by decide +kernel
theorem dX4_init_6 : decode cX4_init 6 = .ok (.newarray .int, 2) := by decide +kernel
theorem dX4_init_8 : decode cX4_init 8 = .ok (.putfield 9, 3) := by decide +kernel
theorem dX4_init_11 : decode cX4_init 11 = .ok (.aload_n 0, 1) := by decide +kernel
theorem dX4_init_12 : decode cX4_init 12 = .ok (.bipush 60, 2) := by decide +kernel
theorem dX4_init_14 : decode cX4_init 14 = .ok (.newarray .int, 2) := by decide +kernel
theorem dX4_init_16 : decode cX4_init 16 = .ok (.putfield 15, 3) := by decide +kernel
theorem dX4_init_19 : decode cX4_init 19 = .ok (.return_, 1) := by decide +kernel
theorem dX4_keptActs_0 : decode cX4_keptActs 0 = .ok (.aload_n 0, 1) := by decide +kernel
theorem dX4_keptActs_1 : decode cX4_keptActs 1 = .ok (.getfield 9, 3) := by decide +kernel
theorem dX4_keptActs_4 : decode cX4_keptActs 4 = .ok (.aload_n 0, 1) := by decide +kernel
theorem dX4_keptActs_5 : decode cX4_keptActs 5 = .ok (.getfield 18, 3) := by decide +kernel
theorem dX4_keptActs_8 : decode cX4_keptActs 8 = .ok (.invokestatic 22, 3) := by decide +kernel
theorem dX4_keptActs_11 : decode cX4_keptActs 11 = .ok (.areturn, 1) := by decide +kernel
theorem dX4_read_0 : decode cX4_read 0 = .ok (.aload_n 1, 1) := by decide +kernel
theorem dX4_read_1 : decode cX4_read 1 = .ok (.getfield 28, 3) := by decide +kernel
theorem dX4_read_4 : decode cX4_read 4 = .ok (.iload_n 2, 1) := by decide +kernel
theorem dX4_read_5 : decode cX4_read 5 = .ok (.aload_n 0, 1) := by decide +kernel
theorem dX4_read_6 : decode cX4_read 6 = .ok (.getfield 15, 3) := by decide +kernel
theorem dX4_read_9 : decode cX4_read 9 = .ok (.iconst 0, 1) := by decide +kernel
theorem dX4_read_10 : decode cX4_read 10 = .ok (.iload_n 3, 1) := by decide +kernel
theorem dX4_read_11 : decode cX4_read 11 = .ok (.invokestatic 33, 3) := by decide +kernel
theorem dX4_read_14 : decode cX4_read 14 = .ok (.aload_n 0, 1) := by decide +kernel
theorem dX4_read_15 : decode cX4_read 15 = .ok (.iload_n 3, 1) := by decide +kernel
theorem dX4_read_16 : decode cX4_read 16 = .ok (.putfield 39, 3) := by decide +kernel
theorem dX4_read_19 : decode cX4_read 19 = .ok (.aload_n 0, 1) := by decide +kernel
theorem dX4_read_20 : decode cX4_read 20 = .ok (.iconst 0, 1) := by decide +kernel
theorem dX4_read_21 : decode cX4_read 21 = .ok (.putfield 42, 3) := by decide +kernel
theorem dX4_read_24 : decode cX4_read 24 = .ok (.aload_n 0, 1) := by decide +kernel
theorem dX4_read_25 : decode cX4_read 25 = .ok (.iconst 0, 1) := by decide +kernel
theorem dX4_read_26 : decode cX4_read 26 = .ok (.putfield 18, 3) := by decide +kernel
theorem dX4_read_29 : decode cX4_read 29 = .ok (.aload_n 0, 1) := by decide +kernel
theorem dX4_read_30 : decode cX4_read 30 = .ok (.getfield 18, 3) := by decide +kernel
theorem dX4_read_33 : decode cX4_read 33 = .ok (.iconst 5, 1) := by decide +kernel
theorem dX4_read_34 : decode cX4_read 34 = .ok (.if_icmp .ge 124, 3) := by decide +kernel
theorem dX4_read_37 : decode cX4_read 37 = .ok (.aload_n 0, 1) := by decide +kernel
theorem dX4_read_38 : decode cX4_read 38 = .ok (.invokevirtual 45, 3) := by decide +kernel
theorem dX4_read_41 : decode cX4_read 41 = .ok (.istore 4, 2) := by decide +kernel
theorem dX4_read_43 : decode cX4_read 43 = .ok (.iload 4, 2) := by decide +kernel
theorem dX4_read_45 : decode cX4_read 45 = .ok (.invokestatic 49, 3) := by decide +kernel
theorem dX4_read_48 : decode cX4_read 48 = .ok (.ifCond .ne 8, 3) := by decide +kernel
theorem dX4_read_51 : decode cX4_read 51 = .ok (.aload_n 0, 1) := by decide +kernel
theorem dX4_read_52 : decode cX4_read 52 = .ok (.getfield 42, 3) := by decide +kernel
theorem dX4_read_55 : decode cX4_read 55 = .ok (.ireturn, 1) := by decide +kernel
theorem dX4_read_56 : decode cX4_read 56 = .ok (.aload_n 0, 1) := by decide +kernel
theorem dX4_read_57 : decode cX4_read 57 = .ok (.dup, 1) := by decide +kernel
theorem dX4_read_58 : decode cX4_read 58 = .ok (.getfield 42, 3) := by decide +kernel
theorem dX4_read_61 : decode cX4_read 61 = .ok (.iconst 1, 1) := by decide +kernel
theorem dX4_read_62 : decode cX4_read 62 = .ok (.iadd, 1) := by decide +kernel
theorem dX4_read_63 : decode cX4_read 63 = .ok (.putfield 42, 3) := by decide +kernel
theorem dX4_read_66 : decode cX4_read 66 = .ok (.aload_n 0, 1) := by decide +kernel
theorem dX4_read_67 : decode cX4_read 67 = .ok (.iload 4, 2) := by decide +kernel
theorem dX4_read_69 : decode cX4_read 69 = .ok (.invokevirtual 53, 3) := by decide +kernel
theorem dX4_read_72 : decode cX4_read 72 = .ok (.ifCond .ne 8, 3) := by decide +kernel
theorem dX4_read_75 : decode cX4_read 75 = .ok (.aload_n 0, 1) := by decide +kernel
theorem dX4_read_76 : decode cX4_read 76 = .ok (.getfield 42, 3) := by decide +kernel
theorem dX4_read_79 : decode cX4_read 79 = .ok (.ireturn, 1) := by decide +kernel
theorem dX4_read_80 : decode cX4_read 80 = .ok (.aload_n 0, 1) := by decide +kernel
theorem dX4_read_81 : decode cX4_read 81 = .ok (.getfield 9, 3) := by decide +kernel
theorem dX4_read_84 : decode cX4_read 84 = .ok (.aload_n 0, 1) := by decide +kernel
theorem dX4_read_85 : decode cX4_read 85 = .ok (.getfield 18, 3) := by decide +kernel
theorem dX4_read_88 : decode cX4_read 88 = .ok (.iload 4, 2) := by decide +kernel
theorem dX4_read_90 : decode cX4_read 90 = .ok (.sipush 10000, 3) := by decide +kernel
theorem dX4_read_93 : decode cX4_read 93 = .ok (.imul, 1) := by decide +kernel
theorem dX4_read_94 : decode cX4_read 94 = .ok (.aload_n 0, 1) := by decide +kernel
theorem dX4_read_95 : decode cX4_read 95 = .ok (.getfield 56, 3) := by decide +kernel
theorem dX4_read_98 : decode cX4_read 98 = .ok (.iadd, 1) := by decide +kernel
theorem dX4_read_99 : decode cX4_read 99 = .ok (.iastore, 1) := by decide +kernel
theorem dX4_read_100 : decode cX4_read 100 = .ok (.aload_n 0, 1) := by decide +kernel
theorem dX4_read_101 : decode cX4_read 101 = .ok (.dup, 1) := by decide +kernel
theorem dX4_read_102 : decode cX4_read 102 = .ok (.getfield 18, 3) := by decide +kernel
theorem dX4_read_105 : decode cX4_read 105 = .ok (.iconst 1, 1) := by decide +kernel
theorem dX4_read_106 : decode cX4_read 106 = .ok (.iadd, 1) := by decide +kernel
theorem dX4_read_107 : decode cX4_read 107 = .ok (.putfield 18, 3) := by decide +kernel
theorem dX4_read_110 : decode cX4_read 110 = .ok (.aload_n 0, 1) := by decide +kernel
theorem dX4_read_111 : decode cX4_read 111 = .ok (.getfield 42, 3) := by decide +kernel
theorem dX4_read_114 : decode cX4_read 114 = .ok (.aload_n 0, 1) := by decide +kernel
theorem dX4_read_115 : decode cX4_read 115 = .ok (.getfield 39, 3) := by decide +kernel
theorem dX4_read_118 : decode cX4_read 118 = .ok (.if_icmp .lt 5, 3) := by decide +kernel
theorem dX4_read_121 : decode cX4_read 121 = .ok (.iconst (-1), 1) := by decide +kernel
theorem dX4_read_122 : decode cX4_read 122 = .ok (.ireturn, 1) := by decide +kernel
theorem dX4_read_123 : decode cX4_read 123 = .ok (.aload_n 0, 1) := by decide +kernel
theorem dX4_read_124 : decode cX4_read 124 = .ok (.invokevirtual 45, 3) := by decide +kernel
theorem dX4_read_127 : decode cX4_read 127 = .ok (.bipush 59, 2) := by decide +kernel
theorem dX4_read_129 : decode cX4_read 129 = .ok (.if_icmp .ne 11, 3) := by decide +kernel
theorem dX4_read_132 : decode cX4_read 132 = .ok (.aload_n 0, 1) := by decide +kernel
theorem dX4_read_133 : decode cX4_read 133 = .ok (.getfield 18, 3) := by decide +kernel
theorem dX4_read_136 : decode cX4_read 136 = .ok (.iconst 5, 1) := by decide +kernel
theorem dX4_read_137 : decode cX4_read 137 = .ok (.if_icmp .lt 8, 3) := by decide +kernel
theorem dX4_read_140 : decode cX4_read 140 = .ok (.aload_n 0, 1) := by decide +kernel
theorem dX4_read_141 : decode cX4_read 141 = .ok (.getfield 42, 3) := by decide +kernel
theorem dX4_read_144 : decode cX4_read 144 = .ok (.ireturn, 1) := by decide +kernel
theorem dX4_read_145 : decode cX4_read 145 = .ok (.aload_n 0, 1) := by decide +kernel
theorem dX4_read_146 : decode cX4_read 146 = .ok (.dup, 1) := by decide +kernel
theorem dX4_read_147 : decode cX4_read 147 = .ok (.getfield 42, 3) := by decide +kernel
theorem dX4_read_150 : decode cX4_read 150 = .ok (.iconst 1, 1) := by decide +kernel
theorem dX4_read_151 : decode cX4_read 151 = .ok (.iadd, 1) := by decide +kernel
theorem dX4_read_152 : decode cX4_read 152 = .ok (.putfield 42, 3) := by decide +kernel
theorem dX4_read_155 : decode cX4_read 155 = .ok (.goto (-126), 3) := by decide +kernel
theorem dX4_read_158 : decode cX4_read 158 = .ok (.aload_n 0, 1) := by decide +kernel
theorem dX4_read_159 : decode cX4_read 159 = .ok (.getfield 42, 3) := by decide +kernel
theorem dX4_read_162 : decode cX4_read 162 = .ok (.ireturn, 1) := by decide +kernel
theorem dX4_code_0 : decode cX4_code 0 = .ok (.aload_n 0, 1) := by decide +kernel
theorem dX4_code_1 : decode cX4_code 1 = .ok (.getfield 42, 3) := by decide +kernel
theorem dX4_code_4 : decode cX4_code 4 = .ok (.aload_n 0, 1) := by decide +kernel
theorem dX4_code_5 : decode cX4_code 5 = .ok (.getfield 39, 3) := by decide +kernel
theorem dX4_code_8 : decode cX4_code 8 = .ok (.if_icmp .ge 15, 3) := by decide +kernel
theorem dX4_code_11 : decode cX4_code 11 = .ok (.aload_n 0, 1) := by decide +kernel
theorem dX4_code_12 : decode cX4_code 12 = .ok (.getfield 15, 3) := by decide +kernel
theorem dX4_code_15 : decode cX4_code 15 = .ok (.aload_n 0, 1) := by decide +kernel
theorem dX4_code_16 : decode cX4_code 16 = .ok (.getfield 42, 3) := by decide +kernel
theorem dX4_code_19 : decode cX4_code 19 = .ok (.iaload, 1) := by decide +kernel
theorem dX4_code_20 : decode cX4_code 20 = .ok (.goto 4, 3) := by decide +kernel
theorem dX4_code_23 : decode cX4_code 23 = .ok (.iconst 0, 1) := by decide +kernel
theorem dX4_code_24 : decode cX4_code 24 = .ok (.ireturn, 1) := by decide +kernel
theorem dX4_isKind_0 : decode cX4_isKind 0 = .ok (.iload_n 0, 1) := by decide +kernel
theorem dX4_isKind_1 : decode cX4_isKind 1 = .ok (.bipush 99, 2) := by decide +kernel
theorem dX4_isKind_3 : decode cX4_isKind 3 = .ok (.if_icmp .eq 33, 3) := by decide +kernel
theorem dX4_isKind_6 : decode cX4_isKind 6 = .ok (.iload_n 0, 1) := by decide +kernel
theorem dX4_isKind_7 : decode cX4_isKind 7 = .ok (.bipush 98, 2) := by decide +kernel
theorem dX4_isKind_9 : decode cX4_isKind 9 = .ok (.if_icmp .eq 27, 3) := by decide +kernel
theorem dX4_isKind_12 : decode cX4_isKind 12 = .ok (.iload_n 0, 1) := by decide +kernel
theorem dX4_isKind_13 : decode cX4_isKind 13 = .ok (.bipush 116, 2) := by decide +kernel
theorem dX4_isKind_15 : decode cX4_isKind 15 = .ok (.if_icmp .eq 21, 3) := by decide +kernel
theorem dX4_isKind_18 : decode cX4_isKind 18 = .ok (.iload_n 0, 1) := by decide +kernel
theorem dX4_isKind_19 : decode cX4_isKind 19 = .ok (.bipush 108, 2) := by decide +kernel
theorem dX4_isKind_21 : decode cX4_isKind 21 = .ok (.if_icmp .eq 15, 3) := by decide +kernel
theorem dX4_isKind_24 : decode cX4_isKind 24 = .ok (.iload_n 0, 1) := by decide +kernel
theorem dX4_isKind_25 : decode cX4_isKind 25 = .ok (.bipush 109, 2) := by decide +kernel
theorem dX4_isKind_27 : decode cX4_isKind 27 = .ok (.if_icmp .eq 9, 3) := by decide +kernel
theorem dX4_isKind_30 : decode cX4_isKind 30 = .ok (.iload_n 0, 1) := by decide +kernel
theorem dX4_isKind_31 : decode cX4_isKind 31 = .ok (.bipush 113, 2) := by decide +kernel
theorem dX4_isKind_33 : decode cX4_isKind 33 = .ok (.if_icmp .ne 7, 3) := by decide +kernel
theorem dX4_isKind_36 : decode cX4_isKind 36 = .ok (.iconst 1, 1) := by decide +kernel
theorem dX4_isKind_37 : decode cX4_isKind 37 = .ok (.goto 4, 3) := by decide +kernel
theorem dX4_isKind_40 : decode cX4_isKind 40 = .ok (.iconst 0, 1) := by decide +kernel
theorem dX4_isKind_41 : decode cX4_isKind 41 = .ok (.ireturn, 1) := by decide +kernel
theorem dX4_readNumber_0 : decode cX4_readNumber 0 = .ok (.aload_n 0, 1) := by decide +kernel
theorem dX4_readNumber_1 : decode cX4_readNumber 1 = .ok (.iconst 0, 1) := by decide +kernel
theorem dX4_readNumber_2 : decode cX4_readNumber 2 = .ok (.putfield 56, 3) := by decide +kernel
theorem dX4_readNumber_5 : decode cX4_readNumber 5 = .ok (.iload_n 1, 1) := by decide +kernel
theorem dX4_readNumber_6 : decode cX4_readNumber 6 = .ok (.lookupswitch 94 #[(98, 50), (99, 50), (108, 89), (109, 89), (113, 65)], 50) := by decide +kernel
theorem dX4_readNumber_56 : decode cX4_readNumber 56 = .ok (.aload_n 0, 1) := by decide +kernel
theorem dX4_readNumber_57 : decode cX4_readNumber 57 = .ok (.iconst 4, 1) := by decide +kernel
theorem dX4_readNumber_58 : decode cX4_readNumber 58 = .ok (.invokevirtual 59, 3) := by decide +kernel
theorem dX4_readNumber_61 : decode cX4_readNumber 61 = .ok (.iconst 4, 1) := by decide +kernel
theorem dX4_readNumber_62 : decode cX4_readNumber 62 = .ok (.if_icmp .ne 7, 3) := by decide +kernel
theorem dX4_readNumber_65 : decode cX4_readNumber 65 = .ok (.iconst 1, 1) := by decide +kernel
theorem dX4_readNumber_66 : decode cX4_readNumber 66 = .ok (.goto 4, 3) := by decide +kernel
theorem dX4_readNumber_69 : decode cX4_readNumber 69 = .ok (.iconst 0, 1) := by decide +kernel
theorem dX4_readNumber_70 : decode cX4_readNumber 70 = .ok (.ireturn, 1) := by decide +kernel
theorem dX4_readNumber_71 : decode cX4_readNumber 71 = .ok (.aload_n 0, 1) := by decide +kernel
theorem dX4_readNumber_72 : decode cX4_readNumber 72 = .ok (.invokevirtual 45, 3) := by decide +kernel
theorem dX4_readNumber_75 : decode cX4_readNumber 75 = .ok (.bipush 50, 2) := by decide +kernel
theorem dX4_readNumber_77 : decode cX4_readNumber 77 = .ok (.if_icmp .lt 16, 3) := by decide +kernel
theorem dX4_readNumber_80 : decode cX4_readNumber 80 = .ok (.aload_n 0, 1) := by decide +kernel
theorem dX4_readNumber_81 : decode cX4_readNumber 81 = .ok (.iconst 1, 1) := by decide +kernel
theorem dX4_readNumber_82 : decode cX4_readNumber 82 = .ok (.invokevirtual 59, 3) := by decide +kernel
theorem dX4_readNumber_85 : decode cX4_readNumber 85 = .ok (.iconst 1, 1) := by decide +kernel
theorem dX4_readNumber_86 : decode cX4_readNumber 86 = .ok (.if_icmp .ne 7, 3) := by decide +kernel
theorem dX4_readNumber_89 : decode cX4_readNumber 89 = .ok (.iconst 1, 1) := by decide +kernel
theorem dX4_readNumber_90 : decode cX4_readNumber 90 = .ok (.goto 4, 3) := by decide +kernel
theorem dX4_readNumber_93 : decode cX4_readNumber 93 = .ok (.iconst 0, 1) := by decide +kernel
theorem dX4_readNumber_94 : decode cX4_readNumber 94 = .ok (.ireturn, 1) := by decide +kernel
theorem dX4_readNumber_95 : decode cX4_readNumber 95 = .ok (.aload_n 0, 1) := by decide +kernel
theorem dX4_readNumber_96 : decode cX4_readNumber 96 = .ok (.invokevirtual 63, 3) := by decide +kernel
theorem dX4_readNumber_99 : decode cX4_readNumber 99 = .ok (.ireturn, 1) := by decide +kernel
theorem dX4_readNumber_100 : decode cX4_readNumber 100 = .ok (.iconst 1, 1) := by decide +kernel
theorem dX4_readNumber_101 : decode cX4_readNumber 101 = .ok (.ireturn, 1) := by decide +kernel
theorem dX4_readShift_0 : decode cX4_readShift 0 = .ok (.aload_n 0, 1) := by decide +kernel
theorem dX4_readShift_1 : decode cX4_readShift 1 = .ok (.iconst 2, 1) := by decide +kernel
theorem dX4_readShift_2 : decode cX4_readShift 2 = .ok (.invokevirtual 59, 3) := by decide +kernel
theorem dX4_readShift_5 : decode cX4_readShift 5 = .ok (.istore_n 1, 1) := by decide +kernel
theorem dX4_readShift_6 : decode cX4_readShift 6 = .ok (.aload_n 0, 1) := by decide +kernel
theorem dX4_readShift_7 : decode cX4_readShift 7 = .ok (.getfield 56, 3) := by decide +kernel
theorem dX4_readShift_10 : decode cX4_readShift 10 = .ok (.ifCond .ne 13, 3) := by decide +kernel
theorem dX4_readShift_13 : decode cX4_readShift 13 = .ok (.aload_n 0, 1) := by decide +kernel
theorem dX4_readShift_14 : decode cX4_readShift 14 = .ok (.dup, 1) := by decide +kernel
theorem dX4_readShift_15 : decode cX4_readShift 15 = .ok (.getfield 42, 3) := by decide +kernel
theorem dX4_readShift_18 : decode cX4_readShift 18 = .ok (.iload_n 1, 1) := by decide +kernel
theorem dX4_readShift_19 : decode cX4_readShift 19 = .ok (.isub, 1) := by decide +kernel
theorem dX4_readShift_20 : decode cX4_readShift 20 = .ok (.putfield 42, 3) := by decide +kernel
theorem dX4_readShift_23 : decode cX4_readShift 23 = .ok (.aload_n 0, 1) := by decide +kernel
theorem dX4_readShift_24 : decode cX4_readShift 24 = .ok (.getfield 56, 3) := by decide +kernel
theorem dX4_readShift_27 : decode cX4_readShift 27 = .ok (.ifCond .le 7, 3) := by decide +kernel
theorem dX4_readShift_30 : decode cX4_readShift 30 = .ok (.iconst 1, 1) := by decide +kernel
theorem dX4_readShift_31 : decode cX4_readShift 31 = .ok (.goto 4, 3) := by decide +kernel
theorem dX4_readShift_34 : decode cX4_readShift 34 = .ok (.iconst 0, 1) := by decide +kernel
theorem dX4_readShift_35 : decode cX4_readShift 35 = .ok (.ireturn, 1) := by decide +kernel
theorem dX4_readDigits_0 : decode cX4_readDigits 0 = .ok (.iconst 0, 1) := by decide +kernel
theorem dX4_readDigits_1 : decode cX4_readDigits 1 = .ok (.istore_n 2, 1) := by decide +kernel
theorem dX4_readDigits_2 : decode cX4_readDigits 2 = .ok (.iload_n 2, 1) := by decide +kernel
theorem dX4_readDigits_3 : decode cX4_readDigits 3 = .ok (.iload_n 1, 1) := by decide +kernel
theorem dX4_readDigits_4 : decode cX4_readDigits 4 = .ok (.if_icmp .ge 56, 3) := by decide +kernel
theorem dX4_readDigits_7 : decode cX4_readDigits 7 = .ok (.aload_n 0, 1) := by decide +kernel
theorem dX4_readDigits_8 : decode cX4_readDigits 8 = .ok (.invokevirtual 45, 3) := by decide +kernel
theorem dX4_readDigits_11 : decode cX4_readDigits 11 = .ok (.bipush 48, 2) := by decide +kernel
theorem dX4_readDigits_13 : decode cX4_readDigits 13 = .ok (.if_icmp .lt 47, 3) := by decide +kernel
theorem dX4_readDigits_16 : decode cX4_readDigits 16 = .ok (.aload_n 0, 1) := by decide +kernel
theorem dX4_readDigits_17 : decode cX4_readDigits 17 = .ok (.invokevirtual 45, 3) := by decide +kernel
theorem dX4_readDigits_20 : decode cX4_readDigits 20 = .ok (.bipush 57, 2) := by decide +kernel
theorem dX4_readDigits_22 : decode cX4_readDigits 22 = .ok (.if_icmp .gt 38, 3) := by decide +kernel
theorem dX4_readDigits_25 : decode cX4_readDigits 25 = .ok (.aload_n 0, 1) := by decide +kernel
theorem dX4_readDigits_26 : decode cX4_readDigits 26 = .ok (.bipush 10, 2) := by decide +kernel
theorem dX4_readDigits_28 : decode cX4_readDigits 28 = .ok (.aload_n 0, 1) := by decide +kernel
theorem dX4_readDigits_29 : decode cX4_readDigits 29 = .ok (.getfield 56, 3) := by decide +kernel
theorem dX4_readDigits_32 : decode cX4_readDigits 32 = .ok (.imul, 1) := by decide +kernel
theorem dX4_readDigits_33 : decode cX4_readDigits 33 = .ok (.aload_n 0, 1) := by decide +kernel
theorem dX4_readDigits_34 : decode cX4_readDigits 34 = .ok (.invokevirtual 45, 3) := by decide +kernel
theorem dX4_readDigits_37 : decode cX4_readDigits 37 = .ok (.iadd, 1) := by decide +kernel
theorem dX4_readDigits_38 : decode cX4_readDigits 38 = .ok (.bipush 48, 2) := by decide +kernel
theorem dX4_readDigits_40 : decode cX4_readDigits 40 = .ok (.isub, 1) := by decide +kernel
theorem dX4_readDigits_41 : decode cX4_readDigits 41 = .ok (.putfield 56, 3) := by decide +kernel
theorem dX4_readDigits_44 : decode cX4_readDigits 44 = .ok (.aload_n 0, 1) := by decide +kernel
theorem dX4_readDigits_45 : decode cX4_readDigits 45 = .ok (.dup, 1) := by decide +kernel
theorem dX4_readDigits_46 : decode cX4_readDigits 46 = .ok (.getfield 42, 3) := by decide +kernel
theorem dX4_readDigits_49 : decode cX4_readDigits 49 = .ok (.iconst 1, 1) := by decide +kernel
theorem dX4_readDigits_50 : decode cX4_readDigits 50 = .ok (.iadd, 1) := by decide +kernel
theorem dX4_readDigits_51 : decode cX4_readDigits 51 = .ok (.putfield 42, 3) := by decide +kernel
theorem dX4_readDigits_54 : decode cX4_readDigits 54 = .ok (.iinc 2 1, 3) := by decide +kernel
theorem dX4_readDigits_57 : decode cX4_readDigits 57 = .ok (.goto (-55), 3) := by decide +kernel
theorem dX4_readDigits_60 : decode cX4_readDigits 60 = .ok (.iload_n 2, 1) := by decide +kernel
theorem dX4_readDigits_61 : decode cX4_readDigits 61 = .ok (.ireturn, 1) := by decide +kernel
theorem dX5_init_0 : decode cX5_init 0 = .ok (.aload_n 0, 1) := by decide +kernel
theorem dX5_init_1 : decode cX5_init 1 = .ok (.invokespecial 3, 3) := by decide +kernel
theorem dX5_init_4 : decode cX5_init 4 = .ok (.aload_n 0, 1) := by decide +kernel
theorem dX5_init_5 : decode cX5_init 5 = .ok (.bipush 60, 2) := by decide +kernel
theorem dX5_init_7 : decode cX5_init 7 = .ok (.newarray .int, 2) := by decide +kernel
theorem dX5_init_9 : decode cX5_init 9 = .ok (.putfield 9, 3) := by decide +kernel
theorem dX5_init_12 : decode cX5_init 12 = .ok (.return_, 1) := by decide +kernel
theorem dX5_renew_0 : decode cX5_renew 0 = .ok (.aload_n 0, 1) := by decide +kernel
theorem dX5_renew_1 : decode cX5_renew 1 = .ok (.iconst 1, 1) := by decide +kernel
theorem dX5_renew_2 : decode cX5_renew 2 = .ok (.putfield 15, 3) := by decide +kernel
theorem dX5_renew_5 : decode cX5_renew 5 = .ok (.aload_n 0, 1) := by decide +kernel
theorem dX5_renew_6 : decode cX5_renew 6 = .ok (.iload_n 1, 1) := by decide +kernel
theorem dX5_renew_7 : decode cX5_renew 7 = .ok (.putfield 19, 3) := by decide +kernel
theorem dX5_renew_10 : decode cX5_renew 10 = .ok (.aload_n 0, 1) := by decide +kernel
theorem dX5_renew_11 : decode cX5_renew 11 = .ok (.iload_n 2, 1) := by decide +kernel
theorem dX5_renew_12 : decode cX5_renew 12 = .ok (.putfield 23, 3) := by decide +kernel
theorem dX5_renew_15 : decode cX5_renew 15 = .ok (.aload_n 0, 1) := by decide +kernel
theorem dX5_renew_16 : decode cX5_renew 16 = .ok (.getfield 9, 3) := by decide +kernel
theorem dX5_renew_19 : decode cX5_renew 19 = .ok (.iconst 0, 1) := by decide +kernel
theorem dX5_renew_20 : decode cX5_renew 20 = .ok (.invokestatic 26, 3) := by decide +kernel
theorem dX5_renew_23 : decode cX5_renew 23 = .ok (.return_, 1) := by decide +kernel
theorem dX5_faultOf_0 : decode cX5_faultOf 0 = .ok (.aload_n 0, 1) := by decide +kernel
theorem dX5_faultOf_1 : decode cX5_faultOf 1 = .ok (.getfield 15, 3) := by decide +kernel
theorem dX5_faultOf_4 : decode cX5_faultOf 4 = .ok (.ifCond .ne 5, 3) := by decide +kernel
theorem dX5_faultOf_7 : decode cX5_faultOf 7 = .ok (.iconst 1, 1) := by decide +kernel
theorem dX5_faultOf_8 : decode cX5_faultOf 8 = .ok (.ireturn, 1) := by decide +kernel
theorem dX5_faultOf_9 : decode cX5_faultOf 9 = .ok (.aload_n 0, 1) := by decide +kernel
theorem dX5_faultOf_10 : decode cX5_faultOf 10 = .ok (.getfield 19, 3) := by decide +kernel
theorem dX5_faultOf_13 : decode cX5_faultOf 13 = .ok (.iload_n 1, 1) := by decide +kernel
theorem dX5_faultOf_14 : decode cX5_faultOf 14 = .ok (.if_icmp .eq 5, 3) := by decide +kernel
theorem dX5_faultOf_17 : decode cX5_faultOf 17 = .ok (.iconst 2, 1) := by decide +kernel
theorem dX5_faultOf_18 : decode cX5_faultOf 18 = .ok (.ireturn, 1) := by decide +kernel
theorem dX5_faultOf_19 : decode cX5_faultOf 19 = .ok (.iload_n 3, 1) := by decide +kernel
theorem dX5_faultOf_20 : decode cX5_faultOf 20 = .ok (.ifCond .ge 5, 3) := by decide +kernel
theorem dX5_faultOf_23 : decode cX5_faultOf 23 = .ok (.iconst 4, 1) := by decide +kernel
theorem dX5_faultOf_24 : decode cX5_faultOf 24 = .ok (.ireturn, 1) := by decide +kernel
theorem dX5_faultOf_25 : decode cX5_faultOf 25 = .ok (.aload_n 0, 1) := by decide +kernel
theorem dX5_faultOf_26 : decode cX5_faultOf 26 = .ok (.iload_n 2, 1) := by decide +kernel
theorem dX5_faultOf_27 : decode cX5_faultOf 27 = .ok (.iload_n 3, 1) := by decide +kernel
theorem dX5_faultOf_28 : decode cX5_faultOf 28 = .ok (.invokevirtual 32, 3) := by decide +kernel
theorem dX5_faultOf_31 : decode cX5_faultOf 31 = .ok (.ifCond .eq 7, 3) := by decide +kernel
theorem dX5_faultOf_34 : decode cX5_faultOf 34 = .ok (.iconst 3, 1) := by decide +kernel
theorem dX5_faultOf_35 : decode cX5_faultOf 35 = .ok (.goto 4, 3) := by decide +kernel
theorem dX5_faultOf_38 : decode cX5_faultOf 38 = .ok (.iconst 0, 1) := by decide +kernel
theorem dX5_faultOf_39 : decode cX5_faultOf 39 = .ok (.ireturn, 1) := by decide +kernel
theorem dX5_lacks_0 : decode cX5_lacks 0 = .ok (.iload_n 1, 1) := by decide +kernel
theorem dX5_lacks_1 : decode cX5_lacks 1 = .ok (.ifCond .lt 13, 3) := by decide +kernel
theorem dX5_lacks_4 : decode cX5_lacks 4 = .ok (.iload_n 1, 1) := by decide +kernel
theorem dX5_lacks_5 : decode cX5_lacks 5 = .ok (.aload_n 0, 1) := by decide +kernel
theorem dX5_lacks_6 : decode cX5_lacks 6 = .ok (.getfield 23, 3) := by decide +kernel
theorem dX5_lacks_9 : decode cX5_lacks 9 = .ok (.iload_n 2, 1) := by decide +kernel
theorem dX5_lacks_10 : decode cX5_lacks 10 = .ok (.isub, 1) := by decide +kernel
theorem dX5_lacks_11 : decode cX5_lacks 11 = .ok (.if_icmp .le 7, 3) := by decide +kernel
theorem dX5_lacks_14 : decode cX5_lacks 14 = .ok (.iconst 1, 1) := by decide +kernel
theorem dX5_lacks_15 : decode cX5_lacks 15 = .ok (.goto 4, 3) := by decide +kernel
theorem dX5_lacks_18 : decode cX5_lacks 18 = .ok (.iconst 0, 1) := by decide +kernel
theorem dX5_lacks_19 : decode cX5_lacks 19 = .ok (.ireturn, 1) := by decide +kernel
theorem dX5_holdsSquares_0 : decode cX5_holdsSquares 0 = .ok (.iconst 0, 1) := by decide +kernel
theorem dX5_holdsSquares_1 : decode cX5_holdsSquares 1 = .ok (.istore_n 3, 1) := by decide +kernel
theorem dX5_holdsSquares_2 : decode cX5_holdsSquares 2 = .ok (.iload_n 3, 1) := by decide +kernel
theorem dX5_holdsSquares_3 : decode cX5_holdsSquares 3 = .ok (.iload_n 2, 1) := by decide +kernel
theorem dX5_holdsSquares_4 : decode cX5_holdsSquares 4 = .ok (.if_icmp .ge 27, 3) := by decide +kernel
theorem dX5_holdsSquares_7 : decode cX5_holdsSquares 7 = .ok (.aload_n 0, 1) := by decide +kernel
theorem dX5_holdsSquares_8 : decode cX5_holdsSquares 8 = .ok (.iload_n 1, 1) := by decide +kernel
theorem dX5_holdsSquares_9 : decode cX5_holdsSquares 9 = .ok (.iload_n 3, 1) := by decide +kernel
theorem dX5_holdsSquares_10 : decode cX5_holdsSquares 10 = .ok (.iadd, 1) := by decide +kernel
theorem dX5_holdsSquares_11 : decode cX5_holdsSquares 11 = .ok (.invokevirtual 36, 3) := by decide +kernel
theorem dX5_holdsSquares_14 : decode cX5_holdsSquares 14 = .ok (.iconst 0, 1) := by decide +kernel
theorem dX5_holdsSquares_15 : decode cX5_holdsSquares 15 = .ok (.bipush 99, 2) := by decide +kernel
theorem dX5_holdsSquares_17 : decode cX5_holdsSquares 17 = .ok (.invokestatic 40, 3) := by decide +kernel
theorem dX5_holdsSquares_20 : decode cX5_holdsSquares 20 = .ok (.ifCond .ne 5, 3) := by decide +kernel
theorem dX5_holdsSquares_23 : decode cX5_holdsSquares 23 = .ok (.iconst 0, 1) := by decide +kernel
theorem dX5_holdsSquares_24 : decode cX5_holdsSquares 24 = .ok (.ireturn, 1) := by decide +kernel
theorem dX5_holdsSquares_25 : decode cX5_holdsSquares 25 = .ok (.iinc 3 1, 3) := by decide +kernel
theorem dX5_holdsSquares_28 : decode cX5_holdsSquares 28 = .ok (.goto (-26), 3) := by decide +kernel
theorem dX5_holdsSquares_31 : decode cX5_holdsSquares 31 = .ok (.iconst 1, 1) := by decide +kernel
theorem dX5_holdsSquares_32 : decode cX5_holdsSquares 32 = .ok (.ireturn, 1) := by decide +kernel
theorem dX5_at_0 : decode cX5_at 0 = .ok (.iload_n 1, 1) := by decide +kernel
theorem dX5_at_1 : decode cX5_at 1 = .ok (.iconst 0, 1) := by decide +kernel
theorem dX5_at_2 : decode cX5_at 2 = .ok (.aload_n 0, 1) := by decide +kernel
theorem dX5_at_3 : decode cX5_at 3 = .ok (.getfield 23, 3) := by decide +kernel
theorem dX5_at_6 : decode cX5_at 6 = .ok (.iconst 1, 1) := by decide +kernel
theorem dX5_at_7 : decode cX5_at 7 = .ok (.isub, 1) := by decide +kernel
theorem dX5_at_8 : decode cX5_at 8 = .ok (.invokestatic 40, 3) := by decide +kernel
theorem dX5_at_11 : decode cX5_at 11 = .ok (.ifCond .eq 12, 3) := by decide +kernel
theorem dX5_at_14 : decode cX5_at 14 = .ok (.aload_n 0, 1) := by decide +kernel
theorem dX5_at_15 : decode cX5_at 15 = .ok (.getfield 9, 3) := by decide +kernel
theorem dX5_at_18 : decode cX5_at 18 = .ok (.iload_n 1, 1) := by decide +kernel
theorem dX5_at_19 : decode cX5_at 19 = .ok (.iaload, 1) := by decide +kernel
theorem dX5_at_20 : decode cX5_at 20 = .ok (.goto 4, 3) := by decide +kernel
theorem dX5_at_23 : decode cX5_at 23 = .ok (.iconst 0, 1) := by decide +kernel
theorem dX5_at_24 : decode cX5_at 24 = .ok (.ireturn, 1) := by decide +kernel
theorem dX5_write_0 : decode cX5_write 0 = .ok (.iload_n 1, 1) := by decide +kernel
theorem dX5_write_1 : decode cX5_write 1 = .ok (.iconst 0, 1) := by decide +kernel
theorem dX5_write_2 : decode cX5_write 2 = .ok (.aload_n 0, 1) := by decide +kernel
theorem dX5_write_3 : decode cX5_write 3 = .ok (.getfield 23, 3) := by decide +kernel
theorem dX5_write_6 : decode cX5_write 6 = .ok (.iconst 1, 1) := by decide +kernel
theorem dX5_write_7 : decode cX5_write 7 = .ok (.isub, 1) := by decide +kernel
theorem dX5_write_8 : decode cX5_write 8 = .ok (.invokestatic 40, 3) := by decide +kernel
theorem dX5_write_11 : decode cX5_write 11 = .ok (.ifCond .eq 35, 3) := by decide +kernel
theorem dX5_write_14 : decode cX5_write 14 = .ok (.aload_n 0, 1) := by decide +kernel
theorem dX5_write_15 : decode cX5_write 15 = .ok (.getfield 9, 3) := by decide +kernel
theorem dX5_write_18 : decode cX5_write 18 = .ok (.iload_n 1, 1) := by decide +kernel
theorem dX5_write_19 : decode cX5_write 19 = .ok (.aload_n 0, 1) := by decide +kernel
theorem dX5_write_20 : decode cX5_write 20 = .ok (.getfield 19, 3) := by decide +kernel
theorem dX5_write_23 : decode cX5_write 23 = .ok (.ifCond .ne 8, 3) := by decide +kernel
theorem dX5_write_26 : decode cX5_write 26 = .ok (.iload_n 2, 1) := by decide +kernel
theorem dX5_write_27 : decode cX5_write 27 = .ok (.i2b, 1) := by decide +kernel
theorem dX5_write_28 : decode cX5_write 28 = .ok (.goto 17, 3) := by decide +kernel
theorem dX5_write_31 : decode cX5_write 31 = .ok (.aload_n 0, 1) := by decide +kernel
theorem dX5_write_32 : decode cX5_write 32 = .ok (.getfield 19, 3) := by decide +kernel
theorem dX5_write_35 : decode cX5_write 35 = .ok (.iconst 1, 1) := by decide +kernel
theorem dX5_write_36 : decode cX5_write 36 = .ok (.if_icmp .ne 8, 3) := by decide +kernel
theorem dX5_write_39 : decode cX5_write 39 = .ok (.iload_n 2, 1) := by decide +kernel
theorem dX5_write_40 : decode cX5_write 40 = .ok (.i2s, 1) := by decide +kernel
theorem dX5_write_41 : decode cX5_write 41 = .ok (.goto 4, 3) := by decide +kernel
theorem dX5_write_44 : decode cX5_write 44 = .ok (.iload_n 2, 1) := by decide +kernel
theorem dX5_write_45 : decode cX5_write 45 = .ok (.iastore, 1) := by decide +kernel
theorem dX5_write_46 : decode cX5_write 46 = .ok (.return_, 1) := by decide +kernel
theorem dX6_init_0 : decode cX6_init 0 = .ok (.aload_n 0, 1) := by decide +kernel
theorem dX6_init_1 : decode cX6_init 1 = .ok (.aload_n 1, 1) := by decide +kernel
theorem dX6_init_2 : decode cX6_init 2 = .ok (.iload_n 2, 1) := by decide +kernel
theorem dX6_init_3 : decode cX6_init 3 = .ok (.iload_n 3, 1) := by decide +kernel
theorem dX6_init_4 : decode cX6_init 4 = .ok (.aload 4, 2) := by decide +kernel
theorem dX6_init_6 : decode cX6_init 6 = .ok (.getstatic 3, 3) := by decide +kernel
theorem dX6_init_9 : decode cX6_init 9 = .ok (.invokespecial 7, 3) := by decide +kernel
theorem dX6_init_12 : decode cX6_init 12 = .ok (.return_, 1) := by decide +kernel
theorem dX6_kind_0 : decode cX6_kind 0 = .ok (.iconst 2, 1) := by decide +kernel
theorem dX6_kind_1 : decode cX6_kind 1 = .ok (.ireturn, 1) := by decide +kernel
theorem dX6_telling_0 : decode cX6_telling 0 = .ok (.aload_n 1, 1) := by decide +kernel
theorem dX6_telling_1 : decode cX6_telling 1 = .ok (.iconst 3, 1) := by decide +kernel
theorem dX6_telling_2 : decode cX6_telling 2 = .ok (.invokevirtual 13, 3) := by decide +kernel
theorem dX6_telling_5 : decode cX6_telling 5 = .ok (.aload_n 0, 1) := by decide +kernel
theorem dX6_telling_6 : decode cX6_telling 6 = .ok (.aload_n 1, 1) := by decide +kernel
theorem dX6_telling_7 : decode cX6_telling 7 = .ok (.invokespecial 19, 3) := by decide +kernel
theorem dX6_telling_10 : decode cX6_telling 10 = .ok (.aload_n 0, 1) := by decide +kernel
theorem dX6_telling_11 : decode cX6_telling 11 = .ok (.aload_n 1, 1) := by decide +kernel
theorem dX6_telling_12 : decode cX6_telling 12 = .ok (.invokevirtual 23, 3) := by decide +kernel
theorem dX6_telling_15 : decode cX6_telling 15 = .ok (.iadd, 1) := by decide +kernel
theorem dX6_telling_16 : decode cX6_telling 16 = .ok (.ireturn, 1) := by decide +kernel
theorem dX6_showing_0 : decode cX6_showing 0 = .ok (.aload_n 1, 1) := by decide +kernel
theorem dX6_showing_1 : decode cX6_showing 1 = .ok (.iconst 5, 1) := by decide +kernel
theorem dX6_showing_2 : decode cX6_showing 2 = .ok (.invokevirtual 13, 3) := by decide +kernel
theorem dX6_showing_5 : decode cX6_showing 5 = .ok (.bipush 33, 2) := by decide +kernel
theorem dX6_showing_7 : decode cX6_showing 7 = .ok (.ireturn, 1) := by decide +kernel
theorem dX7_init_0 : decode cX7_init 0 = .ok (.aload_n 0, 1) := by decide +kernel
theorem dX7_init_1 : decode cX7_init 1 = .ok (.invokespecial 3, 3) := by decide +kernel
theorem dX7_init_4 : decode cX7_init 4 = .ok (.aload_n 0, 1) := by decide +kernel
theorem dX7_init_5 : decode cX7_init 5 = .ok (.aload_n 1, 1) := by decide +kernel
theorem dX7_init_6 : decode cX7_init 6 = .ok (.putfield 9, 3) := by decide +kernel
theorem dX7_init_9 : decode cX7_init 9 = .ok (.aload_n 0, 1) := by decide +kernel
theorem dX7_init_10 : decode cX7_init 10 = .ok (.iload_n 2, 1) := by decide +kernel
theorem dX7_init_11 : decode cX7_init 11 = .ok (.putfield 15, 3) := by decide +kernel
theorem dX7_init_14 : decode cX7_init 14 = .ok (.aload_n 0, 1) := by decide +kernel
theorem dX7_init_15 : decode cX7_init 15 = .ok (.iload_n 3, 1) := by decide +kernel
theorem dX7_init_16 : decode cX7_init 16 = .ok (.putfield 19, 3) := by decide +kernel
theorem dX7_init_19 : decode cX7_init 19 = .ok (.return_, 1) := by decide +kernel
theorem dX7_kind_0 : decode cX7_kind 0 = .ok (.iconst 0, 1) := by decide +kernel
theorem dX7_kind_1 : decode cX7_kind 1 = .ok (.ireturn, 1) := by decide +kernel
theorem dX7_origin_0 : decode cX7_origin 0 = .ok (.aconst_null, 1) := by decide +kernel
theorem dX7_origin_1 : decode cX7_origin 1 = .ok (.areturn, 1) := by decide +kernel
theorem dX7_acts_0 : decode cX7_acts 0 = .ok (.getstatic 22, 3) := by decide +kernel
theorem dX7_acts_3 : decode cX7_acts 3 = .ok (.areturn, 1) := by decide +kernel
theorem dX7_telling_0 : decode cX7_telling 0 = .ok (.aload_n 0, 1) := by decide +kernel
theorem dX7_telling_1 : decode cX7_telling 1 = .ok (.aload_n 1, 1) := by decide +kernel
theorem dX7_telling_2 : decode cX7_telling 2 = .ok (.invokevirtual 26, 3) := by decide +kernel
theorem dX7_telling_5 : decode cX7_telling 5 = .ok (.ireturn, 1) := by decide +kernel
theorem dX7_takenTelling_0 : decode cX7_takenTelling 0 = .ok (.aload_n 1, 1) := by decide +kernel
theorem dX7_takenTelling_1 : decode cX7_takenTelling 1 = .ok (.iconst 1, 1) := by decide +kernel
theorem dX7_takenTelling_2 : decode cX7_takenTelling 2 = .ok (.invokevirtual 30, 3) := by decide +kernel
theorem dX7_takenTelling_5 : decode cX7_takenTelling 5 = .ok (.aload_n 0, 1) := by decide +kernel
theorem dX7_takenTelling_6 : decode cX7_takenTelling 6 = .ok (.getfield 15, 3) := by decide +kernel
theorem dX7_takenTelling_9 : decode cX7_takenTelling 9 = .ok (.ireturn, 1) := by decide +kernel
theorem dX7_showing_0 : decode cX7_showing 0 = .ok (.aload_n 1, 1) := by decide +kernel
theorem dX7_showing_1 : decode cX7_showing 1 = .ok (.iconst 4, 1) := by decide +kernel
theorem dX7_showing_2 : decode cX7_showing 2 = .ok (.invokevirtual 30, 3) := by decide +kernel
theorem dX7_showing_5 : decode cX7_showing 5 = .ok (.aload_n 0, 1) := by decide +kernel
theorem dX7_showing_6 : decode cX7_showing 6 = .ok (.getfield 19, 3) := by decide +kernel
theorem dX7_showing_9 : decode cX7_showing 9 = .ok (.ireturn, 1) := by decide +kernel
theorem dX8_init_0 : decode cX8_init 0 = .ok (.aload_n 0, 1) := by decide +kernel
theorem dX8_init_1 : decode cX8_init 1 = .ok (.invokespecial 1, 3) := by decide +kernel
theorem dX8_init_4 : decode cX8_init 4 = .ok (.return_, 1) := by decide +kernel
theorem dX8_leave_0 : decode cX8_leave 0 = .ok (.aload_n 0, 1) := by decide +kernel
theorem dX8_leave_1 : decode cX8_leave 1 = .ok (.bipush 31, 2) := by decide +kernel
theorem dX8_leave_3 : decode cX8_leave 3 = .ok (.aload_n 0, 1) := by decide +kernel
theorem dX8_leave_4 : decode cX8_leave 4 = .ok (.getfield 7, 3) := by decide +kernel
theorem dX8_leave_7 : decode cX8_leave 7 = .ok (.imul, 1) := by decide +kernel
theorem dX8_leave_8 : decode cX8_leave 8 = .ok (.iload_n 1, 1) := by decide +kernel
theorem dX8_leave_9 : decode cX8_leave 9 = .ok (.iadd, 1) := by decide +kernel
theorem dX8_leave_10 : decode cX8_leave 10 = .ok (.putfield 7, 3) := by decide +kernel
theorem dX8_leave_13 : decode cX8_leave 13 = .ok (.return_, 1) := by decide +kernel
theorem dX9_init_0 : decode cX9_init 0 = .ok (.aload_n 0, 1) := by decide +kernel
theorem dX9_init_1 : decode cX9_init 1 = .ok (.invokespecial 3, 3) := by decide +kernel
theorem dX9_init_4 : decode cX9_init 4 = .ok (.aload_n 0, 1) := by decide +kernel
theorem dX9_init_5 : decode cX9_init 5 = .ok (.bipush 32, 2) := by decide +kernel
theorem dX9_init_7 : decode cX9_init 7 = .ok (.newarray .int, 2) := by decide +kernel
theorem dX9_init_9 : decode cX9_init 9 = .ok (.putfield 9, 3) := by decide +kernel
theorem dX9_init_12 : decode cX9_init 12 = .ok (.return_, 1) := by decide +kernel
theorem dX9_above_0 : decode cX9_above 0 = .ok (.bipush 31, 2) := by decide +kernel
theorem dX9_above_2 : decode cX9_above 2 = .ok (.iload_n 0, 1) := by decide +kernel
theorem dX9_above_3 : decode cX9_above 3 = .ok (.imul, 1) := by decide +kernel
theorem dX9_above_4 : decode cX9_above 4 = .ok (.bipush 17, 2) := by decide +kernel
theorem dX9_above_6 : decode cX9_above 6 = .ok (.iload_n 1, 1) := by decide +kernel
theorem dX9_above_7 : decode cX9_above 7 = .ok (.imul, 1) := by decide +kernel
theorem dX9_above_8 : decode cX9_above 8 = .ok (.iadd, 1) := by decide +kernel
theorem dX9_above_9 : decode cX9_above 9 = .ok (.iconst 5, 1) := by decide +kernel
theorem dX9_above_10 : decode cX9_above 10 = .ok (.iadd, 1) := by decide +kernel
theorem dX9_above_11 : decode cX9_above 11 = .ok (.sipush 9973, 3) := by decide +kernel
theorem dX9_above_14 : decode cX9_above 14 = .ok (.irem, 1) := by decide +kernel
theorem dX9_above_15 : decode cX9_above 15 = .ok (.ireturn, 1) := by decide +kernel
theorem dX9_rootOf_0 : decode cX9_rootOf 0 = .ok (.iconst 0, 1) := by decide +kernel
theorem dX9_rootOf_1 : decode cX9_rootOf 1 = .ok (.istore_n 2, 1) := by decide +kernel
theorem dX9_rootOf_2 : decode cX9_rootOf 2 = .ok (.iload_n 2, 1) := by decide +kernel
theorem dX9_rootOf_3 : decode cX9_rootOf 3 = .ok (.bipush 16, 2) := by decide +kernel
theorem dX9_rootOf_5 : decode cX9_rootOf 5 = .ok (.if_icmp .ge 26, 3) := by decide +kernel
theorem dX9_rootOf_8 : decode cX9_rootOf 8 = .ok (.aload_n 0, 1) := by decide +kernel
theorem dX9_rootOf_9 : decode cX9_rootOf 9 = .ok (.getfield 9, 3) := by decide +kernel
theorem dX9_rootOf_12 : decode cX9_rootOf 12 = .ok (.bipush 16, 2) := by decide +kernel
theorem dX9_rootOf_14 : decode cX9_rootOf 14 = .ok (.iload_n 2, 1) := by decide +kernel
theorem dX9_rootOf_15 : decode cX9_rootOf 15 = .ok (.iadd, 1) := by decide +kernel
theorem dX9_rootOf_16 : decode cX9_rootOf 16 = .ok (.aload_n 1, 1) := by decide +kernel
theorem dX9_rootOf_17 : decode cX9_rootOf 17 = .ok (.getfield 15, 3) := by decide +kernel
theorem dX9_rootOf_20 : decode cX9_rootOf 20 = .ok (.iload_n 2, 1) := by decide +kernel
theorem dX9_rootOf_21 : decode cX9_rootOf 21 = .ok (.iaload, 1) := by decide +kernel
theorem dX9_rootOf_22 : decode cX9_rootOf 22 = .ok (.iconst 1, 1) := by decide +kernel
theorem dX9_rootOf_23 : decode cX9_rootOf 23 = .ok (.iadd, 1) := by decide +kernel
theorem dX9_rootOf_24 : decode cX9_rootOf 24 = .ok (.iastore, 1) := by decide +kernel
theorem dX9_rootOf_25 : decode cX9_rootOf 25 = .ok (.iinc 2 1, 3) := by decide +kernel
theorem dX9_rootOf_28 : decode cX9_rootOf 28 = .ok (.goto (-26), 3) := by decide +kernel
theorem dX9_rootOf_31 : decode cX9_rootOf 31 = .ok (.bipush 15, 2) := by decide +kernel
theorem dX9_rootOf_33 : decode cX9_rootOf 33 = .ok (.istore_n 2, 1) := by decide +kernel
theorem dX9_rootOf_34 : decode cX9_rootOf 34 = .ok (.iload_n 2, 1) := by decide +kernel
theorem dX9_rootOf_35 : decode cX9_rootOf 35 = .ok (.iconst 1, 1) := by decide +kernel
theorem dX9_rootOf_36 : decode cX9_rootOf 36 = .ok (.if_icmp .lt 36, 3) := by decide +kernel
theorem dX9_rootOf_39 : decode cX9_rootOf 39 = .ok (.aload_n 0, 1) := by decide +kernel
theorem dX9_rootOf_40 : decode cX9_rootOf 40 = .ok (.getfield 9, 3) := by decide +kernel
theorem dX9_rootOf_43 : decode cX9_rootOf 43 = .ok (.iload_n 2, 1) := by decide +kernel
theorem dX9_rootOf_44 : decode cX9_rootOf 44 = .ok (.aload_n 0, 1) := by decide +kernel
theorem dX9_rootOf_45 : decode cX9_rootOf 45 = .ok (.getfield 9, 3) := by decide +kernel
theorem dX9_rootOf_48 : decode cX9_rootOf 48 = .ok (.iconst 2, 1) := by decide +kernel
theorem dX9_rootOf_49 : decode cX9_rootOf 49 = .ok (.iload_n 2, 1) := by decide +kernel
theorem dX9_rootOf_50 : decode cX9_rootOf 50 = .ok (.imul, 1) := by decide +kernel
theorem dX9_rootOf_51 : decode cX9_rootOf 51 = .ok (.iaload, 1) := by decide +kernel
theorem dX9_rootOf_52 : decode cX9_rootOf 52 = .ok (.aload_n 0, 1) := by decide +kernel
theorem dX9_rootOf_53 : decode cX9_rootOf 53 = .ok (.getfield 9, 3) := by decide +kernel
theorem dX9_rootOf_56 : decode cX9_rootOf 56 = .ok (.iconst 2, 1) := by decide +kernel
theorem dX9_rootOf_57 : decode cX9_rootOf 57 = .ok (.iload_n 2, 1) := by decide +kernel
theorem dX9_rootOf_58 : decode cX9_rootOf 58 = .ok (.imul, 1) := by decide +kernel
theorem dX9_rootOf_59 : decode cX9_rootOf 59 = .ok (.iconst 1, 1) := by decide +kernel
theorem dX9_rootOf_60 : decode cX9_rootOf 60 = .ok (.iadd, 1) := by decide +kernel
theorem dX9_rootOf_61 : decode cX9_rootOf 61 = .ok (.iaload, 1) := by decide +kernel
theorem dX9_rootOf_62 : decode cX9_rootOf 62 = .ok (.invokestatic 20, 3) := by decide +kernel
theorem dX9_rootOf_65 : decode cX9_rootOf 65 = .ok (.iastore, 1) := by decide +kernel
theorem dX9_rootOf_66 : decode cX9_rootOf 66 = .ok (.iinc 2 (-1), 3) := by decide +kernel
theorem dX9_rootOf_69 : decode cX9_rootOf 69 = .ok (.goto (-35), 3) := by decide +kernel
theorem dX9_rootOf_72 : decode cX9_rootOf 72 = .ok (.aload_n 0, 1) := by decide +kernel
theorem dX9_rootOf_73 : decode cX9_rootOf 73 = .ok (.getfield 9, 3) := by decide +kernel
theorem dX9_rootOf_76 : decode cX9_rootOf 76 = .ok (.iconst 1, 1) := by decide +kernel
theorem dX9_rootOf_77 : decode cX9_rootOf 77 = .ok (.iaload, 1) := by decide +kernel
theorem dX9_rootOf_78 : decode cX9_rootOf 78 = .ok (.ireturn, 1) := by decide +kernel
theorem dX9_beside_0 : decode cX9_beside 0 = .ok (.aload_n 0, 1) := by decide +kernel
theorem dX9_beside_1 : decode cX9_beside 1 = .ok (.getfield 9, 3) := by decide +kernel
theorem dX9_beside_4 : decode cX9_beside 4 = .ok (.bipush 16, 2) := by decide +kernel
theorem dX9_beside_6 : decode cX9_beside 6 = .ok (.iload_n 1, 1) := by decide +kernel
theorem dX9_beside_7 : decode cX9_beside 7 = .ok (.iadd, 1) := by decide +kernel
theorem dX9_beside_8 : decode cX9_beside 8 = .ok (.iload_n 2, 1) := by decide +kernel
theorem dX9_beside_9 : decode cX9_beside 9 = .ok (.ishr, 1) := by decide +kernel
theorem dX9_beside_10 : decode cX9_beside 10 = .ok (.iconst 1, 1) := by decide +kernel
theorem dX9_beside_11 : decode cX9_beside 11 = .ok (.ixor, 1) := by decide +kernel
theorem dX9_beside_12 : decode cX9_beside 12 = .ok (.iaload, 1) := by decide +kernel
theorem dX9_beside_13 : decode cX9_beside 13 = .ok (.ireturn, 1) := by decide +kernel
theorem dX10_init_0 : decode cX10_init 0 = .ok (.aload_n 0, 1) := by decide +kernel
theorem dX10_init_1 : decode cX10_init 1 = .ok (.invokespecial 3, 3) := by decide +kernel
theorem dX10_init_4 : decode cX10_init 4 = .ok (.aload_n 0, 1) := by decide +kernel
theorem dX10_init_5 : decode cX10_init 5 = .ok (.new 9, 3) := by decide +kernel
theorem dX10_init_8 : decode cX10_init 8 = .ok (.dup, 1) := by decide +kernel
theorem dX10_init_9 : decode cX10_init 9 = .ok (.bipush (-9), 2) := by decide +kernel
theorem dX10_init_11 : decode cX10_init 11 = .ok (.invokespecial 11, 3) := by decide +kernel
theorem dX10_init_14 : decode cX10_init 14 = .ok (.putfield 14, 3) := by decide +kernel
theorem dX10_init_17 : decode cX10_init 17 = .ok (.aload_n 0, 1) := by decide +kernel
theorem dX10_init_18 : decode cX10_init 18 = .ok (.bipush 16, 2) := by decide +kernel
theorem dX10_init_20 : decode cX10_init 20 = .ok (.newarray .int, 2) := by decide +kernel
theorem dX10_init_22 : decode cX10_init 22 = .ok (.putfield 20, 3) := by decide +kernel
theorem dX10_init_25 : decode cX10_init 25 = .ok (.return_, 1) := by decide +kernel
theorem dX10_perform_0 : decode cX10_perform 0 = .ok (.aload_n 0, 1) := by decide +kernel
theorem dX10_perform_1 : decode cX10_perform 1 = .ok (.getfield 14, 3) := by decide +kernel
theorem dX10_perform_4 : decode cX10_perform 4 = .ok (.aload_n 1, 1) := by decide +kernel
theorem dX10_perform_5 : decode cX10_perform 5 = .ok (.invokevirtual 24, 3) := by decide +kernel
theorem dX10_perform_8 : decode cX10_perform 8 = .ok (.iconst 0, 1) := by decide +kernel
theorem dX10_perform_9 : decode cX10_perform 9 = .ok (.istore 4, 2) := by decide +kernel
theorem dX10_perform_11 : decode cX10_perform 11 = .ok (.iload 4, 2) := by decide +kernel
theorem dX10_perform_13 : decode cX10_perform 13 = .ok (.iload_n 3, 1) := by decide +kernel
theorem dX10_perform_14 : decode cX10_perform 14 = .ok (.if_icmp .ge 41, 3) := by decide +kernel
theorem dX10_perform_17 : decode cX10_perform 17 = .ok (.iload 4, 2) := by decide +kernel
theorem dX10_perform_19 : decode cX10_perform 19 = .ok (.aload_n 2, 1) := by decide +kernel
theorem dX10_perform_20 : decode cX10_perform 20 = .ok (.arraylength, 1) := by decide +kernel
theorem dX10_perform_21 : decode cX10_perform 21 = .ok (.if_icmp .ge 34, 3) := by decide +kernel
theorem dX10_perform_24 : decode cX10_perform 24 = .ok (.aload_n 0, 1) := by decide +kernel
theorem dX10_perform_25 : decode cX10_perform 25 = .ok (.aload_n 2, 1) := by decide +kernel
theorem dX10_perform_26 : decode cX10_perform 26 = .ok (.iload 4, 2) := by decide +kernel
theorem dX10_perform_28 : decode cX10_perform 28 = .ok (.iaload, 1) := by decide +kernel
theorem dX10_perform_29 : decode cX10_perform 29 = .ok (.sipush 10000, 3) := by decide +kernel
theorem dX10_perform_32 : decode cX10_perform 32 = .ok (.idiv, 1) := by decide +kernel
theorem dX10_perform_33 : decode cX10_perform 33 = .ok (.aload_n 2, 1) := by decide +kernel
theorem dX10_perform_34 : decode cX10_perform 34 = .ok (.iload 4, 2) := by decide +kernel
theorem dX10_perform_36 : decode cX10_perform 36 = .ok (.iaload, 1) := by decide +kernel
theorem dX10_perform_37 : decode cX10_perform 37 = .ok (.sipush 10000, 3) := by decide +kernel
theorem dX10_perform_40 : decode cX10_perform 40 = .ok (.irem, 1) := by decide +kernel
theorem dX10_perform_41 : decode cX10_perform 41 = .ok (.invokevirtual 28, 3) := by decide +kernel
theorem dX10_perform_44 : decode cX10_perform 44 = .ok (.ifCond .ne 5, 3) := by decide +kernel
theorem dX10_perform_47 : decode cX10_perform 47 = .ok (.iconst 0, 1) := by decide +kernel
theorem dX10_perform_48 : decode cX10_perform 48 = .ok (.ireturn, 1) := by decide +kernel
theorem dX10_perform_49 : decode cX10_perform 49 = .ok (.iinc 4 1, 3) := by decide +kernel
theorem dX10_perform_52 : decode cX10_perform 52 = .ok (.goto (-41), 3) := by decide +kernel
theorem dX10_perform_55 : decode cX10_perform 55 = .ok (.iconst 1, 1) := by decide +kernel
theorem dX10_perform_56 : decode cX10_perform 56 = .ok (.ireturn, 1) := by decide +kernel
theorem dX10_performOne_0 : decode cX10_performOne 0 = .ok (.iload_n 2, 1) := by decide +kernel
theorem dX10_performOne_1 : decode cX10_performOne 1 = .ok (.sipush 1000, 3) := by decide +kernel
theorem dX10_performOne_4 : decode cX10_performOne 4 = .ok (.idiv, 1) := by decide +kernel
theorem dX10_performOne_5 : decode cX10_performOne 5 = .ok (.istore_n 3, 1) := by decide +kernel
theorem dX10_performOne_6 : decode cX10_performOne 6 = .ok (.iload_n 2, 1) := by decide +kernel
theorem dX10_performOne_7 : decode cX10_performOne 7 = .ok (.bipush 100, 2) := by decide +kernel
theorem dX10_performOne_9 : decode cX10_performOne 9 = .ok (.idiv, 1) := by decide +kernel
theorem dX10_performOne_10 : decode cX10_performOne 10 = .ok (.bipush 10, 2) := by decide +kernel
theorem dX10_performOne_12 : decode cX10_performOne 12 = .ok (.irem, 1) := by decide +kernel
theorem dX10_performOne_13 : decode cX10_performOne 13 = .ok (.istore 4, 2) := by decide +kernel
theorem dX10_performOne_15 : decode cX10_performOne 15 = .ok (.iload_n 2, 1) := by decide +kernel
theorem dX10_performOne_16 : decode cX10_performOne 16 = .ok (.bipush 10, 2) := by decide +kernel
theorem dX10_performOne_18 : decode cX10_performOne 18 = .ok (.idiv, 1) := by decide +kernel
theorem dX10_performOne_19 : decode cX10_performOne 19 = .ok (.bipush 10, 2) := by decide +kernel
theorem dX10_performOne_21 : decode cX10_performOne 21 = .ok (.irem, 1) := by decide +kernel
theorem dX10_performOne_22 : decode cX10_performOne 22 = .ok (.istore 5, 2) := by decide +kernel
theorem dX10_performOne_24 : decode cX10_performOne 24 = .ok (.iload_n 2, 1) := by decide +kernel
theorem dX10_performOne_25 : decode cX10_performOne 25 = .ok (.bipush 10, 2) := by decide +kernel
theorem dX10_performOne_27 : decode cX10_performOne 27 = .ok (.irem, 1) := by decide +kernel
theorem dX10_performOne_28 : decode cX10_performOne 28 = .ok (.istore 6, 2) := by decide +kernel
theorem dX10_performOne_30 : decode cX10_performOne 30 = .ok (.iload_n 1, 1) := by decide +kernel
theorem dX10_performOne_31 : decode cX10_performOne 31 = .ok (.bipush 99, 2) := by decide +kernel
theorem dX10_performOne_33 : decode cX10_performOne 33 = .ok (.if_icmp .eq 9, 3) := by decide +kernel
theorem dX10_performOne_36 : decode cX10_performOne 36 = .ok (.iload_n 1, 1) := by decide +kernel
theorem dX10_performOne_37 : decode cX10_performOne 37 = .ok (.bipush 98, 2) := by decide +kernel
theorem dX10_performOne_39 : decode cX10_performOne 39 = .ok (.if_icmp .ne 19, 3) := by decide +kernel
theorem dX10_performOne_42 : decode cX10_performOne 42 = .ok (.aload_n 0, 1) := by decide +kernel
theorem dX10_performOne_43 : decode cX10_performOne 43 = .ok (.iload_n 3, 1) := by decide +kernel
theorem dX10_performOne_44 : decode cX10_performOne 44 = .ok (.iload 4, 2) := by decide +kernel
theorem dX10_performOne_46 : decode cX10_performOne 46 = .ok (.iload 5, 2) := by decide +kernel
theorem dX10_performOne_48 : decode cX10_performOne 48 = .ok (.iload 6, 2) := by decide +kernel
theorem dX10_performOne_50 : decode cX10_performOne 50 = .ok (.invokevirtual 32, 3) := by decide +kernel
theorem dX10_performOne_53 : decode cX10_performOne 53 = .ok (.ifCond .ne 5, 3) := by decide +kernel
theorem dX10_performOne_56 : decode cX10_performOne 56 = .ok (.iconst 0, 1) := by decide +kernel
theorem dX10_performOne_57 : decode cX10_performOne 57 = .ok (.ireturn, 1) := by decide +kernel
theorem dX10_performOne_58 : decode cX10_performOne 58 = .ok (.iload_n 1, 1) := by decide +kernel
theorem dX10_performOne_59 : decode cX10_performOne 59 = .ok (.lookupswitch 141 #[(98, 110), (99, 49), (108, 124), (109, 132), (116, 78)], 49) := by decide +kernel
theorem dX10_performOne_108 : decode cX10_performOne 108 = .ok (.aload_n 0, 1) := by decide +kernel
theorem dX10_performOne_109 : decode cX10_performOne 109 = .ok (.iload_n 3, 1) := by decide +kernel
theorem dX10_performOne_110 : decode cX10_performOne 110 = .ok (.iload 4, 2) := by decide +kernel
theorem dX10_performOne_112 : decode cX10_performOne 112 = .ok (.iload 5, 2) := by decide +kernel
theorem dX10_performOne_114 : decode cX10_performOne 114 = .ok (.iload 6, 2) := by decide +kernel
theorem dX10_performOne_116 : decode cX10_performOne 116 = .ok (.invokevirtual 36, 3) := by decide +kernel
theorem dX10_performOne_119 : decode cX10_performOne 119 = .ok (.aload_n 0, 1) := by decide +kernel
theorem dX10_performOne_120 : decode cX10_performOne 120 = .ok (.getfield 14, 3) := by decide +kernel
theorem dX10_performOne_123 : decode cX10_performOne 123 = .ok (.iload 5, 2) := by decide +kernel
theorem dX10_performOne_125 : decode cX10_performOne 125 = .ok (.iload 6, 2) := by decide +kernel
theorem dX10_performOne_127 : decode cX10_performOne 127 = .ok (.aload_n 0, 1) := by decide +kernel
theorem dX10_performOne_128 : decode cX10_performOne 128 = .ok (.getfield 20, 3) := by decide +kernel
theorem dX10_performOne_131 : decode cX10_performOne 131 = .ok (.invokevirtual 40, 3) := by decide +kernel
theorem dX10_performOne_134 : decode cX10_performOne 134 = .ok (.goto 71, 3) := by decide +kernel
theorem dX10_performOne_137 : decode cX10_performOne 137 = .ok (.aload_n 0, 1) := by decide +kernel
theorem dX10_performOne_138 : decode cX10_performOne 138 = .ok (.invokevirtual 44, 3) := by decide +kernel
theorem dX10_performOne_141 : decode cX10_performOne 141 = .ok (.aload_n 0, 1) := by decide +kernel
theorem dX10_performOne_142 : decode cX10_performOne 142 = .ok (.getfield 14, 3) := by decide +kernel
theorem dX10_performOne_145 : decode cX10_performOne 145 = .ok (.aload_n 0, 1) := by decide +kernel
theorem dX10_performOne_146 : decode cX10_performOne 146 = .ok (.getfield 14, 3) := by decide +kernel
theorem dX10_performOne_149 : decode cX10_performOne 149 = .ok (.getfield 47, 3) := by decide +kernel
theorem dX10_performOne_152 : decode cX10_performOne 152 = .ok (.aload_n 0, 1) := by decide +kernel
theorem dX10_performOne_153 : decode cX10_performOne 153 = .ok (.getfield 14, 3) := by decide +kernel
theorem dX10_performOne_156 : decode cX10_performOne 156 = .ok (.getfield 51, 3) := by decide +kernel
theorem dX10_performOne_159 : decode cX10_performOne 159 = .ok (.aload_n 0, 1) := by decide +kernel
theorem dX10_performOne_160 : decode cX10_performOne 160 = .ok (.getfield 20, 3) := by decide +kernel
theorem dX10_performOne_163 : decode cX10_performOne 163 = .ok (.invokevirtual 40, 3) := by decide +kernel
theorem dX10_performOne_166 : decode cX10_performOne 166 = .ok (.goto 39, 3) := by decide +kernel
theorem dX10_performOne_169 : decode cX10_performOne 169 = .ok (.aload_n 0, 1) := by decide +kernel
theorem dX10_performOne_170 : decode cX10_performOne 170 = .ok (.iload_n 3, 1) := by decide +kernel
theorem dX10_performOne_171 : decode cX10_performOne 171 = .ok (.iload 4, 2) := by decide +kernel
theorem dX10_performOne_173 : decode cX10_performOne 173 = .ok (.iload 5, 2) := by decide +kernel
theorem dX10_performOne_175 : decode cX10_performOne 175 = .ok (.iload 6, 2) := by decide +kernel
theorem dX10_performOne_177 : decode cX10_performOne 177 = .ok (.invokevirtual 54, 3) := by decide +kernel
theorem dX10_performOne_180 : decode cX10_performOne 180 = .ok (.goto 25, 3) := by decide +kernel
theorem dX10_performOne_183 : decode cX10_performOne 183 = .ok (.aload_n 0, 1) := by decide +kernel
theorem dX10_performOne_184 : decode cX10_performOne 184 = .ok (.iload_n 2, 1) := by decide +kernel
theorem dX10_performOne_185 : decode cX10_performOne 185 = .ok (.invokevirtual 57, 3) := by decide +kernel
theorem dX10_performOne_188 : decode cX10_performOne 188 = .ok (.goto 17, 3) := by decide +kernel
theorem dX10_performOne_191 : decode cX10_performOne 191 = .ok (.aload_n 0, 1) := by decide +kernel
theorem dX10_performOne_192 : decode cX10_performOne 192 = .ok (.iload_n 2, 1) := by decide +kernel
theorem dX10_performOne_193 : decode cX10_performOne 193 = .ok (.ineg, 1) := by decide +kernel
theorem dX10_performOne_194 : decode cX10_performOne 194 = .ok (.invokevirtual 57, 3) := by decide +kernel
theorem dX10_performOne_197 : decode cX10_performOne 197 = .ok (.goto 8, 3) := by decide +kernel
theorem dX10_performOne_200 : decode cX10_performOne 200 = .ok (.aload_n 0, 1) := by decide +kernel
theorem dX10_performOne_201 : decode cX10_performOne 201 = .ok (.iload_n 2, 1) := by decide +kernel
theorem dX10_performOne_202 : decode cX10_performOne 202 = .ok (.invokevirtual 60, 3) := by decide +kernel
theorem dX10_performOne_205 : decode cX10_performOne 205 = .ok (.iconst 1, 1) := by decide +kernel
theorem dX10_performOne_206 : decode cX10_performOne 206 = .ok (.ireturn, 1) := by decide +kernel
theorem dX10_holds_0 : decode cX10_holds 0 = .ok (.iload_n 3, 1) := by decide +kernel
theorem dX10_holds_1 : decode cX10_holds 1 = .ok (.iconst 1, 1) := by decide +kernel
theorem dX10_holds_2 : decode cX10_holds 2 = .ok (.if_icmp .lt 40, 3) := by decide +kernel
theorem dX10_holds_5 : decode cX10_holds 5 = .ok (.iload 4, 2) := by decide +kernel
theorem dX10_holds_7 : decode cX10_holds 7 = .ok (.iconst 1, 1) := by decide +kernel
theorem dX10_holds_8 : decode cX10_holds 8 = .ok (.if_icmp .lt 34, 3) := by decide +kernel
theorem dX10_holds_11 : decode cX10_holds 11 = .ok (.iload_n 1, 1) := by decide +kernel
theorem dX10_holds_12 : decode cX10_holds 12 = .ok (.iload_n 3, 1) := by decide +kernel
theorem dX10_holds_13 : decode cX10_holds 13 = .ok (.iadd, 1) := by decide +kernel
theorem dX10_holds_14 : decode cX10_holds 14 = .ok (.aload_n 0, 1) := by decide +kernel
theorem dX10_holds_15 : decode cX10_holds 15 = .ok (.getfield 14, 3) := by decide +kernel
theorem dX10_holds_18 : decode cX10_holds 18 = .ok (.getfield 51, 3) := by decide +kernel
theorem dX10_holds_21 : decode cX10_holds 21 = .ok (.if_icmp .gt 21, 3) := by decide +kernel
theorem dX10_holds_24 : decode cX10_holds 24 = .ok (.iload_n 2, 1) := by decide +kernel
theorem dX10_holds_25 : decode cX10_holds 25 = .ok (.iload 4, 2) := by decide +kernel
theorem dX10_holds_27 : decode cX10_holds 27 = .ok (.iadd, 1) := by decide +kernel
theorem dX10_holds_28 : decode cX10_holds 28 = .ok (.aload_n 0, 1) := by decide +kernel
theorem dX10_holds_29 : decode cX10_holds 29 = .ok (.getfield 14, 3) := by decide +kernel
theorem dX10_holds_32 : decode cX10_holds 32 = .ok (.getfield 47, 3) := by decide +kernel
theorem dX10_holds_35 : decode cX10_holds 35 = .ok (.if_icmp .gt 7, 3) := by decide +kernel
theorem dX10_holds_38 : decode cX10_holds 38 = .ok (.iconst 1, 1) := by decide +kernel
theorem dX10_holds_39 : decode cX10_holds 39 = .ok (.goto 4, 3) := by decide +kernel
theorem dX10_holds_42 : decode cX10_holds 42 = .ok (.iconst 0, 1) := by decide +kernel
theorem dX10_holds_43 : decode cX10_holds 43 = .ok (.ireturn, 1) := by decide +kernel
theorem dX10_cutToSpare_0 : decode cX10_cutToSpare 0 = .ok (.aload_n 0, 1) := by decide +kernel
theorem dX10_cutToSpare_1 : decode cX10_cutToSpare 1 = .ok (.getfield 20, 3) := by decide +kernel
theorem dX10_cutToSpare_4 : decode cX10_cutToSpare 4 = .ok (.iconst (-1), 1) := by decide +kernel
theorem dX10_cutToSpare_5 : decode cX10_cutToSpare 5 = .ok (.invokestatic 63, 3) := by decide +kernel
theorem dX10_cutToSpare_8 : decode cX10_cutToSpare 8 = .ok (.iconst 0, 1) := by decide +kernel
theorem dX10_cutToSpare_9 : decode cX10_cutToSpare 9 = .ok (.istore 5, 2) := by decide +kernel
theorem dX10_cutToSpare_11 : decode cX10_cutToSpare 11 = .ok (.iload 5, 2) := by decide +kernel
theorem dX10_cutToSpare_13 : decode cX10_cutToSpare 13 = .ok (.iload 4, 2) := by decide +kernel
theorem dX10_cutToSpare_15 : decode cX10_cutToSpare 15 = .ok (.if_icmp .ge 55, 3) := by decide +kernel
theorem dX10_cutToSpare_18 : decode cX10_cutToSpare 18 = .ok (.iconst 0, 1) := by decide +kernel
theorem dX10_cutToSpare_19 : decode cX10_cutToSpare 19 = .ok (.istore 6, 2) := by decide +kernel
theorem dX10_cutToSpare_21 : decode cX10_cutToSpare 21 = .ok (.iload 6, 2) := by decide +kernel
theorem dX10_cutToSpare_23 : decode cX10_cutToSpare 23 = .ok (.iload_n 3, 1) := by decide +kernel
theorem dX10_cutToSpare_24 : decode cX10_cutToSpare 24 = .ok (.if_icmp .ge 40, 3) := by decide +kernel
theorem dX10_cutToSpare_27 : decode cX10_cutToSpare 27 = .ok (.aload_n 0, 1) := by decide +kernel
theorem dX10_cutToSpare_28 : decode cX10_cutToSpare 28 = .ok (.getfield 20, 3) := by decide +kernel
theorem dX10_cutToSpare_31 : decode cX10_cutToSpare 31 = .ok (.iload 6, 2) := by decide +kernel
theorem dX10_cutToSpare_33 : decode cX10_cutToSpare 33 = .ok (.iconst 4, 1) := by decide +kernel
theorem dX10_cutToSpare_34 : decode cX10_cutToSpare 34 = .ok (.iload 5, 2) := by decide +kernel
theorem dX10_cutToSpare_36 : decode cX10_cutToSpare 36 = .ok (.imul, 1) := by decide +kernel
theorem dX10_cutToSpare_37 : decode cX10_cutToSpare 37 = .ok (.iadd, 1) := by decide +kernel
theorem dX10_cutToSpare_38 : decode cX10_cutToSpare 38 = .ok (.aload_n 0, 1) := by decide +kernel
theorem dX10_cutToSpare_39 : decode cX10_cutToSpare 39 = .ok (.getfield 14, 3) := by decide +kernel
theorem dX10_cutToSpare_42 : decode cX10_cutToSpare 42 = .ok (.getfield 69, 3) := by decide +kernel
theorem dX10_cutToSpare_45 : decode cX10_cutToSpare 45 = .ok (.iload_n 1, 1) := by decide +kernel
theorem dX10_cutToSpare_46 : decode cX10_cutToSpare 46 = .ok (.iload 6, 2) := by decide +kernel
theorem dX10_cutToSpare_48 : decode cX10_cutToSpare 48 = .ok (.iadd, 1) := by decide +kernel
theorem dX10_cutToSpare_49 : decode cX10_cutToSpare 49 = .ok (.iconst 4, 1) := by decide +kernel
theorem dX10_cutToSpare_50 : decode cX10_cutToSpare 50 = .ok (.iload_n 2, 1) := by decide +kernel
theorem dX10_cutToSpare_51 : decode cX10_cutToSpare 51 = .ok (.iload 5, 2) := by decide +kernel
theorem dX10_cutToSpare_53 : decode cX10_cutToSpare 53 = .ok (.iadd, 1) := by decide +kernel
theorem dX10_cutToSpare_54 : decode cX10_cutToSpare 54 = .ok (.imul, 1) := by decide +kernel
theorem dX10_cutToSpare_55 : decode cX10_cutToSpare 55 = .ok (.iadd, 1) := by decide +kernel
theorem dX10_cutToSpare_56 : decode cX10_cutToSpare 56 = .ok (.iaload, 1) := by decide +kernel
theorem dX10_cutToSpare_57 : decode cX10_cutToSpare 57 = .ok (.iastore, 1) := by decide +kernel
theorem dX10_cutToSpare_58 : decode cX10_cutToSpare 58 = .ok (.iinc 6 1, 3) := by decide +kernel
theorem dX10_cutToSpare_61 : decode cX10_cutToSpare 61 = .ok (.goto (-40), 3) := by decide +kernel
theorem dX10_cutToSpare_64 : decode cX10_cutToSpare 64 = .ok (.iinc 5 1, 3) := by decide +kernel
theorem dX10_cutToSpare_67 : decode cX10_cutToSpare 67 = .ok (.goto (-56), 3) := by decide +kernel
theorem dX10_cutToSpare_70 : decode cX10_cutToSpare 70 = .ok (.return_, 1) := by decide +kernel
theorem dX10_blur_0 : decode cX10_blur 0 = .ok (.iconst 0, 1) := by decide +kernel
theorem dX10_blur_1 : decode cX10_blur 1 = .ok (.istore 5, 2) := by decide +kernel
theorem dX10_blur_3 : decode cX10_blur 3 = .ok (.iconst 0, 1) := by decide +kernel
theorem dX10_blur_4 : decode cX10_blur 4 = .ok (.istore 6, 2) := by decide +kernel
theorem dX10_blur_6 : decode cX10_blur 6 = .ok (.iload 6, 2) := by decide +kernel
theorem dX10_blur_8 : decode cX10_blur 8 = .ok (.iload 4, 2) := by decide +kernel
theorem dX10_blur_10 : decode cX10_blur 10 = .ok (.if_icmp .ge 48, 3) := by decide +kernel
theorem dX10_blur_13 : decode cX10_blur 13 = .ok (.iconst 0, 1) := by decide +kernel
theorem dX10_blur_14 : decode cX10_blur 14 = .ok (.istore 7, 2) := by decide +kernel
theorem dX10_blur_16 : decode cX10_blur 16 = .ok (.iload 7, 2) := by decide +kernel
theorem dX10_blur_18 : decode cX10_blur 18 = .ok (.iload_n 3, 1) := by decide +kernel
theorem dX10_blur_19 : decode cX10_blur 19 = .ok (.if_icmp .ge 33, 3) := by decide +kernel
theorem dX10_blur_22 : decode cX10_blur 22 = .ok (.iload 5, 2) := by decide +kernel
theorem dX10_blur_24 : decode cX10_blur 24 = .ok (.aload_n 0, 1) := by decide +kernel
theorem dX10_blur_25 : decode cX10_blur 25 = .ok (.getfield 14, 3) := by decide +kernel
theorem dX10_blur_28 : decode cX10_blur 28 = .ok (.getfield 69, 3) := by decide +kernel
theorem dX10_blur_31 : decode cX10_blur 31 = .ok (.iload_n 1, 1) := by decide +kernel
theorem dX10_blur_32 : decode cX10_blur 32 = .ok (.iload 7, 2) := by decide +kernel
theorem dX10_blur_34 : decode cX10_blur 34 = .ok (.iadd, 1) := by decide +kernel
theorem dX10_blur_35 : decode cX10_blur 35 = .ok (.iconst 4, 1) := by decide +kernel
theorem dX10_blur_36 : decode cX10_blur 36 = .ok (.iload_n 2, 1) := by decide +kernel
theorem dX10_blur_37 : decode cX10_blur 37 = .ok (.iload 6, 2) := by decide +kernel
theorem dX10_blur_39 : decode cX10_blur 39 = .ok (.iadd, 1) := by decide +kernel
theorem dX10_blur_40 : decode cX10_blur 40 = .ok (.imul, 1) := by decide +kernel
theorem dX10_blur_41 : decode cX10_blur 41 = .ok (.iadd, 1) := by decide +kernel
theorem dX10_blur_42 : decode cX10_blur 42 = .ok (.iaload, 1) := by decide +kernel
theorem dX10_blur_43 : decode cX10_blur 43 = .ok (.iadd, 1) := by decide +kernel
theorem dX10_blur_44 : decode cX10_blur 44 = .ok (.istore 5, 2) := by decide +kernel
theorem dX10_blur_46 : decode cX10_blur 46 = .ok (.iinc 7 1, 3) := by decide +kernel
theorem dX10_blur_49 : decode cX10_blur 49 = .ok (.goto (-33), 3) := by decide +kernel
theorem dX10_blur_52 : decode cX10_blur 52 = .ok (.iinc 6 1, 3) := by decide +kernel
theorem dX10_blur_55 : decode cX10_blur 55 = .ok (.goto (-49), 3) := by decide +kernel
theorem dX10_blur_58 : decode cX10_blur 58 = .ok (.iconst 0, 1) := by decide +kernel
theorem dX10_blur_59 : decode cX10_blur 59 = .ok (.istore 6, 2) := by decide +kernel
theorem dX10_blur_61 : decode cX10_blur 61 = .ok (.iload 6, 2) := by decide +kernel
theorem dX10_blur_63 : decode cX10_blur 63 = .ok (.iload 4, 2) := by decide +kernel
theorem dX10_blur_65 : decode cX10_blur 65 = .ok (.if_icmp .ge 50, 3) := by decide +kernel
theorem dX10_blur_68 : decode cX10_blur 68 = .ok (.iconst 0, 1) := by decide +kernel
theorem dX10_blur_69 : decode cX10_blur 69 = .ok (.istore 7, 2) := by decide +kernel
theorem dX10_blur_71 : decode cX10_blur 71 = .ok (.iload 7, 2) := by decide +kernel
theorem dX10_blur_73 : decode cX10_blur 73 = .ok (.iload_n 3, 1) := by decide +kernel
theorem dX10_blur_74 : decode cX10_blur 74 = .ok (.if_icmp .ge 35, 3) := by decide +kernel
theorem dX10_blur_77 : decode cX10_blur 77 = .ok (.aload_n 0, 1) := by decide +kernel
theorem dX10_blur_78 : decode cX10_blur 78 = .ok (.getfield 14, 3) := by decide +kernel
theorem dX10_blur_81 : decode cX10_blur 81 = .ok (.getfield 69, 3) := by decide +kernel
theorem dX10_blur_84 : decode cX10_blur 84 = .ok (.iload_n 1, 1) := by decide +kernel
theorem dX10_blur_85 : decode cX10_blur 85 = .ok (.iload 7, 2) := by decide +kernel
theorem dX10_blur_87 : decode cX10_blur 87 = .ok (.iadd, 1) := by decide +kernel
theorem dX10_blur_88 : decode cX10_blur 88 = .ok (.iconst 4, 1) := by decide +kernel
theorem dX10_blur_89 : decode cX10_blur 89 = .ok (.iload_n 2, 1) := by decide +kernel
theorem dX10_blur_90 : decode cX10_blur 90 = .ok (.iload 6, 2) := by decide +kernel
theorem dX10_blur_92 : decode cX10_blur 92 = .ok (.iadd, 1) := by decide +kernel
theorem dX10_blur_93 : decode cX10_blur 93 = .ok (.imul, 1) := by decide +kernel
theorem dX10_blur_94 : decode cX10_blur 94 = .ok (.iadd, 1) := by decide +kernel
theorem dX10_blur_95 : decode cX10_blur 95 = .ok (.iload 5, 2) := by decide +kernel
theorem dX10_blur_97 : decode cX10_blur 97 = .ok (.iload_n 3, 1) := by decide +kernel
theorem dX10_blur_98 : decode cX10_blur 98 = .ok (.iload 4, 2) := by decide +kernel
theorem dX10_blur_100 : decode cX10_blur 100 = .ok (.imul, 1) := by decide +kernel
theorem dX10_blur_101 : decode cX10_blur 101 = .ok (.idiv, 1) := by decide +kernel
theorem dX10_blur_102 : decode cX10_blur 102 = .ok (.iastore, 1) := by decide +kernel
theorem dX10_blur_103 : decode cX10_blur 103 = .ok (.iinc 7 1, 3) := by decide +kernel
theorem dX10_blur_106 : decode cX10_blur 106 = .ok (.goto (-35), 3) := by decide +kernel
theorem dX10_blur_109 : decode cX10_blur 109 = .ok (.iinc 6 1, 3) := by decide +kernel
theorem dX10_blur_112 : decode cX10_blur 112 = .ok (.goto (-51), 3) := by decide +kernel
theorem dX10_blur_115 : decode cX10_blur 115 = .ok (.return_, 1) := by decide +kernel
theorem dX10_turnToSpare_0 : decode cX10_turnToSpare 0 = .ok (.aload_n 0, 1) := by decide +kernel
theorem dX10_turnToSpare_1 : decode cX10_turnToSpare 1 = .ok (.getfield 20, 3) := by decide +kernel
theorem dX10_turnToSpare_4 : decode cX10_turnToSpare 4 = .ok (.iconst (-1), 1) := by decide +kernel
theorem dX10_turnToSpare_5 : decode cX10_turnToSpare 5 = .ok (.invokestatic 63, 3) := by decide +kernel
theorem dX10_turnToSpare_8 : decode cX10_turnToSpare 8 = .ok (.iconst 0, 1) := by decide +kernel
theorem dX10_turnToSpare_9 : decode cX10_turnToSpare 9 = .ok (.istore_n 1, 1) := by decide +kernel
theorem dX10_turnToSpare_10 : decode cX10_turnToSpare 10 = .ok (.iload_n 1, 1) := by decide +kernel
theorem dX10_turnToSpare_11 : decode cX10_turnToSpare 11 = .ok (.aload_n 0, 1) := by decide +kernel
theorem dX10_turnToSpare_12 : decode cX10_turnToSpare 12 = .ok (.getfield 14, 3) := by decide +kernel
theorem dX10_turnToSpare_15 : decode cX10_turnToSpare 15 = .ok (.getfield 47, 3) := by decide +kernel
theorem dX10_turnToSpare_18 : decode cX10_turnToSpare 18 = .ok (.if_icmp .ge 61, 3) := by decide +kernel
theorem dX10_turnToSpare_21 : decode cX10_turnToSpare 21 = .ok (.iconst 0, 1) := by decide +kernel
theorem dX10_turnToSpare_22 : decode cX10_turnToSpare 22 = .ok (.istore_n 2, 1) := by decide +kernel
theorem dX10_turnToSpare_23 : decode cX10_turnToSpare 23 = .ok (.iload_n 2, 1) := by decide +kernel
theorem dX10_turnToSpare_24 : decode cX10_turnToSpare 24 = .ok (.aload_n 0, 1) := by decide +kernel
theorem dX10_turnToSpare_25 : decode cX10_turnToSpare 25 = .ok (.getfield 14, 3) := by decide +kernel
theorem dX10_turnToSpare_28 : decode cX10_turnToSpare 28 = .ok (.getfield 51, 3) := by decide +kernel
theorem dX10_turnToSpare_31 : decode cX10_turnToSpare 31 = .ok (.if_icmp .ge 42, 3) := by decide +kernel
theorem dX10_turnToSpare_34 : decode cX10_turnToSpare 34 = .ok (.aload_n 0, 1) := by decide +kernel
theorem dX10_turnToSpare_35 : decode cX10_turnToSpare 35 = .ok (.getfield 20, 3) := by decide +kernel
theorem dX10_turnToSpare_38 : decode cX10_turnToSpare 38 = .ok (.iload_n 1, 1) := by decide +kernel
theorem dX10_turnToSpare_39 : decode cX10_turnToSpare 39 = .ok (.iconst 4, 1) := by decide +kernel
theorem dX10_turnToSpare_40 : decode cX10_turnToSpare 40 = .ok (.iload_n 2, 1) := by decide +kernel
theorem dX10_turnToSpare_41 : decode cX10_turnToSpare 41 = .ok (.imul, 1) := by decide +kernel
theorem dX10_turnToSpare_42 : decode cX10_turnToSpare 42 = .ok (.iadd, 1) := by decide +kernel
theorem dX10_turnToSpare_43 : decode cX10_turnToSpare 43 = .ok (.aload_n 0, 1) := by decide +kernel
theorem dX10_turnToSpare_44 : decode cX10_turnToSpare 44 = .ok (.getfield 14, 3) := by decide +kernel
theorem dX10_turnToSpare_47 : decode cX10_turnToSpare 47 = .ok (.getfield 69, 3) := by decide +kernel
theorem dX10_turnToSpare_50 : decode cX10_turnToSpare 50 = .ok (.iload_n 2, 1) := by decide +kernel
theorem dX10_turnToSpare_51 : decode cX10_turnToSpare 51 = .ok (.iconst 4, 1) := by decide +kernel
theorem dX10_turnToSpare_52 : decode cX10_turnToSpare 52 = .ok (.aload_n 0, 1) := by decide +kernel
theorem dX10_turnToSpare_53 : decode cX10_turnToSpare 53 = .ok (.getfield 14, 3) := by decide +kernel
theorem dX10_turnToSpare_56 : decode cX10_turnToSpare 56 = .ok (.getfield 47, 3) := by decide +kernel
theorem dX10_turnToSpare_59 : decode cX10_turnToSpare 59 = .ok (.iconst 1, 1) := by decide +kernel
theorem dX10_turnToSpare_60 : decode cX10_turnToSpare 60 = .ok (.isub, 1) := by decide +kernel
theorem dX10_turnToSpare_61 : decode cX10_turnToSpare 61 = .ok (.iload_n 1, 1) := by decide +kernel
theorem dX10_turnToSpare_62 : decode cX10_turnToSpare 62 = .ok (.isub, 1) := by decide +kernel
theorem dX10_turnToSpare_63 : decode cX10_turnToSpare 63 = .ok (.imul, 1) := by decide +kernel
theorem dX10_turnToSpare_64 : decode cX10_turnToSpare 64 = .ok (.iadd, 1) := by decide +kernel
theorem dX10_turnToSpare_65 : decode cX10_turnToSpare 65 = .ok (.iaload, 1) := by decide +kernel
theorem dX10_turnToSpare_66 : decode cX10_turnToSpare 66 = .ok (.iastore, 1) := by decide +kernel
theorem dX10_turnToSpare_67 : decode cX10_turnToSpare 67 = .ok (.iinc 2 1, 3) := by decide +kernel
theorem dX10_turnToSpare_70 : decode cX10_turnToSpare 70 = .ok (.goto (-47), 3) := by decide +kernel
theorem dX10_turnToSpare_73 : decode cX10_turnToSpare 73 = .ok (.iinc 1 1, 3) := by decide +kernel
theorem dX10_turnToSpare_76 : decode cX10_turnToSpare 76 = .ok (.goto (-66), 3) := by decide +kernel
theorem dX10_turnToSpare_79 : decode cX10_turnToSpare 79 = .ok (.return_, 1) := by decide +kernel
theorem dX10_shift_0 : decode cX10_shift 0 = .ok (.iconst 0, 1) := by decide +kernel
theorem dX10_shift_1 : decode cX10_shift 1 = .ok (.istore_n 2, 1) := by decide +kernel
theorem dX10_shift_2 : decode cX10_shift 2 = .ok (.iload_n 2, 1) := by decide +kernel
theorem dX10_shift_3 : decode cX10_shift 3 = .ok (.bipush 16, 2) := by decide +kernel
theorem dX10_shift_5 : decode cX10_shift 5 = .ok (.if_icmp .ge 51, 3) := by decide +kernel
theorem dX10_shift_8 : decode cX10_shift 8 = .ok (.aload_n 0, 1) := by decide +kernel
theorem dX10_shift_9 : decode cX10_shift 9 = .ok (.getfield 14, 3) := by decide +kernel
theorem dX10_shift_12 : decode cX10_shift 12 = .ok (.getfield 69, 3) := by decide +kernel
theorem dX10_shift_15 : decode cX10_shift 15 = .ok (.iload_n 2, 1) := by decide +kernel
theorem dX10_shift_16 : decode cX10_shift 16 = .ok (.iaload, 1) := by decide +kernel
theorem dX10_shift_17 : decode cX10_shift 17 = .ok (.iconst (-1), 1) := by decide +kernel
theorem dX10_shift_18 : decode cX10_shift 18 = .ok (.if_icmp .eq 32, 3) := by decide +kernel
theorem dX10_shift_21 : decode cX10_shift 21 = .ok (.aload_n 0, 1) := by decide +kernel
theorem dX10_shift_22 : decode cX10_shift 22 = .ok (.getfield 14, 3) := by decide +kernel
theorem dX10_shift_25 : decode cX10_shift 25 = .ok (.getfield 69, 3) := by decide +kernel
theorem dX10_shift_28 : decode cX10_shift 28 = .ok (.iload_n 2, 1) := by decide +kernel
theorem dX10_shift_29 : decode cX10_shift 29 = .ok (.iconst 0, 1) := by decide +kernel
theorem dX10_shift_30 : decode cX10_shift 30 = .ok (.bipush 99, 2) := by decide +kernel
theorem dX10_shift_32 : decode cX10_shift 32 = .ok (.aload_n 0, 1) := by decide +kernel
theorem dX10_shift_33 : decode cX10_shift 33 = .ok (.getfield 14, 3) := by decide +kernel
theorem dX10_shift_36 : decode cX10_shift 36 = .ok (.getfield 69, 3) := by decide +kernel
theorem dX10_shift_39 : decode cX10_shift 39 = .ok (.iload_n 2, 1) := by decide +kernel
theorem dX10_shift_40 : decode cX10_shift 40 = .ok (.iaload, 1) := by decide +kernel
theorem dX10_shift_41 : decode cX10_shift 41 = .ok (.iload_n 1, 1) := by decide +kernel
theorem dX10_shift_42 : decode cX10_shift 42 = .ok (.iadd, 1) := by decide +kernel
theorem dX10_shift_43 : decode cX10_shift 43 = .ok (.invokestatic 72, 3) := by decide +kernel
theorem dX10_shift_46 : decode cX10_shift 46 = .ok (.invokestatic 78, 3) := by decide +kernel
theorem dX10_shift_49 : decode cX10_shift 49 = .ok (.iastore, 1) := by decide +kernel
theorem dX10_shift_50 : decode cX10_shift 50 = .ok (.iinc 2 1, 3) := by decide +kernel
theorem dX10_shift_53 : decode cX10_shift 53 = .ok (.goto (-51), 3) := by decide +kernel
theorem dX10_shift_56 : decode cX10_shift 56 = .ok (.return_, 1) := by decide +kernel
theorem dX10_saveWorse_0 : decode cX10_saveWorse 0 = .ok (.iconst 0, 1) := by decide +kernel
theorem dX10_saveWorse_1 : decode cX10_saveWorse 1 = .ok (.istore_n 2, 1) := by decide +kernel
theorem dX10_saveWorse_2 : decode cX10_saveWorse 2 = .ok (.iload_n 2, 1) := by decide +kernel
theorem dX10_saveWorse_3 : decode cX10_saveWorse 3 = .ok (.bipush 16, 2) := by decide +kernel
theorem dX10_saveWorse_5 : decode cX10_saveWorse 5 = .ok (.if_icmp .ge 48, 3) := by decide +kernel
theorem dX10_saveWorse_8 : decode cX10_saveWorse 8 = .ok (.iload_n 1, 1) := by decide +kernel
theorem dX10_saveWorse_9 : decode cX10_saveWorse 9 = .ok (.ifCond .le 44, 3) := by decide +kernel
theorem dX10_saveWorse_12 : decode cX10_saveWorse 12 = .ok (.aload_n 0, 1) := by decide +kernel
theorem dX10_saveWorse_13 : decode cX10_saveWorse 13 = .ok (.getfield 14, 3) := by decide +kernel
theorem dX10_saveWorse_16 : decode cX10_saveWorse 16 = .ok (.getfield 69, 3) := by decide +kernel
theorem dX10_saveWorse_19 : decode cX10_saveWorse 19 = .ok (.iload_n 2, 1) := by decide +kernel
theorem dX10_saveWorse_20 : decode cX10_saveWorse 20 = .ok (.iaload, 1) := by decide +kernel
theorem dX10_saveWorse_21 : decode cX10_saveWorse 21 = .ok (.iconst (-1), 1) := by decide +kernel
theorem dX10_saveWorse_22 : decode cX10_saveWorse 22 = .ok (.if_icmp .eq 25, 3) := by decide +kernel
theorem dX10_saveWorse_25 : decode cX10_saveWorse 25 = .ok (.aload_n 0, 1) := by decide +kernel
theorem dX10_saveWorse_26 : decode cX10_saveWorse 26 = .ok (.getfield 14, 3) := by decide +kernel
theorem dX10_saveWorse_29 : decode cX10_saveWorse 29 = .ok (.getfield 69, 3) := by decide +kernel
theorem dX10_saveWorse_32 : decode cX10_saveWorse 32 = .ok (.iload_n 2, 1) := by decide +kernel
theorem dX10_saveWorse_33 : decode cX10_saveWorse 33 = .ok (.aload_n 0, 1) := by decide +kernel
theorem dX10_saveWorse_34 : decode cX10_saveWorse 34 = .ok (.getfield 14, 3) := by decide +kernel
theorem dX10_saveWorse_37 : decode cX10_saveWorse 37 = .ok (.getfield 69, 3) := by decide +kernel
theorem dX10_saveWorse_40 : decode cX10_saveWorse 40 = .ok (.iload_n 2, 1) := by decide +kernel
theorem dX10_saveWorse_41 : decode cX10_saveWorse 41 = .ok (.iaload, 1) := by decide +kernel
theorem dX10_saveWorse_42 : decode cX10_saveWorse 42 = .ok (.iload_n 1, 1) := by decide +kernel
theorem dX10_saveWorse_43 : decode cX10_saveWorse 43 = .ok (.idiv, 1) := by decide +kernel
theorem dX10_saveWorse_44 : decode cX10_saveWorse 44 = .ok (.iload_n 1, 1) := by decide +kernel
theorem dX10_saveWorse_45 : decode cX10_saveWorse 45 = .ok (.imul, 1) := by decide +kernel
theorem dX10_saveWorse_46 : decode cX10_saveWorse 46 = .ok (.iastore, 1) := by decide +kernel
theorem dX10_saveWorse_47 : decode cX10_saveWorse 47 = .ok (.iinc 2 1, 3) := by decide +kernel
theorem dX10_saveWorse_50 : decode cX10_saveWorse 50 = .ok (.goto (-48), 3) := by decide +kernel
theorem dX10_saveWorse_53 : decode cX10_saveWorse 53 = .ok (.return_, 1) := by decide +kernel
theorem dJ9_abs_0f7a4_0 : decode cJ9_abs_0f7a4 0 = .ok (.iload_n 0, 1) := by decide +kernel
theorem dJ9_abs_0f7a4_1 : decode cJ9_abs_0f7a4 1 = .ok (.ifCond .ge 8, 3) := by decide +kernel
theorem dJ9_abs_0f7a4_4 : decode cJ9_abs_0f7a4 4 = .ok (.iload_n 0, 1) := by decide +kernel
theorem dJ9_abs_0f7a4_5 : decode cJ9_abs_0f7a4 5 = .ok (.ineg, 1) := by decide +kernel
theorem dJ9_abs_0f7a4_6 : decode cJ9_abs_0f7a4 6 = .ok (.goto 4, 3) := by decide +kernel
theorem dJ9_abs_0f7a4_9 : decode cJ9_abs_0f7a4 9 = .ok (.iload_n 0, 1) := by decide +kernel
theorem dJ9_abs_0f7a4_10 : decode cJ9_abs_0f7a4 10 = .ok (.ireturn, 1) := by decide +kernel
theorem dJ9_max_7cf53_0 : decode cJ9_max_7cf53 0 = .ok (.iload_n 0, 1) := by decide +kernel
theorem dJ9_max_7cf53_1 : decode cJ9_max_7cf53 1 = .ok (.iload_n 1, 1) := by decide +kernel
theorem dJ9_max_7cf53_2 : decode cJ9_max_7cf53 2 = .ok (.if_icmp .lt 7, 3) := by decide +kernel
theorem dJ9_max_7cf53_5 : decode cJ9_max_7cf53 5 = .ok (.iload_n 0, 1) := by decide +kernel
theorem dJ9_max_7cf53_6 : decode cJ9_max_7cf53 6 = .ok (.goto 4, 3) := by decide +kernel
theorem dJ9_max_7cf53_9 : decode cJ9_max_7cf53 9 = .ok (.iload_n 1, 1) := by decide +kernel
theorem dJ9_max_7cf53_10 : decode cJ9_max_7cf53 10 = .ok (.ireturn, 1) := by decide +kernel
theorem dJ9_min_7cf53_0 : decode cJ9_min_7cf53 0 = .ok (.iload_n 0, 1) := by decide +kernel
theorem dJ9_min_7cf53_1 : decode cJ9_min_7cf53 1 = .ok (.iload_n 1, 1) := by decide +kernel
theorem dJ9_min_7cf53_2 : decode cJ9_min_7cf53 2 = .ok (.if_icmp .gt 7, 3) := by decide +kernel
theorem dJ9_min_7cf53_5 : decode cJ9_min_7cf53 5 = .ok (.iload_n 0, 1) := by decide +kernel
theorem dJ9_min_7cf53_6 : decode cJ9_min_7cf53 6 = .ok (.goto 4, 3) := by decide +kernel
theorem dJ9_min_7cf53_9 : decode cJ9_min_7cf53 9 = .ok (.iload_n 1, 1) := by decide +kernel
theorem dJ9_min_7cf53_10 : decode cJ9_min_7cf53 10 = .ok (.ireturn, 1) := by decide +kernel
theorem dJ7_fill_53178_0 : decode cJ7_fill_53178 0 = .ok (.iconst 0, 1) := by decide +kernel
theorem dJ7_fill_53178_1 : decode cJ7_fill_53178 1 = .ok (.istore_n 2, 1) := by decide +kernel
theorem dJ7_fill_53178_2 : decode cJ7_fill_53178 2 = .ok (.aload_n 0, 1) := by decide +kernel
theorem dJ7_fill_53178_3 : decode cJ7_fill_53178 3 = .ok (.arraylength, 1) := by decide +kernel
theorem dJ7_fill_53178_4 : decode cJ7_fill_53178 4 = .ok (.istore_n 3, 1) := by decide +kernel
theorem dJ7_fill_53178_5 : decode cJ7_fill_53178 5 = .ok (.iload_n 2, 1) := by decide +kernel
theorem dJ7_fill_53178_6 : decode cJ7_fill_53178 6 = .ok (.iload_n 3, 1) := by decide +kernel
theorem dJ7_fill_53178_7 : decode cJ7_fill_53178 7 = .ok (.if_icmp .ge 13, 3) := by decide +kernel
theorem dJ7_fill_53178_10 : decode cJ7_fill_53178 10 = .ok (.aload_n 0, 1) := by decide +kernel
theorem dJ7_fill_53178_11 : decode cJ7_fill_53178 11 = .ok (.iload_n 2, 1) := by decide +kernel
theorem dJ7_fill_53178_12 : decode cJ7_fill_53178 12 = .ok (.iload_n 1, 1) := by decide +kernel
theorem dJ7_fill_53178_13 : decode cJ7_fill_53178 13 = .ok (.iastore, 1) := by decide +kernel
theorem dJ7_fill_53178_14 : decode cJ7_fill_53178 14 = .ok (.iinc 2 1, 3) := by decide +kernel
theorem dJ7_fill_53178_17 : decode cJ7_fill_53178 17 = .ok (.goto (-12), 3) := by decide +kernel
theorem dJ7_fill_53178_20 : decode cJ7_fill_53178 20 = .ok (.return_, 1) := by decide +kernel
theorem dJ7_copyOf_59c91_0 : decode cJ7_copyOf_59c91 0 = .ok (.iload_n 1, 1) := by decide +kernel
theorem dJ7_copyOf_59c91_1 : decode cJ7_copyOf_59c91 1 = .ok (.aload_n 0, 1) := by decide +kernel
theorem dJ7_copyOf_59c91_2 : decode cJ7_copyOf_59c91 2 = .ok (.arraylength, 1) := by decide +kernel
theorem dJ7_copyOf_59c91_3 : decode cJ7_copyOf_59c91 3 = .ok (.if_icmp .ne 11, 3) := by decide +kernel
theorem dJ7_copyOf_59c91_6 : decode cJ7_copyOf_59c91 6 = .ok (.aload_n 0, 1) := by decide +kernel
theorem dJ7_copyOf_59c91_7 : decode cJ7_copyOf_59c91 7 = .ok (.invokevirtual 316, 3) := by decide +kernel
theorem dJ7_copyOf_59c91_10 : decode cJ7_copyOf_59c91 10 = .ok (.checkcast 317, 3) := by decide +kernel
theorem dJ7_copyOf_59c91_13 : decode cJ7_copyOf_59c91 13 = .ok (.areturn, 1) := by decide +kernel
theorem dJ7_copyOf_59c91_14 : decode cJ7_copyOf_59c91 14 = .ok (.iload_n 1, 1) := by decide +kernel
theorem dJ7_copyOf_59c91_15 : decode cJ7_copyOf_59c91 15 = .ok (.newarray .int, 2) := by decide +kernel
theorem dJ7_copyOf_59c91_17 : decode cJ7_copyOf_59c91 17 = .ok (.astore_n 2, 1) := by decide +kernel
theorem dJ7_copyOf_59c91_18 : decode cJ7_copyOf_59c91 18 = .ok (.aload_n 0, 1) := by decide +kernel
theorem dJ7_copyOf_59c91_19 : decode cJ7_copyOf_59c91 19 = .ok (.iconst 0, 1) := by decide +kernel
theorem dJ7_copyOf_59c91_20 : decode cJ7_copyOf_59c91 20 = .ok (.aload_n 2, 1) := by decide +kernel
theorem dJ7_copyOf_59c91_21 : decode cJ7_copyOf_59c91 21 = .ok (.iconst 0, 1) := by decide +kernel
theorem dJ7_copyOf_59c91_22 : decode cJ7_copyOf_59c91 22 = .ok (.aload_n 0, 1) := by decide +kernel
theorem dJ7_copyOf_59c91_23 : decode cJ7_copyOf_59c91 23 = .ok (.arraylength, 1) := by decide +kernel
theorem dJ7_copyOf_59c91_24 : decode cJ7_copyOf_59c91 24 = .ok (.iload_n 1, 1) := by decide +kernel
theorem dJ7_copyOf_59c91_25 : decode cJ7_copyOf_59c91 25 = .ok (.invokestatic 304, 3) := by decide +kernel
theorem dJ7_copyOf_59c91_28 : decode cJ7_copyOf_59c91 28 = .ok (.invokestatic 150, 3) := by decide +kernel
theorem dJ7_copyOf_59c91_31 : decode cJ7_copyOf_59c91 31 = .ok (.aload_n 2, 1) := by decide +kernel
theorem dJ7_copyOf_59c91_32 : decode cJ7_copyOf_59c91 32 = .ok (.areturn, 1) := by decide +kernel
