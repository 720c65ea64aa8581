theorem dX8_blow_23 : decode cX8_blow 23 = .ok (.invokestatic 39, 3) := by decide +kernel
theorem dX8_blow_26 : decode cX8_blow 26 = .ok (.ifCond .eq 20, 3) := by decide +kernel
theorem dX8_blow_29 : decode cX8_blow 29 = .ok (.aload_n 0, 1) := by decide +kernel
theorem dX8_blow_30 : decode cX8_blow 30 = .ok (.getfield 9, 3) := by decide +kernel
theorem dX8_blow_33 : decode cX8_blow 33 = .ok (.iload 5, 2) := by decide +kernel
theorem dX8_blow_35 : decode cX8_blow 35 = .ok (.bipush 24, 2) := by decide +kernel
theorem dX8_blow_37 : decode cX8_blow 37 = .ok (.imul, 1) := by decide +kernel
theorem dX8_blow_38 : decode cX8_blow 38 = .ok (.iload_n 1, 1) := by decide +kernel
theorem dX8_blow_39 : decode cX8_blow 39 = .ok (.iadd, 1) := by decide +kernel
theorem dX8_blow_40 : decode cX8_blow 40 = .ok (.iload 4, 2) := by decide +kernel
theorem dX8_blow_42 : decode cX8_blow 42 = .ok (.bipush 33, 2) := by decide +kernel
theorem dX8_blow_44 : decode cX8_blow 44 = .ok (.isub, 1) := by decide +kernel
theorem dX8_blow_45 : decode cX8_blow 45 = .ok (.iastore, 1) := by decide +kernel
theorem dX8_blow_46 : decode cX8_blow 46 = .ok (.iinc 5 1, 3) := by decide +kernel
theorem dX8_blow_49 : decode cX8_blow 49 = .ok (.goto (-46), 3) := by decide +kernel
theorem dX8_blow_52 : decode cX8_blow 52 = .ok (.return_, 1) := by decide +kernel
theorem dX8_cover_0 : decode cX8_cover 0 = .ok (.iload_n 1, 1) := by decide +kernel
theorem dX8_cover_1 : decode cX8_cover 1 = .ok (.istore 4, 2) := by decide +kernel
theorem dX8_cover_3 : decode cX8_cover 3 = .ok (.iload 4, 2) := by decide +kernel
theorem dX8_cover_5 : decode cX8_cover 5 = .ok (.iload_n 1, 1) := by decide +kernel
theorem dX8_cover_6 : decode cX8_cover 6 = .ok (.iload_n 2, 1) := by decide +kernel
theorem dX8_cover_7 : decode cX8_cover 7 = .ok (.iadd, 1) := by decide +kernel
theorem dX8_cover_8 : decode cX8_cover 8 = .ok (.if_icmp .ge 25, 3) := by decide +kernel
theorem dX8_cover_11 : decode cX8_cover 11 = .ok (.iload 4, 2) := by decide +kernel
theorem dX8_cover_13 : decode cX8_cover 13 = .ok (.invokestatic 35, 3) := by decide +kernel
theorem dX8_cover_16 : decode cX8_cover 16 = .ok (.ifCond .eq 11, 3) := by decide +kernel
theorem dX8_cover_19 : decode cX8_cover 19 = .ok (.aload_n 0, 1) := by decide +kernel
theorem dX8_cover_20 : decode cX8_cover 20 = .ok (.getfield 18, 3) := by decide +kernel
theorem dX8_cover_23 : decode cX8_cover 23 = .ok (.iload 4, 2) := by decide +kernel
theorem dX8_cover_25 : decode cX8_cover 25 = .ok (.iload_n 3, 1) := by decide +kernel
theorem dX8_cover_26 : decode cX8_cover 26 = .ok (.bastore, 1) := by decide +kernel
theorem dX8_cover_27 : decode cX8_cover 27 = .ok (.iinc 4 1, 3) := by decide +kernel
theorem dX8_cover_30 : decode cX8_cover 30 = .ok (.goto (-27), 3) := by decide +kernel
theorem dX8_cover_33 : decode cX8_cover 33 = .ok (.return_, 1) := by decide +kernel
theorem dX8_isFound_0 : decode cX8_isFound 0 = .ok (.iload_n 2, 1) := by decide +kernel
theorem dX8_isFound_1 : decode cX8_isFound 1 = .ok (.invokestatic 35, 3) := by decide +kernel
theorem dX8_isFound_4 : decode cX8_isFound 4 = .ok (.ifCond .eq 21, 3) := by decide +kernel
theorem dX8_isFound_7 : decode cX8_isFound 7 = .ok (.aload_n 0, 1) := by decide +kernel
theorem dX8_isFound_8 : decode cX8_isFound 8 = .ok (.getfield 15, 3) := by decide +kernel
theorem dX8_isFound_11 : decode cX8_isFound 11 = .ok (.iload_n 2, 1) := by decide +kernel
theorem dX8_isFound_12 : decode cX8_isFound 12 = .ok (.iaload, 1) := by decide +kernel
theorem dX8_isFound_13 : decode cX8_isFound 13 = .ok (.iload_n 1, 1) := by decide +kernel
theorem dX8_isFound_14 : decode cX8_isFound 14 = .ok (.ishr, 1) := by decide +kernel
theorem dX8_isFound_15 : decode cX8_isFound 15 = .ok (.iconst 1, 1) := by decide +kernel
theorem dX8_isFound_16 : decode cX8_isFound 16 = .ok (.iand, 1) := by decide +kernel
theorem dX8_isFound_17 : decode cX8_isFound 17 = .ok (.iconst 1, 1) := by decide +kernel
theorem dX8_isFound_18 : decode cX8_isFound 18 = .ok (.if_icmp .ne 7, 3) := by decide +kernel
theorem dX8_isFound_25 : decode cX8_isFound 25 = .ok (.iconst 0, 1) := by decide +kernel
theorem dX8_isFound_26 : decode cX8_isFound 26 = .ok (.ireturn, 1) := by decide +kernel
theorem dX8_tell_0 : decode cX8_tell 0 = .ok (.aload_n 0, 1) := by decide +kernel
theorem dX8_tell_1 : decode cX8_tell 1 = .ok (.getfield 28, 3) := by decide +kernel
theorem dX8_tell_4 : decode cX8_tell 4 = .ok (.bipush 100, 2) := by decide +kernel
theorem dX8_tell_6 : decode cX8_tell 6 = .ok (.if_icmp .lt 5, 3) := by decide +kernel
theorem dX8_tell_11 : decode cX8_tell 11 = .ok (.aload_n 0, 1) := by decide +kernel
theorem dX8_tell_12 : decode cX8_tell 12 = .ok (.getfield 24, 3) := by decide +kernel
theorem dX8_tell_15 : decode cX8_tell 15 = .ok (.aload_n 0, 1) := by decide +kernel
theorem dX8_tell_16 : decode cX8_tell 16 = .ok (.getfield 28, 3) := by decide +kernel
theorem dX8_tell_19 : decode cX8_tell 19 = .ok (.aload_n 1, 1) := by decide +kernel
theorem dX8_tell_20 : decode cX8_tell 20 = .ok (.aastore, 1) := by decide +kernel
theorem dX8_tell_21 : decode cX8_tell 21 = .ok (.aload_n 0, 1) := by decide +kernel
theorem dX8_tell_22 : decode cX8_tell 22 = .ok (.dup, 1) := by decide +kernel
theorem dX8_tell_23 : decode cX8_tell 23 = .ok (.getfield 28, 3) := by decide +kernel
theorem dX8_tell_26 : decode cX8_tell 26 = .ok (.iconst 1, 1) := by decide +kernel
theorem dX8_tell_27 : decode cX8_tell 27 = .ok (.iadd, 1) := by decide +kernel
theorem dX8_tell_28 : decode cX8_tell 28 = .ok (.putfield 28, 3) := by decide +kernel
theorem dX8_tell_31 : decode cX8_tell 31 = .ok (.aload_n 0, 1) := by decide +kernel
theorem dX8_tell_32 : decode cX8_tell 32 = .ok (.getfield 28, 3) := by decide +kernel
theorem dX8_tell_35 : decode cX8_tell 35 = .ok (.ireturn, 1) := by decide +kernel
theorem dX8_toldWind_0 : decode cX8_toldWind 0 = .ok (.aload_n 0, 1) := by decide +kernel
theorem dX8_toldWind_1 : decode cX8_toldWind 1 = .ok (.getfield 28, 3) := by decide +kernel
theorem dX8_toldWind_4 : decode cX8_toldWind 4 = .ok (.iconst 1, 1) := by decide +kernel
theorem dX8_toldWind_5 : decode cX8_toldWind 5 = .ok (.isub, 1) := by decide +kernel
theorem dX8_toldWind_6 : decode cX8_toldWind 6 = .ok (.istore 4, 2) := by decide +kernel
theorem dX8_toldWind_8 : decode cX8_toldWind 8 = .ok (.iload 4, 2) := by decide +kernel
theorem dX8_toldWind_10 : decode cX8_toldWind 10 = .ok (.ifCond .lt 60, 3) := by decide +kernel
theorem dX8_toldWind_70 : decode cX8_toldWind 70 = .ok (.bipush 33, 2) := by decide +kernel
theorem dX8_toldWind_72 : decode cX8_toldWind 72 = .ok (.ireturn, 1) := by decide +kernel
theorem dX9_choose_0 : decode cX9_choose 0 = .ok (.aload_n 0, 1) := by decide +kernel
theorem dX9_choose_1 : decode cX9_choose 1 = .ok (.iload_n 1, 1) := by decide +kernel
theorem dX9_choose_2 : decode cX9_choose 2 = .ok (.putfield 29, 3) := by decide +kernel
theorem dX9_choose_5 : decode cX9_choose 5 = .ok (.aload_n 0, 1) := by decide +kernel
theorem dX9_choose_6 : decode cX9_choose 6 = .ok (.iload_n 2, 1) := by decide +kernel
theorem dX9_choose_7 : decode cX9_choose 7 = .ok (.putfield 32, 3) := by decide +kernel
theorem dX9_choose_10 : decode cX9_choose 10 = .ok (.aload_n 0, 1) := by decide +kernel
theorem dX9_choose_11 : decode cX9_choose 11 = .ok (.iconst 0, 1) := by decide +kernel
theorem dX9_choose_12 : decode cX9_choose 12 = .ok (.putfield 38, 3) := by decide +kernel
theorem dX9_choose_15 : decode cX9_choose 15 = .ok (.aload_n 0, 1) := by decide +kernel
theorem dX9_choose_16 : decode cX9_choose 16 = .ok (.iconst 0, 1) := by decide +kernel
theorem dX9_choose_17 : decode cX9_choose 17 = .ok (.iconst 0, 1) := by decide +kernel
theorem dX9_choose_18 : decode cX9_choose 18 = .ok (.iconst 0, 1) := by decide +kernel
theorem dX9_choose_19 : decode cX9_choose 19 = .ok (.iconst 0, 1) := by decide +kernel
theorem dX9_choose_20 : decode cX9_choose 20 = .ok (.iconst 0, 1) := by decide +kernel
theorem dX9_choose_21 : decode cX9_choose 21 = .ok (.invokevirtual 50, 3) := by decide +kernel
theorem dX9_choose_24 : decode cX9_choose 24 = .ok (.aload_n 0, 1) := by decide +kernel
theorem dX9_choose_25 : decode cX9_choose 25 = .ok (.getfield 38, 3) := by decide +kernel
theorem dX9_choose_28 : decode cX9_choose 28 = .ok (.ifCond .eq 7, 3) := by decide +kernel
theorem dX9_choose_35 : decode cX9_choose 35 = .ok (.iconst 0, 1) := by decide +kernel
theorem dX9_choose_36 : decode cX9_choose 36 = .ok (.ireturn, 1) := by decide +kernel
theorem dX9_judge_0 : decode cX9_judge 0 = .ok (.iload_n 2, 1) := by decide +kernel
theorem dX9_judge_1 : decode cX9_judge 1 = .ok (.iconst 1, 1) := by decide +kernel
theorem dX9_judge_2 : decode cX9_judge 2 = .ok (.if_icmp .lt 21, 3) := by decide +kernel
theorem dX9_judge_23 : decode cX9_judge 23 = .ok (.return_, 1) := by decide +kernel
theorem dX9_keep_0 : decode cX9_keep 0 = .ok (.aload_n 0, 1) := by decide +kernel
theorem dX9_keep_1 : decode cX9_keep 1 = .ok (.getfield 25, 3) := by decide +kernel
theorem dX9_keep_4 : decode cX9_keep 4 = .ok (.bipush 10, 2) := by decide +kernel
theorem dX9_keep_6 : decode cX9_keep 6 = .ok (.if_icmp .lt 5, 3) := by decide +kernel
theorem dX9_keep_11 : decode cX9_keep 11 = .ok (.aload_n 0, 1) := by decide +kernel
theorem dX9_keep_12 : decode cX9_keep 12 = .ok (.getfield 9, 3) := by decide +kernel
theorem dX9_keep_15 : decode cX9_keep 15 = .ok (.aload_n 0, 1) := by decide +kernel
theorem dX9_keep_16 : decode cX9_keep 16 = .ok (.getfield 25, 3) := by decide +kernel
theorem dX9_keep_19 : decode cX9_keep 19 = .ok (.iload_n 1, 1) := by decide +kernel
theorem dX9_keep_20 : decode cX9_keep 20 = .ok (.iastore, 1) := by decide +kernel
theorem dX9_keep_21 : decode cX9_keep 21 = .ok (.aload_n 0, 1) := by decide +kernel
theorem dX9_keep_22 : decode cX9_keep 22 = .ok (.getfield 15, 3) := by decide +kernel
theorem dX9_keep_25 : decode cX9_keep 25 = .ok (.aload_n 0, 1) := by decide +kernel
theorem dX9_keep_26 : decode cX9_keep 26 = .ok (.getfield 25, 3) := by decide +kernel
theorem dX9_keep_29 : decode cX9_keep 29 = .ok (.iload_n 2, 1) := by decide +kernel
theorem dX9_keep_30 : decode cX9_keep 30 = .ok (.iastore, 1) := by decide +kernel
theorem dX9_keep_31 : decode cX9_keep 31 = .ok (.aload_n 0, 1) := by decide +kernel
theorem dX9_keep_32 : decode cX9_keep 32 = .ok (.getfield 18, 3) := by decide +kernel
theorem dX9_keep_35 : decode cX9_keep 35 = .ok (.aload_n 0, 1) := by decide +kernel
theorem dX9_keep_36 : decode cX9_keep 36 = .ok (.getfield 25, 3) := by decide +kernel
theorem dX9_keep_39 : decode cX9_keep 39 = .ok (.iload_n 3, 1) := by decide +kernel
theorem dX9_keep_40 : decode cX9_keep 40 = .ok (.iastore, 1) := by decide +kernel
theorem dX9_keep_41 : decode cX9_keep 41 = .ok (.aload_n 0, 1) := by decide +kernel
theorem dX9_keep_42 : decode cX9_keep 42 = .ok (.dup, 1) := by decide +kernel
theorem dX9_keep_43 : decode cX9_keep 43 = .ok (.getfield 25, 3) := by decide +kernel
theorem dX9_keep_46 : decode cX9_keep 46 = .ok (.iconst 1, 1) := by decide +kernel
theorem dX9_keep_47 : decode cX9_keep 47 = .ok (.iadd, 1) := by decide +kernel
theorem dX9_keep_48 : decode cX9_keep 48 = .ok (.putfield 25, 3) := by decide +kernel
theorem dX9_keep_51 : decode cX9_keep 51 = .ok (.aload_n 0, 1) := by decide +kernel
theorem dX9_keep_52 : decode cX9_keep 52 = .ok (.dup, 1) := by decide +kernel
theorem dX9_keep_53 : decode cX9_keep 53 = .ok (.getfield 35, 3) := by decide +kernel
theorem dX9_keep_56 : decode cX9_keep 56 = .ok (.iconst 1, 1) := by decide +kernel
theorem dX9_keep_57 : decode cX9_keep 57 = .ok (.iadd, 1) := by decide +kernel
theorem dX9_keep_58 : decode cX9_keep 58 = .ok (.putfield 35, 3) := by decide +kernel
theorem dX9_keep_61 : decode cX9_keep 61 = .ok (.aload_n 0, 1) := by decide +kernel
theorem dX9_keep_62 : decode cX9_keep 62 = .ok (.getfield 25, 3) := by decide +kernel
theorem dX9_keep_65 : decode cX9_keep 65 = .ok (.iconst 1, 1) := by decide +kernel
theorem dX9_keep_66 : decode cX9_keep 66 = .ok (.isub, 1) := by decide +kernel
theorem dX9_keep_67 : decode cX9_keep 67 = .ok (.ireturn, 1) := by decide +kernel
theorem dX9_tryFrom_0 : decode cX9_tryFrom 0 = .ok (.aload_n 0, 1) := by decide +kernel
theorem dX9_tryFrom_1 : decode cX9_tryFrom 1 = .ok (.getfield 38, 3) := by decide +kernel
theorem dX9_tryFrom_4 : decode cX9_tryFrom 4 = .ok (.ifCond .eq 13, 3) := by decide +kernel
theorem dX9_tryFrom_17 : decode cX9_tryFrom 17 = .ok (.iload_n 1, 1) := by decide +kernel
theorem dX9_tryFrom_18 : decode cX9_tryFrom 18 = .ok (.aload_n 0, 1) := by decide +kernel
theorem dX9_tryFrom_19 : decode cX9_tryFrom 19 = .ok (.getfield 25, 3) := by decide +kernel
theorem dX9_tryFrom_22 : decode cX9_tryFrom 22 = .ok (.if_icmp .ge 9, 3) := by decide +kernel
theorem dX9_tryFrom_31 : decode cX9_tryFrom 31 = .ok (.aload_n 0, 1) := by decide +kernel
theorem dX9_tryFrom_32 : decode cX9_tryFrom 32 = .ok (.iload_n 2, 1) := by decide +kernel
theorem dX9_tryFrom_33 : decode cX9_tryFrom 33 = .ok (.iload_n 3, 1) := by decide +kernel
theorem dX9_tryFrom_34 : decode cX9_tryFrom 34 = .ok (.iload 4, 2) := by decide +kernel
theorem dX9_tryFrom_36 : decode cX9_tryFrom 36 = .ok (.iload 5, 2) := by decide +kernel
theorem dX9_tryFrom_38 : decode cX9_tryFrom 38 = .ok (.invokevirtual 54, 3) := by decide +kernel
theorem dX9_tryFrom_41 : decode cX9_tryFrom 41 = .ok (.return_, 1) := by decide +kernel
