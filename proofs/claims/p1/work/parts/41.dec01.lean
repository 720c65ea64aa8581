theorem dX12_found_16 : decode cX12_found 16 = .ok (.goto 4, 3) := by decide +kernel
theorem dX12_found_19 : decode cX12_found 19 = .ok (.iconst 0, 1) := by decide +kernel
theorem dX12_found_20 : decode cX12_found 20 = .ok (.iconst 1, 1) := by decide +kernel
theorem dX12_found_21 : decode cX12_found 21 = .ok (.invokevirtual 225, 3) := by decide +kernel
theorem dX12_found_24 : decode cX12_found 24 = .ok (.ifCond .eq 5, 3) := by decide +kernel
theorem dX12_found_27 : decode cX12_found 27 = .ok (.iconst 0, 1) := by decide +kernel
theorem dX12_found_28 : decode cX12_found 28 = .ok (.ireturn, 1) := by decide +kernel
theorem dX12_found_29 : decode cX12_found 29 = .ok (.iload_n 1, 1) := by decide +kernel
theorem dX12_found_30 : decode cX12_found 30 = .ok (.iload_n 2, 1) := by decide +kernel
theorem dX12_found_31 : decode cX12_found 31 = .ok (.iload_n 3, 1) := by decide +kernel
theorem dX12_found_32 : decode cX12_found 32 = .ok (.invokestatic 232, 3) := by decide +kernel
theorem dX12_found_35 : decode cX12_found 35 = .ok (.istore 4, 2) := by decide +kernel
theorem dX12_found_37 : decode cX12_found 37 = .ok (.aload_n 0, 1) := by decide +kernel
theorem dX12_found_38 : decode cX12_found 38 = .ok (.getfield 16, 3) := by decide +kernel
theorem dX12_found_41 : decode cX12_found 41 = .ok (.iload 4, 2) := by decide +kernel
theorem dX12_found_43 : decode cX12_found 43 = .ok (.baload, 1) := by decide +kernel
theorem dX12_found_44 : decode cX12_found 44 = .ok (.ifCond .eq 28, 3) := by decide +kernel
theorem dX12_found_72 : decode cX12_found 72 = .ok (.iconst (-1), 1) := by decide +kernel
theorem dX12_found_73 : decode cX12_found 73 = .ok (.ireturn, 1) := by decide +kernel
theorem dX12_home_0 : decode cX12_home 0 = .ok (.aload_n 0, 1) := by decide +kernel
theorem dX12_home_1 : decode cX12_home 1 = .ok (.iload_n 1, 1) := by decide +kernel
theorem dX12_home_2 : decode cX12_home 2 = .ok (.invokevirtual 288, 3) := by decide +kernel
theorem dX12_home_5 : decode cX12_home 5 = .ok (.ifCond .ne 5, 3) := by decide +kernel
theorem dX12_home_8 : decode cX12_home 8 = .ok (.iconst 0, 1) := by decide +kernel
theorem dX12_home_9 : decode cX12_home 9 = .ok (.ireturn, 1) := by decide +kernel
theorem dX12_hours_0 : decode cX12_hours 0 = .ok (.aload_n 0, 1) := by decide +kernel
theorem dX12_hours_1 : decode cX12_hours 1 = .ok (.iconst 0, 1) := by decide +kernel
theorem dX12_hours_2 : decode cX12_hours 2 = .ok (.putfield 210, 3) := by decide +kernel
theorem dX12_hours_5 : decode cX12_hours 5 = .ok (.aload_n 0, 1) := by decide +kernel
theorem dX12_hours_6 : decode cX12_hours 6 = .ok (.iload_n 1, 1) := by decide +kernel
theorem dX12_hours_7 : decode cX12_hours 7 = .ok (.iconst 0, 1) := by decide +kernel
theorem dX12_hours_8 : decode cX12_hours 8 = .ok (.bipush 100, 2) := by decide +kernel
theorem dX12_hours_10 : decode cX12_hours 10 = .ok (.invokestatic 213, 3) := by decide +kernel
theorem dX12_hours_13 : decode cX12_hours 13 = .ok (.ifCond .ne 7, 3) := by decide +kernel
theorem dX12_hours_16 : decode cX12_hours 16 = .ok (.iconst 1, 1) := by decide +kernel
theorem dX12_hours_17 : decode cX12_hours 17 = .ok (.goto 4, 3) := by decide +kernel
theorem dX12_hours_20 : decode cX12_hours 20 = .ok (.iconst 0, 1) := by decide +kernel
theorem dX12_hours_21 : decode cX12_hours 21 = .ok (.iconst 1, 1) := by decide +kernel
theorem dX12_hours_22 : decode cX12_hours 22 = .ok (.invokevirtual 225, 3) := by decide +kernel
theorem dX12_hours_25 : decode cX12_hours 25 = .ok (.ifCond .ne 28, 3) := by decide +kernel
theorem dX12_hours_28 : decode cX12_hours 28 = .ok (.aload_n 0, 1) := by decide +kernel
theorem dX12_hours_29 : decode cX12_hours 29 = .ok (.aload_n 0, 1) := by decide +kernel
theorem dX12_hours_30 : decode cX12_hours 30 = .ok (.getfield 229, 3) := by decide +kernel
theorem dX12_hours_33 : decode cX12_hours 33 = .ok (.iload_n 1, 1) := by decide +kernel
theorem dX12_hours_34 : decode cX12_hours 34 = .ok (.iadd, 1) := by decide +kernel
theorem dX12_hours_35 : decode cX12_hours 35 = .ok (.sipush 1000, 3) := by decide +kernel
theorem dX12_hours_38 : decode cX12_hours 38 = .ok (.if_icmp .le 7, 3) := by decide +kernel
theorem dX12_hours_45 : decode cX12_hours 45 = .ok (.iconst 0, 1) := by decide +kernel
theorem dX12_hours_46 : decode cX12_hours 46 = .ok (.iconst 2, 1) := by decide +kernel
theorem dX12_hours_47 : decode cX12_hours 47 = .ok (.invokevirtual 225, 3) := by decide +kernel
theorem dX12_hours_50 : decode cX12_hours 50 = .ok (.ifCond .eq 5, 3) := by decide +kernel
theorem dX12_hours_53 : decode cX12_hours 53 = .ok (.iconst 0, 1) := by decide +kernel
theorem dX12_hours_54 : decode cX12_hours 54 = .ok (.ireturn, 1) := by decide +kernel
theorem dX12_hours_55 : decode cX12_hours 55 = .ok (.iconst 0, 1) := by decide +kernel
theorem dX12_hours_56 : decode cX12_hours 56 = .ok (.istore_n 2, 1) := by decide +kernel
theorem dX12_hours_57 : decode cX12_hours 57 = .ok (.iload_n 2, 1) := by decide +kernel
theorem dX12_hours_58 : decode cX12_hours 58 = .ok (.iload_n 1, 1) := by decide +kernel
theorem dX12_hours_59 : decode cX12_hours 59 = .ok (.if_icmp .ge 50, 3) := by decide +kernel
theorem dX12_hours_62 : decode cX12_hours 62 = .ok (.iconst 0, 1) := by decide +kernel
theorem dX12_hours_63 : decode cX12_hours 63 = .ok (.istore_n 3, 1) := by decide +kernel
theorem dX12_hours_64 : decode cX12_hours 64 = .ok (.iload_n 3, 1) := by decide +kernel
theorem dX12_hours_65 : decode cX12_hours 65 = .ok (.aload_n 0, 1) := by decide +kernel
theorem dX12_hours_66 : decode cX12_hours 66 = .ok (.getfield 250, 3) := by decide +kernel
theorem dX12_hours_69 : decode cX12_hours 69 = .ok (.if_icmp .ge 24, 3) := by decide +kernel
theorem dX12_hours_93 : decode cX12_hours 93 = .ok (.aload_n 0, 1) := by decide +kernel
theorem dX12_hours_94 : decode cX12_hours 94 = .ok (.dup, 1) := by decide +kernel
theorem dX12_hours_95 : decode cX12_hours 95 = .ok (.getfield 229, 3) := by decide +kernel
theorem dX12_hours_98 : decode cX12_hours 98 = .ok (.iconst 1, 1) := by decide +kernel
theorem dX12_hours_99 : decode cX12_hours 99 = .ok (.iadd, 1) := by decide +kernel
theorem dX12_hours_100 : decode cX12_hours 100 = .ok (.putfield 229, 3) := by decide +kernel
theorem dX12_hours_103 : decode cX12_hours 103 = .ok (.iinc 2 1, 3) := by decide +kernel
theorem dX12_hours_106 : decode cX12_hours 106 = .ok (.goto (-49), 3) := by decide +kernel
theorem dX12_hours_109 : decode cX12_hours 109 = .ok (.aload_n 0, 1) := by decide +kernel
theorem dX12_hours_110 : decode cX12_hours 110 = .ok (.getfield 229, 3) := by decide +kernel
theorem dX12_hours_113 : decode cX12_hours 113 = .ok (.ireturn, 1) := by decide +kernel
theorem dX12_inspect_0 : decode cX12_inspect 0 = .ok (.aload_n 0, 1) := by decide +kernel
theorem dX12_inspect_1 : decode cX12_inspect 1 = .ok (.iload_n 1, 1) := by decide +kernel
theorem dX12_inspect_2 : decode cX12_inspect 2 = .ok (.invokevirtual 288, 3) := by decide +kernel
theorem dX12_inspect_5 : decode cX12_inspect 5 = .ok (.ifCond .ne 5, 3) := by decide +kernel
theorem dX12_inspect_8 : decode cX12_inspect 8 = .ok (.iconst 0, 1) := by decide +kernel
theorem dX12_inspect_9 : decode cX12_inspect 9 = .ok (.ireturn, 1) := by decide +kernel
theorem dX12_isBalloon_0 : decode cX12_isBalloon 0 = .ok (.aload_n 0, 1) := by decide +kernel
theorem dX12_isBalloon_1 : decode cX12_isBalloon 1 = .ok (.iload_n 1, 1) := by decide +kernel
theorem dX12_isBalloon_2 : decode cX12_isBalloon 2 = .ok (.iconst 0, 1) := by decide +kernel
theorem dX12_isBalloon_3 : decode cX12_isBalloon 3 = .ok (.aload_n 0, 1) := by decide +kernel
theorem dX12_isBalloon_4 : decode cX12_isBalloon 4 = .ok (.getfield 250, 3) := by decide +kernel
theorem dX12_isBalloon_7 : decode cX12_isBalloon 7 = .ok (.iconst 1, 1) := by decide +kernel
theorem dX12_isBalloon_8 : decode cX12_isBalloon 8 = .ok (.isub, 1) := by decide +kernel
theorem dX12_isBalloon_9 : decode cX12_isBalloon 9 = .ok (.invokestatic 213, 3) := by decide +kernel
theorem dX12_isBalloon_12 : decode cX12_isBalloon 12 = .ok (.ifCond .eq 7, 3) := by decide +kernel
theorem dX12_isBalloon_19 : decode cX12_isBalloon 19 = .ok (.iconst 1, 1) := by decide +kernel
theorem dX12_isBalloon_20 : decode cX12_isBalloon 20 = .ok (.putfield 210, 3) := by decide +kernel
theorem dX12_isBalloon_23 : decode cX12_isBalloon 23 = .ok (.aload_n 0, 1) := by decide +kernel
theorem dX12_isBalloon_24 : decode cX12_isBalloon 24 = .ok (.getfield 210, 3) := by decide +kernel
theorem dX12_isBalloon_27 : decode cX12_isBalloon 27 = .ok (.ifCond .ne 7, 3) := by decide +kernel
theorem dX12_isBalloon_34 : decode cX12_isBalloon 34 = .ok (.iconst 0, 1) := by decide +kernel
theorem dX12_isBalloon_35 : decode cX12_isBalloon 35 = .ok (.ireturn, 1) := by decide +kernel
theorem dX12_leaks_0 : decode cX12_leaks 0 = .ok (.aload_n 0, 1) := by decide +kernel
theorem dX12_leaks_1 : decode cX12_leaks 1 = .ok (.iconst 0, 1) := by decide +kernel
theorem dX12_leaks_2 : decode cX12_leaks 2 = .ok (.putfield 210, 3) := by decide +kernel
theorem dX12_leaks_5 : decode cX12_leaks 5 = .ok (.aload_n 0, 1) := by decide +kernel
theorem dX12_leaks_6 : decode cX12_leaks 6 = .ok (.iload_n 1, 1) := by decide +kernel
theorem dX12_leaks_7 : decode cX12_leaks 7 = .ok (.iconst 0, 1) := by decide +kernel
theorem dX12_leaks_8 : decode cX12_leaks 8 = .ok (.iconst 2, 1) := by decide +kernel
theorem dX12_leaks_9 : decode cX12_leaks 9 = .ok (.invokestatic 213, 3) := by decide +kernel
theorem dX12_leaks_12 : decode cX12_leaks 12 = .ok (.ifCond .ne 7, 3) := by decide +kernel
theorem dX12_leaks_15 : decode cX12_leaks 15 = .ok (.iconst 1, 1) := by decide +kernel
theorem dX12_leaks_16 : decode cX12_leaks 16 = .ok (.goto 4, 3) := by decide +kernel
theorem dX12_leaks_19 : decode cX12_leaks 19 = .ok (.iconst 0, 1) := by decide +kernel
theorem dX12_leaks_20 : decode cX12_leaks 20 = .ok (.iconst 1, 1) := by decide +kernel
theorem dX12_leaks_21 : decode cX12_leaks 21 = .ok (.invokevirtual 225, 3) := by decide +kernel
theorem dX12_leaks_24 : decode cX12_leaks 24 = .ok (.ifCond .eq 5, 3) := by decide +kernel
theorem dX12_leaks_27 : decode cX12_leaks 27 = .ok (.iconst 0, 1) := by decide +kernel
theorem dX12_leaks_28 : decode cX12_leaks 28 = .ok (.ireturn, 1) := by decide +kernel
theorem dX12_leaks_29 : decode cX12_leaks 29 = .ok (.iconst 0, 1) := by decide +kernel
theorem dX12_leaks_30 : decode cX12_leaks 30 = .ok (.istore_n 2, 1) := by decide +kernel
theorem dX12_leaks_31 : decode cX12_leaks 31 = .ok (.iconst (-1), 1) := by decide +kernel
theorem dX12_leaks_32 : decode cX12_leaks 32 = .ok (.istore_n 3, 1) := by decide +kernel
theorem dX12_leaks_33 : decode cX12_leaks 33 = .ok (.iconst (-1), 1) := by decide +kernel
theorem dX12_leaks_34 : decode cX12_leaks 34 = .ok (.istore 4, 2) := by decide +kernel
theorem dX12_leaks_36 : decode cX12_leaks 36 = .ok (.iconst 0, 1) := by decide +kernel
theorem dX12_leaks_37 : decode cX12_leaks 37 = .ok (.istore 5, 2) := by decide +kernel
theorem dX12_leaks_39 : decode cX12_leaks 39 = .ok (.iload 5, 2) := by decide +kernel
theorem dX12_leaks_41 : decode cX12_leaks 41 = .ok (.bipush 100, 2) := by decide +kernel
theorem dX12_leaks_43 : decode cX12_leaks 43 = .ok (.if_icmp .gt 46, 3) := by decide +kernel
theorem dX12_leaks_46 : decode cX12_leaks 46 = .ok (.aload_n 0, 1) := by decide +kernel
theorem dX12_leaks_47 : decode cX12_leaks 47 = .ok (.getfield 532, 3) := by decide +kernel
theorem dX12_leaks_50 : decode cX12_leaks 50 = .ok (.ifCond .le 39, 3) := by decide +kernel
theorem dX12_leaks_89 : decode cX12_leaks 89 = .ok (.iload_n 1, 1) := by decide +kernel
theorem dX12_leaks_90 : decode cX12_leaks 90 = .ok (.ifCond .ne 7, 3) := by decide +kernel
theorem dX12_leaks_93 : decode cX12_leaks 93 = .ok (.iload_n 2, 1) := by decide +kernel
theorem dX12_leaks_94 : decode cX12_leaks 94 = .ok (.goto 14, 3) := by decide +kernel
theorem dX12_leaks_97 : decode cX12_leaks 97 = .ok (.iload_n 1, 1) := by decide +kernel
theorem dX12_leaks_98 : decode cX12_leaks 98 = .ok (.iconst 1, 1) := by decide +kernel
theorem dX12_leaks_99 : decode cX12_leaks 99 = .ok (.if_icmp .ne 7, 3) := by decide +kernel
theorem dX12_leaks_102 : decode cX12_leaks 102 = .ok (.iload_n 3, 1) := by decide +kernel
theorem dX12_leaks_103 : decode cX12_leaks 103 = .ok (.goto 5, 3) := by decide +kernel
theorem dX12_leaks_106 : decode cX12_leaks 106 = .ok (.iload 4, 2) := by decide +kernel
theorem dX12_leaks_108 : decode cX12_leaks 108 = .ok (.ireturn, 1) := by decide +kernel
theorem dX12_log_0 : decode cX12_log 0 = .ok (.aload_n 0, 1) := by decide +kernel
theorem dX12_log_1 : decode cX12_log 1 = .ok (.iconst 0, 1) := by decide +kernel
theorem dX12_log_2 : decode cX12_log 2 = .ok (.putfield 210, 3) := by decide +kernel
theorem dX12_log_5 : decode cX12_log 5 = .ok (.aload_n 0, 1) := by decide +kernel
theorem dX12_log_6 : decode cX12_log 6 = .ok (.iload_n 1, 1) := by decide +kernel
theorem dX12_log_7 : decode cX12_log 7 = .ok (.iconst 0, 1) := by decide +kernel
theorem dX12_log_8 : decode cX12_log 8 = .ok (.sipush 10000, 3) := by decide +kernel
theorem dX12_log_11 : decode cX12_log 11 = .ok (.invokestatic 213, 3) := by decide +kernel
theorem dX12_log_14 : decode cX12_log 14 = .ok (.ifCond .eq 14, 3) := by decide +kernel
theorem dX12_log_17 : decode cX12_log 17 = .ok (.iload_n 2, 1) := by decide +kernel
theorem dX12_log_18 : decode cX12_log 18 = .ok (.iconst 0, 1) := by decide +kernel
theorem dX12_log_19 : decode cX12_log 19 = .ok (.sipush 500, 3) := by decide +kernel
theorem dX12_log_22 : decode cX12_log 22 = .ok (.invokestatic 213, 3) := by decide +kernel
theorem dX12_log_25 : decode cX12_log 25 = .ok (.ifCond .ne 7, 3) := by decide +kernel
theorem dX12_log_28 : decode cX12_log 28 = .ok (.iconst 1, 1) := by decide +kernel
theorem dX12_log_29 : decode cX12_log 29 = .ok (.goto 4, 3) := by decide +kernel
theorem dX12_log_32 : decode cX12_log 32 = .ok (.iconst 0, 1) := by decide +kernel
theorem dX12_log_33 : decode cX12_log 33 = .ok (.iconst 1, 1) := by decide +kernel
theorem dX12_log_34 : decode cX12_log 34 = .ok (.invokevirtual 225, 3) := by decide +kernel
theorem dX12_log_37 : decode cX12_log 37 = .ok (.ifCond .eq 5, 3) := by decide +kernel
theorem dX12_log_40 : decode cX12_log 40 = .ok (.iconst 0, 1) := by decide +kernel
theorem dX12_log_41 : decode cX12_log 41 = .ok (.ireturn, 1) := by decide +kernel
theorem dX12_log_42 : decode cX12_log 42 = .ok (.aload_n 0, 1) := by decide +kernel
theorem dX12_log_43 : decode cX12_log 43 = .ok (.getfield 532, 3) := by decide +kernel
theorem dX12_log_46 : decode cX12_log 46 = .ok (.bipush 30, 2) := by decide +kernel
theorem dX12_log_48 : decode cX12_log 48 = .ok (.if_icmp .ne 5, 3) := by decide +kernel
theorem dX12_log_53 : decode cX12_log 53 = .ok (.aload_n 0, 1) := by decide +kernel
theorem dX12_log_54 : decode cX12_log 54 = .ok (.getfield 204, 3) := by decide +kernel
theorem dX12_log_57 : decode cX12_log 57 = .ok (.aload_n 0, 1) := by decide +kernel
theorem dX12_log_58 : decode cX12_log 58 = .ok (.getfield 532, 3) := by decide +kernel
theorem dX12_log_61 : decode cX12_log 61 = .ok (.iload_n 1, 1) := by decide +kernel
theorem dX12_log_62 : decode cX12_log 62 = .ok (.iastore, 1) := by decide +kernel
theorem dX12_log_63 : decode cX12_log 63 = .ok (.aload_n 0, 1) := by decide +kernel
theorem dX12_log_64 : decode cX12_log 64 = .ok (.getfield 207, 3) := by decide +kernel
theorem dX12_log_67 : decode cX12_log 67 = .ok (.aload_n 0, 1) := by decide +kernel
theorem dX12_log_68 : decode cX12_log 68 = .ok (.getfield 532, 3) := by decide +kernel
theorem dX12_log_71 : decode cX12_log 71 = .ok (.iload_n 2, 1) := by decide +kernel
theorem dX12_log_72 : decode cX12_log 72 = .ok (.iastore, 1) := by decide +kernel
theorem dX12_log_73 : decode cX12_log 73 = .ok (.aload_n 0, 1) := by decide +kernel
theorem dX12_log_74 : decode cX12_log 74 = .ok (.dup, 1) := by decide +kernel
theorem dX12_log_75 : decode cX12_log 75 = .ok (.getfield 532, 3) := by decide +kernel
theorem dX12_log_78 : decode cX12_log 78 = .ok (.iconst 1, 1) := by decide +kernel
theorem dX12_log_79 : decode cX12_log 79 = .ok (.iadd, 1) := by decide +kernel
theorem dX12_log_80 : decode cX12_log 80 = .ok (.putfield 532, 3) := by decide +kernel
theorem dX12_log_83 : decode cX12_log 83 = .ok (.aload_n 0, 1) := by decide +kernel
theorem dX12_log_84 : decode cX12_log 84 = .ok (.getfield 532, 3) := by decide +kernel
theorem dX12_log_87 : decode cX12_log 87 = .ok (.ireturn, 1) := by decide +kernel
theorem dX12_of_0 : decode cX12_of 0 = .ok (.aload_n 0, 1) := by decide +kernel
theorem dX12_of_1 : decode cX12_of 1 = .ok (.iload_n 1, 1) := by decide +kernel
theorem dX12_of_2 : decode cX12_of 2 = .ok (.invokevirtual 288, 3) := by decide +kernel
theorem dX12_of_5 : decode cX12_of 5 = .ok (.ifCond .eq 26, 3) := by decide +kernel
theorem dX12_of_31 : decode cX12_of 31 = .ok (.iconst 0, 1) := by decide +kernel
theorem dX12_of_32 : decode cX12_of 32 = .ok (.ireturn, 1) := by decide +kernel
theorem dX12_orders_0 : decode cX12_orders 0 = .ok (.aload_n 0, 1) := by decide +kernel
theorem dX12_orders_1 : decode cX12_orders 1 = .ok (.iload_n 1, 1) := by decide +kernel
theorem dX12_orders_2 : decode cX12_orders 2 = .ok (.invokevirtual 288, 3) := by decide +kernel
theorem dX12_orders_5 : decode cX12_orders 5 = .ok (.ifCond .eq 28, 3) := by decide +kernel
theorem dX12_orders_33 : decode cX12_orders 33 = .ok (.iconst 0, 1) := by decide +kernel
theorem dX12_orders_34 : decode cX12_orders 34 = .ok (.ireturn, 1) := by decide +kernel
theorem dX12_plan_0 : decode cX12_plan 0 = .ok (.aload_n 0, 1) := by decide +kernel
theorem dX12_plan_1 : decode cX12_plan 1 = .ok (.iload_n 1, 1) := by decide +kernel
theorem dX12_plan_2 : decode cX12_plan 2 = .ok (.invokevirtual 288, 3) := by decide +kernel
theorem dX12_plan_5 : decode cX12_plan 5 = .ok (.ifCond .eq 48, 3) := by decide +kernel
theorem dX12_plan_53 : decode cX12_plan 53 = .ok (.iconst 0, 1) := by decide +kernel
theorem dX12_plan_54 : decode cX12_plan 54 = .ok (.ireturn, 1) := by decide +kernel
theorem dX12_ranked_0 : decode cX12_ranked 0 = .ok (.aload_n 0, 1) := by decide +kernel
theorem dX12_ranked_1 : decode cX12_ranked 1 = .ok (.iconst 0, 1) := by decide +kernel
theorem dX12_ranked_2 : decode cX12_ranked 2 = .ok (.putfield 210, 3) := by decide +kernel
theorem dX12_ranked_5 : decode cX12_ranked 5 = .ok (.iconst 0, 1) := by decide +kernel
theorem dX12_ranked_6 : decode cX12_ranked 6 = .ok (.istore_n 3, 1) := by decide +kernel
theorem dX12_ranked_7 : decode cX12_ranked 7 = .ok (.iload_n 3, 1) := by decide +kernel
theorem dX12_ranked_8 : decode cX12_ranked 8 = .ok (.aload_n 0, 1) := by decide +kernel
theorem dX12_ranked_9 : decode cX12_ranked 9 = .ok (.getfield 250, 3) := by decide +kernel
theorem dX12_ranked_12 : decode cX12_ranked 12 = .ok (.if_icmp .ge 103, 3) := by decide +kernel
theorem dX12_ranked_115 : decode cX12_ranked 115 = .ok (.iconst (-1), 1) := by decide +kernel
theorem dX12_ranked_116 : decode cX12_ranked 116 = .ok (.ireturn, 1) := by decide +kernel
theorem dX12_result_0 : decode cX12_result 0 = .ok (.aload_n 0, 1) := by decide +kernel
theorem dX12_result_1 : decode cX12_result 1 = .ok (.iload_n 1, 1) := by decide +kernel
theorem dX12_result_2 : decode cX12_result 2 = .ok (.invokevirtual 288, 3) := by decide +kernel
theorem dX12_result_5 : decode cX12_result 5 = .ok (.ifCond .ne 5, 3) := by decide +kernel
theorem dX12_result_8 : decode cX12_result 8 = .ok (.iconst 0, 1) := by decide +kernel
theorem dX12_result_9 : decode cX12_result 9 = .ok (.ireturn, 1) := by decide +kernel
theorem dX12_set_0 : decode cX12_set 0 = .ok (.aload_n 0, 1) := by decide +kernel
theorem dX12_set_1 : decode cX12_set 1 = .ok (.iload_n 1, 1) := by decide +kernel
theorem dX12_set_2 : decode cX12_set 2 = .ok (.invokevirtual 288, 3) := by decide +kernel
theorem dX12_set_5 : decode cX12_set 5 = .ok (.ifCond .eq 44, 3) := by decide +kernel
theorem dX12_set_49 : decode cX12_set 49 = .ok (.iconst 0, 1) := by decide +kernel
theorem dX12_set_50 : decode cX12_set 50 = .ok (.ireturn, 1) := by decide +kernel
theorem dX12_sight_0 : decode cX12_sight 0 = .ok (.aload_n 0, 1) := by decide +kernel
theorem dX12_sight_1 : decode cX12_sight 1 = .ok (.iconst 0, 1) := by decide +kernel
theorem dX12_sight_2 : decode cX12_sight 2 = .ok (.putfield 210, 3) := by decide +kernel
theorem dX12_sight_5 : decode cX12_sight 5 = .ok (.aload_n 0, 1) := by decide +kernel
theorem dX12_sight_6 : decode cX12_sight 6 = .ok (.iload_n 1, 1) := by decide +kernel
theorem dX12_sight_7 : decode cX12_sight 7 = .ok (.iconst 0, 1) := by decide +kernel
theorem dX12_sight_8 : decode cX12_sight 8 = .ok (.sipush 999, 3) := by decide +kernel
theorem dX12_sight_11 : decode cX12_sight 11 = .ok (.invokestatic 213, 3) := by decide +kernel
theorem dX12_sight_14 : decode cX12_sight 14 = .ok (.ifCond .eq 11, 3) := by decide +kernel
theorem dX12_sight_17 : decode cX12_sight 17 = .ok (.iload_n 2, 1) := by decide +kernel
theorem dX12_sight_18 : decode cX12_sight 18 = .ok (.iload_n 3, 1) := by decide +kernel
theorem dX12_sight_19 : decode cX12_sight 19 = .ok (.invokestatic 291, 3) := by decide +kernel
theorem dX12_sight_22 : decode cX12_sight 22 = .ok (.ifCond .ne 7, 3) := by decide +kernel
theorem dX12_sight_25 : decode cX12_sight 25 = .ok (.iconst 1, 1) := by decide +kernel
theorem dX12_sight_26 : decode cX12_sight 26 = .ok (.goto 4, 3) := by decide +kernel
theorem dX12_sight_29 : decode cX12_sight 29 = .ok (.iconst 0, 1) := by decide +kernel
theorem dX12_sight_30 : decode cX12_sight 30 = .ok (.iconst 1, 1) := by decide +kernel
theorem dX12_sight_31 : decode cX12_sight 31 = .ok (.invokevirtual 225, 3) := by decide +kernel
theorem dX12_sight_34 : decode cX12_sight 34 = .ok (.ifCond .eq 5, 3) := by decide +kernel
theorem dX12_sight_37 : decode cX12_sight 37 = .ok (.iconst 0, 1) := by decide +kernel
theorem dX12_sight_38 : decode cX12_sight 38 = .ok (.ireturn, 1) := by decide +kernel
theorem dX12_sight_39 : decode cX12_sight 39 = .ok (.aload_n 0, 1) := by decide +kernel
theorem dX12_sight_40 : decode cX12_sight 40 = .ok (.getfield 513, 3) := by decide +kernel
theorem dX12_sight_43 : decode cX12_sight 43 = .ok (.bipush 12, 2) := by decide +kernel
theorem dX12_sight_45 : decode cX12_sight 45 = .ok (.if_icmp .ne 5, 3) := by decide +kernel
theorem dX12_sight_50 : decode cX12_sight 50 = .ok (.aload_n 0, 1) := by decide +kernel
theorem dX12_sight_51 : decode cX12_sight 51 = .ok (.getfield 513, 3) := by decide +kernel
theorem dX12_sight_54 : decode cX12_sight 54 = .ok (.ifCond .le 34, 3) := by decide +kernel
theorem dX12_sight_88 : decode cX12_sight 88 = .ok (.aload_n 0, 1) := by decide +kernel
theorem dX12_sight_89 : decode cX12_sight 89 = .ok (.getfield 194, 3) := by decide +kernel
theorem dX12_sight_92 : decode cX12_sight 92 = .ok (.aload_n 0, 1) := by decide +kernel
theorem dX12_sight_93 : decode cX12_sight 93 = .ok (.getfield 513, 3) := by decide +kernel
theorem dX12_sight_96 : decode cX12_sight 96 = .ok (.iload_n 1, 1) := by decide +kernel
theorem dX12_sight_97 : decode cX12_sight 97 = .ok (.iastore, 1) := by decide +kernel
theorem dX12_sight_98 : decode cX12_sight 98 = .ok (.aload_n 0, 1) := by decide +kernel
theorem dX12_sight_99 : decode cX12_sight 99 = .ok (.getfield 197, 3) := by decide +kernel
theorem dX12_sight_102 : decode cX12_sight 102 = .ok (.aload_n 0, 1) := by decide +kernel
theorem dX12_sight_103 : decode cX12_sight 103 = .ok (.getfield 513, 3) := by decide +kernel
theorem dX12_sight_106 : decode cX12_sight 106 = .ok (.bipush 24, 2) := by decide +kernel
theorem dX12_sight_108 : decode cX12_sight 108 = .ok (.iload_n 3, 1) := by decide +kernel
theorem dX12_sight_109 : decode cX12_sight 109 = .ok (.imul, 1) := by decide +kernel
theorem dX12_sight_110 : decode cX12_sight 110 = .ok (.iload_n 2, 1) := by decide +kernel
theorem dX12_sight_111 : decode cX12_sight 111 = .ok (.iadd, 1) := by decide +kernel
theorem dX12_sight_112 : decode cX12_sight 112 = .ok (.iastore, 1) := by decide +kernel
theorem dX12_sight_113 : decode cX12_sight 113 = .ok (.aload_n 0, 1) := by decide +kernel
theorem dX12_sight_114 : decode cX12_sight 114 = .ok (.dup, 1) := by decide +kernel
theorem dX12_sight_115 : decode cX12_sight 115 = .ok (.getfield 513, 3) := by decide +kernel
theorem dX12_sight_118 : decode cX12_sight 118 = .ok (.iconst 1, 1) := by decide +kernel
theorem dX12_sight_119 : decode cX12_sight 119 = .ok (.iadd, 1) := by decide +kernel
theorem dX12_sight_120 : decode cX12_sight 120 = .ok (.putfield 513, 3) := by decide +kernel
theorem dX12_sight_123 : decode cX12_sight 123 = .ok (.aload_n 0, 1) := by decide +kernel
theorem dX12_sight_124 : decode cX12_sight 124 = .ok (.getfield 513, 3) := by decide +kernel
theorem dX12_sight_127 : decode cX12_sight 127 = .ok (.ireturn, 1) := by decide +kernel
theorem dX12_start_0 : decode cX12_start 0 = .ok (.aload_n 0, 1) := by decide +kernel
theorem dX12_start_1 : decode cX12_start 1 = .ok (.iload_n 1, 1) := by decide +kernel
theorem dX12_start_2 : decode cX12_start 2 = .ok (.invokevirtual 288, 3) := by decide +kernel
theorem dX12_start_5 : decode cX12_start 5 = .ok (.ifCond .eq 24, 3) := by decide +kernel
theorem dX12_start_29 : decode cX12_start 29 = .ok (.iconst 0, 1) := by decide +kernel
theorem dX12_start_30 : decode cX12_start 30 = .ok (.ireturn, 1) := by decide +kernel
theorem dX12_told_0 : decode cX12_told 0 = .ok (.aload_n 0, 1) := by decide +kernel
theorem dX12_told_1 : decode cX12_told 1 = .ok (.iconst 0, 1) := by decide +kernel
theorem dX12_told_2 : decode cX12_told 2 = .ok (.putfield 210, 3) := by decide +kernel
theorem dX12_told_5 : decode cX12_told 5 = .ok (.aload_n 0, 1) := by decide +kernel
theorem dX12_told_6 : decode cX12_told 6 = .ok (.iload_n 1, 1) := by decide +kernel
theorem dX12_told_7 : decode cX12_told 7 = .ok (.iload_n 2, 1) := by decide +kernel
theorem dX12_told_8 : decode cX12_told 8 = .ok (.iload_n 3, 1) := by decide +kernel
theorem dX12_told_9 : decode cX12_told 9 = .ok (.invokestatic 239, 3) := by decide +kernel
theorem dX12_told_12 : decode cX12_told 12 = .ok (.ifCond .ne 7, 3) := by decide +kernel
theorem dX12_told_15 : decode cX12_told 15 = .ok (.iconst 1, 1) := by decide +kernel
theorem dX12_told_16 : decode cX12_told 16 = .ok (.goto 4, 3) := by decide +kernel
theorem dX12_told_19 : decode cX12_told 19 = .ok (.iconst 0, 1) := by decide +kernel
theorem dX12_told_20 : decode cX12_told 20 = .ok (.iconst 1, 1) := by decide +kernel
theorem dX12_told_21 : decode cX12_told 21 = .ok (.invokevirtual 225, 3) := by decide +kernel
theorem dX12_told_24 : decode cX12_told 24 = .ok (.ifCond .eq 5, 3) := by decide +kernel
theorem dX12_told_27 : decode cX12_told 27 = .ok (.iconst 0, 1) := by decide +kernel
theorem dX12_told_28 : decode cX12_told 28 = .ok (.ireturn, 1) := by decide +kernel
theorem dX12_told_29 : decode cX12_told 29 = .ok (.aload_n 0, 1) := by decide +kernel
theorem dX12_told_30 : decode cX12_told 30 = .ok (.iload_n 1, 1) := by decide +kernel
theorem dX12_told_31 : decode cX12_told 31 = .ok (.iload_n 2, 1) := by decide +kernel
theorem dX12_told_32 : decode cX12_told 32 = .ok (.iload_n 3, 1) := by decide +kernel
theorem dX12_told_33 : decode cX12_told 33 = .ok (.iload 4, 2) := by decide +kernel
theorem dX12_told_35 : decode cX12_told 35 = .ok (.invokevirtual 242, 3) := by decide +kernel
theorem dX12_told_38 : decode cX12_told 38 = .ok (.istore 5, 2) := by decide +kernel
theorem dX12_told_40 : decode cX12_told 40 = .ok (.iload 5, 2) := by decide +kernel
theorem dX12_told_42 : decode cX12_told 42 = .ok (.ifCond .ge 8, 3) := by decide +kernel
theorem dX12_told_45 : decode cX12_told 45 = .ok (.bipush 33, 2) := by decide +kernel
theorem dX12_told_47 : decode cX12_told 47 = .ok (.goto 25, 3) := by decide +kernel
theorem dX12_told_72 : decode cX12_told 72 = .ok (.ireturn, 1) := by decide +kernel
theorem dX12_track_0 : decode cX12_track 0 = .ok (.aload_n 0, 1) := by decide +kernel
theorem dX12_track_1 : decode cX12_track 1 = .ok (.iload_n 1, 1) := by decide +kernel
theorem dX12_track_2 : decode cX12_track 2 = .ok (.invokevirtual 288, 3) := by decide +kernel
theorem dX12_track_5 : decode cX12_track 5 = .ok (.ifCond .eq 26, 3) := by decide +kernel
theorem dX12_track_31 : decode cX12_track 31 = .ok (.iconst 0, 1) := by decide +kernel
theorem dX12_track_32 : decode cX12_track 32 = .ok (.ireturn, 1) := by decide +kernel
theorem dX12_unlog_0 : decode cX12_unlog 0 = .ok (.aload_n 0, 1) := by decide +kernel
theorem dX12_unlog_1 : decode cX12_unlog 1 = .ok (.iconst 0, 1) := by decide +kernel
theorem dX12_unlog_2 : decode cX12_unlog 2 = .ok (.putfield 210, 3) := by decide +kernel
theorem dX12_unlog_5 : decode cX12_unlog 5 = .ok (.aload_n 0, 1) := by decide +kernel
theorem dX12_unlog_6 : decode cX12_unlog 6 = .ok (.getfield 532, 3) := by decide +kernel
theorem dX12_unlog_9 : decode cX12_unlog 9 = .ok (.istore_n 1, 1) := by decide +kernel
theorem dX12_unlog_10 : decode cX12_unlog 10 = .ok (.aload_n 0, 1) := by decide +kernel
theorem dX12_unlog_11 : decode cX12_unlog 11 = .ok (.iconst 0, 1) := by decide +kernel
theorem dX12_unlog_12 : decode cX12_unlog 12 = .ok (.putfield 532, 3) := by decide +kernel
theorem dX12_unlog_15 : decode cX12_unlog 15 = .ok (.iload_n 1, 1) := by decide +kernel
theorem dX12_unlog_16 : decode cX12_unlog 16 = .ok (.ireturn, 1) := by decide +kernel
theorem dX12_way_0 : decode cX12_way 0 = .ok (.aload_n 0, 1) := by decide +kernel
theorem dX12_way_1 : decode cX12_way 1 = .ok (.iconst 0, 1) := by decide +kernel
theorem dX12_way_2 : decode cX12_way 2 = .ok (.putfield 210, 3) := by decide +kernel
theorem dX12_way_5 : decode cX12_way 5 = .ok (.aload_n 0, 1) := by decide +kernel
theorem dX12_way_6 : decode cX12_way 6 = .ok (.invokevirtual 529, 3) := by decide +kernel
theorem dX12_way_9 : decode cX12_way 9 = .ok (.ifCond .eq 31, 3) := by decide +kernel
theorem dX12_way_40 : decode cX12_way 40 = .ok (.iconst (-1), 1) := by decide +kernel
theorem dX12_way_41 : decode cX12_way 41 = .ok (.ireturn, 1) := by decide +kernel
theorem dX12_ways_0 : decode cX12_ways 0 = .ok (.aload_n 0, 1) := by decide +kernel
theorem dX12_ways_1 : decode cX12_ways 1 = .ok (.iconst 0, 1) := by decide +kernel
theorem dX12_ways_2 : decode cX12_ways 2 = .ok (.putfield 210, 3) := by decide +kernel
theorem dX12_ways_5 : decode cX12_ways 5 = .ok (.aload_n 0, 1) := by decide +kernel
theorem dX12_ways_6 : decode cX12_ways 6 = .ok (.invokevirtual 529, 3) := by decide +kernel
theorem dX12_ways_9 : decode cX12_ways 9 = .ok (.ireturn, 1) := by decide +kernel
theorem dX12_wind_0 : decode cX12_wind 0 = .ok (.aload_n 0, 1) := by decide +kernel
theorem dX12_wind_1 : decode cX12_wind 1 = .ok (.iconst 0, 1) := by decide +kernel
theorem dX12_wind_2 : decode cX12_wind 2 = .ok (.putfield 210, 3) := by decide +kernel
theorem dX12_wind_5 : decode cX12_wind 5 = .ok (.aload_n 0, 1) := by decide +kernel
theorem dX12_wind_6 : decode cX12_wind 6 = .ok (.iload_n 1, 1) := by decide +kernel
theorem dX12_wind_7 : decode cX12_wind 7 = .ok (.iload_n 2, 1) := by decide +kernel
theorem dX12_wind_8 : decode cX12_wind 8 = .ok (.iload_n 3, 1) := by decide +kernel
theorem dX12_wind_9 : decode cX12_wind 9 = .ok (.iload 4, 2) := by decide +kernel
theorem dX12_wind_11 : decode cX12_wind 11 = .ok (.iload 5, 2) := by decide +kernel
theorem dX12_wind_13 : decode cX12_wind 13 = .ok (.iload 6, 2) := by decide +kernel
theorem dX12_wind_15 : decode cX12_wind 15 = .ok (.invokestatic 221, 3) := by decide +kernel
theorem dX12_wind_18 : decode cX12_wind 18 = .ok (.ifCond .ne 7, 3) := by decide +kernel
theorem dX12_wind_21 : decode cX12_wind 21 = .ok (.iconst 1, 1) := by decide +kernel
theorem dX12_wind_22 : decode cX12_wind 22 = .ok (.goto 4, 3) := by decide +kernel
theorem dX12_wind_25 : decode cX12_wind 25 = .ok (.iconst 0, 1) := by decide +kernel
theorem dX12_wind_26 : decode cX12_wind 26 = .ok (.iconst 1, 1) := by decide +kernel
theorem dX12_wind_27 : decode cX12_wind 27 = .ok (.invokevirtual 225, 3) := by decide +kernel
theorem dX12_wind_30 : decode cX12_wind 30 = .ok (.ifCond .eq 5, 3) := by decide +kernel
theorem dX12_wind_33 : decode cX12_wind 33 = .ok (.iconst 0, 1) := by decide +kernel
theorem dX12_wind_34 : decode cX12_wind 34 = .ok (.ireturn, 1) := by decide +kernel
theorem dX12_wind_35 : decode cX12_wind 35 = .ok (.iload_n 3, 1) := by decide +kernel
theorem dX12_wind_36 : decode cX12_wind 36 = .ok (.aload_n 0, 1) := by decide +kernel
theorem dX12_wind_37 : decode cX12_wind 37 = .ok (.getfield 229, 3) := by decide +kernel
theorem dX12_wind_40 : decode cX12_wind 40 = .ok (.if_icmp .ge 5, 3) := by decide +kernel
theorem dX12_wind_45 : decode cX12_wind 45 = .ok (.iload_n 3, 1) := by decide +kernel
theorem dX12_wind_46 : decode cX12_wind 46 = .ok (.istore 7, 2) := by decide +kernel
theorem dX12_wind_48 : decode cX12_wind 48 = .ok (.iload 7, 2) := by decide +kernel
theorem dX12_wind_50 : decode cX12_wind 50 = .ok (.iload_n 3, 1) := by decide +kernel
theorem dX12_wind_51 : decode cX12_wind 51 = .ok (.iload 4, 2) := by decide +kernel
theorem dX12_wind_53 : decode cX12_wind 53 = .ok (.iadd, 1) := by decide +kernel
theorem dX12_wind_54 : decode cX12_wind 54 = .ok (.if_icmp .ge 39, 3) := by decide +kernel
theorem dX12_wind_57 : decode cX12_wind 57 = .ok (.aload_n 0, 1) := by decide +kernel
theorem dX12_wind_58 : decode cX12_wind 58 = .ok (.getfield 9, 3) := by decide +kernel
theorem dX12_wind_61 : decode cX12_wind 61 = .ok (.iload_n 1, 1) := by decide +kernel
theorem dX12_wind_62 : decode cX12_wind 62 = .ok (.iload_n 2, 1) := by decide +kernel
theorem dX12_wind_63 : decode cX12_wind 63 = .ok (.iload 7, 2) := by decide +kernel
theorem dX12_wind_65 : decode cX12_wind 65 = .ok (.invokestatic 232, 3) := by decide +kernel
theorem dX12_wind_68 : decode cX12_wind 68 = .ok (.iload 5, 2) := by decide +kernel
theorem dX12_wind_70 : decode cX12_wind 70 = .ok (.i2b, 1) := by decide +kernel
theorem dX12_wind_71 : decode cX12_wind 71 = .ok (.bastore, 1) := by decide +kernel
theorem dX12_wind_72 : decode cX12_wind 72 = .ok (.aload_n 0, 1) := by decide +kernel
theorem dX12_wind_73 : decode cX12_wind 73 = .ok (.getfield 13, 3) := by decide +kernel
theorem dX12_wind_76 : decode cX12_wind 76 = .ok (.iload_n 1, 1) := by decide +kernel
theorem dX12_wind_77 : decode cX12_wind 77 = .ok (.iload_n 2, 1) := by decide +kernel
theorem dX12_wind_78 : decode cX12_wind 78 = .ok (.iload 7, 2) := by decide +kernel
theorem dX12_wind_80 : decode cX12_wind 80 = .ok (.invokestatic 232, 3) := by decide +kernel
theorem dX12_wind_83 : decode cX12_wind 83 = .ok (.iload 6, 2) := by decide +kernel
theorem dX12_wind_85 : decode cX12_wind 85 = .ok (.i2b, 1) := by decide +kernel
theorem dX12_wind_86 : decode cX12_wind 86 = .ok (.bastore, 1) := by decide +kernel
theorem dX12_wind_87 : decode cX12_wind 87 = .ok (.iinc 7 1, 3) := by decide +kernel
theorem dX12_wind_90 : decode cX12_wind 90 = .ok (.goto (-42), 3) := by decide +kernel
theorem dX12_wind_93 : decode cX12_wind 93 = .ok (.iconst 1, 1) := by decide +kernel
theorem dX12_wind_94 : decode cX12_wind 94 = .ok (.ireturn, 1) := by decide +kernel
theorem dX12_zone_0 : decode cX12_zone 0 = .ok (.aload_n 0, 1) := by decide +kernel
theorem dX12_zone_1 : decode cX12_zone 1 = .ok (.iconst 0, 1) := by decide +kernel
theorem dX12_zone_2 : decode cX12_zone 2 = .ok (.putfield 210, 3) := by decide +kernel
theorem dX12_zone_5 : decode cX12_zone 5 = .ok (.iload_n 1, 1) := by decide +kernel
theorem dX12_zone_6 : decode cX12_zone 6 = .ok (.iconst 0, 1) := by decide +kernel
theorem dX12_zone_7 : decode cX12_zone 7 = .ok (.sipush 575, 3) := by decide +kernel
theorem dX12_zone_10 : decode cX12_zone 10 = .ok (.invokestatic 213, 3) := by decide +kernel
theorem dX12_zone_13 : decode cX12_zone 13 = .ok (.ifCond .eq 80, 3) := by decide +kernel
theorem dX12_zone_16 : decode cX12_zone 16 = .ok (.iload_n 2, 1) := by decide +kernel
theorem dX12_zone_17 : decode cX12_zone 17 = .ok (.iconst 0, 1) := by decide +kernel
theorem dX12_zone_18 : decode cX12_zone 18 = .ok (.sipush 575, 3) := by decide +kernel
theorem dX12_zone_21 : decode cX12_zone 21 = .ok (.invokestatic 213, 3) := by decide +kernel
theorem dX12_zone_24 : decode cX12_zone 24 = .ok (.ifCond .eq 69, 3) := by decide +kernel
theorem dX12_zone_27 : decode cX12_zone 27 = .ok (.iload_n 3, 1) := by decide +kernel
theorem dX12_zone_28 : decode cX12_zone 28 = .ok (.iconst 0, 1) := by decide +kernel
theorem dX12_zone_29 : decode cX12_zone 29 = .ok (.bipush 66, 2) := by decide +kernel
theorem dX12_zone_31 : decode cX12_zone 31 = .ok (.invokestatic 213, 3) := by decide +kernel
theorem dX12_zone_34 : decode cX12_zone 34 = .ok (.ifCond .eq 59, 3) := by decide +kernel
theorem dX12_zone_37 : decode cX12_zone 37 = .ok (.iload_n 3, 1) := by decide +kernel
theorem dX12_zone_38 : decode cX12_zone 38 = .ok (.bipush 10, 2) := by decide +kernel
theorem dX12_zone_40 : decode cX12_zone 40 = .ok (.irem, 1) := by decide +kernel
theorem dX12_zone_41 : decode cX12_zone 41 = .ok (.bipush 6, 2) := by decide +kernel
theorem dX12_zone_43 : decode cX12_zone 43 = .ok (.if_icmp .gt 50, 3) := by decide +kernel
theorem dX12_zone_46 : decode cX12_zone 46 = .ok (.iload_n 3, 1) := by decide +kernel
theorem dX12_zone_47 : decode cX12_zone 47 = .ok (.bipush 10, 2) := by decide +kernel
theorem dX12_zone_49 : decode cX12_zone 49 = .ok (.idiv, 1) := by decide +kernel
theorem dX12_zone_50 : decode cX12_zone 50 = .ok (.iload_n 3, 1) := by decide +kernel
theorem dX12_zone_51 : decode cX12_zone 51 = .ok (.bipush 10, 2) := by decide +kernel
theorem dX12_zone_53 : decode cX12_zone 53 = .ok (.irem, 1) := by decide +kernel
theorem dX12_zone_54 : decode cX12_zone 54 = .ok (.if_icmp .gt 39, 3) := by decide +kernel
theorem dX12_zone_57 : decode cX12_zone 57 = .ok (.iload 4, 2) := by decide +kernel
theorem dX12_zone_59 : decode cX12_zone 59 = .ok (.iconst 0, 1) := by decide +kernel
theorem dX12_zone_60 : decode cX12_zone 60 = .ok (.sipush 1000, 3) := by decide +kernel
theorem dX12_zone_63 : decode cX12_zone 63 = .ok (.invokestatic 213, 3) := by decide +kernel
theorem dX12_zone_66 : decode cX12_zone 66 = .ok (.ifCond .eq 27, 3) := by decide +kernel
theorem dX12_zone_69 : decode cX12_zone 69 = .ok (.iload 5, 2) := by decide +kernel
theorem dX12_zone_71 : decode cX12_zone 71 = .ok (.iload 4, 2) := by decide +kernel
theorem dX12_zone_73 : decode cX12_zone 73 = .ok (.sipush 1000, 3) := by decide +kernel
theorem dX12_zone_76 : decode cX12_zone 76 = .ok (.invokestatic 213, 3) := by decide +kernel
theorem dX12_zone_79 : decode cX12_zone 79 = .ok (.ifCond .eq 14, 3) := by decide +kernel
theorem dX12_zone_82 : decode cX12_zone 82 = .ok (.iload 6, 2) := by decide +kernel
theorem dX12_zone_84 : decode cX12_zone 84 = .ok (.iconst 1, 1) := by decide +kernel
theorem dX12_zone_85 : decode cX12_zone 85 = .ok (.bipush 100, 2) := by decide +kernel
theorem dX12_zone_87 : decode cX12_zone 87 = .ok (.invokestatic 213, 3) := by decide +kernel
theorem dX12_zone_90 : decode cX12_zone 90 = .ok (.ifCond .ne 7, 3) := by decide +kernel
theorem dX12_zone_93 : decode cX12_zone 93 = .ok (.iconst 1, 1) := by decide +kernel
theorem dX12_zone_94 : decode cX12_zone 94 = .ok (.goto 4, 3) := by decide +kernel
theorem dX12_zone_97 : decode cX12_zone 97 = .ok (.iconst 0, 1) := by decide +kernel
theorem dX12_zone_98 : decode cX12_zone 98 = .ok (.istore 7, 2) := by decide +kernel
theorem dX12_zone_100 : decode cX12_zone 100 = .ok (.aload_n 0, 1) := by decide +kernel
theorem dX12_zone_101 : decode cX12_zone 101 = .ok (.iload 7, 2) := by decide +kernel
