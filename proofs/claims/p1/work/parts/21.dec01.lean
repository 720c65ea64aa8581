theorem dX11_log_0 : decode cX11_log 0 = .ok (.iload_n 1, 1) := by decide +kernel
theorem dX11_log_1 : decode cX11_log 1 = .ok (.iconst 0, 1) := by decide +kernel
theorem dX11_log_2 : decode cX11_log 2 = .ok (.sipush 10000, 3) := by decide +kernel
theorem dX11_log_5 : decode cX11_log 5 = .ok (.invokestatic 141, 3) := by decide +kernel
theorem dX11_log_8 : decode cX11_log 8 = .ok (.ifCond .eq 18, 3) := by decide +kernel
theorem dX11_log_11 : decode cX11_log 11 = .ok (.iload_n 2, 1) := by decide +kernel
theorem dX11_log_12 : decode cX11_log 12 = .ok (.iconst 0, 1) := by decide +kernel
theorem dX11_log_13 : decode cX11_log 13 = .ok (.sipush 500, 3) := by decide +kernel
theorem dX11_log_16 : decode cX11_log 16 = .ok (.invokestatic 141, 3) := by decide +kernel
theorem dX11_log_19 : decode cX11_log 19 = .ok (.ifCond .eq 7, 3) := by decide +kernel
theorem dX11_log_22 : decode cX11_log 22 = .ok (.iconst 1, 1) := by decide +kernel
theorem dX11_log_23 : decode cX11_log 23 = .ok (.goto 4, 3) := by decide +kernel
theorem dX11_log_26 : decode cX11_log 26 = .ok (.iconst 0, 1) := by decide +kernel
theorem dX11_log_27 : decode cX11_log 27 = .ok (.invokestatic 96, 3) := by decide +kernel
theorem dX11_log_30 : decode cX11_log 30 = .ok (.aload_n 0, 1) := by decide +kernel
theorem dX11_log_31 : decode cX11_log 31 = .ok (.getfield 55, 3) := by decide +kernel
theorem dX11_log_34 : decode cX11_log 34 = .ok (.iload_n 1, 1) := by decide +kernel
theorem dX11_log_35 : decode cX11_log 35 = .ok (.iload_n 2, 1) := by decide +kernel
theorem dX11_log_36 : decode cX11_log 36 = .ok (.invokevirtual 334, 3) := by decide +kernel
theorem dX11_log_39 : decode cX11_log 39 = .ok (.ireturn, 1) := by decide +kernel
theorem dX11_of_0 : decode cX11_of 0 = .ok (.aload_n 0, 1) := by decide +kernel
theorem dX11_of_1 : decode cX11_of 1 = .ok (.iload_n 1, 1) := by decide +kernel
theorem dX11_of_2 : decode cX11_of 2 = .ok (.invokevirtual 176, 3) := by decide +kernel
theorem dX11_orders_0 : decode cX11_orders 0 = .ok (.aload_n 0, 1) := by decide +kernel
theorem dX11_orders_1 : decode cX11_orders 1 = .ok (.iload_n 1, 1) := by decide +kernel
theorem dX11_orders_2 : decode cX11_orders 2 = .ok (.invokevirtual 176, 3) := by decide +kernel
theorem dX11_plan_0 : decode cX11_plan 0 = .ok (.aload_n 0, 1) := by decide +kernel
theorem dX11_plan_1 : decode cX11_plan 1 = .ok (.iload_n 1, 1) := by decide +kernel
theorem dX11_plan_2 : decode cX11_plan 2 = .ok (.invokevirtual 176, 3) := by decide +kernel
theorem dX11_putOnTape_0 : decode cX11_putOnTape 0 = .ok (.bipush 24, 2) := by decide +kernel
theorem dX11_putOnTape_2 : decode cX11_putOnTape 2 = .ok (.istore_n 2, 1) := by decide +kernel
theorem dX11_putOnTape_3 : decode cX11_putOnTape 3 = .ok (.iload_n 2, 1) := by decide +kernel
theorem dX11_putOnTape_4 : decode cX11_putOnTape 4 = .ok (.ifCond .lt 45, 3) := by decide +kernel
theorem dX11_putOnTape_7 : decode cX11_putOnTape 7 = .ok (.aload_n 0, 1) := by decide +kernel
theorem dX11_putOnTape_8 : decode cX11_putOnTape 8 = .ok (.getfield 70, 3) := by decide +kernel
theorem dX11_putOnTape_11 : decode cX11_putOnTape 11 = .ok (.sipush 300, 3) := by decide +kernel
theorem dX11_putOnTape_14 : decode cX11_putOnTape 14 = .ok (.if_icmp .ge 29, 3) := by decide +kernel
theorem dX11_putOnTape_17 : decode cX11_putOnTape 17 = .ok (.aload_n 0, 1) := by decide +kernel
theorem dX11_putOnTape_18 : decode cX11_putOnTape 18 = .ok (.getfield 66, 3) := by decide +kernel
theorem dX11_putOnTape_21 : decode cX11_putOnTape 21 = .ok (.aload_n 0, 1) := by decide +kernel
theorem dX11_putOnTape_22 : decode cX11_putOnTape 22 = .ok (.getfield 70, 3) := by decide +kernel
theorem dX11_putOnTape_25 : decode cX11_putOnTape 25 = .ok (.iload_n 1, 1) := by decide +kernel
theorem dX11_putOnTape_26 : decode cX11_putOnTape 26 = .ok (.iload_n 2, 1) := by decide +kernel
theorem dX11_putOnTape_27 : decode cX11_putOnTape 27 = .ok (.iushr, 1) := by decide +kernel
theorem dX11_putOnTape_28 : decode cX11_putOnTape 28 = .ok (.sipush 255, 3) := by decide +kernel
theorem dX11_putOnTape_31 : decode cX11_putOnTape 31 = .ok (.iand, 1) := by decide +kernel
theorem dX11_putOnTape_32 : decode cX11_putOnTape 32 = .ok (.iastore, 1) := by decide +kernel
theorem dX11_putOnTape_33 : decode cX11_putOnTape 33 = .ok (.aload_n 0, 1) := by decide +kernel
theorem dX11_putOnTape_34 : decode cX11_putOnTape 34 = .ok (.dup, 1) := by decide +kernel
theorem dX11_putOnTape_35 : decode cX11_putOnTape 35 = .ok (.getfield 70, 3) := by decide +kernel
theorem dX11_putOnTape_38 : decode cX11_putOnTape 38 = .ok (.iconst 1, 1) := by decide +kernel
theorem dX11_putOnTape_39 : decode cX11_putOnTape 39 = .ok (.iadd, 1) := by decide +kernel
theorem dX11_putOnTape_40 : decode cX11_putOnTape 40 = .ok (.putfield 70, 3) := by decide +kernel
theorem dX11_putOnTape_43 : decode cX11_putOnTape 43 = .ok (.iinc 2 (-8), 3) := by decide +kernel
theorem dX11_putOnTape_46 : decode cX11_putOnTape 46 = .ok (.goto (-43), 3) := by decide +kernel
theorem dX11_putOnTape_49 : decode cX11_putOnTape 49 = .ok (.return_, 1) := by decide +kernel
theorem dX11_ranked_0 : decode cX11_ranked 0 = .ok (.iconst 0, 1) := by decide +kernel
theorem dX11_ranked_1 : decode cX11_ranked 1 = .ok (.istore_n 3, 1) := by decide +kernel
theorem dX11_ranked_2 : decode cX11_ranked 2 = .ok (.iload_n 3, 1) := by decide +kernel
theorem dX11_ranked_3 : decode cX11_ranked 3 = .ok (.aload_n 0, 1) := by decide +kernel
theorem dX11_ranked_4 : decode cX11_ranked 4 = .ok (.getfield 33, 3) := by decide +kernel
theorem dX11_ranked_7 : decode cX11_ranked 7 = .ok (.if_icmp .ge 34, 3) := by decide +kernel
theorem dX11_ranked_41 : decode cX11_ranked 41 = .ok (.iconst (-1), 1) := by decide +kernel
theorem dX11_ranked_42 : decode cX11_ranked 42 = .ok (.ireturn, 1) := by decide +kernel
theorem dX11_require_4 : decode cX11_require 4 = .ok (.new 369, 3) := by decide +kernel
theorem dX11_require_7 : decode cX11_require 7 = .ok (.dup, 1) := by decide +kernel
theorem dX11_require_8 : decode cX11_require 8 = .ok (.ldc_w 371, 3) := by decide +kernel
theorem dX11_require_11 : decode cX11_require 11 = .ok (.invokespecial 373, 3) := by decide +kernel
theorem dX11_require_14 : decode cX11_require 14 = .ok (.athrow, 1) := by decide +kernel
theorem dX11_requireFill_0 : decode cX11_requireFill 0 = .ok (.iload_n 0, 1) := by decide +kernel
theorem dX11_requireFill_1 : decode cX11_requireFill 1 = .ok (.iconst 1, 1) := by decide +kernel
theorem dX11_requireFill_2 : decode cX11_requireFill 2 = .ok (.sipush 10000, 3) := by decide +kernel
theorem dX11_requireFill_5 : decode cX11_requireFill 5 = .ok (.invokestatic 141, 3) := by decide +kernel
theorem dX11_requireFill_8 : decode cX11_requireFill 8 = .ok (.ifCond .eq 17, 3) := by decide +kernel
theorem dX11_requireFill_11 : decode cX11_requireFill 11 = .ok (.iload_n 1, 1) := by decide +kernel
theorem dX11_requireFill_12 : decode cX11_requireFill 12 = .ok (.iconst 1, 1) := by decide +kernel
theorem dX11_requireFill_13 : decode cX11_requireFill 13 = .ok (.bipush 100, 2) := by decide +kernel
theorem dX11_requireFill_15 : decode cX11_requireFill 15 = .ok (.invokestatic 141, 3) := by decide +kernel
theorem dX11_requireFill_18 : decode cX11_requireFill 18 = .ok (.ifCond .eq 7, 3) := by decide +kernel
theorem dX11_requireFill_21 : decode cX11_requireFill 21 = .ok (.iconst 1, 1) := by decide +kernel
theorem dX11_requireFill_22 : decode cX11_requireFill 22 = .ok (.goto 4, 3) := by decide +kernel
theorem dX11_requireFill_25 : decode cX11_requireFill 25 = .ok (.iconst 0, 1) := by decide +kernel
theorem dX11_requireFill_26 : decode cX11_requireFill 26 = .ok (.invokestatic 96, 3) := by decide +kernel
theorem dX11_requireFill_29 : decode cX11_requireFill 29 = .ok (.return_, 1) := by decide +kernel
theorem dX11_result_0 : decode cX11_result 0 = .ok (.aload_n 0, 1) := by decide +kernel
theorem dX11_result_1 : decode cX11_result 1 = .ok (.iload_n 1, 1) := by decide +kernel
theorem dX11_result_2 : decode cX11_result 2 = .ok (.invokevirtual 176, 3) := by decide +kernel
theorem dX11_set_0 : decode cX11_set 0 = .ok (.aload_n 0, 1) := by decide +kernel
theorem dX11_set_1 : decode cX11_set 1 = .ok (.iload_n 1, 1) := by decide +kernel
theorem dX11_set_2 : decode cX11_set 2 = .ok (.invokevirtual 176, 3) := by decide +kernel
theorem dX11_sight_0 : decode cX11_sight 0 = .ok (.iload_n 1, 1) := by decide +kernel
theorem dX11_sight_1 : decode cX11_sight 1 = .ok (.invokestatic 123, 3) := by decide +kernel
theorem dX11_sight_4 : decode cX11_sight 4 = .ok (.ifCond .eq 15, 3) := by decide +kernel
theorem dX11_sight_7 : decode cX11_sight 7 = .ok (.iload_n 2, 1) := by decide +kernel
theorem dX11_sight_8 : decode cX11_sight 8 = .ok (.iload_n 3, 1) := by decide +kernel
theorem dX11_sight_9 : decode cX11_sight 9 = .ok (.invokestatic 219, 3) := by decide +kernel
theorem dX11_sight_12 : decode cX11_sight 12 = .ok (.ifCond .eq 7, 3) := by decide +kernel
theorem dX11_sight_15 : decode cX11_sight 15 = .ok (.iconst 1, 1) := by decide +kernel
theorem dX11_sight_16 : decode cX11_sight 16 = .ok (.goto 4, 3) := by decide +kernel
theorem dX11_sight_19 : decode cX11_sight 19 = .ok (.iconst 0, 1) := by decide +kernel
theorem dX11_sight_20 : decode cX11_sight 20 = .ok (.invokestatic 96, 3) := by decide +kernel
theorem dX11_sight_23 : decode cX11_sight 23 = .ok (.aload_n 0, 1) := by decide +kernel
theorem dX11_sight_24 : decode cX11_sight 24 = .ok (.getfield 48, 3) := by decide +kernel
theorem dX11_sight_27 : decode cX11_sight 27 = .ok (.iload_n 1, 1) := by decide +kernel
theorem dX11_sight_28 : decode cX11_sight 28 = .ok (.iload_n 2, 1) := by decide +kernel
theorem dX11_sight_29 : decode cX11_sight 29 = .ok (.iload_n 3, 1) := by decide +kernel
theorem dX11_sight_30 : decode cX11_sight 30 = .ok (.invokevirtual 318, 3) := by decide +kernel
theorem dX11_sight_33 : decode cX11_sight 33 = .ok (.ireturn, 1) := by decide +kernel
theorem dX11_start_0 : decode cX11_start 0 = .ok (.aload_n 0, 1) := by decide +kernel
theorem dX11_start_1 : decode cX11_start 1 = .ok (.iload_n 1, 1) := by decide +kernel
theorem dX11_start_2 : decode cX11_start 2 = .ok (.invokevirtual 176, 3) := by decide +kernel
theorem dX11_told_0 : decode cX11_told 0 = .ok (.iload_n 1, 1) := by decide +kernel
theorem dX11_told_1 : decode cX11_told 1 = .ok (.iload_n 2, 1) := by decide +kernel
theorem dX11_told_2 : decode cX11_told 2 = .ok (.invokestatic 86, 3) := by decide +kernel
theorem dX11_told_5 : decode cX11_told 5 = .ok (.ifCond .eq 14, 3) := by decide +kernel
theorem dX11_told_8 : decode cX11_told 8 = .ok (.iload_n 3, 1) := by decide +kernel
theorem dX11_told_9 : decode cX11_told 9 = .ok (.invokestatic 123, 3) := by decide +kernel
theorem dX11_told_12 : decode cX11_told 12 = .ok (.ifCond .eq 7, 3) := by decide +kernel
theorem dX11_told_15 : decode cX11_told 15 = .ok (.iconst 1, 1) := by decide +kernel
theorem dX11_told_16 : decode cX11_told 16 = .ok (.goto 4, 3) := by decide +kernel
theorem dX11_told_19 : decode cX11_told 19 = .ok (.iconst 0, 1) := by decide +kernel
theorem dX11_told_20 : decode cX11_told 20 = .ok (.invokestatic 96, 3) := by decide +kernel
theorem dX11_told_23 : decode cX11_told 23 = .ok (.aload_n 0, 1) := by decide +kernel
theorem dX11_told_24 : decode cX11_told 24 = .ok (.getfield 16, 3) := by decide +kernel
theorem dX11_told_27 : decode cX11_told 27 = .ok (.iload_n 1, 1) := by decide +kernel
theorem dX11_told_28 : decode cX11_told 28 = .ok (.iload_n 2, 1) := by decide +kernel
theorem dX11_told_29 : decode cX11_told 29 = .ok (.invokestatic 100, 3) := by decide +kernel
theorem dX11_told_32 : decode cX11_told 32 = .ok (.iload_n 3, 1) := by decide +kernel
theorem dX11_told_33 : decode cX11_told 33 = .ok (.iload 4, 2) := by decide +kernel
theorem dX11_told_35 : decode cX11_told 35 = .ok (.invokevirtual 127, 3) := by decide +kernel
theorem dX11_told_38 : decode cX11_told 38 = .ok (.ireturn, 1) := by decide +kernel
theorem dX11_track_0 : decode cX11_track 0 = .ok (.aload_n 0, 1) := by decide +kernel
theorem dX11_track_1 : decode cX11_track 1 = .ok (.iload_n 1, 1) := by decide +kernel
theorem dX11_track_2 : decode cX11_track 2 = .ok (.invokevirtual 176, 3) := by decide +kernel
theorem dX11_unlog_0 : decode cX11_unlog 0 = .ok (.aload_n 0, 1) := by decide +kernel
theorem dX11_unlog_1 : decode cX11_unlog 1 = .ok (.getfield 55, 3) := by decide +kernel
theorem dX11_unlog_4 : decode cX11_unlog 4 = .ok (.getfield 337, 3) := by decide +kernel
theorem dX11_unlog_7 : decode cX11_unlog 7 = .ok (.istore_n 1, 1) := by decide +kernel
theorem dX11_unlog_8 : decode cX11_unlog 8 = .ok (.aload_n 0, 1) := by decide +kernel
theorem dX11_unlog_9 : decode cX11_unlog 9 = .ok (.getfield 55, 3) := by decide +kernel
theorem dX11_unlog_12 : decode cX11_unlog 12 = .ok (.iconst 0, 1) := by decide +kernel
theorem dX11_unlog_13 : decode cX11_unlog 13 = .ok (.putfield 337, 3) := by decide +kernel
theorem dX11_unlog_16 : decode cX11_unlog 16 = .ok (.iload_n 1, 1) := by decide +kernel
theorem dX11_unlog_17 : decode cX11_unlog 17 = .ok (.ireturn, 1) := by decide +kernel
theorem dX11_way_0 : decode cX11_way 0 = .ok (.aload_n 0, 1) := by decide +kernel
theorem dX11_way_1 : decode cX11_way 1 = .ok (.getfield 48, 3) := by decide +kernel
theorem dX11_way_4 : decode cX11_way 4 = .ok (.aload_n 0, 1) := by decide +kernel
theorem dX11_way_5 : decode cX11_way 5 = .ok (.getfield 16, 3) := by decide +kernel
theorem dX11_way_8 : decode cX11_way 8 = .ok (.invokevirtual 324, 3) := by decide +kernel
theorem dX11_way_11 : decode cX11_way 11 = .ok (.aload_n 0, 1) := by decide +kernel
theorem dX11_way_12 : decode cX11_way 12 = .ok (.getfield 48, 3) := by decide +kernel
theorem dX11_way_15 : decode cX11_way 15 = .ok (.iload_n 1, 1) := by decide +kernel
theorem dX11_way_16 : decode cX11_way 16 = .ok (.invokevirtual 331, 3) := by decide +kernel
theorem dX11_way_19 : decode cX11_way 19 = .ok (.ireturn, 1) := by decide +kernel
theorem dX11_ways_0 : decode cX11_ways 0 = .ok (.aload_n 0, 1) := by decide +kernel
theorem dX11_ways_1 : decode cX11_ways 1 = .ok (.getfield 48, 3) := by decide +kernel
theorem dX11_ways_4 : decode cX11_ways 4 = .ok (.aload_n 0, 1) := by decide +kernel
theorem dX11_ways_5 : decode cX11_ways 5 = .ok (.getfield 16, 3) := by decide +kernel
theorem dX11_ways_8 : decode cX11_ways 8 = .ok (.invokevirtual 324, 3) := by decide +kernel
theorem dX11_ways_11 : decode cX11_ways 11 = .ok (.aload_n 0, 1) := by decide +kernel
theorem dX11_ways_12 : decode cX11_ways 12 = .ok (.getfield 48, 3) := by decide +kernel
theorem dX11_ways_15 : decode cX11_ways 15 = .ok (.getfield 328, 3) := by decide +kernel
theorem dX11_ways_18 : decode cX11_ways 18 = .ok (.ireturn, 1) := by decide +kernel
theorem dX11_wind_0 : decode cX11_wind 0 = .ok (.iload_n 1, 1) := by decide +kernel
theorem dX11_wind_1 : decode cX11_wind 1 = .ok (.iload_n 2, 1) := by decide +kernel
theorem dX11_wind_2 : decode cX11_wind 2 = .ok (.invokestatic 86, 3) := by decide +kernel
theorem dX11_wind_5 : decode cX11_wind 5 = .ok (.ifCond .eq 26, 3) := by decide +kernel
theorem dX11_wind_8 : decode cX11_wind 8 = .ok (.iload_n 3, 1) := by decide +kernel
theorem dX11_wind_9 : decode cX11_wind 9 = .ok (.iload 4, 2) := by decide +kernel
theorem dX11_wind_11 : decode cX11_wind 11 = .ok (.invokestatic 90, 3) := by decide +kernel
theorem dX11_wind_14 : decode cX11_wind 14 = .ok (.ifCond .eq 17, 3) := by decide +kernel
theorem dX11_wind_17 : decode cX11_wind 17 = .ok (.iload 5, 2) := by decide +kernel
theorem dX11_wind_19 : decode cX11_wind 19 = .ok (.iload 6, 2) := by decide +kernel
theorem dX11_wind_21 : decode cX11_wind 21 = .ok (.invokestatic 93, 3) := by decide +kernel
theorem dX11_wind_24 : decode cX11_wind 24 = .ok (.ifCond .eq 7, 3) := by decide +kernel
theorem dX11_wind_27 : decode cX11_wind 27 = .ok (.iconst 1, 1) := by decide +kernel
theorem dX11_wind_28 : decode cX11_wind 28 = .ok (.goto 4, 3) := by decide +kernel
theorem dX11_wind_31 : decode cX11_wind 31 = .ok (.iconst 0, 1) := by decide +kernel
theorem dX11_wind_32 : decode cX11_wind 32 = .ok (.invokestatic 96, 3) := by decide +kernel
theorem dX11_wind_35 : decode cX11_wind 35 = .ok (.iload_n 3, 1) := by decide +kernel
theorem dX11_wind_36 : decode cX11_wind 36 = .ok (.aload_n 0, 1) := by decide +kernel
theorem dX11_wind_37 : decode cX11_wind 37 = .ok (.getfield 7, 3) := by decide +kernel
theorem dX11_wind_40 : decode cX11_wind 40 = .ok (.if_icmp .ge 5, 3) := by decide +kernel
theorem dX11_wind_45 : decode cX11_wind 45 = .ok (.aload_n 0, 1) := by decide +kernel
theorem dX11_wind_46 : decode cX11_wind 46 = .ok (.getfield 16, 3) := by decide +kernel
theorem dX11_wind_49 : decode cX11_wind 49 = .ok (.iload_n 1, 1) := by decide +kernel
theorem dX11_wind_50 : decode cX11_wind 50 = .ok (.iload_n 2, 1) := by decide +kernel
theorem dX11_wind_51 : decode cX11_wind 51 = .ok (.invokestatic 100, 3) := by decide +kernel
theorem dX11_wind_54 : decode cX11_wind 54 = .ok (.iload_n 3, 1) := by decide +kernel
theorem dX11_wind_55 : decode cX11_wind 55 = .ok (.iload 4, 2) := by decide +kernel
theorem dX11_wind_57 : decode cX11_wind 57 = .ok (.iload 5, 2) := by decide +kernel
theorem dX11_wind_59 : decode cX11_wind 59 = .ok (.iload 6, 2) := by decide +kernel
theorem dX11_wind_61 : decode cX11_wind 61 = .ok (.invokestatic 104, 3) := by decide +kernel
theorem dX11_wind_64 : decode cX11_wind 64 = .ok (.invokevirtual 107, 3) := by decide +kernel
theorem dX11_wind_67 : decode cX11_wind 67 = .ok (.aload_n 0, 1) := by decide +kernel
theorem dX11_wind_68 : decode cX11_wind 68 = .ok (.getfield 48, 3) := by decide +kernel
theorem dX11_wind_71 : decode cX11_wind 71 = .ok (.invokevirtual 111, 3) := by decide +kernel
theorem dX11_wind_74 : decode cX11_wind 74 = .ok (.iconst 1, 1) := by decide +kernel
theorem dX11_wind_75 : decode cX11_wind 75 = .ok (.ireturn, 1) := by decide +kernel
theorem dX11_zone_0 : decode cX11_zone 0 = .ok (.iload_n 1, 1) := by decide +kernel
theorem dX11_zone_1 : decode cX11_zone 1 = .ok (.iconst 0, 1) := by decide +kernel
theorem dX11_zone_2 : decode cX11_zone 2 = .ok (.sipush 575, 3) := by decide +kernel
theorem dX11_zone_5 : decode cX11_zone 5 = .ok (.invokestatic 141, 3) := by decide +kernel
theorem dX11_zone_8 : decode cX11_zone 8 = .ok (.ifCond .eq 28, 3) := by decide +kernel
theorem dX11_zone_11 : decode cX11_zone 11 = .ok (.iload_n 2, 1) := by decide +kernel
theorem dX11_zone_12 : decode cX11_zone 12 = .ok (.iconst 0, 1) := by decide +kernel
theorem dX11_zone_13 : decode cX11_zone 13 = .ok (.sipush 575, 3) := by decide +kernel
theorem dX11_zone_16 : decode cX11_zone 16 = .ok (.invokestatic 141, 3) := by decide +kernel
theorem dX11_zone_19 : decode cX11_zone 19 = .ok (.ifCond .eq 17, 3) := by decide +kernel
theorem dX11_zone_22 : decode cX11_zone 22 = .ok (.iload_n 3, 1) := by decide +kernel
theorem dX11_zone_23 : decode cX11_zone 23 = .ok (.iconst 0, 1) := by decide +kernel
theorem dX11_zone_24 : decode cX11_zone 24 = .ok (.bipush 66, 2) := by decide +kernel
theorem dX11_zone_26 : decode cX11_zone 26 = .ok (.invokestatic 141, 3) := by decide +kernel
theorem dX11_zone_29 : decode cX11_zone 29 = .ok (.ifCond .eq 7, 3) := by decide +kernel
theorem dX11_zone_32 : decode cX11_zone 32 = .ok (.iconst 1, 1) := by decide +kernel
theorem dX11_zone_33 : decode cX11_zone 33 = .ok (.goto 4, 3) := by decide +kernel
theorem dX11_zone_36 : decode cX11_zone 36 = .ok (.iconst 0, 1) := by decide +kernel
theorem dX11_zone_37 : decode cX11_zone 37 = .ok (.invokestatic 96, 3) := by decide +kernel
theorem dX11_zone_40 : decode cX11_zone 40 = .ok (.iload_n 3, 1) := by decide +kernel
theorem dX11_zone_41 : decode cX11_zone 41 = .ok (.bipush 10, 2) := by decide +kernel
theorem dX11_zone_43 : decode cX11_zone 43 = .ok (.idiv, 1) := by decide +kernel
theorem dX11_zone_44 : decode cX11_zone 44 = .ok (.istore 7, 2) := by decide +kernel
theorem dX11_zone_46 : decode cX11_zone 46 = .ok (.iload_n 3, 1) := by decide +kernel
theorem dX11_zone_47 : decode cX11_zone 47 = .ok (.bipush 10, 2) := by decide +kernel
theorem dX11_zone_49 : decode cX11_zone 49 = .ok (.irem, 1) := by decide +kernel
theorem dX11_zone_50 : decode cX11_zone 50 = .ok (.istore 8, 2) := by decide +kernel
theorem dX11_zone_52 : decode cX11_zone 52 = .ok (.iload 7, 2) := by decide +kernel
theorem dX11_zone_54 : decode cX11_zone 54 = .ok (.iload 8, 2) := by decide +kernel
theorem dX11_zone_56 : decode cX11_zone 56 = .ok (.if_icmp .gt 14, 3) := by decide +kernel
theorem dX11_zone_59 : decode cX11_zone 59 = .ok (.iload 8, 2) := by decide +kernel
theorem dX11_zone_61 : decode cX11_zone 61 = .ok (.bipush 6, 2) := by decide +kernel
theorem dX11_zone_63 : decode cX11_zone 63 = .ok (.if_icmp .gt 7, 3) := by decide +kernel
theorem dX11_zone_66 : decode cX11_zone 66 = .ok (.iconst 1, 1) := by decide +kernel
theorem dX11_zone_67 : decode cX11_zone 67 = .ok (.goto 4, 3) := by decide +kernel
theorem dX11_zone_70 : decode cX11_zone 70 = .ok (.iconst 0, 1) := by decide +kernel
theorem dX11_zone_71 : decode cX11_zone 71 = .ok (.invokestatic 96, 3) := by decide +kernel
theorem dX11_zone_74 : decode cX11_zone 74 = .ok (.iload 4, 2) := by decide +kernel
theorem dX11_zone_76 : decode cX11_zone 76 = .ok (.iconst 0, 1) := by decide +kernel
theorem dX11_zone_77 : decode cX11_zone 77 = .ok (.sipush 1000, 3) := by decide +kernel
theorem dX11_zone_80 : decode cX11_zone 80 = .ok (.invokestatic 141, 3) := by decide +kernel
theorem dX11_zone_83 : decode cX11_zone 83 = .ok (.ifCond .eq 31, 3) := by decide +kernel
theorem dX11_zone_86 : decode cX11_zone 86 = .ok (.iload 5, 2) := by decide +kernel
theorem dX11_zone_88 : decode cX11_zone 88 = .ok (.iload 4, 2) := by decide +kernel
theorem dX11_zone_90 : decode cX11_zone 90 = .ok (.sipush 1000, 3) := by decide +kernel
theorem dX11_zone_93 : decode cX11_zone 93 = .ok (.invokestatic 141, 3) := by decide +kernel
theorem dX11_zone_96 : decode cX11_zone 96 = .ok (.ifCond .eq 18, 3) := by decide +kernel
theorem dX11_zone_99 : decode cX11_zone 99 = .ok (.iload 6, 2) := by decide +kernel
theorem dX11_zone_101 : decode cX11_zone 101 = .ok (.iconst 1, 1) := by decide +kernel
theorem dX11_zone_102 : decode cX11_zone 102 = .ok (.bipush 100, 2) := by decide +kernel
theorem dX11_zone_104 : decode cX11_zone 104 = .ok (.invokestatic 141, 3) := by decide +kernel
theorem dX11_zone_107 : decode cX11_zone 107 = .ok (.ifCond .eq 7, 3) := by decide +kernel
theorem dX11_zone_110 : decode cX11_zone 110 = .ok (.iconst 1, 1) := by decide +kernel
theorem dX11_zone_111 : decode cX11_zone 111 = .ok (.goto 4, 3) := by decide +kernel
theorem dX11_zone_114 : decode cX11_zone 114 = .ok (.iconst 0, 1) := by decide +kernel
theorem dX11_zone_115 : decode cX11_zone 115 = .ok (.invokestatic 96, 3) := by decide +kernel
theorem dX11_zone_118 : decode cX11_zone 118 = .ok (.aload_n 0, 1) := by decide +kernel
theorem dX11_zone_119 : decode cX11_zone 119 = .ok (.getfield 42, 3) := by decide +kernel
theorem dX11_zone_122 : decode cX11_zone 122 = .ok (.bipush 10, 2) := by decide +kernel
theorem dX11_zone_124 : decode cX11_zone 124 = .ok (.if_icmp .lt 5, 3) := by decide +kernel
theorem dX11_zone_129 : decode cX11_zone 129 = .ok (.new 36, 3) := by decide +kernel
theorem dX11_zone_132 : decode cX11_zone 132 = .ok (.dup, 1) := by decide +kernel
theorem dX11_zone_133 : decode cX11_zone 133 = .ok (.iload_n 1, 1) := by decide +kernel
theorem dX11_zone_134 : decode cX11_zone 134 = .ok (.iload_n 2, 1) := by decide +kernel
theorem dX11_zone_135 : decode cX11_zone 135 = .ok (.iload 6, 2) := by decide +kernel
theorem dX11_zone_137 : decode cX11_zone 137 = .ok (.invokespecial 313, 3) := by decide +kernel
theorem dX11_zone_140 : decode cX11_zone 140 = .ok (.astore 9, 2) := by decide +kernel
theorem dX11_zone_142 : decode cX11_zone 142 = .ok (.aload 9, 2) := by decide +kernel
theorem dX11_zone_144 : decode cX11_zone 144 = .ok (.iload 7, 2) := by decide +kernel
theorem dX11_zone_146 : decode cX11_zone 146 = .ok (.iload 8, 2) := by decide +kernel
theorem dX11_zone_148 : decode cX11_zone 148 = .ok (.iload 4, 2) := by decide +kernel
theorem dX11_zone_150 : decode cX11_zone 150 = .ok (.iload 5, 2) := by decide +kernel
theorem dX11_zone_152 : decode cX11_zone 152 = .ok (.invokevirtual 315, 3) := by decide +kernel
theorem dX11_zone_155 : decode cX11_zone 155 = .ok (.aload_n 0, 1) := by decide +kernel
theorem dX11_zone_156 : decode cX11_zone 156 = .ok (.getfield 38, 3) := by decide +kernel
theorem dX11_zone_159 : decode cX11_zone 159 = .ok (.aload_n 0, 1) := by decide +kernel
theorem dX11_zone_160 : decode cX11_zone 160 = .ok (.getfield 42, 3) := by decide +kernel
theorem dX11_zone_163 : decode cX11_zone 163 = .ok (.aload 9, 2) := by decide +kernel
theorem dX11_zone_165 : decode cX11_zone 165 = .ok (.aastore, 1) := by decide +kernel
theorem dX11_zone_166 : decode cX11_zone 166 = .ok (.aload_n 0, 1) := by decide +kernel
theorem dX11_zone_167 : decode cX11_zone 167 = .ok (.dup, 1) := by decide +kernel
theorem dX11_zone_168 : decode cX11_zone 168 = .ok (.getfield 42, 3) := by decide +kernel
theorem dX11_zone_171 : decode cX11_zone 171 = .ok (.iconst 1, 1) := by decide +kernel
theorem dX11_zone_172 : decode cX11_zone 172 = .ok (.iadd, 1) := by decide +kernel
theorem dX11_zone_173 : decode cX11_zone 173 = .ok (.putfield 42, 3) := by decide +kernel
theorem dX11_zone_176 : decode cX11_zone 176 = .ok (.aload_n 0, 1) := by decide +kernel
theorem dX11_zone_177 : decode cX11_zone 177 = .ok (.getfield 42, 3) := by decide +kernel
theorem dX11_zone_180 : decode cX11_zone 180 = .ok (.iconst 1, 1) := by decide +kernel
theorem dX11_zone_181 : decode cX11_zone 181 = .ok (.isub, 1) := by decide +kernel
theorem dX11_zone_182 : decode cX11_zone 182 = .ok (.ireturn, 1) := by decide +kernel
theorem dX2_init_0 : decode cX2_init 0 = .ok (.aload_n 0, 1) := by decide +kernel
theorem dX2_init_1 : decode cX2_init 1 = .ok (.invokespecial 1, 3) := by decide +kernel
theorem dX2_init_4 : decode cX2_init 4 = .ok (.aload_n 0, 1) := by decide +kernel
theorem dX2_init_5 : decode cX2_init 5 = .ok (.iload_n 1, 1) := by decide +kernel
theorem dX2_init_6 : decode cX2_init 6 = .ok (.putfield 7, 3) := by decide +kernel
theorem dX2_init_9 : decode cX2_init 9 = .ok (.aload_n 0, 1) := by decide +kernel
theorem dX2_init_10 : decode cX2_init 10 = .ok (.iload_n 2, 1) := by decide +kernel
theorem dX2_init_11 : decode cX2_init 11 = .ok (.putfield 13, 3) := by decide +kernel
theorem dX2_init_14 : decode cX2_init 14 = .ok (.aload_n 0, 1) := by decide +kernel
theorem dX2_init_15 : decode cX2_init 15 = .ok (.iload_n 3, 1) := by decide +kernel
theorem dX2_init_16 : decode cX2_init 16 = .ok (.putfield 16, 3) := by decide +kernel
theorem dX2_init_19 : decode cX2_init 19 = .ok (.aload_n 0, 1) := by decide +kernel
theorem dX2_init_20 : decode cX2_init 20 = .ok (.iload_n 3, 1) := by decide +kernel
theorem dX2_init_21 : decode cX2_init 21 = .ok (.iload 4, 2) := by decide +kernel
theorem dX2_init_23 : decode cX2_init 23 = .ok (.iadd, 1) := by decide +kernel
theorem dX2_init_24 : decode cX2_init 24 = .ok (.putfield 19, 3) := by decide +kernel
theorem dX2_init_27 : decode cX2_init 27 = .ok (.aload_n 0, 1) := by decide +kernel
theorem dX2_init_28 : decode cX2_init 28 = .ok (.iload 5, 2) := by decide +kernel
theorem dX2_init_30 : decode cX2_init 30 = .ok (.putfield 22, 3) := by decide +kernel
theorem dX2_init_33 : decode cX2_init 33 = .ok (.return_, 1) := by decide +kernel
theorem dX3_fits_0 : decode cX3_fits 0 = .ok (.aload_n 0, 1) := by decide +kernel
theorem dX3_fits_1 : decode cX3_fits 1 = .ok (.getfield 18, 3) := by decide +kernel
theorem dX3_fits_4 : decode cX3_fits 4 = .ok (.ifCond .ne 5, 3) := by decide +kernel
theorem dX3_fits_7 : decode cX3_fits 7 = .ok (.iconst 0, 1) := by decide +kernel
theorem dX3_fits_8 : decode cX3_fits 8 = .ok (.ireturn, 1) := by decide +kernel
theorem dX3_write_0 : decode cX3_write 0 = .ok (.aload_n 0, 1) := by decide +kernel
theorem dX3_write_1 : decode cX3_write 1 = .ok (.getfield 18, 3) := by decide +kernel
theorem dX3_write_4 : decode cX3_write 4 = .ok (.bipush 30, 2) := by decide +kernel
theorem dX3_write_6 : decode cX3_write 6 = .ok (.if_icmp .lt 5, 3) := by decide +kernel
theorem dX3_write_11 : decode cX3_write 11 = .ok (.aload_n 0, 1) := by decide +kernel
theorem dX3_write_12 : decode cX3_write 12 = .ok (.getfield 9, 3) := by decide +kernel
theorem dX3_write_15 : decode cX3_write 15 = .ok (.aload_n 0, 1) := by decide +kernel
theorem dX3_write_16 : decode cX3_write 16 = .ok (.getfield 18, 3) := by decide +kernel
theorem dX3_write_19 : decode cX3_write 19 = .ok (.iload_n 1, 1) := by decide +kernel
theorem dX3_write_20 : decode cX3_write 20 = .ok (.iastore, 1) := by decide +kernel
theorem dX3_write_21 : decode cX3_write 21 = .ok (.aload_n 0, 1) := by decide +kernel
theorem dX3_write_22 : decode cX3_write 22 = .ok (.getfield 15, 3) := by decide +kernel
theorem dX3_write_25 : decode cX3_write 25 = .ok (.aload_n 0, 1) := by decide +kernel
theorem dX3_write_26 : decode cX3_write 26 = .ok (.getfield 18, 3) := by decide +kernel
theorem dX3_write_29 : decode cX3_write 29 = .ok (.iload_n 2, 1) := by decide +kernel
theorem dX3_write_30 : decode cX3_write 30 = .ok (.iastore, 1) := by decide +kernel
theorem dX3_write_31 : decode cX3_write 31 = .ok (.aload_n 0, 1) := by decide +kernel
theorem dX3_write_32 : decode cX3_write 32 = .ok (.dup, 1) := by decide +kernel
theorem dX3_write_33 : decode cX3_write 33 = .ok (.getfield 18, 3) := by decide +kernel
theorem dX3_write_36 : decode cX3_write 36 = .ok (.iconst 1, 1) := by decide +kernel
theorem dX3_write_37 : decode cX3_write 37 = .ok (.iadd, 1) := by decide +kernel
theorem dX3_write_38 : decode cX3_write 38 = .ok (.putfield 18, 3) := by decide +kernel
theorem dX3_write_41 : decode cX3_write 41 = .ok (.aload_n 0, 1) := by decide +kernel
theorem dX3_write_42 : decode cX3_write 42 = .ok (.getfield 18, 3) := by decide +kernel
theorem dX3_write_45 : decode cX3_write 45 = .ok (.ireturn, 1) := by decide +kernel
theorem dX4_init_0 : decode cX4_init 0 = .ok (.aload_n 0, 1) := by decide +kernel
theorem dX4_init_1 : decode cX4_init 1 = .ok (.invokespecial 3, 3) := by decide +kernel
theorem dX4_init_4 : decode cX4_init 4 = .ok (.aload_n 0, 1) := by decide +kernel
theorem dX4_init_5 : decode cX4_init 5 = .ok (.sipush 300, 3) := by decide +kernel
theorem dX4_init_8 : decode cX4_init 8 = .ok (.newarray .int, 2) := by decide +kernel
theorem dX4_init_10 : decode cX4_init 10 = .ok (.putfield 9, 3) := by decide +kernel
theorem dX4_init_13 : decode cX4_init 13 = .ok (.aload_n 0, 1) := by decide +kernel
theorem dX4_init_14 : decode cX4_init 14 = .ok (.iconst 0, 1) := by decide +kernel
theorem dX4_init_15 : decode cX4_init 15 = .ok (.putfield 15, 3) := by decide +kernel
theorem dX4_init_18 : decode cX4_init 18 = .ok (.aload_n 0, 1) := by decide +kernel
theorem dX4_init_19 : decode cX4_init 19 = .ok (.sipush 300, 3) := by decide +kernel
theorem dX4_init_22 : decode cX4_init 22 = .ok (.newarray .int, 2) := by decide +kernel
theorem dX4_init_24 : decode cX4_init 24 = .ok (.putfield 19, 3) := by decide +kernel
theorem dX4_init_27 : decode cX4_init 27 = .ok (.aload_n 0, 1) := by decide +kernel
theorem dX4_init_28 : decode cX4_init 28 = .ok (.iconst 0, 1) := by decide +kernel
theorem dX4_init_29 : decode cX4_init 29 = .ok (.putfield 22, 3) := by decide +kernel
theorem dX4_init_32 : decode cX4_init 32 = .ok (.aload_n 0, 1) := by decide +kernel
theorem dX4_init_33 : decode cX4_init 33 = .ok (.iconst 0, 1) := by decide +kernel
theorem dX4_init_34 : decode cX4_init 34 = .ok (.putfield 25, 3) := by decide +kernel
theorem dX4_init_37 : decode cX4_init 37 = .ok (.aload_n 0, 1) := by decide +kernel
theorem dX4_init_38 : decode cX4_init 38 = .ok (.iconst 0, 1) := by decide +kernel
theorem dX4_init_39 : decode cX4_init 39 = .ok (.putfield 28, 3) := by decide +kernel
theorem dX4_init_42 : decode cX4_init 42 = .ok (.return_, 1) := by decide +kernel
theorem dX7_findWays_0 : decode cX7_findWays 0 = .ok (.aload_n 0, 1) := by decide +kernel
theorem dX7_findWays_1 : decode cX7_findWays 1 = .ok (.getfield 43, 3) := by decide +kernel
theorem dX7_findWays_4 : decode cX7_findWays 4 = .ok (.ifCond .eq 4, 3) := by decide +kernel
theorem dX7_findWays_8 : decode cX7_findWays 8 = .ok (.aload_n 0, 1) := by decide +kernel
theorem dX7_findWays_9 : decode cX7_findWays 9 = .ok (.iconst 1, 1) := by decide +kernel
theorem dX7_findWays_10 : decode cX7_findWays 10 = .ok (.putfield 43, 3) := by decide +kernel
theorem dX7_findWays_13 : decode cX7_findWays 13 = .ok (.aload_n 0, 1) := by decide +kernel
theorem dX7_findWays_14 : decode cX7_findWays 14 = .ok (.iconst 0, 1) := by decide +kernel
theorem dX7_findWays_15 : decode cX7_findWays 15 = .ok (.putfield 50, 3) := by decide +kernel
theorem dX7_findWays_18 : decode cX7_findWays 18 = .ok (.aload_n 0, 1) := by decide +kernel
theorem dX7_findWays_19 : decode cX7_findWays 19 = .ok (.iconst 0, 1) := by decide +kernel
theorem dX7_findWays_20 : decode cX7_findWays 20 = .ok (.putfield 39, 3) := by decide +kernel
theorem dX7_findWays_23 : decode cX7_findWays 23 = .ok (.aload_n 0, 1) := by decide +kernel
theorem dX7_findWays_24 : decode cX7_findWays 24 = .ok (.getfield 47, 3) := by decide +kernel
theorem dX7_findWays_27 : decode cX7_findWays 27 = .ok (.iconst 2, 1) := by decide +kernel
theorem dX7_findWays_28 : decode cX7_findWays 28 = .ok (.if_icmp .ge 4, 3) := by decide +kernel
theorem dX7_findWays_31 : decode cX7_findWays 31 = .ok (.return_, 1) := by decide +kernel
theorem dX7_firstWayLevel_0 : decode cX7_firstWayLevel 0 = .ok (.iload_n 1, 1) := by decide +kernel
theorem dX7_firstWayLevel_1 : decode cX7_firstWayLevel 1 = .ok (.ifCond .lt 26, 3) := by decide +kernel
theorem dX7_firstWayLevel_4 : decode cX7_firstWayLevel 4 = .ok (.iload_n 1, 1) := by decide +kernel
theorem dX7_firstWayLevel_5 : decode cX7_firstWayLevel 5 = .ok (.aload_n 0, 1) := by decide +kernel
theorem dX7_firstWayLevel_6 : decode cX7_firstWayLevel 6 = .ok (.getfield 39, 3) := by decide +kernel
theorem dX7_firstWayLevel_9 : decode cX7_firstWayLevel 9 = .ok (.if_icmp .ge 18, 3) := by decide +kernel
theorem dX7_firstWayLevel_27 : decode cX7_firstWayLevel 27 = .ok (.iconst (-1), 1) := by decide +kernel
theorem dX7_firstWayLevel_28 : decode cX7_firstWayLevel 28 = .ok (.ireturn, 1) := by decide +kernel
theorem dX7_forgetSights_0 : decode cX7_forgetSights 0 = .ok (.aload_n 0, 1) := by decide +kernel
theorem dX7_forgetSights_1 : decode cX7_forgetSights 1 = .ok (.getfield 47, 3) := by decide +kernel
theorem dX7_forgetSights_4 : decode cX7_forgetSights 4 = .ok (.istore_n 1, 1) := by decide +kernel
theorem dX7_forgetSights_5 : decode cX7_forgetSights 5 = .ok (.aload_n 0, 1) := by decide +kernel
theorem dX7_forgetSights_6 : decode cX7_forgetSights 6 = .ok (.iconst 0, 1) := by decide +kernel
theorem dX7_forgetSights_7 : decode cX7_forgetSights 7 = .ok (.putfield 47, 3) := by decide +kernel
theorem dX7_forgetSights_10 : decode cX7_forgetSights 10 = .ok (.aload_n 0, 1) := by decide +kernel
theorem dX7_forgetSights_11 : decode cX7_forgetSights 11 = .ok (.iconst 0, 1) := by decide +kernel
theorem dX7_forgetSights_12 : decode cX7_forgetSights 12 = .ok (.putfield 43, 3) := by decide +kernel
theorem dX7_forgetSights_15 : decode cX7_forgetSights 15 = .ok (.iload_n 1, 1) := by decide +kernel
theorem dX7_forgetSights_16 : decode cX7_forgetSights 16 = .ok (.ireturn, 1) := by decide +kernel
theorem dX7_forgetWays_0 : decode cX7_forgetWays 0 = .ok (.aload_n 0, 1) := by decide +kernel
theorem dX7_forgetWays_1 : decode cX7_forgetWays 1 = .ok (.iconst 0, 1) := by decide +kernel
theorem dX7_forgetWays_2 : decode cX7_forgetWays 2 = .ok (.putfield 43, 3) := by decide +kernel
theorem dX7_forgetWays_5 : decode cX7_forgetWays 5 = .ok (.return_, 1) := by decide +kernel
theorem dX7_note_0 : decode cX7_note 0 = .ok (.aload_n 0, 1) := by decide +kernel
theorem dX7_note_1 : decode cX7_note 1 = .ok (.getfield 47, 3) := by decide +kernel
theorem dX7_note_4 : decode cX7_note 4 = .ok (.bipush 12, 2) := by decide +kernel
theorem dX7_note_6 : decode cX7_note 6 = .ok (.if_icmp .lt 5, 3) := by decide +kernel
theorem dX7_note_11 : decode cX7_note 11 = .ok (.aload_n 0, 1) := by decide +kernel
theorem dX7_note_12 : decode cX7_note 12 = .ok (.getfield 47, 3) := by decide +kernel
theorem dX7_note_15 : decode cX7_note 15 = .ok (.ifCond .le 34, 3) := by decide +kernel
theorem dX7_note_49 : decode cX7_note 49 = .ok (.aload_n 0, 1) := by decide +kernel
theorem dX7_note_50 : decode cX7_note 50 = .ok (.getfield 9, 3) := by decide +kernel
theorem dX7_note_53 : decode cX7_note 53 = .ok (.aload_n 0, 1) := by decide +kernel
theorem dX7_note_54 : decode cX7_note 54 = .ok (.getfield 47, 3) := by decide +kernel
theorem dX7_note_57 : decode cX7_note 57 = .ok (.iload_n 1, 1) := by decide +kernel
theorem dX7_note_58 : decode cX7_note 58 = .ok (.iastore, 1) := by decide +kernel
theorem dX7_note_59 : decode cX7_note 59 = .ok (.aload_n 0, 1) := by decide +kernel
theorem dX7_note_60 : decode cX7_note 60 = .ok (.getfield 15, 3) := by decide +kernel
theorem dX7_note_63 : decode cX7_note 63 = .ok (.aload_n 0, 1) := by decide +kernel
theorem dX7_note_64 : decode cX7_note 64 = .ok (.getfield 47, 3) := by decide +kernel
theorem dX7_note_67 : decode cX7_note 67 = .ok (.iload_n 3, 1) := by decide +kernel
theorem dX7_note_68 : decode cX7_note 68 = .ok (.bipush 24, 2) := by decide +kernel
theorem dX7_note_70 : decode cX7_note 70 = .ok (.imul, 1) := by decide +kernel
theorem dX7_note_71 : decode cX7_note 71 = .ok (.iload_n 2, 1) := by decide +kernel
theorem dX7_note_72 : decode cX7_note 72 = .ok (.iadd, 1) := by decide +kernel
theorem dX7_note_73 : decode cX7_note 73 = .ok (.iastore, 1) := by decide +kernel
theorem dX7_note_74 : decode cX7_note 74 = .ok (.aload_n 0, 1) := by decide +kernel
theorem dX7_note_75 : decode cX7_note 75 = .ok (.dup, 1) := by decide +kernel
theorem dX7_note_76 : decode cX7_note 76 = .ok (.getfield 47, 3) := by decide +kernel
theorem dX7_note_79 : decode cX7_note 79 = .ok (.iconst 1, 1) := by decide +kernel
theorem dX7_note_80 : decode cX7_note 80 = .ok (.iadd, 1) := by decide +kernel
theorem dX7_note_81 : decode cX7_note 81 = .ok (.putfield 47, 3) := by decide +kernel
theorem dX7_note_84 : decode cX7_note 84 = .ok (.aload_n 0, 1) := by decide +kernel
theorem dX7_note_85 : decode cX7_note 85 = .ok (.iconst 0, 1) := by decide +kernel
theorem dX7_note_86 : decode cX7_note 86 = .ok (.putfield 43, 3) := by decide +kernel
theorem dX7_note_89 : decode cX7_note 89 = .ok (.aload_n 0, 1) := by decide +kernel
theorem dX7_note_90 : decode cX7_note 90 = .ok (.getfield 47, 3) := by decide +kernel
theorem dX7_note_93 : decode cX7_note 93 = .ok (.ireturn, 1) := by decide +kernel
theorem dX8_blow_0 : decode cX8_blow 0 = .ok (.iload_n 2, 1) := by decide +kernel
theorem dX8_blow_1 : decode cX8_blow 1 = .ok (.istore 5, 2) := by decide +kernel
theorem dX8_blow_3 : decode cX8_blow 3 = .ok (.iload 5, 2) := by decide +kernel
theorem dX8_blow_5 : decode cX8_blow 5 = .ok (.iload_n 2, 1) := by decide +kernel
theorem dX8_blow_6 : decode cX8_blow 6 = .ok (.iload_n 3, 1) := by decide +kernel
theorem dX8_blow_7 : decode cX8_blow 7 = .ok (.iadd, 1) := by decide +kernel
theorem dX8_blow_8 : decode cX8_blow 8 = .ok (.if_icmp .ge 44, 3) := by decide +kernel
theorem dX8_blow_11 : decode cX8_blow 11 = .ok (.iload 5, 2) := by decide +kernel
theorem dX8_blow_13 : decode cX8_blow 13 = .ok (.invokestatic 35, 3) := by decide +kernel
theorem dX8_blow_16 : decode cX8_blow 16 = .ok (.ifCond .eq 30, 3) := by decide +kernel
theorem dX8_blow_19 : decode cX8_blow 19 = .ok (.iload_n 1, 1) := by decide +kernel
theorem dX8_blow_20 : decode cX8_blow 20 = .ok (.iconst 0, 1) := by decide +kernel
theorem dX8_blow_21 : decode cX8_blow 21 = .ok (.bipush 23, 2) := by decide +kernel
