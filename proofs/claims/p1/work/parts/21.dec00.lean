theorem dX0_init_0 : decode cX0_init 0 = .ok (.aload_n 0, 1) := by decide +kernel
theorem dX0_init_1 : decode cX0_init 1 = .ok (.invokespecial 3, 3) := by decide +kernel
theorem dX0_init_4 : decode cX0_init 4 = .ok (.aload_n 0, 1) := by decide +kernel
theorem dX0_init_5 : decode cX0_init 5 = .ok (.new 9, 3) := by decide +kernel
theorem dX0_init_8 : decode cX0_init 8 = .ok (.dup, 1) := by decide +kernel
theorem dX0_init_9 : decode cX0_init 9 = .ok (.invokespecial 11, 3) := by decide +kernel
theorem dX0_init_12 : decode cX0_init 12 = .ok (.putfield 12, 3) := by decide +kernel
theorem dX0_init_15 : decode cX0_init 15 = .ok (.aload_n 0, 1) := by decide +kernel
theorem dX0_init_16 : decode cX0_init 16 = .ok (.new 18, 3) := by decide +kernel
theorem dX0_init_19 : decode cX0_init 19 = .ok (.dup, 1) := by decide +kernel
theorem dX0_init_20 : decode cX0_init 20 = .ok (.invokespecial 20, 3) := by decide +kernel
theorem dX0_init_23 : decode cX0_init 23 = .ok (.putfield 21, 3) := by decide +kernel
theorem dX0_init_26 : decode cX0_init 26 = .ok (.aload_n 0, 1) := by decide +kernel
theorem dX0_init_27 : decode cX0_init 27 = .ok (.iconst 0, 1) := by decide +kernel
theorem dX0_init_28 : decode cX0_init 28 = .ok (.putfield 25, 3) := by decide +kernel
theorem dX0_init_31 : decode cX0_init 31 = .ok (.aload_n 0, 1) := by decide +kernel
theorem dX0_init_32 : decode cX0_init 32 = .ok (.iconst 0, 1) := by decide +kernel
theorem dX0_init_33 : decode cX0_init 33 = .ok (.putfield 29, 3) := by decide +kernel
theorem dX0_init_36 : decode cX0_init 36 = .ok (.aload_n 0, 1) := by decide +kernel
theorem dX0_init_37 : decode cX0_init 37 = .ok (.iconst 0, 1) := by decide +kernel
theorem dX0_init_38 : decode cX0_init 38 = .ok (.putfield 32, 3) := by decide +kernel
theorem dX0_init_41 : decode cX0_init 41 = .ok (.aload_n 0, 1) := by decide +kernel
theorem dX0_init_42 : decode cX0_init 42 = .ok (.iconst 0, 1) := by decide +kernel
theorem dX0_init_43 : decode cX0_init 43 = .ok (.putfield 35, 3) := by decide +kernel
theorem dX0_init_46 : decode cX0_init 46 = .ok (.aload_n 0, 1) := by decide +kernel
theorem dX0_init_47 : decode cX0_init 47 = .ok (.iconst 0, 1) := by decide +kernel
theorem dX0_init_48 : decode cX0_init 48 = .ok (.putfield 38, 3) := by decide +kernel
theorem dX0_init_51 : decode cX0_init 51 = .ok (.aload_n 0, 1) := by decide +kernel
theorem dX0_init_52 : decode cX0_init 52 = .ok (.iconst 0, 1) := by decide +kernel
theorem dX0_init_53 : decode cX0_init 53 = .ok (.putfield 42, 3) := by decide +kernel
theorem dX0_init_56 : decode cX0_init 56 = .ok (.aload_n 0, 1) := by decide +kernel
theorem dX0_init_57 : decode cX0_init 57 = .ok (.iconst (-1), 1) := by decide +kernel
theorem dX0_init_58 : decode cX0_init 58 = .ok (.putfield 45, 3) := by decide +kernel
theorem dX0_init_61 : decode cX0_init 61 = .ok (.aload_n 0, 1) := by decide +kernel
theorem dX0_init_62 : decode cX0_init 62 = .ok (.iconst 0, 1) := by decide +kernel
theorem dX0_init_63 : decode cX0_init 63 = .ok (.putfield 48, 3) := by decide +kernel
theorem dX0_init_66 : decode cX0_init 66 = .ok (.aload_n 0, 1) := by decide +kernel
theorem dX0_init_67 : decode cX0_init 67 = .ok (.iconst 0, 1) := by decide +kernel
theorem dX0_init_68 : decode cX0_init 68 = .ok (.putfield 51, 3) := by decide +kernel
theorem dX0_init_71 : decode cX0_init 71 = .ok (.aload_n 0, 1) := by decide +kernel
theorem dX0_init_72 : decode cX0_init 72 = .ok (.iconst 0, 1) := by decide +kernel
theorem dX0_init_73 : decode cX0_init 73 = .ok (.putfield 54, 3) := by decide +kernel
theorem dX0_init_76 : decode cX0_init 76 = .ok (.aload_n 0, 1) := by decide +kernel
theorem dX0_init_77 : decode cX0_init 77 = .ok (.iconst 0, 1) := by decide +kernel
theorem dX0_init_78 : decode cX0_init 78 = .ok (.putfield 57, 3) := by decide +kernel
theorem dX0_init_81 : decode cX0_init 81 = .ok (.aload_n 0, 1) := by decide +kernel
theorem dX0_init_82 : decode cX0_init 82 = .ok (.iconst 0, 1) := by decide +kernel
theorem dX0_init_83 : decode cX0_init 83 = .ok (.putfield 60, 3) := by decide +kernel
theorem dX0_init_86 : decode cX0_init 86 = .ok (.aload_n 0, 1) := by decide +kernel
theorem dX0_init_87 : decode cX0_init 87 = .ok (.sipush 7000, 3) := by decide +kernel
theorem dX0_init_90 : decode cX0_init 90 = .ok (.newarray .int, 2) := by decide +kernel
theorem dX0_init_92 : decode cX0_init 92 = .ok (.putfield 63, 3) := by decide +kernel
theorem dX0_init_95 : decode cX0_init 95 = .ok (.aload_n 0, 1) := by decide +kernel
theorem dX0_init_96 : decode cX0_init 96 = .ok (.getfield 12, 3) := by decide +kernel
theorem dX0_init_99 : decode cX0_init 99 = .ok (.iload_n 1, 1) := by decide +kernel
theorem dX0_init_100 : decode cX0_init 100 = .ok (.putfield 67, 3) := by decide +kernel
theorem dX0_init_103 : decode cX0_init 103 = .ok (.aload_n 0, 1) := by decide +kernel
theorem dX0_init_104 : decode cX0_init 104 = .ok (.getfield 12, 3) := by decide +kernel
theorem dX0_init_107 : decode cX0_init 107 = .ok (.iload_n 2, 1) := by decide +kernel
theorem dX0_init_108 : decode cX0_init 108 = .ok (.putfield 70, 3) := by decide +kernel
theorem dX0_init_111 : decode cX0_init 111 = .ok (.return_, 1) := by decide +kernel
theorem dX10_init_0 : decode cX10_init 0 = .ok (.aload_n 0, 1) := by decide +kernel
theorem dX10_init_1 : decode cX10_init 1 = .ok (.invokespecial 3, 3) := by decide +kernel
theorem dX10_init_4 : decode cX10_init 4 = .ok (.aload_n 0, 1) := by decide +kernel
theorem dX10_init_5 : decode cX10_init 5 = .ok (.iconst 0, 1) := by decide +kernel
theorem dX10_init_6 : decode cX10_init 6 = .ok (.putfield 9, 3) := by decide +kernel
theorem dX10_init_9 : decode cX10_init 9 = .ok (.aload_n 0, 1) := by decide +kernel
theorem dX10_init_10 : decode cX10_init 10 = .ok (.iconst 0, 1) := by decide +kernel
theorem dX10_init_11 : decode cX10_init 11 = .ok (.putfield 15, 3) := by decide +kernel
theorem dX10_init_14 : decode cX10_init 14 = .ok (.aload_n 0, 1) := by decide +kernel
theorem dX10_init_15 : decode cX10_init 15 = .ok (.iconst 0, 1) := by decide +kernel
theorem dX10_init_16 : decode cX10_init 16 = .ok (.putfield 18, 3) := by decide +kernel
theorem dX10_init_19 : decode cX10_init 19 = .ok (.aload_n 0, 1) := by decide +kernel
theorem dX10_init_20 : decode cX10_init 20 = .ok (.iconst 0, 1) := by decide +kernel
theorem dX10_init_21 : decode cX10_init 21 = .ok (.putfield 21, 3) := by decide +kernel
theorem dX10_init_24 : decode cX10_init 24 = .ok (.aload_n 0, 1) := by decide +kernel
theorem dX10_init_25 : decode cX10_init 25 = .ok (.iload_n 3, 1) := by decide +kernel
theorem dX10_init_26 : decode cX10_init 26 = .ok (.putfield 24, 3) := by decide +kernel
theorem dX10_init_29 : decode cX10_init 29 = .ok (.aload_n 0, 1) := by decide +kernel
theorem dX10_init_30 : decode cX10_init 30 = .ok (.iload_n 1, 1) := by decide +kernel
theorem dX10_init_31 : decode cX10_init 31 = .ok (.bipush 24, 2) := by decide +kernel
theorem dX10_init_33 : decode cX10_init 33 = .ok (.irem, 1) := by decide +kernel
theorem dX10_init_34 : decode cX10_init 34 = .ok (.iload_n 2, 1) := by decide +kernel
theorem dX10_init_35 : decode cX10_init 35 = .ok (.bipush 24, 2) := by decide +kernel
theorem dX10_init_37 : decode cX10_init 37 = .ok (.irem, 1) := by decide +kernel
theorem dX10_init_38 : decode cX10_init 38 = .ok (.invokestatic 27, 3) := by decide +kernel
theorem dX10_init_41 : decode cX10_init 41 = .ok (.putfield 33, 3) := by decide +kernel
theorem dX10_init_44 : decode cX10_init 44 = .ok (.aload_n 0, 1) := by decide +kernel
theorem dX10_init_45 : decode cX10_init 45 = .ok (.iload_n 1, 1) := by decide +kernel
theorem dX10_init_46 : decode cX10_init 46 = .ok (.bipush 24, 2) := by decide +kernel
theorem dX10_init_48 : decode cX10_init 48 = .ok (.irem, 1) := by decide +kernel
theorem dX10_init_49 : decode cX10_init 49 = .ok (.iload_n 2, 1) := by decide +kernel
theorem dX10_init_50 : decode cX10_init 50 = .ok (.bipush 24, 2) := by decide +kernel
theorem dX10_init_52 : decode cX10_init 52 = .ok (.irem, 1) := by decide +kernel
theorem dX10_init_53 : decode cX10_init 53 = .ok (.invokestatic 36, 3) := by decide +kernel
theorem dX10_init_56 : decode cX10_init 56 = .ok (.putfield 39, 3) := by decide +kernel
theorem dX10_init_59 : decode cX10_init 59 = .ok (.aload_n 0, 1) := by decide +kernel
theorem dX10_init_60 : decode cX10_init 60 = .ok (.iload_n 1, 1) := by decide +kernel
theorem dX10_init_61 : decode cX10_init 61 = .ok (.bipush 24, 2) := by decide +kernel
theorem dX10_init_63 : decode cX10_init 63 = .ok (.idiv, 1) := by decide +kernel
theorem dX10_init_64 : decode cX10_init 64 = .ok (.iload_n 2, 1) := by decide +kernel
theorem dX10_init_65 : decode cX10_init 65 = .ok (.bipush 24, 2) := by decide +kernel
theorem dX10_init_67 : decode cX10_init 67 = .ok (.idiv, 1) := by decide +kernel
theorem dX10_init_68 : decode cX10_init 68 = .ok (.invokestatic 27, 3) := by decide +kernel
theorem dX10_init_71 : decode cX10_init 71 = .ok (.putfield 42, 3) := by decide +kernel
theorem dX10_init_74 : decode cX10_init 74 = .ok (.aload_n 0, 1) := by decide +kernel
theorem dX10_init_75 : decode cX10_init 75 = .ok (.iload_n 1, 1) := by decide +kernel
theorem dX10_init_76 : decode cX10_init 76 = .ok (.bipush 24, 2) := by decide +kernel
theorem dX10_init_78 : decode cX10_init 78 = .ok (.idiv, 1) := by decide +kernel
theorem dX10_init_79 : decode cX10_init 79 = .ok (.iload_n 2, 1) := by decide +kernel
theorem dX10_init_80 : decode cX10_init 80 = .ok (.bipush 24, 2) := by decide +kernel
theorem dX10_init_82 : decode cX10_init 82 = .ok (.idiv, 1) := by decide +kernel
theorem dX10_init_83 : decode cX10_init 83 = .ok (.invokestatic 36, 3) := by decide +kernel
theorem dX10_init_86 : decode cX10_init 86 = .ok (.putfield 45, 3) := by decide +kernel
theorem dX10_init_89 : decode cX10_init 89 = .ok (.return_, 1) := by decide +kernel
theorem dX10_limit_0 : decode cX10_limit 0 = .ok (.aload_n 0, 1) := by decide +kernel
theorem dX10_limit_1 : decode cX10_limit 1 = .ok (.iload_n 1, 1) := by decide +kernel
theorem dX10_limit_2 : decode cX10_limit 2 = .ok (.putfield 9, 3) := by decide +kernel
theorem dX10_limit_5 : decode cX10_limit 5 = .ok (.aload_n 0, 1) := by decide +kernel
theorem dX10_limit_6 : decode cX10_limit 6 = .ok (.iload_n 2, 1) := by decide +kernel
theorem dX10_limit_7 : decode cX10_limit 7 = .ok (.putfield 15, 3) := by decide +kernel
theorem dX10_limit_10 : decode cX10_limit 10 = .ok (.aload_n 0, 1) := by decide +kernel
theorem dX10_limit_11 : decode cX10_limit 11 = .ok (.iload_n 3, 1) := by decide +kernel
theorem dX10_limit_12 : decode cX10_limit 12 = .ok (.putfield 18, 3) := by decide +kernel
theorem dX10_limit_15 : decode cX10_limit 15 = .ok (.aload_n 0, 1) := by decide +kernel
theorem dX10_limit_16 : decode cX10_limit 16 = .ok (.iload 4, 2) := by decide +kernel
theorem dX10_limit_18 : decode cX10_limit 18 = .ok (.putfield 21, 3) := by decide +kernel
theorem dX10_limit_21 : decode cX10_limit 21 = .ok (.return_, 1) := by decide +kernel
theorem dX11_act_0 : decode cX11_act 0 = .ok (.aload_n 0, 1) := by decide +kernel
theorem dX11_act_1 : decode cX11_act 1 = .ok (.iload_n 1, 1) := by decide +kernel
theorem dX11_act_2 : decode cX11_act 2 = .ok (.invokevirtual 176, 3) := by decide +kernel
theorem dX11_balloon_0 : decode cX11_balloon 0 = .ok (.iload_n 1, 1) := by decide +kernel
theorem dX11_balloon_1 : decode cX11_balloon 1 = .ok (.bipush 100, 2) := by decide +kernel
theorem dX11_balloon_3 : decode cX11_balloon 3 = .ok (.sipush 5000, 3) := by decide +kernel
theorem dX11_balloon_6 : decode cX11_balloon 6 = .ok (.invokestatic 141, 3) := by decide +kernel
theorem dX11_balloon_9 : decode cX11_balloon 9 = .ok (.ifCond .eq 19, 3) := by decide +kernel
theorem dX11_balloon_12 : decode cX11_balloon 12 = .ok (.iload_n 2, 1) := by decide +kernel
theorem dX11_balloon_13 : decode cX11_balloon 13 = .ok (.bipush 10, 2) := by decide +kernel
theorem dX11_balloon_15 : decode cX11_balloon 15 = .ok (.sipush 1000, 3) := by decide +kernel
theorem dX11_balloon_18 : decode cX11_balloon 18 = .ok (.invokestatic 141, 3) := by decide +kernel
theorem dX11_balloon_21 : decode cX11_balloon 21 = .ok (.ifCond .eq 7, 3) := by decide +kernel
theorem dX11_balloon_24 : decode cX11_balloon 24 = .ok (.iconst 1, 1) := by decide +kernel
theorem dX11_balloon_25 : decode cX11_balloon 25 = .ok (.goto 4, 3) := by decide +kernel
theorem dX11_balloon_28 : decode cX11_balloon 28 = .ok (.iconst 0, 1) := by decide +kernel
theorem dX11_balloon_29 : decode cX11_balloon 29 = .ok (.invokestatic 96, 3) := by decide +kernel
theorem dX11_balloon_32 : decode cX11_balloon 32 = .ok (.aload_n 0, 1) := by decide +kernel
theorem dX11_balloon_33 : decode cX11_balloon 33 = .ok (.getfield 33, 3) := by decide +kernel
theorem dX11_balloon_36 : decode cX11_balloon 36 = .ok (.bipush 6, 2) := by decide +kernel
theorem dX11_balloon_38 : decode cX11_balloon 38 = .ok (.if_icmp .lt 13, 3) := by decide +kernel
theorem dX11_balloon_51 : decode cX11_balloon 51 = .ok (.aload_n 0, 1) := by decide +kernel
theorem dX11_balloon_52 : decode cX11_balloon 52 = .ok (.getfield 29, 3) := by decide +kernel
theorem dX11_balloon_55 : decode cX11_balloon 55 = .ok (.aload_n 0, 1) := by decide +kernel
theorem dX11_balloon_56 : decode cX11_balloon 56 = .ok (.getfield 33, 3) := by decide +kernel
theorem dX11_balloon_59 : decode cX11_balloon 59 = .ok (.new 27, 3) := by decide +kernel
theorem dX11_balloon_62 : decode cX11_balloon 62 = .ok (.dup, 1) := by decide +kernel
theorem dX11_balloon_63 : decode cX11_balloon 63 = .ok (.iload_n 1, 1) := by decide +kernel
theorem dX11_balloon_64 : decode cX11_balloon 64 = .ok (.iload_n 2, 1) := by decide +kernel
theorem dX11_balloon_65 : decode cX11_balloon 65 = .ok (.invokespecial 152, 3) := by decide +kernel
theorem dX11_balloon_68 : decode cX11_balloon 68 = .ok (.aastore, 1) := by decide +kernel
theorem dX11_balloon_69 : decode cX11_balloon 69 = .ok (.aload_n 0, 1) := by decide +kernel
theorem dX11_balloon_70 : decode cX11_balloon 70 = .ok (.dup, 1) := by decide +kernel
theorem dX11_balloon_71 : decode cX11_balloon 71 = .ok (.getfield 33, 3) := by decide +kernel
theorem dX11_balloon_74 : decode cX11_balloon 74 = .ok (.iconst 1, 1) := by decide +kernel
theorem dX11_balloon_75 : decode cX11_balloon 75 = .ok (.iadd, 1) := by decide +kernel
theorem dX11_balloon_76 : decode cX11_balloon 76 = .ok (.putfield 33, 3) := by decide +kernel
theorem dX11_balloon_79 : decode cX11_balloon 79 = .ok (.aload_n 0, 1) := by decide +kernel
theorem dX11_balloon_80 : decode cX11_balloon 80 = .ok (.getfield 33, 3) := by decide +kernel
theorem dX11_balloon_83 : decode cX11_balloon 83 = .ok (.iconst 1, 1) := by decide +kernel
theorem dX11_balloon_84 : decode cX11_balloon 84 = .ok (.isub, 1) := by decide +kernel
theorem dX11_balloon_85 : decode cX11_balloon 85 = .ok (.ireturn, 1) := by decide +kernel
theorem dX11_balloonAt_0 : decode cX11_balloonAt 0 = .ok (.iload_n 1, 1) := by decide +kernel
theorem dX11_balloonAt_1 : decode cX11_balloonAt 1 = .ok (.ifCond .lt 11, 3) := by decide +kernel
theorem dX11_balloonAt_4 : decode cX11_balloonAt 4 = .ok (.iload_n 1, 1) := by decide +kernel
theorem dX11_balloonAt_5 : decode cX11_balloonAt 5 = .ok (.aload_n 0, 1) := by decide +kernel
theorem dX11_balloonAt_6 : decode cX11_balloonAt 6 = .ok (.getfield 33, 3) := by decide +kernel
theorem dX11_balloonAt_9 : decode cX11_balloonAt 9 = .ok (.if_icmp .lt 14, 3) := by decide +kernel
theorem dX11_balloonAt_12 : decode cX11_balloonAt 12 = .ok (.new 374, 3) := by decide +kernel
theorem dX11_balloonAt_15 : decode cX11_balloonAt 15 = .ok (.dup, 1) := by decide +kernel
theorem dX11_balloonAt_16 : decode cX11_balloonAt 16 = .ok (.ldc_w 376, 3) := by decide +kernel
theorem dX11_balloonAt_19 : decode cX11_balloonAt 19 = .ok (.invokespecial 378, 3) := by decide +kernel
theorem dX11_balloonAt_22 : decode cX11_balloonAt 22 = .ok (.athrow, 1) := by decide +kernel
theorem dX11_clear_0 : decode cX11_clear 0 = .ok (.aload_n 0, 1) := by decide +kernel
theorem dX11_clear_1 : decode cX11_clear 1 = .ok (.getfield 48, 3) := by decide +kernel
theorem dX11_clear_4 : decode cX11_clear 4 = .ok (.invokevirtual 321, 3) := by decide +kernel
theorem dX11_clear_7 : decode cX11_clear 7 = .ok (.ireturn, 1) := by decide +kernel
theorem dX11_cloud_0 : decode cX11_cloud 0 = .ok (.iload_n 1, 1) := by decide +kernel
theorem dX11_cloud_1 : decode cX11_cloud 1 = .ok (.iload_n 2, 1) := by decide +kernel
theorem dX11_cloud_2 : decode cX11_cloud 2 = .ok (.invokestatic 90, 3) := by decide +kernel
theorem dX11_cloud_5 : decode cX11_cloud 5 = .ok (.invokestatic 96, 3) := by decide +kernel
theorem dX11_cloud_8 : decode cX11_cloud 8 = .ok (.aload_n 0, 1) := by decide +kernel
theorem dX11_cloud_9 : decode cX11_cloud 9 = .ok (.getfield 16, 3) := by decide +kernel
theorem dX11_cloud_12 : decode cX11_cloud 12 = .ok (.iload_n 1, 1) := by decide +kernel
theorem dX11_cloud_13 : decode cX11_cloud 13 = .ok (.iload_n 2, 1) := by decide +kernel
theorem dX11_cloud_14 : decode cX11_cloud 14 = .ok (.iload_n 3, 1) := by decide +kernel
theorem dX11_cloud_15 : decode cX11_cloud 15 = .ok (.invokevirtual 137, 3) := by decide +kernel
theorem dX11_cloud_18 : decode cX11_cloud 18 = .ok (.iconst 1, 1) := by decide +kernel
theorem dX11_cloud_19 : decode cX11_cloud 19 = .ok (.ireturn, 1) := by decide +kernel
theorem dX11_count_0 : decode cX11_count 0 = .ok (.iload_n 1, 1) := by decide +kernel
theorem dX11_count_1 : decode cX11_count 1 = .ok (.tableswitch 120 0 9 #[55, 60, 65, 73, 81, 86, 94, 102, 107, 112], 55) := by decide +kernel
theorem dX11_count_56 : decode cX11_count 56 = .ok (.aload_n 0, 1) := by decide +kernel
theorem dX11_count_57 : decode cX11_count 57 = .ok (.getfield 7, 3) := by decide +kernel
theorem dX11_count_60 : decode cX11_count 60 = .ok (.ireturn, 1) := by decide +kernel
theorem dX11_count_61 : decode cX11_count 61 = .ok (.aload_n 0, 1) := by decide +kernel
theorem dX11_count_62 : decode cX11_count 62 = .ok (.getfield 33, 3) := by decide +kernel
theorem dX11_count_65 : decode cX11_count 65 = .ok (.ireturn, 1) := by decide +kernel
theorem dX11_count_66 : decode cX11_count 66 = .ok (.aload_n 0, 1) := by decide +kernel
theorem dX11_count_67 : decode cX11_count 67 = .ok (.getfield 23, 3) := by decide +kernel
theorem dX11_count_70 : decode cX11_count 70 = .ok (.getfield 356, 3) := by decide +kernel
theorem dX11_count_73 : decode cX11_count 73 = .ok (.ireturn, 1) := by decide +kernel
theorem dX11_count_74 : decode cX11_count 74 = .ok (.aload_n 0, 1) := by decide +kernel
theorem dX11_count_75 : decode cX11_count 75 = .ok (.getfield 16, 3) := by decide +kernel
theorem dX11_count_78 : decode cX11_count 78 = .ok (.getfield 359, 3) := by decide +kernel
theorem dX11_count_81 : decode cX11_count 81 = .ok (.ireturn, 1) := by decide +kernel
theorem dX11_count_82 : decode cX11_count 82 = .ok (.aload_n 0, 1) := by decide +kernel
theorem dX11_count_83 : decode cX11_count 83 = .ok (.getfield 42, 3) := by decide +kernel
theorem dX11_count_86 : decode cX11_count 86 = .ok (.ireturn, 1) := by decide +kernel
theorem dX11_count_87 : decode cX11_count 87 = .ok (.aload_n 0, 1) := by decide +kernel
theorem dX11_count_88 : decode cX11_count 88 = .ok (.getfield 48, 3) := by decide +kernel
theorem dX11_count_91 : decode cX11_count 91 = .ok (.getfield 362, 3) := by decide +kernel
theorem dX11_count_94 : decode cX11_count 94 = .ok (.ireturn, 1) := by decide +kernel
theorem dX11_count_95 : decode cX11_count 95 = .ok (.aload_n 0, 1) := by decide +kernel
theorem dX11_count_96 : decode cX11_count 96 = .ok (.getfield 55, 3) := by decide +kernel
theorem dX11_count_99 : decode cX11_count 99 = .ok (.getfield 337, 3) := by decide +kernel
theorem dX11_count_102 : decode cX11_count 102 = .ok (.ireturn, 1) := by decide +kernel
theorem dX11_count_103 : decode cX11_count 103 = .ok (.aload_n 0, 1) := by decide +kernel
theorem dX11_count_104 : decode cX11_count 104 = .ok (.invokevirtual 363, 3) := by decide +kernel
theorem dX11_count_107 : decode cX11_count 107 = .ok (.ireturn, 1) := by decide +kernel
theorem dX11_count_108 : decode cX11_count 108 = .ok (.aload_n 0, 1) := by decide +kernel
theorem dX11_count_109 : decode cX11_count 109 = .ok (.getfield 70, 3) := by decide +kernel
theorem dX11_count_112 : decode cX11_count 112 = .ok (.ireturn, 1) := by decide +kernel
theorem dX11_count_113 : decode cX11_count 113 = .ok (.aload_n 0, 1) := by decide +kernel
theorem dX11_count_114 : decode cX11_count 114 = .ok (.getfield 16, 3) := by decide +kernel
theorem dX11_count_117 : decode cX11_count 117 = .ok (.getfield 366, 3) := by decide +kernel
theorem dX11_count_120 : decode cX11_count 120 = .ok (.ireturn, 1) := by decide +kernel
theorem dX11_count_121 : decode cX11_count 121 = .ok (.iconst (-1), 1) := by decide +kernel
theorem dX11_count_122 : decode cX11_count 122 = .ok (.ireturn, 1) := by decide +kernel
theorem dX11_countFlying_0 : decode cX11_countFlying 0 = .ok (.iconst 0, 1) := by decide +kernel
theorem dX11_countFlying_1 : decode cX11_countFlying 1 = .ok (.istore_n 1, 1) := by decide +kernel
theorem dX11_countFlying_2 : decode cX11_countFlying 2 = .ok (.iconst 0, 1) := by decide +kernel
theorem dX11_countFlying_3 : decode cX11_countFlying 3 = .ok (.istore_n 2, 1) := by decide +kernel
theorem dX11_countFlying_4 : decode cX11_countFlying 4 = .ok (.iload_n 2, 1) := by decide +kernel
theorem dX11_countFlying_5 : decode cX11_countFlying 5 = .ok (.aload_n 0, 1) := by decide +kernel
theorem dX11_countFlying_6 : decode cX11_countFlying 6 = .ok (.getfield 33, 3) := by decide +kernel
theorem dX11_countFlying_9 : decode cX11_countFlying 9 = .ok (.if_icmp .ge 28, 3) := by decide +kernel
theorem dX11_countFlying_37 : decode cX11_countFlying 37 = .ok (.iload_n 1, 1) := by decide +kernel
theorem dX11_countFlying_38 : decode cX11_countFlying 38 = .ok (.ireturn, 1) := by decide +kernel
theorem dX11_cylinder_0 : decode cX11_cylinder 0 = .ok (.iload_n 1, 1) := by decide +kernel
theorem dX11_cylinder_1 : decode cX11_cylinder 1 = .ok (.iconst 1, 1) := by decide +kernel
theorem dX11_cylinder_2 : decode cX11_cylinder 2 = .ok (.sipush 1000, 3) := by decide +kernel
theorem dX11_cylinder_5 : decode cX11_cylinder 5 = .ok (.invokestatic 141, 3) := by decide +kernel
theorem dX11_cylinder_8 : decode cX11_cylinder 8 = .ok (.ifCond .eq 28, 3) := by decide +kernel
theorem dX11_cylinder_11 : decode cX11_cylinder 11 = .ok (.iload_n 2, 1) := by decide +kernel
theorem dX11_cylinder_12 : decode cX11_cylinder 12 = .ok (.iconst 1, 1) := by decide +kernel
theorem dX11_cylinder_13 : decode cX11_cylinder 13 = .ok (.bipush 100, 2) := by decide +kernel
theorem dX11_cylinder_15 : decode cX11_cylinder 15 = .ok (.invokestatic 141, 3) := by decide +kernel
theorem dX11_cylinder_18 : decode cX11_cylinder 18 = .ok (.ifCond .eq 18, 3) := by decide +kernel
theorem dX11_cylinder_21 : decode cX11_cylinder 21 = .ok (.iload_n 3, 1) := by decide +kernel
theorem dX11_cylinder_22 : decode cX11_cylinder 22 = .ok (.iconst 0, 1) := by decide +kernel
theorem dX11_cylinder_23 : decode cX11_cylinder 23 = .ok (.sipush 1000, 3) := by decide +kernel
theorem dX11_cylinder_26 : decode cX11_cylinder 26 = .ok (.invokestatic 141, 3) := by decide +kernel
theorem dX11_cylinder_29 : decode cX11_cylinder 29 = .ok (.ifCond .eq 7, 3) := by decide +kernel
theorem dX11_cylinder_32 : decode cX11_cylinder 32 = .ok (.iconst 1, 1) := by decide +kernel
theorem dX11_cylinder_33 : decode cX11_cylinder 33 = .ok (.goto 4, 3) := by decide +kernel
theorem dX11_cylinder_36 : decode cX11_cylinder 36 = .ok (.iconst 0, 1) := by decide +kernel
theorem dX11_cylinder_37 : decode cX11_cylinder 37 = .ok (.invokestatic 96, 3) := by decide +kernel
theorem dX11_cylinder_40 : decode cX11_cylinder 40 = .ok (.aload_n 0, 1) := by decide +kernel
theorem dX11_cylinder_41 : decode cX11_cylinder 41 = .ok (.getfield 23, 3) := by decide +kernel
theorem dX11_cylinder_44 : decode cX11_cylinder 44 = .ok (.iload_n 1, 1) := by decide +kernel
theorem dX11_cylinder_45 : decode cX11_cylinder 45 = .ok (.iload_n 2, 1) := by decide +kernel
theorem dX11_cylinder_46 : decode cX11_cylinder 46 = .ok (.iload_n 3, 1) := by decide +kernel
theorem dX11_cylinder_47 : decode cX11_cylinder 47 = .ok (.invokevirtual 155, 3) := by decide +kernel
theorem dX11_cylinder_50 : decode cX11_cylinder 50 = .ok (.ireturn, 1) := by decide +kernel
theorem dX11_enter_0 : decode cX11_enter 0 = .ok (.aload_n 0, 1) := by decide +kernel
theorem dX11_enter_1 : decode cX11_enter 1 = .ok (.iload_n 1, 1) := by decide +kernel
theorem dX11_enter_2 : decode cX11_enter 2 = .ok (.invokevirtual 176, 3) := by decide +kernel
theorem dX11_fault_0 : decode cX11_fault 0 = .ok (.aload_n 0, 1) := by decide +kernel
theorem dX11_fault_1 : decode cX11_fault 1 = .ok (.getfield 80, 3) := by decide +kernel
theorem dX11_fault_4 : decode cX11_fault 4 = .ok (.ireturn, 1) := by decide +kernel
theorem dX11_feed_0 : decode cX11_feed 0 = .ok (.aload_n 0, 1) := by decide +kernel
theorem dX11_feed_1 : decode cX11_feed 1 = .ok (.getfield 70, 3) := by decide +kernel
theorem dX11_feed_4 : decode cX11_feed 4 = .ok (.bipush 20, 2) := by decide +kernel
theorem dX11_feed_6 : decode cX11_feed 6 = .ok (.iadd, 1) := by decide +kernel
theorem dX11_feed_7 : decode cX11_feed 7 = .ok (.sipush 300, 3) := by decide +kernel
theorem dX11_feed_10 : decode cX11_feed 10 = .ok (.if_icmp .le 5, 3) := by decide +kernel
theorem dX11_feed_15 : decode cX11_feed 15 = .ok (.aload_n 0, 1) := by decide +kernel
theorem dX11_feed_16 : decode cX11_feed 16 = .ok (.iload_n 1, 1) := by decide +kernel
theorem dX11_feed_17 : decode cX11_feed 17 = .ok (.invokevirtual 247, 3) := by decide +kernel
theorem dX11_feed_20 : decode cX11_feed 20 = .ok (.aload_n 0, 1) := by decide +kernel
theorem dX11_feed_21 : decode cX11_feed 21 = .ok (.iload_n 2, 1) := by decide +kernel
theorem dX11_feed_22 : decode cX11_feed 22 = .ok (.invokevirtual 247, 3) := by decide +kernel
theorem dX11_feed_25 : decode cX11_feed 25 = .ok (.aload_n 0, 1) := by decide +kernel
theorem dX11_feed_26 : decode cX11_feed 26 = .ok (.iload_n 3, 1) := by decide +kernel
theorem dX11_feed_27 : decode cX11_feed 27 = .ok (.invokevirtual 247, 3) := by decide +kernel
theorem dX11_feed_30 : decode cX11_feed 30 = .ok (.aload_n 0, 1) := by decide +kernel
theorem dX11_feed_31 : decode cX11_feed 31 = .ok (.iload 4, 2) := by decide +kernel
theorem dX11_feed_33 : decode cX11_feed 33 = .ok (.invokevirtual 247, 3) := by decide +kernel
theorem dX11_feed_36 : decode cX11_feed 36 = .ok (.aload_n 0, 1) := by decide +kernel
theorem dX11_feed_37 : decode cX11_feed 37 = .ok (.iload 5, 2) := by decide +kernel
theorem dX11_feed_39 : decode cX11_feed 39 = .ok (.invokevirtual 247, 3) := by decide +kernel
theorem dX11_feed_42 : decode cX11_feed 42 = .ok (.aload_n 0, 1) := by decide +kernel
theorem dX11_feed_43 : decode cX11_feed 43 = .ok (.getfield 70, 3) := by decide +kernel
theorem dX11_feed_46 : decode cX11_feed 46 = .ok (.ireturn, 1) := by decide +kernel
theorem dX11_fill_0 : decode cX11_fill 0 = .ok (.aload_n 0, 1) := by decide +kernel
theorem dX11_fill_1 : decode cX11_fill 1 = .ok (.iload_n 1, 1) := by decide +kernel
theorem dX11_fill_2 : decode cX11_fill 2 = .ok (.invokevirtual 176, 3) := by decide +kernel
theorem dX11_fillable_0 : decode cX11_fillable 0 = .ok (.iload_n 1, 1) := by decide +kernel
theorem dX11_fillable_1 : decode cX11_fillable 1 = .ok (.iload_n 2, 1) := by decide +kernel
theorem dX11_fillable_2 : decode cX11_fillable 2 = .ok (.invokestatic 158, 3) := by decide +kernel
theorem dX11_fillable_5 : decode cX11_fillable 5 = .ok (.iload_n 3, 1) := by decide +kernel
theorem dX11_fillable_6 : decode cX11_fillable 6 = .ok (.iconst 0, 1) := by decide +kernel
theorem dX11_fillable_7 : decode cX11_fillable 7 = .ok (.iconst 3, 1) := by decide +kernel
theorem dX11_fillable_8 : decode cX11_fillable 8 = .ok (.invokestatic 141, 3) := by decide +kernel
theorem dX11_fillable_11 : decode cX11_fillable 11 = .ok (.invokestatic 96, 3) := by decide +kernel
theorem dX11_fillable_14 : decode cX11_fillable 14 = .ok (.aload_n 0, 1) := by decide +kernel
theorem dX11_fillable_15 : decode cX11_fillable 15 = .ok (.getfield 23, 3) := by decide +kernel
theorem dX11_fillable_18 : decode cX11_fillable 18 = .ok (.iload_n 1, 1) := by decide +kernel
theorem dX11_fillable_19 : decode cX11_fillable 19 = .ok (.iload_n 2, 1) := by decide +kernel
theorem dX11_fillable_20 : decode cX11_fillable 20 = .ok (.invokevirtual 161, 3) := by decide +kernel
theorem dX11_fillable_23 : decode cX11_fillable 23 = .ok (.ifCond .ne 5, 3) := by decide +kernel
theorem dX11_fillable_26 : decode cX11_fillable 26 = .ok (.iconst (-1), 1) := by decide +kernel
theorem dX11_fillable_27 : decode cX11_fillable 27 = .ok (.ireturn, 1) := by decide +kernel
theorem dX11_forecast_0 : decode cX11_forecast 0 = .ok (.iload_n 1, 1) := by decide +kernel
theorem dX11_forecast_1 : decode cX11_forecast 1 = .ok (.iload_n 2, 1) := by decide +kernel
theorem dX11_forecast_2 : decode cX11_forecast 2 = .ok (.invokestatic 86, 3) := by decide +kernel
theorem dX11_forecast_5 : decode cX11_forecast 5 = .ok (.ifCond .eq 26, 3) := by decide +kernel
theorem dX11_forecast_8 : decode cX11_forecast 8 = .ok (.iload_n 3, 1) := by decide +kernel
theorem dX11_forecast_9 : decode cX11_forecast 9 = .ok (.iload 4, 2) := by decide +kernel
theorem dX11_forecast_11 : decode cX11_forecast 11 = .ok (.invokestatic 90, 3) := by decide +kernel
theorem dX11_forecast_14 : decode cX11_forecast 14 = .ok (.ifCond .eq 17, 3) := by decide +kernel
theorem dX11_forecast_17 : decode cX11_forecast 17 = .ok (.iload 5, 2) := by decide +kernel
theorem dX11_forecast_19 : decode cX11_forecast 19 = .ok (.iload 6, 2) := by decide +kernel
theorem dX11_forecast_21 : decode cX11_forecast 21 = .ok (.invokestatic 93, 3) := by decide +kernel
theorem dX11_forecast_24 : decode cX11_forecast 24 = .ok (.ifCond .eq 7, 3) := by decide +kernel
theorem dX11_forecast_27 : decode cX11_forecast 27 = .ok (.iconst 1, 1) := by decide +kernel
theorem dX11_forecast_28 : decode cX11_forecast 28 = .ok (.goto 4, 3) := by decide +kernel
theorem dX11_forecast_31 : decode cX11_forecast 31 = .ok (.iconst 0, 1) := by decide +kernel
theorem dX11_forecast_32 : decode cX11_forecast 32 = .ok (.invokestatic 96, 3) := by decide +kernel
theorem dX11_forecast_35 : decode cX11_forecast 35 = .ok (.aload_n 0, 1) := by decide +kernel
theorem dX11_forecast_36 : decode cX11_forecast 36 = .ok (.getfield 16, 3) := by decide +kernel
theorem dX11_forecast_39 : decode cX11_forecast 39 = .ok (.new 114, 3) := by decide +kernel
theorem dX11_forecast_42 : decode cX11_forecast 42 = .ok (.dup, 1) := by decide +kernel
theorem dX11_forecast_43 : decode cX11_forecast 43 = .ok (.aload_n 0, 1) := by decide +kernel
theorem dX11_forecast_44 : decode cX11_forecast 44 = .ok (.getfield 7, 3) := by decide +kernel
theorem dX11_forecast_47 : decode cX11_forecast 47 = .ok (.iload_n 1, 1) := by decide +kernel
theorem dX11_forecast_48 : decode cX11_forecast 48 = .ok (.iload_n 2, 1) := by decide +kernel
theorem dX11_forecast_49 : decode cX11_forecast 49 = .ok (.invokestatic 100, 3) := by decide +kernel
theorem dX11_forecast_52 : decode cX11_forecast 52 = .ok (.iload_n 3, 1) := by decide +kernel
theorem dX11_forecast_53 : decode cX11_forecast 53 = .ok (.iload 4, 2) := by decide +kernel
theorem dX11_forecast_55 : decode cX11_forecast 55 = .ok (.iload 5, 2) := by decide +kernel
theorem dX11_forecast_57 : decode cX11_forecast 57 = .ok (.iload 6, 2) := by decide +kernel
theorem dX11_forecast_59 : decode cX11_forecast 59 = .ok (.invokestatic 104, 3) := by decide +kernel
theorem dX11_forecast_62 : decode cX11_forecast 62 = .ok (.invokespecial 116, 3) := by decide +kernel
theorem dX11_forecast_65 : decode cX11_forecast 65 = .ok (.invokevirtual 119, 3) := by decide +kernel
theorem dX11_forecast_68 : decode cX11_forecast 68 = .ok (.ireturn, 1) := by decide +kernel
theorem dX11_found_0 : decode cX11_found 0 = .ok (.iload_n 1, 1) := by decide +kernel
theorem dX11_found_1 : decode cX11_found 1 = .ok (.iload_n 2, 1) := by decide +kernel
theorem dX11_found_2 : decode cX11_found 2 = .ok (.invokestatic 86, 3) := by decide +kernel
theorem dX11_found_5 : decode cX11_found 5 = .ok (.ifCond .eq 14, 3) := by decide +kernel
theorem dX11_found_8 : decode cX11_found 8 = .ok (.iload_n 3, 1) := by decide +kernel
theorem dX11_found_9 : decode cX11_found 9 = .ok (.invokestatic 123, 3) := by decide +kernel
theorem dX11_found_12 : decode cX11_found 12 = .ok (.ifCond .eq 7, 3) := by decide +kernel
theorem dX11_found_15 : decode cX11_found 15 = .ok (.iconst 1, 1) := by decide +kernel
theorem dX11_found_16 : decode cX11_found 16 = .ok (.goto 4, 3) := by decide +kernel
theorem dX11_found_19 : decode cX11_found 19 = .ok (.iconst 0, 1) := by decide +kernel
theorem dX11_found_20 : decode cX11_found 20 = .ok (.invokestatic 96, 3) := by decide +kernel
theorem dX11_found_23 : decode cX11_found 23 = .ok (.iload_n 1, 1) := by decide +kernel
theorem dX11_found_24 : decode cX11_found 24 = .ok (.iload_n 2, 1) := by decide +kernel
theorem dX11_found_25 : decode cX11_found 25 = .ok (.invokestatic 100, 3) := by decide +kernel
theorem dX11_found_28 : decode cX11_found 28 = .ok (.istore 4, 2) := by decide +kernel
theorem dX11_found_30 : decode cX11_found 30 = .ok (.aload_n 0, 1) := by decide +kernel
theorem dX11_found_31 : decode cX11_found 31 = .ok (.getfield 16, 3) := by decide +kernel
theorem dX11_found_34 : decode cX11_found 34 = .ok (.iload 4, 2) := by decide +kernel
theorem dX11_found_36 : decode cX11_found 36 = .ok (.iload_n 3, 1) := by decide +kernel
theorem dX11_found_37 : decode cX11_found 37 = .ok (.invokevirtual 131, 3) := by decide +kernel
theorem dX11_found_40 : decode cX11_found 40 = .ok (.ifCond .eq 16, 3) := by decide +kernel
theorem dX11_found_56 : decode cX11_found 56 = .ok (.iconst (-1), 1) := by decide +kernel
theorem dX11_found_57 : decode cX11_found 57 = .ok (.ireturn, 1) := by decide +kernel
theorem dX11_home_0 : decode cX11_home 0 = .ok (.aload_n 0, 1) := by decide +kernel
theorem dX11_home_1 : decode cX11_home 1 = .ok (.iload_n 1, 1) := by decide +kernel
theorem dX11_home_2 : decode cX11_home 2 = .ok (.invokevirtual 176, 3) := by decide +kernel
theorem dX11_hours_0 : decode cX11_hours 0 = .ok (.iload_n 1, 1) := by decide +kernel
theorem dX11_hours_1 : decode cX11_hours 1 = .ok (.iconst 0, 1) := by decide +kernel
theorem dX11_hours_2 : decode cX11_hours 2 = .ok (.bipush 100, 2) := by decide +kernel
theorem dX11_hours_4 : decode cX11_hours 4 = .ok (.invokestatic 141, 3) := by decide +kernel
theorem dX11_hours_7 : decode cX11_hours 7 = .ok (.invokestatic 96, 3) := by decide +kernel
theorem dX11_hours_10 : decode cX11_hours 10 = .ok (.aload_n 0, 1) := by decide +kernel
theorem dX11_hours_11 : decode cX11_hours 11 = .ok (.getfield 7, 3) := by decide +kernel
theorem dX11_hours_14 : decode cX11_hours 14 = .ok (.iload_n 1, 1) := by decide +kernel
theorem dX11_hours_15 : decode cX11_hours 15 = .ok (.iadd, 1) := by decide +kernel
theorem dX11_hours_16 : decode cX11_hours 16 = .ok (.sipush 1000, 3) := by decide +kernel
theorem dX11_hours_19 : decode cX11_hours 19 = .ok (.if_icmp .le 14, 3) := by decide +kernel
theorem dX11_hours_33 : decode cX11_hours 33 = .ok (.iconst 0, 1) := by decide +kernel
theorem dX11_hours_34 : decode cX11_hours 34 = .ok (.istore_n 2, 1) := by decide +kernel
theorem dX11_hours_35 : decode cX11_hours 35 = .ok (.iload_n 2, 1) := by decide +kernel
theorem dX11_hours_36 : decode cX11_hours 36 = .ok (.iload_n 1, 1) := by decide +kernel
theorem dX11_hours_37 : decode cX11_hours 37 = .ok (.if_icmp .ge 61, 3) := by decide +kernel
theorem dX11_hours_40 : decode cX11_hours 40 = .ok (.iconst 0, 1) := by decide +kernel
theorem dX11_hours_41 : decode cX11_hours 41 = .ok (.istore_n 3, 1) := by decide +kernel
theorem dX11_hours_42 : decode cX11_hours 42 = .ok (.iload_n 3, 1) := by decide +kernel
theorem dX11_hours_43 : decode cX11_hours 43 = .ok (.aload_n 0, 1) := by decide +kernel
theorem dX11_hours_44 : decode cX11_hours 44 = .ok (.getfield 33, 3) := by decide +kernel
theorem dX11_hours_47 : decode cX11_hours 47 = .ok (.if_icmp .ge 35, 3) := by decide +kernel
theorem dX11_hours_82 : decode cX11_hours 82 = .ok (.aload_n 0, 1) := by decide +kernel
theorem dX11_hours_83 : decode cX11_hours 83 = .ok (.dup, 1) := by decide +kernel
theorem dX11_hours_84 : decode cX11_hours 84 = .ok (.getfield 7, 3) := by decide +kernel
theorem dX11_hours_87 : decode cX11_hours 87 = .ok (.iconst 1, 1) := by decide +kernel
theorem dX11_hours_88 : decode cX11_hours 88 = .ok (.iadd, 1) := by decide +kernel
theorem dX11_hours_89 : decode cX11_hours 89 = .ok (.putfield 7, 3) := by decide +kernel
theorem dX11_hours_92 : decode cX11_hours 92 = .ok (.iinc 2 1, 3) := by decide +kernel
theorem dX11_hours_95 : decode cX11_hours 95 = .ok (.goto (-60), 3) := by decide +kernel
theorem dX11_hours_98 : decode cX11_hours 98 = .ok (.aload_n 0, 1) := by decide +kernel
theorem dX11_hours_99 : decode cX11_hours 99 = .ok (.getfield 7, 3) := by decide +kernel
theorem dX11_hours_102 : decode cX11_hours 102 = .ok (.ireturn, 1) := by decide +kernel
theorem dX11_inspect_0 : decode cX11_inspect 0 = .ok (.aload_n 0, 1) := by decide +kernel
theorem dX11_inspect_1 : decode cX11_inspect 1 = .ok (.iload_n 1, 1) := by decide +kernel
theorem dX11_inspect_2 : decode cX11_inspect 2 = .ok (.invokevirtual 176, 3) := by decide +kernel
theorem dX11_leaks_0 : decode cX11_leaks 0 = .ok (.iload_n 1, 1) := by decide +kernel
theorem dX11_leaks_1 : decode cX11_leaks 1 = .ok (.iconst 0, 1) := by decide +kernel
theorem dX11_leaks_2 : decode cX11_leaks 2 = .ok (.iconst 2, 1) := by decide +kernel
theorem dX11_leaks_3 : decode cX11_leaks 3 = .ok (.invokestatic 141, 3) := by decide +kernel
theorem dX11_leaks_6 : decode cX11_leaks 6 = .ok (.invokestatic 96, 3) := by decide +kernel
theorem dX11_leaks_9 : decode cX11_leaks 9 = .ok (.iconst 0, 1) := by decide +kernel
theorem dX11_leaks_10 : decode cX11_leaks 10 = .ok (.istore_n 2, 1) := by decide +kernel
theorem dX11_leaks_11 : decode cX11_leaks 11 = .ok (.iconst (-1), 1) := by decide +kernel
theorem dX11_leaks_12 : decode cX11_leaks 12 = .ok (.istore_n 3, 1) := by decide +kernel
theorem dX11_leaks_13 : decode cX11_leaks 13 = .ok (.iconst (-1), 1) := by decide +kernel
theorem dX11_leaks_14 : decode cX11_leaks 14 = .ok (.istore 4, 2) := by decide +kernel
theorem dX11_leaks_16 : decode cX11_leaks 16 = .ok (.iconst 0, 1) := by decide +kernel
theorem dX11_leaks_17 : decode cX11_leaks 17 = .ok (.istore 5, 2) := by decide +kernel
theorem dX11_leaks_19 : decode cX11_leaks 19 = .ok (.iload 5, 2) := by decide +kernel
theorem dX11_leaks_21 : decode cX11_leaks 21 = .ok (.bipush 100, 2) := by decide +kernel
theorem dX11_leaks_23 : decode cX11_leaks 23 = .ok (.if_icmp .gt 40, 3) := by decide +kernel
theorem dX11_leaks_26 : decode cX11_leaks 26 = .ok (.aload_n 0, 1) := by decide +kernel
theorem dX11_leaks_27 : decode cX11_leaks 27 = .ok (.getfield 55, 3) := by decide +kernel
theorem dX11_leaks_30 : decode cX11_leaks 30 = .ok (.iload 5, 2) := by decide +kernel
theorem dX11_leaks_32 : decode cX11_leaks 32 = .ok (.invokevirtual 340, 3) := by decide +kernel
theorem dX11_leaks_35 : decode cX11_leaks 35 = .ok (.ifCond .eq 22, 3) := by decide +kernel
theorem dX11_leaks_57 : decode cX11_leaks 57 = .ok (.iinc 5 1, 3) := by decide +kernel
theorem dX11_leaks_60 : decode cX11_leaks 60 = .ok (.goto (-41), 3) := by decide +kernel
theorem dX11_leaks_63 : decode cX11_leaks 63 = .ok (.iload_n 1, 1) := by decide +kernel
theorem dX11_leaks_64 : decode cX11_leaks 64 = .ok (.ifCond .ne 5, 3) := by decide +kernel
theorem dX11_leaks_67 : decode cX11_leaks 67 = .ok (.iload_n 2, 1) := by decide +kernel
theorem dX11_leaks_68 : decode cX11_leaks 68 = .ok (.ireturn, 1) := by decide +kernel
theorem dX11_leaks_69 : decode cX11_leaks 69 = .ok (.iload_n 1, 1) := by decide +kernel
theorem dX11_leaks_70 : decode cX11_leaks 70 = .ok (.iconst 1, 1) := by decide +kernel
theorem dX11_leaks_71 : decode cX11_leaks 71 = .ok (.if_icmp .ne 7, 3) := by decide +kernel
theorem dX11_leaks_74 : decode cX11_leaks 74 = .ok (.iload_n 3, 1) := by decide +kernel
theorem dX11_leaks_75 : decode cX11_leaks 75 = .ok (.goto 5, 3) := by decide +kernel
theorem dX11_leaks_78 : decode cX11_leaks 78 = .ok (.iload 4, 2) := by decide +kernel
theorem dX11_leaks_80 : decode cX11_leaks 80 = .ok (.ireturn, 1) := by decide +kernel
