theorem dX12_act_0 : decode cX12_act 0 = .ok (.aload_n 0, 1) := by decide +kernel
theorem dX12_act_1 : decode cX12_act 1 = .ok (.iload_n 1, 1) := by decide +kernel
theorem dX12_act_2 : decode cX12_act 2 = .ok (.invokevirtual 288, 3) := by decide +kernel
theorem dX12_act_5 : decode cX12_act 5 = .ok (.ifCond .eq 36, 3) := by decide +kernel
theorem dX12_act_41 : decode cX12_act 41 = .ok (.iconst 0, 1) := by decide +kernel
theorem dX12_act_42 : decode cX12_act 42 = .ok (.ireturn, 1) := by decide +kernel
theorem dX12_bad_0 : decode cX12_bad 0 = .ok (.iload_n 1, 1) := by decide +kernel
theorem dX12_bad_1 : decode cX12_bad 1 = .ok (.ifCond .eq 8, 3) := by decide +kernel
theorem dX12_bad_4 : decode cX12_bad 4 = .ok (.aload_n 0, 1) := by decide +kernel
theorem dX12_bad_5 : decode cX12_bad 5 = .ok (.iload_n 2, 1) := by decide +kernel
theorem dX12_bad_6 : decode cX12_bad 6 = .ok (.putfield 210, 3) := by decide +kernel
theorem dX12_bad_9 : decode cX12_bad 9 = .ok (.iload_n 1, 1) := by decide +kernel
theorem dX12_bad_10 : decode cX12_bad 10 = .ok (.ireturn, 1) := by decide +kernel
theorem dX12_balloon_0 : decode cX12_balloon 0 = .ok (.aload_n 0, 1) := by decide +kernel
theorem dX12_balloon_1 : decode cX12_balloon 1 = .ok (.iconst 0, 1) := by decide +kernel
theorem dX12_balloon_2 : decode cX12_balloon 2 = .ok (.putfield 210, 3) := by decide +kernel
theorem dX12_balloon_5 : decode cX12_balloon 5 = .ok (.aload_n 0, 1) := by decide +kernel
theorem dX12_balloon_6 : decode cX12_balloon 6 = .ok (.iload_n 1, 1) := by decide +kernel
theorem dX12_balloon_7 : decode cX12_balloon 7 = .ok (.bipush 100, 2) := by decide +kernel
theorem dX12_balloon_9 : decode cX12_balloon 9 = .ok (.sipush 5000, 3) := by decide +kernel
theorem dX12_balloon_12 : decode cX12_balloon 12 = .ok (.invokestatic 213, 3) := by decide +kernel
theorem dX12_balloon_15 : decode cX12_balloon 15 = .ok (.ifCond .eq 15, 3) := by decide +kernel
theorem dX12_balloon_18 : decode cX12_balloon 18 = .ok (.iload_n 2, 1) := by decide +kernel
theorem dX12_balloon_19 : decode cX12_balloon 19 = .ok (.bipush 10, 2) := by decide +kernel
theorem dX12_balloon_21 : decode cX12_balloon 21 = .ok (.sipush 1000, 3) := by decide +kernel
theorem dX12_balloon_24 : decode cX12_balloon 24 = .ok (.invokestatic 213, 3) := by decide +kernel
theorem dX12_balloon_27 : decode cX12_balloon 27 = .ok (.ifCond .ne 7, 3) := by decide +kernel
theorem dX12_balloon_30 : decode cX12_balloon 30 = .ok (.iconst 1, 1) := by decide +kernel
theorem dX12_balloon_31 : decode cX12_balloon 31 = .ok (.goto 4, 3) := by decide +kernel
theorem dX12_balloon_34 : decode cX12_balloon 34 = .ok (.iconst 0, 1) := by decide +kernel
theorem dX12_balloon_35 : decode cX12_balloon 35 = .ok (.iconst 1, 1) := by decide +kernel
theorem dX12_balloon_36 : decode cX12_balloon 36 = .ok (.invokevirtual 225, 3) := by decide +kernel
theorem dX12_balloon_39 : decode cX12_balloon 39 = .ok (.ifCond .ne 25, 3) := by decide +kernel
theorem dX12_balloon_42 : decode cX12_balloon 42 = .ok (.aload_n 0, 1) := by decide +kernel
theorem dX12_balloon_43 : decode cX12_balloon 43 = .ok (.aload_n 0, 1) := by decide +kernel
theorem dX12_balloon_44 : decode cX12_balloon 44 = .ok (.getfield 250, 3) := by decide +kernel
theorem dX12_balloon_47 : decode cX12_balloon 47 = .ok (.bipush 6, 2) := by decide +kernel
theorem dX12_balloon_49 : decode cX12_balloon 49 = .ok (.if_icmp .ne 7, 3) := by decide +kernel
theorem dX12_balloon_56 : decode cX12_balloon 56 = .ok (.iconst 0, 1) := by decide +kernel
theorem dX12_balloon_57 : decode cX12_balloon 57 = .ok (.iconst 2, 1) := by decide +kernel
theorem dX12_balloon_58 : decode cX12_balloon 58 = .ok (.invokevirtual 225, 3) := by decide +kernel
theorem dX12_balloon_61 : decode cX12_balloon 61 = .ok (.ifCond .eq 5, 3) := by decide +kernel
theorem dX12_balloon_64 : decode cX12_balloon 64 = .ok (.iconst 0, 1) := by decide +kernel
theorem dX12_balloon_65 : decode cX12_balloon 65 = .ok (.ireturn, 1) := by decide +kernel
theorem dX12_balloon_66 : decode cX12_balloon 66 = .ok (.aload_n 0, 1) := by decide +kernel
theorem dX12_balloon_67 : decode cX12_balloon 67 = .ok (.getfield 45, 3) := by decide +kernel
theorem dX12_balloon_70 : decode cX12_balloon 70 = .ok (.aload_n 0, 1) := by decide +kernel
theorem dX12_balloon_71 : decode cX12_balloon 71 = .ok (.getfield 250, 3) := by decide +kernel
theorem dX12_balloon_74 : decode cX12_balloon 74 = .ok (.iload_n 1, 1) := by decide +kernel
theorem dX12_balloon_75 : decode cX12_balloon 75 = .ok (.iastore, 1) := by decide +kernel
theorem dX12_balloon_76 : decode cX12_balloon 76 = .ok (.aload_n 0, 1) := by decide +kernel
theorem dX12_balloon_77 : decode cX12_balloon 77 = .ok (.getfield 48, 3) := by decide +kernel
theorem dX12_balloon_80 : decode cX12_balloon 80 = .ok (.aload_n 0, 1) := by decide +kernel
theorem dX12_balloon_81 : decode cX12_balloon 81 = .ok (.getfield 250, 3) := by decide +kernel
theorem dX12_balloon_84 : decode cX12_balloon 84 = .ok (.iload_n 2, 1) := by decide +kernel
theorem dX12_balloon_85 : decode cX12_balloon 85 = .ok (.iastore, 1) := by decide +kernel
theorem dX12_balloon_86 : decode cX12_balloon 86 = .ok (.aload_n 0, 1) := by decide +kernel
theorem dX12_balloon_87 : decode cX12_balloon 87 = .ok (.getfield 99, 3) := by decide +kernel
theorem dX12_balloon_90 : decode cX12_balloon 90 = .ok (.aload_n 0, 1) := by decide +kernel
theorem dX12_balloon_91 : decode cX12_balloon 91 = .ok (.getfield 250, 3) := by decide +kernel
theorem dX12_balloon_94 : decode cX12_balloon 94 = .ok (.iconst (-1), 1) := by decide +kernel
theorem dX12_balloon_95 : decode cX12_balloon 95 = .ok (.iastore, 1) := by decide +kernel
theorem dX12_balloon_96 : decode cX12_balloon 96 = .ok (.aload_n 0, 1) := by decide +kernel
theorem dX12_balloon_97 : decode cX12_balloon 97 = .ok (.dup, 1) := by decide +kernel
theorem dX12_balloon_98 : decode cX12_balloon 98 = .ok (.getfield 250, 3) := by decide +kernel
theorem dX12_balloon_101 : decode cX12_balloon 101 = .ok (.iconst 1, 1) := by decide +kernel
theorem dX12_balloon_102 : decode cX12_balloon 102 = .ok (.iadd, 1) := by decide +kernel
theorem dX12_balloon_103 : decode cX12_balloon 103 = .ok (.putfield 250, 3) := by decide +kernel
theorem dX12_balloon_106 : decode cX12_balloon 106 = .ok (.aload_n 0, 1) := by decide +kernel
theorem dX12_balloon_107 : decode cX12_balloon 107 = .ok (.getfield 250, 3) := by decide +kernel
theorem dX12_balloon_110 : decode cX12_balloon 110 = .ok (.iconst 1, 1) := by decide +kernel
theorem dX12_balloon_111 : decode cX12_balloon 111 = .ok (.isub, 1) := by decide +kernel
theorem dX12_balloon_112 : decode cX12_balloon 112 = .ok (.ireturn, 1) := by decide +kernel
theorem dX12_castOf_0 : decode cX12_castOf 0 = .ok (.iconst (-1), 1) := by decide +kernel
theorem dX12_castOf_1 : decode cX12_castOf 1 = .ok (.istore 5, 2) := by decide +kernel
theorem dX12_castOf_3 : decode cX12_castOf 3 = .ok (.iconst 0, 1) := by decide +kernel
theorem dX12_castOf_4 : decode cX12_castOf 4 = .ok (.istore 6, 2) := by decide +kernel
theorem dX12_castOf_6 : decode cX12_castOf 6 = .ok (.iload 6, 2) := by decide +kernel
theorem dX12_castOf_8 : decode cX12_castOf 8 = .ok (.aload_n 0, 1) := by decide +kernel
theorem dX12_castOf_9 : decode cX12_castOf 9 = .ok (.getfield 236, 3) := by decide +kernel
theorem dX12_castOf_12 : decode cX12_castOf 12 = .ok (.if_icmp .ge 89, 3) := by decide +kernel
theorem dX12_castOf_101 : decode cX12_castOf 101 = .ok (.iload 5, 2) := by decide +kernel
theorem dX12_castOf_103 : decode cX12_castOf 103 = .ok (.ireturn, 1) := by decide +kernel
theorem dX12_clear_0 : decode cX12_clear 0 = .ok (.aload_n 0, 1) := by decide +kernel
theorem dX12_clear_1 : decode cX12_clear 1 = .ok (.iconst 0, 1) := by decide +kernel
theorem dX12_clear_2 : decode cX12_clear 2 = .ok (.putfield 210, 3) := by decide +kernel
theorem dX12_clear_5 : decode cX12_clear 5 = .ok (.aload_n 0, 1) := by decide +kernel
theorem dX12_clear_6 : decode cX12_clear 6 = .ok (.getfield 513, 3) := by decide +kernel
theorem dX12_clear_9 : decode cX12_clear 9 = .ok (.istore_n 1, 1) := by decide +kernel
theorem dX12_clear_10 : decode cX12_clear 10 = .ok (.aload_n 0, 1) := by decide +kernel
theorem dX12_clear_11 : decode cX12_clear 11 = .ok (.iconst 0, 1) := by decide +kernel
theorem dX12_clear_12 : decode cX12_clear 12 = .ok (.putfield 513, 3) := by decide +kernel
theorem dX12_clear_15 : decode cX12_clear 15 = .ok (.iload_n 1, 1) := by decide +kernel
theorem dX12_clear_16 : decode cX12_clear 16 = .ok (.ireturn, 1) := by decide +kernel
theorem dX12_cloud_0 : decode cX12_cloud 0 = .ok (.aload_n 0, 1) := by decide +kernel
theorem dX12_cloud_1 : decode cX12_cloud 1 = .ok (.iconst 0, 1) := by decide +kernel
theorem dX12_cloud_2 : decode cX12_cloud 2 = .ok (.putfield 210, 3) := by decide +kernel
theorem dX12_cloud_5 : decode cX12_cloud 5 = .ok (.aload_n 0, 1) := by decide +kernel
theorem dX12_cloud_6 : decode cX12_cloud 6 = .ok (.iload_n 1, 1) := by decide +kernel
theorem dX12_cloud_7 : decode cX12_cloud 7 = .ok (.iload_n 2, 1) := by decide +kernel
theorem dX12_cloud_8 : decode cX12_cloud 8 = .ok (.invokestatic 217, 3) := by decide +kernel
theorem dX12_cloud_11 : decode cX12_cloud 11 = .ok (.ifCond .ne 7, 3) := by decide +kernel
theorem dX12_cloud_14 : decode cX12_cloud 14 = .ok (.iconst 1, 1) := by decide +kernel
theorem dX12_cloud_15 : decode cX12_cloud 15 = .ok (.goto 4, 3) := by decide +kernel
theorem dX12_cloud_18 : decode cX12_cloud 18 = .ok (.iconst 0, 1) := by decide +kernel
theorem dX12_cloud_19 : decode cX12_cloud 19 = .ok (.iconst 1, 1) := by decide +kernel
theorem dX12_cloud_20 : decode cX12_cloud 20 = .ok (.invokevirtual 225, 3) := by decide +kernel
theorem dX12_cloud_23 : decode cX12_cloud 23 = .ok (.ifCond .eq 5, 3) := by decide +kernel
theorem dX12_cloud_26 : decode cX12_cloud 26 = .ok (.iconst 0, 1) := by decide +kernel
theorem dX12_cloud_27 : decode cX12_cloud 27 = .ok (.ireturn, 1) := by decide +kernel
theorem dX12_cloud_28 : decode cX12_cloud 28 = .ok (.iload_n 1, 1) := by decide +kernel
theorem dX12_cloud_29 : decode cX12_cloud 29 = .ok (.istore 4, 2) := by decide +kernel
theorem dX12_cloud_31 : decode cX12_cloud 31 = .ok (.iload 4, 2) := by decide +kernel
theorem dX12_cloud_33 : decode cX12_cloud 33 = .ok (.iload_n 1, 1) := by decide +kernel
theorem dX12_cloud_34 : decode cX12_cloud 34 = .ok (.iload_n 2, 1) := by decide +kernel
theorem dX12_cloud_35 : decode cX12_cloud 35 = .ok (.iadd, 1) := by decide +kernel
theorem dX12_cloud_36 : decode cX12_cloud 36 = .ok (.if_icmp .ge 17, 3) := by decide +kernel
theorem dX12_cloud_39 : decode cX12_cloud 39 = .ok (.aload_n 0, 1) := by decide +kernel
theorem dX12_cloud_40 : decode cX12_cloud 40 = .ok (.getfield 20, 3) := by decide +kernel
theorem dX12_cloud_43 : decode cX12_cloud 43 = .ok (.iload 4, 2) := by decide +kernel
theorem dX12_cloud_45 : decode cX12_cloud 45 = .ok (.iload_n 3, 1) := by decide +kernel
theorem dX12_cloud_46 : decode cX12_cloud 46 = .ok (.bastore, 1) := by decide +kernel
theorem dX12_cloud_47 : decode cX12_cloud 47 = .ok (.iinc 4 1, 3) := by decide +kernel
theorem dX12_cloud_50 : decode cX12_cloud 50 = .ok (.goto (-19), 3) := by decide +kernel
theorem dX12_cloud_53 : decode cX12_cloud 53 = .ok (.iconst 1, 1) := by decide +kernel
theorem dX12_cloud_54 : decode cX12_cloud 54 = .ok (.ireturn, 1) := by decide +kernel
theorem dX12_count_0 : decode cX12_count 0 = .ok (.aload_n 0, 1) := by decide +kernel
theorem dX12_count_1 : decode cX12_count 1 = .ok (.iconst 0, 1) := by decide +kernel
theorem dX12_count_2 : decode cX12_count 2 = .ok (.putfield 210, 3) := by decide +kernel
theorem dX12_count_5 : decode cX12_count 5 = .ok (.iconst 0, 1) := by decide +kernel
theorem dX12_count_6 : decode cX12_count 6 = .ok (.istore_n 2, 1) := by decide +kernel
theorem dX12_count_7 : decode cX12_count 7 = .ok (.iload_n 1, 1) := by decide +kernel
theorem dX12_count_8 : decode cX12_count 8 = .ok (.tableswitch 167 0 9 #[56, 61, 66, 101, 106, 111, 116, 121, 157, 162], 56) := by decide +kernel
theorem dX12_count_64 : decode cX12_count 64 = .ok (.aload_n 0, 1) := by decide +kernel
theorem dX12_count_65 : decode cX12_count 65 = .ok (.getfield 229, 3) := by decide +kernel
theorem dX12_count_68 : decode cX12_count 68 = .ok (.ireturn, 1) := by decide +kernel
theorem dX12_count_69 : decode cX12_count 69 = .ok (.aload_n 0, 1) := by decide +kernel
theorem dX12_count_70 : decode cX12_count 70 = .ok (.getfield 250, 3) := by decide +kernel
theorem dX12_count_73 : decode cX12_count 73 = .ok (.ireturn, 1) := by decide +kernel
theorem dX12_count_74 : decode cX12_count 74 = .ok (.iconst 0, 1) := by decide +kernel
theorem dX12_count_75 : decode cX12_count 75 = .ok (.istore_n 3, 1) := by decide +kernel
theorem dX12_count_76 : decode cX12_count 76 = .ok (.iload_n 3, 1) := by decide +kernel
theorem dX12_count_77 : decode cX12_count 77 = .ok (.aload_n 0, 1) := by decide +kernel
theorem dX12_count_78 : decode cX12_count 78 = .ok (.getfield 264, 3) := by decide +kernel
theorem dX12_count_81 : decode cX12_count 81 = .ok (.if_icmp .ge 26, 3) := by decide +kernel
theorem dX12_count_107 : decode cX12_count 107 = .ok (.iload_n 2, 1) := by decide +kernel
theorem dX12_count_108 : decode cX12_count 108 = .ok (.ireturn, 1) := by decide +kernel
theorem dX12_count_109 : decode cX12_count 109 = .ok (.aload_n 0, 1) := by decide +kernel
theorem dX12_count_110 : decode cX12_count 110 = .ok (.getfield 236, 3) := by decide +kernel
theorem dX12_count_113 : decode cX12_count 113 = .ok (.ireturn, 1) := by decide +kernel
theorem dX12_count_114 : decode cX12_count 114 = .ok (.aload_n 0, 1) := by decide +kernel
theorem dX12_count_115 : decode cX12_count 115 = .ok (.getfield 482, 3) := by decide +kernel
theorem dX12_count_118 : decode cX12_count 118 = .ok (.ireturn, 1) := by decide +kernel
theorem dX12_count_119 : decode cX12_count 119 = .ok (.aload_n 0, 1) := by decide +kernel
theorem dX12_count_120 : decode cX12_count 120 = .ok (.getfield 513, 3) := by decide +kernel
theorem dX12_count_123 : decode cX12_count 123 = .ok (.ireturn, 1) := by decide +kernel
theorem dX12_count_124 : decode cX12_count 124 = .ok (.aload_n 0, 1) := by decide +kernel
theorem dX12_count_125 : decode cX12_count 125 = .ok (.getfield 532, 3) := by decide +kernel
theorem dX12_count_128 : decode cX12_count 128 = .ok (.ireturn, 1) := by decide +kernel
theorem dX12_count_129 : decode cX12_count 129 = .ok (.iconst 0, 1) := by decide +kernel
theorem dX12_count_130 : decode cX12_count 130 = .ok (.istore_n 3, 1) := by decide +kernel
theorem dX12_count_131 : decode cX12_count 131 = .ok (.iload_n 3, 1) := by decide +kernel
theorem dX12_count_132 : decode cX12_count 132 = .ok (.aload_n 0, 1) := by decide +kernel
theorem dX12_count_133 : decode cX12_count 133 = .ok (.getfield 250, 3) := by decide +kernel
theorem dX12_count_136 : decode cX12_count 136 = .ok (.if_icmp .ge 27, 3) := by decide +kernel
theorem dX12_count_163 : decode cX12_count 163 = .ok (.iload_n 2, 1) := by decide +kernel
theorem dX12_count_164 : decode cX12_count 164 = .ok (.ireturn, 1) := by decide +kernel
theorem dX12_count_165 : decode cX12_count 165 = .ok (.aload_n 0, 1) := by decide +kernel
theorem dX12_count_166 : decode cX12_count 166 = .ok (.getfield 300, 3) := by decide +kernel
theorem dX12_count_169 : decode cX12_count 169 = .ok (.ireturn, 1) := by decide +kernel
theorem dX12_count_170 : decode cX12_count 170 = .ok (.aload_n 0, 1) := by decide +kernel
theorem dX12_count_171 : decode cX12_count 171 = .ok (.getfield 469, 3) := by decide +kernel
theorem dX12_count_174 : decode cX12_count 174 = .ok (.ireturn, 1) := by decide +kernel
theorem dX12_count_175 : decode cX12_count 175 = .ok (.iconst (-1), 1) := by decide +kernel
theorem dX12_count_176 : decode cX12_count 176 = .ok (.ireturn, 1) := by decide +kernel
theorem dX12_counts_0 : decode cX12_counts 0 = .ok (.aload_n 0, 1) := by decide +kernel
theorem dX12_counts_1 : decode cX12_counts 1 = .ok (.getfield 513, 3) := by decide +kernel
theorem dX12_counts_4 : decode cX12_counts 4 = .ok (.iconst 2, 1) := by decide +kernel
theorem dX12_counts_5 : decode cX12_counts 5 = .ok (.if_icmp .ge 5, 3) := by decide +kernel
theorem dX12_counts_8 : decode cX12_counts 8 = .ok (.iconst 0, 1) := by decide +kernel
theorem dX12_counts_9 : decode cX12_counts 9 = .ok (.ireturn, 1) := by decide +kernel
theorem dX12_cylinder_0 : decode cX12_cylinder 0 = .ok (.aload_n 0, 1) := by decide +kernel
theorem dX12_cylinder_1 : decode cX12_cylinder 1 = .ok (.iconst 0, 1) := by decide +kernel
theorem dX12_cylinder_2 : decode cX12_cylinder 2 = .ok (.putfield 210, 3) := by decide +kernel
theorem dX12_cylinder_5 : decode cX12_cylinder 5 = .ok (.aload_n 0, 1) := by decide +kernel
theorem dX12_cylinder_6 : decode cX12_cylinder 6 = .ok (.iload_n 1, 1) := by decide +kernel
theorem dX12_cylinder_7 : decode cX12_cylinder 7 = .ok (.iconst 1, 1) := by decide +kernel
theorem dX12_cylinder_8 : decode cX12_cylinder 8 = .ok (.sipush 1000, 3) := by decide +kernel
theorem dX12_cylinder_11 : decode cX12_cylinder 11 = .ok (.invokestatic 213, 3) := by decide +kernel
theorem dX12_cylinder_14 : decode cX12_cylinder 14 = .ok (.ifCond .eq 24, 3) := by decide +kernel
theorem dX12_cylinder_17 : decode cX12_cylinder 17 = .ok (.iload_n 2, 1) := by decide +kernel
theorem dX12_cylinder_18 : decode cX12_cylinder 18 = .ok (.iconst 1, 1) := by decide +kernel
theorem dX12_cylinder_19 : decode cX12_cylinder 19 = .ok (.bipush 100, 2) := by decide +kernel
theorem dX12_cylinder_21 : decode cX12_cylinder 21 = .ok (.invokestatic 213, 3) := by decide +kernel
theorem dX12_cylinder_24 : decode cX12_cylinder 24 = .ok (.ifCond .eq 14, 3) := by decide +kernel
theorem dX12_cylinder_27 : decode cX12_cylinder 27 = .ok (.iload_n 3, 1) := by decide +kernel
theorem dX12_cylinder_28 : decode cX12_cylinder 28 = .ok (.iconst 0, 1) := by decide +kernel
theorem dX12_cylinder_29 : decode cX12_cylinder 29 = .ok (.sipush 1000, 3) := by decide +kernel
theorem dX12_cylinder_32 : decode cX12_cylinder 32 = .ok (.invokestatic 213, 3) := by decide +kernel
theorem dX12_cylinder_35 : decode cX12_cylinder 35 = .ok (.ifCond .ne 7, 3) := by decide +kernel
theorem dX12_cylinder_38 : decode cX12_cylinder 38 = .ok (.iconst 1, 1) := by decide +kernel
theorem dX12_cylinder_39 : decode cX12_cylinder 39 = .ok (.goto 4, 3) := by decide +kernel
theorem dX12_cylinder_42 : decode cX12_cylinder 42 = .ok (.iconst 0, 1) := by decide +kernel
theorem dX12_cylinder_43 : decode cX12_cylinder 43 = .ok (.iconst 1, 1) := by decide +kernel
theorem dX12_cylinder_44 : decode cX12_cylinder 44 = .ok (.invokevirtual 225, 3) := by decide +kernel
theorem dX12_cylinder_47 : decode cX12_cylinder 47 = .ok (.ifCond .eq 5, 3) := by decide +kernel
theorem dX12_cylinder_50 : decode cX12_cylinder 50 = .ok (.iconst 0, 1) := by decide +kernel
theorem dX12_cylinder_51 : decode cX12_cylinder 51 = .ok (.ireturn, 1) := by decide +kernel
theorem dX12_cylinder_52 : decode cX12_cylinder 52 = .ok (.aload_n 0, 1) := by decide +kernel
theorem dX12_cylinder_53 : decode cX12_cylinder 53 = .ok (.getfield 264, 3) := by decide +kernel
theorem dX12_cylinder_56 : decode cX12_cylinder 56 = .ok (.bipush 10, 2) := by decide +kernel
theorem dX12_cylinder_58 : decode cX12_cylinder 58 = .ok (.if_icmp .ne 5, 3) := by decide +kernel
theorem dX12_cylinder_63 : decode cX12_cylinder 63 = .ok (.aload_n 0, 1) := by decide +kernel
theorem dX12_cylinder_64 : decode cX12_cylinder 64 = .ok (.getfield 105, 3) := by decide +kernel
theorem dX12_cylinder_67 : decode cX12_cylinder 67 = .ok (.aload_n 0, 1) := by decide +kernel
theorem dX12_cylinder_68 : decode cX12_cylinder 68 = .ok (.getfield 264, 3) := by decide +kernel
theorem dX12_cylinder_71 : decode cX12_cylinder 71 = .ok (.iload_n 1, 1) := by decide +kernel
theorem dX12_cylinder_72 : decode cX12_cylinder 72 = .ok (.iastore, 1) := by decide +kernel
theorem dX12_cylinder_73 : decode cX12_cylinder 73 = .ok (.aload_n 0, 1) := by decide +kernel
theorem dX12_cylinder_74 : decode cX12_cylinder 74 = .ok (.getfield 108, 3) := by decide +kernel
theorem dX12_cylinder_77 : decode cX12_cylinder 77 = .ok (.aload_n 0, 1) := by decide +kernel
theorem dX12_cylinder_78 : decode cX12_cylinder 78 = .ok (.getfield 264, 3) := by decide +kernel
theorem dX12_cylinder_81 : decode cX12_cylinder 81 = .ok (.iload_n 2, 1) := by decide +kernel
theorem dX12_cylinder_82 : decode cX12_cylinder 82 = .ok (.iastore, 1) := by decide +kernel
theorem dX12_cylinder_83 : decode cX12_cylinder 83 = .ok (.aload_n 0, 1) := by decide +kernel
theorem dX12_cylinder_84 : decode cX12_cylinder 84 = .ok (.getfield 111, 3) := by decide +kernel
theorem dX12_cylinder_87 : decode cX12_cylinder 87 = .ok (.aload_n 0, 1) := by decide +kernel
theorem dX12_cylinder_88 : decode cX12_cylinder 88 = .ok (.getfield 264, 3) := by decide +kernel
theorem dX12_cylinder_91 : decode cX12_cylinder 91 = .ok (.iload_n 3, 1) := by decide +kernel
theorem dX12_cylinder_92 : decode cX12_cylinder 92 = .ok (.iastore, 1) := by decide +kernel
theorem dX12_cylinder_93 : decode cX12_cylinder 93 = .ok (.aload_n 0, 1) := by decide +kernel
theorem dX12_cylinder_94 : decode cX12_cylinder 94 = .ok (.dup, 1) := by decide +kernel
theorem dX12_cylinder_95 : decode cX12_cylinder 95 = .ok (.getfield 264, 3) := by decide +kernel
theorem dX12_cylinder_98 : decode cX12_cylinder 98 = .ok (.iconst 1, 1) := by decide +kernel
theorem dX12_cylinder_99 : decode cX12_cylinder 99 = .ok (.iadd, 1) := by decide +kernel
theorem dX12_cylinder_100 : decode cX12_cylinder 100 = .ok (.putfield 264, 3) := by decide +kernel
theorem dX12_cylinder_103 : decode cX12_cylinder 103 = .ok (.aload_n 0, 1) := by decide +kernel
theorem dX12_cylinder_104 : decode cX12_cylinder 104 = .ok (.getfield 264, 3) := by decide +kernel
theorem dX12_cylinder_107 : decode cX12_cylinder 107 = .ok (.iconst 1, 1) := by decide +kernel
theorem dX12_cylinder_108 : decode cX12_cylinder 108 = .ok (.isub, 1) := by decide +kernel
theorem dX12_cylinder_109 : decode cX12_cylinder 109 = .ok (.ireturn, 1) := by decide +kernel
theorem dX12_enter_0 : decode cX12_enter 0 = .ok (.aload_n 0, 1) := by decide +kernel
theorem dX12_enter_1 : decode cX12_enter 1 = .ok (.iload_n 1, 1) := by decide +kernel
theorem dX12_enter_2 : decode cX12_enter 2 = .ok (.invokevirtual 288, 3) := by decide +kernel
theorem dX12_enter_5 : decode cX12_enter 5 = .ok (.ifCond .ne 5, 3) := by decide +kernel
theorem dX12_enter_8 : decode cX12_enter 8 = .ok (.iconst 0, 1) := by decide +kernel
theorem dX12_enter_9 : decode cX12_enter 9 = .ok (.ireturn, 1) := by decide +kernel
theorem dX12_fault_0 : decode cX12_fault 0 = .ok (.aload_n 0, 1) := by decide +kernel
theorem dX12_fault_1 : decode cX12_fault 1 = .ok (.iconst 0, 1) := by decide +kernel
theorem dX12_fault_2 : decode cX12_fault 2 = .ok (.putfield 210, 3) := by decide +kernel
theorem dX12_fault_5 : decode cX12_fault 5 = .ok (.aload_n 0, 1) := by decide +kernel
theorem dX12_fault_6 : decode cX12_fault 6 = .ok (.getfield 120, 3) := by decide +kernel
theorem dX12_fault_9 : decode cX12_fault 9 = .ok (.ireturn, 1) := by decide +kernel
theorem dX12_feed_0 : decode cX12_feed 0 = .ok (.aload_n 0, 1) := by decide +kernel
theorem dX12_feed_1 : decode cX12_feed 1 = .ok (.iconst 0, 1) := by decide +kernel
theorem dX12_feed_2 : decode cX12_feed 2 = .ok (.putfield 210, 3) := by decide +kernel
theorem dX12_feed_5 : decode cX12_feed 5 = .ok (.aload_n 0, 1) := by decide +kernel
theorem dX12_feed_6 : decode cX12_feed 6 = .ok (.getfield 300, 3) := by decide +kernel
theorem dX12_feed_9 : decode cX12_feed 9 = .ok (.bipush 20, 2) := by decide +kernel
theorem dX12_feed_11 : decode cX12_feed 11 = .ok (.iadd, 1) := by decide +kernel
theorem dX12_feed_12 : decode cX12_feed 12 = .ok (.sipush 300, 3) := by decide +kernel
theorem dX12_feed_15 : decode cX12_feed 15 = .ok (.if_icmp .le 5, 3) := by decide +kernel
theorem dX12_feed_20 : decode cX12_feed 20 = .ok (.iconst 0, 1) := by decide +kernel
theorem dX12_feed_21 : decode cX12_feed 21 = .ok (.istore 6, 2) := by decide +kernel
theorem dX12_feed_23 : decode cX12_feed 23 = .ok (.iload 6, 2) := by decide +kernel
theorem dX12_feed_25 : decode cX12_feed 25 = .ok (.iconst 5, 1) := by decide +kernel
theorem dX12_feed_26 : decode cX12_feed 26 = .ok (.if_icmp .ge 93, 3) := by decide +kernel
theorem dX12_feed_29 : decode cX12_feed 29 = .ok (.iload 6, 2) := by decide +kernel
theorem dX12_feed_31 : decode cX12_feed 31 = .ok (.ifCond .ne 7, 3) := by decide +kernel
theorem dX12_feed_34 : decode cX12_feed 34 = .ok (.iload_n 1, 1) := by decide +kernel
theorem dX12_feed_35 : decode cX12_feed 35 = .ok (.goto 36, 3) := by decide +kernel
theorem dX12_feed_38 : decode cX12_feed 38 = .ok (.iload 6, 2) := by decide +kernel
theorem dX12_feed_40 : decode cX12_feed 40 = .ok (.iconst 1, 1) := by decide +kernel
theorem dX12_feed_41 : decode cX12_feed 41 = .ok (.if_icmp .ne 7, 3) := by decide +kernel
theorem dX12_feed_44 : decode cX12_feed 44 = .ok (.iload_n 2, 1) := by decide +kernel
theorem dX12_feed_45 : decode cX12_feed 45 = .ok (.goto 26, 3) := by decide +kernel
theorem dX12_feed_48 : decode cX12_feed 48 = .ok (.iload 6, 2) := by decide +kernel
theorem dX12_feed_50 : decode cX12_feed 50 = .ok (.iconst 2, 1) := by decide +kernel
theorem dX12_feed_51 : decode cX12_feed 51 = .ok (.if_icmp .ne 7, 3) := by decide +kernel
theorem dX12_feed_54 : decode cX12_feed 54 = .ok (.iload_n 3, 1) := by decide +kernel
theorem dX12_feed_55 : decode cX12_feed 55 = .ok (.goto 16, 3) := by decide +kernel
theorem dX12_feed_58 : decode cX12_feed 58 = .ok (.iload 6, 2) := by decide +kernel
theorem dX12_feed_60 : decode cX12_feed 60 = .ok (.iconst 3, 1) := by decide +kernel
theorem dX12_feed_61 : decode cX12_feed 61 = .ok (.if_icmp .ne 8, 3) := by decide +kernel
theorem dX12_feed_64 : decode cX12_feed 64 = .ok (.iload 4, 2) := by decide +kernel
theorem dX12_feed_66 : decode cX12_feed 66 = .ok (.goto 5, 3) := by decide +kernel
theorem dX12_feed_69 : decode cX12_feed 69 = .ok (.iload 5, 2) := by decide +kernel
theorem dX12_feed_71 : decode cX12_feed 71 = .ok (.istore 7, 2) := by decide +kernel
theorem dX12_feed_73 : decode cX12_feed 73 = .ok (.bipush 24, 2) := by decide +kernel
theorem dX12_feed_75 : decode cX12_feed 75 = .ok (.istore 8, 2) := by decide +kernel
theorem dX12_feed_77 : decode cX12_feed 77 = .ok (.iload 8, 2) := by decide +kernel
theorem dX12_feed_79 : decode cX12_feed 79 = .ok (.ifCond .lt 34, 3) := by decide +kernel
theorem dX12_feed_82 : decode cX12_feed 82 = .ok (.aload_n 0, 1) := by decide +kernel
theorem dX12_feed_83 : decode cX12_feed 83 = .ok (.getfield 117, 3) := by decide +kernel
theorem dX12_feed_86 : decode cX12_feed 86 = .ok (.aload_n 0, 1) := by decide +kernel
theorem dX12_feed_87 : decode cX12_feed 87 = .ok (.getfield 300, 3) := by decide +kernel
theorem dX12_feed_90 : decode cX12_feed 90 = .ok (.iload 7, 2) := by decide +kernel
theorem dX12_feed_92 : decode cX12_feed 92 = .ok (.iload 8, 2) := by decide +kernel
theorem dX12_feed_94 : decode cX12_feed 94 = .ok (.ishr, 1) := by decide +kernel
theorem dX12_feed_95 : decode cX12_feed 95 = .ok (.i2b, 1) := by decide +kernel
theorem dX12_feed_96 : decode cX12_feed 96 = .ok (.bastore, 1) := by decide +kernel
theorem dX12_feed_97 : decode cX12_feed 97 = .ok (.aload_n 0, 1) := by decide +kernel
theorem dX12_feed_98 : decode cX12_feed 98 = .ok (.dup, 1) := by decide +kernel
theorem dX12_feed_99 : decode cX12_feed 99 = .ok (.getfield 300, 3) := by decide +kernel
theorem dX12_feed_102 : decode cX12_feed 102 = .ok (.iconst 1, 1) := by decide +kernel
theorem dX12_feed_103 : decode cX12_feed 103 = .ok (.iadd, 1) := by decide +kernel
theorem dX12_feed_104 : decode cX12_feed 104 = .ok (.putfield 300, 3) := by decide +kernel
theorem dX12_feed_107 : decode cX12_feed 107 = .ok (.iinc 8 (-8), 3) := by decide +kernel
theorem dX12_feed_110 : decode cX12_feed 110 = .ok (.goto (-33), 3) := by decide +kernel
theorem dX12_feed_113 : decode cX12_feed 113 = .ok (.iinc 6 1, 3) := by decide +kernel
theorem dX12_feed_116 : decode cX12_feed 116 = .ok (.goto (-93), 3) := by decide +kernel
theorem dX12_feed_119 : decode cX12_feed 119 = .ok (.aload_n 0, 1) := by decide +kernel
theorem dX12_feed_120 : decode cX12_feed 120 = .ok (.getfield 300, 3) := by decide +kernel
theorem dX12_feed_123 : decode cX12_feed 123 = .ok (.ireturn, 1) := by decide +kernel
theorem dX12_fill_0 : decode cX12_fill 0 = .ok (.aload_n 0, 1) := by decide +kernel
theorem dX12_fill_1 : decode cX12_fill 1 = .ok (.iload_n 1, 1) := by decide +kernel
theorem dX12_fill_2 : decode cX12_fill 2 = .ok (.invokevirtual 288, 3) := by decide +kernel
theorem dX12_fill_5 : decode cX12_fill 5 = .ok (.ifCond .eq 24, 3) := by decide +kernel
theorem dX12_fill_29 : decode cX12_fill 29 = .ok (.iconst 0, 1) := by decide +kernel
theorem dX12_fill_30 : decode cX12_fill 30 = .ok (.ireturn, 1) := by decide +kernel
theorem dX12_fillable_0 : decode cX12_fillable 0 = .ok (.aload_n 0, 1) := by decide +kernel
theorem dX12_fillable_1 : decode cX12_fillable 1 = .ok (.iconst 0, 1) := by decide +kernel
theorem dX12_fillable_2 : decode cX12_fillable 2 = .ok (.putfield 210, 3) := by decide +kernel
theorem dX12_fillable_5 : decode cX12_fillable 5 = .ok (.aload_n 0, 1) := by decide +kernel
theorem dX12_fillable_6 : decode cX12_fillable 6 = .ok (.iload_n 1, 1) := by decide +kernel
theorem dX12_fillable_7 : decode cX12_fillable 7 = .ok (.iload_n 2, 1) := by decide +kernel
theorem dX12_fillable_8 : decode cX12_fillable 8 = .ok (.invokestatic 282, 3) := by decide +kernel
theorem dX12_fillable_11 : decode cX12_fillable 11 = .ok (.ifCond .eq 12, 3) := by decide +kernel
theorem dX12_fillable_14 : decode cX12_fillable 14 = .ok (.iload_n 3, 1) := by decide +kernel
theorem dX12_fillable_15 : decode cX12_fillable 15 = .ok (.iconst 0, 1) := by decide +kernel
theorem dX12_fillable_16 : decode cX12_fillable 16 = .ok (.iconst 3, 1) := by decide +kernel
theorem dX12_fillable_17 : decode cX12_fillable 17 = .ok (.invokestatic 213, 3) := by decide +kernel
theorem dX12_fillable_20 : decode cX12_fillable 20 = .ok (.ifCond .ne 7, 3) := by decide +kernel
theorem dX12_fillable_23 : decode cX12_fillable 23 = .ok (.iconst 1, 1) := by decide +kernel
theorem dX12_fillable_24 : decode cX12_fillable 24 = .ok (.goto 4, 3) := by decide +kernel
theorem dX12_fillable_27 : decode cX12_fillable 27 = .ok (.iconst 0, 1) := by decide +kernel
theorem dX12_fillable_28 : decode cX12_fillable 28 = .ok (.iconst 1, 1) := by decide +kernel
theorem dX12_fillable_29 : decode cX12_fillable 29 = .ok (.invokevirtual 225, 3) := by decide +kernel
theorem dX12_fillable_32 : decode cX12_fillable 32 = .ok (.ifCond .eq 5, 3) := by decide +kernel
theorem dX12_fillable_35 : decode cX12_fillable 35 = .ok (.iconst 0, 1) := by decide +kernel
theorem dX12_fillable_36 : decode cX12_fillable 36 = .ok (.ireturn, 1) := by decide +kernel
theorem dX12_fillable_37 : decode cX12_fillable 37 = .ok (.aload_n 0, 1) := by decide +kernel
theorem dX12_fillable_38 : decode cX12_fillable 38 = .ok (.iload_n 1, 1) := by decide +kernel
theorem dX12_fillable_39 : decode cX12_fillable 39 = .ok (.iload_n 2, 1) := by decide +kernel
theorem dX12_fillable_40 : decode cX12_fillable 40 = .ok (.invokevirtual 285, 3) := by decide +kernel
theorem dX12_fillable_43 : decode cX12_fillable 43 = .ok (.ifCond .ne 5, 3) := by decide +kernel
theorem dX12_fillable_46 : decode cX12_fillable 46 = .ok (.iconst (-1), 1) := by decide +kernel
theorem dX12_fillable_47 : decode cX12_fillable 47 = .ok (.ireturn, 1) := by decide +kernel
theorem dX12_fills_0 : decode cX12_fills 0 = .ok (.aload_n 0, 1) := by decide +kernel
theorem dX12_fills_1 : decode cX12_fills 1 = .ok (.iconst 0, 1) := by decide +kernel
theorem dX12_fills_2 : decode cX12_fills 2 = .ok (.putfield 267, 3) := by decide +kernel
theorem dX12_fills_5 : decode cX12_fills 5 = .ok (.iconst 1, 1) := by decide +kernel
theorem dX12_fills_6 : decode cX12_fills 6 = .ok (.istore_n 3, 1) := by decide +kernel
theorem dX12_fills_7 : decode cX12_fills 7 = .ok (.iload_n 3, 1) := by decide +kernel
theorem dX12_fills_8 : decode cX12_fills 8 = .ok (.iconst 1, 1) := by decide +kernel
theorem dX12_fills_9 : decode cX12_fills 9 = .ok (.aload_n 0, 1) := by decide +kernel
theorem dX12_fills_10 : decode cX12_fills 10 = .ok (.getfield 264, 3) := by decide +kernel
theorem dX12_fills_13 : decode cX12_fills 13 = .ok (.ishl, 1) := by decide +kernel
theorem dX12_fills_14 : decode cX12_fills 14 = .ok (.if_icmp .ge 205, 3) := by decide +kernel
theorem dX12_fills_219 : decode cX12_fills 219 = .ok (.aload_n 0, 1) := by decide +kernel
theorem dX12_fills_220 : decode cX12_fills 220 = .ok (.getfield 267, 3) := by decide +kernel
theorem dX12_fills_223 : decode cX12_fills 223 = .ok (.ifCond .le 7, 3) := by decide +kernel
theorem dX12_fills_230 : decode cX12_fills 230 = .ok (.iconst 0, 1) := by decide +kernel
theorem dX12_fills_231 : decode cX12_fills 231 = .ok (.ireturn, 1) := by decide +kernel
theorem dX12_forecast_0 : decode cX12_forecast 0 = .ok (.aload_n 0, 1) := by decide +kernel
theorem dX12_forecast_1 : decode cX12_forecast 1 = .ok (.iconst 0, 1) := by decide +kernel
theorem dX12_forecast_2 : decode cX12_forecast 2 = .ok (.putfield 210, 3) := by decide +kernel
theorem dX12_forecast_5 : decode cX12_forecast 5 = .ok (.aload_n 0, 1) := by decide +kernel
theorem dX12_forecast_6 : decode cX12_forecast 6 = .ok (.iload_n 1, 1) := by decide +kernel
theorem dX12_forecast_7 : decode cX12_forecast 7 = .ok (.iload_n 2, 1) := by decide +kernel
theorem dX12_forecast_8 : decode cX12_forecast 8 = .ok (.iload_n 3, 1) := by decide +kernel
theorem dX12_forecast_9 : decode cX12_forecast 9 = .ok (.iload 4, 2) := by decide +kernel
theorem dX12_forecast_11 : decode cX12_forecast 11 = .ok (.iload 5, 2) := by decide +kernel
theorem dX12_forecast_13 : decode cX12_forecast 13 = .ok (.iload 6, 2) := by decide +kernel
theorem dX12_forecast_15 : decode cX12_forecast 15 = .ok (.invokestatic 221, 3) := by decide +kernel
theorem dX12_forecast_18 : decode cX12_forecast 18 = .ok (.ifCond .ne 7, 3) := by decide +kernel
theorem dX12_forecast_21 : decode cX12_forecast 21 = .ok (.iconst 1, 1) := by decide +kernel
theorem dX12_forecast_22 : decode cX12_forecast 22 = .ok (.goto 4, 3) := by decide +kernel
theorem dX12_forecast_25 : decode cX12_forecast 25 = .ok (.iconst 0, 1) := by decide +kernel
theorem dX12_forecast_26 : decode cX12_forecast 26 = .ok (.iconst 1, 1) := by decide +kernel
theorem dX12_forecast_27 : decode cX12_forecast 27 = .ok (.invokevirtual 225, 3) := by decide +kernel
theorem dX12_forecast_30 : decode cX12_forecast 30 = .ok (.ifCond .eq 5, 3) := by decide +kernel
theorem dX12_forecast_33 : decode cX12_forecast 33 = .ok (.iconst 0, 1) := by decide +kernel
theorem dX12_forecast_34 : decode cX12_forecast 34 = .ok (.ireturn, 1) := by decide +kernel
theorem dX12_forecast_35 : decode cX12_forecast 35 = .ok (.aload_n 0, 1) := by decide +kernel
theorem dX12_forecast_36 : decode cX12_forecast 36 = .ok (.getfield 236, 3) := by decide +kernel
theorem dX12_forecast_39 : decode cX12_forecast 39 = .ok (.bipush 100, 2) := by decide +kernel
theorem dX12_forecast_41 : decode cX12_forecast 41 = .ok (.if_icmp .ne 5, 3) := by decide +kernel
theorem dX12_forecast_46 : decode cX12_forecast 46 = .ok (.aload_n 0, 1) := by decide +kernel
theorem dX12_forecast_47 : decode cX12_forecast 47 = .ok (.getfield 23, 3) := by decide +kernel
theorem dX12_forecast_50 : decode cX12_forecast 50 = .ok (.aload_n 0, 1) := by decide +kernel
theorem dX12_forecast_51 : decode cX12_forecast 51 = .ok (.getfield 236, 3) := by decide +kernel
theorem dX12_forecast_54 : decode cX12_forecast 54 = .ok (.iload_n 1, 1) := by decide +kernel
theorem dX12_forecast_55 : decode cX12_forecast 55 = .ok (.iastore, 1) := by decide +kernel
theorem dX12_forecast_56 : decode cX12_forecast 56 = .ok (.aload_n 0, 1) := by decide +kernel
theorem dX12_forecast_57 : decode cX12_forecast 57 = .ok (.getfield 27, 3) := by decide +kernel
theorem dX12_forecast_60 : decode cX12_forecast 60 = .ok (.aload_n 0, 1) := by decide +kernel
theorem dX12_forecast_61 : decode cX12_forecast 61 = .ok (.getfield 236, 3) := by decide +kernel
theorem dX12_forecast_64 : decode cX12_forecast 64 = .ok (.iload_n 2, 1) := by decide +kernel
theorem dX12_forecast_65 : decode cX12_forecast 65 = .ok (.iastore, 1) := by decide +kernel
theorem dX12_forecast_66 : decode cX12_forecast 66 = .ok (.aload_n 0, 1) := by decide +kernel
theorem dX12_forecast_67 : decode cX12_forecast 67 = .ok (.getfield 30, 3) := by decide +kernel
theorem dX12_forecast_70 : decode cX12_forecast 70 = .ok (.aload_n 0, 1) := by decide +kernel
theorem dX12_forecast_71 : decode cX12_forecast 71 = .ok (.getfield 236, 3) := by decide +kernel
theorem dX12_forecast_74 : decode cX12_forecast 74 = .ok (.iload_n 3, 1) := by decide +kernel
theorem dX12_forecast_75 : decode cX12_forecast 75 = .ok (.iastore, 1) := by decide +kernel
theorem dX12_forecast_76 : decode cX12_forecast 76 = .ok (.aload_n 0, 1) := by decide +kernel
theorem dX12_forecast_77 : decode cX12_forecast 77 = .ok (.getfield 33, 3) := by decide +kernel
theorem dX12_forecast_80 : decode cX12_forecast 80 = .ok (.aload_n 0, 1) := by decide +kernel
theorem dX12_forecast_81 : decode cX12_forecast 81 = .ok (.getfield 236, 3) := by decide +kernel
theorem dX12_forecast_84 : decode cX12_forecast 84 = .ok (.iload 4, 2) := by decide +kernel
theorem dX12_forecast_86 : decode cX12_forecast 86 = .ok (.iastore, 1) := by decide +kernel
theorem dX12_forecast_87 : decode cX12_forecast 87 = .ok (.aload_n 0, 1) := by decide +kernel
theorem dX12_forecast_88 : decode cX12_forecast 88 = .ok (.getfield 36, 3) := by decide +kernel
theorem dX12_forecast_91 : decode cX12_forecast 91 = .ok (.aload_n 0, 1) := by decide +kernel
theorem dX12_forecast_92 : decode cX12_forecast 92 = .ok (.getfield 236, 3) := by decide +kernel
theorem dX12_forecast_95 : decode cX12_forecast 95 = .ok (.iload 5, 2) := by decide +kernel
theorem dX12_forecast_97 : decode cX12_forecast 97 = .ok (.iastore, 1) := by decide +kernel
theorem dX12_forecast_98 : decode cX12_forecast 98 = .ok (.aload_n 0, 1) := by decide +kernel
theorem dX12_forecast_99 : decode cX12_forecast 99 = .ok (.getfield 39, 3) := by decide +kernel
theorem dX12_forecast_102 : decode cX12_forecast 102 = .ok (.aload_n 0, 1) := by decide +kernel
theorem dX12_forecast_103 : decode cX12_forecast 103 = .ok (.getfield 236, 3) := by decide +kernel
theorem dX12_forecast_106 : decode cX12_forecast 106 = .ok (.iload 6, 2) := by decide +kernel
theorem dX12_forecast_108 : decode cX12_forecast 108 = .ok (.iastore, 1) := by decide +kernel
theorem dX12_forecast_109 : decode cX12_forecast 109 = .ok (.aload_n 0, 1) := by decide +kernel
theorem dX12_forecast_110 : decode cX12_forecast 110 = .ok (.getfield 42, 3) := by decide +kernel
theorem dX12_forecast_113 : decode cX12_forecast 113 = .ok (.aload_n 0, 1) := by decide +kernel
theorem dX12_forecast_114 : decode cX12_forecast 114 = .ok (.getfield 236, 3) := by decide +kernel
theorem dX12_forecast_117 : decode cX12_forecast 117 = .ok (.aload_n 0, 1) := by decide +kernel
theorem dX12_forecast_118 : decode cX12_forecast 118 = .ok (.getfield 229, 3) := by decide +kernel
theorem dX12_forecast_121 : decode cX12_forecast 121 = .ok (.iastore, 1) := by decide +kernel
theorem dX12_forecast_122 : decode cX12_forecast 122 = .ok (.aload_n 0, 1) := by decide +kernel
theorem dX12_forecast_123 : decode cX12_forecast 123 = .ok (.dup, 1) := by decide +kernel
theorem dX12_forecast_124 : decode cX12_forecast 124 = .ok (.getfield 236, 3) := by decide +kernel
theorem dX12_forecast_127 : decode cX12_forecast 127 = .ok (.iconst 1, 1) := by decide +kernel
theorem dX12_forecast_128 : decode cX12_forecast 128 = .ok (.iadd, 1) := by decide +kernel
theorem dX12_forecast_129 : decode cX12_forecast 129 = .ok (.putfield 236, 3) := by decide +kernel
theorem dX12_forecast_132 : decode cX12_forecast 132 = .ok (.aload_n 0, 1) := by decide +kernel
theorem dX12_forecast_133 : decode cX12_forecast 133 = .ok (.getfield 236, 3) := by decide +kernel
theorem dX12_forecast_136 : decode cX12_forecast 136 = .ok (.ireturn, 1) := by decide +kernel
theorem dX12_found_0 : decode cX12_found 0 = .ok (.aload_n 0, 1) := by decide +kernel
theorem dX12_found_1 : decode cX12_found 1 = .ok (.iconst 0, 1) := by decide +kernel
theorem dX12_found_2 : decode cX12_found 2 = .ok (.putfield 210, 3) := by decide +kernel
theorem dX12_found_5 : decode cX12_found 5 = .ok (.aload_n 0, 1) := by decide +kernel
theorem dX12_found_6 : decode cX12_found 6 = .ok (.iload_n 1, 1) := by decide +kernel
theorem dX12_found_7 : decode cX12_found 7 = .ok (.iload_n 2, 1) := by decide +kernel
theorem dX12_found_8 : decode cX12_found 8 = .ok (.iload_n 3, 1) := by decide +kernel
theorem dX12_found_9 : decode cX12_found 9 = .ok (.invokestatic 239, 3) := by decide +kernel
theorem dX12_found_12 : decode cX12_found 12 = .ok (.ifCond .ne 7, 3) := by decide +kernel
theorem dX12_found_15 : decode cX12_found 15 = .ok (.iconst 1, 1) := by decide +kernel
