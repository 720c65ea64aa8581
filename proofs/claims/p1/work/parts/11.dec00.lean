theorem dX11_areHours_0 : decode cX11_areHours 0 = .ok (.iload_n 0, 1) := by decide +kernel
theorem dX11_areHours_1 : decode cX11_areHours 1 = .ok (.invokestatic 123, 3) := by decide +kernel
theorem dX11_areHours_4 : decode cX11_areHours 4 = .ok (.ifCond .eq 20, 3) := by decide +kernel
theorem dX11_areHours_7 : decode cX11_areHours 7 = .ok (.iload_n 1, 1) := by decide +kernel
theorem dX11_areHours_8 : decode cX11_areHours 8 = .ok (.iconst 1, 1) := by decide +kernel
theorem dX11_areHours_9 : decode cX11_areHours 9 = .ok (.sipush 1000, 3) := by decide +kernel
theorem dX11_areHours_12 : decode cX11_areHours 12 = .ok (.iload_n 0, 1) := by decide +kernel
theorem dX11_areHours_13 : decode cX11_areHours 13 = .ok (.isub, 1) := by decide +kernel
theorem dX11_areHours_14 : decode cX11_areHours 14 = .ok (.invokestatic 141, 3) := by decide +kernel
theorem dX11_areHours_17 : decode cX11_areHours 17 = .ok (.ifCond .eq 7, 3) := by decide +kernel
theorem dX11_areHours_20 : decode cX11_areHours 20 = .ok (.iconst 1, 1) := by decide +kernel
theorem dX11_areHours_21 : decode cX11_areHours 21 = .ok (.goto 4, 3) := by decide +kernel
theorem dX11_areHours_24 : decode cX11_areHours 24 = .ok (.iconst 0, 1) := by decide +kernel
theorem dX11_areHours_25 : decode cX11_areHours 25 = .ok (.ireturn, 1) := by decide +kernel
theorem dX11_arePulls_0 : decode cX11_arePulls 0 = .ok (.iload_n 0, 1) := by decide +kernel
theorem dX11_arePulls_1 : decode cX11_arePulls 1 = .ok (.bipush (-3), 2) := by decide +kernel
theorem dX11_arePulls_3 : decode cX11_arePulls 3 = .ok (.iconst 3, 1) := by decide +kernel
theorem dX11_arePulls_4 : decode cX11_arePulls 4 = .ok (.invokestatic 141, 3) := by decide +kernel
theorem dX11_arePulls_7 : decode cX11_arePulls 7 = .ok (.ifCond .eq 17, 3) := by decide +kernel
theorem dX11_arePulls_10 : decode cX11_arePulls 10 = .ok (.iload_n 1, 1) := by decide +kernel
theorem dX11_arePulls_11 : decode cX11_arePulls 11 = .ok (.bipush (-3), 2) := by decide +kernel
theorem dX11_arePulls_13 : decode cX11_arePulls 13 = .ok (.iconst 3, 1) := by decide +kernel
theorem dX11_arePulls_14 : decode cX11_arePulls 14 = .ok (.invokestatic 141, 3) := by decide +kernel
theorem dX11_arePulls_17 : decode cX11_arePulls 17 = .ok (.ifCond .eq 7, 3) := by decide +kernel
theorem dX11_arePulls_20 : decode cX11_arePulls 20 = .ok (.iconst 1, 1) := by decide +kernel
theorem dX11_arePulls_21 : decode cX11_arePulls 21 = .ok (.goto 4, 3) := by decide +kernel
theorem dX11_arePulls_24 : decode cX11_arePulls 24 = .ok (.iconst 0, 1) := by decide +kernel
theorem dX11_arePulls_25 : decode cX11_arePulls 25 = .ok (.ireturn, 1) := by decide +kernel
theorem dX11_init_0 : decode cX11_init 0 = .ok (.aload_n 0, 1) := by decide +kernel
theorem dX11_init_1 : decode cX11_init 1 = .ok (.invokespecial 1, 3) := by decide +kernel
theorem dX11_init_4 : decode cX11_init 4 = .ok (.aload_n 0, 1) := by decide +kernel
theorem dX11_init_5 : decode cX11_init 5 = .ok (.iconst 0, 1) := by decide +kernel
theorem dX11_init_6 : decode cX11_init 6 = .ok (.putfield 7, 3) := by decide +kernel
theorem dX11_init_9 : decode cX11_init 9 = .ok (.aload_n 0, 1) := by decide +kernel
theorem dX11_init_10 : decode cX11_init 10 = .ok (.new 13, 3) := by decide +kernel
theorem dX11_init_13 : decode cX11_init 13 = .ok (.dup, 1) := by decide +kernel
theorem dX11_init_14 : decode cX11_init 14 = .ok (.invokespecial 15, 3) := by decide +kernel
theorem dX11_init_17 : decode cX11_init 17 = .ok (.putfield 16, 3) := by decide +kernel
theorem dX11_init_20 : decode cX11_init 20 = .ok (.aload_n 0, 1) := by decide +kernel
theorem dX11_init_21 : decode cX11_init 21 = .ok (.new 20, 3) := by decide +kernel
theorem dX11_init_24 : decode cX11_init 24 = .ok (.dup, 1) := by decide +kernel
theorem dX11_init_25 : decode cX11_init 25 = .ok (.invokespecial 22, 3) := by decide +kernel
theorem dX11_init_28 : decode cX11_init 28 = .ok (.putfield 23, 3) := by decide +kernel
theorem dX11_init_31 : decode cX11_init 31 = .ok (.aload_n 0, 1) := by decide +kernel
theorem dX11_init_32 : decode cX11_init 32 = .ok (.bipush 6, 2) := by decide +kernel
theorem dX11_init_34 : decode cX11_init 34 = .ok (.anewarray 27, 3) := by decide +kernel
theorem dX11_init_37 : decode cX11_init 37 = .ok (.putfield 29, 3) := by decide +kernel
theorem dX11_init_40 : decode cX11_init 40 = .ok (.aload_n 0, 1) := by decide +kernel
theorem dX11_init_41 : decode cX11_init 41 = .ok (.iconst 0, 1) := by decide +kernel
theorem dX11_init_42 : decode cX11_init 42 = .ok (.putfield 33, 3) := by decide +kernel
theorem dX11_init_45 : decode cX11_init 45 = .ok (.aload_n 0, 1) := by decide +kernel
theorem dX11_init_46 : decode cX11_init 46 = .ok (.bipush 10, 2) := by decide +kernel
theorem dX11_init_48 : decode cX11_init 48 = .ok (.anewarray 36, 3) := by decide +kernel
theorem dX11_init_51 : decode cX11_init 51 = .ok (.putfield 38, 3) := by decide +kernel
theorem dX11_init_54 : decode cX11_init 54 = .ok (.aload_n 0, 1) := by decide +kernel
theorem dX11_init_55 : decode cX11_init 55 = .ok (.iconst 0, 1) := by decide +kernel
theorem dX11_init_56 : decode cX11_init 56 = .ok (.putfield 42, 3) := by decide +kernel
theorem dX11_init_59 : decode cX11_init 59 = .ok (.aload_n 0, 1) := by decide +kernel
theorem dX11_init_60 : decode cX11_init 60 = .ok (.new 45, 3) := by decide +kernel
theorem dX11_init_63 : decode cX11_init 63 = .ok (.dup, 1) := by decide +kernel
theorem dX11_init_64 : decode cX11_init 64 = .ok (.invokespecial 47, 3) := by decide +kernel
theorem dX11_init_67 : decode cX11_init 67 = .ok (.putfield 48, 3) := by decide +kernel
theorem dX11_init_70 : decode cX11_init 70 = .ok (.aload_n 0, 1) := by decide +kernel
theorem dX11_init_71 : decode cX11_init 71 = .ok (.new 52, 3) := by decide +kernel
theorem dX11_init_74 : decode cX11_init 74 = .ok (.dup, 1) := by decide +kernel
theorem dX11_init_75 : decode cX11_init 75 = .ok (.invokespecial 54, 3) := by decide +kernel
theorem dX11_init_78 : decode cX11_init 78 = .ok (.putfield 55, 3) := by decide +kernel
theorem dX11_init_81 : decode cX11_init 81 = .ok (.aload_n 0, 1) := by decide +kernel
theorem dX11_init_82 : decode cX11_init 82 = .ok (.new 59, 3) := by decide +kernel
theorem dX11_init_85 : decode cX11_init 85 = .ok (.dup, 1) := by decide +kernel
theorem dX11_init_86 : decode cX11_init 86 = .ok (.invokespecial 61, 3) := by decide +kernel
theorem dX11_init_89 : decode cX11_init 89 = .ok (.putfield 62, 3) := by decide +kernel
theorem dX11_init_92 : decode cX11_init 92 = .ok (.aload_n 0, 1) := by decide +kernel
theorem dX11_init_93 : decode cX11_init 93 = .ok (.sipush 300, 3) := by decide +kernel
theorem dX11_init_96 : decode cX11_init 96 = .ok (.newarray .int, 2) := by decide +kernel
theorem dX11_init_98 : decode cX11_init 98 = .ok (.putfield 66, 3) := by decide +kernel
theorem dX11_init_101 : decode cX11_init 101 = .ok (.aload_n 0, 1) := by decide +kernel
theorem dX11_init_102 : decode cX11_init 102 = .ok (.iconst 0, 1) := by decide +kernel
theorem dX11_init_103 : decode cX11_init 103 = .ok (.putfield 70, 3) := by decide +kernel
theorem dX11_init_106 : decode cX11_init 106 = .ok (.aload_n 0, 1) := by decide +kernel
theorem dX11_init_107 : decode cX11_init 107 = .ok (.new 73, 3) := by decide +kernel
theorem dX11_init_110 : decode cX11_init 110 = .ok (.dup, 1) := by decide +kernel
theorem dX11_init_111 : decode cX11_init 111 = .ok (.invokespecial 75, 3) := by decide +kernel
theorem dX11_init_114 : decode cX11_init 114 = .ok (.putfield 76, 3) := by decide +kernel
theorem dX11_init_117 : decode cX11_init 117 = .ok (.aload_n 0, 1) := by decide +kernel
theorem dX11_init_118 : decode cX11_init 118 = .ok (.iconst (-1), 1) := by decide +kernel
theorem dX11_init_119 : decode cX11_init 119 = .ok (.putfield 80, 3) := by decide +kernel
theorem dX11_init_122 : decode cX11_init 122 = .ok (.aload_n 0, 1) := by decide +kernel
theorem dX11_init_123 : decode cX11_init 123 = .ok (.bipush 10, 2) := by decide +kernel
theorem dX11_init_125 : decode cX11_init 125 = .ok (.newarray .int, 2) := by decide +kernel
theorem dX11_init_127 : decode cX11_init 127 = .ok (.putfield 83, 3) := by decide +kernel
theorem dX11_init_130 : decode cX11_init 130 = .ok (.return_, 1) := by decide +kernel
theorem dX11_isAir_0 : decode cX11_isAir 0 = .ok (.iload_n 0, 1) := by decide +kernel
theorem dX11_isAir_1 : decode cX11_isAir 1 = .ok (.iconst 1, 1) := by decide +kernel
theorem dX11_isAir_2 : decode cX11_isAir 2 = .ok (.bipush 6, 2) := by decide +kernel
theorem dX11_isAir_4 : decode cX11_isAir 4 = .ok (.invokestatic 141, 3) := by decide +kernel
theorem dX11_isAir_7 : decode cX11_isAir 7 = .ok (.ifCond .eq 16, 3) := by decide +kernel
theorem dX11_isAir_10 : decode cX11_isAir 10 = .ok (.iload_n 1, 1) := by decide +kernel
theorem dX11_isAir_11 : decode cX11_isAir 11 = .ok (.iconst 0, 1) := by decide +kernel
theorem dX11_isAir_12 : decode cX11_isAir 12 = .ok (.iconst 3, 1) := by decide +kernel
theorem dX11_isAir_13 : decode cX11_isAir 13 = .ok (.invokestatic 141, 3) := by decide +kernel
theorem dX11_isAir_16 : decode cX11_isAir 16 = .ok (.ifCond .eq 7, 3) := by decide +kernel
theorem dX11_isAir_19 : decode cX11_isAir 19 = .ok (.iconst 1, 1) := by decide +kernel
theorem dX11_isAir_20 : decode cX11_isAir 20 = .ok (.goto 4, 3) := by decide +kernel
theorem dX11_isAir_23 : decode cX11_isAir 23 = .ok (.iconst 0, 1) := by decide +kernel
theorem dX11_isAir_24 : decode cX11_isAir 24 = .ok (.ireturn, 1) := by decide +kernel
theorem dX11_isHour_0 : decode cX11_isHour 0 = .ok (.iload_n 0, 1) := by decide +kernel
theorem dX11_isHour_1 : decode cX11_isHour 1 = .ok (.ifCond .lt 14, 3) := by decide +kernel
theorem dX11_isHour_4 : decode cX11_isHour 4 = .ok (.iload_n 0, 1) := by decide +kernel
theorem dX11_isHour_5 : decode cX11_isHour 5 = .ok (.sipush 1000, 3) := by decide +kernel
theorem dX11_isHour_8 : decode cX11_isHour 8 = .ok (.if_icmp .ge 7, 3) := by decide +kernel
theorem dX11_isHour_11 : decode cX11_isHour 11 = .ok (.iconst 1, 1) := by decide +kernel
theorem dX11_isHour_12 : decode cX11_isHour 12 = .ok (.goto 4, 3) := by decide +kernel
theorem dX11_isHour_15 : decode cX11_isHour 15 = .ok (.iconst 0, 1) := by decide +kernel
theorem dX11_isHour_16 : decode cX11_isHour 16 = .ok (.ireturn, 1) := by decide +kernel
theorem dX11_isSquare_0 : decode cX11_isSquare 0 = .ok (.iload_n 0, 1) := by decide +kernel
theorem dX11_isSquare_1 : decode cX11_isSquare 1 = .ok (.iconst 0, 1) := by decide +kernel
theorem dX11_isSquare_2 : decode cX11_isSquare 2 = .ok (.bipush 23, 2) := by decide +kernel
theorem dX11_isSquare_4 : decode cX11_isSquare 4 = .ok (.invokestatic 141, 3) := by decide +kernel
theorem dX11_isSquare_7 : decode cX11_isSquare 7 = .ok (.ifCond .eq 17, 3) := by decide +kernel
theorem dX11_isSquare_10 : decode cX11_isSquare 10 = .ok (.iload_n 1, 1) := by decide +kernel
theorem dX11_isSquare_11 : decode cX11_isSquare 11 = .ok (.iconst 0, 1) := by decide +kernel
theorem dX11_isSquare_12 : decode cX11_isSquare 12 = .ok (.bipush 23, 2) := by decide +kernel
theorem dX11_isSquare_14 : decode cX11_isSquare 14 = .ok (.invokestatic 141, 3) := by decide +kernel
theorem dX11_isSquare_17 : decode cX11_isSquare 17 = .ok (.ifCond .eq 7, 3) := by decide +kernel
theorem dX11_isSquare_20 : decode cX11_isSquare 20 = .ok (.iconst 1, 1) := by decide +kernel
theorem dX11_isSquare_21 : decode cX11_isSquare 21 = .ok (.goto 4, 3) := by decide +kernel
theorem dX11_isSquare_24 : decode cX11_isSquare 24 = .ok (.iconst 0, 1) := by decide +kernel
theorem dX11_isSquare_25 : decode cX11_isSquare 25 = .ok (.ireturn, 1) := by decide +kernel
theorem dX11_isWithin_0 : decode cX11_isWithin 0 = .ok (.iload_n 0, 1) := by decide +kernel
theorem dX11_isWithin_1 : decode cX11_isWithin 1 = .ok (.iload_n 1, 1) := by decide +kernel
theorem dX11_isWithin_2 : decode cX11_isWithin 2 = .ok (.if_icmp .lt 12, 3) := by decide +kernel
theorem dX11_isWithin_5 : decode cX11_isWithin 5 = .ok (.iload_n 0, 1) := by decide +kernel
theorem dX11_isWithin_6 : decode cX11_isWithin 6 = .ok (.iload_n 2, 1) := by decide +kernel
theorem dX11_isWithin_7 : decode cX11_isWithin 7 = .ok (.if_icmp .gt 7, 3) := by decide +kernel
theorem dX11_isWithin_10 : decode cX11_isWithin 10 = .ok (.iconst 1, 1) := by decide +kernel
theorem dX11_isWithin_11 : decode cX11_isWithin 11 = .ok (.goto 4, 3) := by decide +kernel
theorem dX11_isWithin_14 : decode cX11_isWithin 14 = .ok (.iconst 0, 1) := by decide +kernel
theorem dX11_isWithin_15 : decode cX11_isWithin 15 = .ok (.ireturn, 1) := by decide +kernel
theorem dX11_require_0 : decode cX11_require 0 = .ok (.iload_n 0, 1) := by decide +kernel
theorem dX11_require_1 : decode cX11_require 1 = .ok (.ifCond .ne 14, 3) := by decide +kernel
theorem dX11_require_15 : decode cX11_require 15 = .ok (.return_, 1) := by decide +kernel
theorem dX11_slotOf_0 : decode cX11_slotOf 0 = .ok (.iload_n 0, 1) := by decide +kernel
theorem dX11_slotOf_1 : decode cX11_slotOf 1 = .ok (.iconst 1, 1) := by decide +kernel
theorem dX11_slotOf_2 : decode cX11_slotOf 2 = .ok (.isub, 1) := by decide +kernel
theorem dX11_slotOf_3 : decode cX11_slotOf 3 = .ok (.iconst 4, 1) := by decide +kernel
theorem dX11_slotOf_4 : decode cX11_slotOf 4 = .ok (.imul, 1) := by decide +kernel
theorem dX11_slotOf_5 : decode cX11_slotOf 5 = .ok (.iload_n 1, 1) := by decide +kernel
theorem dX11_slotOf_6 : decode cX11_slotOf 6 = .ok (.iadd, 1) := by decide +kernel
theorem dX11_slotOf_7 : decode cX11_slotOf 7 = .ok (.ireturn, 1) := by decide +kernel
theorem dX11_windOf_0 : decode cX11_windOf 0 = .ok (.bipush 10, 2) := by decide +kernel
theorem dX11_windOf_2 : decode cX11_windOf 2 = .ok (.iload_n 0, 1) := by decide +kernel
theorem dX11_windOf_3 : decode cX11_windOf 3 = .ok (.iconst 3, 1) := by decide +kernel
theorem dX11_windOf_4 : decode cX11_windOf 4 = .ok (.iadd, 1) := by decide +kernel
theorem dX11_windOf_5 : decode cX11_windOf 5 = .ok (.imul, 1) := by decide +kernel
theorem dX11_windOf_6 : decode cX11_windOf 6 = .ok (.iload_n 1, 1) := by decide +kernel
theorem dX11_windOf_7 : decode cX11_windOf 7 = .ok (.iadd, 1) := by decide +kernel
theorem dX11_windOf_8 : decode cX11_windOf 8 = .ok (.iconst 3, 1) := by decide +kernel
theorem dX11_windOf_9 : decode cX11_windOf 9 = .ok (.iadd, 1) := by decide +kernel
theorem dX11_windOf_10 : decode cX11_windOf 10 = .ok (.ireturn, 1) := by decide +kernel
theorem dX12_cell_0 : decode cX12_cell 0 = .ok (.sipush 1000, 3) := by decide +kernel
theorem dX12_cell_3 : decode cX12_cell 3 = .ok (.iconst 4, 1) := by decide +kernel
theorem dX12_cell_4 : decode cX12_cell 4 = .ok (.iload_n 0, 1) := by decide +kernel
theorem dX12_cell_5 : decode cX12_cell 5 = .ok (.imul, 1) := by decide +kernel
theorem dX12_cell_6 : decode cX12_cell 6 = .ok (.iload_n 1, 1) := by decide +kernel
theorem dX12_cell_7 : decode cX12_cell 7 = .ok (.iadd, 1) := by decide +kernel
theorem dX12_cell_8 : decode cX12_cell 8 = .ok (.imul, 1) := by decide +kernel
theorem dX12_cell_9 : decode cX12_cell 9 = .ok (.iload_n 2, 1) := by decide +kernel
theorem dX12_cell_10 : decode cX12_cell 10 = .ok (.iadd, 1) := by decide +kernel
theorem dX12_cell_11 : decode cX12_cell 11 = .ok (.ireturn, 1) := by decide +kernel
theorem dX12_in_0 : decode cX12_in 0 = .ok (.iload_n 0, 1) := by decide +kernel
theorem dX12_in_1 : decode cX12_in 1 = .ok (.iload_n 1, 1) := by decide +kernel
theorem dX12_in_2 : decode cX12_in 2 = .ok (.if_icmp .lt 12, 3) := by decide +kernel
theorem dX12_in_5 : decode cX12_in 5 = .ok (.iload_n 0, 1) := by decide +kernel
theorem dX12_in_6 : decode cX12_in 6 = .ok (.iload_n 2, 1) := by decide +kernel
theorem dX12_in_7 : decode cX12_in 7 = .ok (.if_icmp .gt 7, 3) := by decide +kernel
theorem dX12_in_10 : decode cX12_in 10 = .ok (.iconst 1, 1) := by decide +kernel
theorem dX12_in_11 : decode cX12_in 11 = .ok (.goto 4, 3) := by decide +kernel
theorem dX12_in_14 : decode cX12_in 14 = .ok (.iconst 0, 1) := by decide +kernel
theorem dX12_in_15 : decode cX12_in 15 = .ok (.ireturn, 1) := by decide +kernel
theorem dX12_isFill_0 : decode cX12_isFill 0 = .ok (.iload_n 0, 1) := by decide +kernel
theorem dX12_isFill_1 : decode cX12_isFill 1 = .ok (.iconst 1, 1) := by decide +kernel
theorem dX12_isFill_2 : decode cX12_isFill 2 = .ok (.sipush 10000, 3) := by decide +kernel
theorem dX12_isFill_5 : decode cX12_isFill 5 = .ok (.invokestatic 213, 3) := by decide +kernel
theorem dX12_isFill_8 : decode cX12_isFill 8 = .ok (.ifCond .eq 17, 3) := by decide +kernel
theorem dX12_isFill_11 : decode cX12_isFill 11 = .ok (.iload_n 1, 1) := by decide +kernel
theorem dX12_isFill_12 : decode cX12_isFill 12 = .ok (.iconst 1, 1) := by decide +kernel
theorem dX12_isFill_13 : decode cX12_isFill 13 = .ok (.bipush 100, 2) := by decide +kernel
theorem dX12_isFill_15 : decode cX12_isFill 15 = .ok (.invokestatic 213, 3) := by decide +kernel
theorem dX12_isFill_18 : decode cX12_isFill 18 = .ok (.ifCond .eq 7, 3) := by decide +kernel
theorem dX12_isFill_21 : decode cX12_isFill 21 = .ok (.iconst 1, 1) := by decide +kernel
theorem dX12_isFill_22 : decode cX12_isFill 22 = .ok (.goto 4, 3) := by decide +kernel
theorem dX12_isFill_25 : decode cX12_isFill 25 = .ok (.iconst 0, 1) := by decide +kernel
theorem dX12_isFill_26 : decode cX12_isFill 26 = .ok (.ireturn, 1) := by decide +kernel
theorem dX12_isPlaceOfWind_0 : decode cX12_isPlaceOfWind 0 = .ok (.iload_n 0, 1) := by decide +kernel
theorem dX12_isPlaceOfWind_1 : decode cX12_isPlaceOfWind 1 = .ok (.iconst 1, 1) := by decide +kernel
theorem dX12_isPlaceOfWind_2 : decode cX12_isPlaceOfWind 2 = .ok (.bipush 6, 2) := by decide +kernel
theorem dX12_isPlaceOfWind_4 : decode cX12_isPlaceOfWind 4 = .ok (.invokestatic 213, 3) := by decide +kernel
theorem dX12_isPlaceOfWind_7 : decode cX12_isPlaceOfWind 7 = .ok (.ifCond .eq 27, 3) := by decide +kernel
theorem dX12_isPlaceOfWind_10 : decode cX12_isPlaceOfWind 10 = .ok (.iload_n 1, 1) := by decide +kernel
theorem dX12_isPlaceOfWind_11 : decode cX12_isPlaceOfWind 11 = .ok (.iconst 0, 1) := by decide +kernel
theorem dX12_isPlaceOfWind_12 : decode cX12_isPlaceOfWind 12 = .ok (.iconst 3, 1) := by decide +kernel
theorem dX12_isPlaceOfWind_13 : decode cX12_isPlaceOfWind 13 = .ok (.invokestatic 213, 3) := by decide +kernel
theorem dX12_isPlaceOfWind_16 : decode cX12_isPlaceOfWind 16 = .ok (.ifCond .eq 18, 3) := by decide +kernel
theorem dX12_isPlaceOfWind_19 : decode cX12_isPlaceOfWind 19 = .ok (.iload_n 2, 1) := by decide +kernel
theorem dX12_isPlaceOfWind_20 : decode cX12_isPlaceOfWind 20 = .ok (.iconst 0, 1) := by decide +kernel
theorem dX12_isPlaceOfWind_21 : decode cX12_isPlaceOfWind 21 = .ok (.sipush 999, 3) := by decide +kernel
theorem dX12_isPlaceOfWind_24 : decode cX12_isPlaceOfWind 24 = .ok (.invokestatic 213, 3) := by decide +kernel
theorem dX12_isPlaceOfWind_27 : decode cX12_isPlaceOfWind 27 = .ok (.ifCond .eq 7, 3) := by decide +kernel
theorem dX12_isPlaceOfWind_30 : decode cX12_isPlaceOfWind 30 = .ok (.iconst 1, 1) := by decide +kernel
theorem dX12_isPlaceOfWind_31 : decode cX12_isPlaceOfWind 31 = .ok (.goto 4, 3) := by decide +kernel
theorem dX12_isPlaceOfWind_34 : decode cX12_isPlaceOfWind 34 = .ok (.iconst 0, 1) := by decide +kernel
theorem dX12_isPlaceOfWind_35 : decode cX12_isPlaceOfWind 35 = .ok (.ireturn, 1) := by decide +kernel
theorem dX12_isSpan_0 : decode cX12_isSpan 0 = .ok (.iload_n 0, 1) := by decide +kernel
theorem dX12_isSpan_1 : decode cX12_isSpan 1 = .ok (.iconst 0, 1) := by decide +kernel
theorem dX12_isSpan_2 : decode cX12_isSpan 2 = .ok (.sipush 999, 3) := by decide +kernel
theorem dX12_isSpan_5 : decode cX12_isSpan 5 = .ok (.invokestatic 213, 3) := by decide +kernel
theorem dX12_isSpan_8 : decode cX12_isSpan 8 = .ok (.ifCond .eq 21, 3) := by decide +kernel
theorem dX12_isSpan_11 : decode cX12_isSpan 11 = .ok (.iload_n 1, 1) := by decide +kernel
theorem dX12_isSpan_12 : decode cX12_isSpan 12 = .ok (.iconst 1, 1) := by decide +kernel
theorem dX12_isSpan_13 : decode cX12_isSpan 13 = .ok (.if_icmp .lt 16, 3) := by decide +kernel
theorem dX12_isSpan_16 : decode cX12_isSpan 16 = .ok (.iload_n 1, 1) := by decide +kernel
theorem dX12_isSpan_17 : decode cX12_isSpan 17 = .ok (.sipush 1000, 3) := by decide +kernel
theorem dX12_isSpan_20 : decode cX12_isSpan 20 = .ok (.iload_n 0, 1) := by decide +kernel
theorem dX12_isSpan_21 : decode cX12_isSpan 21 = .ok (.isub, 1) := by decide +kernel
theorem dX12_isSpan_22 : decode cX12_isSpan 22 = .ok (.if_icmp .gt 7, 3) := by decide +kernel
theorem dX12_isSpan_25 : decode cX12_isSpan 25 = .ok (.iconst 1, 1) := by decide +kernel
theorem dX12_isSpan_26 : decode cX12_isSpan 26 = .ok (.goto 4, 3) := by decide +kernel
theorem dX12_isSpan_29 : decode cX12_isSpan 29 = .ok (.iconst 0, 1) := by decide +kernel
theorem dX12_isSpan_30 : decode cX12_isSpan 30 = .ok (.ireturn, 1) := by decide +kernel
theorem dX12_isSquare_0 : decode cX12_isSquare 0 = .ok (.iload_n 0, 1) := by decide +kernel
theorem dX12_isSquare_1 : decode cX12_isSquare 1 = .ok (.iconst 0, 1) := by decide +kernel
theorem dX12_isSquare_2 : decode cX12_isSquare 2 = .ok (.bipush 23, 2) := by decide +kernel
theorem dX12_isSquare_4 : decode cX12_isSquare 4 = .ok (.invokestatic 213, 3) := by decide +kernel
theorem dX12_isSquare_7 : decode cX12_isSquare 7 = .ok (.ifCond .eq 17, 3) := by decide +kernel
theorem dX12_isSquare_10 : decode cX12_isSquare 10 = .ok (.iload_n 1, 1) := by decide +kernel
theorem dX12_isSquare_11 : decode cX12_isSquare 11 = .ok (.iconst 0, 1) := by decide +kernel
theorem dX12_isSquare_12 : decode cX12_isSquare 12 = .ok (.bipush 23, 2) := by decide +kernel
theorem dX12_isSquare_14 : decode cX12_isSquare 14 = .ok (.invokestatic 213, 3) := by decide +kernel
theorem dX12_isSquare_17 : decode cX12_isSquare 17 = .ok (.ifCond .eq 7, 3) := by decide +kernel
theorem dX12_isSquare_20 : decode cX12_isSquare 20 = .ok (.iconst 1, 1) := by decide +kernel
theorem dX12_isSquare_21 : decode cX12_isSquare 21 = .ok (.goto 4, 3) := by decide +kernel
theorem dX12_isSquare_24 : decode cX12_isSquare 24 = .ok (.iconst 0, 1) := by decide +kernel
theorem dX12_isSquare_25 : decode cX12_isSquare 25 = .ok (.ireturn, 1) := by decide +kernel
theorem dX12_isWind_0 : decode cX12_isWind 0 = .ok (.iload_n 0, 1) := by decide +kernel
theorem dX12_isWind_1 : decode cX12_isWind 1 = .ok (.iconst 1, 1) := by decide +kernel
theorem dX12_isWind_2 : decode cX12_isWind 2 = .ok (.bipush 6, 2) := by decide +kernel
theorem dX12_isWind_4 : decode cX12_isWind 4 = .ok (.invokestatic 213, 3) := by decide +kernel
theorem dX12_isWind_7 : decode cX12_isWind 7 = .ok (.ifCond .eq 46, 3) := by decide +kernel
theorem dX12_isWind_10 : decode cX12_isWind 10 = .ok (.iload_n 1, 1) := by decide +kernel
theorem dX12_isWind_11 : decode cX12_isWind 11 = .ok (.iconst 0, 1) := by decide +kernel
theorem dX12_isWind_12 : decode cX12_isWind 12 = .ok (.iconst 3, 1) := by decide +kernel
theorem dX12_isWind_13 : decode cX12_isWind 13 = .ok (.invokestatic 213, 3) := by decide +kernel
theorem dX12_isWind_16 : decode cX12_isWind 16 = .ok (.ifCond .eq 37, 3) := by decide +kernel
theorem dX12_isWind_19 : decode cX12_isWind 19 = .ok (.iload_n 2, 1) := by decide +kernel
theorem dX12_isWind_20 : decode cX12_isWind 20 = .ok (.iload_n 3, 1) := by decide +kernel
theorem dX12_isWind_21 : decode cX12_isWind 21 = .ok (.invokestatic 217, 3) := by decide +kernel
theorem dX12_isWind_24 : decode cX12_isWind 24 = .ok (.ifCond .eq 29, 3) := by decide +kernel
theorem dX12_isWind_27 : decode cX12_isWind 27 = .ok (.iload 4, 2) := by decide +kernel
theorem dX12_isWind_29 : decode cX12_isWind 29 = .ok (.bipush (-3), 2) := by decide +kernel
theorem dX12_isWind_31 : decode cX12_isWind 31 = .ok (.iconst 3, 1) := by decide +kernel
theorem dX12_isWind_32 : decode cX12_isWind 32 = .ok (.invokestatic 213, 3) := by decide +kernel
theorem dX12_isWind_35 : decode cX12_isWind 35 = .ok (.ifCond .eq 18, 3) := by decide +kernel
theorem dX12_isWind_38 : decode cX12_isWind 38 = .ok (.iload 5, 2) := by decide +kernel
theorem dX12_isWind_40 : decode cX12_isWind 40 = .ok (.bipush (-3), 2) := by decide +kernel
theorem dX12_isWind_42 : decode cX12_isWind 42 = .ok (.iconst 3, 1) := by decide +kernel
theorem dX12_isWind_43 : decode cX12_isWind 43 = .ok (.invokestatic 213, 3) := by decide +kernel
theorem dX12_isWind_46 : decode cX12_isWind 46 = .ok (.ifCond .eq 7, 3) := by decide +kernel
theorem dX12_isWind_49 : decode cX12_isWind 49 = .ok (.iconst 1, 1) := by decide +kernel
theorem dX12_isWind_50 : decode cX12_isWind 50 = .ok (.goto 4, 3) := by decide +kernel
theorem dX12_isWind_53 : decode cX12_isWind 53 = .ok (.iconst 0, 1) := by decide +kernel
theorem dX12_isWind_54 : decode cX12_isWind 54 = .ok (.ireturn, 1) := by decide +kernel
theorem dX12_least_0 : decode cX12_least 0 = .ok (.iload_n 0, 1) := by decide +kernel
theorem dX12_least_1 : decode cX12_least 1 = .ok (.iload_n 1, 1) := by decide +kernel
theorem dX12_least_2 : decode cX12_least 2 = .ok (.if_icmp .ge 7, 3) := by decide +kernel
theorem dX12_least_5 : decode cX12_least 5 = .ok (.iload_n 0, 1) := by decide +kernel
theorem dX12_least_6 : decode cX12_least 6 = .ok (.goto 4, 3) := by decide +kernel
theorem dX12_least_9 : decode cX12_least 9 = .ok (.iload_n 1, 1) := by decide +kernel
theorem dX12_least_10 : decode cX12_least 10 = .ok (.ireturn, 1) := by decide +kernel
theorem dX1_init_0 : decode cX1_init 0 = .ok (.aload_n 0, 1) := by decide +kernel
theorem dX1_init_1 : decode cX1_init 1 = .ok (.invokespecial 3, 3) := by decide +kernel
theorem dX1_init_4 : decode cX1_init 4 = .ok (.aload_n 0, 1) := by decide +kernel
theorem dX1_init_5 : decode cX1_init 5 = .ok (.iconst 0, 1) := by decide +kernel
theorem dX1_init_6 : decode cX1_init 6 = .ok (.putfield 9, 3) := by decide +kernel
theorem dX1_init_9 : decode cX1_init 9 = .ok (.aload_n 0, 1) := by decide +kernel
theorem dX1_init_10 : decode cX1_init 10 = .ok (.iconst 0, 1) := by decide +kernel
theorem dX1_init_11 : decode cX1_init 11 = .ok (.putfield 15, 3) := by decide +kernel
theorem dX1_init_14 : decode cX1_init 14 = .ok (.aload_n 0, 1) := by decide +kernel
theorem dX1_init_15 : decode cX1_init 15 = .ok (.iconst 0, 1) := by decide +kernel
theorem dX1_init_16 : decode cX1_init 16 = .ok (.putfield 18, 3) := by decide +kernel
theorem dX1_init_19 : decode cX1_init 19 = .ok (.aload_n 0, 1) := by decide +kernel
theorem dX1_init_20 : decode cX1_init 20 = .ok (.iconst 0, 1) := by decide +kernel
theorem dX1_init_21 : decode cX1_init 21 = .ok (.putfield 21, 3) := by decide +kernel
theorem dX1_init_24 : decode cX1_init 24 = .ok (.aload_n 0, 1) := by decide +kernel
theorem dX1_init_25 : decode cX1_init 25 = .ok (.iconst 0, 1) := by decide +kernel
theorem dX1_init_26 : decode cX1_init 26 = .ok (.putfield 24, 3) := by decide +kernel
theorem dX1_init_29 : decode cX1_init 29 = .ok (.aload_n 0, 1) := by decide +kernel
theorem dX1_init_30 : decode cX1_init 30 = .ok (.iconst 0, 1) := by decide +kernel
theorem dX1_init_31 : decode cX1_init 31 = .ok (.putfield 27, 3) := by decide +kernel
theorem dX1_init_34 : decode cX1_init 34 = .ok (.aload_n 0, 1) := by decide +kernel
theorem dX1_init_35 : decode cX1_init 35 = .ok (.iconst 0, 1) := by decide +kernel
theorem dX1_init_36 : decode cX1_init 36 = .ok (.putfield 30, 3) := by decide +kernel
theorem dX1_init_39 : decode cX1_init 39 = .ok (.aload_n 0, 1) := by decide +kernel
theorem dX1_init_40 : decode cX1_init 40 = .ok (.iconst 0, 1) := by decide +kernel
theorem dX1_init_41 : decode cX1_init 41 = .ok (.putfield 33, 3) := by decide +kernel
theorem dX1_init_44 : decode cX1_init 44 = .ok (.aload_n 0, 1) := by decide +kernel
theorem dX1_init_45 : decode cX1_init 45 = .ok (.iconst 0, 1) := by decide +kernel
theorem dX1_init_46 : decode cX1_init 46 = .ok (.putfield 36, 3) := by decide +kernel
theorem dX1_init_49 : decode cX1_init 49 = .ok (.return_, 1) := by decide +kernel
theorem dX3_init_0 : decode cX3_init 0 = .ok (.aload_n 0, 1) := by decide +kernel
theorem dX3_init_1 : decode cX3_init 1 = .ok (.invokespecial 3, 3) := by decide +kernel
theorem dX3_init_4 : decode cX3_init 4 = .ok (.aload_n 0, 1) := by decide +kernel
theorem dX3_init_5 : decode cX3_init 5 = .ok (.bipush 30, 2) := by decide +kernel
theorem dX3_init_7 : decode cX3_init 7 = .ok (.newarray .int, 2) := by decide +kernel
theorem dX3_init_9 : decode cX3_init 9 = .ok (.putfield 9, 3) := by decide +kernel
theorem dX3_init_12 : decode cX3_init 12 = .ok (.aload_n 0, 1) := by decide +kernel
theorem dX3_init_13 : decode cX3_init 13 = .ok (.bipush 30, 2) := by decide +kernel
theorem dX3_init_15 : decode cX3_init 15 = .ok (.newarray .int, 2) := by decide +kernel
theorem dX3_init_17 : decode cX3_init 17 = .ok (.putfield 15, 3) := by decide +kernel
theorem dX3_init_20 : decode cX3_init 20 = .ok (.aload_n 0, 1) := by decide +kernel
theorem dX3_init_21 : decode cX3_init 21 = .ok (.iconst 0, 1) := by decide +kernel
theorem dX3_init_22 : decode cX3_init 22 = .ok (.putfield 18, 3) := by decide +kernel
theorem dX3_init_25 : decode cX3_init 25 = .ok (.return_, 1) := by decide +kernel
theorem dX5_init_0 : decode cX5_init 0 = .ok (.aload_n 0, 1) := by decide +kernel
theorem dX5_init_1 : decode cX5_init 1 = .ok (.invokespecial 3, 3) := by decide +kernel
theorem dX5_init_4 : decode cX5_init 4 = .ok (.aload_n 0, 1) := by decide +kernel
theorem dX5_init_5 : decode cX5_init 5 = .ok (.bipush 7, 2) := by decide +kernel
theorem dX5_init_7 : decode cX5_init 7 = .ok (.anewarray 9, 3) := by decide +kernel
theorem dX5_init_10 : decode cX5_init 10 = .ok (.putfield 11, 3) := by decide +kernel
theorem dX5_init_13 : decode cX5_init 13 = .ok (.aload_n 0, 1) := by decide +kernel
theorem dX5_init_14 : decode cX5_init 14 = .ok (.sipush 144, 3) := by decide +kernel
theorem dX5_init_17 : decode cX5_init 17 = .ok (.newarray .int, 2) := by decide +kernel
theorem dX5_init_19 : decode cX5_init 19 = .ok (.putfield 17, 3) := by decide +kernel
theorem dX5_init_22 : decode cX5_init 22 = .ok (.aload_n 0, 1) := by decide +kernel
theorem dX5_init_23 : decode cX5_init 23 = .ok (.bipush 6, 2) := by decide +kernel
theorem dX5_init_25 : decode cX5_init 25 = .ok (.newarray .int, 2) := by decide +kernel
theorem dX5_init_27 : decode cX5_init 27 = .ok (.putfield 21, 3) := by decide +kernel
theorem dX5_init_30 : decode cX5_init 30 = .ok (.aload_n 0, 1) := by decide +kernel
theorem dX5_init_31 : decode cX5_init 31 = .ok (.bipush 6, 2) := by decide +kernel
theorem dX5_init_33 : decode cX5_init 33 = .ok (.newarray .int, 2) := by decide +kernel
theorem dX5_init_35 : decode cX5_init 35 = .ok (.putfield 24, 3) := by decide +kernel
theorem dX5_init_38 : decode cX5_init 38 = .ok (.aload_n 0, 1) := by decide +kernel
theorem dX5_init_39 : decode cX5_init 39 = .ok (.bipush 6, 2) := by decide +kernel
theorem dX5_init_41 : decode cX5_init 41 = .ok (.newarray .int, 2) := by decide +kernel
theorem dX5_init_43 : decode cX5_init 43 = .ok (.putfield 27, 3) := by decide +kernel
theorem dX5_init_46 : decode cX5_init 46 = .ok (.aload_n 0, 1) := by decide +kernel
theorem dX5_init_47 : decode cX5_init 47 = .ok (.iconst 0, 1) := by decide +kernel
theorem dX5_init_48 : decode cX5_init 48 = .ok (.putfield 30, 3) := by decide +kernel
theorem dX5_init_51 : decode cX5_init 51 = .ok (.aload_n 0, 1) := by decide +kernel
theorem dX5_init_52 : decode cX5_init 52 = .ok (.iconst 0, 1) := by decide +kernel
theorem dX5_init_53 : decode cX5_init 53 = .ok (.putfield 34, 3) := by decide +kernel
theorem dX5_init_56 : decode cX5_init 56 = .ok (.aload_n 0, 1) := by decide +kernel
theorem dX5_init_57 : decode cX5_init 57 = .ok (.iconst 0, 1) := by decide +kernel
theorem dX5_init_58 : decode cX5_init 58 = .ok (.putfield 37, 3) := by decide +kernel
theorem dX5_init_61 : decode cX5_init 61 = .ok (.aload_n 0, 1) := by decide +kernel
theorem dX5_init_62 : decode cX5_init 62 = .ok (.iconst 0, 1) := by decide +kernel
theorem dX5_init_63 : decode cX5_init 63 = .ok (.putfield 40, 3) := by decide +kernel
theorem dX5_init_66 : decode cX5_init 66 = .ok (.aload_n 0, 1) := by decide +kernel
theorem dX5_init_67 : decode cX5_init 67 = .ok (.iconst (-1), 1) := by decide +kernel
theorem dX5_init_68 : decode cX5_init 68 = .ok (.putfield 43, 3) := by decide +kernel
theorem dX5_init_71 : decode cX5_init 71 = .ok (.aload_n 0, 1) := by decide +kernel
theorem dX5_init_72 : decode cX5_init 72 = .ok (.iconst (-1), 1) := by decide +kernel
theorem dX5_init_73 : decode cX5_init 73 = .ok (.putfield 46, 3) := by decide +kernel
theorem dX5_init_76 : decode cX5_init 76 = .ok (.iconst 0, 1) := by decide +kernel
theorem dX5_init_77 : decode cX5_init 77 = .ok (.istore_n 1, 1) := by decide +kernel
theorem dX5_init_78 : decode cX5_init 78 = .ok (.iload_n 1, 1) := by decide +kernel
theorem dX5_init_79 : decode cX5_init 79 = .ok (.bipush 6, 2) := by decide +kernel
theorem dX5_init_81 : decode cX5_init 81 = .ok (.if_icmp .gt 22, 3) := by decide +kernel
theorem dX5_init_84 : decode cX5_init 84 = .ok (.aload_n 0, 1) := by decide +kernel
theorem dX5_init_85 : decode cX5_init 85 = .ok (.getfield 11, 3) := by decide +kernel
theorem dX5_init_88 : decode cX5_init 88 = .ok (.iload_n 1, 1) := by decide +kernel
theorem dX5_init_89 : decode cX5_init 89 = .ok (.new 9, 3) := by decide +kernel
theorem dX5_init_92 : decode cX5_init 92 = .ok (.dup, 1) := by decide +kernel
theorem dX5_init_93 : decode cX5_init 93 = .ok (.invokespecial 49, 3) := by decide +kernel
theorem dX5_init_96 : decode cX5_init 96 = .ok (.aastore, 1) := by decide +kernel
theorem dX5_init_97 : decode cX5_init 97 = .ok (.iinc 1 1, 3) := by decide +kernel
theorem dX5_init_100 : decode cX5_init 100 = .ok (.goto (-22), 3) := by decide +kernel
theorem dX5_init_103 : decode cX5_init 103 = .ok (.return_, 1) := by decide +kernel
theorem dX6_init_0 : decode cX6_init 0 = .ok (.aload_n 0, 1) := by decide +kernel
theorem dX6_init_1 : decode cX6_init 1 = .ok (.invokespecial 3, 3) := by decide +kernel
theorem dX6_init_4 : decode cX6_init 4 = .ok (.aload_n 0, 1) := by decide +kernel
theorem dX6_init_5 : decode cX6_init 5 = .ok (.sipush 301, 3) := by decide +kernel
theorem dX6_init_8 : decode cX6_init 8 = .ok (.newarray .int, 2) := by decide +kernel
theorem dX6_init_10 : decode cX6_init 10 = .ok (.putfield 9, 3) := by decide +kernel
theorem dX6_init_13 : decode cX6_init 13 = .ok (.aload_n 0, 1) := by decide +kernel
theorem dX6_init_14 : decode cX6_init 14 = .ok (.sipush 301, 3) := by decide +kernel
theorem dX6_init_17 : decode cX6_init 17 = .ok (.newarray .int, 2) := by decide +kernel
theorem dX6_init_19 : decode cX6_init 19 = .ok (.putfield 15, 3) := by decide +kernel
theorem dX6_init_22 : decode cX6_init 22 = .ok (.aload_n 0, 1) := by decide +kernel
theorem dX6_init_23 : decode cX6_init 23 = .ok (.sipush 301, 3) := by decide +kernel
theorem dX6_init_26 : decode cX6_init 26 = .ok (.newarray .int, 2) := by decide +kernel
theorem dX6_init_28 : decode cX6_init 28 = .ok (.putfield 18, 3) := by decide +kernel
theorem dX6_init_31 : decode cX6_init 31 = .ok (.aload_n 0, 1) := by decide +kernel
theorem dX6_init_32 : decode cX6_init 32 = .ok (.iconst 0, 1) := by decide +kernel
theorem dX6_init_33 : decode cX6_init 33 = .ok (.putfield 21, 3) := by decide +kernel
theorem dX6_init_36 : decode cX6_init 36 = .ok (.aload_n 0, 1) := by decide +kernel
theorem dX6_init_37 : decode cX6_init 37 = .ok (.iconst 0, 1) := by decide +kernel
theorem dX6_init_38 : decode cX6_init 38 = .ok (.putfield 25, 3) := by decide +kernel
theorem dX6_init_41 : decode cX6_init 41 = .ok (.aload_n 0, 1) := by decide +kernel
theorem dX6_init_42 : decode cX6_init 42 = .ok (.sipush 302, 3) := by decide +kernel
theorem dX6_init_45 : decode cX6_init 45 = .ok (.putfield 28, 3) := by decide +kernel
theorem dX6_init_48 : decode cX6_init 48 = .ok (.aload_n 0, 1) := by decide +kernel
theorem dX6_init_49 : decode cX6_init 49 = .ok (.iconst 0, 1) := by decide +kernel
theorem dX6_init_50 : decode cX6_init 50 = .ok (.putfield 31, 3) := by decide +kernel
theorem dX6_init_53 : decode cX6_init 53 = .ok (.aload_n 0, 1) := by decide +kernel
theorem dX6_init_54 : decode cX6_init 54 = .ok (.iconst 0, 1) := by decide +kernel
theorem dX6_init_55 : decode cX6_init 55 = .ok (.putfield 34, 3) := by decide +kernel
theorem dX6_init_58 : decode cX6_init 58 = .ok (.aload_n 0, 1) := by decide +kernel
theorem dX6_init_59 : decode cX6_init 59 = .ok (.sipush 300, 3) := by decide +kernel
theorem dX6_init_62 : decode cX6_init 62 = .ok (.newarray .int, 2) := by decide +kernel
theorem dX6_init_64 : decode cX6_init 64 = .ok (.putfield 37, 3) := by decide +kernel
theorem dX6_init_67 : decode cX6_init 67 = .ok (.aload_n 0, 1) := by decide +kernel
theorem dX6_init_68 : decode cX6_init 68 = .ok (.iconst 0, 1) := by decide +kernel
theorem dX6_init_69 : decode cX6_init 69 = .ok (.putfield 40, 3) := by decide +kernel
theorem dX6_init_72 : decode cX6_init 72 = .ok (.aload_n 0, 1) := by decide +kernel
theorem dX6_init_73 : decode cX6_init 73 = .ok (.iconst 0, 1) := by decide +kernel
theorem dX6_init_74 : decode cX6_init 74 = .ok (.putfield 43, 3) := by decide +kernel
theorem dX6_init_77 : decode cX6_init 77 = .ok (.aload_n 0, 1) := by decide +kernel
theorem dX6_init_78 : decode cX6_init 78 = .ok (.iconst (-1), 1) := by decide +kernel
theorem dX6_init_79 : decode cX6_init 79 = .ok (.putfield 46, 3) := by decide +kernel
theorem dX6_init_82 : decode cX6_init 82 = .ok (.return_, 1) := by decide +kernel
theorem dX7_init_0 : decode cX7_init 0 = .ok (.aload_n 0, 1) := by decide +kernel
theorem dX7_init_1 : decode cX7_init 1 = .ok (.invokespecial 3, 3) := by decide +kernel
theorem dX7_init_4 : decode cX7_init 4 = .ok (.aload_n 0, 1) := by decide +kernel
theorem dX7_init_5 : decode cX7_init 5 = .ok (.bipush 12, 2) := by decide +kernel
theorem dX7_init_7 : decode cX7_init 7 = .ok (.newarray .int, 2) := by decide +kernel
theorem dX7_init_9 : decode cX7_init 9 = .ok (.putfield 9, 3) := by decide +kernel
theorem dX7_init_12 : decode cX7_init 12 = .ok (.aload_n 0, 1) := by decide +kernel
theorem dX7_init_13 : decode cX7_init 13 = .ok (.bipush 12, 2) := by decide +kernel
theorem dX7_init_15 : decode cX7_init 15 = .ok (.newarray .int, 2) := by decide +kernel
theorem dX7_init_17 : decode cX7_init 17 = .ok (.putfield 15, 3) := by decide +kernel
theorem dX7_init_20 : decode cX7_init 20 = .ok (.aload_n 0, 1) := by decide +kernel
theorem dX7_init_21 : decode cX7_init 21 = .ok (.sipush 5760, 3) := by decide +kernel
theorem dX7_init_24 : decode cX7_init 24 = .ok (.newarray .int, 2) := by decide +kernel
theorem dX7_init_26 : decode cX7_init 26 = .ok (.putfield 18, 3) := by decide +kernel
theorem dX7_init_29 : decode cX7_init 29 = .ok (.aload_n 0, 1) := by decide +kernel
theorem dX7_init_30 : decode cX7_init 30 = .ok (.bipush 24, 2) := by decide +kernel
theorem dX7_init_32 : decode cX7_init 32 = .ok (.newarray .int, 2) := by decide +kernel
theorem dX7_init_34 : decode cX7_init 34 = .ok (.putfield 21, 3) := by decide +kernel
theorem dX7_init_37 : decode cX7_init 37 = .ok (.aload_n 0, 1) := by decide +kernel
theorem dX7_init_38 : decode cX7_init 38 = .ok (.sipush 4608, 3) := by decide +kernel
theorem dX7_init_41 : decode cX7_init 41 = .ok (.newarray .int, 2) := by decide +kernel
theorem dX7_init_43 : decode cX7_init 43 = .ok (.putfield 24, 3) := by decide +kernel
theorem dX7_init_46 : decode cX7_init 46 = .ok (.aload_n 0, 1) := by decide +kernel
theorem dX7_init_47 : decode cX7_init 47 = .ok (.sipush 4608, 3) := by decide +kernel
theorem dX7_init_50 : decode cX7_init 50 = .ok (.newarray .int, 2) := by decide +kernel
theorem dX7_init_52 : decode cX7_init 52 = .ok (.putfield 27, 3) := by decide +kernel
theorem dX7_init_55 : decode cX7_init 55 = .ok (.aload_n 0, 1) := by decide +kernel
theorem dX7_init_56 : decode cX7_init 56 = .ok (.bipush 24, 2) := by decide +kernel
theorem dX7_init_58 : decode cX7_init 58 = .ok (.newarray .int, 2) := by decide +kernel
